/-! The state of the desk and of the reference, and the world that holds it. -/
def upn {α : Type} (f : Nat → α) (r : Nat) (x : α) : Nat → α := fun j => if j = r then x else f j
theorem upn_at {α : Type} (f : Nat → α) (r : Nat) (x : α) : upn f r x r = x := if_pos rfl
theorem upn_ne {α : Type} {f : Nat → α} {r j : Nat} {x : α} (h : j ≠ r) : upn f r x j = f j := if_neg h
def Sg : Type := (Nat → Option Nat) × (Nat → Option Nat) × (Int) × (Int → Int) × (Int → Int) × (Int → Int) × (Int → Int) × (Int → Int) × (Nat) × (Int) × (Int) × (Int → Int) × (Nat) × (Int) × (Int) × (Int → Int) × (Nat) × (Int) × (Int) × (Int → Int) × (Nat → Nat) × (Nat → Int) × (Nat → Int) × (Nat → Int → Int) × (Nat → Int) × (Nat → Int) × (Nat → Int → Int) × (Nat → Int → Int) × (Int) × (Int → Int) × (Int) × (Int) × (Int) × (Int → Int) × (Int → Int) × (Int → Int) × (Int → Int) × (Int → Int) × (Int → Int) × (Int → Int) × (Int → Int) × (Int → Int) × (Int → Int) × (Int → Int) × (Int → Int)
def mkS (fq : Nat → Option Nat) (fs : Nat → Option Nat) (us : Int) (ch : Int → Int) (r1 : Int → Int) (r2 : Int → Int) (r3 : Int → Int) (r4 : Int → Int) (kt : Nat) (plt : Int) (nt : Int) (ft : Int → Int) (kv : Nat) (plv : Int) (nv : Int) (fv : Int → Int) (kw : Nat) (plw : Int) (nw : Int) (fw : Int → Int) (K : Nat → Nat) (P : Nat → Int) (N : Nat → Int) (F : Nat → Int → Int) (SN : Nat → Int) (SZ : Nat → Int) (SF : Nat → Int → Int) (CN : Nat → Int → Int) (ty : Int) (bc : Int → Int) (xm : Int) (ym : Int) (ne : Int) (kf : Int → Int) (mf : Int → Int) (sf : Int → Int) (G : Int → Int) (su : Int → Int) (sz : Int → Int) (cn : Int → Int) (xf : Int → Int) (yf : Int → Int) (pf : Int → Int) (rf : Int → Int) (tf : Int → Int) : Sg := (fq, fs, us, ch, r1, r2, r3, r4, kt, plt, nt, ft, kv, plv, nv, fv, kw, plw, nw, fw, K, P, N, F, SN, SZ, SF, CN, ty, bc, xm, ym, ne, kf, mf, sf, G, su, sz, cn, xf, yf, pf, rf, tf)
def Sg.fq (σ : Sg) : Nat → Option Nat := σ.1
def Sg.fs (σ : Sg) : Nat → Option Nat := σ.2.1
def Sg.us (σ : Sg) : Int := σ.2.2.1
def Sg.ch (σ : Sg) : Int → Int := σ.2.2.2.1
def Sg.r1 (σ : Sg) : Int → Int := σ.2.2.2.2.1
def Sg.r2 (σ : Sg) : Int → Int := σ.2.2.2.2.2.1
def Sg.r3 (σ : Sg) : Int → Int := σ.2.2.2.2.2.2.1
def Sg.r4 (σ : Sg) : Int → Int := σ.2.2.2.2.2.2.2.1
def Sg.kt (σ : Sg) : Nat := σ.2.2.2.2.2.2.2.2.1
def Sg.plt (σ : Sg) : Int := σ.2.2.2.2.2.2.2.2.2.1
def Sg.nt (σ : Sg) : Int := σ.2.2.2.2.2.2.2.2.2.2.1
def Sg.ft (σ : Sg) : Int → Int := σ.2.2.2.2.2.2.2.2.2.2.2.1
def Sg.kv (σ : Sg) : Nat := σ.2.2.2.2.2.2.2.2.2.2.2.2.1
def Sg.plv (σ : Sg) : Int := σ.2.2.2.2.2.2.2.2.2.2.2.2.2.1
def Sg.nv (σ : Sg) : Int := σ.2.2.2.2.2.2.2.2.2.2.2.2.2.2.1
def Sg.fv (σ : Sg) : Int → Int := σ.2.2.2.2.2.2.2.2.2.2.2.2.2.2.2.1
def Sg.kw (σ : Sg) : Nat := σ.2.2.2.2.2.2.2.2.2.2.2.2.2.2.2.2.1
def Sg.plw (σ : Sg) : Int := σ.2.2.2.2.2.2.2.2.2.2.2.2.2.2.2.2.2.1
def Sg.nw (σ : Sg) : Int := σ.2.2.2.2.2.2.2.2.2.2.2.2.2.2.2.2.2.2.1
def Sg.fw (σ : Sg) : Int → Int := σ.2.2.2.2.2.2.2.2.2.2.2.2.2.2.2.2.2.2.2.1
def Sg.K (σ : Sg) : Nat → Nat := σ.2.2.2.2.2.2.2.2.2.2.2.2.2.2.2.2.2.2.2.2.1
def Sg.P (σ : Sg) : Nat → Int := σ.2.2.2.2.2.2.2.2.2.2.2.2.2.2.2.2.2.2.2.2.2.1
def Sg.N (σ : Sg) : Nat → Int := σ.2.2.2.2.2.2.2.2.2.2.2.2.2.2.2.2.2.2.2.2.2.2.1
def Sg.F (σ : Sg) : Nat → Int → Int := σ.2.2.2.2.2.2.2.2.2.2.2.2.2.2.2.2.2.2.2.2.2.2.2.1
def Sg.SN (σ : Sg) : Nat → Int := σ.2.2.2.2.2.2.2.2.2.2.2.2.2.2.2.2.2.2.2.2.2.2.2.2.1
def Sg.SZ (σ : Sg) : Nat → Int := σ.2.2.2.2.2.2.2.2.2.2.2.2.2.2.2.2.2.2.2.2.2.2.2.2.2.1
def Sg.SF (σ : Sg) : Nat → Int → Int := σ.2.2.2.2.2.2.2.2.2.2.2.2.2.2.2.2.2.2.2.2.2.2.2.2.2.2.1
def Sg.CN (σ : Sg) : Nat → Int → Int := σ.2.2.2.2.2.2.2.2.2.2.2.2.2.2.2.2.2.2.2.2.2.2.2.2.2.2.2.1
def Sg.ty (σ : Sg) : Int := σ.2.2.2.2.2.2.2.2.2.2.2.2.2.2.2.2.2.2.2.2.2.2.2.2.2.2.2.2.1
def Sg.bc (σ : Sg) : Int → Int := σ.2.2.2.2.2.2.2.2.2.2.2.2.2.2.2.2.2.2.2.2.2.2.2.2.2.2.2.2.2.1
def Sg.xm (σ : Sg) : Int := σ.2.2.2.2.2.2.2.2.2.2.2.2.2.2.2.2.2.2.2.2.2.2.2.2.2.2.2.2.2.2.1
def Sg.ym (σ : Sg) : Int := σ.2.2.2.2.2.2.2.2.2.2.2.2.2.2.2.2.2.2.2.2.2.2.2.2.2.2.2.2.2.2.2.1
def Sg.ne (σ : Sg) : Int := σ.2.2.2.2.2.2.2.2.2.2.2.2.2.2.2.2.2.2.2.2.2.2.2.2.2.2.2.2.2.2.2.2.1
def Sg.kf (σ : Sg) : Int → Int := σ.2.2.2.2.2.2.2.2.2.2.2.2.2.2.2.2.2.2.2.2.2.2.2.2.2.2.2.2.2.2.2.2.2.1
def Sg.mf (σ : Sg) : Int → Int := σ.2.2.2.2.2.2.2.2.2.2.2.2.2.2.2.2.2.2.2.2.2.2.2.2.2.2.2.2.2.2.2.2.2.2.1
def Sg.sf (σ : Sg) : Int → Int := σ.2.2.2.2.2.2.2.2.2.2.2.2.2.2.2.2.2.2.2.2.2.2.2.2.2.2.2.2.2.2.2.2.2.2.2.1
def Sg.G (σ : Sg) : Int → Int := σ.2.2.2.2.2.2.2.2.2.2.2.2.2.2.2.2.2.2.2.2.2.2.2.2.2.2.2.2.2.2.2.2.2.2.2.2.1
def Sg.su (σ : Sg) : Int → Int := σ.2.2.2.2.2.2.2.2.2.2.2.2.2.2.2.2.2.2.2.2.2.2.2.2.2.2.2.2.2.2.2.2.2.2.2.2.2.1
def Sg.sz (σ : Sg) : Int → Int := σ.2.2.2.2.2.2.2.2.2.2.2.2.2.2.2.2.2.2.2.2.2.2.2.2.2.2.2.2.2.2.2.2.2.2.2.2.2.2.1
def Sg.cn (σ : Sg) : Int → Int := σ.2.2.2.2.2.2.2.2.2.2.2.2.2.2.2.2.2.2.2.2.2.2.2.2.2.2.2.2.2.2.2.2.2.2.2.2.2.2.2.1
def Sg.xf (σ : Sg) : Int → Int := σ.2.2.2.2.2.2.2.2.2.2.2.2.2.2.2.2.2.2.2.2.2.2.2.2.2.2.2.2.2.2.2.2.2.2.2.2.2.2.2.2.1
def Sg.yf (σ : Sg) : Int → Int := σ.2.2.2.2.2.2.2.2.2.2.2.2.2.2.2.2.2.2.2.2.2.2.2.2.2.2.2.2.2.2.2.2.2.2.2.2.2.2.2.2.2.1
def Sg.pf (σ : Sg) : Int → Int := σ.2.2.2.2.2.2.2.2.2.2.2.2.2.2.2.2.2.2.2.2.2.2.2.2.2.2.2.2.2.2.2.2.2.2.2.2.2.2.2.2.2.2.1
def Sg.rf (σ : Sg) : Int → Int := σ.2.2.2.2.2.2.2.2.2.2.2.2.2.2.2.2.2.2.2.2.2.2.2.2.2.2.2.2.2.2.2.2.2.2.2.2.2.2.2.2.2.2.2.1
def Sg.tf (σ : Sg) : Int → Int := σ.2.2.2.2.2.2.2.2.2.2.2.2.2.2.2.2.2.2.2.2.2.2.2.2.2.2.2.2.2.2.2.2.2.2.2.2.2.2.2.2.2.2.2.2
def PNum (E : zE) (w : zW) (q k : Nat) (p n : Int) (f : Int → Int) : Prop := w q = .inr (1, [.ref (zg E (1 + k)), .int (iI p), .ref (ad E (q + 1))]) ∧ w (q + 1) = .inr (0, [.ref (ad E (q + 2)), .int (iI n)]) ∧ w (q + 2) = zar E 15 f
theorem PNum.keep {E : zE} {w w1 : zW} {q k : Nat} {p n : Int} {f : Int → Int} (h : PNum E w q k p n f) (hf : ∀ j, q ≤ j → j ≤ q + 2 → w1 j = w j) : PNum E w1 q k p n f :=
  ⟨(hf q (Nat.le_refl q) (by omega)).trans h.1, (hf (q + 1) (by omega) (by omega)).trans h.2.1, (hf (q + 2) (by omega) (by omega)).trans h.2.2⟩
def PSum (E : zE) (w : zW) (y : Nat) (sn sz : Int) (sf cn : Int → Int) : Prop := w y = .inr (2, [.ref (ad E (y + 1)), .ref (ad E (y + 3)), .int (iI sz)]) ∧ w (y + 1) = .inr (0, [.ref (ad E (y + 2)), .int (iI sn)]) ∧ w (y + 2) = zar E 15 sf ∧ w (y + 3) = zar E 28 cn
theorem PSum.keep {E : zE} {w w1 : zW} {y : Nat} {sn sz : Int} {sf cn : Int → Int} (h : PSum E w y sn sz sf cn) (hf : ∀ j, y ≤ j → j ≤ y + 3 → w1 j = w j) : PSum E w1 y sn sz sf cn :=
  ⟨(hf y (Nat.le_refl y) (by omega)).trans h.1, (hf (y + 1) (by omega) (by omega)).trans h.2.1, (hf (y + 2) (by omega) (by omega)).trans h.2.2.1, (hf (y + 3) (by omega) (by omega)).trans h.2.2.2⟩
def PFix (E : zE) (w : zW) (fq fs : Nat → Option Nat) : Prop := w 0 = .inr (5, [.ref (ad E 1), .ref (ad E 2), .ref (ad E 3), .ref (ad E 5), .ref (ad E 10), .ref (ad E 13), .ref (ad E 16)]) ∧ w 1 = zaq E 3 8 fq ∧ w 2 = zaq E 4 4 fs
theorem PFix.keep {E : zE} {w w1 : zW} {fq fs : Nat → Option Nat} (h : PFix E w fq fs) (hf : ∀ j, j ≤ 2 → w1 j = w j) : PFix E w1 fq fs :=
  ⟨(hf 0 (by decide)).trans h.1, (hf 1 (by decide)).trans h.2.1, (hf 2 (by decide)).trans h.2.2⟩
def PBuf (E : zE) (w : zW) (us : Int) (ch : Int → Int) : Prop := w 3 = .inr (3, [.ref (ad E (3 + 1)), .int (iI us)]) ∧ w (3 + 1) = zac E 80 ch
theorem PBuf.keep {E : zE} {w w1 : zW} {us : Int} {ch : Int → Int} (h : PBuf E w us ch) (hf : ∀ j, 3 ≤ j → j ≤ 4 → w1 j = w j) : PBuf E w1 us ch :=
  ⟨(hf 3 (by decide) (by decide)).trans h.1, (hf (3 + 1) (by decide) (by decide)).trans h.2⟩
def PBen (E : zE) (w : zW) (r1 r2 r3 r4 : Int → Int) : Prop := w 5 = .inr (4, [.ref (ad E (5 + 1)), .ref (ad E (5 + 2)), .ref (ad E (5 + 3)), .ref (ad E (5 + 4))]) ∧ w (5 + 1) = zar E 30 r1 ∧ w (5 + 2) = zar E 30 r2 ∧ w (5 + 3) = zar E 30 r3 ∧ w (5 + 4) = zar E 30 r4
theorem PBen.keep {E : zE} {w w1 : zW} {r1 r2 r3 r4 : Int → Int} (h : PBen E w r1 r2 r3 r4) (hf : ∀ j, 5 ≤ j → j ≤ 9 → w1 j = w j) : PBen E w1 r1 r2 r3 r4 :=
  ⟨(hf 5 (by decide) (by decide)).trans h.1, (hf (5 + 1) (by decide) (by decide)).trans h.2.1, (hf (5 + 2) (by decide) (by decide)).trans h.2.2.1, (hf (5 + 3) (by decide) (by decide)).trans h.2.2.2.1, (hf (5 + 4) (by decide) (by decide)).trans h.2.2.2.2⟩
def PMod (E : zE) (w : zW) (g : Nat) (ty xm ym ne : Int) (kf mf sf G ch su sz cn xf yf pf rf tf : Int → Int) : Prop :=
  w g = .inr (6, [.ref (ad E (g + 1)), .ref (ad E (g + 2)), .ref (ad E (g + 3)), .ref (ad E (g + 4)), .int (iI ty), .ref (ad E (g + 5)), .ref (ad E (g + 6)), .ref (ad E (g + 7)), .ref (ad E (g + 8)), .ref (ad E (g + 9)), .ref (ad E (g + 10)), .int (iI xm), .int (iI ym), .ref (ad E (g + 11)), .int (iI ne), .ref (ad E (g + 12)), .ref (ad E (g + 13))]) ∧
  w (g + 1) = zar E 8 kf ∧ w (g + 2) = zaz E 8 mf ∧ w (g + 3) = zar E 8 sf ∧ w (g + 4) = zar E 448 G ∧ w (g + 5) = zar E 80 ch ∧ w (g + 6) = zar E 224 su ∧ w (g + 7) = zar E 4 sz ∧ w (g + 8) = zar E 112 cn ∧ w (g + 9) = zar E 56 xf ∧ w (g + 10) = zar E 56 yf ∧ w (g + 11) = zar E 140 pf ∧ w (g + 12) = zar E 58 rf ∧ w (g + 13) = zar E 46 tf
theorem PMod.keep {E : zE} {w w1 : zW} {g : Nat} {ty xm ym ne : Int} {kf mf sf G ch su sz cn xf yf pf rf tf : Int → Int} (h : PMod E w g ty xm ym ne kf mf sf G ch su sz cn xf yf pf rf tf) (hf : ∀ j, g ≤ j → j ≤ g + 13 → w1 j = w j) : PMod E w1 g ty xm ym ne kf mf sf G ch su sz cn xf yf pf rf tf := by
  obtain ⟨h0, h1, h2, h3, h4, h5, h6, h7, h8, h9, h10, h11, h12, h13⟩ := h
  exact ⟨(hf g (by omega) (by omega)).trans h0, (hf (g + 1) (by omega) (by omega)).trans h1, (hf (g + 2) (by omega) (by omega)).trans h2, (hf (g + 3) (by omega) (by omega)).trans h3, (hf (g + 4) (by omega) (by omega)).trans h4, (hf (g + 5) (by omega) (by omega)).trans h5, (hf (g + 6) (by omega) (by omega)).trans h6, (hf (g + 7) (by omega) (by omega)).trans h7, (hf (g + 8) (by omega) (by omega)).trans h8, (hf (g + 9) (by omega) (by omega)).trans h9, (hf (g + 10) (by omega) (by omega)).trans h10, (hf (g + 11) (by omega) (by omega)).trans h11, (hf (g + 12) (by omega) (by omega)).trans h12, (hf (g + 13) (by omega) (by omega)).trans h13⟩
def Wf (E : zE) (w : zW) (σ : Sg) : Prop := (73 ≤ zn E) ∧ (PFix E w σ.fq σ.fs) ∧ (PBuf E w σ.us σ.ch) ∧ (PBen E w σ.r1 σ.r2 σ.r3 σ.r4) ∧ (PNum E w 10 σ.kt σ.plt σ.nt σ.ft) ∧ (PNum E w 13 σ.kv σ.plv σ.nv σ.fv) ∧ (PNum E w 16 σ.kw σ.plw σ.nw σ.fw) ∧ (∀ r, r < 8 → PNum E w (19 + 3 * r) (σ.K r) (σ.P r) (σ.N r) (σ.F r)) ∧ (∀ k, k < 4 → PSum E w (43 + 4 * k) (σ.SN k) (σ.SZ k) (σ.SF k) (σ.CN k)) ∧ (PMod E w 59 σ.ty σ.xm σ.ym σ.ne σ.kf σ.mf σ.sf σ.G σ.bc σ.su σ.sz σ.cn σ.xf σ.yf σ.pf σ.rf σ.tf)
theorem Wf.zn73 {E : zE} {w : zW} {σ : Sg} (h : Wf E w σ) : 73 ≤ zn E := h.1
theorem Wf.fix {E : zE} {w : zW} {σ : Sg} (h : Wf E w σ) : PFix E w σ.fq σ.fs := h.2.1
theorem Wf.buf {E : zE} {w : zW} {σ : Sg} (h : Wf E w σ) : PBuf E w σ.us σ.ch := h.2.2.1
theorem Wf.ben {E : zE} {w : zW} {σ : Sg} (h : Wf E w σ) : PBen E w σ.r1 σ.r2 σ.r3 σ.r4 := h.2.2.2.1
theorem Wf.ot {E : zE} {w : zW} {σ : Sg} (h : Wf E w σ) : PNum E w 10 σ.kt σ.plt σ.nt σ.ft := h.2.2.2.2.1
theorem Wf.ov {E : zE} {w : zW} {σ : Sg} (h : Wf E w σ) : PNum E w 13 σ.kv σ.plv σ.nv σ.fv := h.2.2.2.2.2.1
theorem Wf.ow {E : zE} {w : zW} {σ : Sg} (h : Wf E w σ) : PNum E w 16 σ.kw σ.plw σ.nw σ.fw := h.2.2.2.2.2.2.1
theorem Wf.rg {E : zE} {w : zW} {σ : Sg} (h : Wf E w σ) : ∀ r, r < 8 → PNum E w (19 + 3 * r) (σ.K r) (σ.P r) (σ.N r) (σ.F r) := h.2.2.2.2.2.2.2.1
theorem Wf.sm {E : zE} {w : zW} {σ : Sg} (h : Wf E w σ) : ∀ k, k < 4 → PSum E w (43 + 4 * k) (σ.SN k) (σ.SZ k) (σ.SF k) (σ.CN k) := h.2.2.2.2.2.2.2.2.1
theorem Wf.md {E : zE} {w : zW} {σ : Sg} (h : Wf E w σ) : PMod E w 59 σ.ty σ.xm σ.ym σ.ne σ.kf σ.mf σ.sf σ.G σ.bc σ.su σ.sz σ.cn σ.xf σ.yf σ.pf σ.rf σ.tf := h.2.2.2.2.2.2.2.2.2
theorem Wf.mk {E : zE} {w : zW} {σ : Sg} (a0 : 73 ≤ zn E) (a1 : PFix E w σ.fq σ.fs) (a2 : PBuf E w σ.us σ.ch) (a3 : PBen E w σ.r1 σ.r2 σ.r3 σ.r4) (a4 : PNum E w 10 σ.kt σ.plt σ.nt σ.ft) (a5 : PNum E w 13 σ.kv σ.plv σ.nv σ.fv) (a6 : PNum E w 16 σ.kw σ.plw σ.nw σ.fw) (a7 : ∀ r, r < 8 → PNum E w (19 + 3 * r) (σ.K r) (σ.P r) (σ.N r) (σ.F r)) (a8 : ∀ k, k < 4 → PSum E w (43 + 4 * k) (σ.SN k) (σ.SZ k) (σ.SF k) (σ.CN k)) (a9 : PMod E w 59 σ.ty σ.xm σ.ym σ.ne σ.kf σ.mf σ.sf σ.G σ.bc σ.su σ.sz σ.cn σ.xf σ.yf σ.pf σ.rf σ.tf) : Wf E w σ := ⟨a0, a1, a2, a3, a4, a5, a6, a7, a8, a9⟩
theorem rg_set {E : zE} {w w1 : zW} {K : Nat → Nat} {P N : Nat → Int} {F : Nat → Int → Int} {rd k : Nat} {p n : Int} {f : Int → Int} (h : ∀ r, r < 8 → PNum E w (19 + 3 * r) (K r) (P r) (N r) (F r)) (hn : PNum E w1 (19 + 3 * rd) k p n f) (hf : ∀ j, 19 ≤ j → j ≤ 42 → ¬ (19 + 3 * rd ≤ j ∧ j ≤ 19 + 3 * rd + 2) → w1 j = w j) :
    ∀ r, r < 8 → PNum E w1 (19 + 3 * r) (upn K rd k r) (upn P rd p r) (upn N rd n r) (upn F rd f r) := by
  intro r hr
  by_cases e : r = rd
  · subst e; rw [upn_at, upn_at, upn_at, upn_at]; exact hn
  · rw [upn_ne e, upn_ne e, upn_ne e, upn_ne e]; exact (h r hr).keep (fun j h1 h2 => hf j (by omega) (by omega) (by omega))
theorem sm_set {E : zE} {w w1 : zW} {SN SZ : Nat → Int} {SF CN : Nat → Int → Int} {ks : Nat} {n s : Int} {f c : Int → Int} (h : ∀ k, k < 4 → PSum E w (43 + 4 * k) (SN k) (SZ k) (SF k) (CN k)) (hn : PSum E w1 (43 + 4 * ks) n s f c) (hf : ∀ j, 43 ≤ j → j ≤ 58 → ¬ (43 + 4 * ks ≤ j ∧ j ≤ 43 + 4 * ks + 3) → w1 j = w j) :
    ∀ k, k < 4 → PSum E w1 (43 + 4 * k) (upn SN ks n k) (upn SZ ks s k) (upn SF ks f k) (upn CN ks c k) := by
  intro k hk
  by_cases e : k = ks
  · subst e; rw [upn_at, upn_at, upn_at, upn_at]; exact hn
  · rw [upn_ne e, upn_ne e, upn_ne e, upn_ne e]; exact (h k hk).keep (fun j h1 h2 => hf j (by omega) (by omega) (by omega))
theorem rg_keep {E : zE} {w w1 : zW} {K : Nat → Nat} {P N : Nat → Int} {F : Nat → Int → Int} (h : ∀ r, r < 8 → PNum E w (19 + 3 * r) (K r) (P r) (N r) (F r)) (hf : ∀ j, 19 ≤ j → j ≤ 42 → w1 j = w j) : ∀ r, r < 8 → PNum E w1 (19 + 3 * r) (K r) (P r) (N r) (F r) :=
  fun r hr => (h r hr).keep (fun j h1 h2 => hf j (by omega) (by omega))
theorem sm_keep {E : zE} {w w1 : zW} {SN SZ : Nat → Int} {SF CN : Nat → Int → Int} (h : ∀ k, k < 4 → PSum E w (43 + 4 * k) (SN k) (SZ k) (SF k) (CN k)) (hf : ∀ j, 43 ≤ j → j ≤ 58 → w1 j = w j) : ∀ k, k < 4 → PSum E w1 (43 + 4 * k) (SN k) (SZ k) (SF k) (CN k) :=
  fun k hk => (h k hk).keep (fun j h1 h2 => hf j (by omega) (by omega))
/-- a register of the class, and its fellow in the reference -/
def RegOk (K : Nat) (P N : Int) (F : Int → Int) (k p n v : Int) : Prop := bd F 15 0 9999 ∧ K < 4 ∧ (N = 0 ∨ N = 1) ∧ (0 ≤ P ∧ P ≤ 24) ∧ V F 15 < Bp 14 ∧ (V F 15 = 0 → N = 0) ∧ (K ≠ 1 → P = 0 ∧ N = 0 ∧ V F 15 = 0) ∧ RegR K P N (V F 15) k p n v
def SumOk (sn sz : Int) (sf cn : Int → Int) (mz : Int) (mc : Int → Int) (mv : Int) : Prop := bd sf 15 0 9999 ∧ (sn = 0 ∨ sn = 1) ∧ bd cn 28 0 sz ∧ (0 ≤ sz ∧ sz ≤ 1000) ∧ V sf 15 ≤ sz * Tp 56 ∧ (V sf 15 = 0 → sn = 0) ∧ Sm cn 28 ≤ sz ∧ mz = sz ∧ (∀ j : Int, 0 ≤ j → j < 28 → mc j = cn j) ∧ mv = sv sn (V sf 15)
def Iv (E : zE) (σ : Sg) : Prop := (∀ k : Nat, k < 8 → σ.fq k = some (ad E (19 + 3 * k))) ∧ (∀ k : Nat, k < 4 → σ.fs k = some (ad E (43 + 4 * k))) ∧ (bd σ.ch 80 0 126) ∧ (0 ≤ σ.us ∧ σ.us ≤ 80) ∧ (bd σ.r1 30 0 9999) ∧ (bd σ.r2 30 0 9999) ∧ (bd σ.r3 30 0 9999) ∧ (bd σ.r4 30 0 9999) ∧ (bd σ.ft 15 0 9999 ∧ σ.kt < 4 ∧ (σ.nt = 0 ∨ σ.nt = 1)) ∧ (bd σ.fv 15 0 9999 ∧ σ.kv < 4 ∧ (σ.nv = 0 ∨ σ.nv = 1)) ∧ (bd σ.fw 15 0 9999 ∧ σ.kw < 4 ∧ (σ.nw = 0 ∨ σ.nw = 1)) ∧ (∀ r : Nat, r < 8 → RegOk (σ.K r) (σ.P r) (σ.N r) (σ.F r) (σ.kf r) (σ.sf r) (σ.mf r) (Gt σ.G r)) ∧ (∀ k : Nat, k < 4 → SumOk (σ.SN k) (σ.SZ k) (σ.SF k) (σ.CN k) (σ.sz k) (fun j => σ.cn (28 * k + j)) (Gt σ.su k)) ∧ (bd σ.kf 8 0 3) ∧ (bd σ.mf 8 0 1) ∧ (bd σ.sf 8 0 24) ∧ (bd σ.G 448 0 9) ∧ (SuB σ.su σ.sz) ∧ (bd σ.sz 4 0 1000) ∧ (bd σ.cn 112 0 1000) ∧ (bd σ.xf 56 0 9) ∧ (bd σ.yf 56 0 9) ∧ (bd σ.pf 140 0 9) ∧ (bd σ.rf 58 0 9) ∧ (bd σ.tf 46 0 9) ∧ (σ.ty = σ.us) ∧ (σ.bc = σ.ch) ∧ (σ.xm = 0 ∨ σ.xm = 1) ∧ (σ.ym = 0 ∨ σ.ym = 1) ∧ (σ.ne = 0 ∨ σ.ne = 1)
theorem Iv.hq {E : zE} {σ : Sg} (h : Iv E σ) : ∀ k : Nat, k < 8 → σ.fq k = some (ad E (19 + 3 * k)) := h.1
theorem Iv.hs {E : zE} {σ : Sg} (h : Iv E σ) : ∀ k : Nat, k < 4 → σ.fs k = some (ad E (43 + 4 * k)) := h.2.1
theorem Iv.bch {E : zE} {σ : Sg} (h : Iv E σ) : bd σ.ch 80 0 126 := h.2.2.1
theorem Iv.hus {E : zE} {σ : Sg} (h : Iv E σ) : 0 ≤ σ.us ∧ σ.us ≤ 80 := h.2.2.2.1
theorem Iv.b1 {E : zE} {σ : Sg} (h : Iv E σ) : bd σ.r1 30 0 9999 := h.2.2.2.2.1
theorem Iv.b2 {E : zE} {σ : Sg} (h : Iv E σ) : bd σ.r2 30 0 9999 := h.2.2.2.2.2.1
theorem Iv.b3 {E : zE} {σ : Sg} (h : Iv E σ) : bd σ.r3 30 0 9999 := h.2.2.2.2.2.2.1
theorem Iv.b4 {E : zE} {σ : Sg} (h : Iv E σ) : bd σ.r4 30 0 9999 := h.2.2.2.2.2.2.2.1
theorem Iv.ot {E : zE} {σ : Sg} (h : Iv E σ) : bd σ.ft 15 0 9999 ∧ σ.kt < 4 ∧ (σ.nt = 0 ∨ σ.nt = 1) := h.2.2.2.2.2.2.2.2.1
theorem Iv.ov {E : zE} {σ : Sg} (h : Iv E σ) : bd σ.fv 15 0 9999 ∧ σ.kv < 4 ∧ (σ.nv = 0 ∨ σ.nv = 1) := h.2.2.2.2.2.2.2.2.2.1
theorem Iv.ow {E : zE} {σ : Sg} (h : Iv E σ) : bd σ.fw 15 0 9999 ∧ σ.kw < 4 ∧ (σ.nw = 0 ∨ σ.nw = 1) := h.2.2.2.2.2.2.2.2.2.2.1
theorem Iv.rg {E : zE} {σ : Sg} (h : Iv E σ) : ∀ r : Nat, r < 8 → RegOk (σ.K r) (σ.P r) (σ.N r) (σ.F r) (σ.kf r) (σ.sf r) (σ.mf r) (Gt σ.G r) := h.2.2.2.2.2.2.2.2.2.2.2.1
theorem Iv.sm {E : zE} {σ : Sg} (h : Iv E σ) : ∀ k : Nat, k < 4 → SumOk (σ.SN k) (σ.SZ k) (σ.SF k) (σ.CN k) (σ.sz k) (fun j => σ.cn (28 * k + j)) (Gt σ.su k) := h.2.2.2.2.2.2.2.2.2.2.2.2.1
theorem Iv.bk {E : zE} {σ : Sg} (h : Iv E σ) : bd σ.kf 8 0 3 := h.2.2.2.2.2.2.2.2.2.2.2.2.2.1
theorem Iv.bm {E : zE} {σ : Sg} (h : Iv E σ) : bd σ.mf 8 0 1 := h.2.2.2.2.2.2.2.2.2.2.2.2.2.2.1
theorem Iv.bs {E : zE} {σ : Sg} (h : Iv E σ) : bd σ.sf 8 0 24 := h.2.2.2.2.2.2.2.2.2.2.2.2.2.2.2.1
theorem Iv.bG {E : zE} {σ : Sg} (h : Iv E σ) : bd σ.G 448 0 9 := h.2.2.2.2.2.2.2.2.2.2.2.2.2.2.2.2.1
theorem Iv.hB {E : zE} {σ : Sg} (h : Iv E σ) : SuB σ.su σ.sz := h.2.2.2.2.2.2.2.2.2.2.2.2.2.2.2.2.2.1
theorem Iv.bsz {E : zE} {σ : Sg} (h : Iv E σ) : bd σ.sz 4 0 1000 := h.2.2.2.2.2.2.2.2.2.2.2.2.2.2.2.2.2.2.1
theorem Iv.bcn {E : zE} {σ : Sg} (h : Iv E σ) : bd σ.cn 112 0 1000 := h.2.2.2.2.2.2.2.2.2.2.2.2.2.2.2.2.2.2.2.1
theorem Iv.bx {E : zE} {σ : Sg} (h : Iv E σ) : bd σ.xf 56 0 9 := h.2.2.2.2.2.2.2.2.2.2.2.2.2.2.2.2.2.2.2.2.1
theorem Iv.by1 {E : zE} {σ : Sg} (h : Iv E σ) : bd σ.yf 56 0 9 := h.2.2.2.2.2.2.2.2.2.2.2.2.2.2.2.2.2.2.2.2.2.1
theorem Iv.bf {E : zE} {σ : Sg} (h : Iv E σ) : bd σ.pf 140 0 9 := h.2.2.2.2.2.2.2.2.2.2.2.2.2.2.2.2.2.2.2.2.2.2.1
theorem Iv.br {E : zE} {σ : Sg} (h : Iv E σ) : bd σ.rf 58 0 9 := h.2.2.2.2.2.2.2.2.2.2.2.2.2.2.2.2.2.2.2.2.2.2.2.1
theorem Iv.bt {E : zE} {σ : Sg} (h : Iv E σ) : bd σ.tf 46 0 9 := h.2.2.2.2.2.2.2.2.2.2.2.2.2.2.2.2.2.2.2.2.2.2.2.2.1
theorem Iv.hty {E : zE} {σ : Sg} (h : Iv E σ) : σ.ty = σ.us := h.2.2.2.2.2.2.2.2.2.2.2.2.2.2.2.2.2.2.2.2.2.2.2.2.2.1
theorem Iv.hbc {E : zE} {σ : Sg} (h : Iv E σ) : σ.bc = σ.ch := h.2.2.2.2.2.2.2.2.2.2.2.2.2.2.2.2.2.2.2.2.2.2.2.2.2.2.1
theorem Iv.hxm {E : zE} {σ : Sg} (h : Iv E σ) : σ.xm = 0 ∨ σ.xm = 1 := h.2.2.2.2.2.2.2.2.2.2.2.2.2.2.2.2.2.2.2.2.2.2.2.2.2.2.2.1
theorem Iv.hym {E : zE} {σ : Sg} (h : Iv E σ) : σ.ym = 0 ∨ σ.ym = 1 := h.2.2.2.2.2.2.2.2.2.2.2.2.2.2.2.2.2.2.2.2.2.2.2.2.2.2.2.2.1
theorem Iv.hne {E : zE} {σ : Sg} (h : Iv E σ) : σ.ne = 0 ∨ σ.ne = 1 := h.2.2.2.2.2.2.2.2.2.2.2.2.2.2.2.2.2.2.2.2.2.2.2.2.2.2.2.2.2
theorem Iv.mk {E : zE} {σ : Sg} (a0 : ∀ k : Nat, k < 8 → σ.fq k = some (ad E (19 + 3 * k))) (a1 : ∀ k : Nat, k < 4 → σ.fs k = some (ad E (43 + 4 * k))) (a2 : bd σ.ch 80 0 126) (a3 : 0 ≤ σ.us ∧ σ.us ≤ 80) (a4 : bd σ.r1 30 0 9999) (a5 : bd σ.r2 30 0 9999) (a6 : bd σ.r3 30 0 9999) (a7 : bd σ.r4 30 0 9999) (a8 : bd σ.ft 15 0 9999 ∧ σ.kt < 4 ∧ (σ.nt = 0 ∨ σ.nt = 1)) (a9 : bd σ.fv 15 0 9999 ∧ σ.kv < 4 ∧ (σ.nv = 0 ∨ σ.nv = 1)) (a10 : bd σ.fw 15 0 9999 ∧ σ.kw < 4 ∧ (σ.nw = 0 ∨ σ.nw = 1)) (a11 : ∀ r : Nat, r < 8 → RegOk (σ.K r) (σ.P r) (σ.N r) (σ.F r) (σ.kf r) (σ.sf r) (σ.mf r) (Gt σ.G r)) (a12 : ∀ k : Nat, k < 4 → SumOk (σ.SN k) (σ.SZ k) (σ.SF k) (σ.CN k) (σ.sz k) (fun j => σ.cn (28 * k + j)) (Gt σ.su k)) (a13 : bd σ.kf 8 0 3) (a14 : bd σ.mf 8 0 1) (a15 : bd σ.sf 8 0 24) (a16 : bd σ.G 448 0 9) (a17 : SuB σ.su σ.sz) (a18 : bd σ.sz 4 0 1000) (a19 : bd σ.cn 112 0 1000) (a20 : bd σ.xf 56 0 9) (a21 : bd σ.yf 56 0 9) (a22 : bd σ.pf 140 0 9) (a23 : bd σ.rf 58 0 9) (a24 : bd σ.tf 46 0 9) (a25 : σ.ty = σ.us) (a26 : σ.bc = σ.ch) (a27 : σ.xm = 0 ∨ σ.xm = 1) (a28 : σ.ym = 0 ∨ σ.ym = 1) (a29 : σ.ne = 0 ∨ σ.ne = 1) : Iv E σ := ⟨a0, a1, a2, a3, a4, a5, a6, a7, a8, a9, a10, a11, a12, a13, a14, a15, a16, a17, a18, a19, a20, a21, a22, a23, a24, a25, a26, a27, a28, a29⟩
/-- a result is kept in register rd, on both sides -/
theorem rg_step {K : Nat → Nat} {P N : Nat → Int} {F : Nat → Int → Int} {kf sf mf G k' s' m' G' : Int → Int} {rd k1 k2 : Nat} {z p1 n1 v1 p2 n2 : Int} {f2 : Int → Int} (h : ∀ r : Nat, r < 8 → RegOk (K r) (P r) (N r) (F r) (kf r) (sf r) (mf r) (Gt G r)) (hd : rd < 8) (bk : bd k' 8 0 3) (bf2 : bd f2 15 0 9999)
    (hk1 : k1 < 4) (hn1 : n1 = 0 ∨ n1 = 1) (hv1 : 0 ≤ v1) (hN : Nf z k1 p1 n1 v1) (hS : StoR z k1 p1 n1 v1 (K rd) (P rd) (N rd) (V (F rd) 15) k2 p2 n2 (V f2 15)) (hC : Cor z rd k1 p1 n1 v1 kf sf mf G k' s' m' G') (hO : z = 0 → Okv k1 p1 n1 v1) :
    ∀ r : Nat, r < 8 → RegOk (upn K rd k2 r) (upn P rd p2 r) (upn N rd n2 r) (upn F rd f2 r) (k' r) (s' r) (m' r) (Gt G' r) := by
  intro r hr
  by_cases e : r = rd
  · subst e
    rw [upn_at, upn_at, upn_at, upn_at]
    obtain ⟨a1, a2, a3, a4, a5, a6, a7, a8⟩ := h r hr
    rcases hS with ⟨z0, e1, e2, e3, e4⟩ | ⟨z0, e1, e2, e3, e4⟩
    · obtain ⟨c1, c2⟩ := hC.2 z0
      have bkr := bk (r : Int) (by omega) (by omega)
      have e14 : Bp 14 = Tp 56 := Bp_Tp (i := 14) (by decide)
      have t56 := Tp_pos 56
      subst e1 e2 e3 e4
      have okv : 0 ≤ p2 ∧ p2 ≤ 24 ∧ V f2 15 < Tp 56 ∧ (V f2 15 = 0 → n2 = 0) ∧ (k2 = 1 → V f2 15 % Tp (24 - p2) = 0) := by
        by_cases k : k2 = 1
        · obtain ⟨o1, o2, o3, o4, o5⟩ := hO z0 k
          exact ⟨o1, o2, o3, o4, fun _ => o5⟩
        · obtain ⟨o1, o2, o3⟩ := hN z0 k
          exact ⟨by omega, by omega, by omega, fun _ => o2, fun hh => absurd hh k⟩
      obtain ⟨o1, o2, o3, o4, o5⟩ := okv
      refine ⟨bf2, hk1, hn1, ⟨o1, o2⟩, by rw [e14]; exact o3, o4, hN z0, bkr.1, bkr.2, c1.symm, fun k0 => ?_, hv1, o3, o1, o2, hn1, o4, fun k0 => ?_⟩
      · have : k2 = 1 := by rw [← c1, k0]; rfl
        exact c2 this
      · have : k2 = 1 := by rw [← c1, k0]; rfl
        exact o5 this
    · obtain ⟨c1, c2, c3, c4⟩ := hC.1 (r : Int) (by omega) (by omega) (Or.inr z0)
      rw [e1, e2, e3, c1, c2, c3, c4]
      unfold RegOk
      rw [e4]
      exact ⟨bf2, a2, a3, a4, a5, a6, a7, a8⟩
  · rw [upn_ne e, upn_ne e, upn_ne e, upn_ne e]
    obtain ⟨c1, c2, c3, c4⟩ := hC.1 (r : Int) (by omega) (by omega) (Or.inl (by omega))
    rw [c1, c2, c3, c4]
    exact h r hr
