/-! Rows of references; what a desk's methods leave. -/
abbrev zaq (E : zE) (k N : Nat) (f : Nat → Option Nat) : va_E := .inl (ca E k, N, .inr (.inr (.inr (.inr f))))
section ZQ
variable {p : Program} {l : Launch} {e : Env} {R : Room} {s : State} {m : MethodId} {args : Array Value} {below : List Frame} {meth : Method} {c : Code} {H : Heap} {locs : List Loc} {cells slots : Nat} {Q : State → Prop}
variable {cc : ByteArray} {pc : Nat} {ls : Array Slot} {rest : List Value} {E : zE} {w : zW} {A : Nat → Prop} {H0 : Heap}
theorem zv_aald (hexec : p.tables.exec = Jvm.exec) (hb : c.code = cc) (hK : zK E s) (hH : zH E w A H0 H locs) {q : Nat} (hq : q < zn E) {N k : Nat} {C : String} {f : Nat → Option Nat} (he : w q = zaq E k N f) (ht : (ztys E)[k]? = some (ca E k, .object C)) {i b : Nat} (h1 : i < N) (hN : N < 2147483648) (hf : f i = some b) (hdg : decode cc pc = .ok (.aaload, 1)) (kk : W p l e R s m args below meth c H locs cells slots Q (F0 m (pc + 1) ls (.ref b :: rest))) : W p l e R s m args below meth c H locs cells slots Q (F0 m pc ls (.int (iI (i : Int)) :: .ref (ad E q) :: rest)) :=
  va_aldq hexec hb hK hH.1 q k (by rw [wl_get hq, he]) ht (iI_in (i := (i : Int)) (by omega) (by omega) hN) hdg (by
    have e9 := iI_cl (i := (i : Int)) (by omega) (by omega)
    rw [show (iI (i : Int)).toNatClampNeg = i by omega, hf]; exact kk)
end ZQ
/-- what store leaves of a register -/
def StoR (z : Int) (k1 : Nat) (p1 n1 v1 : Int) (kd : Nat) (pl ng v : Int) (k' : Nat) (p' n' v' : Int) : Prop :=
  (z = 0 ∧ k' = k1 ∧ p' = p1 ∧ n' = n1 ∧ v' = v1) ∨ (z ≠ 0 ∧ k' = kd ∧ p' = pl ∧ n' = ng ∧ v' = v)
/-- the length of a numeral's text -/
def TlR (k : Nat) (p n v L : Int) : Prop := (k ≠ 1 ∧ L = lenZ k) ∨ (k = 1 ∧ ∃ n' : Int, Wh v n' ∧ 1 ≤ n' ∧ n' ≤ 36 ∧ L = n + n' + ptl p)
def TkR (k : Nat) (n v i z : Int) : Prop := (k ≠ 1 ∧ z = chZ k i) ∨ (k = 1 ∧ ∃ n' : Int, Wh v n' ∧ TcR n v n' i z)
theorem TlR_in {k : Nat} {p n v L : Int} (h : TlR k p n v L) (hk : k < 4) (hp : 0 ≤ p ∧ p ≤ 24) (hn : n = 0 ∨ n = 1) : 0 ≤ L ∧ L ≤ 100 := by
  rcases h with ⟨h1, h2⟩ | ⟨h1, n', h2, h3, h4, h5⟩
  · have := lenZ_in (i := k) (by omega)
    omega
  · have := ptl_in hp
    omega
theorem TlR_i0 {k : Nat} {p n v L i : Int} (h : TlR k p n v L) (hi : i < L) (h1 : k ≠ 1) : i < lenZ k := by
  rcases h with ⟨_, h2⟩ | ⟨h2, _⟩
  · omega
  · exact absurd h2 h1
theorem TlR_i1 {k : Nat} {p n v L i : Int} (h : TlR k p n v L) (hi : i < L) : ∀ n' : Int, Wh v n' → k = 1 → i < n + n' + ptl p := by
  intro n' hw h1
  rcases h with ⟨h2, _⟩ | ⟨_, n2, h3, _, _, h4⟩
  · exact absurd h1 h2
  · rw [Wh_u hw h3]; omega
/-- what the result of a sum leaves -/
def SrR (z : Int) (k : Nat) (p n v sn vs : Int) (cn : Int → Int) : Prop :=
  (z = -6 ∧ Sm cn 28 = 0) ∨ (Sm cn 28 ≠ 0 ∧ ((z = 0 ∧ k = 3 ∧ (cn 25 ≠ 0 ∨ (cn 26 ≠ 0 ∧ cn 27 ≠ 0))) ∨ (cn 25 = 0 ∧ z = 0 ∧ k = 0 ∧ cn 26 = 0 ∧ cn 27 ≠ 0) ∨ (cn 25 = 0 ∧ z = 0 ∧ k = 2 ∧ cn 26 ≠ 0 ∧ cn 27 = 0) ∨ (cn 25 = 0 ∧ cn 26 = 0 ∧ cn 27 = 0 ∧
    k = 1 ∧ ∃ g : Int, 0 ≤ g ∧ g ≤ 24 ∧ (g = 0 ∨ cn g ≠ 0) ∧ (∀ k : Int, g < k → k ≤ 24 → cn k = 0) ∧ p = g ∧ v = Rn vs (24 - g) % Bp 15 ∧ (v = 0 → n = 0) ∧ (0 < v → n = sn) ∧ ((z = -3 ∧ Tp 56 ≤ v) ∨ (z = 0 ∧ v < Tp 56)))))
theorem SrR_f {p n v sn vs : Int} {cn : Int → Int} {z : Int} {k : Nat} (h : SrR z k p n v sn vs cn) (hz : z = 0) (hk : k = 1) : 0 ≤ p ∧ p ≤ 24 ∧ v < Bp 14 ∧ Sm cn 28 ≠ 0 := by
  have e : Bp 14 = Tp 56 := Bp_Tp (i := 14) (by decide)
  rcases h with h | ⟨h0, h | h | h | ⟨_, _, _, _, g, h1, h2, _, _, h3, _, _, _, h4⟩⟩
  · omega
  · omega
  · omega
  · omega
  · exact ⟨by omega, by omega, by omega, h0⟩
theorem SrR_z {p n v sn vs : Int} {cn : Int → Int} {z : Int} {k : Nat} (h : SrR z k p n v sn vs cn) : -6 ≤ z ∧ z ≤ 0 := by
  rcases h with h | ⟨h0, h | h | h | ⟨_, _, _, _, g, h1, h2, _, _, h3, _, _, _, h4⟩⟩ <;> omega
/-- what fit leaves -/
def FiR (pr sc z : Int) (ka : Nat) (pa na va : Int) (k : Nat) (p n v : Int) : Prop :=
  (ka = 3 ∧ z = 0 ∧ k = ka ∧ p = pa ∧ n = na ∧ v = va) ∨ (ka ≠ 3 ∧ ka ≠ 1 ∧ z = -3 ∧ k = ka ∧ p = pa ∧ n = na ∧ v = va) ∨
  (ka = 1 ∧ ((z = -3 ∧ (Tp (24 + (pr - sc)) ≤ Rn va (24 - sc) ∨ Tp 56 ≤ Rn va (24 - sc)) ∧ k = ka ∧ p = pa ∧ n = na ∧ v = va) ∨
    (z = 0 ∧ Rn va (24 - sc) < Tp (24 + (pr - sc)) ∧ Rn va (24 - sc) < Tp 56 ∧ k = 1 ∧ p = mx0 sc ∧ (n = 0 ∨ n = 1) ∧ sgr v n na ∧ v = Rn va (24 - sc))))
theorem St_z {z p n v R x y mn : Int} {k : Nat} (h : St z k p n v R x y mn) : -3 ≤ z ∧ z ≤ 0 := by unfold St at h; omega
theorem CmR_z {op z p n v pl ng va po no vb : Int} {k kd ko : Nat} (h : CmR op z k p n v kd pl ng va ko po no vb) : -4 ≤ z ∧ z ≤ 0 := by
  rcases h with h | ⟨_, _, ⟨_, _, _, h⟩ | ⟨_, _, h, _⟩ | ⟨_, _, _, h⟩ | ⟨_, _, h, _⟩ | ⟨_, _, _, h⟩ | ⟨_, _, h⟩⟩
  · omega
  · unfold AdR at h; omega
  · omega
  · have := St_z h; omega
  · omega
  · omega
  · unfold ShR at h
    rcases h with ⟨_, _, ⟨_, _, _, _, _, _, _, _, _, h⟩ | ⟨_, h⟩ | ⟨_, h⟩⟩ | ⟨_, h, _⟩
    · have := St_z h; omega
    · have := St_z h; omega
    · have := St_z h; omega
    · omega
theorem AlR_z {op m z p n v pl ng va : Int} {k kd : Nat} (h : AlR op m z k p n v kd pl ng va) : -5 ≤ z ∧ z ≤ 0 := by
  rcases h with h | ⟨_, h | ⟨_, _, _, _, h⟩ | ⟨_, _, h⟩⟩
  · omega
  · omega
  · omega
  · obtain ⟨_, _, _, _, _, _, h⟩ := h
    have := St_z h; omega
theorem RiR_z {ch : Int → Int} {us z p n v : Int} {k : Nat} (h : RiR ch us z k p n v) : -3 ≤ z ∧ z ≤ 0 := by
  rcases h with h | ⟨_, _, _, _, _, ⟨_, h, _⟩ | ⟨_, h⟩⟩
  · omega
  · omega
  · obtain ⟨e, pt, x, _, _, h1 | ⟨_, _, h2 | h3⟩⟩ := h <;> omega
theorem small_lt {x : Int} (h : 0 ≤ x ∧ x ≤ 1000) : x * Bp 6 < Bp 14 := by
  have p := Bp_pos 6
  have e : Bp 14 = Bp 8 * Bp 6 := by rw [← Bp_add (by decide) (by decide)]; rfl
  have q : 10000 ≤ Bp 8 := by decide
  have m := mul_le_r (show x ≤ 1000 by omega) (Int.le_of_lt p)
  have m2 := mul_le_r (show 10000 ≤ Bp 8 from q) (Int.le_of_lt p)
  omega
