/-! Running sums, on both sides. -/
theorem fit_aux {pr sc z pa na va p n v : Int} {ka k : Nat} (h : FiR pr sc z ka pa na va k p n v) (hk : ka < 4) (hn : na = 0 ∨ na = 1) (hf : ka ≠ 1 → pa = 0 ∧ na = 0 ∧ va = 0) : k < 4 ∧ (n = 0 ∨ n = 1) ∧ Nf z k p n v ∧ StoR z k p n v ka pa na va k p n v := by
  rcases h with ⟨h1, h2, rfl, rfl, rfl, rfl⟩ | ⟨h1, h2, h3, rfl, rfl, rfl, rfl⟩ | ⟨h1, ⟨h2, h3, rfl, rfl, rfl, rfl⟩ | ⟨h2, h3, h4, h5, h6, h7, h8, h9⟩⟩
  · exact ⟨hk, hn, fun _ => hf, Or.inl ⟨h2, rfl, rfl, rfl, rfl⟩⟩
  · exact ⟨hk, hn, Nf_z (by omega), Or.inr ⟨by omega, rfl, rfl, rfl, rfl⟩⟩
  · exact ⟨hk, hn, Nf_z (by omega), Or.inr ⟨by omega, rfl, rfl, rfl, rfl⟩⟩
  · exact ⟨by omega, h7, Nf_1 h5, Or.inl ⟨h2, rfl, rfl, rfl, rfl⟩⟩
theorem su_1000 {sn sz mz mv : Int} {sf cn mc : Int → Int} (h : SumOk sn sz sf cn mz mc mv) : V sf 15 ≤ 1000 * Tp 56 := by
  have a := h.2.2.2.2.1
  have m := mul_le_r h.2.2.2.1.2 (Int.le_of_lt (Tp_pos 56))
  omega
theorem sm_step {SN SZ : Nat → Int} {SF CN : Nat → Int → Int} {sz cn su sz' cn' su' : Int → Int} {ks : Nat} {n' s' : Int} {f' c' : Int → Int} (h : ∀ k : Nat, k < 4 → SumOk (SN k) (SZ k) (SF k) (CN k) (sz k) (fun j => cn (28 * k + j)) (Gt su k)) (hks : ks < 4) (hn : SumOk n' s' f' c' (sz' ks) (fun j => cn' (28 * ks + j)) (Gt su' ks))
    (ho : ∀ k : Nat, k < 4 → k ≠ ks → sz' k = sz k ∧ (∀ j : Int, 0 ≤ j → j < 28 → cn' (28 * k + j) = cn (28 * k + j)) ∧ Gt su' k = Gt su k) : ∀ k : Nat, k < 4 → SumOk (upn SN ks n' k) (upn SZ ks s' k) (upn SF ks f' k) (upn CN ks c' k) (sz' k) (fun j => cn' (28 * k + j)) (Gt su' k) := by
  intro k hk
  by_cases e : k = ks
  · subst e; rw [upn_at, upn_at, upn_at, upn_at]; exact hn
  · rw [upn_ne e, upn_ne e, upn_ne e, upn_ne e]
    obtain ⟨a1, a2, a3, a4, a5, a6, a7, a8, a9, a10⟩ := h k hk
    obtain ⟨o1, o2, o3⟩ := ho k hk e
    exact ⟨a1, a2, a3, a4, a5, a6, a7, by rw [o1]; exact a8, fun j g1 g2 => (o2 j g1 g2).trans (a9 j g1 g2), by rw [o3]; exact a10⟩
theorem mc_idx {K : Nat} {P N : Int} {F : Int → Int} {k p n v : Int} (r : RegOk K P N F k p n v) : midx k p = cidx K P := by
  have c := RegR_k r.2.2.2.2.2.2.2
  have rr := r.2.2.2.2.2.2.2.2.2.2.1
  rcases c with ⟨c1, c2⟩ | ⟨c1, c2⟩ | ⟨c1, c2⟩ | ⟨c1, c2⟩
  · rw [midx_0 c1, cidx_1 c2, (rr c1).1]
  · rw [midx_n (by omega), cidx_3 c2]; omega
  · rw [midx_n (by omega), cidx_2 c2]; omega
  · rw [midx_n (by omega), cidx_0 c2]; omega
theorem Smn_cadd {c : Int → Int} {i b : Int} : ∀ n : Nat, Smn (fun j => c j + cadd i j b) n = Smn c n + (if 0 ≤ i ∧ i < n then b else 0) := by
  intro n
  induction n with
  | zero => show (0 : Int) = 0 + _; rw [if_neg (by omega)]; rfl
  | succ n ih =>
    show Smn (fun j => c j + cadd i j b) n + (c n + cadd i n b) = Smn c n + c n + _
    rw [ih]
    unfold cadd
    by_cases h : (n : Int) = i
    · rw [if_pos h, if_neg (by omega), if_pos (by omega)]; omega
    · rw [if_neg h]
      by_cases g : 0 ≤ i ∧ i < n
      · rw [if_pos g, if_pos (by omega)]; omega
      · rw [if_neg g, if_neg (by omega)]; omega
theorem Sm_cadd {c c' : Int → Int} {i b : Int} (hi : 0 ≤ i ∧ i < 28) (h : ∀ j : Int, 0 ≤ j → j < 28 → c' j = c j + cadd i j b) : Sm c' 28 = Sm c 28 + b := by
  rw [Sm_ext (g := fun j => c j + cadd i j b) h]
  have := Smn_cadd (c := c) (i := i) (b := b) 28
  rw [if_pos ⟨hi.1, hi.2⟩] at this
  exact this
theorem Sm_add {c d c' : Int → Int} (h : ∀ j : Int, 0 ≤ j → j < 28 → c' j = c j + d j) : Sm c' 28 = Sm c 28 + Sm d 28 := by
  rw [Sm_ext (g := fun j => c j + d j) h]
  have key : ∀ n : Nat, Smn (fun j => c j + d j) n = Smn c n + Smn d n := by
    intro n
    induction n with
    | zero => rfl
    | succ n ih =>
      show Smn (fun j => c j + d j) n + (c n + d n) = Smn c n + c n + (Smn d n + d n)
      rw [ih]; omega
  exact key 28
theorem sv_abs {n v T : Int} (hn : n = 0 ∨ n = 1) (h : sv n v = T) : v ≤ T ∨ v ≤ -T := by
  rcases sv_c hn v with ⟨_, e⟩ | ⟨_, e⟩ <;> omega
theorem sv_bd {n v : Int} (hn : n = 0 ∨ n = 1) (h : 0 ≤ v) : -v ≤ sv n v ∧ sv n v ≤ v := by
  rcases sv_c hn v with ⟨_, e⟩ | ⟨_, e⟩ <;> omega
theorem vadd_bd {K : Nat} {b x v : Int} (h : -v ≤ x ∧ x ≤ v) (hv : 0 ≤ v) : -v ≤ vadd K b x ∧ vadd K b x ≤ v := by
  unfold vadd
  by_cases c : K = 1
  · rw [if_pos c]
    by_cases d : b < 0
    · rw [if_pos d]; omega
    · rw [if_neg d]; omega
  · rw [if_neg c]; omega
theorem dif_sv {m v : Int} (hm : m = 0 ∨ m = 1) : sv (dif m 0) v = sv m v ∧ sv (dif m 1) v = -(sv m v) := by
  rcases hm with rfl | rfl
  · rw [dif_e rfl, dif_n (by decide), sv_0, sv_1]; exact ⟨rfl, rfl⟩
  · rw [dif_n (by decide), dif_e rfl, sv_1, sv_0]; exact ⟨rfl, by omega⟩
/-- one more member, or one less -/
theorem acc_new {b aw : Int} {ks : Nat} {sn sz : Int} {sf cn : Int → Int} {K : Nat} {P N : Int} {F : Int → Int} {k p n v : Int} {s' n' : Int} {f' c' su su' zs zs' cs cs' : Int → Int} (hb : b = 1 ∨ b = -1) (so : SumOk sn sz sf cn (zs ks) (fun j => cs (28 * ks + j)) (Gt su ks)) (r : RegOk K P N F k p n v) (hl : sz < 1000) (hs' : s' = sz + 1) (hn' : n' = 0 ∨ n' = 1) (hv0 : V f' 15 = 0 → n' = 0) (bf : bd f' 15 0 9999) (bc : bd c' 28 0 s')
    (hv : sv n' (V f' 15) = sv sn (V sf 15) + vadd K b (sv N (V F 15))) (hc : ∀ j : Int, 0 ≤ j → j < 28 → c' j = cn j + cadd (cidx K P) j b) (hg : GaR ks aw k n v su su') (hz : zs' = up zs ks (zs ks + 1)) (hcs : cs' = up cs (28 * ks + midx k p) (cs (28 * ks + midx k p) + b)) (haw : (b = 1 ∧ aw = 0) ∨ (b = -1 ∧ aw = 1)) :
    SumOk n' s' f' c' (zs' ks) (fun j => cs' (28 * ks + j)) (Gt su' ks) := by
  obtain ⟨a1, a2, a3, a4, a5, a6, a7, a8, a9, a10⟩ := so
  have mi := mc_idx r
  obtain ⟨r1, r2, r3, r4, r5, r6, r7, r8⟩ := r
  have rk := RegR_k r8
  have ci := cidx_in r2 r4
  have vsf := V_in a1 (show (0 : Int) ≤ 15 by decide) (Int.le_refl 15)
  have vF := V_in r1 (show (0 : Int) ≤ 15 by decide) (Int.le_refl 15)
  have e14 : Bp 14 = Tp 56 := Bp_Tp (i := 14) (by decide)
  have s1 := sv_bd a2 vsf.1
  have s2 := vadd_bd (K := K) (b := b) (sv_bd r3 vF.1) vF.1
  have ab := sv_abs hn' hv
  refine ⟨bf, hn', bc, by omega, ?_, hv0, ?_, ?_, ?_, ?_⟩
  · rw [hs', Int.add_mul, Int.one_mul]
    rw [e14] at r5
    omega
  · rw [Sm_cadd ci hc]; omega
  · rw [hz, up_at, hs']; omega
  · intro j g1 g2
    show cs' (28 * ks + j) = c' j
    rw [hc j g1 g2, hcs, mi]
    unfold cadd
    have e9 : cs (28 * ks + j) = cn j := a9 j g1 g2
    by_cases h : j = cidx K P
    · rw [if_pos h, ← h, up_at, e9]
    · rw [if_neg h, up_ne (by omega)]
      omega
  · rw [hv]
    have r84 := r8.2.2.2.1
    have dv := dif_sv (m := N) (v := V F 15) r3
    rcases hg with ⟨g1, g2, _⟩ | ⟨g1, g2⟩
    · obtain ⟨_, x2, x3⟩ := r84 g1
      rw [g2, a10, x2, x3]
      rcases haw with ⟨h1, h2⟩ | ⟨h1, h2⟩
      · rw [h1, h2, dv.1, vadd_p (by omega) (by decide)]
      · rw [h1, h2, dv.2, vadd_m (by omega) (by decide)]
    · rw [g2, a10, vadd_0 (by omega)]; omega
theorem ga_oth {K : Nat} {P N : Int} {F : Int → Int} {k p n v aw b x : Int} {ks : Nat} {su su' zs zs' cs cs' : Int → Int} (r : RegOk K P N F k p n v) (hks : ks < 4) (hg : GaR ks aw k n v su su') (hz : zs' = up zs ks x) (hcs : cs' = up cs (28 * ks + midx k p) b) : ∀ k2 : Nat, k2 < 4 → k2 ≠ ks → zs' k2 = zs k2 ∧ (∀ j : Int, 0 ≤ j → j < 28 → cs' (28 * k2 + j) = cs (28 * k2 + j)) ∧ Gt su' k2 = Gt su k2 := by
  intro k2 hk hne
  have mi := mc_idx r
  have ci := cidx_in r.2.1 r.2.2.2.1
  refine ⟨by rw [hz, up_ne (by omega)], fun j g1 g2 => by rw [hcs, up_ne (by omega)], ?_⟩
  rcases hg with ⟨_, _, g3⟩ | ⟨_, g2⟩
  · exact Gt_ext (fun j g1 g2 => g3 j (by omega))
  · rw [g2]
theorem mr_oth {ks : Nat} {x : Int} {su su' zs zs' cs cs' : Int → Int} (hks : ks < 4) (hg : ∀ j : Int, ¬ (56 * (ks : Int) ≤ j ∧ j < 56 * (ks : Int) + 56) → su' j = su j) (hz : zs' = up zs ks x) (hcs : ∀ j : Int, ¬ (28 * (ks : Int) ≤ j ∧ j < 28 * (ks : Int) + 28) → cs' j = cs j) : ∀ k2 : Nat, k2 < 4 → k2 ≠ ks → zs' k2 = zs k2 ∧ (∀ j : Int, 0 ≤ j → j < 28 → cs' (28 * k2 + j) = cs (28 * k2 + j)) ∧ Gt su' k2 = Gt su k2 := by
  intro k2 hk hne
  exact ⟨by rw [hz, up_ne (by omega)], fun j g1 g2 => hcs _ (by omega), Gt_ext (fun j g1 g2 => hg j (by omega))⟩
theorem ga_bsz {zs zs' : Int → Int} {ks : Nat} {x : Int} (h : bd zs 4 0 1000) (hks : ks < 4) (hz : zs' = up zs ks x) (hx : 0 ≤ x ∧ x ≤ 1000) : bd zs' 4 0 1000 := by rw [hz]; exact bd_up h _ _ hx
theorem mr_bcn {cs cs' : Int → Int} {ks : Nat} {n' s' mz mv : Int} {f' c' : Int → Int} (h : bd cs 112 0 1000) (hks : ks < 4) (hcs : ∀ j : Int, ¬ (28 * (ks : Int) ≤ j ∧ j < 28 * (ks : Int) + 28) → cs' j = cs j) (nw : SumOk n' s' f' c' mz (fun j => cs' (28 * (ks : Int) + j)) mv) : bd cs' 112 0 1000 := by
  intro j g1 g2
  by_cases e : 28 * (ks : Int) ≤ j ∧ j < 28 * (ks : Int) + 28
  · have a := nw.2.2.2.2.2.2.2.2.1 (j - 28 * ks) (by omega) (by omega)
    have b := nw.2.2.1 (j - 28 * ks) (by omega) (by omega)
    have c := nw.2.2.2.1
    have a2 : cs' j = c' (j - 28 * ks) := by
      have : cs' (28 * (ks : Int) + (j - 28 * ks)) = c' (j - 28 * ks) := a
      rwa [show 28 * (ks : Int) + (j - 28 * ks) = j by omega] at this
    rw [a2]; omega
  · rw [hcs j e]; exact h j g1 g2
theorem ga_bcn {K : Nat} {P N : Int} {F : Int → Int} {k p n v b : Int} {cs cs' : Int → Int} {ks : Nat} {n' s' mz mv : Int} {f' c' : Int → Int} (h : bd cs 112 0 1000) (hks : ks < 4) (r : RegOk K P N F k p n v) (hcs : cs' = up cs (28 * ks + midx k p) b) (nw : SumOk n' s' f' c' mz (fun j => cs' (28 * (ks : Int) + j)) mv) : bd cs' 112 0 1000 := by
  have mi := mc_idx r
  have ci := cidx_in r.2.1 r.2.2.2.1
  exact mr_bcn h hks (fun j g => by rw [hcs, up_ne (by omega)]) nw
theorem mrg_new {ks kj : Nat} {sn sz on oz : Int} {sf cn of co : Int → Int} {s' n' : Int} {f' c' su su' zs zs' cs cs' : Int → Int} (so : SumOk sn sz sf cn (zs ks) (fun j => cs (28 * ks + j)) (Gt su ks)) (sq : SumOk on oz of co (zs kj) (fun j => cs (28 * kj + j)) (Gt su kj)) (hl : sz + oz ≤ 1000) (hs' : s' = sz + oz) (hn' : n' = 0 ∨ n' = 1) (hv0 : V f' 15 = 0 → n' = 0) (bf : bd f' 15 0 9999) (bc : bd c' 28 0 s')
    (hv : sv n' (V f' 15) = sv sn (V sf 15) + sv on (V of 15)) (hc : ∀ j : Int, 0 ≤ j → j < 28 → c' j = cn j + co j) (hg : Gt su' ks = Gt su ks + Gt su kj) (hz : zs' = up zs ks (zs ks + zs kj)) (hcs : ∀ j : Int, 0 ≤ j → j < 28 → cs' (28 * (ks : Int) + j) = cs (28 * (ks : Int) + j) + cs (28 * (kj : Int) + j)) :
    SumOk n' s' f' c' (zs' ks) (fun j => cs' (28 * ks + j)) (Gt su' ks) := by
  obtain ⟨a1, a2, a3, a4, a5, a6, a7, a8, a9, a10⟩ := so
  obtain ⟨b1, b2, b3, b4, b5, b6, b7, b8, b9, b10⟩ := sq
  have vsf := V_in a1 (show (0 : Int) ≤ 15 by decide) (Int.le_refl 15)
  have vof := V_in b1 (show (0 : Int) ≤ 15 by decide) (Int.le_refl 15)
  have s1 := sv_bd a2 vsf.1
  have s2 := sv_bd b2 vof.1
  have ab := sv_abs hn' hv
  refine ⟨bf, hn', bc, by omega, ?_, hv0, ?_, ?_, ?_, ?_⟩
  · rw [hs', Int.add_mul]; omega
  · rw [Sm_add hc]; omega
  · rw [hz, up_at, hs', a8, b8]
  · intro j g1 g2
    show cs' (28 * ks + j) = c' j
    have e1 : cs (28 * ks + j) = cn j := a9 j g1 g2
    have e2 : cs (28 * kj + j) = co j := b9 j g1 g2
    rw [hcs j g1 g2, hc j g1 g2, e1, e2]
  · rw [hv, hg, a10, b10]
theorem rst_new {ks : Nat} {f' c' su' zs zs' cs' : Int → Int} (bf : bd f' 15 0 9999) (hv : V f' 15 = 0) (hc : ∀ j : Int, 0 ≤ j → j < 28 → c' j = 0) (hg : Gt su' ks = 0) (hz : zs' = up zs ks 0) (hcs : ∀ j : Int, 0 ≤ j → j < 28 → cs' (28 * (ks : Int) + j) = 0) : SumOk 0 0 f' c' (zs' ks) (fun j => cs' (28 * ks + j)) (Gt su' ks) := by
  refine ⟨bf, Or.inl rfl, fun j g1 g2 => by rw [hc j g1 g2]; decide, by decide, by rw [hv]; decide, fun _ => rfl, ?_, by rw [hz, up_at], fun j g1 g2 => by rw [hc j g1 g2]; exact hcs j g1 g2, by rw [hg, hv, sv_0]⟩
  have e : Sm c' 28 = Sm (fun _ => 0) 28 := Sm_ext hc
  rw [e]
  decide
