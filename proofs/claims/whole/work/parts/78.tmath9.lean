/-! Pure rows for the last methods of the reference. -/
theorem wdn_step {D x d la l2 v v2 : Int} (hD : 0 ≤ D) (hd : 0 ≤ d ∧ d ≤ 9) (hP : (la = 1 ∧ BigR D (x + 1 - 24)) ∨ (la = 0 ∧ v = PdX D (x + 1) ∧ v < Tp 80)) (hl : (l2 = 1 ∧ (la = 1 ∨ (0 < d ∧ 80 ≤ x))) ∨ (l2 = 0 ∧ ¬ (la = 1 ∨ (0 < d ∧ 80 ≤ x))))
    (hv2 : (0 ≤ x ∧ x < 80 ∧ v2 = v + d * Tp x) ∨ (¬ (0 ≤ x ∧ x < 80) ∧ v2 = v)) : (l2 = 1 ∧ BigR (10 * D + d) (x - 24)) ∨ (l2 = 0 ∧ v2 = PdX (10 * D + d) x ∧ v2 < Tp 80) := by
  rcases hl with ⟨h1, h2⟩ | ⟨h1, h2⟩
  · refine Or.inl ⟨h1, ?_⟩
    by_cases c : la = 1
    · have b : BigR D (x + 1 - 24) := by
        rcases hP with h | h
        · exact h.2
        · exact absurd h.1 (by omega)
      have := Big_step b hD hd.1
      rwa [show x + 1 - 24 - 1 = x - 24 by omega] at this
    · exact Big_new hD (by omega) (by omega)
  · refine Or.inr ⟨h1, ?_⟩
    have c : la ≠ 1 := fun h => h2 (Or.inl h)
    have b : v = PdX D (x + 1) ∧ v < Tp 80 := by
      rcases hP with h | h
      · exact absurd h.1 c
      · exact h.2
    exact PdX_step hD hd b.1 b.2 (by omega) hv2
theorem LnR_k {k p m v z : Int} (h : LnR k p m v z) (h0 : k ≠ 0) : z = lenZ (km k) := by
  rcases h with h | h
  · exact h.2
  · exact absurd h.1 h0
theorem LnR_f {p m v z n : Int} (h : LnR 0 p m v z) (hn : Wh v n) : z = m + n + ptl p := by
  rcases h with h | ⟨_, n', h1, _, _, h2⟩
  · exact absurd rfl h.1
  · rw [Wh_u hn h1]; exact h2
theorem ptl_in {p : Int} (h : 0 ≤ p ∧ p ≤ 24) : 0 ≤ ptl p ∧ ptl p ≤ 25 := by
  unfold ptl
  by_cases c : 0 < p
  · rw [if_pos c]; omega
  · rw [if_neg c]; omega
theorem LnR_in {k p m v z : Int} (h : LnR k p m v z) (hk : 0 ≤ k ∧ k ≤ 3) (hp : 0 ≤ p ∧ p ≤ 24) (hm : 0 ≤ m ∧ m ≤ 1) : 1 ≤ z ∧ z ≤ 60 := by
  rcases h with ⟨h1, h2⟩ | ⟨h1, n, h2, h3, h4, h5⟩
  · have c : k = 1 ∨ k = 2 ∨ k = 3 := by omega
    rcases c with rfl | rfl | rfl
    · rw [h2]; decide
    · rw [h2]; decide
    · rw [h2]; decide
  · have := ptl_in hp
    omega
theorem ln_km {k : Int} (h : (k = 1 ∧ lenZ (km k) = 3) ∨ k ≠ 1) : True := trivial
theorem km_1 : lenZ (km 1) = 3 := by decide
theorem km_2 : lenZ (km 2) = 8 := by decide
theorem km_3 : lenZ (km 3) = 9 := by decide
theorem ch_na {i : Int} (h : 0 ≤ i ∧ i < 3) (h1 : i ≠ 1) : 78 = chZ (km 1) i := by
  have c : i = 0 ∨ i = 2 := by omega
  rcases c with rfl | rfl <;> decide
theorem ch_i2 {j : Int} (h : 1 ≤ j ∧ j ≤ 7) : chZ 5 j = chZ (km 2) j := ch5_2 h
theorem ch_i3 {j i : Int} (h : 1 ≤ j ∧ j ≤ 7) (hi : i = j + 1) : chZ 5 j = chZ (km 3) i := ch5_0 h hi
theorem chr_1 {m v i z k : Int} (hk : k ≠ 0) (h : z = chZ (km k) i) : ChR k m v i z := Or.inl ⟨hk, h⟩
theorem chr_0 {m v i z n k : Int} (hk : k = 0) (hn : Wh v n) (h : TcR m v n i z) : ChR k m v i z := Or.inr ⟨hk, n, hn, h⟩
theorem cl24_of {x y : Int} (h : (x < 0 ∧ y = 0) ∨ (0 ≤ x ∧ 24 < x ∧ y = 24) ∨ (0 ≤ x ∧ x ≤ 24 ∧ y = x)) : y = cl24 x := by unfold cl24; omega
