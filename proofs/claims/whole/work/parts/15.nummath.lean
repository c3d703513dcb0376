theorem hf_V {f : Int → Int} (bf : bd f 15 0 9999) : V f 15 % Bp 6 = V f 6 := by
  obtain ⟨t, ht⟩ := V_hi f (n := 6) (N := 15) (by decide) (by decide)
  have e := ht f (fun _ _ _ => rfl)
  have b := V_in bf (n := 6) (by decide) (by decide)
  rw [e, Int.add_mul_emod_self_right, Int.emod_eq_of_lt b.1 b.2]
theorem hf_0 {f : Int → Int} (bf : bd f 15 0 9999) (h : ∀ j : Int, 0 ≤ j → j < 6 → f j = 0) : V f 15 % Bp 6 = 0 := by
  rw [hf_V bf]
  exact V_zero (by decide) h
theorem hf_1 {f : Int → Int} {i : Int} (bf : bd f 15 0 9999) (h0 : 0 ≤ i) (h1 : i < 6) (h : f i ≠ 0) : V f 15 % Bp 6 ≠ 0 := by
  rw [hf_V bf]
  intro hv
  have b6 : bd f 6 0 9999 := fun j g1 g2 => bf j g1 (by omega)
  have := V_small b6 (n := 0) (by decide) (by rw [hv, Bp_0]; decide) i h0 h1
  exact h this
