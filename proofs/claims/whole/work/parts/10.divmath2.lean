theorem mu_step {g h : Int → Int} {N M K i : Int} (bg : bd g M 0 9999) (bh : bd h K 0 9999) (hM : 0 ≤ M) (h0 : 0 ≤ i) (h1 : i < K) (hN : M + K ≤ N) : (V g M * V h i + h i * V g M * Bp i) % Bp N = V g M * V h (i + 1) := by
  have e : V g M * V h i + h i * V g M * Bp i = V g M * V h (i + 1) := by rw [V_s h h0, Int.mul_add, Int.mul_comm (h i), Int.mul_assoc (V g M)]
  have a := V_in bg hM (Int.le_refl M)
  have b := V_in bh (n := i + 1) (by omega) (by omega)
  rw [e]
  refine Int.emod_eq_of_lt (Int.mul_nonneg a.1 b.1) ?_
  have p1 : V g M * V h (i + 1) ≤ Bp M * V h (i + 1) := mul_le_r (Int.le_of_lt a.2) b.1
  have p2 : Bp M * V h (i + 1) < Bp M * Bp (i + 1) := Int.mul_lt_mul_of_pos_left b.2 (Bp_pos M)
  have p3 : Bp N = Bp M * Bp (i + 1) * Bp (N - M - (i + 1)) := by
    rw [← Bp_add hM (by omega), ← Bp_add (by omega) (by omega)]
    exact congrArg Bp (by omega)
  have p4 := Int.mul_le_mul_of_nonneg_left (show 1 ≤ Bp (N - M - (i + 1)) from Bp_pos _) (show 0 ≤ Bp M * Bp (i + 1) from Int.le_of_lt (Int.mul_pos (Bp_pos _) (Bp_pos _)))
  omega
theorem dv_z {g h : Int → Int} {K N T s : Int} (bh : bd h N 0 9999) (hD : V g K < Bp (T + 1)) (h0 : 0 ≤ T) (hs : 0 ≤ s) (hR : V h N < V g K * Bp (s + 1)) : ∀ j, s + T + 1 < j → j < N → h j = 0 := by
  intro j g1 g2
  refine V_small bh (n := s + T + 2) (by omega) (Int.lt_trans hR ?_) j (by omega) g2
  rw [show s + T + 2 = (T + 1) + (s + 1) by omega, Bp_add (i := T + 1) (j := s + 1) (by omega) (by omega)]
  exact mul_lt_r hD (Bp_pos _)
theorem dv_fin {F Vk D Vh y b Vh' : Int} (h1 : F = Vk * D + Vh) (h2 : Vh = y * (D * b) + Vh') : F = (Vk - 0 * b + y * b) * D + Vh' := by
  rw [h1, h2, Int.zero_mul, Int.sub_zero, Int.add_mul, Int.mul_assoc y b, Int.mul_comm b D]
  omega
theorem dv_end {F Q D R : Int} (h : F = Q * D + R) (h0 : 0 ≤ R) (h1 : R < D) : Q = F / D ∧ R = F % D := by
  have e : F = R + Q * D := by omega
  refine ⟨?_, ?_⟩
  · rw [e, Int.add_mul_ediv_right _ _ (by omega), Int.ediv_eq_zero_of_lt h0 h1]; omega
  · rw [e, Int.add_mul_emod_self_right, Int.emod_eq_of_lt h0 h1]
theorem dv_start {f g : Int → Int} {N K T U : Int} (bf : bd f N 0 9999) (bg : bd g K 0 9999) (hN : 0 ≤ N) (hU : -1 ≤ U) (hU2 : U < N) (hzf : ∀ j, U < j → j < N → f j = 0) (h0 : 0 ≤ T) (h1 : T < K) (hzg : ∀ j, T < j → j < K → g j = 0) (hg : g T ≠ 0) : V f N < V g K * Bp (U - T + 1) := by
  have e1 := V_exTop hN hU hzf
  rw [V_ex (by omega)] at e1
  have a := V_in bf (n := U + 1) (by omega) (by omega)
  rw [e1] at a
  have d := V_top h0 h1 hzg
  have b := V_in bg h0 (by omega)
  have g0 := bg T h0 h1
  have m := mul_le_r (show 1 ≤ g T by omega) (show 0 ≤ Bp T by omega)
  have hD : Bp T ≤ V g K := by omega
  by_cases h : 0 ≤ U - T + 1
  · have e2 : Bp (U + 1) = Bp T * Bp (U - T + 1) := by rw [← Bp_add h0 h]; exact congrArg Bp (by omega)
    have m2 := mul_le_r hD (show 0 ≤ Bp (U - T + 1) from Int.le_of_lt (Bp_pos _))
    omega
  · have e3 : Bp (U - T + 1) = 1 := by unfold Bp; rw [show (U - T + 1).toNat = 0 by omega]; rfl
    have e2 : Bp T = Bp (U + 1) * Bp (T - U - 1) := by rw [← Bp_add (by omega) (by omega)]; exact congrArg Bp (by omega)
    have m2 := Int.mul_le_mul_of_nonneg_left (show 1 ≤ Bp (T - U - 1) from Bp_pos _) (show 0 ≤ Bp (U + 1) from Int.le_of_lt (Bp_pos _))
    rw [e3]
    omega
theorem Bp_neg {i : Int} (h : i ≤ 0) : Bp i = 1 := by unfold Bp; rw [show i.toNat = 0 by omega]; rfl
theorem Bp_4 : Bp ((4 : Nat) : Int) = 10000000000000000 := by decide
theorem Bp_3 : Bp ((3 : Nat) : Int) = 1000000000000 := by decide
