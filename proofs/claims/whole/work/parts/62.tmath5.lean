/-! Sums and products of rows of digits. -/
theorem Vt_lin (f g : Int → Int) : ∀ n : Nat, Vt (fun j => f j + g j) n = Vt f n + Vt g n := by
  intro n
  induction n with
  | zero => rfl
  | succ n ih => rw [show ((n + 1 : Nat) : Int) = (n : Int) + 1 by omega, Vt_s _ (by omega), Vt_s _ (by omega), Vt_s _ (by omega), ih, Int.add_mul]; omega
theorem Vt_sv {c : Int} (hc : c = 0 ∨ c = 1) (f : Int → Int) (n : Nat) : Vt (fun j => sv c (f j)) n = sv c (Vt f n) := by
  rcases hc with rfl | rfl
  · rw [sv_0]; exact Vt_ext (fun j _ _ => sv_0 _)
  · rw [sv_1, ← Vt_neg]; exact Vt_ext (fun j _ _ => sv_1 _)
theorem sv_9 {c x : Int} (hc : c = 0 ∨ c = 1) (h : 0 ≤ x ∧ x ≤ 9) : -9 ≤ sv c x ∧ sv c x ≤ 9 := by
  rcases sv_c hc x with h1 | h1 <;> omega
theorem dif_01 (a b : Int) : dif a b = 0 ∨ dif a b = 1 := by
  by_cases h : a = b
  · exact Or.inl (dif_e h)
  · exact Or.inr (dif_n h)
theorem ad_V {x y h : Int → Int} {c e : Int} (hc : c = 0 ∨ c = 1) (he : e = 0 ∨ e = 1) (hk : ∀ j : Int, 0 ≤ j → j < 56 → h (24 + j) = sv c (x j) + sv e (y j)) (hz : ∀ j : Int, 0 ≤ j → j < 140 → ¬ (24 ≤ j ∧ j < 80) → h j = 0) : Vt h 140 = (sv c (Vt x 56) + sv e (Vt y 56)) * Tp 24 := by
  rw [sp_V (f := fun j => sv c (x j) + sv e (y j)) (n := 56) (x := 24) (by decide) (by decide) (fun j g1 g2 => hz j g1 (by omega) (by omega)) (fun j g1 g2 => hz j (by omega) g2 (by omega)) hk, Vt_lin, Vt_sv hc, Vt_sv he]
  rfl
theorem sv_lt {c v b : Int} (hc : c = 0 ∨ c = 1) (h : 0 ≤ v ∧ v < b) : -b < sv c v ∧ sv c v < b := by
  rcases sv_c hc v with h1 | h1 <;> omega
theorem ad_lt {u v : Int} (h1 : -Tp 56 < u ∧ u < Tp 56) (h2 : -Tp 56 < v ∧ v < Tp 56) : -Tp 139 < (u + v) * Tp 24 ∧ (u + v) * Tp 24 < Tp 139 := by
  have e : Tp 139 = Tp 115 * Tp 24 := by rw [← Tp_add (by decide) (by decide)]; rfl
  have p := Tp_pos 24
  have m : 10 * Tp 56 ≤ Tp 115 := by rw [← Tp_s (by decide)]; exact Tp_mono (by decide) (by decide)
  have a := mul_lt_r (show u + v < Tp 115 by omega) p
  have b := mul_lt_r (show -Tp 115 < u + v by omega) p
  rw [Int.neg_mul] at b
  rw [e]
  omega
theorem mud_step {x y h : Int → Int} {i j : Int} (hi : 0 ≤ i ∧ i < 56) (hj : 0 ≤ j ∧ j < 56) (hv : Vt h 140 = Vt x i * Vt y 56 + x i * Vt y j * Tp i) : Vt (up h (i + j) (h (i + j) + x i * y j)) 140 = Vt x i * Vt y 56 + x i * Vt y (j + 1) * Tp i := by
  rw [Vt_set h (by omega) (by omega), hv, Vt_s y hj.1, Int.add_mul, Int.mul_add, Int.add_mul, Tp_add hi.1 hj.1]
  have e : x i * y j * (Tp i * Tp j) = x i * (y j * Tp j) * Tp i := by rw [Int.mul_comm (Tp i), Int.mul_assoc (x i), Int.mul_assoc (x i), Int.mul_assoc (y j)]
  omega
theorem mud_next {x y : Int → Int} {i : Int} (hi : 0 ≤ i) : Vt x i * Vt y 56 + x i * Vt y 56 * Tp i = Vt x (i + 1) * Vt y 56 := by
  rw [Vt_s x hi, Int.add_mul, Int.mul_assoc (x i) (Vt y 56), Int.mul_comm (Vt y 56) (Tp i), ← Int.mul_assoc (x i)]
theorem mu_81 {a b : Int} (ha : 0 ≤ a ∧ a ≤ 9) (hb : 0 ≤ b ∧ b ≤ 9) : 0 ≤ a * b ∧ a * b ≤ 81 := by
  refine ⟨Int.mul_nonneg ha.1 hb.1, ?_⟩
  have h1 : a * b ≤ 9 * b := Int.mul_le_mul_of_nonneg_right ha.2 hb.1
  omega
theorem mu_lt {u v : Int} (h1 : 0 ≤ u ∧ u < Tp 56) (h2 : 0 ≤ v ∧ v < Tp 56) : 0 ≤ u * v ∧ u * v < Tp 139 := by
  refine ⟨Int.mul_nonneg h1.1 h2.1, ?_⟩
  have e : Tp 139 = Tp 56 * Tp 83 := by rw [← Tp_add (by decide) (by decide)]; rfl
  have p := Tp_pos 56
  have a : u * v ≤ u * Tp 56 := Int.mul_le_mul_of_nonneg_left (Int.le_of_lt h2.2) h1.1
  have b := mul_lt_r h1.2 p
  have c : Tp 56 * Tp 56 ≤ Tp 56 * Tp 83 := Int.mul_le_mul_of_nonneg_left (Tp_mono (by decide) (by decide)) (by omega)
  omega
theorem re_56 {r : Int → Int} (br : bd r 58 0 9) (h : Vt r 58 < Tp 56) : Vt r 56 = Vt r 58 := (Vt_hz (by decide) (by decide) (Vt_small br (n := 56) (by decide) h)).symm
/-- only the kind is set -/
def SpR (z d K : Int) (kf sf mf G k' s' m' G' : Int → Int) : Prop := z = 0 ∧ k' = up kf d K ∧ s' = sf ∧ m' = mf ∧ G' = G
/-- nothing is set -/
def NoR (kf sf mf G k' s' m' G' : Int → Int) : Prop := k' = kf ∧ s' = sf ∧ m' = mf ∧ G' = G
/-- the sign of a register that isn't NaN -/
def SgR (k m v z : Int) : Prop := (k = 2 ∧ z = 1) ∨ (k = 3 ∧ z = -1) ∨ (k ≤ 1 ∧ ((z = 0 ∧ v = 0) ∨ (0 < v ∧ ((m = 1 ∧ z = -1) ∨ (m = 0 ∧ z = 1)))))
theorem SgR_in {k m v z : Int} (h : SgR k m v z) : -1 ≤ z ∧ z ≤ 1 := by unfold SgR at h; omega
def neg5 (op k : Int) : Int := if op = 1 ∧ 1 < k then 5 - k else k
theorem neg5_y {op k : Int} (h : op = 1 ∧ 1 < k) : neg5 op k = 5 - k := if_pos h
theorem neg5_n {op k : Int} (h : ¬ (op = 1 ∧ 1 < k)) : neg5 op k = k := if_neg h
/-- what the reference does where an operand is infinite -/
def IfR (op z d : Int) (ka kb sa sb pa na va : Int) (kf sf mf G k' s' m' G' : Int → Int) : Prop :=
  (op < 2 ∧ ((1 < ka ∧ 1 < neg5 op kb ∧ ka ≠ neg5 op kb ∧ SpR z d 1 kf sf mf G k' s' m' G') ∨ (¬ (1 < ka ∧ 1 < neg5 op kb ∧ ka ≠ neg5 op kb) ∧ ((1 < ka ∧ SpR z d ka kf sf mf G k' s' m' G') ∨ (ka ≤ 1 ∧ SpR z d (neg5 op kb) kf sf mf G k' s' m' G'))))) ∨
  (op = 2 ∧ ((sa * sb = 0 ∧ SpR z d 1 kf sf mf G k' s' m' G') ∨ (0 < sa * sb ∧ SpR z d 2 kf sf mf G k' s' m' G') ∨ (sa * sb < 0 ∧ SpR z d 3 kf sf mf G k' s' m' G'))) ∨
  (2 < op ∧ 1 < ka ∧ sa * sb = 0 ∧ z = -4 ∧ NoR kf sf mf G k' s' m' G') ∨
  (2 < op ∧ ¬ (1 < ka ∧ sa * sb = 0) ∧ ((op = 5 ∧ ((1 < ka ∧ SpR z d 1 kf sf mf G k' s' m' G') ∨ (ka ≤ 1 ∧ KpR z d pa na (va * Tp 24) kf sf mf G k' s' m' G'))) ∨
    (op ≠ 5 ∧ ((ka = 0 ∧ KpR z d 0 0 0 kf sf mf G k' s' m' G') ∨ (ka ≠ 0 ∧ ((1 < kb ∧ SpR z d 1 kf sf mf G k' s' m' G') ∨ (kb ≤ 1 ∧ 0 < sa * sb ∧ SpR z d 2 kf sf mf G k' s' m' G') ∨ (kb ≤ 1 ∧ sa * sb ≤ 0 ∧ SpR z d 3 kf sf mf G k' s' m' G')))))))
