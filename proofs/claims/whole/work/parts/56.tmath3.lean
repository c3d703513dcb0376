/-! Long division and the square root, digit by digit. -/
theorem Vt_exM {g : Int → Int} : Vt (ex g 56) 58 = Vt g 56 := by
  rw [Vt_hz (f := ex g 56) (n := 56) (N := 58) (by decide) (by decide) (fun j g1 g2 => ex_ge g1)]
  exact Vt_ext (fun j g1 g2 => ex_lt g2)
theorem ex_b9 {g : Int → Int} (h : bd g 56 0 9) {j : Int} (h0 : 0 ≤ j) : 0 ≤ ex g 56 j ∧ ex g 56 j ≤ 9 := by
  by_cases hj : j < 56
  · rw [ex_lt hj]; exact h j h0 hj
  · rw [ex_ge (by omega)]; omega
theorem ex_bd9 {g : Int → Int} (h : bd g 56 0 9) : bd (ex g 56) 58 0 9 := fun j g1 _ => ex_b9 h g1
theorem br_V {r h : Int → Int} {x : Int} (br : bd r 58 0 9) (h57 : Vt r 58 < Tp 57) (hd : ∀ j : Int, 0 < j → j < 58 → h j = r (j - 1)) : Vt (up h 0 x) 58 = 10 * Vt r 58 + x := by
  have m := Vt_mv (up h 0 x) (x := 1) (by decide) 57
  rw [show (1 : Int) + ((57 : Nat) : Int) = 58 by decide, show ((57 : Nat) : Int) = 57 from rfl] at m
  have e1 : Vt (up h 0 x) 1 = x := by rw [show (1 : Int) = 0 + 1 by decide, Vt_put h (by decide), Vt_0, Tp_0]; omega
  have e2 : Vt (fun j => up h 0 x (1 + j)) 57 = Vt r 57 := Vt_ext (fun j g1 g2 => by
    show up h 0 x (1 + j) = r j
    rw [up_ne (by omega), hd (1 + j) (by omega) (by omega)]; exact congrArg r (by omega))
  have z := Vt_small br (n := 57) (by decide) h57
  have e3 := Vt_hz (f := r) (n := 57) (N := 58) (by decide) (by decide) z
  rw [m, e1, e2, e3, show Tp 1 = 10 from rfl]
  omega
theorem sb_step {f g h : Int → Int} {i c v b : Int} (h0 : 0 ≤ i) (hd : v = f i - g i - c) (hv : Vt h i - c * Tp i = Vt f i - Vt g i) :
    Vt (up h i (v + 10 * b)) (i + 1) - b * Tp (i + 1) = Vt f (i + 1) - Vt g (i + 1) := by
  rw [Vt_put h h0, Vt_s f h0, Vt_s g h0, Tp_s h0, hd, Int.add_mul, Int.sub_mul, Int.sub_mul, Int.mul_comm 10 b, Int.mul_assoc b]
  omega
theorem sb_end {a y v c T : Int} (h : v - c * T = a - y) (h0 : 0 ≤ v) (h1 : v < T) (hy : y ≤ a) (ha : a < T) (y0 : 0 ≤ y) : v = a - y := by
  refine un_T (k := -c) (T := T) (X := a - y) ?_ h0 h1 (by omega) (by omega)
  rw [Int.neg_mul]; omega
theorem qd_dig {f : Int → Int} {n i : Int} (bf : bd f 56 0 9) (hn : 0 ≤ n) (h0 : 0 ≤ i) (h1 : i < 56 + n) :
    (n ≤ i → Vt f 56 * Tp n / Tp i = 10 * (Vt f 56 * Tp n / Tp (i + 1)) + f (i - n)) ∧ (i < n → Vt f 56 * Tp n / Tp i = 10 * (Vt f 56 * Tp n / Tp (i + 1))) := by
  have p := Tp_pos i
  have pn := Tp_pos n
  have e : Vt f 56 * Tp n / Tp (i + 1) = Vt f 56 * Tp n / Tp i / 10 := by rw [Tp_s h0, Int.mul_comm 10, edd _ _ p]
  rw [e]
  refine ⟨fun h => ?_, fun h => ?_⟩
  · have d := Vt_dig bf (p := i - n) (by omega) (by omega)
    have e2 : Vt f 56 * Tp n / Tp i = Vt f 56 / Tp (i - n) := by
      rw [show Tp i = Tp n * Tp (i - n) by rw [← Tp_add hn (by omega)]; exact congrArg Tp (by omega), edd _ _ pn, Int.mul_ediv_cancel _ (by omega)]
    rw [e2]
    omega
  · have e3 : Vt f 56 * Tp n / Tp i = 10 * (Vt f 56 * Tp (n - i - 1)) := by
      rw [show Tp n = 10 * Tp (n - i - 1) * Tp i by rw [← Tp_s (by omega), ← Tp_add (by omega) h0]; exact congrArg Tp (by omega), ← Int.mul_assoc, Int.mul_ediv_cancel _ (by omega), ← Int.mul_assoc, Int.mul_comm (Vt f 56) 10, Int.mul_assoc]
    rw [e3]
    omega
theorem q_step {A0 A1 Q b R x d : Int} (hA : A1 = 10 * A0 + x) (h : A0 = Q * b + R) : A1 = (10 * Q + d) * b + (10 * R + x - d * b) := by
  rw [Int.add_mul, Int.mul_assoc]
  omega
theorem q_start {f : Int → Int} {n : Int} (bf : bd f 56 0 9) (hn : 0 ≤ n) : Vt f 56 * Tp n / Tp (55 + n + 1) = 0 := by
  have b := Vt_in bf (show (0 : Int) ≤ 56 by decide) (Int.le_refl 56)
  have p := Tp_pos n
  refine Int.ediv_eq_zero_of_lt (Int.mul_nonneg b.1 (by omega)) ?_
  rw [show 55 + n + 1 = 56 + n by omega, Tp_add (by decide) hn]
  exact mul_lt_r b.2 p
theorem q_end {A Q b R : Int} (h : A = Q * b + R) (h0 : 0 ≤ R) (h1 : R < b) : Q = A / b ∧ R = A % b := by
  have e : A / b = Q := by rw [h, Int.add_comm, Int.add_mul_ediv_right _ _ (by omega), Int.ediv_eq_zero_of_lt h0 h1, Int.zero_add]
  refine ⟨e.symm, ?_⟩
  have := Int.mul_ediv_add_emod A b
  rw [e, Int.mul_comm] at this
  omega
theorem q_pap {h : Int → Int} {Q d x : Int} (hx : 0 ≤ x ∧ x < 140) (hv : Vt h 140 = Q * Tp (x + 1)) (hz : h x = 0) : Vt (up h x d) 140 = (10 * Q + d) * Tp x := by
  rw [Vt_set h hx.1 hx.2, hv, hz, Tp_s hx.1, Int.add_mul, ← Int.mul_assoc, Int.mul_comm Q 10]
  omega
theorem q_size {v n b : Int} (hv : 0 ≤ v ∧ v < Tp 56) (hn : 0 ≤ n ∧ n ≤ 48) (hb : 0 < b) : 0 ≤ v * Tp n / b * Tp (48 - n) ∧ v * Tp n / b * Tp (48 - n) < Tp 104 := by
  have p := Tp_pos n
  have p2 := Tp_pos (48 - n)
  have a0 : 0 ≤ v * Tp n := Int.mul_nonneg hv.1 (by omega)
  have q0 := Int.ediv_nonneg a0 (show 0 ≤ b by omega)
  have q1 := Int.ediv_le_self b a0
  refine ⟨Int.mul_nonneg q0 (by omega), ?_⟩
  have e : Tp 104 = Tp 56 * Tp n * Tp (48 - n) := by rw [← Tp_add (by decide) hn.1, ← Tp_add (by omega) (by omega)]; exact congrArg Tp (by omega)
  have m := mul_lt_r hv.2 p
  rw [e]
  exact mul_lt_r (by omega) p2
theorem T104 : Tp 104 ≤ Tp 139 := Tp_mono (by decide) (by decide)
theorem AbR_p {X ne X' n' : Int} (h : AbR X ne X' n') (h0 : 0 ≤ X) : X' = X ∧ n' = ne := by unfold AbR at h; omega
