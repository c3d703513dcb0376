/-! The square root, digit by digit. -/
theorem tf_step {h t : Int → Int} {j c v : Int} (h0 : 0 ≤ j) (hv1 : v = 2 * t j + c) (hv : Vt h (j + 1) + c * Tp (j + 1) = 1 + 20 * Vt t j) : Vt (up h (j + 1) (v % 10)) (j + 1 + 1) + v / 10 * Tp (j + 1 + 1) = 1 + 20 * Vt t (j + 1) := by
  rw [Vt_put h (by omega), Vt_s t h0, Tp_s (i := j + 1) (by omega)]
  have k := dm1 v (Tp (j + 1))
  have e : v * Tp (j + 1) = 20 * (t j * Tp j) + c * Tp (j + 1) := by
    rw [hv1, Int.add_mul, Tp_s h0, Int.mul_assoc 2, ← Int.mul_assoc (t j) 10, Int.mul_comm (t j) 10, Int.mul_assoc 10]
    omega
  omega
theorem tf_end {h t : Int → Int} {c : Int} (bh : bd h 56 0 9) (bt : bd t 46 0 9) (hR : Vt t 46 < Tp 45) (hv : Vt h 47 + c * Tp 47 = 1 + 20 * Vt t 46) (hz : ∀ j : Int, 47 ≤ j → j < 56 → h j = 0) : Vt h 56 = 20 * Vt t 46 + 1 := by
  rw [Vt_hz (n := 47) (by decide) (by decide) hz]
  have b := Vt_in bh (n := 47) (by decide) (by decide)
  have b2 := Vt_in bt (n := 46) (by decide) (by decide)
  have t46 : Tp 46 = 10 * Tp 45 := Tp_s (i := 45) (by decide)
  have t47 : Tp 47 = 10 * Tp 46 := Tp_s (i := 46) (by decide)
  have p := Tp_pos 45
  have := un_T hv b.1 b.2 (by omega) (by omega)
  omega
theorem tmo_step {h : Int → Int} {i : Int} (h0 : 0 ≤ i) (h1 : i < 55) : Vt (up (up h i (h i - 10)) (i + 1) ((up h i (h i - 10)) (i + 1) + 1)) 56 = Vt h 56 := by
  rw [Vt_set _ (by omega) (by omega), Vt_set _ h0 (by omega), Int.add_mul, Int.sub_mul, Tp_s h0]
  omega
theorem tmo_end {h : Int → Int} (hb : ∀ j : Int, 0 ≤ j → j < 56 → j ≠ 55 → 0 ≤ h j ∧ h j ≤ 9) (h55 : 0 ≤ h 55) (hv : Vt h 56 < Tp 56) : bd h 56 0 9 := by
  intro j g1 g2
  by_cases e : j = 55
  · rw [e]
    refine ⟨h55, ?_⟩
    have s := Vt_s h (i := 55) (by decide)
    rw [show (55 : Int) + 1 = 56 by decide] at s
    have b := Vt_in (f := h) (N := 55) (n := 55) (fun k k1 k2 => hb k k1 (by omega) (by omega)) (by decide) (by decide)
    have t : Tp 56 = 10 * Tp 55 := Tp_s (i := 55) (by decide)
    have p := Tp_pos 55
    refine Int.not_lt.mp (fun hh => ?_)
    have m := mul_le_r (show 10 ≤ h 55 by omega) (show 0 ≤ Tp 55 by omega)
    omega
  · exact hb j g1 g2 e
theorem sh_V {r h : Int → Int} {x : Int} (br : bd r 46 0 9) (h57 : Vt r 46 < Tp 45) (hd : ∀ j : Int, 0 < j → j < 46 → h j = r (j - 1)) : Vt (up h 0 x) 46 = 10 * Vt r 46 + x := by
  have m := Vt_mv (up h 0 x) (x := 1) (by decide) 45
  rw [show (1 : Int) + ((45 : Nat) : Int) = 46 by decide, show ((45 : Nat) : Int) = 45 from rfl] at m
  have e1 : Vt (up h 0 x) 1 = x := by rw [show (1 : Int) = 0 + 1 by decide, Vt_put h (by decide), Vt_0, Tp_0]; omega
  have e2 : Vt (fun j => up h 0 x (1 + j)) 45 = Vt r 45 := Vt_ext (fun j g1 g2 => by
    show up h 0 x (1 + j) = r j
    rw [up_ne (by omega), hd (1 + j) (by omega) (by omega)]; exact congrArg r (by omega))
  have z := Vt_small br (n := 45) (by decide) h57
  have e3 := Vt_hz (f := r) (n := 45) (N := 46) (by decide) (by decide) z
  rw [m, e1, e2, e3, show Tp 1 = 10 from rfl]
  omega
theorem qd_hi {f : Int → Int} {n t : Int} (bf : bd f 56 0 9) (hn : 0 ≤ n) (h : 56 + n ≤ t) : Vt f 56 * Tp n / Tp t = 0 := by
  have b := Vt_in bf (show (0 : Int) ≤ 56 by decide) (Int.le_refl 56)
  have p := Tp_pos n
  refine Int.ediv_eq_zero_of_lt (Int.mul_nonneg b.1 (by omega)) ?_
  have m := mul_lt_r b.2 p
  rw [← Tp_add (by decide) hn] at m
  exact Int.lt_of_lt_of_le m (Tp_mono (by omega) h)
theorem sq1 (T : Int) : (T + 1) * (T + 1) = T * T + 2 * T + 1 := by rw [Int.add_mul, Int.mul_add]; omega
theorem rt_pair {A t : Int} (h : 0 ≤ t) : 100 * (A / Tp (t + 2)) ≤ A / Tp t ∧ A / Tp t < 100 * (A / Tp (t + 2)) + 100 := by
  have e : A / Tp (t + 2) = A / Tp t / 100 := by rw [Tp_add h (by decide), show Tp 2 = 100 from rfl, edd _ _ (Tp_pos t)]
  omega
theorem rt10 {C D R : Int} (hC : C < (R + 1) * (R + 1)) (hD : D < 100 * C + 100) : D < (10 * R + 9 + 1) * (10 * R + 9 + 1) := by
  have e : (10 * R + 9 + 1) * (10 * R + 9 + 1) = 100 * ((R + 1) * (R + 1)) := by
    rw [show 10 * R + 9 + 1 = 10 * (R + 1) by omega, Int.mul_assoc 10, ← Int.mul_assoc (R + 1) 10, Int.mul_comm (R + 1) 10, Int.mul_assoc 10]
    omega
  omega
theorem sq10 (R : Int) : (10 * R + 0) * (10 * R + 0) = 100 * (R * R) := by
  rw [Int.add_zero, Int.mul_assoc, ← Int.mul_assoc R 10, Int.mul_comm R 10, Int.mul_assoc 10]
  omega
