/-! Pure rows for the long division. -/
def fz (f : Int → Int) (N : Int) : Int → Int := fun j => if 0 ≤ j ∧ j < N then f j else 0
def Hd (f : Int → Int) (N t : Int) : Nat → Int
  | 0 => 0
  | j + 1 => Hd f N t j * 10000 + fz f N (t - j)
theorem fz_in {f : Int → Int} {N j : Int} (h0 : 0 ≤ j) (h1 : j < N) : fz f N j = f j := if_pos ⟨h0, h1⟩
theorem fz_out {f : Int → Int} {N j : Int} (h : j < 0 ∨ N ≤ j) : fz f N j = 0 := if_neg (by omega)
theorem fz_ex {f : Int → Int} {N j : Int} (h0 : 0 ≤ j) : fz f N j = ex f N j := by
  by_cases h : j < N
  · rw [fz_in h0 h, ex_lt h]
  · rw [fz_out (by omega), ex_ge (by omega)]
theorem fz_bd {f : Int → Int} {N : Int} (h : bd f N 0 9999) (j : Int) : 0 ≤ fz f N j ∧ fz f N j ≤ 9999 := by
  by_cases hj : 0 ≤ j ∧ j < N
  · rw [fz_in hj.1 hj.2]; exact h j hj.1 hj.2
  · rw [fz_out (by omega)]; omega
theorem Hd_bd {f : Int → Int} {N : Int} (h : bd f N 0 9999) (t : Int) : ∀ j : Nat, 0 ≤ Hd f N t j ∧ Hd f N t j < Bp j := by
  intro j
  induction j with
  | zero => exact ⟨Int.le_refl 0, by show (0 : Int) < Bp 0; rw [Bp_0]; decide⟩
  | succ j ih =>
    have b := fz_bd h (t - j)
    show 0 ≤ Hd f N t j * 10000 + fz f N (t - j) ∧ Hd f N t j * 10000 + fz f N (t - j) < Bp ((j + 1 : Nat) : Int)
    rw [show ((j + 1 : Nat) : Int) = (j : Int) + 1 by omega, Bp_s (by omega)]
    omega
theorem Hd_V {f : Int → Int} {N t : Int} (ht : -1 ≤ t) : ∀ j : Nat, (0 ≤ t + 1 - j → V (ex f N) (t + 1) = V (ex f N) (t + 1 - j) + Hd f N t j * Bp (t + 1 - j)) ∧ (t + 1 - j < 0 → Hd f N t j = V (ex f N) (t + 1) * Bp (-(t + 1 - j))) := by
  intro j
  induction j with
  | zero =>
    refine ⟨fun _ => ?_, fun h => ?_⟩
    · rw [show t + 1 - ((0 : Nat) : Int) = t + 1 by omega]
      show _ = _ + 0 * _
      omega
    · omega
  | succ j ih =>
    have e : Hd f N t (j + 1) = Hd f N t j * 10000 + fz f N (t - j) := rfl
    refine ⟨fun h => ?_, fun h => ?_⟩
    · have i1 := ih.1 (by omega)
      rw [e, fz_ex (by omega), show t + 1 - ((j + 1 : Nat) : Int) = t - j by omega, i1, show t + 1 - (j : Int) = (t - j) + 1 by omega, V_s _ (by omega), Bp_s (by omega), Int.add_mul, Int.mul_assoc (Hd f N t j)]
      omega
    · rw [e, fz_out (by omega)]
      by_cases h0 : t + 1 - (j : Int) = 0
      · have i1 := ih.1 (by omega)
        rw [h0, V_0, Bp_0] at i1
        rw [show -(t + 1 - ((j + 1 : Nat) : Int)) = 0 + 1 by omega, Bp_s (by omega), Bp_0, i1]
        omega
      · have i2 := ih.2 (by omega)
        rw [i2, show -(t + 1 - ((j + 1 : Nat) : Int)) = -(t + 1 - (j : Int)) + 1 by omega, Bp_s (by omega), Int.mul_assoc, Int.mul_comm (Bp _) 10000]
        omega
/-- zeros above t: the whole number is what stands up to t -/
theorem V_exTop {f : Int → Int} {N t : Int} (hN : 0 ≤ N) (ht : -1 ≤ t) (hz : ∀ j, t < j → j < N → f j = 0) : V (ex f N) (t + 1) = V f N := by
  by_cases h : N ≤ t + 1
  · exact V_exM hN h
  · rw [V_ex (by omega)]
    obtain ⟨x, hx⟩ := V_hi (fun _ => 0) (n := t + 1) (N := N) (by omega) (by omega)
    have e0 := hx (fun _ => 0) (fun _ _ _ => rfl)
    rw [V_zero (by omega) (fun _ _ _ => rfl), V_zero (by omega) (fun _ _ _ => rfl)] at e0
    have e1 := hx f (fun j g1 g2 => hz j (by omega) g2)
    omega
/-- a number below 10000^n has nothing from n on -/
theorem V_small {f : Int → Int} {N n : Int} (bf : bd f N 0 9999) (h0 : 0 ≤ n) (h : V f N < Bp n) : ∀ j, n ≤ j → j < N → f j = 0 := by
  intro j g1 g2
  have b := bf j (by omega) g2
  refine Classical.byContradiction (fun hh => ?_)
  obtain ⟨t, ht⟩ := V_hi f (n := j + 1) (N := N) (by omega) (by omega)
  have e := ht f (fun _ _ _ => rfl)
  have e0 := ht (fun i => if i ≤ j then 0 else f i) (fun i i1 i2 => if_neg (by omega))
  have b0 : bd (fun i => if i ≤ j then 0 else f i) N 0 9999 := fun i i1 i2 => by
    show 0 ≤ (if i ≤ j then 0 else f i) ∧ (if i ≤ j then 0 else f i) ≤ 9999
    by_cases hi : i ≤ j
    · rw [if_pos hi]; omega
    · rw [if_neg hi]; exact bf i i1 i2
  have p0 := V_in b0 (show 0 ≤ N by omega) (Int.le_refl N)
  rw [V_zero (f := fun i => if i ≤ j then 0 else f i) (n := j + 1) (by omega) (fun i i1 i2 => if_pos (by omega))] at e0
  have p1 := V_in bf (n := j) (by omega) (by omega)
  rw [V_s f (by omega)] at e
  have m1 := Int.mul_le_mul_of_nonneg_right (show 1 ≤ f j by omega) (show 0 ≤ Bp j by omega)
  have m2 : Bp n ≤ Bp j := by
    rw [show j = n + (j - n) by omega, Bp_add h0 (by omega)]
    have x := Bp_pos (j - n)
    have y := Bp_pos n
    have := Int.mul_le_mul_of_nonneg_left (show 1 ≤ Bp (j - n) by omega) (show 0 ≤ Bp n by omega)
    omega
  omega
theorem mul_le_r {a b c : Int} (h : a ≤ b) (hc : 0 ≤ c) : a * c ≤ b * c := Int.mul_le_mul_of_nonneg_right h hc
theorem mul_lt_r {a b c : Int} (h : a < b) (hc : 0 < c) : a * c < b * c := Int.mul_lt_mul_of_pos_right h hc
/-- the guess: right or one too small -/
theorem guess {D M P Gh A R b q : Int} (hM : 0 < M) (hP : 0 < P) (hb : 0 < b) (h1 : Gh * P ≤ D * M) (h2 : D * M < (Gh + 1) * P) (h3 : A * (P * b) ≤ R * M) (h4 : R * M < (A + 1) * (P * b)) (h5 : R < 10000 * (D * b)) (h6 : 10000 ≤ Gh) (hA : 0 ≤ A) (hq : q = A / (Gh + 1)) :
    0 ≤ q ∧ q ≤ 9999 ∧ q * (D * b) ≤ R ∧ R < (q + 2) * (D * b) := by
  have q0 : 0 ≤ q := by rw [hq]; exact Int.ediv_nonneg hA (by omega)
  have q1 : q * (Gh + 1) ≤ A := by rw [hq]; exact Int.ediv_mul_le A (by omega)
  have q2 : A < (q + 1) * (Gh + 1) := by
    rw [hq]
    have := Int.lt_ediv_add_one_mul_self A (show 0 < Gh + 1 by omega)
    exact this
  have X : 0 < P * b := Int.mul_pos hP hb
  -- D * b * M
  have e1 : D * b * M = D * M * b := by rw [Int.mul_assoc, Int.mul_comm b M, ← Int.mul_assoc]
  have d1 : Gh * (P * b) ≤ D * b * M := by rw [e1, ← Int.mul_assoc]; exact mul_le_r h1 (by omega)
  have d2 : D * b * M < (Gh + 1) * (P * b) := by rw [e1, ← Int.mul_assoc]; exact mul_lt_r h2 hb
  have a1 : q * (D * b) * M ≤ R * M := by
    have s1 : q * (D * b * M) ≤ q * ((Gh + 1) * (P * b)) := Int.mul_le_mul_of_nonneg_left (Int.le_of_lt d2) q0
    have s2 : q * (Gh + 1) * (P * b) ≤ A * (P * b) := mul_le_r q1 (by omega)
    rw [← Int.mul_assoc, ← Int.mul_assoc q (Gh + 1)] at s1
    omega
  have a2 : q * (D * b) ≤ R := Int.le_of_mul_le_mul_right a1 hM
  have Db : 0 < D * b := by
    refine Int.not_le.mp (fun hh => ?_)
    have z1 := mul_le_r hh (show 0 ≤ M by omega)
    have z2 : 0 < Gh * (P * b) := Int.mul_pos (by omega) X
    omega
  have q3 : q ≤ 9999 := by
    refine Int.not_lt.mp (fun hh => ?_)
    have z1 := mul_le_r (show 10000 ≤ q by omega) (show 0 ≤ D * b by omega)
    omega
  refine ⟨q0, q3, a2, ?_⟩
  have s1 : (A + 1) * (P * b) ≤ (q + 1) * (Gh + 1) * (P * b) := mul_le_r (by omega) (by omega)
  have s2 : (q + 1) * (Gh * (P * b)) ≤ (q + 1) * (D * b * M) := Int.mul_le_mul_of_nonneg_left d1 (by omega)
  have s3 : (q + 1) * (P * b) ≤ Gh * (P * b) := mul_le_r (by omega) (by omega)
  have s4 : (q + 1) * (Gh + 1) * (P * b) = (q + 1) * (Gh * (P * b)) + (q + 1) * (P * b) := by rw [Int.mul_assoc, Int.add_mul Gh 1, Int.one_mul, Int.mul_add]
  have s5 : R * M < (q + 2) * (D * b) * M := by
    have e2 : (q + 2) * (D * b) * M = (q + 1) * (D * b * M) + D * b * M := by rw [Int.mul_assoc, show q + 2 = (q + 1) + 1 by omega, Int.add_mul (q + 1) 1, Int.one_mul]
    omega
  exact Int.lt_of_mul_lt_mul_right s5 (by omega)
/-- what the guess of a step is worth -/
theorem guess_step {g h : Int → Int} {K N t s : Int} (bg : bd g K 0 9999) (bh : bd h N 0 9999) (hN : 0 ≤ N) (h0 : 0 ≤ t) (h1 : t < K) (hg : g t ≠ 0) (hz : ∀ j, t < j → j < K → g j = 0) (hs : 0 ≤ s) (hR : V h N < V g K * Bp (s + 1)) :
    0 ≤ Hd h N (s + t + 1) 4 / (Hd g K t 3 + 1) ∧ Hd h N (s + t + 1) 4 / (Hd g K t 3 + 1) ≤ 9999 ∧ Hd h N (s + t + 1) 4 / (Hd g K t 3 + 1) * (V g K * Bp s) ≤ V h N ∧ V h N < (Hd h N (s + t + 1) 4 / (Hd g K t 3 + 1) + 2) * (V g K * Bp s) := by
  have eD := V_exTop (f := g) (N := K) (t := t) (by omega) (by omega) hz
  have bD := V_in bg (show 0 ≤ K by omega) (Int.le_refl K)
  have tD : V g K < Bp (t + 1) := by rw [← eD, V_ex (by omega)]; exact (V_in bg (by omega) (by omega)).2
  have zR : ∀ j, s + t + 1 < j → j < N → h j = 0 := by
    intro j g1 g2
    refine V_small bh (n := s + t + 2) (by omega) (Int.lt_trans hR ?_) j (by omega) g2
    rw [show s + t + 2 = (t + 1) + (s + 1) by omega, Bp_add (i := t + 1) (j := s + 1) (by omega) (by omega)]
    exact mul_lt_r tD (Bp_pos _)
  have eR := V_exTop (f := h) (N := N) (t := s + t + 1) hN (by omega) zR
  have HG := Hd_V (f := g) (N := K) (t := t) (by omega) 3
  have HA := Hd_V (f := h) (N := N) (t := s + t + 1) (by omega) 4
  rw [eD, show t + 1 - ((3 : Nat) : Int) = t - 2 by omega] at HG
  rw [eR, show s + t + 1 + 1 - ((4 : Nat) : Int) = s + (t - 2) by omega] at HA
  have bG := Hd_bd bg t 3
  have bA := Hd_bd bh (s + t + 1) 4
  have g1 := bg t h0 h1
  have big : 10000 ≤ Hd g K t 3 := by
    have f0 := fz_bd bg (t - (0 : Nat))
    have f1 := fz_bd bg (t - (1 : Nat))
    have f2 := fz_bd bg (t - (2 : Nat))
    have e3 : Hd g K t 3 = ((0 * 10000 + fz g K (t - (0 : Nat))) * 10000 + fz g K (t - (1 : Nat))) * 10000 + fz g K (t - (2 : Nat)) := rfl
    have e0 : fz g K (t - (0 : Nat)) = g t := by rw [show t - ((0 : Nat) : Int) = t by omega]; exact fz_in h0 h1
    omega
  have pb := Bp_pos s
  have h5 : V h N < 10000 * (V g K * Bp s) := by
    rw [Bp_s hs, ← Int.mul_assoc, Int.mul_comm (V g K) 10000, Int.mul_assoc] at hR
    exact hR
  by_cases he : 0 ≤ t - 2
  · have a := HG.1 he
    have b := HA.1 (by omega)
    rw [Bp_add hs he] at b
    have va := V_in bg (n := t - 2) he (by omega)
    rw [← V_ex (g := g) (M := K) (by omega : t - 2 ≤ K)] at va
    have vb : 0 ≤ V (ex h N) (s + (t - 2)) ∧ V (ex h N) (s + (t - 2)) < Bp (s + (t - 2)) := V_in (N := s + (t - 2)) (fun i i0 _ => ex_bd bh i0) (by omega) (Int.le_refl _)
    rw [Bp_add hs he] at vb
    refine guess (M := 1) (P := Bp (t - 2)) (by omega) (Bp_pos _) pb ?_ ?_ ?_ ?_ h5 big bA.1 rfl
    · omega
    · rw [Int.add_mul]; omega
    · rw [Int.mul_comm (Bp (t - 2))]; omega
    · rw [Int.mul_comm (Bp (t - 2)), Int.add_mul]; omega
  · have a := HG.2 (by omega)
    refine guess (M := Bp (-(t - 2))) (P := 1) (Bp_pos _) (by omega) pb ?_ ?_ ?_ ?_ h5 big bA.1 rfl
    · omega
    · omega
    · rw [Int.one_mul]
      by_cases hn : 0 ≤ s + (t - 2)
      · have b := HA.1 hn
        have vb : 0 ≤ V (ex h N) (s + (t - 2)) ∧ V (ex h N) (s + (t - 2)) < Bp (s + (t - 2)) := V_in (N := s + (t - 2)) (fun i i0 _ => ex_bd bh i0) (by omega) (Int.le_refl _)
        have m := mul_le_r (show Hd h N (s + t + 1) 4 * Bp (s + (t - 2)) ≤ V h N by omega) (show 0 ≤ Bp (-(t - 2)) from Int.le_of_lt (Bp_pos _))
        rw [Int.mul_assoc, ← Bp_add hn (by omega), show s + (t - 2) + -(t - 2) = s by omega] at m
        exact m
      · have b := HA.2 (by omega)
        rw [b, Int.mul_assoc, ← Bp_add (by omega) hs, show -(s + (t - 2)) + s = -(t - 2) by omega]
        exact Int.le_refl _
    · rw [Int.one_mul]
      by_cases hn : 0 ≤ s + (t - 2)
      · have b := HA.1 hn
        have vb : 0 ≤ V (ex h N) (s + (t - 2)) ∧ V (ex h N) (s + (t - 2)) < Bp (s + (t - 2)) := V_in (N := s + (t - 2)) (fun i i0 _ => ex_bd bh i0) (by omega) (Int.le_refl _)
        have m := mul_lt_r (show V h N < (Hd h N (s + t + 1) 4 + 1) * Bp (s + (t - 2)) by rw [Int.add_mul]; omega) (Bp_pos (-(t - 2)))
        rw [Int.mul_assoc (Hd h N (s + t + 1) 4 + 1), ← Bp_add hn (by omega), show s + (t - 2) + -(t - 2) = s by omega] at m
        exact m
      · have b := HA.2 (by omega)
        rw [b, Int.add_mul, Int.mul_assoc, ← Bp_add (by omega) hs, show -(s + (t - 2)) + s = -(t - 2) by omega]
        omega
/-- rows for the steps of takeMultiple -/
theorem tm_step {f g h : Int → Int} {i c x L d : Int} (hx : 0 ≤ x) (hi : 0 ≤ i) (hd : d = f (x + i) - g i * L + c) (hv : V h (x + i) + c * Bp (x + i) = V f (x + i) - L * V g i * Bp x) :
    V (up h (x + i) (d - d / 10000 * 10000)) (x + (i + 1)) + d / 10000 * Bp (x + (i + 1)) = V f (x + (i + 1)) - L * V g (i + 1) * Bp x := by
  rw [show x + (i + 1) = (x + i) + 1 by omega, V_put h (by omega), V_s f (by omega), V_s g hi, Bp_s (by omega), Int.sub_mul, Int.mul_add L, Int.add_mul (L * V g i), ← Int.mul_assoc (d / 10000)]
  have e : Bp (x + i) = Bp i * Bp x := by rw [Int.add_comm, Bp_add hi hx]
  have e2 : d * Bp (x + i) = f (x + i) * Bp (x + i) - L * (g i * Bp i) * Bp x + c * Bp (x + i) := by
    rw [hd, Int.add_mul, Int.sub_mul, e, Int.mul_comm (g i) L, Int.mul_assoc L (g i) (Bp i * Bp x), Int.mul_assoc L (g i * Bp i), Int.mul_assoc (g i)]
  omega
theorem tm_top {f g h : Int → Int} {N n c Y : Int} (bh : bd h N 0 9999) (h0 : 0 ≤ n) (hn : n < N) (hs : ∀ j, n ≤ j → h j = f j) (hz : ∀ j, n < j → j < N → f j = 0) (hv : V h n + c * Bp n = V f n - Y) (hY : Y ≤ V f N) (hc : c ≤ 0) :
    0 ≤ h n + c ∧ V (up h n (h n + c)) N = V f N - Y := by
  have e1 := V_top h0 hn hz
  have e2 := V_top (f := up h n (h n + c)) h0 hn (fun j g1 g2 => by rw [up_ne (by omega), hs j (by omega)]; exact hz j g1 g2)
  rw [up_at, V_up (Int.le_refl n), Int.add_mul, hs n (Int.le_refl n)] at e2
  have b := V_in bh h0 (by omega)
  have key : V (up h n (h n + c)) N = V f N - Y := by rw [hs n (Int.le_refl n)]; omega
  refine ⟨?_, key⟩
  refine Int.not_lt.mp (fun hh => ?_)
  have m := mul_le_r (show h n + c ≤ -1 by omega) (show 0 ≤ Bp n by omega)
  rw [Int.add_mul, hs n (Int.le_refl n)] at m
  omega
theorem tm_end {f h : Int → Int} {N c Y : Int} (bh : bd h N 0 9999) (h0 : 0 ≤ N) (hv : V h N + c * Bp N = V f N - Y) (hY : Y ≤ V f N) (hc : c ≤ 0) : V h N = V f N - Y := by
  have b := V_in bh h0 (Int.le_refl N)
  have hc0 : c = 0 := by
    refine Classical.byContradiction (fun hh => ?_)
    have m := mul_le_r (show c ≤ -1 by omega) (show 0 ≤ Bp N by omega)
    omega
  rw [hc0] at hv
  omega
/-- a part of a row, moved down -/
theorem V_mv (f : Int → Int) {x n : Int} (hx : 0 ≤ x) : ∀ k : Nat, V f (x + k) = V f x + V (fun j => f (x + j)) k * Bp x := by
  intro k
  induction k with
  | zero => rw [show x + ((0 : Nat) : Int) = x by omega, show ((0 : Nat) : Int) = 0 from rfl, V_0]; omega
  | succ k ih =>
    rw [show x + ((k + 1 : Nat) : Int) = (x + k) + 1 by omega, V_s f (by omega), ih, show ((k + 1 : Nat) : Int) = (k : Int) + 1 by omega, V_s _ (by omega), Int.add_mul, Int.add_comm x k, Bp_add (by omega) hx, Int.mul_assoc]
    omega
theorem si_V {f : Int → Int} {N x t : Int} (hx : 0 ≤ x) (ht : 0 ≤ t) (h1 : x + t + 1 ≤ N) (hz : ∀ j, x + t + 1 ≤ j → j < N → f j = 0) : V f N = V f x + V (fun j => f (x + j)) (t + 1) * Bp x := by
  have e := V_exTop (f := f) (N := N) (t := x + t) (by omega) (by omega) (fun j g1 g2 => hz j (by omega) g2)
  rw [V_ex (by omega)] at e
  have m := V_mv f (n := 0) hx (t + 1).toNat
  rw [show (((t + 1).toNat : Nat) : Int) = t + 1 by omega, show x + (t + 1) = x + t + 1 by omega] at m
  omega
theorem si_ge {f g : Int → Int} {N x t : Int} (bf : bd f N 0 9999) (hx : 0 ≤ x) (ht : 0 ≤ t) (h1 : x + t + 1 ≤ N) (hz : ∀ j, x + t + 1 ≤ j → j < N → f j = 0) (h : V g (t + 1) ≤ V (fun j => f (x + j)) (t + 1)) : V g (t + 1) * Bp x ≤ V f N := by
  rw [si_V hx ht h1 hz]
  have b := V_in bf hx (by omega)
  have m := mul_le_r h (show 0 ≤ Bp x by omega)
  omega
theorem si_lt {f g : Int → Int} {N x t : Int} (bf : bd f N 0 9999) (hx : 0 ≤ x) (ht : 0 ≤ t) (h1 : x + t + 1 ≤ N) (hz : ∀ j, x + t + 1 ≤ j → j < N → f j = 0) (h : V (fun j => f (x + j)) (t + 1) < V g (t + 1)) : V f N < V g (t + 1) * Bp x := by
  rw [si_V hx ht h1 hz]
  have b := V_in bf hx (by omega)
  have m := mul_le_r (show V (fun j => f (x + j)) (t + 1) + 1 ≤ V g (t + 1) by omega) (show 0 ≤ Bp x by omega)
  rw [Int.add_mul] at m
  omega
theorem si_big {f g : Int → Int} {N K x t : Int} (bf : bd f N 0 9999) (bg : bd g K 0 9999) (hx : 0 ≤ x) (ht : 0 ≤ t) (hK : t < K) (h1 : x + t + 1 < N) (h : 0 < f (x + t + 1)) : V g (t + 1) * Bp x ≤ V f N := by
  have b := V_in bg (n := t + 1) (by omega) (by omega)
  refine Int.not_lt.mp (fun hh => ?_)
  have e : V f N < Bp (x + t + 1) := by
    rw [show x + t + 1 = (t + 1) + x by omega, Bp_add (i := t + 1) (j := x) (by omega) hx]
    exact Int.lt_of_lt_of_le hh (mul_le_r (Int.le_of_lt b.2) (Int.le_of_lt (Bp_pos x)))
  have := V_small bf (by omega) e (x + t + 1) (Int.le_refl _) h1
  omega
theorem V_set (k : Int → Int) {N s x : Int} (h0 : 0 ≤ s) (h1 : s < N) : V (up k s x) N = V k N - k s * Bp s + x * Bp s := by
  obtain ⟨t, ht⟩ := V_hi k (n := s + 1) (N := N) (by omega) (by omega)
  have e1 := ht k (fun _ _ _ => rfl)
  have e2 := ht (up k s x) (fun j g1 g2 => up_ne (by omega))
  rw [V_put k h0] at e2
  rw [V_s k h0] at e1
  omega
theorem ks_stepx {f h : Int → Int} {x i v : Int} (hs : ∀ j, x + i ≤ j → h j = f j) : ∀ j, x + (i + 1) ≤ j → up h (x + i) v j = f j := by
  intro j g
  rw [up_ne (by omega)]
  exact hs j (by omega)
theorem hd_step {f : Int → Int} {N t i h y : Int} (hi : i ≤ t) (hh : h = Hd f N t (t - i).toNat) (hy : y = fz f N i) : h * 10000 + y = Hd f N t (t - (i + (-1))).toNat := by
  rw [show (t - (i + (-1))).toNat = (t - i).toNat + 1 by omega]
  show _ = Hd f N t (t - i).toNat * 10000 + fz f N (t - (t - i).toNat)
  rw [hh, hy, show t - (((t - i).toNat : Nat) : Int) = i by omega]
theorem si_step {f g : Int → Int} {x i t : Int} (he : ∀ j : Int, i < j → j < t → f (x + j) = g j) (h : f (x + i) = g i) : ∀ j : Int, i + (-1) < j → j < t → f (x + j) = g j := by
  intro j g1 g2
  by_cases e : j = i
  · rw [e]; exact h
  · exact he j (by omega) g2
