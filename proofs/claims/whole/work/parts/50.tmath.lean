/-! Numbers out of rows of decimal digits (base 10): the rows of 03.math, turned. -/
def Vtn (f : Int → Int) : Nat → Int
  | 0 => 0
  | n + 1 => Vtn f n + f n * 10 ^ n
def Vt (f : Int → Int) (n : Int) : Int := Vtn f n.toNat
theorem Vt_0 (f : Int → Int) : Vt f 0 = 0 := rfl
theorem Vt_s (f : Int → Int) {i : Int} (h : 0 ≤ i) : Vt f (i + 1) = Vt f i + f i * Tp i := by
  unfold Vt Tp
  rw [show (i + 1).toNat = i.toNat + 1 by omega]
  show Vtn f i.toNat + f (i.toNat : Int) * 10 ^ i.toNat = _
  rw [show ((i.toNat : Nat) : Int) = i by omega]
theorem Vt_ext {f g : Int → Int} : ∀ {n : Int}, (∀ j, 0 ≤ j → j < n → f j = g j) → Vt f n = Vt g n := by
  intro n
  unfold Vt
  intro h
  have key : ∀ k : Nat, (k : Int) ≤ n ∨ k = 0 → Vtn f k = Vtn g k := by
    intro k
    induction k with
    | zero => intro _; rfl
    | succ k ih =>
      intro hk
      have hk' : ((k + 1 : Nat) : Int) ≤ n := by omega
      show Vtn f k + f k * 10 ^ k = Vtn g k + g k * 10 ^ k
      rw [ih (by omega), h k (by omega) (by omega)]
  exact key n.toNat (by omega)
theorem Vt_up {f : Int → Int} {n k x : Int} (h : n ≤ k) : Vt (up f k x) n = Vt f n := Vt_ext (fun _ _ h2 => up_ne (by omega))
theorem Vt_zero {f : Int → Int} {n : Int} (h0 : 0 ≤ n) (h : ∀ j, 0 ≤ j → j < n → f j = 0) : Vt f n = 0 := by
  rw [Vt_ext (g := fun _ => 0) h]
  unfold Vt
  generalize n.toNat = k
  induction k with
  | zero => rfl
  | succ k ih => show Vtn _ k + 0 * 10 ^ k = 0; rw [ih]; omega
theorem Vt_bd {f : Int → Int} {N : Int} (h : bd f N 0 9) : ∀ n : Nat, (n : Int) ≤ N → 0 ≤ Vt f n ∧ Vt f n < Tp n := by
  intro n
  induction n with
  | zero => intro _; exact ⟨Int.le_refl 0, by rw [show ((0 : Nat) : Int) = 0 from rfl, Vt_0, Tp_0]; decide⟩
  | succ n ih =>
    intro hn
    have i1 := ih (by omega)
    have b := h n (by omega) (by omega)
    have e1 : ((n + 1 : Nat) : Int) = (n : Int) + 1 := by omega
    rw [e1, Vt_s f (by omega), Tp_s (by omega)]
    have p := Tp_pos (n : Int)
    have m1 : 0 ≤ f n * Tp n := Int.mul_nonneg b.1 (by omega)
    have m2 : f n * Tp n ≤ 9 * Tp n := Int.mul_le_mul_of_nonneg_right b.2 (by omega)
    omega
theorem Vt_in {f : Int → Int} {N n : Int} (h : bd f N 0 9) (h0 : 0 ≤ n) (h1 : n ≤ N) : 0 ≤ Vt f n ∧ Vt f n < Tp n := by
  have := Vt_bd h n.toNat (by omega)
  rwa [show ((n.toNat : Nat) : Int) = n by omega] at this
theorem Vt_put (h : Int → Int) {i x : Int} (h0 : 0 ≤ i) : Vt (up h i x) (i + 1) = Vt h i + x * Tp i := by
  rw [Vt_s _ h0, Vt_up (Int.le_refl i), up_at]
theorem Vt_hi (f : Int → Int) {n N : Int} (h0 : 0 ≤ n) (h1 : n ≤ N) : ∃ t : Int, ∀ g : Int → Int, (∀ j, n ≤ j → j < N → g j = f j) → Vt g N = Vt g n + t * Tp n := by
  have key : ∀ k : Nat, n + k ≤ N → ∃ t : Int, ∀ g : Int → Int, (∀ j, n ≤ j → j < N → g j = f j) → Vt g (n + k) = Vt g n + t * Tp n := by
    intro k
    induction k with
    | zero => intro _; exact ⟨0, fun g _ => by rw [show n + ((0 : Nat) : Int) = n by omega]; omega⟩
    | succ k ih =>
      intro hk
      obtain ⟨t, ht⟩ := ih (by omega)
      refine ⟨t + f (n + k) * Tp k, fun g hg => ?_⟩
      rw [show n + ((k + 1 : Nat) : Int) = (n + k) + 1 by omega, Vt_s g (by omega), ht g hg, hg (n + k) (by omega) (by omega), Tp_add h0 (by omega), Int.add_mul, Int.mul_assoc, Int.mul_comm (Tp n)]
      omega
  obtain ⟨t, ht⟩ := key (N - n).toNat (by omega)
  refine ⟨t, fun g hg => ?_⟩
  have := ht g hg
  rwa [show n + (((N - n).toNat : Nat) : Int) = N by omega] at this
theorem Vt_lt {f g : Int → Int} {N i : Int} (bf : bd f N 0 9) (bg : bd g N 0 9) (h0 : 0 ≤ i) (h1 : i < N) (he : ∀ j, i < j → j < N → f j = g j) (h : f i < g i) : Vt f N < Vt g N := by
  obtain ⟨t, ht⟩ := Vt_hi g (n := i + 1) (N := N) (by omega) (by omega)
  have e1 := ht g (fun _ _ _ => rfl)
  have e2 := ht f (fun j g1 g2 => he j (by omega) g2)
  rw [e1, e2, Vt_s f h0, Vt_s g h0]
  have a := Vt_in bf h0 (by omega)
  have b := Vt_in bg h0 (by omega)
  have m : (f i + 1) * Tp i ≤ g i * Tp i := Int.mul_le_mul_of_nonneg_right (by omega) (by omega)
  rw [Int.add_mul] at m
  omega
theorem Vt_eqv {f g : Int → Int} {N : Int} (he : ∀ j, -1 < j → j < N → f j = g j) : Vt f N = Vt g N := Vt_ext (fun j h0 h1 => he j (by omega) h1)
theorem Vt_top {f : Int → Int} {N t : Int} (h0 : 0 ≤ t) (h1 : t < N) (hz : ∀ j, t < j → j < N → f j = 0) : Vt f N = Vt f t + f t * Tp t := by
  obtain ⟨x, hx⟩ := Vt_hi (fun _ => 0) (n := t + 1) (N := N) (by omega) (by omega)
  have e0 := hx (fun _ => 0) (fun _ _ _ => rfl)
  rw [Vt_zero (by omega) (fun _ _ _ => rfl), Vt_zero (by omega) (fun _ _ _ => rfl)] at e0
  have e1 := hx f (fun j g1 g2 => hz j (by omega) g2)
  rw [e1, Vt_s f h0]
  omega
theorem Vt_small {f : Int → Int} {N n : Int} (bf : bd f N 0 9) (h0 : 0 ≤ n) (h : Vt f N < Tp n) : ∀ j, n ≤ j → j < N → f j = 0 := by
  intro j g1 g2
  have b := bf j (by omega) g2
  refine Classical.byContradiction (fun hh => ?_)
  obtain ⟨t, ht⟩ := Vt_hi f (n := j + 1) (N := N) (by omega) (by omega)
  have e := ht f (fun _ _ _ => rfl)
  have e0 := ht (fun i => if i ≤ j then 0 else f i) (fun i i1 i2 => if_neg (by omega))
  have b0 : bd (fun i => if i ≤ j then 0 else f i) N 0 9 := fun i i1 i2 => by
    show 0 ≤ (if i ≤ j then 0 else f i) ∧ (if i ≤ j then 0 else f i) ≤ 9
    by_cases hi : i ≤ j
    · rw [if_pos hi]; omega
    · rw [if_neg hi]; exact bf i i1 i2
  have p0 := Vt_in b0 (show 0 ≤ N by omega) (Int.le_refl N)
  rw [Vt_zero (f := fun i => if i ≤ j then 0 else f i) (n := j + 1) (by omega) (fun i i1 i2 => if_pos (by omega))] at e0
  have p1 := Vt_in bf (n := j) (by omega) (by omega)
  rw [Vt_s f (by omega)] at e
  have m1 := Int.mul_le_mul_of_nonneg_right (show 1 ≤ f j by omega) (show 0 ≤ Tp j by omega)
  have m2 : Tp n ≤ Tp j := Tp_mono h0 g1
  omega
theorem dm1 (s b : Int) : (s % 10) * b + (s / 10) * (10 * b) = s * b := by
  rw [← Int.mul_assoc, Int.mul_comm (s / 10) 10, ← Int.add_mul, Int.emod_add_mul_ediv]
/-- a carry -/
theorem ca_step {f h : Int → Int} {i c v : Int} (h0 : 0 ≤ i) (hv1 : v = f i + c) (hv : Vt h i + c * Tp i = Vt f i) :
    Vt (up h i (v - 10 * (v / 10))) (i + 1) + v / 10 * Tp (i + 1) = Vt f (i + 1) := by
  rw [Vt_put h h0, Vt_s f h0, Tp_s h0]
  have k := dm1 v (Tp i)
  have e : v - 10 * (v / 10) = v % 10 := by omega
  rw [e]
  have e2 : v * Tp i = f i * Tp i + c * Tp i := by rw [hv1, Int.add_mul]
  omega
theorem Vt_neg (f : Int → Int) : ∀ n : Nat, Vt (fun j => -f j) n = -Vt f n := by
  intro n
  induction n with
  | zero => rfl
  | succ n ih => rw [show ((n + 1 : Nat) : Int) = (n : Int) + 1 by omega, Vt_s _ (by omega), Vt_s _ (by omega), ih, Int.neg_mul]; omega
/-- the end of a carry over a number that is not negative, or negative -/
theorem ca_pos {f h : Int → Int} {N c : Int} (bh : bd h N 0 9) (hN : 0 ≤ N) (hv : Vt h N + c * Tp N = Vt f N) : (0 ≤ Vt f N → Vt f N < Tp N → c = 0 ∧ Vt h N = Vt f N) ∧ (Vt f N < 0 → c < 0) ∧ (0 ≤ Vt f N → 0 ≤ c) := by
  have b := Vt_in bh hN (Int.le_refl N)
  have p := Tp_pos N
  refine ⟨fun a1 a2 => ?_, fun a1 => ?_, fun a1 => ?_⟩
  · have c0 : c = 0 := by
      refine Classical.byContradiction (fun hh => ?_)
      by_cases g : 1 ≤ c
      · have m := mul_le_r g (show 0 ≤ Tp N by omega)
        omega
      · have m := mul_le_r (show c ≤ -1 by omega) (show 0 ≤ Tp N by omega)
        omega
    rw [c0] at hv ⊢
    omega
  · refine Int.not_le.mp (fun hh => ?_)
    have m : 0 ≤ c * Tp N := Int.mul_nonneg hh (by omega)
    omega
  · refine Int.not_lt.mp (fun hh => ?_)
    have m := mul_le_r (show c ≤ -1 by omega) (show 0 ≤ Tp N by omega)
    omega
theorem Vt_cut {f h : Int → Int} {N d : Int} (bf : bd f N 0 9) (h0 : 0 ≤ d) (h1 : d ≤ N) (hz : ∀ j, 0 ≤ j → j < d → h j = 0) (hs : ∀ j, d ≤ j → h j = f j) : Vt h N = Vt f N / Tp d * Tp d := by
  obtain ⟨t, ht⟩ := Vt_hi f h0 h1
  have e1 := ht f (fun _ _ _ => rfl)
  have e2 := ht h (fun j g1 _ => hs j g1)
  have b := Vt_in bf h0 h1
  have p := Tp_pos d
  rw [e2, e1, Vt_zero h0 hz, Int.add_mul_ediv_right _ _ (by omega), Int.ediv_eq_zero_of_lt b.1 b.2, Int.zero_add, Int.zero_add]
theorem Vt_dig {f : Int → Int} {N p : Int} (bf : bd f N 0 9) (h0 : 0 ≤ p) (h1 : p < N) : f p = Vt f N / Tp p % 10 := by
  obtain ⟨t, ht⟩ := Vt_hi f (n := p + 1) (N := N) (by omega) (by omega)
  have e := ht f (fun _ _ _ => rfl)
  have b := Vt_in bf (n := p) (by omega) (by omega)
  have x := bf p h0 h1
  have p0 := Tp_pos p
  rw [e, Vt_s f h0, Tp_s h0, show Vt f p + f p * Tp p + t * (10 * Tp p) = Vt f p + (f p + t * 10) * Tp p by rw [Int.add_mul, Int.mul_assoc]; omega, Int.add_mul_ediv_right _ _ (by omega), Int.ediv_eq_zero_of_lt b.1 b.2]
  omega
theorem Vt_set (k : Int → Int) {N s x : Int} (h0 : 0 ≤ s) (h1 : s < N) : Vt (up k s x) N = Vt k N - k s * Tp s + x * Tp s := by
  obtain ⟨t, ht⟩ := Vt_hi k (n := s + 1) (N := N) (by omega) (by omega)
  have e1 := ht k (fun _ _ _ => rfl)
  have e2 := ht (up k s x) (fun j g1 g2 => up_ne (by omega))
  rw [Vt_put k h0] at e2
  rw [Vt_s k h0] at e1
  omega
theorem un_T {v k T X : Int} (h : v + k * T = X) (h0 : 0 ≤ v) (h1 : v < T) (x0 : 0 ≤ X) (x1 : X < T) : v = X := by
  have e := md_of h h0 h1
  rw [Int.emod_eq_of_lt x0 x1] at e
  exact e
theorem se_neg {a c1 v1 v2 c2 T : Int} (e1 : v1 + c1 * T = a) (e2 : v2 + c2 * T = -v1) (h0 : 0 ≤ v2) (h1 : v2 < T) (x0 : a < 0) (x1 : -T < a) : v2 = -a := by
  refine un_T (k := c2 - c1) ?_ h0 h1 (by omega) (by omega)
  rw [Int.sub_mul]
  omega
theorem Vt_nx {f h : Int → Int} (hd : ∀ j : Int, 0 ≤ j → j < 140 → h j = -f j) : Vt h 140 = -Vt f 140 := by
  rw [Vt_ext (g := fun j => -f j) (fun j g1 g2 => hd j g1 g2)]
  exact Vt_neg f 140
theorem rn_up {X v p : Int} (hp : 0 < p) (hX : v = X / Tp p * Tp p) (h5 : 5 ≤ X / Tp (p - 1) % 10) : v + Tp p = Rn X p := by
  unfold Rn
  rw [if_neg (by omega), if_pos h5, Int.add_mul, hX, Int.one_mul]
theorem rn_dn {X v p : Int} (hp : 0 < p) (hX : v = X / Tp p * Tp p) (h5 : ¬ 5 ≤ X / Tp (p - 1) % 10) : v = Rn X p := by
  unfold Rn
  rw [if_neg (by omega), if_neg h5, hX]
  congr 1
  omega
theorem re_lt {f : Int → Int} {N n : Int} (bf : bd f N 0 9) (h0 : 0 ≤ n) (h1 : n ≤ N) (hz : ∀ j, n ≤ j → j < N → f j = 0) : Vt f N < Tp n := by
  obtain ⟨x, hx⟩ := Vt_hi (fun _ => 0) (n := n) (N := N) h0 h1
  have e0 := hx (fun _ => 0) (fun _ _ _ => rfl)
  rw [Vt_zero (by omega) (fun _ _ _ => rfl), Vt_zero (by omega) (fun _ _ _ => rfl)] at e0
  have e1 := hx f (fun j g1 g2 => hz j g1 g2)
  have b := Vt_in bf h0 h1
  omega
