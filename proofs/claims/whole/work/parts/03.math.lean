/-! Numbers out of rows of limbs (base 10000): pure rows. -/
abbrev bd (f : Int → Int) (N lo hi : Int) : Prop := ∀ i : Int, 0 ≤ i → i < N → lo ≤ f i ∧ f i ≤ hi
theorem bd_up {f : Int → Int} {N lo hi : Int} (h : bd f N lo hi) (k x : Int) (hx : lo ≤ x ∧ x ≤ hi) : bd (up f k x) N lo hi := by
  intro i h0 h1
  by_cases e : i = k
  · rw [e, up_at]; exact hx
  · rw [up_ne e]; exact h i h0 h1
def Bp (i : Int) : Int := 10000 ^ i.toNat
def Vn (f : Int → Int) : Nat → Int
  | 0 => 0
  | n + 1 => Vn f n + f n * 10000 ^ n
def V (f : Int → Int) (n : Int) : Int := Vn f n.toNat
theorem Bp_0 : Bp 0 = 1 := rfl
theorem Bp_s {i : Int} (h : 0 ≤ i) : Bp (i + 1) = 10000 * Bp i := by
  unfold Bp
  rw [show (i + 1).toNat = i.toNat + 1 by omega, Int.pow_succ, Int.mul_comm]
theorem Bp_pos (i : Int) : 0 < Bp i := Int.pow_pos (by decide)
theorem Bp_add {i j : Int} (hi : 0 ≤ i) (hj : 0 ≤ j) : Bp (i + j) = Bp i * Bp j := by
  unfold Bp
  rw [show (i + j).toNat = i.toNat + j.toNat by omega, Int.pow_add]
theorem Tp_0 : Tp 0 = 1 := rfl
theorem Tp_s {i : Int} (h : 0 ≤ i) : Tp (i + 1) = 10 * Tp i := by
  unfold Tp
  rw [show (i + 1).toNat = i.toNat + 1 by omega, Int.pow_succ, Int.mul_comm]
theorem Tp_pos (i : Int) : 0 < Tp i := Int.pow_pos (by decide)
theorem Tp_add {i j : Int} (hi : 0 ≤ i) (hj : 0 ≤ j) : Tp (i + j) = Tp i * Tp j := by
  unfold Tp
  rw [show (i + j).toNat = i.toNat + j.toNat by omega, Int.pow_add]
theorem Bp_Tp {i : Int} (h : 0 ≤ i) : Bp i = Tp (4 * i) := by
  unfold Bp Tp
  rw [show (4 * i).toNat = 4 * i.toNat by omega, Int.pow_mul]
  rfl
theorem V_0 (f : Int → Int) : V f 0 = 0 := rfl
theorem V_s (f : Int → Int) {i : Int} (h : 0 ≤ i) : V f (i + 1) = V f i + f i * Bp i := by
  unfold V Bp
  rw [show (i + 1).toNat = i.toNat + 1 by omega]
  show Vn f i.toNat + f (i.toNat : Int) * 10000 ^ i.toNat = _
  rw [show ((i.toNat : Nat) : Int) = i by omega]
theorem V_ext {f g : Int → Int} : ∀ {n : Int}, (∀ j, 0 ≤ j → j < n → f j = g j) → V f n = V g n := by
  intro n
  unfold V
  intro h
  have key : ∀ k : Nat, (k : Int) ≤ n ∨ k = 0 → Vn f k = Vn g k := by
    intro k
    induction k with
    | zero => intro _; rfl
    | succ k ih =>
      intro hk
      have hk' : ((k + 1 : Nat) : Int) ≤ n := by omega
      show Vn f k + f k * 10000 ^ k = Vn g k + g k * 10000 ^ k
      rw [ih (by omega), h k (by omega) (by omega)]
  exact key n.toNat (by omega)
theorem V_up {f : Int → Int} {n k x : Int} (h : n ≤ k) : V (up f k x) n = V f n := V_ext (fun _ _ h2 => up_ne (by omega))
theorem V_zero {f : Int → Int} {n : Int} (h0 : 0 ≤ n) (h : ∀ j, 0 ≤ j → j < n → f j = 0) : V f n = 0 := by
  rw [V_ext (g := fun _ => 0) h]
  unfold V
  generalize n.toNat = k
  induction k with
  | zero => rfl
  | succ k ih => show Vn _ k + 0 * 10000 ^ k = 0; rw [ih]; omega
theorem V_bd {f : Int → Int} {N : Int} (h : bd f N 0 9999) : ∀ n : Nat, (n : Int) ≤ N → 0 ≤ V f n ∧ V f n < Bp n := by
  intro n
  induction n with
  | zero => intro _; exact ⟨Int.le_refl 0, by rw [show ((0 : Nat) : Int) = 0 from rfl, V_0, Bp_0]; decide⟩
  | succ n ih =>
    intro hn
    have i1 := ih (by omega)
    have b := h n (by omega) (by omega)
    have e1 : ((n + 1 : Nat) : Int) = (n : Int) + 1 := by omega
    rw [e1, V_s f (by omega), Bp_s (by omega)]
    have p := Bp_pos (n : Int)
    have m1 : 0 ≤ f n * Bp n := Int.mul_nonneg b.1 (by omega)
    have m2 : f n * Bp n ≤ 9999 * Bp n := Int.mul_le_mul_of_nonneg_right b.2 (by omega)
    omega
theorem V_in {f : Int → Int} {N n : Int} (h : bd f N 0 9999) (h0 : 0 ≤ n) (h1 : n ≤ N) : 0 ≤ V f n ∧ V f n < Bp n := by
  have := V_bd h n.toNat (by omega)
  rwa [show ((n.toNat : Nat) : Int) = n by omega] at this
theorem dm4 (s b : Int) : (s % 10000) * b + (s / 10000) * (10000 * b) = s * b := by
  rw [← Int.mul_assoc, Int.mul_comm (s / 10000) 10000, ← Int.add_mul, Int.emod_add_mul_ediv]
theorem tl_step {f : Int → Int} {t N : Int} (h2 : ∀ j, t < j → j < N → f j = 0) (h : f t = 0) : ∀ j, t + (-1) < j → j < N → f j = 0 := by
  intro j g1 g2
  by_cases g : j = t
  · rw [g]; exact h
  · exact h2 j (by omega) g2
theorem ks_step {f h : Int → Int} {i x : Int} (hs : ∀ j, i ≤ j → h j = f j) : ∀ j, i + 1 ≤ j → up h i x j = f j := by
  intro j g
  rw [up_ne (by omega)]
  exact hs j (by omega)
theorem md_of {a b c v : Int} (h : v + c * b = a) (h0 : 0 ≤ v) (h1 : v < b) : v = a % b := by
  rw [← h, Int.add_mul_emod_self_right, Int.emod_eq_of_lt h0 h1]
theorem V_put (h : Int → Int) {i x : Int} (h0 : 0 ≤ i) : V (up h i x) (i + 1) = V h i + x * Bp i := by
  rw [V_s _ h0, V_up (Int.le_refl i), up_at]
theorem add_step {f g h : Int → Int} {i c : Int} (h0 : 0 ≤ i) (hs : h i = f i) (hv : V h i + c * Bp i = V f i + V g i) :
    V (up h i ((h i + g i + c) % 10000)) (i + 1) + (h i + g i + c) / 10000 * Bp (i + 1) = V f (i + 1) + V g (i + 1) := by
  rw [V_put h h0, V_s f h0, V_s g h0, Bp_s h0]
  have k := dm4 (h i + g i + c) (Bp i)
  rw [Int.add_mul, Int.add_mul] at k
  rw [hs] at k ⊢
  omega
theorem sub_step {f g h : Int → Int} {i c d b : Int} (h0 : 0 ≤ i) (hd : d = f i - g i - c) (hv : V h i - c * Bp i = V f i - V g i) :
    V (up h i (d + b * 10000)) (i + 1) - b * Bp (i + 1) = V f (i + 1) - V g (i + 1) := by
  rw [V_put h h0, V_s f h0, V_s g h0, Bp_s h0, hd, Int.add_mul, Int.sub_mul, Int.sub_mul, Int.mul_assoc b]
  omega
theorem addAA_step {f h : Int → Int} {i c : Int} (h0 : 0 ≤ i) (hs : h i = f i) (hv : V h i + c * Bp i = V f i + V f i) :
    V (up h i ((h i + h i + c) % 10000)) (i + 1) + (h i + h i + c) / 10000 * Bp (i + 1) = V f (i + 1) + V f (i + 1) := by
  have k := add_step (g := f) h0 hs hv
  rw [← hs] at k
  exact k
/-- what stands from n on, as a number -/
theorem V_hi (f : Int → Int) {n N : Int} (h0 : 0 ≤ n) (h1 : n ≤ N) : ∃ t : Int, ∀ g : Int → Int, (∀ j, n ≤ j → j < N → g j = f j) → V g N = V g n + t * Bp n := by
  have key : ∀ k : Nat, n + k ≤ N → ∃ t : Int, ∀ g : Int → Int, (∀ j, n ≤ j → j < N → g j = f j) → V g (n + k) = V g n + t * Bp n := by
    intro k
    induction k with
    | zero => intro _; exact ⟨0, fun g _ => by rw [show n + ((0 : Nat) : Int) = n by omega]; omega⟩
    | succ k ih =>
      intro hk
      obtain ⟨t, ht⟩ := ih (by omega)
      refine ⟨t + f (n + k) * Bp k, fun g hg => ?_⟩
      rw [show n + ((k + 1 : Nat) : Int) = (n + k) + 1 by omega, V_s g (by omega), ht g hg, hg (n + k) (by omega) (by omega), Bp_add h0 (by omega), Int.add_mul, Int.mul_assoc, Int.mul_comm (Bp n)]
      omega
  obtain ⟨t, ht⟩ := key (N - n).toNat (by omega)
  refine ⟨t, fun g hg => ?_⟩
  have := ht g hg
  rwa [show n + (((N - n).toNat : Nat) : Int) = N by omega] at this
theorem V_lt {f g : Int → Int} {N i : Int} (bf : bd f N 0 9999) (bg : bd g N 0 9999) (h0 : 0 ≤ i) (h1 : i < N) (he : ∀ j, i < j → j < N → f j = g j) (h : f i < g i) : V f N < V g N := by
  obtain ⟨t, ht⟩ := V_hi g (n := i + 1) (N := N) (by omega) (by omega)
  have e1 := ht g (fun _ _ _ => rfl)
  have e2 := ht f (fun j g1 g2 => he j (by omega) g2)
  rw [e1, e2, V_s f h0, V_s g h0]
  have a := V_in bf h0 (by omega)
  have b := V_in bg h0 (by omega)
  have m : (f i + 1) * Bp i ≤ g i * Bp i := Int.mul_le_mul_of_nonneg_right (by omega) (by omega)
  rw [Int.add_mul] at m
  omega
theorem V_eqv {f g : Int → Int} {N : Int} (he : ∀ j, -1 < j → j < N → f j = g j) : V f N = V g N := V_ext (fun j h0 h1 => he j (by omega) h1)
theorem one_step {f h : Int → Int} {i c T : Int} (h0 : 0 ≤ i) (hs : h i = f i) (hv : V h i + c * Bp i = V f i + T) :
    V (up h i ((h i + c) % 10000)) (i + 1) + (h i + c) / 10000 * Bp (i + 1) = V f (i + 1) + T := by
  rw [V_put h h0, V_s f h0, Bp_s h0]
  have k := dm4 (h i + c) (Bp i)
  rw [Int.add_mul] at k
  rw [hs] at k ⊢
  omega
theorem one_end {f h : Int → Int} {i N T : Int} (bh : bd h N 0 9999) (h0 : 0 ≤ i) (h1 : i ≤ N) (hs : ∀ j, i ≤ j → h j = f j) (hv : V h i + 0 * Bp i = V f i + T) : V h N = (V f N + T) % Bp N := by
  obtain ⟨t, ht⟩ := V_hi f h0 h1
  have e1 := ht h (fun j g1 _ => hs j g1)
  have e2 := ht f (fun _ _ _ => rfl)
  have b := V_in bh (by omega) (Int.le_refl N)
  exact md_of (c := 0) (by omega) b.1 b.2
theorem Tp_q {p : Int} (h : 0 ≤ p) : Tp p = Tp (p % 4) * Bp (p / 4) := by
  rw [Bp_Tp (by omega), ← Tp_add (by omega) (by omega)]
  exact congrArg Tp (by omega)
theorem edd (a c : Int) {b : Int} (hb : 0 < b) : a / (b * c) = a / b / c := by
  rw [Int.ediv_ediv, if_neg (fun h => absurd h.1 (by omega)), Int.sub_zero]
theorem V_dig {f : Int → Int} {N p : Int} (bf : bd f N 0 9999) (h0 : 0 ≤ p) (h1 : p < N * 4) : f (p / 4) / Tp (p % 4) % 10 = V f N / Tp p % 10 := by
  obtain ⟨t, ht⟩ := V_hi f (n := p / 4 + 1) (N := N) (by omega) (by omega)
  have e := ht f (fun _ _ _ => rfl)
  have b := V_in bf (n := p / 4) (by omega) (by omega)
  have p0 := Bp_pos (p / 4)
  rw [e, V_s f (by omega), Bp_s (by omega), Tp_q h0, Int.mul_comm (Tp (p % 4)), edd _ _ p0]
  rw [show V f (p / 4) + f (p / 4) * Bp (p / 4) + t * (10000 * Bp (p / 4)) = V f (p / 4) + (f (p / 4) + t * 10000) * Bp (p / 4) by rw [Int.add_mul, Int.mul_assoc]; omega]
  rw [Int.add_mul_ediv_right _ _ (by omega), Int.ediv_eq_zero_of_lt b.1 b.2]
  generalize f (p / 4) = x
  have c : p % 4 = 0 ∨ p % 4 = 1 ∨ p % 4 = 2 ∨ p % 4 = 3 := by omega
  rcases c with c | c | c | c <;> rw [c]
  · show x / 1 % 10 = (0 + (x + t * 10000)) / 1 % 10; omega
  · show x / 10 % 10 = (0 + (x + t * 10000)) / 10 % 10; omega
  · show x / 100 % 10 = (0 + (x + t * 10000)) / 100 % 10; omega
  · show x / 1000 % 10 = (0 + (x + t * 10000)) / 1000 % 10; omega
theorem V_big {f : Int → Int} {N p : Int} (bf : bd f N 0 9999) (hN : 0 ≤ N) (h1 : N * 4 ≤ p) : V f N / Tp p = 0 := by
  have b := V_in bf hN (Int.le_refl N)
  refine Int.ediv_eq_zero_of_lt b.1 (Int.lt_of_lt_of_le b.2 ?_)
  rw [Bp_Tp hN, show p = 4 * N + (p - 4 * N) by omega, Tp_add (by omega) (by omega)]
  have a := Tp_pos (4 * N)
  have d := Tp_pos (p - 4 * N)
  have := Int.mul_le_mul_of_nonneg_left (show 1 ≤ Tp (p - 4 * N) by omega) (show 0 ≤ Tp (4 * N) by omega)
  omega
/-- the lower places cut off -/
theorem V_cut {f h : Int → Int} {N d : Int} (bf : bd f N 0 9999) (h0 : 0 ≤ d) (h1 : d < N * 4) (hz : ∀ j, 0 ≤ j → j < d / 4 → h j = 0) (hs : ∀ j, d / 4 ≤ j → h j = f j) :
    V (up h (d / 4) (h (d / 4) - h (d / 4) % Tp (d % 4))) N = V f N / Tp d * Tp d := by
  obtain ⟨t, ht⟩ := V_hi f (n := d / 4 + 1) (N := N) (by omega) (by omega)
  have e1 := ht f (fun _ _ _ => rfl)
  have e2 := ht (up h (d / 4) (h (d / 4) - h (d / 4) % Tp (d % 4))) (fun j g1 g2 => by rw [up_ne (by omega)]; exact hs j (by omega))
  have b := V_in bf (n := d / 4) (by omega) (by omega)
  have bx := bf (d / 4) (by omega) (by omega)
  have p0 := Bp_pos (d / 4)
  rw [e2, V_put h (by omega), V_zero (by omega) hz, hs _ (Int.le_refl _), e1, V_s f (by omega), Bp_s (by omega), Tp_q h0]
  rw [show V f (d / 4) + f (d / 4) * Bp (d / 4) + t * (10000 * Bp (d / 4)) = V f (d / 4) + (f (d / 4) + t * 10000) * Bp (d / 4) by rw [Int.add_mul, Int.mul_assoc]; omega]
  rw [Int.mul_comm (Tp (d % 4)), edd _ _ p0, Int.add_mul_ediv_right _ _ (by omega), Int.ediv_eq_zero_of_lt b.1 b.2, Int.mul_comm (Bp (d / 4)), ← Int.mul_assoc ((0 + (f (d / 4) + t * 10000)) / Tp (d % 4))]
  rw [show 0 + (f (d / 4) - f (d / 4) % Tp (d % 4)) * Bp (d / 4) + t * (10000 * Bp (d / 4)) = (f (d / 4) - f (d / 4) % Tp (d % 4) + t * 10000) * Bp (d / 4) by rw [Int.add_mul, Int.mul_assoc]; omega]
  refine congrArg (· * Bp (d / 4)) ?_
  generalize f (d / 4) = x
  have c : d % 4 = 0 ∨ d % 4 = 1 ∨ d % 4 = 2 ∨ d % 4 = 3 := by omega
  rcases c with c | c | c | c <;> rw [c]
  · show x - x % 1 + t * 10000 = (0 + (x + t * 10000)) / 1 * 1; omega
  · show x - x % 10 + t * 10000 = (0 + (x + t * 10000)) / 10 * 10; omega
  · show x - x % 100 + t * 10000 = (0 + (x + t * 10000)) / 100 * 100; omega
  · show x - x % 1000 + t * 10000 = (0 + (x + t * 10000)) / 1000 * 1000; omega
theorem eq_step {f g : Int → Int} {t N : Int} (h2 : ∀ j, t < j → j < N → f j = g j) (h : f t = g t) : ∀ j, t + (-1) < j → j < N → f j = g j := by
  intro j g1 g2
  by_cases g : j = t
  · rw [g]; exact h
  · exact h2 j (by omega) g2
theorem z_step {h : Int → Int} {i : Int} (hz : ∀ j, 0 ≤ j → j < i → h j = 0) : ∀ j, 0 ≤ j → j < i + 1 → up h i 0 j = 0 := by
  intro j g1 g2
  by_cases g : j = i
  · rw [g, up_at]
  · rw [up_ne g]; exact hz j g1 (by omega)
/-- a row with zeros behind its end -/
def ex (g : Int → Int) (M : Int) : Int → Int := fun j => if j < M then g j else 0
theorem ex_lt {g : Int → Int} {M j : Int} (h : j < M) : ex g M j = g j := if_pos h
theorem ex_ge {g : Int → Int} {M j : Int} (h : M ≤ j) : ex g M j = 0 := if_neg (by omega)
theorem ex_bd {g : Int → Int} {M : Int} (h : bd g M 0 9999) {j : Int} (h0 : 0 ≤ j) : 0 ≤ ex g M j ∧ ex g M j ≤ 9999 := by
  by_cases hj : j < M
  · rw [ex_lt hj]; exact h j h0 hj
  · rw [ex_ge (by omega)]; omega
theorem V_ex {g : Int → Int} {M n : Int} (h : n ≤ M) : V (ex g M) n = V g n := V_ext (fun _ _ h2 => ex_lt (by omega))
theorem V_exM {g : Int → Int} {M n : Int} (h0 : 0 ≤ M) (h : M ≤ n) : V (ex g M) n = V g M := by
  have key : ∀ k : Nat, V (ex g M) (M + k) = V g M := by
    intro k
    induction k with
    | zero => rw [show M + ((0 : Nat) : Int) = M by omega]; exact V_ex (Int.le_refl M)
    | succ k ih => rw [show M + ((k + 1 : Nat) : Int) = (M + k) + 1 by omega, V_s _ (by omega), ih, ex_ge (by omega)]; omega
  have := key (n - M).toNat
  rwa [show M + (((n - M).toNat : Nat) : Int) = n by omega] at this
theorem mul_bd {a b : Int} (ha : 0 ≤ a ∧ a ≤ 9999) (hb : 0 ≤ b ∧ b ≤ 9999) : 0 ≤ a * b ∧ a * b ≤ 99980001 := by
  refine ⟨Int.mul_nonneg ha.1 hb.1, ?_⟩
  have h1 : a * b ≤ 9999 * b := Int.mul_le_mul_of_nonneg_right ha.2 hb.1
  omega
theorem am_step {f g h : Int → Int} {i c x L y : Int} (hx : 0 ≤ x) (hi : x ≤ i) (hs : h i = f i) (hy : y = g (i - x)) (hv : V h i + c * Bp i = V f i + L * V g (i - x) * Bp x) :
    V (up h i ((h i + y * L + c) % 10000)) (i + 1) + (h i + y * L + c) / 10000 * Bp (i + 1) = V f (i + 1) + L * V g (i + 1 - x) * Bp x := by
  rw [V_put h (by omega), V_s f (by omega), Bp_s (by omega), show i + 1 - x = (i - x) + 1 by omega, V_s g (by omega)]
  have k := dm4 (h i + y * L + c) (Bp i)
  have e : Bp i = Bp (i - x) * Bp x := by rw [← Bp_add (by omega) hx]; exact congrArg Bp (by omega)
  rw [Int.add_mul, Int.add_mul, Int.mul_comm y L, Int.mul_assoc L y] at k
  have e2 : L * (V g (i - x) + g (i - x) * Bp (i - x)) * Bp x = L * V g (i - x) * Bp x + L * (y * Bp i) := by
    rw [Int.mul_add, Int.add_mul, e, ← hy, Int.mul_assoc L (y * Bp (i - x)), Int.mul_assoc y]
  rw [e2, Int.mul_comm y L]
  rw [hs] at k ⊢
  omega
theorem am_end {f g h : Int → Int} {N M x L c : Int} (bh : bd h N 0 9999) (hM : 0 ≤ M) (hx : 0 ≤ x) (hN : x ≤ N) (hv : V h N + c * Bp N = V f N + L * V (ex g M) (N - x) * Bp x) : V h N = (V f N + L * V g M * Bp x) % Bp N := by
  have b := V_in bh (by omega) (Int.le_refl N)
  by_cases hm : M ≤ N - x
  · rw [V_exM hM hm] at hv
    exact md_of hv b.1 b.2
  · rw [V_ex (by omega)] at hv
    obtain ⟨t, ht⟩ := V_hi g (n := N - x) (N := M) (by omega) (by omega)
    have e := ht g (fun _ _ _ => rfl)
    have e1 : Bp N = Bp (N - x) * Bp x := by rw [← Bp_add (by omega) hx]; exact congrArg Bp (by omega)
    refine md_of (c := c + L * t) ?_ b.1 b.2
    rw [e, Int.add_mul c, Int.mul_add L, Int.add_mul (L * V g (N - x)), e1, Int.mul_assoc L t, Int.mul_assoc L (t * Bp (N - x)), Int.mul_assoc t]
    rw [e1] at hv
    omega
theorem V_top {f : Int → Int} {N t : Int} (h0 : 0 ≤ t) (h1 : t < N) (hz : ∀ j, t < j → j < N → f j = 0) : V f N = V f t + f t * Bp t := by
  obtain ⟨x, hx⟩ := V_hi (fun _ => 0) (n := t + 1) (N := N) (by omega) (by omega)
  have e0 := hx (fun _ => 0) (fun _ _ _ => rfl)
  rw [V_zero (by omega) (fun _ _ _ => rfl), V_zero (by omega) (fun _ _ _ => rfl)] at e0
  have e1 := hx f (fun j g1 g2 => hz j (by omega) g2)
  rw [e1, V_s f h0]
  omega
theorem dg_end {f : Int → Int} {N t k : Int} (bf : bd f N 0 9999) (h0 : 0 ≤ t) (h1 : t < N) (hz : ∀ j, t < j → j < N → f j = 0) (hk : 1 ≤ k) (g1 : Tp (k - 1) ≤ f t) (g2 : f t < Tp k) : Tp (t * 4 + k - 1) ≤ V f N ∧ V f N < Tp (t * 4 + k) := by
  have b := V_in bf h0 (by omega)
  rw [V_top h0 h1 hz, show t * 4 + k - 1 = (k - 1) + 4 * t by omega, show t * 4 + k = k + 4 * t by omega, Tp_add (by omega) (by omega), Tp_add (by omega) (by omega), ← Bp_Tp h0]
  have m1 := Int.mul_le_mul_of_nonneg_right g1 (show 0 ≤ Bp t by omega)
  have m2 := Int.mul_le_mul_of_nonneg_right (show f t + 1 ≤ Tp k by omega) (show 0 ≤ Bp t by omega)
  rw [Int.add_mul] at m2
  omega
/-- how many decimal digits -/
def dgs (v z : Int) : Prop := (z = 0 ∧ v = 0) ∨ (0 < z ∧ Tp (z - 1) ≤ v ∧ v < Tp z)
theorem Tp_mono {a b : Int} (h0 : 0 ≤ a) (h : a ≤ b) : Tp a ≤ Tp b := by
  rw [show b = a + (b - a) by omega, Tp_add h0 (by omega)]
  have x := Tp_pos (b - a)
  have y := Tp_pos a
  have := Int.mul_le_mul_of_nonneg_left (show 1 ≤ Tp (b - a) by omega) (show 0 ≤ Tp a by omega)
  omega
/-- more digits than n: the number reaches 10^n -/
theorem dgs_gt {v z n : Int} (h : dgs v z) (hv : 0 ≤ v) (hn : 0 ≤ n) : n < z ↔ Tp n ≤ v := by
  rcases h with ⟨rfl, rfl⟩ | ⟨h1, h2, h3⟩
  · have := Tp_pos n; omega
  · constructor
    · intro h; exact Int.le_trans (Tp_mono hn (by omega)) h2
    · intro h
      refine Int.not_le.mp (fun hz => ?_)
      have := Tp_mono (show 0 ≤ z by omega) hz
      omega
/-- rounded: the next digit decides -/
def Rn (v x : Int) : Int := if x ≤ 0 then v else (v / Tp x + (if 5 ≤ v / Tp (x - 1) % 10 then 1 else 0)) * Tp x
theorem Rn_up {v x b : Int} (hx : 0 < x) (h : 5 ≤ v / Tp (x - 1) % 10) : (v / Tp x * Tp x + Tp x) % b = Rn v x % b := by
  unfold Rn
  rw [if_neg (by omega), if_pos h, Int.add_mul, Int.one_mul]
theorem Rn_dn {v x b : Int} (hv : 0 ≤ v) (hb : v < b) (h : x ≤ 0 ∨ ¬ 5 ≤ v / Tp (x - 1) % 10) : (if x ≤ 0 then v else v / Tp x * Tp x) = Rn v x % b := by
  unfold Rn
  by_cases hx : x ≤ 0
  · rw [if_pos hx, if_pos hx, Int.emod_eq_of_lt hv hb]
  · have h' : ¬ 5 ≤ v / Tp (x - 1) % 10 := by omega
    rw [if_neg hx, if_neg hx, if_neg h']
    have p := Tp_pos x
    have a : 0 ≤ v / Tp x * Tp x := Int.mul_nonneg (Int.ediv_nonneg hv (by omega)) (by omega)
    have c := Int.ediv_mul_le v (show Tp x ≠ 0 by omega)
    rw [show v / Tp x + 0 = v / Tp x by omega, Int.emod_eq_of_lt a (by omega)]
theorem v_step {h : Int → Int} {i v : Int} (hz : ∀ j, 0 ≤ j → j < i → h j = v) : ∀ j, 0 ≤ j → j < i + 1 → up h i v j = v := by
  intro j g1 g2
  by_cases g : j = i
  · rw [g, up_at]
  · rw [up_ne g]; exact hz j g1 (by omega)
theorem fl_rng {x y : Int} (hx : -2147483648 < x ∧ x < 2147483648) (hy : 0 < y) : -2147483648 ≤ Int.tdiv x y * y ∧ Int.tdiv x y * y < 2147483648 := by
  have k : (Int.tdiv x y * y).natAbs ≤ x.natAbs := by
    rw [Int.natAbs_mul, Int.natAbs_tdiv]
    exact Nat.div_mul_le_self _ _
  omega
theorem emod_le {a b : Int} (h : 0 ≤ a) (hb : 0 < b) : a % b ≤ a := by
  have h1 := Int.mul_ediv_add_emod a b
  have h2 : 0 ≤ b * (a / b) := Int.mul_nonneg (by omega) (Int.ediv_nonneg h (by omega))
  omega
