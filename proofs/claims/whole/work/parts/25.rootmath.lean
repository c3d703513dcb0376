/-! Pure rows for the square root. -/
def Pv (S i l : Int) : Int := l * (2 * S + l * Bp i) * Bp i
def Pf (S i R l : Int) : Prop := Pv S i l ≤ R
theorem Pv_sq (S i l : Int) : Pv S i l = (S + l * Bp i) * (S + l * Bp i) - S * S := by
  unfold Pv
  generalize Bp i = b
  rw [Int.mul_add, Int.add_mul, Int.add_mul, Int.mul_add (l * b), Int.mul_assoc l (2 * S) b, Int.mul_assoc 2 S b]
  have e1 : l * (2 * (S * b)) = S * (l * b) + l * b * S := by
    rw [Int.mul_comm (l * b) S, ← Int.mul_assoc l 2, Int.mul_comm l 2, Int.mul_assoc 2 l, Int.mul_comm S b, ← Int.mul_assoc l b S, Int.mul_comm (l * b) S]
    omega
  have e2 : l * (l * b) * b = l * b * (l * b) := by rw [Int.mul_comm l (l * b), Int.mul_assoc (l * b) l b]
  rw [e1, e2, Int.mul_add S]
  omega
theorem Pv_mono {S i l k : Int} (hS : 0 ≤ S) (h0 : 0 ≤ l) (h : l ≤ k) : Pv S i l ≤ Pv S i k := by
  unfold Pv
  have b := Bp_pos i
  have m0 : l * Bp i ≤ k * Bp i := mul_le_r h (by omega)
  have n0 : 0 ≤ l * Bp i := Int.mul_nonneg h0 (by omega)
  have m1 : l * (2 * S + l * Bp i) ≤ k * (2 * S + k * Bp i) := by
    have a : l * (2 * S + l * Bp i) ≤ l * (2 * S + k * Bp i) := Int.mul_le_mul_of_nonneg_left (by omega) h0
    have c : l * (2 * S + k * Bp i) ≤ k * (2 * S + k * Bp i) := mul_le_r h (by omega)
    omega
  exact mul_le_r m1 (by omega)
theorem Pv_0 (S i : Int) : Pv S i 0 = 0 := by unfold Pv; rw [Int.zero_mul, Int.zero_mul]
theorem Pv_nn {S i l : Int} (hS : 0 ≤ S) (h0 : 0 ≤ l) : 0 ≤ Pv S i l := by rw [← Pv_0 S i]; exact Pv_mono hS (Int.le_refl 0) h0
theorem Bp_le {a b : Int} (h0 : 0 ≤ a) (h : a ≤ b) : Bp a ≤ Bp b := by
  rw [Bp_Tp h0, Bp_Tp (by omega)]
  exact Tp_mono (by omega) (by omega)
theorem Pv_lt {S i l : Int} (hS : 0 ≤ S ∧ S < Bp 12) (hi : 0 ≤ i ∧ i ≤ 10) (h : 0 ≤ l ∧ l ≤ 9999) : Pv S i l < Bp 30 := by
  rw [Pv_sq]
  have b := Bp_pos i
  have b10 := Bp_le hi.1 hi.2
  have e11 : Bp 11 = 10000 * Bp 10 := Bp_s (i := 10) (by decide)
  have e12 : Bp 12 = 10000 * Bp 11 := Bp_s (i := 11) (by decide)
  have e13 : Bp 13 = 10000 * Bp 12 := Bp_s (i := 12) (by decide)
  have m : l * Bp i ≤ 9999 * Bp i := mul_le_r h.2 (by omega)
  have n : 0 ≤ l * Bp i := Int.mul_nonneg h.1 (by omega)
  have t : S + l * Bp i < Bp 13 := by omega
  have t0 : 0 ≤ S + l * Bp i := by omega
  have q : (S + l * Bp i) * (S + l * Bp i) ≤ (S + l * Bp i) * Bp 13 := Int.mul_le_mul_of_nonneg_left (Int.le_of_lt t) t0
  have q2 : (S + l * Bp i) * Bp 13 < Bp 13 * Bp 13 := mul_lt_r t (Bp_pos 13)
  have e26 : Bp 26 = Bp 13 * Bp 13 := Bp_add (i := 13) (j := 13) (by decide) (by decide)
  have l26 : Bp 26 ≤ Bp 30 := Bp_le (by decide) (by decide)
  have ss : 0 ≤ S * S := Int.mul_nonneg hS.1 hS.1
  omega
def isbit (b : Int) : Prop := b = 0 ∨ b = 1 ∨ b = 2 ∨ b = 4 ∨ b = 8 ∨ b = 16 ∨ b = 32 ∨ b = 64 ∨ b = 128 ∨ b = 256 ∨ b = 512 ∨ b = 1024 ∨ b = 2048 ∨ b = 4096 ∨ b = 8192
def nb (b : Int) : Int := if b = 0 then 1 else 2 * b
theorem bit_half {b : Int} (h : isbit b) (h0 : 0 < b) : isbit (b / 2) ∧ nb (b / 2) = b := by
  unfold isbit at h ⊢
  unfold nb
  rcases h with rfl | rfl | rfl | rfl | rfl | rfl | rfl | rfl | rfl | rfl | rfl | rfl | rfl | rfl | rfl
  · omega
  all_goals decide
theorem bit_in {b : Int} (h : isbit b) : 0 ≤ b ∧ b ≤ 8192 := by unfold isbit at h; omega
theorem nb_pos {b : Int} (h : 0 < b) : nb b = 2 * b := if_neg (by omega)
theorem nb_0 : nb 0 = 1 := rfl
theorem not_Pf {S i R k l : Int} (hS : 0 ≤ S) (hk : 0 ≤ k) (h : ¬ Pf S i R k) (hl : Pf S i R l) : l < k := by
  refine Int.not_le.mp (fun hh => h ?_)
  exact Int.le_trans (Pv_mono hS hk hh) hl
theorem V_mod {f : Int → Int} {N i : Int} (bf : bd f N 0 9999) (h0 : 0 ≤ i) (h1 : i ≤ N) (h : V f N % Bp i = 0) : ∀ j, 0 ≤ j → j < i → f j = 0 := by
  obtain ⟨t, ht⟩ := V_hi f h0 h1
  have e := ht f (fun _ _ _ => rfl)
  have b := V_in bf h0 h1
  rw [e, Int.add_mul_emod_self_right, Int.emod_eq_of_lt b.1 b.2] at h
  intro j g1 g2
  exact V_small (f := f) (N := i) (n := 0) (fun k k1 k2 => bf k k1 (by omega)) (by decide) (by rw [h, Bp_0]; decide) j g1 g2
theorem rt_next {X S i z : Int} (hS : 0 ≤ S) (hi : 0 ≤ i) (hX : X < (S + Bp (i + 1)) * (S + Bp (i + 1))) (hz : 0 ≤ z ∧ z ≤ 9999) (hm : ∀ l : Int, 0 ≤ l → l ≤ 9999 → Pf S i (X - S * S) l → l ≤ z) : X < (S + z * Bp i + Bp i) * (S + z * Bp i + Bp i) := by
  by_cases h9 : z = 9999
  · rw [Bp_s hi] at hX
    rw [show S + z * Bp i + Bp i = S + 10000 * Bp i by rw [h9]; omega]
    exact hX
  · refine Int.not_le.mp (fun hh => ?_)
    have p : Pf S i (X - S * S) (z + 1) := by
      unfold Pf
      rw [Pv_sq, show S + (z + 1) * Bp i = S + z * Bp i + Bp i by rw [Int.add_mul]; omega]
      omega
    have := hm (z + 1) (by omega) (by omega) p
    omega
theorem mod_step {S i z : Int} (hi : 0 ≤ i) (h : S % Bp (i + 1) = 0) : (S + z * Bp i) % Bp i = 0 := by
  rw [Bp_s hi] at h
  obtain ⟨k, hk⟩ := Int.dvd_of_emod_eq_zero h
  rw [hk, show 10000 * Bp i * k + z * Bp i = (10000 * k + z) * Bp i by rw [Int.add_mul, Int.mul_assoc, Int.mul_comm (Bp i) k, Int.mul_assoc]]
  exact Int.mul_emod_left _ _
theorem dbl_mod {S m : Int} (h : S % m = 0) : (2 * S) % m = 0 := by
  obtain ⟨k, hk⟩ := Int.dvd_of_emod_eq_zero h
  rw [hk, ← Int.mul_assoc, Int.mul_comm 2 m, Int.mul_assoc]
  exact Int.mul_emod_right _ _
theorem nl_lt {S i l : Int} (hS : 0 ≤ S ∧ S < Bp 12) (hi : 0 ≤ i ∧ i ≤ 10) (h : 0 ≤ l ∧ l ≤ 9999) : 0 ≤ 2 * (S + l * Bp i) ∧ 2 * (S + l * Bp i) < Bp 30 := by
  have b := Bp_pos i
  have b10 := Bp_le hi.1 hi.2
  have e11 : Bp 11 = 10000 * Bp 10 := Bp_s (i := 10) (by decide)
  have e12 : Bp 12 = 10000 * Bp 11 := Bp_s (i := 11) (by decide)
  have e13 : Bp 13 = 10000 * Bp 12 := Bp_s (i := 12) (by decide)
  have l13 : Bp 13 ≤ Bp 30 := Bp_le (by decide) (by decide)
  have m : l * Bp i ≤ 9999 * Bp i := mul_le_r h.2 (by omega)
  have n : 0 ≤ l * Bp i := Int.mul_nonneg h.1 (by omega)
  omega
theorem sq_lt {S X : Int} (h0 : 0 ≤ S) (h : S * S ≤ X) (hX : X < Bp 22) : S < Bp 12 := by
  have e22 : Bp 22 = Bp 11 * Bp 11 := Bp_add (i := 11) (j := 11) (by decide) (by decide)
  have l12 : Bp 11 ≤ Bp 12 := Bp_le (by decide) (by decide)
  refine Int.lt_of_lt_of_le (Int.not_le.mp (fun hh => ?_)) l12
  have b := Bp_pos 11
  have m1 : Bp 11 * Bp 11 ≤ S * Bp 11 := mul_le_r hh (by omega)
  have m2 : S * Bp 11 ≤ S * S := Int.mul_le_mul_of_nonneg_left hh h0
  omega
theorem x22 {a : Int} (h : a < Bp 14) : a * Bp 8 < Bp 22 := by
  rw [show Bp 22 = Bp 14 * Bp 8 from Bp_add (i := 14) (j := 8) (by decide) (by decide)]
  exact mul_lt_r h (Bp_pos 8)
theorem S29 {S : Int} (h : S < Bp 12) : S < Bp 29 := Int.lt_of_lt_of_le h (Bp_le (by decide) (by decide))
/-- the places of a root -/
def rp (w pl : Int) : Int := min (max (16 - 2 * w) pl) 24
theorem rp_in {w pl : Int} (hp : 0 ≤ pl ∧ pl ≤ 24) : 0 ≤ rp w pl ∧ rp w pl ≤ 24 := by unfold rp; omega
/-- what division, quotient and remainder leave -/
def DI (k : Nat) (p n v : Int) (kd : Nat) (ng va : Int) (ko : Nat) (no vb : Int) : Prop :=
  (kd = 1 ∧ k = 1 ∧ p = 0 ∧ n = 0 ∧ v = 0) ∨ (kd ≠ 1 ∧ ko = 1 ∧ ((sg3 kd ng va * sg3 ko no vb < 0 ∧ k = 0) ∨ (0 ≤ sg3 kd ng va * sg3 ko no vb ∧ k = 2))) ∨ (kd ≠ 1 ∧ ko ≠ 1 ∧ k = 3)
def RI (k : Nat) (p n v : Int) (kd : Nat) (pl ng va : Int) : Prop := (kd = 1 ∧ k = 1 ∧ p = pl ∧ n = ng ∧ v = va) ∨ (kd ≠ 1 ∧ k = 3)
def DvR (z : Int) (k : Nat) (p n v pl ng va po no vb : Int) : Prop := ∃ wa wb la lb : Int, Wt va wa ∧ Wt vb wb ∧ Ld va la ∧ Ld vb lb ∧ St z k p n v (Rn (va * Bp 7 / vb) (7 * 4 - pd wa wb la lb pl po)) 7 (pd wa wb la lb pl po) (dif ng no)
def ShR (op z : Int) (k : Nat) (p n v : Int) (kd : Nat) (pl ng va : Int) (ko : Nat) (po no vb : Int) : Prop :=
  (kd = 1 ∧ ko = 1 ∧ ((op = 3 ∧ DvR z k p n v pl ng va po no vb) ∨ (op = 4 ∧ St z k p n v (Rn (va * Bp 6 / vb / Tp 24 * Tp 24) (6 * 4 - 0)) 6 0 (dif ng no)) ∨ (op = 5 ∧ St z k p n v (Rn (va % vb) (6 * 4 - max pl po)) 6 (max pl po) ng))) ∨
  (¬ (kd = 1 ∧ ko = 1) ∧ z = 0 ∧ (((op = 3 ∨ op = 4) ∧ DI k p n v kd ng va ko no vb) ∨ (op = 5 ∧ RI k p n v kd pl ng va)))
def AdR (op z : Int) (k : Nat) (p n v pl ng va po no vb : Int) : Prop := k = 1 ∧ p = max pl po ∧ (v = 0 → n = 0) ∧ sv n v = sv ng va + (1 - 2 * op) * sv no vb ∧ ((z = -3 ∧ Tp 56 ≤ v) ∨ (z = 0 ∧ v < Tp 56))
/-- what combine leaves -/
def CmR (op z : Int) (k : Nat) (p n v : Int) (kd : Nat) (pl ng va : Int) (ko : Nat) (po no vb : Int) : Prop :=
  ((kd = 3 ∨ ko = 3) ∧ z = 0 ∧ k = 3) ∨ (kd ≠ 3 ∧ ko ≠ 3 ∧
   (((op = 0 ∨ op = 1) ∧ kd = 1 ∧ ko = 1 ∧ AdR op z k p n v pl ng va po no vb) ∨
    ((op = 0 ∨ op = 1) ∧ ¬ (kd = 1 ∧ ko = 1) ∧ z = 0 ∧ infk (kdsg kd + (1 - 2 * op) * kdsg ko) k) ∨
    (op = 2 ∧ kd = 1 ∧ ko = 1 ∧ St z k p n v (Rn (va * vb) (12 * 4 - min (pl + po) 24)) 12 (min (pl + po) 24) (dif ng no)) ∨
    (op = 2 ∧ ¬ (kd = 1 ∧ ko = 1) ∧ z = 0 ∧ infk (sg3 kd ng va * sg3 ko no vb) k) ∨
    ((op = 3 ∨ op = 4 ∨ op = 5) ∧ ko = 1 ∧ vb = 0 ∧ z = -4) ∨
    ((op = 3 ∨ op = 4 ∨ op = 5) ∧ ¬ (ko = 1 ∧ vb = 0) ∧ ShR op z k p n v kd pl ng va ko po no vb)))
