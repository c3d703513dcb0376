/-! The reference's running sums. -/
/-- the size of a sum bounds its digits -/
def SuB (su sz : Int → Int) : Prop := ∀ k j : Int, 0 ≤ k → k < 4 → 0 ≤ j → j < 56 → -(9 * sz k) ≤ su (56 * k + j) ∧ su (56 * k + j) ≤ 9 * sz k
def midx (k p : Int) : Int := if k = 0 then p else 24 + k
theorem midx_0 {k p : Int} (h : k = 0) : midx k p = p := if_pos h
theorem midx_n {k p : Int} (h : k ≠ 0) : midx k p = 24 + k := if_neg h
theorem midx_in {k p : Int} (h : 0 ≤ k ∧ k ≤ 3) (hp : 0 ≤ p ∧ p ≤ 24) : 0 ≤ midx k p ∧ midx k p < 28 := by
  by_cases e : k = 0
  · rw [midx_0 e]; omega
  · rw [midx_n e]; omega
/-- the digits of sum k, changed -/
def GaR (k away kr m : Int) (v : Int) (su su' : Int → Int) : Prop :=
  (kr = 0 ∧ Gt su' k = Gt su k + sv (dif m away) v ∧ ∀ j : Int, ¬ (56 * k ≤ j ∧ j < 56 * k + 56) → su' j = su j) ∨ (kr ≠ 0 ∧ su' = su)
theorem ga_V {su h G : Int → Int} {k r c : Int} (hc : c = 0 ∨ c = 1) (hk : ∀ j : Int, 0 ≤ j → j < 56 → h (56 * k + j) = su (56 * k + j) + sv c (G (56 * r + j))) : Gt h k = Gt su k + sv c (Gt G r) := by
  unfold Gt
  rw [Vt_ext (g := fun j => (fun j => su (56 * k + j)) j + (fun j => sv c (G (56 * r + j))) j) hk]
  have e1 := Vt_lin (fun j => su (56 * k + j)) (fun j => sv c (G (56 * r + j))) 56
  have e2 := Vt_sv hc (fun j => G (56 * r + j)) 56
  rw [show ((56 : Nat) : Int) = 56 from rfl] at e1 e2
  rw [e1, e2]
theorem ga_B {su h sz : Int → Int} {k : Int} (hB : SuB su sz) (hin : ∀ j : Int, 0 ≤ j → j < 56 → -(9 * (sz k + 1)) ≤ h (56 * k + j) ∧ h (56 * k + j) ≤ 9 * (sz k + 1)) (ho : ∀ j : Int, ¬ (56 * k ≤ j ∧ j < 56 * k + 56) → h j = su j) : SuB h (up sz k (sz k + 1)) := by
  intro a j a0 a1 j0 j1
  by_cases e : a = k
  · subst e; rw [up_at]; exact hin j j0 j1
  · rw [up_ne e, ho _ (by omega)]; exact hB a j a0 a1 j0 j1
theorem mg_V {su h : Int → Int} {k l : Int} (hk : ∀ j : Int, 0 ≤ j → j < 56 → h (56 * k + j) = su (56 * k + j) + su (56 * l + j)) : Gt h k = Gt su k + Gt su l := by
  unfold Gt
  rw [Vt_ext (g := fun j => (fun j => su (56 * k + j)) j + (fun j => su (56 * l + j)) j) hk]
  exact Vt_lin (fun j => su (56 * k + j)) (fun j => su (56 * l + j)) 56
theorem mg_B {su h sz : Int → Int} {k l : Int} (hB : SuB su sz) (hk0 : 0 ≤ k ∧ k < 4) (hl0 : 0 ≤ l ∧ l < 4) (hin : ∀ j : Int, 0 ≤ j → j < 56 → h (56 * k + j) = su (56 * k + j) + su (56 * l + j)) (ho : ∀ j : Int, ¬ (56 * k ≤ j ∧ j < 56 * k + 56) → h j = su j) : SuB h (up sz k (sz k + sz l)) := by
  intro a j a0 a1 j0 j1
  by_cases e : a = k
  · subst e
    have b1 := hB a j a0 a1 j0 j1
    have b2 := hB l j hl0.1 hl0.2 j0 j1
    rw [up_at, hin j j0 j1]; omega
  · rw [up_ne e, ho _ (by omega)]; exact hB a j a0 a1 j0 j1
theorem rs_B {su h sz : Int → Int} {k : Int} (hB : SuB su sz) (hin : ∀ j : Int, 0 ≤ j → j < 56 → h (56 * k + j) = 0) (ho : ∀ j : Int, ¬ (56 * k ≤ j ∧ j < 56 * k + 56) → h j = su j) : SuB h (up sz k 0) := by
  intro a j a0 a1 j0 j1
  by_cases e : a = k
  · subst e; rw [up_at, hin j j0 j1]; omega
  · rw [up_ne e, ho _ (by omega)]; exact hB a j a0 a1 j0 j1
theorem Vt_abs {f : Int → Int} {N B : Int} (hB0 : 0 ≤ B) (h : bd f N (-B) B) : ∀ n : Nat, (n : Int) ≤ N → -(B * Tp n) ≤ Vt f n ∧ Vt f n ≤ B * Tp n := by
  intro n
  induction n with
  | zero => intro _; rw [show ((0 : Nat) : Int) = 0 from rfl, Vt_0, Tp_0]; omega
  | succ n ih =>
    intro hn
    have i1 := ih (by omega)
    have b := h n (by omega) (by omega)
    rw [show ((n + 1 : Nat) : Int) = (n : Int) + 1 by omega, Vt_s f (by omega), Tp_s (by omega)]
    have p := Tp_pos (n : Int)
    have m1 := mul_le_r b.2 (Int.le_of_lt p)
    have m2 := mul_le_r b.1 (Int.le_of_lt p)
    rw [Int.neg_mul] at m2
    have e : B * (10 * Tp n) = 10 * (B * Tp n) := by rw [← Int.mul_assoc, Int.mul_comm B 10, Int.mul_assoc]
    have nn : 0 ≤ B * Tp n := Int.mul_nonneg (by omega) (Int.le_of_lt p)
    rw [e]
    omega
theorem Gs_in {su sz : Int → Int} {k : Int} (hz0 : 0 ≤ sz k) (hB : SuB su sz) (hk : 0 ≤ k ∧ k < 4) : -(9 * sz k * Tp 56) ≤ Gt su k ∧ Gt su k ≤ 9 * sz k * Tp 56 :=
  Vt_abs (by omega) (f := fun j => su (56 * k + j)) (N := 56) (B := 9 * sz k) (fun j g1 g2 => hB k j hk.1 hk.2 g1 g2) 56 (by decide)
theorem Gs_lt {v b : Int} (h : -(b * Tp 56) ≤ v ∧ v ≤ b * Tp 56) (hb : 0 ≤ b ∧ b ≤ 9000) : -Tp 139 < v * Tp 24 ∧ v * Tp 24 < Tp 139 := by
  have m := mul_le_r hb.2 (Int.le_of_lt (Tp_pos 56))
  have e : Tp 61 = 100000 * Tp 56 := by rw [show (61 : Int) = 5 + 56 by decide, Tp_add (by decide) (by decide)]; rfl
  have e2 : Tp 85 = Tp 61 * Tp 24 := by rw [← Tp_add (by decide) (by decide)]; rfl
  have l : Tp 85 ≤ Tp 139 := Tp_mono (by decide) (by decide)
  have p := Tp_pos 56
  have a := mul_lt_r (show v < Tp 61 by omega) (Tp_pos 24)
  have b2 := mul_lt_r (show -Tp 61 < v by omega) (Tp_pos 24)
  rw [Int.neg_mul] at b2
  omega
/-- what total leaves -/
def RsR (z d c25 c26 c27 V : Int) (cn : Int → Int) (kf sf mf G k' s' m' G' : Int → Int) : Prop :=
  ((0 < c25 ∨ (0 < c26 ∧ 0 < c27)) ∧ SpR z d 1 kf sf mf G k' s' m' G') ∨ (¬ (0 < c25 ∨ (0 < c26 ∧ 0 < c27)) ∧ 0 < c26 ∧ SpR z d 2 kf sf mf G k' s' m' G') ∨ (¬ (0 < c25 ∨ (0 < c26 ∧ 0 < c27)) ∧ ¬ 0 < c26 ∧ 0 < c27 ∧ SpR z d 3 kf sf mf G k' s' m' G') ∨
  (¬ 0 < c25 ∧ ¬ 0 < c26 ∧ ¬ 0 < c27 ∧ ∃ n m X : Int, 0 ≤ n ∧ n ≤ 24 ∧ (n = 0 ∨ 0 < cn n) ∧ (∀ j : Int, n < j → j ≤ 24 → ¬ 0 < cn j) ∧ (m = 0 ∨ m = 1) ∧ AbR (V * Tp 24) 0 X m ∧ KpR z d n m (Rn X (48 - n)) kf sf mf G k' s' m' G')
theorem y4_V {h : Int → Int} {n : Int} (hn : 0 ≤ n ∧ n ≤ 9999) (h0 : h 24 = n % 10) (h1 : h 25 = n / 10 % 10) (h2 : h 26 = n / 10 / 10 % 10) (h3 : h 27 = n / 10 / 10 / 10 % 10) (hz : ∀ j : Int, 0 ≤ j → j < 56 → ¬ (24 ≤ j ∧ j < 28) → h j = 0) : Vt h 56 = n * Tp 24 := by
  rw [Vt_hz (n := 28) (by decide) (by decide) (fun j g1 g2 => hz j (by omega) g2 (by omega))]
  have m := Vt_mv h (x := 24) (by decide) 4
  rw [show (24 : Int) + ((4 : Nat) : Int) = 28 by decide, show ((4 : Nat) : Int) = 4 from rfl] at m
  rw [m, Vt_zero (by decide) (fun j g1 g2 => hz j g1 (by omega) (by omega)), Int.zero_add]
  refine congrArg (· * Tp 24) ?_
  have s3 := Vt_s (fun j => h (24 + j)) (i := 3) (by decide)
  have s2 := Vt_s (fun j => h (24 + j)) (i := 2) (by decide)
  have s1 := Vt_s (fun j => h (24 + j)) (i := 1) (by decide)
  have s0 := Vt_s (fun j => h (24 + j)) (i := 0) (by decide)
  rw [show (3 : Int) + 1 = 4 by decide, show Tp 3 = 1000 from rfl] at s3
  rw [show (2 : Int) + 1 = 3 by decide, show Tp 2 = 100 from rfl] at s2
  rw [show (1 : Int) + 1 = 2 by decide, show Tp 1 = 10 from rfl] at s1
  rw [show (0 : Int) + 1 = 1 by decide, show Tp 0 = 1 from rfl, Vt_0] at s0
  have e0 : h (24 + 0) = h 24 := congrArg h (by decide)
  have e1 : h (24 + 1) = h 25 := congrArg h (by decide)
  have e2 : h (24 + 2) = h 26 := congrArg h (by decide)
  have e3 : h (24 + 3) = h 27 := congrArg h (by decide)
  rw [e0] at s0
  rw [e1] at s1
  rw [e2] at s2
  rw [e3] at s3
  omega
