/-- what settle leaves: the answer z, the numeral's kind, places, sign and number, out of the rounded row R with x limbs behind the point -/
def St (z : Int) (k : Nat) (p n v : Int) (R x y mn : Int) : Prop :=
  (z = -3 ∧ Tp (x * 4 + 32) ≤ R) ∨ (z = 0 ∧ R < Tp (x * 4 + 32) ∧ k = 1 ∧ p = y ∧ v = R / Bp (x - 6) ∧ (v = 0 → n = 0) ∧ (0 < v → n = mn))
theorem St_Nf {z p n v R x y mn : Int} {k : Nat} (h : St z k p n v R x y mn) : Nf z k p n v := by
  rcases h with h | h
  · exact Nf_z (by omega)
  · exact Nf_1 h.2.2.1
theorem cp_mv {f g : Int → Int} {sp n : Int} : V (cpZ f g sp 0 n) n = V (fun j => f (sp + j)) n := V_ext (fun j g1 g2 => by rw [cp_in (by omega)]; exact congrArg f (by omega))
theorem st_V {f g : Int → Int} {N x R : Int} (bf : bd f N 0 9999) (hx : 6 ≤ x) (hN : x + 9 ≤ N) (hR : V f N = R) (h : R < Tp (x * 4 + 32)) : V (cpZ f g (x - 6) 0 15) 15 = R / Bp (x - 6) := by
  have e8 : Tp (x * 4 + 32) = Bp (x + 8) := by rw [Bp_Tp (by omega)]; exact congrArg Tp (by omega)
  rw [e8] at h
  have z := V_small bf (n := x + 8) (by omega) (by rw [hR]; exact h)
  have e := V_exTop (f := f) (N := N) (t := x + 8) (by omega) (by omega) (fun j g1 g2 => z j (by omega) g2)
  rw [V_ex (by omega)] at e
  have m := V_mv f (n := 0) (x := x - 6) (by omega) 15
  rw [show x - 6 + ((15 : Nat) : Int) = x + 8 + 1 by omega, show ((15 : Nat) : Int) = 15 from rfl] at m
  have b := V_in bf (n := x - 6) (by omega) (by omega)
  rw [cp_mv, ← hR, ← e, m, Int.add_mul_ediv_right _ _ (by have := Bp_pos (x - 6); omega), Int.ediv_eq_zero_of_lt b.1 b.2]
  omega
theorem ld_V {f g : Int → Int} {x : Int} (hx : 0 ≤ x) (h2 : x + 15 ≤ 30) (hg : ∀ j : Int, 0 ≤ j → j < 30 → g j = 0) : V (cpZ f g 0 x 15) 30 = V f 15 * Bp x := by
  have e := V_exTop (f := cpZ f g 0 x 15) (N := 30) (t := x + 14) (by decide) (by omega) (fun j g1 g2 => by rw [cp_out (by omega)]; exact hg j (by omega) g2)
  rw [V_ex (by omega)] at e
  have m := V_mv (cpZ f g 0 x 15) (n := 0) hx 15
  rw [show x + ((15 : Nat) : Int) = x + 14 + 1 by omega, show ((15 : Nat) : Int) = 15 from rfl] at m
  have z : V (cpZ f g 0 x 15) x = 0 := V_zero hx (fun j g1 g2 => by rw [cp_out (by omega)]; exact hg j g1 (by omega))
  have q : V (fun j => cpZ f g 0 x 15 (x + j)) 15 = V f 15 := V_ext (fun j g1 g2 => by rw [cp_in (by omega)]; exact congrArg f (by omega))
  rw [← e, m, z, q]
  omega
theorem Rn_lt {v x b : Int} (hv : 0 ≤ v) (hx : x ≤ b) (hb : 0 ≤ b) (h : v < Tp b) : Rn v x ≤ Tp b := by
  unfold Rn
  by_cases h0 : x ≤ 0
  · rw [if_pos h0]; omega
  · rw [if_neg h0]
    have p := Tp_pos x
    have e : Tp b = Tp (b - x) * Tp x := by rw [← Tp_add (by omega) (by omega)]; exact congrArg Tp (by omega)
    have q : v / Tp x < Tp (b - x) := Int.ediv_lt_of_lt_mul p (by rw [← e]; exact h)
    rw [e]
    refine mul_le_r ?_ (by omega)
    by_cases h5 : 5 ≤ v / Tp (x - 1) % 10
    · rw [if_pos h5]; omega
    · rw [if_neg h5]; omega
theorem Rn_nn {v x : Int} (hv : 0 ≤ v) : 0 ≤ Rn v x := by
  unfold Rn
  by_cases h0 : x ≤ 0
  · rw [if_pos h0]; exact hv
  · rw [if_neg h0]
    refine Int.mul_nonneg ?_ (Int.le_of_lt (Tp_pos x))
    have := Int.ediv_nonneg hv (Int.le_of_lt (Tp_pos x))
    by_cases h5 : 5 ≤ v / Tp (x - 1) % 10
    · rw [if_pos h5]; omega
    · rw [if_neg h5]; omega
theorem Rn_mod {v x N : Int} (hv : 0 ≤ v) (hN : 1 ≤ N) (h : v < Bp (N - 1)) (hx : x ≤ 4 * (N - 1)) : Rn v x % Bp N = Rn v x := by
  refine Int.emod_eq_of_lt (Rn_nn hv) ?_
  rw [Bp_Tp (by omega)] at h
  have a := Rn_lt (b := 4 * (N - 1)) hv hx (by omega) h
  rw [Bp_Tp (by omega)]
  have b : Tp (4 * N) = Tp (4 * (N - 1)) * Tp 4 := by rw [← Tp_add (by omega) (by decide)]; exact congrArg Tp (by omega)
  have c : Tp 4 = 10000 := rfl
  have d := Tp_pos (4 * (N - 1))
  rw [b, c]
  omega
theorem xor_01 {a b : Int} : a = b ∨ a ≠ b := by omega
/-- one if they differ -/
def dif (a b : Int) : Int := if a = b then 0 else 1
theorem dif_e {a b : Int} (h : a = b) : dif a b = 0 := if_pos h
theorem dif_n {a b : Int} (h : a ≠ b) : dif a b = 1 := if_neg h
theorem mul_lt15 {a b : Int} (ha : 0 ≤ a) (h1 : a < Bp 14) (hb : 0 ≤ b) (h2 : b < Bp 15) : 0 ≤ a * b ∧ a * b < Bp 29 := by
  refine ⟨Int.mul_nonneg ha hb, ?_⟩
  have e : Bp 29 = Bp 14 * Bp 15 := by rw [← Bp_add (by decide) (by decide)]; rfl
  rw [e]
  have m1 : a * b ≤ a * Bp 15 := Int.mul_le_mul_of_nonneg_left (Int.le_of_lt h2) ha
  have m2 : a * Bp 15 < Bp 14 * Bp 15 := mul_lt_r h1 (Bp_pos 15)
  omega
/-- the sign of what a numeral holds, with 0 where it is finite for kdsg -/
def kdsg (kd : Nat) : Int := if kd = 0 then -1 else if kd = 1 then 0 else 1
theorem kdsg_c {kd : Nat} (h : kd < 4) : (kd = 0 ∧ kdsg kd = -1) ∨ (kd = 1 ∧ kdsg kd = 0) ∨ ((kd = 2 ∨ kd = 3) ∧ kdsg kd = 1) := by
  unfold kdsg
  by_cases h0 : kd = 0
  · rw [if_pos h0]; omega
  · rw [if_neg h0]
    by_cases h1 : kd = 1
    · rw [if_pos h1]; omega
    · rw [if_neg h1]; omega
def sg3 (kd : Nat) (ng v : Int) : Int := if kd = 1 then (if v = 0 then 0 else if ng = 1 then -1 else 1) else kdsg kd
theorem sg3_of {kd : Nat} {ng v z : Int} (h : (kd = 1 ∧ ((z = 0 ∧ v = 0) ∨ (z = -1 ∧ 0 < v ∧ ng = 1) ∨ (z = 1 ∧ 0 < v ∧ ng = 0))) ∨ (kd = 0 ∧ z = -1) ∨ ((kd = 2 ∨ kd = 3) ∧ z = 1)) : z = sg3 kd ng v ∧ -1 ≤ z ∧ z ≤ 1 := by
  refine ⟨?_, by omega, by omega⟩
  unfold sg3
  by_cases h1 : kd = 1
  · rw [if_pos h1]
    by_cases hv : v = 0
    · rw [if_pos hv]; omega
    · rw [if_neg hv]
      by_cases hn : ng = 1
      · rw [if_pos hn]; omega
      · rw [if_neg hn]; omega
  · rw [if_neg h1]
    have := kdsg_c (kd := kd) (by omega)
    omega
theorem mul_11 {a b : Int} (ha : -1 ≤ a ∧ a ≤ 1) (hb : -1 ≤ b ∧ b ≤ 1) : -1 ≤ a * b ∧ a * b ≤ 1 := by
  have c : a = -1 ∨ a = 0 ∨ a = 1 := by omega
  rcases c with rfl | rfl | rfl <;> omega
/-- an infinity by its sign, or not a number -/
def infk (s : Int) (k : Nat) : Prop := (s = 0 ∧ k = 3) ∨ (s < 0 ∧ k = 0) ∨ (0 < s ∧ k = 2)
/-- the places of a division -/
def pd (wa wb la lb pl po : Int) : Int := min (max (16 - 4 * (wa - wb - (if la ≤ lb then 1 else 0))) (max pl po)) 24
theorem pd_in {wa wb la lb pl po : Int} (hp : 0 ≤ pl ∧ pl ≤ 24) : 0 ≤ pd wa wb la lb pl po ∧ pd wa wb la lb pl po ≤ 24 := by
  unfold pd
  generalize (16 - 4 * (wa - wb - (if la ≤ lb then 1 else 0))) = x
  omega
theorem q_lt {a b x : Int} (ha : 0 ≤ a) (h : a < Bp 14) (hx : 0 ≤ x ∧ x ≤ 15) (hb : 0 < b) : 0 ≤ a * Bp x / b ∧ a * Bp x / b < Bp 29 := by
  have p := Bp_pos x
  have n : 0 ≤ a * Bp x := Int.mul_nonneg ha (by omega)
  refine ⟨Int.ediv_nonneg n (by omega), ?_⟩
  have l := Int.ediv_le_self b n
  have m := mul_lt_r h p
  have e : Bp 29 = Bp 14 * Bp x * Bp (15 - x) := by rw [← Bp_add (by decide) (by omega), ← Bp_add (by omega) (by omega)]; exact congrArg Bp (by omega)
  have q := Int.mul_le_mul_of_nonneg_left (show 1 ≤ Bp (15 - x) from Bp_pos _) (show 0 ≤ Bp 14 * Bp x from Int.mul_nonneg (Int.le_of_lt (Bp_pos _)) (by omega))
  omega
theorem r_lt {a b : Int} (ha : 0 ≤ a) (h : a < Bp 14) (hb : 0 < b) : 0 ≤ a % b ∧ a % b < Bp 29 := by
  have l := emod_le ha hb
  have e : Bp 29 = Bp 14 * Bp 15 := by rw [← Bp_add (by decide) (by decide)]; rfl
  have q := Int.mul_le_mul_of_nonneg_left (show 1 ≤ Bp 15 from Bp_pos _) (show 0 ≤ Bp 14 from Int.le_of_lt (Bp_pos _))
  exact ⟨Int.emod_nonneg a (by omega), by omega⟩
theorem ct_lt {v x b : Int} (hv : 0 ≤ v) (h : v < b) : 0 ≤ v / Tp x * Tp x ∧ v / Tp x * Tp x < b := by
  have p := Tp_pos x
  have c := Int.ediv_mul_le v (show Tp x ≠ 0 by omega)
  exact ⟨Int.mul_nonneg (Int.ediv_nonneg hv (by omega)) (by omega), by omega⟩
theorem Ld_in {f : Int → Int} {d : Int} (bf : bd f 15 0 9999) (h : Ld (V f 15) d) : 0 ≤ d ∧ d ≤ 9999 := by
  unfold Ld at h
  rcases h with ⟨rfl, -⟩ | ⟨t, h0, h1, h2, h3, rfl⟩
  · omega
  · have p := Bp_pos t
    refine ⟨Int.ediv_nonneg (by omega) (by omega), ?_⟩
    have q : V f 15 / Bp t < 10000 := Int.ediv_lt_of_lt_mul p (by rw [Bp_s h0] at h3; exact h3)
    omega
theorem Wt_in {v w : Int} (h : Wt v w) : -6 ≤ w ∧ w ≤ 8 := by
  unfold Wt at h
  omega
