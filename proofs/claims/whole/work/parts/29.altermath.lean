def sgr (v n ng : Int) : Prop := (v = 0 → n = 0) ∧ (0 < v → n = ng)
def TrR (p pl va : Int) : Prop := 0 ≤ p ∧ p ≤ pl ∧ (p = 0 ∨ va / Tp (24 - p) % 10 ≠ 0) ∧ (∀ k : Int, p < k → k ≤ pl → va / Tp (24 - k) % 10 = 0)
def AlV (op m p n v pl ng va : Int) : Prop :=
  (op = 0 ∧ v = Rn va (24 - m) ∧ p = mx0 m ∧ sgr v n ng) ∨ (op = 1 ∧ v = TcV va (24 - m) ∧ p = mx0 m ∧ sgr v n ng) ∨ ((op = 2 ∨ op = 3) ∧ v = MwV ng (op - 2) va ∧ p = 0 ∧ sgr v n ng) ∨
  (op = 4 ∧ v = va ∧ p = pl ∧ sgr v n (1 - ng)) ∨ (op = 5 ∧ v = va ∧ n = ng ∧ TrR p pl va)
def RtR (z : Int) (k : Nat) (p n v pl va : Int) : Prop := ∃ S w : Int, 0 ≤ S ∧ S * S ≤ va * Bp 8 ∧ va * Bp 8 < (S + 1) * (S + 1) ∧ Wt va w ∧ St z k p n v (Rn S (7 * 4 - rp w pl)) 7 (rp w pl) 0
def AoR (op : Int) (k kd : Nat) : Prop := (op = 4 ∧ kd ≠ 3 ∧ ((kd = 0 ∧ k = 2) ∨ (kd = 2 ∧ k = 0))) ∨ (¬ (op = 4 ∧ kd ≠ 3) ∧ k = kd)
/-- what alter leaves -/
def AlR (op m z : Int) (k : Nat) (p n v : Int) (kd : Nat) (pl ng va : Int) : Prop :=
  (op = 6 ∧ sg3 kd ng va < 0 ∧ z = -5) ∨ (¬ (op = 6 ∧ sg3 kd ng va < 0) ∧ ((kd ≠ 1 ∧ z = 0 ∧ AoR op k kd) ∨ (kd = 1 ∧ op ≠ 6 ∧ k = 1 ∧ AlV op m p n v pl ng va ∧ ((z = -3 ∧ Tp 56 ≤ v) ∨ (z = 0 ∧ v < Tp 56))) ∨ (kd = 1 ∧ op = 6 ∧ RtR z k p n v pl va)))
def clm (n : Int) : Int := max (-32) (min n 24)
theorem clm_in (n : Int) : -32 ≤ clm n ∧ clm n ≤ 24 := by unfold clm; omega
theorem mw_lt {v : Int} (h : v < Bp 14) : v + Tp 24 < Bp 15 := by
  have e : Tp 24 = Bp 6 := (Bp_Tp (i := 6) (by decide)).symm
  have a := Bp_le (a := 6) (b := 14) (by decide) (by decide)
  have b : Bp 15 = 10000 * Bp 14 := Bp_s (i := 14) (by decide)
  have c := Bp_pos 14
  omega
theorem rn15 {v x : Int} (h0 : 0 ≤ v) (h : v < Bp 14) (hx : x ≤ 56) : Rn v x % Bp 15 = Rn v x := Rn_mod (N := 15) h0 (by decide) h (by omega)
