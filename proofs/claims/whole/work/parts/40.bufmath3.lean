def cl24 (x : Int) : Int := max 0 (min x 24)
theorem cl24_in (x : Int) : 0 ≤ cl24 x ∧ cl24 x ≤ 24 := by unfold cl24; omega
/-- what the reading of a finite text leaves -/
def RfR (ch : Int → Int) (us st mn z : Int) (k : Nat) (p n v : Int) : Prop :=
  ∃ e pt x : Int, NumR ch us st e pt ∧ ExpR ch us e x ∧ ((z = -2 ∧ (Cn pt st e = 0 ∨ x = 1000)) ∨ (Cn pt st e ≠ 0 ∧ x ≠ 1000 ∧
    ((z = -3 ∧ BigR (Dg ch pt st e) (24 - (mx0 (e - pt - 1) - x))) ∨
     (k = 1 ∧ p = cl24 (mx0 (e - pt - 1) - x) ∧ v = PdV (Dg ch pt st e) (24 - (mx0 (e - pt - 1) - x)) ∧ (v = 0 → n = 0) ∧ (0 < v → n = mn) ∧ ((z = -3 ∧ Tp 56 ≤ v) ∨ (z = 0 ∧ v < Tp 56))))))
theorem Cn_y {pt st e : Int} (h : pt < e) : Cn pt st e = e - st - 1 := by unfold Cn; rw [if_pos h]
theorem Cn_n {pt st e : Int} (h : e ≤ pt) : Cn pt st e = e - st - 0 := by unfold Cn; rw [if_neg (by omega)]
/-- what the reading of a text leaves -/
def RiR (ch : Int → Int) (us z : Int) (k : Nat) (p n v : Int) : Prop :=
  (WdR ch us 0 4 ∧ z = 0 ∧ k = 3) ∨ (¬ WdR ch us 0 4 ∧ ∃ st mn : Int, ((st = 1 ∧ 0 < us ∧ (ch 0 = 43 ∨ ch 0 = 45)) ∨ (st = 0 ∧ ¬ (0 < us ∧ (ch 0 = 43 ∨ ch 0 = 45)))) ∧ ((mn = 1 ∧ st = 1 ∧ ch 0 = 45) ∨ (mn = 0 ∧ ¬ (st = 1 ∧ ch 0 = 45))) ∧
    (((WdR ch us st 5 ∨ WdR ch us st 6) ∧ z = 0 ∧ ((mn = 1 ∧ k = 0) ∨ (mn = 0 ∧ k = 2))) ∨ (¬ (WdR ch us st 5 ∨ WdR ch us st 6) ∧ RfR ch us st mn z k p n v)))
theorem RfR_Nf {ch : Int → Int} {us st mn z p n v : Int} {k : Nat} (h : RfR ch us st mn z k p n v) : Nf z k p n v := by
  obtain ⟨e, pt, x, _, _, h1 | ⟨_, _, h2 | h3⟩⟩ := h
  · exact Nf_z (by omega)
  · exact Nf_z (by omega)
  · exact Nf_1 h3.1
