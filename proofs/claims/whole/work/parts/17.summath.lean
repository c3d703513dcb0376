def Smn (c : Int → Int) : Nat → Int
  | 0 => 0
  | n + 1 => Smn c n + c n
/-- the sum of the first n places -/
def Sm (c : Int → Int) (n : Int) : Int := Smn c n.toNat
theorem Sm_s (c : Int → Int) {i : Int} (h : 0 ≤ i) : Sm c (i + 1) = Sm c i + c i := by
  unfold Sm
  rw [show (i + 1).toNat = i.toNat + 1 by omega]
  show Smn c i.toNat + c (i.toNat : Int) = _
  rw [show ((i.toNat : Nat) : Int) = i by omega]
theorem bd_w {f : Int → Int} {N lo hi hi' : Int} (h : bd f N lo hi) (hh : hi ≤ hi') : bd f N lo hi' := fun i g1 g2 => ⟨(h i g1 g2).1, Int.le_trans (h i g1 g2).2 hh⟩
theorem ch_c (c : Int → Int) (i b j : Int) : up c i (c i + b) j = c j + (if j = i then b else 0) := by
  by_cases h : j = i
  · rw [h, up_at, if_pos rfl]
  · rw [up_ne h, if_neg h]; omega
theorem add_0i (a : Int) : a = a + 0 := by omega
/-- the place of a count -/
def cidx (kd : Nat) (pl : Int) : Int := if kd = 1 then pl else if kd = 3 then 25 else if kd = 2 then 26 else 27
theorem cidx_1 {kd : Nat} {pl : Int} (h : kd = 1) : cidx kd pl = pl := if_pos h
theorem cidx_3 {kd : Nat} {pl : Int} (h : kd = 3) : cidx kd pl = 25 := by unfold cidx; rw [if_neg (by omega), if_pos h]
theorem cidx_2 {kd : Nat} {pl : Int} (h : kd = 2) : cidx kd pl = 26 := by unfold cidx; rw [if_neg (by omega), if_neg (by omega), if_pos h]
theorem cidx_0 {kd : Nat} {pl : Int} (h : kd = 0) : cidx kd pl = 27 := by unfold cidx; rw [if_neg (by omega), if_neg (by omega), if_neg (by omega)]
theorem cidx_in {kd : Nat} {pl : Int} (hk : kd < 4) (hp : 0 ≤ pl ∧ pl ≤ 24) : 0 ≤ cidx kd pl ∧ cidx kd pl < 28 := by
  have c : kd = 0 ∨ kd = 1 ∨ kd = 2 ∨ kd = 3 := by omega
  rcases c with c | c | c | c
  · rw [cidx_0 c]; omega
  · rw [cidx_1 c]; omega
  · rw [cidx_2 c]; omega
  · rw [cidx_3 c]; omega
/-- what a change adds -/
def cadd (i j b : Int) : Int := if j = i then b else 0
theorem ch_d (c : Int → Int) (i b j : Int) : up c i (c i + b) j = c j + cadd i j b := ch_c c i b j
def vadd (kd : Nat) (b v : Int) : Int := if kd = 1 then (if b < 0 then -v else v) else 0
theorem vadd_0 {kd : Nat} {b v : Int} (h : kd ≠ 1) : vadd kd b v = 0 := if_neg h
theorem vadd_p {kd : Nat} {b v : Int} (h : kd = 1) (hb : 0 ≤ b) : vadd kd b v = v := by unfold vadd; rw [if_pos h, if_neg (by omega)]
theorem vadd_m {kd : Nat} {b v : Int} (h : kd = 1) (hb : b < 0) : vadd kd b v = -v := by unfold vadd; rw [if_pos h, if_pos hb]
/-- a result that is not finite is kept with no places, no sign and no number -/
def Nf (z : Int) (k : Nat) (p n v : Int) : Prop := z = 0 → k ≠ 1 → p = 0 ∧ n = 0 ∧ v = 0
theorem Nf_1 {z p n v : Int} {k : Nat} (h : k = 1) : Nf z k p n v := fun _ h9 => absurd h h9
theorem Nf_z {z p n v : Int} {k : Nat} (h : z ≠ 0) : Nf z k p n v := fun h9 => absurd h9 h
theorem Nf_0 {z v : Int} {k : Nat} (h : v = 0) : Nf z k 0 0 v := fun _ _ => ⟨rfl, rfl, h⟩
