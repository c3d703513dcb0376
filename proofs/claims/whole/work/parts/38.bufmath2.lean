/-! Pure rows: the digits of a text put into a row. -/
def Dgn (ch : Int → Int) (pt st : Int) : Nat → Int
  | 0 => 0
  | n + 1 => if st + n = pt then Dgn ch pt st n else 10 * Dgn ch pt st n + (ch (st + n) - 48)
/-- the number that the digits from st to i make, without the point -/
def Dg (ch : Int → Int) (pt st i : Int) : Int := Dgn ch pt st (i - st).toNat
/-- how many digits -/
def Cn (pt st i : Int) : Int := i - st - (if pt < i then 1 else 0)
theorem Dg_0 (ch : Int → Int) (pt st : Int) : Dg ch pt st st = 0 := by unfold Dg; rw [show (st - st).toNat = 0 by omega]; rfl
theorem Dg_p (ch : Int → Int) {pt st i : Int} (h : st ≤ i) (hp : i = pt) : Dg ch pt st (i + 1) = Dg ch pt st i := by
  unfold Dg
  rw [show (i + 1 - st).toNat = (i - st).toNat + 1 by omega]
  exact if_pos (by omega)
theorem Dg_d (ch : Int → Int) {pt st i : Int} (h : st ≤ i) (hp : i ≠ pt) : Dg ch pt st (i + 1) = 10 * Dg ch pt st i + (ch i - 48) := by
  unfold Dg
  rw [show (i + 1 - st).toNat = (i - st).toNat + 1 by omega]
  show (if st + ((i - st).toNat : Int) = pt then _ else _) = _
  rw [if_neg (by omega), show st + (((i - st).toNat : Nat) : Int) = i by omega]
theorem Cn_0 {pt st : Int} (h : st ≤ pt) : Cn pt st st = 0 := by unfold Cn; rw [if_neg (by omega)]; omega
theorem Cn_p {pt st i : Int} (hp : i = pt) : Cn pt st (i + 1) = Cn pt st i := by unfold Cn; rw [if_pos (by omega), if_neg (by omega)]; omega
theorem Cn_d {pt st i : Int} (hp : i ≠ pt) : Cn pt st (i + 1) = Cn pt st i + 1 := by
  unfold Cn
  by_cases h : pt < i
  · rw [if_pos (by omega), if_pos h]; omega
  · rw [if_neg (by omega), if_neg h]; omega
theorem Dg_nn {ch : Int → Int} {us pt st e : Int} (h : NumR ch us st e pt) : ∀ n : Nat, st + n ≤ e → 0 ≤ Dg ch pt st (st + n) := by
  intro n
  induction n with
  | zero => intro _; rw [show st + ((0 : Nat) : Int) = st by omega, Dg_0]; exact Int.le_refl 0
  | succ n ih =>
    intro hn
    have i1 := ih (by omega)
    rw [show st + ((n + 1 : Nat) : Int) = (st + n) + 1 by omega]
    by_cases hp : st + (n : Int) = pt
    · rw [Dg_p ch (by omega) hp]; exact i1
    · rw [Dg_d ch (by omega) hp]
      have := h.2.2.2.1 (st + n) (by omega) (by omega) hp
      omega
theorem Dg_n0 {ch : Int → Int} {us pt st e i : Int} (h : NumR ch us st e pt) (h0 : st ≤ i) (h1 : i ≤ e) : 0 ≤ Dg ch pt st i := by
  have := Dg_nn h (i - st).toNat (by omega)
  rwa [show st + (((i - st).toNat : Nat) : Int) = i by omega] at this
/-- what stands in the row: the number times 10^E, cut off below one, and whether the next digit rounds up -/
def PDr (D E v u : Int) : Prop :=
  (0 ≤ E ∧ v = D * Tp E ∧ u = 0) ∨ (E < 0 ∧ v = D / Tp (-E) ∧ ((u = 1 ∧ 5 ≤ D / Tp (-E - 1) % 10) ∨ (u = 0 ∧ ¬ 5 ≤ D / Tp (-E - 1) % 10)))
def BigR (D E : Int) : Prop := (0 ≤ E ∧ Tp 56 ≤ D * Tp E) ∨ (E < 0 ∧ Tp (56 - E) ≤ D)
theorem Tp_lt {a b : Int} (h0 : 0 ≤ a) (h : a < b) : 10 * Tp a ≤ Tp b := by rw [← Tp_s h0]; exact Tp_mono (by omega) (by omega)
theorem PDr_step {D x v u dd v2 u2 : Int} (h : PDr D (x + 1) v u) (hD : 0 ≤ D) (hd : 0 ≤ dd ∧ dd ≤ 9) (hb : v < Tp 56) (h56 : x < 56 ∨ dd = 0)
    (hv2 : (0 ≤ x ∧ x < 56 ∧ v2 = v + dd * Tp x) ∨ (¬ (0 ≤ x ∧ x < 56) ∧ v2 = v)) (hu2 : (u2 = 1 ∧ (u = 1 ∨ (x = -1 ∧ 5 ≤ dd))) ∨ (u2 = 0 ∧ ¬ (u = 1 ∨ (x = -1 ∧ 5 ≤ dd)))) : PDr (10 * D + dd) x v2 u2 ∧ v2 < Tp 56 := by
  rcases h with ⟨e0, e1, e2⟩ | ⟨e0, e1, e2⟩
  · by_cases hx : 0 ≤ x
    · have ts := Tp_s hx
      have tp := Tp_pos x
      rw [ts] at e1
      by_cases h5 : x < 56
      · have v2e : v2 = v + dd * Tp x := by omega
        have eq : v2 = (10 * D + dd) * Tp x := by rw [v2e, e1, Int.add_mul, ← Int.mul_assoc, Int.mul_comm D 10]
        refine ⟨Or.inl ⟨hx, eq, by omega⟩, ?_⟩
        have m9 : dd * Tp x ≤ 9 * Tp x := mul_le_r hd.2 (by omega)
        have e56 : Tp 56 = Tp (55 - x) * (10 * Tp x) := by rw [← ts, ← Tp_add (by omega) (by omega)]; exact congrArg Tp (by omega)
        rw [e56, e1] at hb
        have lt : D < Tp (55 - x) := Int.lt_of_mul_lt_mul_right hb (by omega)
        have le : (D + 1) * (10 * Tp x) ≤ Tp (55 - x) * (10 * Tp x) := mul_le_r (by omega) (by omega)
        rw [Int.add_mul] at le
        rw [e56, v2e, e1]
        omega
      · have d0 : dd = 0 := by omega
        have v2e : v2 = v := by omega
        have D0 : D = 0 := by
          refine Classical.byContradiction (fun hh => ?_)
          have m := mul_le_r (show 1 ≤ D by omega) (show 0 ≤ 10 * Tp x by omega)
          have := Tp_mono (a := 56) (b := x) (by decide) (by omega)
          omega
        refine ⟨Or.inl ⟨hx, ?_, by omega⟩, by omega⟩
        rw [v2e, e1, D0, d0]; omega
    · have x1 : x = -1 := by omega
      subst x1
      have v2e : v2 = v := by omega
      rw [show (-1 : Int) + 1 = 0 by decide, Tp_0, Int.mul_one] at e1
      refine ⟨Or.inr ⟨by decide, ?_, ?_⟩, by omega⟩
      · show v2 = (10 * D + dd) / Tp 1
        rw [show Tp 1 = 10 from rfl]; omega
      · show (u2 = 1 ∧ 5 ≤ (10 * D + dd) / Tp 0 % 10) ∨ (u2 = 0 ∧ ¬ 5 ≤ (10 * D + dd) / Tp 0 % 10)
        rw [Tp_0]; omega
  · have v2e : v2 = v := by omega
    have tp := Tp_pos (-(x + 1))
    have es : Tp (-x) = 10 * Tp (-(x + 1)) := by rw [show -x = -(x + 1) + 1 by omega, Tp_s (by omega)]
    have q : (10 * D + dd) / 10 = D := by omega
    refine ⟨Or.inr ⟨by omega, ?_, ?_⟩, by omega⟩
    · rw [es, edd _ _ (by decide : (0 : Int) < 10), q, v2e, e1]
    · have es2 : Tp (-x - 1) = 10 * Tp (-(x + 1) - 1) := by rw [show -x - 1 = (-(x + 1) - 1) + 1 by omega, Tp_s (by omega)]
      rw [es2, edd _ _ (by decide : (0 : Int) < 10), q]
      omega
theorem Big_step {D E dd : Int} (h : BigR D E) (hD : 0 ≤ D) (hd : 0 ≤ dd) : BigR (10 * D + dd) (E - 1) := by
  rcases h with ⟨e0, e1⟩ | ⟨e0, e1⟩
  · by_cases hE : 0 ≤ E - 1
    · refine Or.inl ⟨hE, ?_⟩
      have ts : Tp E = 10 * Tp (E - 1) := by rw [← Tp_s hE]; exact congrArg Tp (by omega)
      rw [ts, ← Int.mul_assoc, Int.mul_comm D 10] at e1
      have m : 0 ≤ dd * Tp (E - 1) := Int.mul_nonneg hd (Int.le_of_lt (Tp_pos _))
      rw [Int.add_mul]; omega
    · refine Or.inr ⟨by omega, ?_⟩
      have E0 : E = 0 := by omega
      subst E0
      rw [Tp_0, Int.mul_one] at e1
      show Tp 57 ≤ _
      have ts : Tp 57 = 10 * Tp 56 := Tp_s (i := 56) (by decide)
      omega
  · refine Or.inr ⟨by omega, ?_⟩
    have ts : Tp (56 - (E - 1)) = 10 * Tp (56 - E) := by rw [← Tp_s (by omega)]; exact congrArg Tp (by omega)
    omega
theorem Big_ext {ch : Int → Int} {us pt st e F i : Int} (hN : NumR ch us st e pt) (h0 : st ≤ i) (h : BigR (Dg ch pt st i) (F - Cn pt st i)) : ∀ n : Nat, i + n ≤ e → BigR (Dg ch pt st (i + n)) (F - Cn pt st (i + n)) := by
  intro n
  induction n with
  | zero => intro _; rw [show i + ((0 : Nat) : Int) = i by omega]; exact h
  | succ n ih =>
    intro hn
    have i1 := ih (by omega)
    rw [show i + ((n + 1 : Nat) : Int) = (i + n) + 1 by omega]
    by_cases hp : i + (n : Int) = pt
    · rw [Dg_p ch (by omega) hp, Cn_p hp]; exact i1
    · rw [Dg_d ch (by omega) hp, Cn_d hp, show F - (Cn pt st (i + n) + 1) = F - Cn pt st (i + n) - 1 by omega]
      have d := hN.2.2.2.1 (i + n) (by omega) (by omega) hp
      exact Big_step i1 (Dg_n0 hN (by omega) (by omega)) (by omega)
theorem Big_all {ch : Int → Int} {us pt st e F i : Int} (hN : NumR ch us st e pt) (h0 : st ≤ i) (h1 : i ≤ e) (h : BigR (Dg ch pt st i) (F - Cn pt st i)) : BigR (Dg ch pt st e) (F - Cn pt st e) := by
  have := Big_ext hN h0 h (e - i).toNat (by omega)
  rwa [show i + (((e - i).toNat : Nat) : Int) = e by omega] at this
theorem Big_new {D x dd : Int} (hD : 0 ≤ D) (hx : 56 ≤ x) (hd : 1 ≤ dd) : BigR (10 * D + dd) x := by
  refine Or.inl ⟨by omega, ?_⟩
  have m := mul_le_r (show 1 ≤ 10 * D + dd by omega) (Int.le_of_lt (Tp_pos x))
  have := Tp_mono (a := 56) (b := x) (by decide) hx
  omega
theorem dT_in {d r : Int} (hd : 0 ≤ d ∧ d ≤ 9) (hr : 0 ≤ r ∧ r < 4) : 0 ≤ d * Tp r ∧ d * Tp r ≤ 9000 := by
  have c : r = 0 ∨ r = 1 ∨ r = 2 ∨ r = 3 := by omega
  rcases c with rfl | rfl | rfl | rfl
  · rw [show Tp 0 = 1 from rfl]; omega
  · rw [show Tp 1 = 10 from rfl]; omega
  · rw [show Tp 2 = 100 from rfl]; omega
  · rw [show Tp 3 = 1000 from rfl]; omega
theorem lb_in {h : Int → Int} {x d : Int} (bh : bd h 15 0 9999) (hx : 0 ≤ x ∧ x < 56) (hd : 0 ≤ d ∧ d ≤ 9) (hm : V h 15 % Tp (x + 1) = 0) :
    0 ≤ h (x / 4) + d * Tp (x % 4) ∧ h (x / 4) + d * Tp (x % 4) ≤ 9999 ∧ V (up h (x / 4) (h (x / 4) + d * Tp (x % 4))) 15 = V h 15 + d * Tp x := by
  have b := bh (x / 4) (by omega) (by omega)
  have dt := dT_in hd (show 0 ≤ x % 4 ∧ x % 4 < 4 by omega)
  have key : h (x / 4) % Tp (x % 4 + 1) = 0 := by
    obtain ⟨t, ht⟩ := V_hi h (n := x / 4 + 1) (N := 15) (by omega) (by omega)
    have e := ht h (fun _ _ _ => rfl)
    have v := V_in bh (n := x / 4) (by omega) (by omega)
    have p0 := Bp_pos (x / 4)
    rw [e, V_s h (by omega), Bp_s (by omega), show x + 1 = (x % 4 + 1) + 4 * (x / 4) by omega, Tp_add (by omega) (by omega), ← Bp_Tp (by omega)] at hm
    rw [show V h (x / 4) + h (x / 4) * Bp (x / 4) + t * (10000 * Bp (x / 4)) = V h (x / 4) + (h (x / 4) + t * 10000) * Bp (x / 4) by rw [Int.add_mul, Int.mul_assoc]; omega] at hm
    obtain ⟨q, hq⟩ := Int.dvd_of_emod_eq_zero hm
    have v0 : V h (x / 4) = 0 := by
      have : (V h (x / 4) + (h (x / 4) + t * 10000) * Bp (x / 4)) % Bp (x / 4) = 0 := by rw [hq, Int.mul_comm (Tp _), Int.mul_assoc]; exact Int.mul_emod_right _ _
      rw [Int.add_mul_emod_self_right, Int.emod_eq_of_lt v.1 v.2] at this
      exact this
    rw [v0, Int.zero_add, Int.mul_comm (Tp _), Int.mul_assoc, Int.mul_comm] at hq
    have hq2 : h (x / 4) + t * 10000 = Tp (x % 4 + 1) * q := Int.eq_of_mul_eq_mul_left (by omega) hq
    have c : x % 4 = 0 ∨ x % 4 = 1 ∨ x % 4 = 2 ∨ x % 4 = 3 := by omega
    rcases c with c | c | c | c <;> rw [c] at hq2 ⊢
    · rw [show Tp (0 + 1) = 10 from rfl] at *; omega
    · rw [show Tp (1 + 1) = 100 from rfl] at *; omega
    · rw [show Tp (2 + 1) = 1000 from rfl] at *; omega
    · rw [show Tp (3 + 1) = 10000 from rfl] at *; omega
  refine ⟨by omega, ?_, ?_⟩
  · have c : x % 4 = 0 ∨ x % 4 = 1 ∨ x % 4 = 2 ∨ x % 4 = 3 := by omega
    rcases c with c | c | c | c <;> rw [c] at key dt ⊢
    · rw [show Tp (0 + 1) = 10 from rfl] at key; rw [show Tp 0 = 1 from rfl]; omega
    · rw [show Tp (1 + 1) = 100 from rfl] at key; rw [show Tp 1 = 10 from rfl]; omega
    · rw [show Tp (2 + 1) = 1000 from rfl] at key; rw [show Tp 2 = 100 from rfl]; omega
    · rw [show Tp (3 + 1) = 10000 from rfl] at key; rw [show Tp 3 = 1000 from rfl]; omega
  · rw [V_set h (by omega) (by omega), Tp_q hx.1, Int.add_mul, Int.mul_assoc]
    omega
theorem PDr_mod {D E v u : Int} (h : PDr D E v u) (hE : 0 ≤ E) : v % Tp E = 0 := by
  rcases h with ⟨_, e1, _⟩ | ⟨e0, _⟩
  · rw [e1]; exact Int.mul_emod_left _ _
  · omega
/-- the number that a text's digits give, with its rounding -/
def PdV (D E : Int) : Int := if 0 ≤ E then D * Tp E else D / Tp (-E) + (if 5 ≤ D / Tp (-E - 1) % 10 then 1 else 0)
theorem PdV_1 {D E v : Int} (h : PDr D E v 1) : PdV D E = v + 1 := by
  rcases h with ⟨_, _, e2⟩ | ⟨e0, e1, e2⟩
  · omega
  · unfold PdV
    rw [if_neg (by omega), if_pos (by omega), e1]
theorem PdV_0 {D E v : Int} (h : PDr D E v 0) : PdV D E = v := by
  unfold PdV
  rcases h with ⟨e0, e1, _⟩ | ⟨e0, e1, e2⟩
  · rw [if_pos e0, e1]
  · rw [if_neg (by omega), if_neg (by omega), e1]; omega
