/-! Texts in the reference. -/
theorem y4_D {h : Int → Int} {n : Int} (hn : 0 ≤ n ∧ n ≤ 9999) (hd : ∀ j : Int, 0 ≤ j → j < 4 → h (24 + j) = n / Tp j % 10) (hz : ∀ j : Int, 0 ≤ j → j < 56 → ¬ (24 ≤ j ∧ j < 28) → h j = 0) : Vt h 56 = n * Tp 24 := by
  refine y4_V hn ?_ ?_ ?_ ?_ hz
  · have := hd 0 (by decide) (by decide); rw [show Tp 0 = 1 from rfl, Int.ediv_one] at this; exact this
  · exact hd 1 (by decide) (by decide)
  · have := hd 2 (by decide) (by decide); rw [show Tp 2 = 100 from rfl] at this; have e : h (24 + 2) = h 26 := congrArg h (by decide); rw [e] at this; omega
  · have := hd 3 (by decide) (by decide); rw [show Tp 3 = 1000 from rfl] at this; have e : h (24 + 3) = h 27 := congrArg h (by decide); rw [e] at this; omega
theorem y4_n {n i m : Int} (h : 24 ≤ i) (hm : m = n / Tp (i - 24)) : m / 10 = n / Tp (i + 1 - 24) := by
  rw [hm, show i + 1 - 24 = (i - 24) + 1 by omega, Tp_s (by omega), Int.mul_comm 10, edd _ _ (Tp_pos _)]
def km (k : Int) : Nat := if k = 0 then 1 else if k = 1 then 3 else if k = 2 then 2 else 0
theorem km_c {k : Int} (h : 0 ≤ k ∧ k ≤ 3) : (k = 0 ∧ km k = 1) ∨ (k = 1 ∧ km k = 3) ∨ (k = 2 ∧ km k = 2) ∨ (k = 3 ∧ km k = 0) := by
  have c : k = 0 ∨ k = 1 ∨ k = 2 ∨ k = 3 := by omega
  rcases c with rfl | rfl | rfl | rfl <;> decide
theorem ch5_2 {k : Int} (h : 1 ≤ k ∧ k ≤ 7) : chZ 5 k = chZ 2 k := by
  have c : k = 1 ∨ k = 2 ∨ k = 3 ∨ k = 4 ∨ k = 5 ∨ k = 6 ∨ k = 7 := by omega
  rcases c with rfl | rfl | rfl | rfl | rfl | rfl | rfl <;> decide
theorem ch5_0 {k i : Int} (h : 1 ≤ k ∧ k ≤ 7) (hi : i = k + 1) : chZ 5 k = chZ 0 i := by
  rw [hi]
  have c : k = 1 ∨ k = 2 ∨ k = 3 ∨ k = 4 ∨ k = 5 ∨ k = 6 ∨ k = 7 := by omega
  rcases c with rfl | rfl | rfl | rfl | rfl | rfl | rfl <;> decide
theorem ch5_6 {k : Int} (h : 0 ≤ k ∧ k < 3) : chZ 5 k = chZ 6 k := by
  have c : k = 0 ∨ k = 1 ∨ k = 2 := by omega
  rcases c with rfl | rfl | rfl <;> decide
theorem ln_5 : lenZ 5 = 8 := by decide
theorem ln_6 : lenZ 6 = 3 := by decide
theorem ln_4 : lenZ 4 = 3 := by decide
theorem wd_4 {ch : Int → Int} {us : Int} : WdR ch us 0 4 ↔ (us = 3 ∧ lw (ch 0) = 110 ∧ lw (ch 1) = 97 ∧ lw (ch 2) = 110) := by
  unfold WdR
  rw [ln_4]
  constructor
  · rintro ⟨h1, h2⟩
    have a0 := h2 0 (by decide) (by decide)
    have a1 := h2 1 (by decide) (by decide)
    have a2 := h2 2 (by decide) (by decide)
    rw [Int.zero_add] at a0 a1 a2
    refine ⟨by omega, a0.trans (by decide), a1.trans (by decide), a2.trans (by decide)⟩
  · rintro ⟨h1, h2, h3, h4⟩
    refine ⟨by omega, fun k g1 g2 => ?_⟩
    have c : k = 0 ∨ k = 1 ∨ k = 2 := by omega
    rcases c with rfl | rfl | rfl
    · rw [Int.zero_add]; exact h2.trans (by decide)
    · rw [Int.zero_add]; exact h3.trans (by decide)
    · rw [Int.zero_add]; exact h4.trans (by decide)
theorem wd_5 {ch : Int → Int} {us st : Int} (hn : us - st = 3 ∨ us - st = 8) (h : ∀ j : Int, 0 ≤ j → j < us - st → lw (ch (st + j)) = chZ 5 j) : WdR ch us st 5 ∨ WdR ch us st 6 := by
  rcases hn with h3 | h8
  · exact Or.inr ⟨by rw [ln_6]; exact h3, fun k g1 g2 => by rw [ln_6] at g2; rw [h k g1 (by omega)]; exact ch5_6 ⟨g1, g2⟩⟩
  · exact Or.inl ⟨by rw [ln_5]; exact h8, fun k g1 g2 => by rw [ln_5] at g2; exact h k g1 (by omega)⟩
theorem wd_n {ch : Int → Int} {us st k : Int} (hk : 0 ≤ k ∧ k < us - st) (h : lw (ch (st + k)) ≠ chZ 5 k) : ¬ (WdR ch us st 5 ∨ WdR ch us st 6) := by
  rintro (⟨h1, h2⟩ | ⟨h1, h2⟩)
  · exact h (h2 k hk.1 (by omega))
  · rw [ln_6] at h1 h2; exact h ((h2 k hk.1 (by omega)).trans (ch5_6 ⟨hk.1, by omega⟩).symm)
theorem wd_m {ch : Int → Int} {us st : Int} (h : ¬ (us - st = 3 ∨ us - st = 8)) : ¬ (WdR ch us st 5 ∨ WdR ch us st 6) := by
  rintro (⟨h1, h2⟩ | ⟨h1, h2⟩)
  · rw [ln_5] at h1; omega
  · rw [ln_6] at h1; omega
/-- the digits before the point of a register -/
theorem wh_of {f : Int → Int} {n : Int} (bf : bd f 56 0 9) (h : (n = 1 ∧ ∀ j : Int, 24 ≤ j → j < 56 → f j = 0) ∨ (∃ t : Int, n = t - 23 ∧ 24 ≤ t ∧ t < 56 ∧ f t ≠ 0 ∧ ∀ j : Int, t < j → j < 56 → f j = 0)) : Wh (Vt f 56) n := by
  rcases h with ⟨h1, h2⟩ | ⟨t, h1, h2, h3, h4, h5⟩
  · have l := re_lt bf (n := 24) (by decide) (by decide) h2
    have b := Vt_in bf (show (0 : Int) ≤ 56 by decide) (Int.le_refl 56)
    have key : ∀ m : Nat, Vt f 56 < Tp m → ∃ d : Int, dgs (Vt f 56) d ∧ d ≤ m := by
      intro m
      induction m with
      | zero => intro h; rw [show ((0 : Nat) : Int) = 0 from rfl, Tp_0] at h; exact ⟨0, Or.inl ⟨rfl, by omega⟩, by decide⟩
      | succ m ih =>
        intro h
        by_cases hn : Vt f 56 < Tp m
        · obtain ⟨d, d1, d2⟩ := ih hn
          exact ⟨d, d1, by omega⟩
        · refine ⟨(m : Int) + 1, Or.inr ⟨by omega, by rw [show (m : Int) + 1 - 1 = m by omega]; omega, ?_⟩, by omega⟩
          rw [show ((m + 1 : Nat) : Int) = (m : Int) + 1 by omega] at h
          exact h
    obtain ⟨d, d1, d2⟩ := key 24 l
    exact ⟨d, d1, by omega⟩
  · have tw := tw_V bf ⟨by omega, h3⟩ h4 h5
    exact ⟨t + 1, Or.inr ⟨by omega, by rw [show t + 1 - 1 = t by omega]; exact tw.1, tw.2⟩, by omega⟩
def LnR (k p m v z : Int) : Prop := (k ≠ 0 ∧ z = lenZ (km k)) ∨ (k = 0 ∧ ∃ n : Int, Wh v n ∧ 1 ≤ n ∧ n ≤ 33 ∧ z = m + n + ptl p)
def ChR (k m v i z : Int) : Prop := (k ≠ 0 ∧ z = chZ (km k) i) ∨ (k = 0 ∧ ∃ n : Int, Wh v n ∧ TcR m v n i z)
/-- the counts beside the digits of a text -/
def EDc (ch : Int → Int) (st x ps bf bh : Int) : Prop :=
  (ps = 0 ∧ bf = x - st ∧ bh = 0 ∧ ∀ j : Int, st ≤ j → j < x → dgc (ch j)) ∨ (ps = 1 ∧ ∃ pt : Int, st ≤ pt ∧ pt < x ∧ bf = pt - st ∧ bh = x - pt - 1 ∧ ch pt = 46 ∧ ∀ j : Int, st ≤ j → j < x → j ≠ pt → dgc (ch j))
theorem EDc_0 (ch : Int → Int) (st : Int) : EDc ch st st 0 0 0 := Or.inl ⟨rfl, by omega, rfl, fun j g1 g2 => by omega⟩
theorem EDc_in {ch : Int → Int} {st x ps bf bh : Int} (h : EDc ch st x ps bf bh) (hs : st ≤ x) : 0 ≤ bf ∧ 0 ≤ bh ∧ bf + bh ≤ x - st := by
  rcases h with ⟨_, h1, h2, _⟩ | ⟨_, pt, h1, h2, h3, h4, _⟩ <;> omega
theorem EDc_b {ch : Int → Int} {st x bf bh : Int} (h : EDc ch st x 0 bf bh) (hd : dgc (ch x)) : EDc ch st (x + 1) 0 (bf + 1) bh := by
  rcases h with ⟨h0, h1, h2, h3⟩ | ⟨h0, _⟩
  · refine Or.inl ⟨rfl, by omega, h2, fun j g1 g2 => ?_⟩
    by_cases e : j = x
    · rw [e]; exact hd
    · exact h3 j g1 (by omega)
  · omega
theorem EDc_h {ch : Int → Int} {st x bf bh : Int} (h : EDc ch st x 1 bf bh) (hd : dgc (ch x)) : EDc ch st (x + 1) 1 bf (bh + 1) := by
  rcases h with ⟨h0, _⟩ | ⟨h0, pt, h1, h2, h3, h4, h5, h6⟩
  · omega
  · refine Or.inr ⟨rfl, pt, h1, by omega, h3, by omega, h5, fun j g1 g2 g3 => ?_⟩
    by_cases e : j = x
    · rw [e]; exact hd
    · exact h6 j g1 (by omega) g3
theorem EDc_p {ch : Int → Int} {st x bf bh : Int} (h : EDc ch st x 0 bf bh) (hs : st ≤ x) (hp : ch x = 46) : EDc ch st (x + 1) 1 bf bh := by
  rcases h with ⟨h0, h1, h2, h3⟩ | ⟨h0, _⟩
  · exact Or.inr ⟨rfl, x, hs, by omega, h1, by omega, hp, fun j g1 g2 g3 => h3 j g1 (by omega)⟩
  · omega
theorem EDc_e {ch : Int → Int} {us st x ps bf bh : Int} (h : EDc ch st x ps bf bh) (hs : st ≤ x) (hu : x ≤ us) (he : x = us ∨ (¬ dgc (ch x) ∧ ¬ (ch x = 46 ∧ ps = 0))) : ∃ pt : Int, NumR ch us st x pt ∧ bf = pt - st ∧ bh = mx0 (x - pt - 1) ∧ bf + bh = Cn pt st x := by
  rcases h with ⟨h0, h1, h2, h3⟩ | ⟨h0, pt, h1, h2, h3, h4, h5, h6⟩
  · exact ⟨x, ⟨hs, Int.le_refl x, hu, fun j g1 g2 _ => h3 j g1 g2, fun g => by omega, by omega⟩, h1, by unfold mx0; omega, by rw [Cn_n (Int.le_refl x)]; omega⟩
  · exact ⟨pt, ⟨h1, by omega, hu, h6, fun _ => h5, by omega⟩, h3, by unfold mx0; omega, by rw [Cn_y h2]; omega⟩
/-- the exponent as the reference reads it: the place behind it, and the power -/
def EpR (ch : Int → Int) (us e i pw : Int) : Prop := ∃ x : Int, ExpR ch us e x ∧ ((i = us ∧ x = pw ∧ x ≠ 1000) ∨ (i ≠ us ∧ x = 1000))
theorem isE_lw {c : Int} (h : 0 ≤ c ∧ c ≤ 126) : lw c = 101 ↔ isE c := by
  unfold lw isE
  by_cases k : 65 ≤ c ∧ c ≤ 90
  · rw [if_pos k]; omega
  · rw [if_neg k]; omega
theorem EpR_no {ch : Int → Int} {us e : Int} (he : e ≤ us) (h : e = us ∨ ¬ isE (ch e)) : EpR ch us e e 0 := by
  by_cases g : e = us
  · exact ⟨0, Or.inl ⟨g, rfl⟩, Or.inl ⟨g, rfl, by decide⟩⟩
  · exact ⟨1000, Or.inr (Or.inl ⟨by omega, by rcases h with h | h; exact absurd h g; exact h, rfl⟩), Or.inr ⟨g, rfl⟩⟩
theorem EpR_yes {ch : Int → Int} {us e f i dn pw p2 i2 : Int} (he : e < us) (hE : isE (ch e)) (hf : (f = e + 2 ∧ e + 1 < us ∧ (ch (e + 1) = 43 ∨ ch (e + 1) = 45)) ∨ (f = e + 1 ∧ ¬ (e + 1 < us ∧ (ch (e + 1) = 43 ∨ ch (e + 1) = 45))))
    (hdn : (dn = 1 ∧ e + 1 < us ∧ ch (e + 1) = 45) ∨ (dn = 0 ∧ ¬ (e + 1 < us ∧ ch (e + 1) = 45))) (hi : f ≤ i ∧ i ≤ f + 3 ∧ (i ≤ us ∨ i = f)) (hz : ∀ j : Int, f ≤ j → j < i → dgc (ch j)) (hend : i = f + 3 ∨ ¬ (i < us ∧ dgc (ch i))) (hp : pw = Hz ch f i) (hp9 : 0 ≤ pw ∧ pw ≤ 999)
    (hp2 : (dn = 1 ∧ p2 = -pw) ∨ (dn = 0 ∧ p2 = pw)) (hi2 : (i = f ∧ i2 = -1) ∨ (i ≠ f ∧ i2 = i)) (hus : 0 ≤ us) : EpR ch us e i2 p2 := by
  by_cases g : i2 = us
  · have e1 : i = us ∧ i ≠ f := by omega
    refine ⟨p2, Or.inr (Or.inr ⟨he, hE, f, hf, Or.inr ⟨by omega, by omega, fun j g1 g2 => hz j g1 (by omega), ?_, ?_, ?_⟩⟩), Or.inl ⟨g, rfl, by omega⟩⟩
    · rw [← e1.1, ← hp]; exact hp9.1
    · rw [← e1.1, ← hp]; exact hp9.2
    · rw [← e1.1, ← hp]; omega
  · refine ⟨1000, Or.inr (Or.inr ⟨he, hE, f, hf, Or.inl ⟨fun hh => g ?_, rfl⟩⟩), Or.inr ⟨g, rfl⟩⟩
    obtain ⟨a1, a2, a3⟩ := hh
    by_cases c : i < us
    · have := a3 i hi.1 c
      omega
    · omega
/-- the number of the digits, in units of the paper -/
def PdX (D E : Int) : Int := if 0 ≤ E then D * Tp E else D / Tp (-E)
theorem PdX_p {D E : Int} (h : 0 ≤ E) : PdX D E = D * Tp E := if_pos h
theorem PdX_n {D E : Int} (h : E < 0) : PdX D E = D / Tp (-E) := if_neg (by omega)
theorem PdX_0 (E : Int) : PdX 0 E = 0 := by
  by_cases h : 0 ≤ E
  · rw [PdX_p h]; omega
  · rw [PdX_n (by omega)]; exact Int.zero_ediv _
theorem PdX_step {D x d v v2 : Int} (hD : 0 ≤ D) (hd : 0 ≤ d ∧ d ≤ 9) (hv : v = PdX D (x + 1)) (hb : v < Tp 80) (h80 : x < 80 ∨ d = 0) (hv2 : (0 ≤ x ∧ x < 80 ∧ v2 = v + d * Tp x) ∨ (¬ (0 ≤ x ∧ x < 80) ∧ v2 = v)) : v2 = PdX (10 * D + d) x ∧ v2 < Tp 80 := by
  by_cases hx : 0 ≤ x
  · rw [PdX_p (by omega), Tp_s hx] at hv
    rw [PdX_p hx]
    have tp := Tp_pos x
    have e0 : D * (10 * Tp x) = 10 * D * Tp x := by rw [← Int.mul_assoc, Int.mul_comm D 10]
    by_cases h8 : x < 80
    · have v2e : v2 = v + d * Tp x := by omega
      refine ⟨by rw [v2e, hv, e0, Int.add_mul], ?_⟩
      have e80 : Tp 80 = Tp (79 - x) * (10 * Tp x) := by rw [← Tp_s hx, ← Tp_add (by omega) (by omega)]; exact congrArg Tp (by omega)
      rw [e80, hv] at hb
      have lt : D < Tp (79 - x) := Int.lt_of_mul_lt_mul_right hb (by omega)
      have le := mul_le_r (show D + 1 ≤ Tp (79 - x) by omega) (show 0 ≤ 10 * Tp x by omega)
      rw [Int.add_mul] at le
      have m9 := mul_le_r hd.2 (Int.le_of_lt tp)
      rw [e80, v2e, hv]
      omega
    · have d0 : d = 0 := by omega
      have v2e : v2 = v := by omega
      have D0 : D = 0 := by
        refine Classical.byContradiction (fun hh => ?_)
        have m := mul_le_r (show 1 ≤ D by omega) (show 0 ≤ 10 * Tp x by omega)
        have := Tp_mono (a := 80) (b := x) (by decide) (by omega)
        omega
      refine ⟨?_, by omega⟩
      rw [v2e, hv, d0, D0]; omega
  · have v2e : v2 = v := by omega
    refine ⟨?_, by omega⟩
    rw [v2e, hv, PdX_n (show x < 0 by omega)]
    have q : (10 * D + d) / 10 = D := by omega
    have es : Tp (-x) = 10 * Tp (-(x + 1)) := by rw [show -x = -(x + 1) + 1 by omega, Tp_s (by omega)]
    rw [es, edd _ _ (by decide : (0 : Int) < 10), q]
    by_cases h1 : x = -1
    · rw [h1, PdX_p (by decide)]
      show D * Tp 0 = D / Tp 0
      rw [Tp_0, Int.mul_one, Int.ediv_one]
    · rw [PdX_n (by omega)]
/-- what the reading of a number leaves in the reference -/
def NbR (ch : Int → Int) (us st mn z d : Int) (kf sf mf G k' s' m' G' : Int → Int) : Prop :=
  ∃ e pt x : Int, NumR ch us st e pt ∧ ExpR ch us e x ∧ ((z = -2 ∧ (Cn pt st e = 0 ∨ x = 1000) ∧ NoR kf sf mf G k' s' m' G') ∨ (Cn pt st e ≠ 0 ∧ x ≠ 1000 ∧
    ((z = -3 ∧ BigR (Dg ch pt st e) (24 - (mx0 (e - pt - 1) - x)) ∧ NoR kf sf mf G k' s' m' G') ∨
     (KpR z d (cl24 (mx0 (e - pt - 1) - x)) mn (Rn (PdX (Dg ch pt st e) (48 - (mx0 (e - pt - 1) - x))) (48 - cl24 (mx0 (e - pt - 1) - x))) kf sf mf G k' s' m' G'))))
def EnR (ch : Int → Int) (us z d : Int) (kf sf mf G k' s' m' G' : Int → Int) : Prop :=
  (WdR ch us 0 4 ∧ SpR z d 1 kf sf mf G k' s' m' G') ∨ (¬ WdR ch us 0 4 ∧ ∃ st mn : Int, ((st = 1 ∧ 0 < us ∧ (ch 0 = 43 ∨ ch 0 = 45)) ∨ (st = 0 ∧ ¬ (0 < us ∧ (ch 0 = 43 ∨ ch 0 = 45)))) ∧ ((mn = 1 ∧ st = 1 ∧ ch 0 = 45) ∨ (mn = 0 ∧ ¬ (st = 1 ∧ ch 0 = 45))) ∧
    (((WdR ch us st 5 ∨ WdR ch us st 6) ∧ ((mn = 1 ∧ SpR z d 3 kf sf mf G k' s' m' G') ∨ (mn = 0 ∧ SpR z d 2 kf sf mf G k' s' m' G'))) ∨ (¬ (WdR ch us st 5 ∨ WdR ch us st 6) ∧ NbR ch us st mn z d kf sf mf G k' s' m' G')))
theorem Dg_all {ch : Int → Int} {us pt st e i : Int} (h : NumR ch us st e pt) (h0 : st ≤ i) (h1 : i ≤ e) : 0 ≤ Dg ch pt st i := Dg_n0 h h0 h1
