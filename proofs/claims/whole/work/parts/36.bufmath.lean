/-! Pure rows for the reading of texts. -/
abbrev dgc (c : Int) : Prop := 48 ≤ c ∧ c ≤ 57
/-- what stands from st to x are digits, and one point if ps is one -/
def EDI (ch : Int → Int) (st x ps : Int) : Prop :=
  (ps = 0 ∧ ∀ j : Int, st ≤ j → j < x → dgc (ch j)) ∨ (ps = 1 ∧ ∃ pt : Int, st ≤ pt ∧ pt < x ∧ ch pt = 46 ∧ ∀ j : Int, st ≤ j → j < x → j ≠ pt → dgc (ch j))
/-- the digits of a text: from st to e, the point at pt (e if there is none) -/
def NumR (ch : Int → Int) (us st e pt : Int) : Prop :=
  st ≤ pt ∧ pt ≤ e ∧ e ≤ us ∧ (∀ j : Int, st ≤ j → j < e → j ≠ pt → dgc (ch j)) ∧ (pt < e → ch pt = 46) ∧ (e = us ∨ (¬ dgc (ch e) ∧ ¬ (ch e = 46 ∧ pt = e)))
theorem EDI_0 (ch : Int → Int) (st : Int) : EDI ch st st 0 := Or.inl ⟨rfl, fun j g1 g2 => by omega⟩
theorem EDI_d {ch : Int → Int} {st x ps : Int} (h : EDI ch st x ps) (hd : dgc (ch x)) : EDI ch st (x + 1) ps := by
  rcases h with ⟨h0, h1⟩ | ⟨h0, pt, h1, h2, h3, h4⟩
  · refine Or.inl ⟨h0, fun j g1 g2 => ?_⟩
    by_cases e : j = x
    · rw [e]; exact hd
    · exact h1 j g1 (by omega)
  · refine Or.inr ⟨h0, pt, h1, by omega, h3, fun j g1 g2 g3 => ?_⟩
    by_cases e : j = x
    · rw [e]; exact hd
    · exact h4 j g1 (by omega) g3
theorem EDI_p {ch : Int → Int} {st x ps : Int} (h : EDI ch st x ps) (h0 : ps = 0) (hs : st ≤ x) (hp : ch x = 46) : EDI ch st (x + 1) 1 := by
  rcases h with ⟨-, h1⟩ | ⟨h1, -⟩
  · exact Or.inr ⟨rfl, x, hs, by omega, hp, fun j g1 g2 g3 => h1 j g1 (by omega)⟩
  · omega
theorem EDI_e {ch : Int → Int} {us st x ps : Int} (h : EDI ch st x ps) (hs : st ≤ x) (hu : x ≤ us) (he : x = us ∨ (¬ dgc (ch x) ∧ ¬ (ch x = 46 ∧ ps = 0))) : ∃ pt : Int, NumR ch us st x pt := by
  rcases h with ⟨h0, h1⟩ | ⟨h0, pt, h1, h2, h3, h4⟩
  · exact ⟨x, hs, Int.le_refl x, hu, fun j g1 g2 _ => h1 j g1 g2, fun g => by omega, by omega⟩
  · exact ⟨pt, h1, by omega, hu, h4, fun _ => h3, by omega⟩
theorem NumR_pt {ch : Int → Int} {us st e pt z : Int} (h : NumR ch us st e pt) (h1 : st ≤ z) (h2 : z ≤ e) (h3 : ∀ j : Int, st ≤ j → j < z → ch j ≠ 46) (h4 : z < e → ch z = 46) : pt = z := by
  obtain ⟨g1, g2, g3, g4, g5, g6⟩ := h
  by_cases a : pt < z
  · exact absurd (g5 (by omega)) (h3 pt g1 a)
  · by_cases b : z < pt
    · have := g4 z h1 (by omega) (by omega)
      have := h4 (by omega)
      omega
    · omega
def Hzn (ch : Int → Int) (a : Int) : Nat → Int
  | 0 => 0
  | n + 1 => Hzn ch a n * 10 + (ch (a + n) - 48)
/-- the number that the digits from a on make, up to b -/
def Hz (ch : Int → Int) (a b : Int) : Int := Hzn ch a (b - a).toNat
theorem Hz_0 (ch : Int → Int) (a : Int) : Hz ch a a = 0 := by unfold Hz; rw [show (a - a).toNat = 0 by omega]; rfl
theorem Hz_s (ch : Int → Int) {a b : Int} (h : a ≤ b) : Hz ch a (b + 1) = Hz ch a b * 10 + (ch b - 48) := by
  unfold Hz
  rw [show (b + 1 - a).toNat = (b - a).toNat + 1 by omega]
  show Hzn ch a (b - a).toNat * 10 + (ch (a + (b - a).toNat) - 48) = _
  rw [show a + (((b - a).toNat : Nat) : Int) = b by omega]
/-- a letter e -/
abbrev isE (c : Int) : Prop := c = 69 ∨ c = 101
def fsg (ch : Int → Int) (us e : Int) : Int := if e + 1 < us ∧ (ch (e + 1) = 43 ∨ ch (e + 1) = 45) then e + 2 else e + 1
/-- the exponent, 1000 if there is none -/
def ExpR (ch : Int → Int) (us e z : Int) : Prop :=
  (e = us ∧ z = 0) ∨ (e < us ∧ ¬ isE (ch e) ∧ z = 1000) ∨
  (e < us ∧ isE (ch e) ∧ ∃ f : Int, ((f = e + 2 ∧ e + 1 < us ∧ (ch (e + 1) = 43 ∨ ch (e + 1) = 45)) ∨ (f = e + 1 ∧ ¬ (e + 1 < us ∧ (ch (e + 1) = 43 ∨ ch (e + 1) = 45)))) ∧
    ((¬ (f < us ∧ us - f ≤ 3 ∧ ∀ j : Int, f ≤ j → j < us → dgc (ch j)) ∧ z = 1000) ∨
     (f < us ∧ us - f ≤ 3 ∧ (∀ j : Int, f ≤ j → j < us → dgc (ch j)) ∧ 0 ≤ Hz ch f us ∧ Hz ch f us ≤ 999 ∧ ((ch (e + 1) = 45 ∧ z = -Hz ch f us) ∨ (ch (e + 1) ≠ 45 ∧ z = Hz ch f us)))))
def lw (c : Int) : Int := if 65 ≤ c ∧ c ≤ 90 then c + 32 else c
theorem lw_of {c z : Int} (h : (65 ≤ c ∧ c ≤ 90 ∧ z = c + 32) ∨ (¬ (65 ≤ c ∧ c ≤ 90) ∧ z = c)) : z = lw c := by
  unfold lw
  by_cases g : 65 ≤ c ∧ c ≤ 90
  · rw [if_pos g]; omega
  · rw [if_neg g]; omega
/-- the text from st on is the word i -/
def WdR (ch : Int → Int) (us st : Int) (i : Nat) : Prop := us - st = lenZ i ∧ ∀ k : Int, 0 ≤ k → k < lenZ i → lw (ch (st + k)) = chZ i k
theorem chZ_in (i : Nat) (k : Int) : 0 ≤ chZ i k ∧ chZ i k < 256 := by
  unfold chZ
  generalize (bytS.getD i []).getD k.toNat 0 = x
  obtain ⟨j, hj, e⟩ := pk_andE x (m := 255) 8 (by decide)
  rw [e, nI_toInt (by omega)]
  omega
