/-! The two sides agree: rounding, multiples, what stays of a result. -/
theorem sc_div (v : Int) {c x : Int} (hc : 0 ≤ c) (hx : 0 ≤ x) : v * Tp c / Tp (x + c) = v / Tp x := by
  rw [Tp_add hx hc]; exact Int.mul_ediv_mul_of_pos_left _ _ (Tp_pos c)
theorem mt_cancel (v x : Int) : v * Tp x / Tp x = v := Int.mul_ediv_cancel _ (by have := Tp_pos x; omega)
theorem mt_split (v : Int) {c x : Int} (hx : 0 ≤ x) (h : x ≤ c) : v * Tp c = v * Tp (c - x) * Tp x := by
  rw [Int.mul_assoc, ← Tp_add (by omega) hx]; exact congrArg (fun y => v * Tp y) (by omega)
theorem mt_dig (v : Int) {c x : Int} (hx : 0 ≤ x) (h : x < c) : v * Tp c / Tp x % 10 = 0 := by
  rw [mt_split v hx (Int.le_of_lt h), mt_cancel, show c - x = (c - x - 1) + 1 by omega, Tp_s (by omega), ← Int.mul_assoc, Int.mul_comm v 10, Int.mul_assoc]
  exact Int.mul_emod_right _ _
theorem Rn_le0 {v x : Int} (h : x ≤ 0) : Rn v x = v := if_pos h
theorem Rn_gt0 {v x : Int} (h : 0 < x) : Rn v x = (v / Tp x + (if 5 ≤ v / Tp (x - 1) % 10 then 1 else 0)) * Tp x := if_neg (by omega)
theorem Rn_mul (u x : Int) : Rn (u * Tp x) x = u * Tp x := by
  by_cases h : x ≤ 0
  · exact Rn_le0 h
  · rw [Rn_gt0 (by omega), mt_cancel, mt_dig u (by omega) (by omega), if_neg (by decide), Int.add_zero]
theorem Rn_sc (v : Int) {c x : Int} (hc : 0 ≤ c) : Rn (v * Tp c) (x + c) = Rn v x * Tp c := by
  by_cases h : x ≤ 0
  · rw [Rn_le0 h]
    by_cases h2 : x + c ≤ 0
    · exact Rn_le0 h2
    · rw [mt_split v (show 0 ≤ x + c by omega) (by omega), Rn_mul]
  · rw [Rn_gt0 (show 0 < x by omega), Rn_gt0 (show 0 < x + c by omega), sc_div v hc (by omega), show x + c - 1 = (x - 1) + c by omega, sc_div v hc (by omega), Tp_add (by omega) hc, Int.mul_assoc]
theorem md_ex {v x : Int} (h : v % Tp x = 0) : v = v / Tp x * Tp x := (Int.ediv_mul_cancel_of_emod_eq_zero h).symm
theorem Rn_id {v x : Int} (h : v % Tp x = 0) : Rn v x = v := by rw [md_ex h]; exact Rn_mul _ _
theorem md_mul (u : Int) {x y : Int} (hy : 0 ≤ y) (h : y ≤ x) : u * Tp x % Tp y = 0 := by rw [mt_split u hy h]; exact Int.mul_emod_left _ _
theorem md_w {v x y : Int} (h : v % Tp x = 0) (hy : 0 ≤ y) (hx : y ≤ x) : v % Tp y = 0 := by rw [md_ex h]; exact md_mul _ hy hx
theorem md_add {a b t : Int} (ha : a % t = 0) (hb : b % t = 0) : (a + b) % t = 0 := by rw [Int.add_emod, ha, hb]; rfl
theorem md_neg {a t : Int} (ha : a % t = 0) : (-a) % t = 0 := Int.emod_eq_zero_of_dvd (Int.dvd_neg.mpr (Int.dvd_of_emod_eq_zero ha))
theorem md_sv {n a t : Int} (ha : a % t = 0) : sv n a % t = 0 := by
  unfold sv
  by_cases h : n = 1
  · rw [if_pos h]; exact md_neg ha
  · rw [if_neg h]; exact ha
theorem md_mod {a b t : Int} (ha : a % t = 0) (hb : b % t = 0) : a % b % t = 0 := by
  refine Int.emod_eq_zero_of_dvd ?_
  rw [Int.emod_def]
  exact Int.dvd_sub (Int.dvd_of_emod_eq_zero ha) (Int.dvd_trans (Int.dvd_of_emod_eq_zero hb) (Int.dvd_mul_right _ _))
theorem Rn_md {v x y : Int} (hx : 0 < x) (hy : 0 ≤ y) (h : y ≤ x) : Rn v x % Tp y = 0 := by rw [Rn_gt0 hx]; exact md_mul _ hy h
theorem t80_56 : Tp 80 = Tp 56 * Tp 24 := by rw [← Tp_add (by decide) (by decide)]; rfl
theorem le80 (w : Int) : Tp 80 ≤ w * Tp 24 ↔ Tp 56 ≤ w := by
  rw [t80_56]
  have p := Tp_pos 24
  exact ⟨fun h => Int.le_of_mul_le_mul_right h p, fun h => mul_le_r h (Int.le_of_lt p)⟩
theorem Wt_u {v a b : Int} (ha : Wt v a) (hb : Wt v b) : a = b := by
  have key : ∀ a b : Int, Wt v a → Wt v b → a ≤ b := by
    intro a b ha hb
    rcases ha with ⟨h1, h2⟩ | ⟨h1, h2, h3, h4⟩
    · rcases hb with ⟨g1, g2⟩ | ⟨g1, g2, g3, g4⟩
      · omega
      · have := Bp_pos (b + 6); omega
    · rcases hb with ⟨g1, g2⟩ | ⟨g1, g2, g3, g4⟩
      · have := Bp_pos (a + 6); omega
      · refine Int.not_lt.mp (fun hh => ?_)
        have := Bp_le (a := b + 7) (b := a + 6) (by omega) (by omega)
        omega
  exact Int.le_antisymm (key a b ha hb) (key b a hb ha)
theorem Ld_u {v a b : Int} (ha : Ld v a) (hb : Ld v b) : a = b := by
  rcases ha with ⟨h1, h2⟩ | ⟨t, h0, h1, h2, h3, h4⟩
  · rcases hb with ⟨g1, g2⟩ | ⟨t', g0, g1, g2, g3, g4⟩
    · omega
    · have := Bp_pos t'; omega
  · rcases hb with ⟨g1, g2⟩ | ⟨t', g0, g1, g2, g3, g4⟩
    · have := Bp_pos t; omega
    · have e : t = t' := by
        refine Int.le_antisymm (Int.not_lt.mp (fun hh => ?_)) (Int.not_lt.mp (fun hh => ?_))
        · have := Bp_le (a := t' + 1) (b := t) (by omega) (by omega); omega
        · have := Bp_le (a := t + 1) (b := t') (by omega) (by omega); omega
      rw [h4, g4, e]
/-- the registers behind a call, of the reference, beside what the class made -/
def Cor (z d : Int) (k1 : Nat) (p1 n1 v1 : Int) (kf sf mf G k' s' m' G' : Int → Int) : Prop :=
  (∀ r : Int, 0 ≤ r → r < 8 → (r ≠ d ∨ z ≠ 0) → k' r = kf r ∧ s' r = sf r ∧ m' r = mf r ∧ Gt G' r = Gt G r) ∧
  (z = 0 → km (k' d) = k1 ∧ (k1 = 1 → s' d = p1 ∧ m' d = n1 ∧ Gt G' d = v1))
def Okv (k : Nat) (p n v : Int) : Prop := k = 1 → 0 ≤ p ∧ p ≤ 24 ∧ v < Tp 56 ∧ (v = 0 → n = 0) ∧ v % Tp (24 - p) = 0
theorem Okv_n {k : Nat} {p n v : Int} (h : k ≠ 1) : Okv k p n v := fun h1 => absurd h1 h
theorem No_Cor {z d p1 n1 v1 : Int} {k1 : Nat} {kf sf mf G k' s' m' G' : Int → Int} (h : NoR kf sf mf G k' s' m' G') (hz : z ≠ 0) : Cor z d k1 p1 n1 v1 kf sf mf G k' s' m' G' := by
  obtain ⟨rfl, rfl, rfl, rfl⟩ := h
  exact ⟨fun r _ _ _ => ⟨rfl, rfl, rfl, rfl⟩, fun h => absurd h hz⟩
theorem Sp_Cor {z d K p1 n1 v1 : Int} {k1 : Nat} {kf sf mf G k' s' m' G' : Int → Int} (h : SpR z d K kf sf mf G k' s' m' G') (hk : km K = k1) (h1 : k1 ≠ 1) : Cor 0 d k1 p1 n1 v1 kf sf mf G k' s' m' G' := by
  obtain ⟨hz, rfl, rfl, rfl, rfl⟩ := h
  exact ⟨fun r _ _ hr => ⟨up_ne (by omega), rfl, rfl, rfl⟩, fun _ => ⟨by rw [up_at]; exact hk, fun h => absurd h h1⟩⟩
/-- a finite result -/
theorem kp_fin {z1 z d s ne X w p1 n1 v1 : Int} {k1 : Nat} {kf sf mf G k' s' m' G' : Int → Int} (h : KpR z d s ne X kf sf mf G k' s' m' G') (hX : X = w * Tp 24) (hw : 0 ≤ w) (hs : 0 ≤ s ∧ s ≤ 24) (hm : w % Tp (24 - s) = 0)
    (hz : (z1 = -3 ∧ Tp 56 ≤ w) ∨ (z1 = 0 ∧ w < Tp 56 ∧ k1 = 1 ∧ p1 = s ∧ v1 = w ∧ (v1 = 0 → n1 = 0) ∧ (0 < v1 → n1 = ne))) : z1 = z ∧ Cor z1 d k1 p1 n1 v1 kf sf mf G k' s' m' G' ∧ (z1 = 0 → Okv k1 p1 n1 v1) := by
  have l80 := le80 w
  rw [← hX] at l80
  rcases h with ⟨h1, h2, h3, h4, h5, h6⟩ | ⟨h1, h2, rfl, rfl, ⟨M, rfl, h3, h4⟩, h5, h6⟩
  · have l := l80.mp h2
    have e1 : z1 = -3 := by omega
    exact ⟨by omega, No_Cor ⟨h3, h4, h5, h6⟩ (by omega), fun h => by omega⟩
  · have l : w < Tp 56 := Int.not_le.mp (fun hh => absurd (l80.mpr hh) (by omega))
    obtain ⟨e1, _, e2, e3, e4, e5, e6⟩ : z1 = 0 ∧ w < Tp 56 ∧ k1 = 1 ∧ p1 = s ∧ v1 = w ∧ (v1 = 0 → n1 = 0) ∧ (0 < v1 → n1 = ne) := by
      rcases hz with hz | hz
      · omega
      · exact hz
    have eX : X / Tp 24 = w := by rw [hX]; exact mt_cancel _ _
    rw [eX] at h4 h5
    refine ⟨by omega, ⟨fun r _ _ hr => ?_, fun _ => ⟨by rw [up_at, e2]; rfl, fun _ => ⟨by rw [up_at, e3], ?_, by rw [h5, e4]⟩⟩⟩, fun _ _ => ⟨by omega, by omega, by omega, e5, by rw [e4, e3]; exact hm⟩⟩
    · have hrd : r ≠ d := by omega
      exact ⟨up_ne hrd, up_ne hrd, up_ne hrd, Gt_ext (fun j g1 g2 => h6 j (by omega))⟩
    · rw [up_at]
      by_cases c : w = 0
      · rw [h4.1 c, e5 (by omega)]
      · rw [h4.2 (by omega), e6 (by omega)]
theorem st_fin {z1 p1 n1 v1 R x P mn u : Int} {k1 : Nat} (h : St z1 k1 p1 n1 v1 R x P mn) (hR : R = u * Tp (x * 4 - P)) (hx : 6 ≤ x) (hP : 0 ≤ P ∧ P ≤ 24) :
    (z1 = -3 ∧ Tp 56 ≤ u * Tp (24 - P)) ∨ (z1 = 0 ∧ u * Tp (24 - P) < Tp 56 ∧ k1 = 1 ∧ p1 = P ∧ v1 = u * Tp (24 - P) ∧ (v1 = 0 → n1 = 0) ∧ (0 < v1 → n1 = mn)) := by
  have e1 : R = u * Tp (24 - P) * Tp (x * 4 - 24) := by
    rw [hR, mt_split u (show 0 ≤ x * 4 - 24 by omega) (by omega)]
    exact congrArg (fun y => u * Tp y * Tp (x * 4 - 24)) (by omega)
  have e2 : Tp (x * 4 + 32) = Tp 56 * Tp (x * 4 - 24) := by rw [← Tp_add (by decide) (by omega)]; exact congrArg Tp (by omega)
  have e3 : Bp (x - 6) = Tp (x * 4 - 24) := by rw [Bp_Tp (by omega)]; exact congrArg Tp (by omega)
  have p := Tp_pos (x * 4 - 24)
  unfold St at h
  rw [e1, e2, e3, mt_cancel] at h
  rcases h with ⟨h1, h2⟩ | ⟨h1, h2, h3, h4, h5, h6, h7⟩
  · exact Or.inl ⟨h1, Int.le_of_mul_le_mul_right h2 p⟩
  · exact Or.inr ⟨h1, Int.lt_of_mul_lt_mul_right h2 (Int.le_of_lt p), h3, h4, h5, h6, h7⟩
/-- what settle left, beside what keep left -/
theorem kp_St {z1 z d P mn X R x u p1 n1 v1 : Int} {k1 : Nat} {kf sf mf G k' s' m' G' : Int → Int} (hS : St z1 k1 p1 n1 v1 R x P mn) (hK : KpR z d P mn X kf sf mf G k' s' m' G') (hR : R = u * Tp (x * 4 - P)) (hX : X = u * Tp (48 - P)) (hu : 0 ≤ u) (hx : 6 ≤ x) (hP : 0 ≤ P ∧ P ≤ 24) :
    z1 = z ∧ Cor z1 d k1 p1 n1 v1 kf sf mf G k' s' m' G' ∧ (z1 = 0 → Okv k1 p1 n1 v1) :=
  kp_fin hK (w := u * Tp (24 - P)) (by rw [hX, mt_split u (show (0 : Int) ≤ 24 by decide) (by omega)]; exact congrArg (fun y => u * Tp y * Tp 24) (by omega)) (Int.mul_nonneg hu (Int.le_of_lt (Tp_pos _))) hP (Int.mul_emod_left _ _) (st_fin hS hR hx hP)
theorem bit5 (c : Prop) [Decidable c] : 0 ≤ (if c then (1 : Int) else 0) ∧ (if c then (1 : Int) else 0) ≤ 1 := by
  by_cases h : c
  · rw [if_pos h]; omega
  · rw [if_neg h]; omega
/-- multiplication -/
theorem m_mul {z1 z d ma mb va vb P p1 n1 v1 : Int} {k1 : Nat} {kf sf mf G k' s' m' G' : Int → Int} (ha : 0 ≤ va) (hb : 0 ≤ vb) (hP : 0 ≤ P ∧ P ≤ 24) (hS : St z1 k1 p1 n1 v1 (Rn (va * vb) (12 * 4 - P)) 12 P (dif ma mb)) (hK : KpR z d P (dif ma mb) (Rn (va * vb) (48 - P)) kf sf mf G k' s' m' G') :
    z1 = z ∧ Cor z1 d k1 p1 n1 v1 kf sf mf G k' s' m' G' ∧ (z1 = 0 → Okv k1 p1 n1 v1) := by
  have e := Rn_gt0 (v := va * vb) (show 0 < 48 - P by omega)
  have q := Int.ediv_nonneg (Int.mul_nonneg ha hb) (Int.le_of_lt (Tp_pos (48 - P)))
  have b := bit5 (5 ≤ va * vb / Tp (48 - P - 1) % 10)
  exact kp_St hS hK e e (by omega) (by decide) hP
/-- division -/
theorem dv_sw (a b : Int) {c : Int} (hc : 0 < c) (hb : 0 < b) : a * c / b / c = a / b := by
  rw [← edd _ _ hb, Int.mul_ediv_mul_of_pos_left _ _ hc]
theorem dv_t (va : Int) {vb P : Int} (hb : 0 < vb) (hP : 0 ≤ P ∧ P ≤ 24) : va * Bp 7 / vb / Tp (27 - P) = va * Tp (P + 1) / vb := by
  have e : Bp 7 = Tp (P + 1) * Tp (27 - P) := by rw [← Tp_add (by omega) (by omega), Bp_Tp (by decide)]; exact congrArg Tp (by omega)
  have p := Tp_pos (27 - P)
  rw [e, ← Int.mul_assoc, dv_sw (va * Tp (P + 1)) vb p hb]
theorem m_div {z1 z d ma mb va vb P p1 n1 v1 : Int} {k1 : Nat} {kf sf mf G k' s' m' G' : Int → Int} (ha : 0 ≤ va) (hb : 0 < vb) (hP : 0 ≤ P ∧ P ≤ 24) (hS : St z1 k1 p1 n1 v1 (Rn (va * Bp 7 / vb) (7 * 4 - P)) 7 P (dif ma mb)) (hK : KpR z d P (dif ma mb) (Rn (va * Tp (P + 1) / vb * Tp (48 - (P + 1))) (48 - P)) kf sf mf G k' s' m' G') :
    z1 = z ∧ Cor z1 d k1 p1 n1 v1 kf sf mf G k' s' m' G' ∧ (z1 = 0 → Okv k1 p1 n1 v1) := by
  have t1 := dv_t va hb hP
  have nn : 0 ≤ va * Tp (P + 1) / vb := Int.ediv_nonneg (Int.mul_nonneg ha (Int.le_of_lt (Tp_pos _))) (Int.le_of_lt hb)
  generalize va * Tp (P + 1) / vb = t at t1 nn hK
  have e1 := Rn_gt0 (v := va * Bp 7 / vb) (show 0 < 7 * 4 - P by omega)
  have e2 := Rn_gt0 (v := t * Tp (48 - (P + 1))) (show 0 < 48 - P by omega)
  have d1 : va * Bp 7 / vb / Tp (7 * 4 - P) = t / 10 := by
    rw [show (7 : Int) * 4 - P = (27 - P) + 1 by omega, Tp_s (by omega), Int.mul_comm 10, edd _ _ (Tp_pos _), t1]
  have d2 : va * Bp 7 / vb / Tp (7 * 4 - P - 1) = t := by rw [show (7 : Int) * 4 - P - 1 = 27 - P by omega]; exact t1
  have d3 : t * Tp (48 - (P + 1)) / Tp (48 - P) = t / 10 := by
    rw [show (48 : Int) - P = 1 + (48 - (P + 1)) by omega, sc_div t (by omega) (by decide)]; rfl
  have d4 : t * Tp (48 - (P + 1)) / Tp (48 - P - 1) = t := by rw [show (48 : Int) - P - 1 = 48 - (P + 1) by omega, mt_cancel]
  rw [d1, d2] at e1
  rw [d3, d4] at e2
  have b := bit5 (5 ≤ t % 10)
  exact kp_St hS hK e1 e2 (by omega) (by decide) hP
