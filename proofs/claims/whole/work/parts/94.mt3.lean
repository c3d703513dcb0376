/-! The two sides agree: adjust, fit, compare. -/
/-- what settle left of a number of which the next digit is known -/
theorem kp_t {z1 z d mn Q t P p1 n1 v1 : Int} {k1 : Nat} {kf sf mf G k' s' m' G' : Int → Int} (hP : 0 ≤ P ∧ P ≤ 24) (ht : 0 ≤ t) (t1 : Q / Tp (27 - P) = t) (hS : St z1 k1 p1 n1 v1 (Rn Q (7 * 4 - P)) 7 P mn) (hK : KpR z d P mn (Rn (t * Tp (48 - (P + 1))) (48 - P)) kf sf mf G k' s' m' G') :
    z1 = z ∧ Cor z1 d k1 p1 n1 v1 kf sf mf G k' s' m' G' ∧ (z1 = 0 → Okv k1 p1 n1 v1) := by
  have e1 := Rn_gt0 (v := Q) (show 0 < 7 * 4 - P by omega)
  have e2 := Rn_gt0 (v := t * Tp (48 - (P + 1))) (show 0 < 48 - P by omega)
  have d1 : Q / Tp (7 * 4 - P) = t / 10 := by
    rw [show (7 : Int) * 4 - P = (27 - P) + 1 by omega, Tp_s (by omega), Int.mul_comm 10, edd _ _ (Tp_pos _), t1]
  have d2 : Q / Tp (7 * 4 - P - 1) = t := by rw [show (7 : Int) * 4 - P - 1 = 27 - P by omega]; exact t1
  have d3 : t * Tp (48 - (P + 1)) / Tp (48 - P) = t / 10 := by
    rw [show (48 : Int) - P = 1 + (48 - (P + 1)) by omega, sc_div t (by omega) (by decide)]; rfl
  have d4 : t * Tp (48 - (P + 1)) / Tp (48 - P - 1) = t := by rw [show (48 : Int) - P - 1 = 48 - (P + 1) by omega, mt_cancel]
  rw [d1, d2] at e1
  rw [d3, d4] at e2
  have b := bit5 (5 ≤ t % 10)
  exact kp_St hS hK e1 e2 (by omega) (by decide) hP
theorem al_fin {z1 z d s ne X p1 n1 v1 : Int} {k1 : Nat} {kf sf mf G k' s' m' G' : Int → Int} (h : KpR z d s ne X kf sf mf G k' s' m' G') (hX : X = v1 * Tp 24) (hw : 0 ≤ v1) (hs : 0 ≤ s ∧ s ≤ 24) (hm : v1 % Tp (24 - s) = 0) (hk : k1 = 1) (hp : p1 = s) (hg : sgr v1 n1 ne)
    (hz : (z1 = -3 ∧ Tp 56 ≤ v1) ∨ (z1 = 0 ∧ v1 < Tp 56)) : z1 = z ∧ Cor z1 d k1 p1 n1 v1 kf sf mf G k' s' m' G' ∧ (z1 = 0 → Okv k1 p1 n1 v1) :=
  kp_fin h hX hw hs hm (by
    rcases hz with hz | hz
    · exact Or.inl hz
    · exact Or.inr ⟨hz.1, hz.2, hk, hp, rfl, hg.1, hg.2⟩)
theorem mx0_in {m : Int} (h : m ≤ 24) : 0 ≤ mx0 m ∧ mx0 m ≤ 24 ∧ m ≤ mx0 m := by unfold mx0; omega
theorem rn_md0 {v m : Int} (h : m ≤ 24) : Rn v (24 - m) % Tp (24 - mx0 m) = 0 := by
  have x := mx0_in h
  by_cases c : m = 24
  · rw [c, show mx0 24 = 24 by decide]; exact Int.emod_one _
  · exact Rn_md (by omega) (by omega) (by omega)
theorem rn_sc24 (v m : Int) : Rn (v * Tp 24) (48 - m) = Rn v (24 - m) * Tp 24 := by
  rw [show 48 - m = (24 - m) + 24 by omega]; exact Rn_sc v (by decide)
theorem tc_sc (v : Int) {m : Int} (h : m ≤ 24) : v * Tp 24 / Tp (48 - m) * Tp (48 - m) = TcV v (24 - m) * Tp 24 := by
  rw [show 48 - m = (24 - m) + 24 by omega, sc_div v (by decide) (by omega), Tp_add (by omega) (by decide), ← Int.mul_assoc]
  unfold TcV
  by_cases c : 24 - m ≤ 0
  · rw [if_pos c, show 24 - m = 0 by omega, Tp_0, Int.ediv_one, Int.mul_one]
  · rw [if_neg c]
theorem tc_md {v m : Int} (h : m ≤ 24) : TcV v (24 - m) % Tp (24 - mx0 m) = 0 := by
  have x := mx0_in h
  unfold TcV
  by_cases c : 24 - m ≤ 0
  · rw [if_pos c, show mx0 m = 24 by omega]; exact Int.emod_one _
  · rw [if_neg c]; exact md_mul _ (by omega) (by omega)
theorem tc_nn {v x : Int} (h : 0 ≤ v) : 0 ≤ TcV v x := by
  unfold TcV
  by_cases c : x ≤ 0
  · rw [if_pos c]; exact h
  · rw [if_neg c]; exact Int.mul_nonneg (Int.ediv_nonneg h (Int.le_of_lt (Tp_pos x))) (Int.le_of_lt (Tp_pos x))
theorem tw_sc {na dn va X : Int} (h : TwR na dn (va * Tp 24) X) : X = MwV na dn va * Tp 24 := by
  have e1 : va * Tp 24 / Tp 48 = va / Tp 24 := sc_div va (c := 24) (x := 24) (by decide) (by decide)
  have e48 : Tp 48 = Tp 24 * Tp 24 := by rw [← Tp_add (by decide) (by decide)]; rfl
  have e2 : va * Tp 24 % Tp 48 = va % Tp 24 * Tp 24 := by rw [e48, Int.mul_comm va, Int.mul_emod_mul_of_pos _ _ (Tp_pos 24), Int.mul_comm]
  have p := Tp_pos 24
  have nz : va * Tp 24 % Tp 48 ≠ 0 ↔ va % Tp 24 ≠ 0 := by
    rw [e2]
    exact ⟨fun h hh => h (by rw [hh, Int.zero_mul]), fun h hh => by
      rcases Int.mul_eq_zero.mp hh with g | g
      · exact h g
      · omega⟩
  unfold TwR at h
  rw [e1, nz] at h
  rcases h with ⟨h1, h2, h3⟩ | ⟨h1, h2⟩
  · rw [h3, MwV_y ⟨h1, h2⟩, Int.add_mul, Int.mul_assoc, e48]
  · rw [h2, MwV_n h1, Int.mul_assoc, e48]
theorem mw_nn {na dn va : Int} (h : 0 ≤ va) : 0 ≤ MwV na dn va ∧ MwV na dn va % Tp (24 - 0) = 0 := by
  have p := Tp_pos 24
  have a : 0 ≤ va / Tp 24 * Tp 24 := Int.mul_nonneg (Int.ediv_nonneg h (Int.le_of_lt p)) (Int.le_of_lt p)
  rw [show (24 : Int) - 0 = 24 by decide]
  by_cases c : na = dn ∧ va % Tp 24 ≠ 0
  · rw [MwV_y c]; exact ⟨by omega, md_add (Int.mul_emod_left _ _) Int.emod_self⟩
  · rw [MwV_n c]; exact ⟨a, Int.mul_emod_left _ _⟩
theorem tr_md {va p pl : Int} (h0 : 0 ≤ p) (hpl : pl ≤ 24) (hm : va % Tp (24 - pl) = 0) (hz : ∀ k : Int, p < k → k ≤ pl → va / Tp (24 - k) % 10 = 0) : ∀ n : Nat, p ≤ pl - n → va % Tp (24 - (pl - n)) = 0 := by
  intro n
  induction n with
  | zero => intro _; rw [show pl - ((0 : Nat) : Int) = pl by omega]; exact hm
  | succ n ih =>
    intro hn
    have i1 := ih (by omega)
    have z1 := hz (pl - n) (by omega) (by omega)
    have e := md_ex i1
    have e10 : va / Tp (24 - (pl - n)) = va / Tp (24 - (pl - n)) / 10 * 10 := by omega
    rw [e10, Int.mul_assoc, ← Tp_s (by omega)] at e
    rw [e, show 24 - (pl - ((n + 1 : Nat) : Int)) = 24 - (pl - n) + 1 by omega]
    exact Int.mul_emod_left _ _
theorem tr_eq {va p p' pl : Int} (hpl : 0 ≤ pl ∧ pl ≤ 24) (hm : va % Tp (24 - pl) = 0) (h : TrR p pl va) (h' : LeR (va * Tp 24) p') : p = p' ∧ va % Tp (24 - p) = 0 := by
  obtain ⟨a1, a2, a3, a4⟩ := h
  obtain ⟨b1, b2, b3, b4⟩ := h'
  have sc : ∀ k : Int, k ≤ 24 → va * Tp 24 / Tp (48 - k) = va / Tp (24 - k) := fun k hk => by
    rw [show 48 - k = (24 - k) + 24 by omega]; exact sc_div va (by decide) (by omega)
  rw [sc p' b2] at b3
  have up24 : ∀ k : Int, p < k → k ≤ 24 → va / Tp (24 - k) % 10 = 0 := by
    intro k g1 g2
    by_cases c : k ≤ pl
    · exact a4 k g1 c
    · rw [md_ex hm]; exact mt_dig _ (by omega) (by omega)
  have e : p = p' := by
    refine Int.le_antisymm (Int.not_lt.mp (fun hh => ?_)) (Int.not_lt.mp (fun hh => ?_))
    · have := b4 p hh (by omega)
      rw [sc p (by omega)] at this
      rcases a3 with a3 | a3
      · omega
      · exact a3 this
    · rcases b3 with b3 | b3
      · omega
      · exact b3 (up24 p' hh b2)
  refine ⟨e, ?_⟩
  have := tr_md a1 hpl.2 hm a4 (pl - p).toNat (by omega)
  rwa [show pl - (((pl - p).toNat : Nat) : Int) = p by omega] at this
theorem sq4 (x t : Int) : x * x * (t * t) = x * t * (x * t) := by rw [Int.mul_assoc, Int.mul_assoc, Int.mul_left_comm x t t]
theorem sq_div {S N t : Int} (h0 : 0 ≤ S) (h1 : S * S ≤ N) (h2 : N < (S + 1) * (S + 1)) (ht : 0 < t) : S / t * (S / t) ≤ N / (t * t) ∧ N / (t * t) < (S / t + 1) * (S / t + 1) := by
  have q0 : 0 ≤ S / t := Int.ediv_nonneg h0 (Int.le_of_lt ht)
  have qa := Int.ediv_mul_le S (show t ≠ 0 by omega)
  have qb : S + 1 ≤ (S / t + 1) * t := by
    have := Int.lt_ediv_add_one_mul_self S ht
    omega
  have tt : 0 < t * t := Int.mul_pos ht ht
  have n0 : 0 ≤ S / t * t := Int.mul_nonneg q0 (Int.le_of_lt ht)
  constructor
  · refine Int.le_ediv_of_mul_le tt ?_
    have m := Int.mul_le_mul qa qa n0 h0
    have e := sq4 (S / t) t
    omega
  · refine Int.ediv_lt_of_lt_mul tt ?_
    have m := Int.mul_le_mul qb qb (show 0 ≤ S + 1 by omega) (Int.mul_nonneg (by omega) (Int.le_of_lt ht))
    generalize S / t + 1 = x at *
    have e := sq4 x t
    omega
theorem sq_u {a b N : Int} (ha : 0 ≤ a) (hb : 0 ≤ b) (a1 : a * a ≤ N) (a2 : N < (a + 1) * (a + 1)) (b1 : b * b ≤ N) (b2 : N < (b + 1) * (b + 1)) : a = b := by
  refine Int.le_antisymm (Int.not_lt.mp (fun hh => ?_)) (Int.not_lt.mp (fun hh => ?_))
  · have := Int.mul_le_mul (show b + 1 ≤ a by omega) (show b + 1 ≤ a by omega) (by omega) (by omega)
    omega
  · have := Int.mul_le_mul (show a + 1 ≤ b by omega) (show a + 1 ≤ b by omega) (by omega) (by omega)
    omega
theorem rt_N (va : Int) {P : Int} (hP : 0 ≤ P ∧ P ≤ 24) : va * Bp 8 / (Tp (27 - P) * Tp (27 - P)) = va * Tp (2 * (P + 1)) / Tp 24 := by
  have e8 : Bp 8 = Tp 32 := Bp_Tp (i := 8) (by decide)
  have et : Tp (27 - P) * Tp (27 - P) = Tp (54 - 2 * P) := by rw [← Tp_add (by omega) (by omega)]; exact congrArg Tp (by omega)
  rw [e8, et]
  by_cases c : P ≤ 15
  · have x1 : Tp 32 = Tp (2 * (P + 1)) * Tp (30 - 2 * P) := by rw [← Tp_add (by omega) (by omega)]; exact congrArg Tp (by omega)
    have x2 : Tp (54 - 2 * P) = Tp 24 * Tp (30 - 2 * P) := by rw [← Tp_add (by omega) (by omega)]; exact congrArg Tp (by omega)
    rw [x1, x2, ← Int.mul_assoc, Int.mul_ediv_mul_of_pos_left _ _ (Tp_pos _)]
  · have x1 : Tp (2 * (P + 1)) = Tp 32 * Tp (2 * P - 30) := by rw [← Tp_add (by omega) (by omega)]; exact congrArg Tp (by omega)
    have x2 : Tp 24 = Tp (54 - 2 * P) * Tp (2 * P - 30) := by rw [← Tp_add (by omega) (by omega)]; exact congrArg Tp (by omega)
    rw [x1, x2, ← Int.mul_assoc, Int.mul_ediv_mul_of_pos_left _ _ (Tp_pos _)]
theorem m_root {z1 z d va pl w S P p1 n1 v1 : Int} {k1 : Nat} {kf sf mf G k' s' m' G' : Int → Int} (hpl : 0 ≤ pl ∧ pl ≤ 24) (hC : RtR z1 k1 p1 n1 v1 pl va) (hw : Wt va w) (hP : P = rp w pl) (h0 : 0 ≤ S) (h1 : S * S ≤ va * Tp (2 * (P + 1)) / Tp 24) (h2 : va * Tp (2 * (P + 1)) / Tp 24 < (S + 1) * (S + 1))
    (hK : KpR z d P 0 (Rn (S * Tp (48 - (P + 1))) (48 - P)) kf sf mf G k' s' m' G') : z1 = z ∧ Cor z1 d k1 p1 n1 v1 kf sf mf G k' s' m' G' ∧ (z1 = 0 → Okv k1 p1 n1 v1) := by
  obtain ⟨Sc, w', s0, s1, s2, hw', hS⟩ := hC
  rw [Wt_u hw' hw, ← hP] at hS
  have Pi := rp_in (w := w) hpl
  rw [← hP] at Pi
  have sd := sq_div s0 s1 s2 (Tp_pos (27 - P))
  rw [rt_N va Pi] at sd
  have q0 : 0 ≤ Sc / Tp (27 - P) := Int.ediv_nonneg s0 (Int.le_of_lt (Tp_pos _))
  exact kp_t Pi h0 (sq_u q0 h0 sd.1 sd.2 h1 h2) hS hK
theorem neg_iff {K : Nat} {P N V k p n v : Int} (r : RegR K P N V k p n v) : sg3 K N V < 0 ↔ (k = 3 ∨ (k = 0 ∧ n = 1)) := by
  have c := RegR_k r
  obtain ⟨r1, r2, r3, r4, r5, r6, r7, r8, r9, r10, r11⟩ := r
  rcases c with ⟨c1, c2⟩ | ⟨c1, c2⟩ | ⟨c1, c2⟩ | ⟨c1, c2⟩
  · obtain ⟨_, e2, e3⟩ := r4 c1
    subst c2
    unfold sg3
    rw [if_pos rfl]
    by_cases hv : V = 0
    · rw [if_pos hv]
      have := r10 hv
      omega
    · rw [if_neg hv]
      by_cases hn : N = 1
      · rw [if_pos hn]; omega
      · rw [if_neg hn]; omega
  · subst c2; show (1 : Int) < 0 ↔ _; omega
  · subst c2; show (1 : Int) < 0 ↔ _; omega
  · subst c2; show (-1 : Int) < 0 ↔ _; omega
theorem m_adjust {op m z1 z2 d pA nA vA ka pa na va p1 n1 v1 : Int} {k1 KA : Nat} {kf sf mf G k' s' m' G' : Int → Int} (hm : m ≤ 24) (ra : RegR KA pA nA vA ka pa na va) (hC : AlR op m z1 k1 p1 n1 v1 KA pA nA vA) (hM : AjR op m z2 d ka pa na va kf sf mf G k' s' m' G') :
    z1 = z2 ∧ Cor z1 d k1 p1 n1 v1 kf sf mf G k' s' m' G' ∧ (z1 = 0 → Okv k1 p1 n1 v1) := by
  have ni := neg_iff ra
  have ca := RegR_k ra
  rcases hM with ⟨h1, h2, h3, h4⟩ | ⟨h1, h2, h3⟩ | ⟨h1, h2, h3⟩
  · rcases hC with ⟨c1, c2, c3⟩ | ⟨c1, _⟩
    · exact ⟨c3.trans h3.symm, No_Cor h4 (by rw [c3]; decide), fun hh => absurd hh (by rw [c3]; decide)⟩
    · exact absurd ⟨h1, ni.mpr h2⟩ c1
  · rcases hC with ⟨c1, c2, c3⟩ | ⟨c1, c⟩
    · exact absurd ⟨c1, ni.mp c2⟩ h1
    · clear ni h1 c1
      rcases c with ⟨c2, c3, c4⟩ | ⟨c2, _⟩ | ⟨c2, _⟩
      · subst c3
        have e := ra.2.2.1
        clear ra
        unfold AoR at c4
        rcases h3 with ⟨a1, a2, a3⟩ | ⟨a1, a3⟩
        · have cc : (ka = 2 ∧ k1 = 0) ∨ (ka = 3 ∧ k1 = 2) := by clear a3 e; omega
          rcases cc with ⟨x1, x2⟩ | ⟨x1, x2⟩
          · rw [x1] at a3; exact sp_0 a3 x2
          · rw [x1] at a3; exact sp_2 a3 x2
        · have k2 : k1 = KA := by clear a3 e; omega
          exact sp_end a3 (by rw [k2]; exact e.symm) (by rw [k2]; exact c2)
      · exfalso; omega
      · exfalso; omega
  · have K1 : KA = 1 := by clear h1 h3 ni hC; omega
    rcases hC with ⟨c1, c2, c3⟩ | ⟨c1, c⟩
    · exact absurd ⟨c1, ni.mp c2⟩ h1
    · clear ni h1 c1 ca
      obtain ⟨r1, r2, r3, r4, r5, r6, r7, r8, r9, r10, r11⟩ := ra
      obtain ⟨rfl, rfl, rfl⟩ := r4 h2
      have mA := r11 h2
      rcases c with ⟨c2, _⟩ | ⟨_, c2, c3, c4, c5⟩ | ⟨_, c2, c3⟩
      · exact absurd K1 c2
      · clear r4 r11 K1
        have mi := mx0_in hm
        unfold AlV at c4
        rcases h3 with ⟨o, h⟩ | ⟨o, h⟩ | ⟨o, X, hX, h⟩ | ⟨o, h⟩ | ⟨o, q, hq, h⟩ | ⟨o, _⟩
        · obtain ⟨_, e1, e2, e3⟩ : op = 0 ∧ v1 = Rn va (24 - m) ∧ p1 = mx0 m ∧ sgr v1 n1 na := by
            rcases c4 with c | c | c | c | c
            · exact c
            · exact absurd c.1 (by omega)
            · exact absurd c.1 (by omega)
            · exact absurd c.1 (by omega)
            · exact absurd c.1 (by omega)
          exact al_fin h (by rw [e1]; exact rn_sc24 va m) (by rw [e1]; exact Rn_nn r5) ⟨mi.1, mi.2.1⟩ (by rw [e1]; exact rn_md0 hm) c3 e2 e3 c5
        · obtain ⟨_, e1, e2, e3⟩ : op = 1 ∧ v1 = TcV va (24 - m) ∧ p1 = mx0 m ∧ sgr v1 n1 na := by
            rcases c4 with c | c | c | c | c
            · exact absurd c.1 (by omega)
            · exact c
            · exact absurd c.1 (by omega)
            · exact absurd c.1 (by omega)
            · exact absurd c.1 (by omega)
          exact al_fin h (by rw [e1]; exact tc_sc va hm) (by rw [e1]; exact tc_nn r5) ⟨mi.1, mi.2.1⟩ (by rw [e1]; exact tc_md hm) c3 e2 e3 c5
        · obtain ⟨_, e1, e2, e3⟩ : (op = 2 ∨ op = 3) ∧ v1 = MwV na (op - 2) va ∧ p1 = 0 ∧ sgr v1 n1 na := by
            rcases c4 with c | c | c | c | c
            · exact absurd c.1 (by omega)
            · exact absurd c.1 (by omega)
            · exact c
            · exact absurd c.1 (by omega)
            · exact absurd c.1 (by omega)
          have mw := mw_nn (na := na) (dn := op - 2) r5
          exact al_fin h (by rw [e1]; exact tw_sc hX) (by rw [e1]; exact mw.1) (by decide) (by rw [e1]; exact mw.2) c3 e2 e3 c5
        · obtain ⟨_, e1, e2, e3⟩ : op = 4 ∧ v1 = va ∧ p1 = pa ∧ sgr v1 n1 (1 - na) := by
            rcases c4 with c | c | c | c | c
            · exact absurd c.1 (by omega)
            · exact absurd c.1 (by omega)
            · exact absurd c.1 (by omega)
            · exact c
            · exact absurd c.1 (by omega)
          exact al_fin h (by rw [e1]) (by rw [e1]; exact r5) ⟨r7, r8⟩ (by rw [e1]; exact mA) c3 e2 e3 c5
        · obtain ⟨_, e1, e2, e3⟩ : op = 5 ∧ v1 = va ∧ n1 = na ∧ TrR p1 pa va := by
            rcases c4 with c | c | c | c | c
            · exact absurd c.1 (by omega)
            · exact absurd c.1 (by omega)
            · exact absurd c.1 (by omega)
            · exact absurd c.1 (by omega)
            · exact c
          have te := tr_eq ⟨r7, r8⟩ mA e3 hq
          rw [← te.1] at h
          exact al_fin h (by rw [e1]) (by rw [e1]; exact r5) ⟨e3.1, by have := e3.2.1; omega⟩ (by rw [e1]; exact te.2) c3 rfl ⟨fun hh => by rw [e2]; exact r10 (by omega), fun _ => e2⟩ c5
        · exact absurd o c2
      · rcases h3 with ⟨o, _⟩ | ⟨o, _⟩ | ⟨o, _⟩ | ⟨o, _⟩ | ⟨o, _⟩ | ⟨o, w, S, x1, x2, x3, x4, x5⟩
        · omega
        · omega
        · omega
        · omega
        · omega
        · exact m_root ⟨r7, r8⟩ c3 x1 rfl x2 x3 x4 x5
theorem m_fit {pr sc z1 z2 d pA nA vA ka pa na va p1 n1 v1 : Int} {k1 KA : Nat} {kf sf mf G k' s' m' G' : Int → Int} (hpr : 1 ≤ pr ∧ pr ≤ 56) (hsc : -32 ≤ sc ∧ sc ≤ 24) (ra : RegR KA pA nA vA ka pa na va) (hk : kf d = ka ∧ sf d = pa ∧ mf d = na ∧ Gt G d = va) (hC : FiR pr sc z1 KA pA nA vA k1 p1 n1 v1) (hM : FtR pr sc z2 d ka na va kf sf mf G k' s' m' G') :
    z1 = z2 ∧ Cor z1 d k1 p1 n1 v1 kf sf mf G k' s' m' G' ∧ (z1 = 0 → Okv k1 p1 n1 v1) := by
  have ca := RegR_k ra
  have e1 := rn_sc24 va sc
  have e2 : Tp (48 + pr - sc) = Tp (24 + (pr - sc)) * Tp 24 := by rw [← Tp_add (by omega) (by decide)]; exact congrArg Tp (by omega)
  have p := Tp_pos 24
  rcases hM with ⟨h1, h2, h3⟩ | ⟨h1, h2, h3⟩ | ⟨h1, h2, h3, h4⟩ | ⟨h1, h2, h3⟩
  · rcases hC with ⟨c1, c2, c3, c4, c5, c6⟩ | ⟨c1, c2, _⟩ | ⟨c1, _⟩
    · obtain ⟨rfl, rfl, rfl, rfl⟩ := h3
      refine ⟨c2.trans h2.symm, ⟨fun r _ _ _ => ⟨rfl, rfl, rfl, rfl⟩, fun _ => ⟨by rw [hk.1, c3]; exact ra.2.2.1.symm, fun hh => absurd hh (by omega)⟩⟩, fun _ => Okv_n (by omega)⟩
    · exfalso; omega
    · exfalso; omega
  · rcases hC with ⟨c1, _⟩ | ⟨c1, c2, c3, _⟩ | ⟨c1, _⟩
    · exfalso; omega
    · exact ⟨c3.trans h2.symm, No_Cor h3 (by rw [c3]; decide), fun hh => absurd hh (by rw [c3]; decide)⟩
    · exfalso; omega
  · rcases hC with ⟨c1, _⟩ | ⟨c1, c2, c3, _⟩ | ⟨c1, c⟩
    · exfalso; omega
    · exfalso; omega
    · obtain ⟨r1, r2, r3, r4, r5, r6, r7, r8, r9, r10, r11⟩ := ra
      obtain ⟨rfl, rfl, rfl⟩ := r4 h1
      rw [e1, e2] at h2
      have l := Int.le_of_mul_le_mul_right h2 p
      rcases c with ⟨c2, _⟩ | ⟨c2, c3, _⟩
      · exact ⟨c2.trans h3.symm, No_Cor h4 (by rw [c2]; decide), fun hh => absurd hh (by rw [c2]; decide)⟩
      · omega
  · rcases hC with ⟨c1, _⟩ | ⟨c1, c2, c3, _⟩ | ⟨c1, c⟩
    · exfalso; omega
    · exfalso; omega
    · obtain ⟨r1, r2, r3, r4, r5, r6, r7, r8, r9, r10, r11⟩ := ra
      obtain ⟨rfl, rfl, rfl⟩ := r4 h1
      rw [e1, e2] at h2
      have l := Int.lt_of_mul_lt_mul_right h2 (Int.le_of_lt p)
      have mi := mx0_in hsc.2
      refine kp_fin h3 (w := Rn va (24 - sc)) e1 (Rn_nn r5) ⟨mi.1, mi.2.1⟩ (rn_md0 hsc.2) ?_
      rcases c with ⟨c2, c3, _⟩ | ⟨c2, c3, c4, c5, c6, c7, c8, c9⟩
      · rcases c3 with c3 | c3
        · omega
        · exact Or.inl ⟨c2, c3⟩
      · exact Or.inr ⟨c2, c4, c5, c6, c9, c8.1, c8.2⟩
theorem m_compare {z1 z2 pA nA vA pB nB vB ka pa na va kb pb nb vb : Int} {KA KB : Nat} (ra : RegR KA pA nA vA ka pa na va) (rb : RegR KB pB nB vB kb pb nb vb)
    (hC : (KA = 1 ∧ KB = 1 ∧ ((z1 = -1 ∧ sv nA vA < sv nB vB) ∨ (z1 = 0 ∧ sv nA vA = sv nB vB) ∨ (z1 = 1 ∧ sv nB vB < sv nA vA))) ∨ (¬ (KA = 1 ∧ KB = 1) ∧ ((KA < KB ∧ z1 = -1) ∨ (KA = KB ∧ z1 = 0) ∨ (KB < KA ∧ z1 = 1)))) (hM : CpR z2 ka na va kb nb vb) : z1 = z2 := by
  have ca := RegR_k ra
  have cb := RegR_k rb
  have ea := rkM_c ⟨ra.1, ra.2.1⟩
  have eb := rkM_c ⟨rb.1, rb.2.1⟩
  rcases hM with ⟨h1, h2, h3⟩ | ⟨h1, h2⟩
  · obtain ⟨_, rfl, rfl⟩ := ra.2.2.2.1 h1
    obtain ⟨_, rfl, rfl⟩ := rb.2.2.2.1 h2
    rcases hC with ⟨_, _, c⟩ | ⟨c, _⟩
    · clear ca cb ea eb ra rb; omega
    · exact absurd ⟨by clear cb c h3; omega, by clear ca c h3; omega⟩ c
  · rcases hC with ⟨c1, c2, _⟩ | ⟨_, c⟩
    · exact absurd ⟨by clear cb h1 h2; omega, by clear ca h1 h2; omega⟩ h1
    · have xa : rkM ka = KA := by clear cb eb h1 h2 c; omega
      have xb : rkM kb = KB := by clear ca ea h1 h2 c; omega
      rw [xa, xb] at h2
      clear ca cb ea eb h1 xa xb ra rb
      omega
