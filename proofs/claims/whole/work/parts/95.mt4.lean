/-! The two sides agree: texts, sums. -/
theorem NumR_u {ch : Int → Int} {us st e pt e' pt' : Int} (h : NumR ch us st e pt) (h' : NumR ch us st e' pt') : e = e' ∧ pt = pt' := by
  have key : ∀ e pt e' pt' : Int, NumR ch us st e pt → NumR ch us st e' pt' → e' ≤ e := by
    intro e pt e' pt' h h'
    obtain ⟨a1, a2, a3, a4, a5, a6⟩ := h
    obtain ⟨b1, b2, b3, b4, b5, b6⟩ := h'
    refine Int.not_lt.mp (fun hh => ?_)
    have x : ¬ dgc (ch e) ∧ ¬ (ch e = 46 ∧ pt = e) := by
      rcases a6 with a6 | a6
      · omega
      · exact a6
    have y : e = pt' := Classical.byContradiction (fun hn => x.1 (b4 e (by omega) hh hn))
    have z := b5 (by omega)
    rw [← y] at z
    have u : pt ≠ e := fun hn => x.2 ⟨z, hn⟩
    have v := a5 (by omega)
    have w := b4 pt a1 (by omega) (by omega)
    unfold dgc at w
    omega
  have e1 : e = e' := Int.le_antisymm (key e' pt' e pt h' h) (key e pt e' pt' h h')
  refine ⟨e1, ?_⟩
  subst e1
  have k2 : ∀ pt pt' : Int, NumR ch us st e pt → NumR ch us st e pt' → pt' ≤ pt := by
    intro pt pt' h h'
    obtain ⟨a1, a2, a3, a4, a5, a6⟩ := h
    obtain ⟨b1, b2, b3, b4, b5, b6⟩ := h'
    refine Int.not_lt.mp (fun hh => ?_)
    have v := a5 (by omega)
    have w := b4 pt a1 (by omega) (by omega)
    unfold dgc at w
    omega
  exact Int.le_antisymm (k2 pt' pt h' h) (k2 pt pt' h h')
theorem ExpR_u {ch : Int → Int} {us e z z' : Int} (h : ExpR ch us e z) (h' : ExpR ch us e z') : z = z' := by
  rcases h with ⟨a1, a2⟩ | ⟨a1, a2, a3⟩ | ⟨a1, a2, f, a3, a4⟩
  · rcases h' with ⟨b1, b2⟩ | ⟨b1, b2, b3⟩ | ⟨b1, b2, f', b3, b4⟩
    · omega
    · omega
    · omega
  · rcases h' with ⟨b1, b2⟩ | ⟨b1, b2, b3⟩ | ⟨b1, b2, f', b3, b4⟩
    · omega
    · omega
    · exact absurd b2 a2
  · rcases h' with ⟨b1, b2⟩ | ⟨b1, b2, b3⟩ | ⟨b1, b2, f', b3, b4⟩
    · omega
    · exact absurd a2 b2
    · have ef : f = f' := by
        rcases a3 with ⟨x1, x2⟩ | ⟨x1, x2⟩
        · rcases b3 with ⟨y1, y2⟩ | ⟨y1, y2⟩
          · omega
          · exact absurd x2 y2
        · rcases b3 with ⟨y1, y2⟩ | ⟨y1, y2⟩
          · exact absurd y2 x2
          · omega
      subst ef
      rcases a4 with ⟨x1, x2⟩ | ⟨x1, x2, x3, x4, x5, x6⟩
      · rcases b4 with ⟨y1, y2⟩ | ⟨y1, y2, y3, y4, y5, y6⟩
        · omega
        · exact absurd ⟨y1, y2, y3⟩ x1
      · rcases b4 with ⟨y1, y2⟩ | ⟨y1, y2, y3, y4, y5, y6⟩
        · exact absurd ⟨x1, x2, x3⟩ y1
        · omega
theorem PdV_p {D E : Int} (h : 0 ≤ E) : PdV D E = D * Tp E := if_pos h
theorem PdV_n {D E : Int} (h : E < 0) : PdV D E = D / Tp (-E) + (if 5 ≤ D / Tp (-E - 1) % 10 then 1 else 0) := if_neg (by omega)
theorem PdV_nn {D E : Int} (h : 0 ≤ D) : 0 ≤ PdV D E := by
  by_cases c : 0 ≤ E
  · rw [PdV_p c]; exact Int.mul_nonneg h (Int.le_of_lt (Tp_pos _))
  · rw [PdV_n (by omega)]
    have a := Int.ediv_nonneg h (Int.le_of_lt (Tp_pos (-E)))
    have b := bit5 (5 ≤ D / Tp (-E - 1) % 10)
    omega
theorem big_v {D E : Int} (h : BigR D E) : Tp 56 ≤ PdV D E := by
  rcases h with ⟨h1, h2⟩ | ⟨h1, h2⟩
  · rw [PdV_p h1]; exact h2
  · rw [PdV_n h1]
    have b := bit5 (5 ≤ D / Tp (-E - 1) % 10)
    have e : Tp (56 - E) = Tp 56 * Tp (-E) := by rw [← Tp_add (by decide) (by omega)]; exact congrArg Tp (by omega)
    rw [e] at h2
    have := Int.le_ediv_of_mul_le (Tp_pos (-E)) h2
    omega
theorem cl24_c (y : Int) : (y ≤ 0 ∧ cl24 y = 0) ∨ (0 < y ∧ y ≤ 24 ∧ cl24 y = y) ∨ (24 < y ∧ cl24 y = 24) := by unfold cl24; omega
theorem pd_md (D y : Int) : PdV D (24 - y) % Tp (24 - cl24 y) = 0 := by
  rcases cl24_c y with ⟨h1, h2⟩ | ⟨h1, h2, h3⟩ | ⟨h1, h2⟩
  · rw [h2, PdV_p (by omega)]; exact md_mul _ (by decide) (by omega)
  · rw [h3, PdV_p (by omega)]; exact Int.mul_emod_left _ _
  · rw [h2]; exact Int.emod_one _
theorem PdX_div {D E c : Int} (hc : 0 ≤ c) (h : E ≤ c) : PdX D E / Tp c = D / Tp (c - E) := by
  by_cases h0 : 0 ≤ E
  · rw [PdX_p h0]
    have := sc_div D (c := E) (x := c - E) h0 (by omega)
    rwa [show c - E + E = c by omega] at this
  · rw [PdX_n (by omega), ← edd _ _ (Tp_pos _), ← Tp_add (by omega) hc]
    exact congrArg (fun x => D / Tp x) (by omega)
theorem pd_X (D y : Int) : Rn (PdX D (48 - y)) (48 - cl24 y) = PdV D (24 - y) * Tp 24 := by
  rcases cl24_c y with ⟨h1, h2⟩ | ⟨h1, h2, h3⟩ | ⟨h1, h2⟩
  · rw [h2, PdV_p (by omega), PdX_p (by omega), Rn_id (md_mul D (by decide) (by omega)), Int.mul_assoc, ← Tp_add (by omega) (by decide)]
    exact congrArg (fun x => D * Tp x) (by omega)
  · rw [h3, PdV_p (by omega), PdX_p (by omega), Rn_mul, Int.mul_assoc, ← Tp_add (by omega) (by decide)]
    exact congrArg (fun x => D * Tp x) (by omega)
  · rw [h2, PdV_n (by omega), Rn_gt0 (by decide), show (48 : Int) - 24 = 24 by decide, show (24 : Int) - 1 = 23 by decide, PdX_div (by decide) (by omega), PdX_div (by decide) (by omega),
      show (24 : Int) - (48 - y) = -(24 - y) by omega, show (23 : Int) - (48 - y) = -(24 - y) - 1 by omega]
theorem m_number {ch : Int → Int} {us st mn z1 z2 d p1 n1 v1 : Int} {k1 : Nat} {kf sf mf G k' s' m' G' : Int → Int} (hC : RfR ch us st mn z1 k1 p1 n1 v1) (hM : NbR ch us st mn z2 d kf sf mf G k' s' m' G') :
    z1 = z2 ∧ Cor z1 d k1 p1 n1 v1 kf sf mf G k' s' m' G' ∧ (z1 = 0 → Okv k1 p1 n1 v1) := by
  obtain ⟨e, pt, x, hN, hE, hC⟩ := hC
  obtain ⟨e', pt', x', hN', hE', hM⟩ := hM
  obtain ⟨rfl, rfl⟩ := NumR_u hN hN'
  have ex := ExpR_u hE hE'
  subst ex
  have D0 := Dg_n0 hN (by have := hN.1; have := hN.2.1; omega : st ≤ e) (Int.le_refl e)
  clear hN hN' hE hE'
  generalize Dg ch pt st e = D at *
  generalize mx0 (e - pt - 1) - x = y at *
  have cl := cl24_in y
  have w0 := PdV_nn (E := 24 - y) D0
  rcases hM with ⟨h1, h2, h3⟩ | ⟨h1, h2, h⟩
  · rcases hC with ⟨c1, c2⟩ | ⟨c1, c2, _⟩
    · exact ⟨c1.trans h1.symm, No_Cor h3 (by rw [c1]; decide), fun hh => absurd hh (by rw [c1]; decide)⟩
    · exfalso; omega
  · rcases hC with ⟨c1, c2⟩ | ⟨c1, c2, c⟩
    · exfalso; omega
    · rcases h with ⟨h3, h4, h5⟩ | h
      · have z3 : z1 = -3 := by
          rcases c with ⟨c3, _⟩ | ⟨c3, c4, c5, c6, c7, c8⟩
          · exact c3
          · have := big_v h4
            omega
        exact ⟨z3.trans h3.symm, No_Cor h5 (by rw [z3]; decide), fun hh => absurd hh (by rw [z3]; decide)⟩
      · refine kp_fin h (pd_X D y) w0 cl (pd_md D y) ?_
        rcases c with ⟨c3, c4⟩ | ⟨c3, c4, c5, c6, c7, c8⟩
        · exact Or.inl ⟨c3, big_v c4⟩
        · rcases c8 with ⟨c8, c9⟩ | ⟨c8, c9⟩
          · exact Or.inl ⟨c8, by rw [← c5]; exact c9⟩
          · exact Or.inr ⟨c8, by rw [← c5]; exact c9, c3, c4, c5, c6, c7⟩
theorem m_enter {ch : Int → Int} {us z1 z2 d p1 n1 v1 : Int} {k1 : Nat} {kf sf mf G k' s' m' G' : Int → Int} (hC : RiR ch us z1 k1 p1 n1 v1) (hM : EnR ch us z2 d kf sf mf G k' s' m' G') :
    z1 = z2 ∧ Cor z1 d k1 p1 n1 v1 kf sf mf G k' s' m' G' ∧ (z1 = 0 → Okv k1 p1 n1 v1) := by
  rcases hM with ⟨h1, h2⟩ | ⟨h1, st, mn, h2, h3, h4⟩
  · rcases hC with ⟨_, c1, c2⟩ | ⟨c1, _⟩
    · subst c1; exact sp_3 h2 c2
    · exact absurd h1 c1
  · rcases hC with ⟨c1, _⟩ | ⟨_, st', mn', c2, c3, c4⟩
    · exact absurd c1 h1
    · have es : st' = st := by clear h3 c3; omega
      subst es
      have em : mn' = mn := by clear h2 c2; omega
      subst em
      clear h2 h3 c2
      rcases h4 with ⟨h4, h5⟩ | ⟨h4, h5⟩
      · rcases c4 with ⟨_, c5, c6⟩ | ⟨c5, _⟩
        · subst c5
          rcases h5 with ⟨h5, h6⟩ | ⟨h5, h6⟩
          · exact sp_0 h6 (by clear c3; omega)
          · exact sp_2 h6 (by clear c3; omega)
        · exact absurd h4 c5
      · rcases c4 with ⟨c5, _⟩ | ⟨_, c5⟩
        · exact absurd c5 h4
        · exact m_number c5 h5
theorem Smn_ext {f g : Int → Int} : ∀ n : Nat, (∀ j : Int, 0 ≤ j → j < n → f j = g j) → Smn f n = Smn g n := by
  intro n
  induction n with
  | zero => intro _; rfl
  | succ n ih =>
    intro h
    show Smn f n + f n = Smn g n + g n
    rw [ih (fun j g1 g2 => h j g1 (by omega)), h n (by omega) (by omega)]
theorem Sm_ext {f g : Int → Int} (h : ∀ j : Int, 0 ≤ j → j < 28 → f j = g j) : Sm f 28 = Sm g 28 := Smn_ext 28 (fun j g1 g2 => h j g1 g2)
theorem rn_lt60 {v x : Int} (h0 : 0 ≤ v) (h : v ≤ 1000 * Tp 56) (hx : x ≤ 24) : Rn v x % Bp 15 = Rn v x := by
  refine Int.emod_eq_of_lt (Rn_nn h0) ?_
  have e : Bp 15 = 10000 * Tp 56 := (show Bp 15 = 10000 * Bp 14 from Bp_s (i := 14) (by decide)).trans (by rw [Bp_Tp (i := 14) (by decide)]; rfl)
  have p := Tp_pos 56
  have t : Tp 24 ≤ Tp 56 := Tp_mono (by decide) (by decide)
  by_cases c : x ≤ 0
  · rw [Rn_le0 c]; omega
  · have tx : Tp x ≤ Tp 24 := Tp_mono (by omega) hx
    have px := Tp_pos x
    rw [Rn_gt0 (by omega), Int.add_mul]
    have b := bit5 (5 ≤ v / Tp (x - 1) % 10)
    have m := mul_le_r b.2 (Int.le_of_lt px)
    have q := Int.ediv_mul_le v (show Tp x ≠ 0 by omega)
    omega
theorem ab_sv {sn vs X m : Int} (hsn : sn = 0 ∨ sn = 1) (h0 : 0 ≤ vs) (hv : vs = 0 → sn = 0) (h : AbR (sv sn vs * Tp 24) 0 X m) : X = vs * Tp 24 ∧ (0 < vs → sn = m) := by
  have p := Tp_pos 24
  have nn : 0 ≤ vs * Tp 24 := Int.mul_nonneg h0 (by omega)
  unfold AbR at h
  rcases sv_c hsn vs with ⟨e0, e⟩ | ⟨e0, e⟩
  · rw [e] at h; omega
  · rw [e, Int.neg_mul] at h
    have pos : 0 < vs := by
      refine Int.not_le.mp (fun hh => ?_)
      have := hv (by omega)
      omega
    have mm := mul_lt_r pos p
    omega
theorem rn_0 (x : Int) : Rn 0 x = 0 := by
  have := Rn_mul 0 x
  rwa [Int.zero_mul] at this
/-- the result of a sum, on both sides -/
theorem m_total {z1 z2 d sn vs Vs p1 n1 v1 : Int} {k1 : Nat} {cC cM : Int → Int} {kf sf mf G k' s' m' G' : Int → Int} (hc : ∀ j : Int, 0 ≤ j → j < 28 → cM j = cC j) (hp : ∀ j : Int, 0 ≤ j → j < 28 → 0 ≤ cC j) (hsn : sn = 0 ∨ sn = 1) (h0 : 0 ≤ vs) (hv : vs = 0 → sn = 0) (hb : vs ≤ 1000 * Tp 56) (hV : Vs = sv sn vs)
    (hC : SrR z1 k1 p1 n1 v1 sn vs cC) (hM : (z2 = -6 ∧ Sm cM 28 = 0 ∧ NoR kf sf mf G k' s' m' G') ∨ (Sm cM 28 ≠ 0 ∧ RsR z2 d (cM 25) (cM 26) (cM 27) Vs cM kf sf mf G k' s' m' G')) :
    z1 = z2 ∧ Cor z1 d k1 p1 n1 v1 kf sf mf G k' s' m' G' ∧ (z1 = 0 → Okv k1 p1 n1 v1) := by
  rw [Sm_ext hc, hc 25 (by decide) (by decide), hc 26 (by decide) (by decide), hc 27 (by decide) (by decide)] at hM
  have p25 := hp 25 (by decide) (by decide)
  have p26 := hp 26 (by decide) (by decide)
  have p27 := hp 27 (by decide) (by decide)
  rcases hM with ⟨h1, h2, h3⟩ | ⟨h1, h⟩
  · rcases hC with ⟨c1, c2⟩ | ⟨c1, _⟩
    · exact ⟨c1.trans h1.symm, No_Cor h3 (by rw [c1]; decide), fun hh => absurd hh (by rw [c1]; decide)⟩
    · exact absurd h2 c1
  · rcases hC with ⟨c1, c2⟩ | ⟨_, c⟩
    · exact absurd c2 h1
    · clear h1
      rcases h with ⟨h1, h2⟩ | ⟨h1, h2, h3⟩ | ⟨h1, h2, h3, h4⟩ | ⟨h1, h2, h3, n, m, X, x1, x2, x3, x4, x5, x6, x7⟩
      · rcases c with ⟨c1, c2, c3⟩ | ⟨c1, c2, c3, c4, c5⟩ | ⟨c1, c2, c3, c4, c5⟩ | ⟨c1, c2, c3, _⟩
        · subst c1; exact sp_3 h2 c2
        · exfalso; omega
        · exfalso; omega
        · exfalso; omega
      · rcases c with ⟨c1, c2, c3⟩ | ⟨c1, c2, c3, c4, c5⟩ | ⟨c1, c2, c3, c4, c5⟩ | ⟨c1, c2, c3, _⟩
        · exfalso; omega
        · exfalso; omega
        · subst c2; exact sp_2 h3 c3
        · exfalso; omega
      · rcases c with ⟨c1, c2, c3⟩ | ⟨c1, c2, c3, c4, c5⟩ | ⟨c1, c2, c3, c4, c5⟩ | ⟨c1, c2, c3, _⟩
        · exfalso; omega
        · subst c2; exact sp_0 h4 c3
        · exfalso; omega
        · exfalso; omega
      · rcases c with ⟨c1, c2, c3⟩ | ⟨c1, c2, c3, c4, c5⟩ | ⟨c1, c2, c3, c4, c5⟩ | ⟨_, _, _, k0, g, g1, g2, g3, g4, g5, g6, g7, g8, g9⟩
        · exfalso; omega
        · exfalso; omega
        · exfalso; omega
        · clear h1 h2 h3 p25 p26 p27
          have eg : n = g := by
            refine Int.le_antisymm (Int.not_lt.mp (fun hh => ?_)) (Int.not_lt.mp (fun hh => ?_))
            · have e1 := g4 n hh x2
              rw [← hc n x1 (by omega)] at e1
              omega
            · have e1 := x4 g hh g2
              have e2 := hp g g1 (by omega)
              rw [hc g g1 (by omega)] at e1
              omega
          subst eg
          rw [hV] at x6
          have ab := ab_sv hsn h0 hv x6
          rw [rn_lt60 h0 hb (by omega)] at g6
          rw [ab.1, rn_sc24] at x7
          have wm : Rn vs (24 - n) % Tp (24 - n) = 0 := by
            have := rn_md0 (v := vs) x2
            rwa [mx0_p x1] at this
          refine kp_fin x7 rfl (Rn_nn h0) ⟨x1, x2⟩ wm ?_
          rcases g9 with ⟨g9, g10⟩ | ⟨g9, g10⟩
          · exact Or.inl ⟨g9, by rw [← g6]; exact g10⟩
          · refine Or.inr ⟨g9, by rw [← g6]; exact g10, k0, g5, g6, g7, fun hh => ?_⟩
            rw [g8 hh]
            refine ab.2 (Int.not_le.mp (fun h9 => ?_))
            have e0 : vs = 0 := by omega
            rw [e0, rn_0] at g6
            omega
/-- an average never grows too large -/
theorem av_lt {v N P p : Int} (hv : 0 ≤ v) (h : v < Tp 56) (hm : v % Tp (24 - p) = 0) (hp : 0 ≤ p ∧ p ≤ P ∧ P ≤ 24) (hN : 1 ≤ N) : v * Tp (P + 1) / (N * Tp 24) ≤ Tp (33 + P) - 10 := by
  have e := md_ex hm
  generalize v / Tp (24 - p) = w at e
  have e56 : Tp 56 = Tp (32 + p) * Tp (24 - p) := by rw [← Tp_add (by omega) (by omega)]; exact congrArg Tp (by omega)
  have w1 : w < Tp (32 + p) := by
    rw [e, e56] at h
    exact Int.lt_of_mul_lt_mul_right h (Int.le_of_lt (Tp_pos _))
  have w0 : 0 ≤ w := by
    refine Int.not_lt.mp (fun hh => ?_)
    have := mul_lt_r hh (Tp_pos (24 - p))
    omega
  have x : v * Tp (P + 1) = w * Tp (P + 1 - p) * Tp 24 := by
    rw [e, Int.mul_assoc, ← Tp_add (by omega) (by omega), Int.mul_assoc, ← Tp_add (by omega) (by decide)]
    exact congrArg (fun y => w * Tp y) (by omega)
  rw [x, Int.mul_ediv_mul_of_pos_left _ _ (Tp_pos 24)]
  have p1 := Tp_pos (P + 1 - p)
  have l1 := Int.ediv_le_self N (Int.mul_nonneg w0 (Int.le_of_lt p1))
  have l2 := mul_le_r (show w ≤ Tp (32 + p) - 1 by omega) (Int.le_of_lt p1)
  rw [Int.sub_mul, ← Tp_add (by omega) (by omega), Int.one_mul, show 32 + p + (P + 1 - p) = 33 + P by omega] at l2
  have t1 : 10 ≤ Tp (P + 1 - p) := by
    have := Tp_mono (a := 1) (b := P + 1 - p) (by decide) (by omega)
    exact this
  omega
theorem av_no {z d ne t P : Int} {kf sf mf G k' s' m' G' : Int → Int} (hP : 0 ≤ P ∧ P ≤ 24) (ht : t ≤ Tp (33 + P) - 10) (h : KpR z d P ne (Rn (t * Tp (48 - (P + 1))) (48 - P)) kf sf mf G k' s' m' G') : z = 0 := by
  rcases h with ⟨h1, h2, _⟩ | ⟨h1, _⟩
  · exfalso
    have e2 := Rn_gt0 (v := t * Tp (48 - (P + 1))) (show 0 < 48 - P by omega)
    have d3 : t * Tp (48 - (P + 1)) / Tp (48 - P) = t / 10 := by
      rw [show (48 : Int) - P = 1 + (48 - (P + 1)) by omega, sc_div t (by omega) (by decide)]; rfl
    have d4 : t * Tp (48 - (P + 1)) / Tp (48 - P - 1) = t := by rw [show (48 : Int) - P - 1 = 48 - (P + 1) by omega, mt_cancel]
    rw [d3, d4] at e2
    have e80 : Tp 80 = Tp (32 + P) * Tp (48 - P) := by rw [← Tp_add (by omega) (by omega)]; exact congrArg Tp (by omega)
    rw [e2, e80] at h2
    have l := Int.le_of_mul_le_mul_right h2 (Tp_pos _)
    have t33 : Tp (33 + P) = 10 * Tp (32 + P) := by rw [← Tp_s (by omega)]; exact congrArg Tp (by omega)
    by_cases c : 5 ≤ t % 10
    · rw [if_pos c] at l; omega
    · rw [if_neg c] at l; omega
  · exact h1
theorem pd_ge {wa wb la lb pl po : Int} (h : pl ≤ 24) : pl ≤ pd wa wb la lb pl po := by
  unfold pd
  generalize (16 - 4 * (wa - wb - (if la ≤ lb then 1 else 0))) = x
  omega
theorem Cor_NoR {z d p1 n1 v1 : Int} {k1 : Nat} {kf sf mf G k0 s0 m0 G0 k' s' m' G' : Int → Int} (h : Cor z d k1 p1 n1 v1 kf sf mf G k0 s0 m0 G0) (hn : NoR k0 s0 m0 G0 k' s' m' G') : Cor z d k1 p1 n1 v1 kf sf mf G k' s' m' G' := by
  obtain ⟨rfl, rfl, rfl, rfl⟩ := hn
  exact h
theorem Cor_tr {d p0 n0 v0 p1 n1 v1 : Int} {k0 k1 : Nat} {kf sf mf G ka sa ma Ga k' s' m' G' : Int → Int} (h : Cor 0 d k0 p0 n0 v0 kf sf mf G ka sa ma Ga) (h2 : Cor 0 d k1 p1 n1 v1 ka sa ma Ga k' s' m' G') : Cor 0 d k1 p1 n1 v1 kf sf mf G k' s' m' G' := by
  refine ⟨fun r g1 g2 g3 => ?_, h2.2⟩
  have a := h.1 r g1 g2 g3
  have b := h2.1 r g1 g2 g3
  exact ⟨b.1.trans a.1, b.2.1.trans a.2.1, b.2.2.1.trans a.2.2.1, b.2.2.2.trans a.2.2.2⟩
theorem km_1i {k : Int} (h : 0 ≤ k ∧ k ≤ 3) : km k = 1 ↔ k = 0 := by
  have := km_c h
  omega
/-- the average, on both sides -/
theorem m_avg {z z2 d sn vs Vs p1 n1 v1 : Int} {k1 : Nat} {cC cM : Int → Int} {kf sf mf G k' s' m' G' : Int → Int} (hd : 0 ≤ d ∧ d < 8) (hc : ∀ j : Int, 0 ≤ j → j < 28 → cM j = cC j) (hp : ∀ j : Int, 0 ≤ j → j < 28 → 0 ≤ cC j) (hsn : sn = 0 ∨ sn = 1) (h0 : 0 ≤ vs) (hv : vs = 0 → sn = 0) (hb : vs ≤ 1000 * Tp 56) (hV : Vs = sv sn vs)
    (hC : ∃ (y1 : Int) (q1 : Nat) (a1 b1 w1 : Int), q1 < 4 ∧ (b1 = 0 ∨ b1 = 1) ∧ SrR y1 q1 a1 b1 w1 sn vs cC ∧ (((y1 ≠ 0 ∨ q1 ≠ 1) ∧ z = y1 ∧ k1 = q1 ∧ p1 = a1 ∧ n1 = b1 ∧ v1 = w1) ∨ (y1 = 0 ∧ q1 = 1 ∧ CmR 3 z k1 p1 n1 v1 q1 a1 b1 w1 1 0 0 (Sm cC 28 * Bp 6))))
    (hM : ∃ (y2 : Int) (k2 s2 m2 G2 : Int → Int), bd k2 8 0 3 ∧ bd m2 8 0 1 ∧ bd s2 8 0 24 ∧ bd G2 448 0 9 ∧ ((y2 = -6 ∧ Sm cM 28 = 0 ∧ NoR kf sf mf G k2 s2 m2 G2) ∨ (Sm cM 28 ≠ 0 ∧ RsR y2 d (cM 25) (cM 26) (cM 27) Vs cM kf sf mf G k2 s2 m2 G2)) ∧
      (((y2 ≠ 0 ∨ k2 d ≠ 0) ∧ z2 = y2 ∧ NoR k2 s2 m2 G2 k' s' m' G') ∨ (y2 = 0 ∧ k2 d = 0 ∧ 0 < Sm cM 28 ∧ ∃ wa wb la lb P : Int, Wt (Gt G2 d) wa ∧ Wt (Sm cM 28 * Tp 24) wb ∧ Ld (Gt G2 d) la ∧ Ld (Sm cM 28 * Tp 24) lb ∧ P = pd wa wb la lb (s2 d) 0 ∧ KpR z2 d P (dif (m2 d) 0) (Rn (Gt G2 d * Tp (P + 1) / (Sm cM 28 * Tp 24) * Tp (48 - (P + 1))) (48 - P)) k2 s2 m2 G2 k' s' m' G'))) :
    z = z2 ∧ Cor z d k1 p1 n1 v1 kf sf mf G k' s' m' G' ∧ (z = 0 → Okv k1 p1 n1 v1) := by
  obtain ⟨y1, q1, a1, b1, w1, c1, c2, c3, c4⟩ := hC
  obtain ⟨y2, k2, s2, m2, G2, e1, e2, e3, e4, e5, e6⟩ := hM
  obtain ⟨t1, t2, t3⟩ := m_total hc hp hsn h0 hv hb hV c3 e5
  subst t1
  rw [Sm_ext hc] at e6
  rcases e6 with ⟨f1, f2, f3⟩ | ⟨f1, f2, f3, wa, wb, la, lb, P, x1, x2, x3, x4, x5, x6⟩
  · rcases c4 with ⟨g1, g2, g3, g4, g5, g6⟩ | ⟨g1, g2, _⟩
    · subst g2 g3 g4 g5 g6
      exact ⟨f2.symm, Cor_NoR t2 f3, t3⟩
    · exfalso
      have := (t2.2 g1).1
      rw [g2] at this
      have k0 := (km_1i (e1 d hd.1 hd.2)).mp this
      rcases f1 with f1 | f1
      · exact f1 g1
      · exact f1 k0
  · subst f1
    obtain ⟨u1, u2⟩ := t2.2 rfl
    have q1e : q1 = 1 := by rw [← u1, f2]; rfl
    rcases c4 with ⟨g1, _⟩ | ⟨_, _, g3⟩
    · exfalso
      rcases g1 with g1 | g1
      · exact g1 rfl
      · exact g1 q1e
    · obtain ⟨v1a, v1b, v1c⟩ := u2 q1e
      obtain ⟨o1, o2, o3, o4, o5⟩ := t3 rfl q1e
      have e6b : Bp 6 = Tp 24 := Bp_Tp (i := 6) (by decide)
      have w0 : 0 ≤ w1 := by rw [← v1c]; exact (Gt_in e4 hd).1
      have npos : 0 < Sm cC 28 * Tp 24 := Int.mul_pos f3 (Tp_pos 24)
      rw [v1c] at x1 x3 x6
      rw [v1b] at x6
      rw [v1a] at x5
      rw [e6b, q1e] at g3
      have st : DvR z k1 p1 n1 v1 a1 b1 w1 0 0 (Sm cC 28 * Tp 24) := by
        rcases g3 with ⟨i1, _⟩ | ⟨_, _, i⟩
        · exfalso; omega
        · rcases i with ⟨i1, _⟩ | ⟨i1, _⟩ | ⟨i1, _⟩ | ⟨i1, _⟩ | ⟨_, _, i1, _⟩ | ⟨_, _, i⟩
          · exfalso; omega
          · exfalso; omega
          · exfalso; omega
          · exfalso; omega
          · exfalso; omega
          · rcases i with ⟨_, _, ⟨_, i⟩ | ⟨i, _⟩ | ⟨i, _⟩⟩ | ⟨i, _⟩
            · exact i
            · exfalso; omega
            · exfalso; omega
            · exact absurd ⟨rfl, rfl⟩ i
      obtain ⟨wa', wb', la', lb', y1, y2, y3, y4, y5⟩ := st
      rw [Wt_u y1 x1, Wt_u y2 x2, Ld_u y3 x3, Ld_u y4 x4, ← x5] at y5
      have pdi := pd_in (wa := wa) (wb := wb) (la := la) (lb := lb) (pl := a1) (po := 0) ⟨o1, o2⟩
      have pdg := pd_ge (wa := wa) (wb := wb) (la := la) (lb := lb) (pl := a1) (po := 0) o2
      rw [← x5] at pdi pdg
      have zz := av_no pdi (av_lt w0 o3 o5 ⟨o1, pdg, pdi.2⟩ (by omega)) x6
      obtain ⟨r1, r2, r3⟩ := m_div w0 npos pdi y5 x6
      rw [zz] at r1
      subst r1
      exact ⟨zz.symm, Cor_tr t2 r2, r3⟩
theorem m_len {K : Nat} {P N V k p n v L L2 : Int} (r : RegR K P N V k p n v) (hC : TlR K P N V L) (hM : LnR k p n v L2) : L = L2 := by
  have c := RegR_k r
  rcases hM with ⟨h1, h2⟩ | ⟨h1, n2, h2, h3, h4, h5⟩
  · rcases hC with ⟨c1, c2⟩ | ⟨c1, _⟩
    · rw [c2, h2, r.2.2.1]
    · exfalso; omega
  · obtain ⟨rfl, rfl, rfl⟩ := r.2.2.2.1 h1
    rcases hC with ⟨c1, c2⟩ | ⟨_, n1, c2, c3, c4, c5⟩
    · exfalso; omega
    · rw [c5, h5, Wh_u c2 h2]
theorem TcR_u {ng v n i z z' : Int} (h : TcR ng v n i z) (h' : TcR ng v n i z') : z = z' := by
  unfold TcR at h h'
  rcases h with ⟨a1, a2, a3⟩ | ⟨a1, ⟨a2, a3⟩ | ⟨a2, a3⟩ | ⟨a2, a3⟩⟩
  · rcases h' with ⟨b1, b2, b3⟩ | ⟨b1, _⟩
    · omega
    · exact absurd ⟨a1, a2⟩ b1
  all_goals
    rcases h' with ⟨b1, b2, b3⟩ | ⟨b1, ⟨b2, b3⟩ | ⟨b2, b3⟩ | ⟨b2, b3⟩⟩
    · exact absurd ⟨b1, b2⟩ a1
    all_goals first | (rw [a3, b3]; done) | (exfalso; omega)
theorem m_chr {K : Nat} {P N V k p n v i z1 z2 : Int} (r : RegR K P N V k p n v) (hC : (z1 = -1 ∧ (i < 0 ∨ ∃ L : Int, TlR K P N V L ∧ L ≤ i)) ∨ (0 ≤ i ∧ (∃ L : Int, TlR K P N V L ∧ i < L) ∧ TkR K N V i z1))
    (hM : ∃ L : Int, LnR k p n v L ∧ ((z2 = -1 ∧ (i < 0 ∨ L ≤ i)) ∨ (0 ≤ i ∧ i < L ∧ ChR k n v i z2))) : z1 = z2 := by
  obtain ⟨L, h1, h2⟩ := hM
  have c := RegR_k r
  rcases hC with ⟨c1, c2⟩ | ⟨c1, ⟨L', c2, c3⟩, c4⟩
  · rcases h2 with ⟨d1, _⟩ | ⟨d1, d2, _⟩
    · omega
    · exfalso
      rcases c2 with c2 | ⟨L', c2, c3⟩
      · omega
      · have := m_len r c2 h1
        omega
  · have e := m_len r c2 h1
    rcases h2 with ⟨d1, d2⟩ | ⟨d1, d2, d3⟩
    · exfalso; omega
    · rcases d3 with ⟨d3, d4⟩ | ⟨d3, n2, d4, d5⟩
      · rcases c4 with ⟨c4, c5⟩ | ⟨c4, _⟩
        · rw [c5, d4, r.2.2.1]
        · exfalso; omega
      · rcases c4 with ⟨c4, _⟩ | ⟨c4, n1, c5, c6⟩
        · exfalso; omega
        · obtain ⟨_, rfl, rfl⟩ := r.2.2.2.1 d3
          rw [Wh_u c5 d4] at c6
          exact TcR_u c6 d5
