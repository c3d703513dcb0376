/-! The two sides agree: apply. -/
theorem m_quo {z1 z d ma mb va vb p1 n1 v1 : Int} {k1 : Nat} {kf sf mf G k' s' m' G' : Int → Int} (ha : 0 ≤ va) (hb : 0 < vb) (hS : St z1 k1 p1 n1 v1 (Rn (va * Bp 6 / vb / Tp 24 * Tp 24) (6 * 4 - 0)) 6 0 (dif ma mb)) (hK : KpR z d 0 (dif ma mb) (va / vb * Tp 48) kf sf mf G k' s' m' G') :
    z1 = z ∧ Cor z1 d k1 p1 n1 v1 kf sf mf G k' s' m' G' ∧ (z1 = 0 → Okv k1 p1 n1 v1) := by
  have e6 : Bp 6 = Tp 24 := Bp_Tp (i := 6) (by decide)
  rw [e6, dv_sw va vb (Tp_pos 24) hb, show (6 : Int) * 4 - 0 = 24 by decide, Rn_mul] at hS
  exact kp_St hS hK (u := va / vb) rfl rfl (Int.ediv_nonneg ha (Int.le_of_lt hb)) (by decide) (by decide)
theorem m_rem {z1 z d ma va vb M p1 n1 v1 : Int} {k1 : Nat} {kf sf mf G k' s' m' G' : Int → Int} (ha : 0 ≤ va) (hb : 0 < vb) (hM : 0 ≤ M ∧ M ≤ 24) (h1 : va % Tp (24 - M) = 0) (h2 : vb % Tp (24 - M) = 0) (hS : St z1 k1 p1 n1 v1 (Rn (va % vb) (6 * 4 - M)) 6 M ma) (hK : KpR z d M ma (va % vb * Tp 24) kf sf mf G k' s' m' G') :
    z1 = z ∧ Cor z1 d k1 p1 n1 v1 kf sf mf G k' s' m' G' ∧ (z1 = 0 → Okv k1 p1 n1 v1) := by
  have m := md_mod h1 h2
  have nn := Int.emod_nonneg va (show vb ≠ 0 by omega)
  rw [show (6 : Int) * 4 - M = 24 - M by omega, Rn_id m] at hS
  have e := md_ex m
  refine kp_St hS hK (u := va % vb / Tp (24 - M)) (by rw [show (6 : Int) * 4 - M = 24 - M by omega]; exact e) ?_ (Int.ediv_nonneg nn (Int.le_of_lt (Tp_pos _))) (by decide) hM
  rw [show (48 : Int) - M = (24 - M) + 24 by omega, Tp_add (by omega) (by decide), ← Int.mul_assoc, ← e]
theorem ad_sg {op nb vb : Int} (hop : op = 0 ∨ op = 1) (hn : nb = 0 ∨ nb = 1) : sv (dif nb op) vb = (1 - 2 * op) * sv nb vb := by
  rcases hop with rfl | rfl <;> rcases hn with rfl | rfl
  · rw [dif_e rfl, sv_0]; omega
  · rw [dif_n (by decide)]; omega
  · rw [dif_n (by decide), sv_1, sv_0]; omega
  · rw [dif_e rfl, sv_0, sv_1]; omega
theorem m_add {op z1 z d na va nb vb M n X p1 n1 v1 : Int} {k1 : Nat} {kf sf mf G k' s' m' G' : Int → Int} (hop : op = 0 ∨ op = 1) (hnb : nb = 0 ∨ nb = 1) (hn1 : n1 = 0 ∨ n1 = 1) (hv1 : 0 ≤ v1) (hM : 0 ≤ M ∧ M ≤ 24) (h1 : va % Tp (24 - M) = 0) (h2 : vb % Tp (24 - M) = 0)
    (hk1 : k1 = 1) (hp1 : p1 = M) (hv0 : v1 = 0 → n1 = 0) (hs : sv n1 v1 = sv na va + (1 - 2 * op) * sv nb vb) (hz : (z1 = -3 ∧ Tp 56 ≤ v1) ∨ (z1 = 0 ∧ v1 < Tp 56))
    (hA : AbR ((sv na va + sv (dif nb op) vb) * Tp 24) 0 X n) (hK : KpR z d M n (Rn X (48 - M)) kf sf mf G k' s' m' G') :
    z1 = z ∧ Cor z1 d k1 p1 n1 v1 kf sf mf G k' s' m' G' ∧ (z1 = 0 → Okv k1 p1 n1 v1) := by
  rw [ad_sg hop hnb, ← hs] at hA
  have p := Tp_pos 24
  have m1 : sv n1 v1 % Tp (24 - M) = 0 := by
    rw [hs]
    refine md_add (md_sv h1) ?_
    rw [← ad_sg hop hnb]; exact md_sv h2
  have m2 : v1 % Tp (24 - M) = 0 := by
    rcases sv_c hn1 v1 with ⟨_, e⟩ | ⟨_, e⟩
    · rw [e] at m1; exact m1
    · rw [e] at m1
      have := md_neg m1
      rwa [Int.neg_neg] at this
  have hX : X = v1 * Tp 24 ∧ (0 < v1 → n1 = n) := by
    have nn : 0 ≤ v1 * Tp 24 := Int.mul_nonneg hv1 (by omega)
    rcases sv_c hn1 v1 with ⟨e0, e⟩ | ⟨e0, e⟩
    · rw [e] at hA
      unfold AbR at hA
      omega
    · rw [e, Int.neg_mul] at hA
      unfold AbR at hA
      have pos : 0 < v1 := by
        refine Int.not_le.mp (fun hh => ?_)
        have := hv0 (by omega)
        omega
      have mm := mul_lt_r pos p
      omega
  have mX : X % Tp (48 - M) = 0 := by
    rw [hX.1, md_ex m2, Int.mul_assoc, ← Tp_add (by omega) (by decide), show (24 : Int) - M + 24 = 48 - M by omega]
    exact Int.mul_emod_left _ _
  rw [Rn_id mX] at hK
  exact kp_fin hK hX.1 hv1 hM m2 (by
    rcases hz with hz | hz
    · exact Or.inl hz
    · exact Or.inr ⟨hz.1, hz.2, hk1, hp1, rfl, hv0, hX.2⟩)
/-- a register of the class and of the reference -/
def RegR (K : Nat) (P N V k p n v : Int) : Prop := 0 ≤ k ∧ k ≤ 3 ∧ K = km k ∧ (k = 0 → p = P ∧ n = N ∧ v = V) ∧ 0 ≤ V ∧ V < Tp 56 ∧ 0 ≤ P ∧ P ≤ 24 ∧ (N = 0 ∨ N = 1) ∧ (V = 0 → N = 0) ∧ (k = 0 → V % Tp (24 - P) = 0)
theorem RegR_k {K : Nat} {P N V k p n v : Int} (h : RegR K P N V k p n v) : (k = 0 ∧ K = 1) ∨ (k = 1 ∧ K = 3) ∨ (k = 2 ∧ K = 2) ∨ (k = 3 ∧ K = 0) := by
  have := km_c (k := k) ⟨h.1, h.2.1⟩
  have e := h.2.2.1
  omega
theorem sgm {K : Nat} {P N V k p n v s : Int} (r : RegR K P N V k p n v) (h : SgR k n v s) (h1 : k ≠ 1) : s = sg3 K N V := by
  have c := RegR_k r
  obtain ⟨r1, r2, r3, r4, r5, r6, r7, r8, r9, r10, r11⟩ := r
  rcases c with ⟨c1, c2⟩ | ⟨c1, c2⟩ | ⟨c1, c2⟩ | ⟨c1, c2⟩
  · obtain ⟨_, e2, e3⟩ := r4 c1
    subst c2
    unfold SgR at h
    unfold sg3
    rw [if_pos rfl]
    by_cases hv : V = 0
    · rw [if_pos hv]; omega
    · rw [if_neg hv]
      by_cases hn : N = 1
      · rw [if_pos hn]; omega
      · rw [if_neg hn]; omega
  · omega
  · subst c2; unfold SgR at h; show s = 1; omega
  · subst c2; unfold SgR at h; show s = -1; omega
theorem add_tab {op ka kb : Int} {KA KB k1 : Nat} (hop : op = 0 ∨ op = 1) (ha : (ka = 0 ∧ KA = 1) ∨ (ka = 2 ∧ KA = 2) ∨ (ka = 3 ∧ KA = 0)) (hb : (kb = 0 ∧ KB = 1) ∨ (kb = 2 ∧ KB = 2) ∨ (kb = 3 ∧ KB = 0)) (hn : 1 < ka ∨ 1 < kb) (h : infk (kdsg KA + (1 - 2 * op) * kdsg KB) k1) :
    (1 < ka ∧ 1 < neg5 op kb ∧ ka ≠ neg5 op kb ∧ k1 = 3) ∨ (¬ (1 < ka ∧ 1 < neg5 op kb ∧ ka ≠ neg5 op kb) ∧ 1 < ka ∧ km ka = k1 ∧ k1 ≠ 1) ∨ (¬ (1 < ka ∧ 1 < neg5 op kb ∧ ka ≠ neg5 op kb) ∧ ka ≤ 1 ∧ km (neg5 op kb) = k1 ∧ k1 ≠ 1) := by
  have hk : k1 = 0 ∨ k1 = 2 ∨ k1 = 3 := by unfold infk at h; omega
  unfold infk at h
  rcases hop with rfl | rfl <;> rcases ha with ⟨rfl, rfl⟩ | ⟨rfl, rfl⟩ | ⟨rfl, rfl⟩ <;> rcases hb with ⟨rfl, rfl⟩ | ⟨rfl, rfl⟩ | ⟨rfl, rfl⟩ <;> rcases hk with rfl | rfl | rfl <;> revert h hn <;> decide
theorem sg_n0 {k n v s : Int} (h : SgR k n v s) (hk : 1 < k) : s ≠ 0 := by unfold SgR at h; omega
theorem sg_0v {n v s : Int} (h : SgR 0 n v s) : s = 0 ↔ v = 0 := by unfold SgR at h; omega
theorem sg_k0 {k n v s : Int} (h : SgR k n v s) (hs : s = 0) (hk : k ≠ 1) (h0 : 0 ≤ k) : k = 0 := by unfold SgR at h; omega
abbrev K3 (k : Int) (K : Nat) : Prop := (k = 0 ∧ K = 1) ∨ (k = 2 ∧ K = 2) ∨ (k = 3 ∧ K = 0)
theorem K3_0 {k : Int} {K : Nat} (h : K3 k K) : k = 0 ↔ K = 1 := by omega
theorem K3_1 {k : Int} {K : Nat} (h : K3 k K) : ¬ k = 0 → 1 < k := by omega
theorem K3_n {k : Int} {K : Nat} (h : K3 k K) : 0 ≤ k ∧ k ≠ 1 := by omega
/-- the end where only a kind is set -/
theorem sp_end {z d K p1 n1 v1 : Int} {k1 : Nat} {kf sf mf G k' s' m' G' : Int → Int} (h : SpR z d K kf sf mf G k' s' m' G') (hk : km K = k1) (h1 : k1 ≠ 1) : (0 : Int) = z ∧ Cor 0 d k1 p1 n1 v1 kf sf mf G k' s' m' G' ∧ ((0 : Int) = 0 → Okv k1 p1 n1 v1) := ⟨h.1.symm, Sp_Cor h hk h1, fun _ => Okv_n h1⟩
theorem sp_3 {z d p1 n1 v1 : Int} {k1 : Nat} {kf sf mf G k' s' m' G' : Int → Int} (h : SpR z d 1 kf sf mf G k' s' m' G') (hk : k1 = 3) : (0 : Int) = z ∧ Cor 0 d k1 p1 n1 v1 kf sf mf G k' s' m' G' ∧ ((0 : Int) = 0 → Okv k1 p1 n1 v1) := sp_end h (by rw [hk]; decide) (by rw [hk]; decide)
theorem sp_2 {z d p1 n1 v1 : Int} {k1 : Nat} {kf sf mf G k' s' m' G' : Int → Int} (h : SpR z d 2 kf sf mf G k' s' m' G') (hk : k1 = 2) : (0 : Int) = z ∧ Cor 0 d k1 p1 n1 v1 kf sf mf G k' s' m' G' ∧ ((0 : Int) = 0 → Okv k1 p1 n1 v1) := sp_end h (by rw [hk]; decide) (by rw [hk]; decide)
theorem sp_0 {z d p1 n1 v1 : Int} {k1 : Nat} {kf sf mf G k' s' m' G' : Int → Int} (h : SpR z d 3 kf sf mf G k' s' m' G') (hk : k1 = 0) : (0 : Int) = z ∧ Cor 0 d k1 p1 n1 v1 kf sf mf G k' s' m' G' ∧ ((0 : Int) = 0 → Okv k1 p1 n1 v1) := sp_end h (by rw [hk]; decide) (by rw [hk]; decide)
theorem i_add {op z2 d ka kb p1 n1 v1 : Int} {k1 KA KB : Nat} {kf sf mf G k' s' m' G' : Int → Int} (hop : op = 0 ∨ op = 1) (ha : K3 ka KA) (hb : K3 kb KB) (h3 : 1 < ka ∨ 1 < kb) (c3 : infk (kdsg KA + (1 - 2 * op) * kdsg KB) k1)
    (i : (1 < ka ∧ 1 < neg5 op kb ∧ ka ≠ neg5 op kb ∧ SpR z2 d 1 kf sf mf G k' s' m' G') ∨ (¬ (1 < ka ∧ 1 < neg5 op kb ∧ ka ≠ neg5 op kb) ∧ ((1 < ka ∧ SpR z2 d ka kf sf mf G k' s' m' G') ∨ (ka ≤ 1 ∧ SpR z2 d (neg5 op kb) kf sf mf G k' s' m' G')))) : (0 : Int) = z2 ∧ Cor 0 d k1 p1 n1 v1 kf sf mf G k' s' m' G' ∧ ((0 : Int) = 0 → Okv k1 p1 n1 v1) := by
  have tb := add_tab hop ha hb h3 c3
  clear c3 h3 ha hb hop
  rcases i with ⟨i1, i2, i3, i4⟩ | ⟨i1, ⟨i2, i3⟩ | ⟨i2, i3⟩⟩
  · rcases tb with t | t | t
    · exact sp_3 i4 t.2.2.2
    · exact absurd ⟨i1, i2, i3⟩ t.1
    · exact absurd ⟨i1, i2, i3⟩ t.1
  · rcases tb with t | t | t
    · exact absurd ⟨t.1, t.2.1, t.2.2.1⟩ i1
    · exact sp_end i3 t.2.2.1 t.2.2.2
    · exact absurd t.2.1 (by omega)
  · rcases tb with t | t | t
    · exact absurd ⟨t.1, t.2.1, t.2.2.1⟩ i1
    · exact absurd t.2.1 (by omega)
    · exact sp_end i3 t.2.2.1 t.2.2.2
theorem i_mul {z2 d s p1 n1 v1 : Int} {k1 : Nat} {kf sf mf G k' s' m' G' : Int → Int} (c3 : infk s k1) (i : (s = 0 ∧ SpR z2 d 1 kf sf mf G k' s' m' G') ∨ (0 < s ∧ SpR z2 d 2 kf sf mf G k' s' m' G') ∨ (s < 0 ∧ SpR z2 d 3 kf sf mf G k' s' m' G')) : (0 : Int) = z2 ∧ Cor 0 d k1 p1 n1 v1 kf sf mf G k' s' m' G' ∧ ((0 : Int) = 0 → Okv k1 p1 n1 v1) := by
  unfold infk at c3
  rcases i with ⟨i1, i2⟩ | ⟨i1, i2⟩ | ⟨i1, i2⟩
  · exact sp_3 i2 (by omega)
  · exact sp_2 i2 (by omega)
  · exact sp_0 i2 (by omega)
theorem i_div {z2 d s kb p1 n1 v1 nA vA nB vB : Int} {k1 KA KB : Nat} {kf sf mf G k' s' m' G' : Int → Int} (hA : KA ≠ 1) (hb : kb = 0 ↔ KB = 1) (hb1 : ¬ kb = 0 → 1 < kb) (hs : s = sg3 KA nA vA * sg3 KB nB vB) (hn : s ≠ 0) (c : DI k1 p1 n1 v1 KA nA vA KB nB vB)
    (i : (1 < kb ∧ SpR z2 d 1 kf sf mf G k' s' m' G') ∨ (kb ≤ 1 ∧ 0 < s ∧ SpR z2 d 2 kf sf mf G k' s' m' G') ∨ (kb ≤ 1 ∧ s ≤ 0 ∧ SpR z2 d 3 kf sf mf G k' s' m' G')) : (0 : Int) = z2 ∧ Cor 0 d k1 p1 n1 v1 kf sf mf G k' s' m' G' ∧ ((0 : Int) = 0 → Okv k1 p1 n1 v1) := by
  unfold DI at c
  rw [← hs] at c
  rcases c with ⟨c, _⟩ | ⟨_, c1, c2⟩ | ⟨_, c1, c2⟩
  · exact absurd c hA
  · have k0 := hb.mpr c1
    rcases i with ⟨i1, i2⟩ | ⟨_, i1, i2⟩ | ⟨_, i1, i2⟩
    · exact absurd i1 (by omega)
    · exact sp_2 i2 (by omega)
    · exact sp_0 i2 (by omega)
  · have k0 : 1 < kb := hb1 (fun h => c1 (hb.mp h))
    rcases i with ⟨i1, i2⟩ | ⟨i0, i1, i2⟩ | ⟨i0, i1, i2⟩
    · exact sp_3 i2 c2
    · exact absurd k0 (by omega)
    · exact absurd k0 (by omega)
theorem m_inf {op z1 z2 d pA nA vA pB nB vB ka pa na va kb pb nb vb p1 n1 v1 sa sb : Int} {k1 KA KB : Nat} {kf sf mf G k' s' m' G' : Int → Int} (ra : RegR KA pA nA vA ka pa na va) (rb : RegR KB pB nB vB kb pb nb vb) (ha : K3 ka KA) (hb : K3 kb KB) (h3 : 1 < ka ∨ 1 < kb) (h4 : SgR ka na va sa) (h5 : SgR kb nb vb sb)
    (h6 : IfR op z2 d ka kb sa sb pa na va kf sf mf G k' s' m' G') (hC : CmR op z1 k1 p1 n1 v1 KA pA nA vA KB pB nB vB) : z1 = z2 ∧ Cor z1 d k1 p1 n1 v1 kf sf mf G k' s' m' G' ∧ (z1 = 0 → Okv k1 p1 n1 v1) := by
  have a0 := K3_0 ha
  have b0 := K3_0 hb
  have a1 := K3_1 ha
  have b1 := K3_1 hb
  have an := K3_n ha
  have bn := K3_n hb
  have hsa := sgm ra h4 an.2
  have hsb := sgm rb h5 bn.2
  have n11 : ¬ (KA = 1 ∧ KB = 1) := fun hh => by
    have := a0.mpr hh.1
    have := b0.mpr hh.2
    omega
  rcases hC with ⟨g1, _⟩ | ⟨g1, g2, hC⟩
  · exfalso; clear a0 b0 a1 b1 n11 h3; omega
  · clear g1 g2
    rcases hC with ⟨_, c1, c2, _⟩ | ⟨c0, c1, c2, c3⟩ | ⟨_, c1, c2, _⟩ | ⟨c0, c1, c2, c3⟩ | ⟨c0, c1, c2, c3⟩ | ⟨c0, c1, c2⟩
    · exact absurd ⟨c1, c2⟩ n11
    · subst c2
      rcases h6 with ⟨i0, i⟩ | ⟨i0, _⟩ | ⟨i0, _⟩ | ⟨i0, _⟩
      · exact i_add c0 ha hb h3 c3 i
      · exact absurd c0 (by rw [i0]; decide)
      · exact absurd i0 (by rcases c0 with c | c <;> rw [c] <;> decide)
      · exact absurd i0 (by rcases c0 with c | c <;> rw [c] <;> decide)
    · exact absurd ⟨c1, c2⟩ n11
    · subst c2
      subst c0
      rcases h6 with ⟨i0, _⟩ | ⟨_, i⟩ | ⟨i0, _⟩ | ⟨i0, _⟩
      · exact absurd i0 (by decide)
      · rw [← hsa, ← hsb] at c3
        exact i_mul c3 i
      · exact absurd i0 (by decide)
      · exact absurd i0 (by decide)
    · have o2 : 2 < op := by rcases c0 with c | c | c <;> rw [c] <;> decide
      have kb0 := b0.mpr c1
      have ka1 : 1 < ka := a1 (fun hh => n11 ⟨a0.mp hh, c1⟩)
      have ebv := (rb.2.2.2.1 kb0).2.2
      have sb0 : sb = 0 := by
        rw [kb0] at h5
        exact (sg_0v h5).mpr (by rw [ebv]; exact c2)
      have ss : sa * sb = 0 := by rw [sb0, Int.mul_zero]
      rcases h6 with ⟨i0, _⟩ | ⟨i0, _⟩ | ⟨i0, i1, i2, i3, i4⟩ | ⟨i0, i1, _⟩
      · exact absurd o2 (by omega)
      · exact absurd o2 (by omega)
      · exact ⟨c3.trans i3.symm, No_Cor i4 (by rw [c3]; decide), fun hh => absurd hh (by rw [c3]; decide)⟩
      · exact absurd ⟨ka1, ss⟩ i1
    · have o2 : 2 < op := by rcases c0 with c | c | c <;> rw [c] <;> decide
      rcases c2 with ⟨d1, d2, _⟩ | ⟨d1, d2, d3⟩
      · exact absurd ⟨d1, d2⟩ n11
      · subst d2
        rcases h6 with ⟨i0, _⟩ | ⟨i0, _⟩ | ⟨i0, i1, i2, i3, i4⟩ | ⟨i0, i1, i⟩
        · exact absurd o2 (by omega)
        · exact absurd o2 (by omega)
        · exfalso
          have s0 : sb = 0 := by
            rcases Int.mul_eq_zero.mp i2 with hh | hh
            · exact absurd hh (sg_n0 h4 i1)
            · exact hh
          have kb0 : kb = 0 := sg_k0 h5 s0 bn.2 bn.1
          have ebv := (rb.2.2.2.1 kb0).2.2
          rw [kb0] at h5
          exact c1 ⟨b0.mp kb0, by rw [← ebv]; exact (sg_0v h5).mp s0⟩
        · rcases i with ⟨i2, ⟨i3, i4⟩ | ⟨i3, i4⟩⟩ | ⟨i2, ⟨i3, i4⟩ | ⟨i3, i4⟩⟩
          · rcases d3 with ⟨d3, _⟩ | ⟨_, d3⟩
            · exact absurd d3 (by rw [i2]; decide)
            · unfold RI at d3
              rcases d3 with ⟨d3, _⟩ | ⟨_, d3⟩
              · have := a0.mpr d3; exact absurd i3 (by omega)
              · exact sp_3 i4 d3
          · have ka0 : ka = 0 := by clear ha hb a0 b0 a1 b1 n11 h3; omega
            obtain ⟨e1, e2, e3⟩ := ra.2.2.2.1 ka0
            have e : k1 = 1 ∧ p1 = pA ∧ n1 = nA ∧ v1 = vA := by
              rcases d3 with ⟨d3, _⟩ | ⟨_, d3⟩
              · exact absurd d3 (by rw [i2]; decide)
              · unfold RI at d3
                rcases d3 with ⟨_, d3⟩ | ⟨d3, _⟩
                · exact d3
                · exact absurd (a0.mp ka0) d3
            obtain ⟨r1, r2, r3, r4, r5, r6, r7, r8, r9, r10, r11⟩ := ra
            rw [e3] at i4
            exact kp_fin (z1 := 0) (k1 := k1) (p1 := p1) (n1 := n1) (v1 := v1) i4 rfl r5 (by rw [e1]; exact ⟨r7, r8⟩) (by rw [e1]; exact r11 ka0) (Or.inr ⟨rfl, r6, e.1, e.2.1.trans e1.symm, e.2.2.2, by rw [e.2.2.2, e.2.2.1]; exact r10, fun _ => e.2.2.1.trans e2.symm⟩)
          · have e : k1 = 1 ∧ p1 = 0 ∧ n1 = 0 ∧ v1 = 0 := by
              rcases d3 with ⟨_, d3⟩ | ⟨d3, _⟩
              · unfold DI at d3
                rcases d3 with ⟨_, d3⟩ | ⟨d3, _⟩ | ⟨d3, _⟩
                · exact d3
                · exact absurd (a0.mp i3) d3
                · exact absurd (a0.mp i3) d3
              · exact absurd d3 i2
            exact kp_fin (z1 := 0) (w := 0) i4 (by rw [Int.zero_mul]) (by decide) (by decide) (Int.zero_emod _) (Or.inr ⟨rfl, Tp_pos 56, e.1, e.2.1, e.2.2.2, fun _ => e.2.2.1, fun _ => e.2.2.1⟩)
          · rcases d3 with ⟨_, d3⟩ | ⟨d3, _⟩
            · exact i_div (fun hh => i3 (a0.mpr hh)) b0 b1 (by rw [hsa, hsb]) (fun hh => i1 ⟨a1 i3, hh⟩) d3 i4
            · exact absurd d3 i2
/-- the whole of apply -/
theorem m_apply {op z1 z2 d pA nA vA pB nB vB ka pa na va kb pb nb vb p1 n1 v1 : Int} {k1 KA KB : Nat} {kf sf mf G k' s' m' G' : Int → Int} (hop : 0 ≤ op ∧ op ≤ 5) (ra : RegR KA pA nA vA ka pa na va) (rb : RegR KB pB nB vB kb pb nb vb) (hn1 : n1 = 0 ∨ n1 = 1) (hv1 : 0 ≤ v1)
    (hC : CmR op z1 k1 p1 n1 v1 KA pA nA vA KB pB nB vB) (hM : ApR op z2 d ka kb pa na va pb nb vb kf sf mf G k' s' m' G') : z1 = z2 ∧ Cor z1 d k1 p1 n1 v1 kf sf mf G k' s' m' G' ∧ (z1 = 0 → Okv k1 p1 n1 v1) := by
  have ca := RegR_k ra
  have cb := RegR_k rb
  rcases hM with ⟨h1, h2⟩ | ⟨h1, h2, h3, sa, sb, h4, h5, h6⟩ | ⟨h1, h2, h3, h4, h5, h6⟩ | ⟨h1, h2, h3, h4⟩
  · rcases hC with ⟨_, e1, e2⟩ | ⟨g1, g2, _⟩
    · have hz := h2.1
      rw [e1]
      exact ⟨hz.symm, Sp_Cor h2 (by rw [e2]; decide) (by omega), fun _ => Okv_n (by omega)⟩
    · omega
  · exact m_inf ra rb (by clear cb h3; omega) (by clear ca h3; omega) h3 h4 h5 h6 hC
  · have e := (rb.2.2.2.1 h2).2.2
    rcases hC with ⟨g1, _⟩ | ⟨g1, g2, hC⟩
    · omega
    · rcases hC with ⟨c0, _⟩ | ⟨c0, _⟩ | ⟨c0, _⟩ | ⟨c0, _⟩ | ⟨c0, c1, c2, c3⟩ | ⟨c0, c1, c2⟩
      · omega
      · omega
      · omega
      · omega
      · exact ⟨by omega, No_Cor h6 (by omega), fun hh => by omega⟩
      · exact absurd ⟨by omega, by omega⟩ c1
  · -- both finite
    obtain ⟨r1, r2, r3, r4, r5, r6, r7, r8, r9, r10, r11⟩ := ra
    obtain ⟨q1, q2, q3, q4, q5, q6, q7, q8, q9, q10, q11⟩ := rb
    obtain ⟨rfl, rfl, rfl⟩ := r4 h1
    obtain ⟨rfl, rfl, rfl⟩ := q4 h2
    have mA := r11 h1
    have mB := q11 h2
    have wA : ∀ M : Int, pa ≤ M → M ≤ 24 → va % Tp (24 - M) = 0 := fun M g1 g2 => md_w mA (by omega) (by omega)
    have wB : ∀ M : Int, pb ≤ M → M ≤ 24 → vb % Tp (24 - M) = 0 := fun M g1 g2 => md_w mB (by omega) (by omega)
    rcases hC with ⟨g1, _⟩ | ⟨g1, g2, hC⟩
    · omega
    · rcases h4 with ⟨o, n, X, x1, x2, x3⟩ | ⟨o, x⟩ | ⟨o, wa, wb, la, lb, P, x1, x2, x3, x4, x5, x6⟩ | ⟨o, x⟩ | ⟨o, x⟩
      · rcases hC with ⟨_, c1, c2, a1, a2, a3, a4, a5⟩ | ⟨_, c1, _⟩ | ⟨c0, _⟩ | ⟨c0, _⟩ | ⟨c0, _⟩ | ⟨c0, _⟩
        · exact m_add o q9 hn1 hv1 (by omega) (wA _ (by omega) (by omega)) (wB _ (by omega) (by omega)) a1 a2 a3 a4 a5 x2 x3
        · omega
        · omega
        · omega
        · omega
        · omega
      · rcases hC with ⟨c0, _⟩ | ⟨c0, _⟩ | ⟨_, c1, c2, c3⟩ | ⟨_, c1, _⟩ | ⟨c0, _⟩ | ⟨c0, _⟩
        · omega
        · omega
        · exact m_mul r5 q5 (by omega) c3 x
        · omega
        · omega
        · omega
      · rcases hC with ⟨c0, _⟩ | ⟨c0, _⟩ | ⟨c0, _⟩ | ⟨c0, _⟩ | ⟨_, c1, c2, _⟩ | ⟨_, c1, c2⟩
        · omega
        · omega
        · omega
        · omega
        · omega
        · rcases c2 with ⟨_, _, ⟨_, wa', wb', la', lb', y1, y2, y3, y4, y5⟩ | ⟨c, _⟩ | ⟨c, _⟩⟩ | ⟨c, _⟩
          · rw [Wt_u y1 x1, Wt_u y2 x2, Ld_u y3 x3, Ld_u y4 x4, ← x5] at y5
            have pdi := pd_in (wa := wa) (wb := wb) (la := la) (lb := lb) (pl := pa) (po := pb) ⟨r7, r8⟩
            rw [← x5] at pdi
            exact m_div r5 (by omega) pdi y5 x6
          · omega
          · omega
          · omega
      · rcases hC with ⟨c0, _⟩ | ⟨c0, _⟩ | ⟨c0, _⟩ | ⟨c0, _⟩ | ⟨_, c1, c2, _⟩ | ⟨_, c1, c2⟩
        · omega
        · omega
        · omega
        · omega
        · omega
        · rcases c2 with ⟨_, _, ⟨c, _⟩ | ⟨_, y⟩ | ⟨c, _⟩⟩ | ⟨c, _⟩
          · omega
          · exact m_quo r5 (by omega) y x
          · omega
          · omega
      · rcases hC with ⟨c0, _⟩ | ⟨c0, _⟩ | ⟨c0, _⟩ | ⟨c0, _⟩ | ⟨_, c1, c2, _⟩ | ⟨_, c1, c2⟩
        · omega
        · omega
        · omega
        · omega
        · omega
        · rcases c2 with ⟨_, _, ⟨c, _⟩ | ⟨c, _⟩ | ⟨_, y⟩⟩ | ⟨c, _⟩
          · omega
          · omega
          · exact m_rem r5 (by omega) (by omega) (wA _ (by omega) (by omega)) (wB _ (by omega) (by omega)) y x
          · omega
