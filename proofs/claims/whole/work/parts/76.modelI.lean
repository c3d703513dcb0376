theorem nx_M_average_0 {g : Nat}  : g + 9 ≠ g := by omega
theorem nx_M_average_1 {g : Nat}  : g + 9 ≠ g + 11 := by omega
theorem nx_M_average_2 {g : Nat}  : g + 9 ≠ g + 1 := by omega
theorem nx_M_average_3 {g : Nat}  : g + 9 ≠ g + 2 := by omega
theorem nx_M_average_4 {g : Nat}  : g + 9 ≠ g + 3 := by omega
theorem nx_M_average_5 {g : Nat}  : g + 9 ≠ g + 4 := by omega
theorem nx_M_average_6 {g : Nat}  : g + 10 ≠ g := by omega
theorem nx_M_average_7 {g : Nat}  : g + 10 ≠ g + 11 := by omega
theorem nx_M_average_8 {g : Nat}  : g + 10 ≠ g + 1 := by omega
theorem nx_M_average_9 {g : Nat}  : g + 10 ≠ g + 2 := by omega
theorem nx_M_average_10 {g : Nat}  : g + 10 ≠ g + 3 := by omega
theorem nx_M_average_11 {g : Nat}  : g + 10 ≠ g + 4 := by omega
theorem nx_M_average_12 {g : Nat}  : g + 12 ≠ g := by omega
theorem nx_M_average_13 {g : Nat}  : g + 12 ≠ g + 11 := by omega
theorem nx_M_average_14 {g : Nat}  : g + 12 ≠ g + 1 := by omega
theorem nx_M_average_15 {g : Nat}  : g + 12 ≠ g + 2 := by omega
theorem nx_M_average_16 {g : Nat}  : g + 12 ≠ g + 3 := by omega
theorem nx_M_average_17 {g : Nat}  : g + 12 ≠ g + 4 := by omega
theorem nx_M_average_18 {g : Nat}  : g + 6 ≠ g := by omega
theorem nx_M_average_19 {g : Nat}  : g + 6 ≠ g + 11 := by omega
theorem nx_M_average_20 {g : Nat}  : g + 6 ≠ g + 1 := by omega
theorem nx_M_average_21 {g : Nat}  : g + 6 ≠ g + 2 := by omega
theorem nx_M_average_22 {g : Nat}  : g + 6 ≠ g + 3 := by omega
theorem nx_M_average_23 {g : Nat}  : g + 6 ≠ g + 4 := by omega
theorem nx_M_average_24 {g : Nat}  : g + 8 ≠ g := by omega
theorem nx_M_average_25 {g : Nat}  : g + 8 ≠ g + 11 := by omega
theorem nx_M_average_26 {g : Nat}  : g + 8 ≠ g + 1 := by omega
theorem nx_M_average_27 {g : Nat}  : g + 8 ≠ g + 2 := by omega
theorem nx_M_average_28 {g : Nat}  : g + 8 ≠ g + 3 := by omega
theorem nx_M_average_29 {g : Nat}  : g + 8 ≠ g + 4 := by omega
theorem nx_M_average_30 {g : Nat}  : g + 10 ≠ g + 9 := by omega
theorem nx_M_average_31 {g : Nat}  : g + 11 ≠ g := by omega
theorem nx_M_average_32 {g : Nat}  : g + 11 ≠ g + 9 := by omega
theorem nx_M_average_33 {g : Nat}  : g + 12 ≠ g + 9 := by omega
theorem nx_M_average_34 {g : Nat}  : g + 6 ≠ g + 9 := by omega
theorem nx_M_average_35 {g : Nat}  : g + 8 ≠ g + 9 := by omega
theorem nx_M_average_36 {g : Nat}  : g + 1 ≠ g := by omega
theorem nx_M_average_37 {g : Nat}  : g + 1 ≠ g + 9 := by omega
theorem nx_M_average_38 {g : Nat}  : g + 2 ≠ g := by omega
theorem nx_M_average_39 {g : Nat}  : g + 2 ≠ g + 9 := by omega
theorem nx_M_average_40 {g : Nat}  : g + 3 ≠ g := by omega
theorem nx_M_average_41 {g : Nat}  : g + 3 ≠ g + 9 := by omega
theorem nx_M_average_42 {g : Nat}  : g + 4 ≠ g := by omega
theorem nx_M_average_43 {g : Nat}  : g + 4 ≠ g + 9 := by omega
theorem nx_M_average_44 {g : Nat}  : g + 9 ≠ g + 12 := by omega
theorem nx_M_average_45 {g : Nat}  : g + 10 ≠ g + 12 := by omega
theorem nx_M_average_46 {g : Nat}  : g + 6 ≠ g + 12 := by omega
theorem nx_M_average_47 {g : Nat}  : g + 8 ≠ g + 12 := by omega
theorem nx_M_average_48 {g : Nat}  : g ≠ g + 10 := by omega
theorem nx_M_average_49 {g : Nat}  : g + 9 ≠ g + 10 := by omega
theorem nx_M_average_50 {g : Nat}  : g + 11 ≠ g + 10 := by omega
theorem nx_M_average_51 {g : Nat}  : g + 12 ≠ g + 10 := by omega
theorem nx_M_average_52 {g : Nat}  : g + 6 ≠ g + 10 := by omega
theorem nx_M_average_53 {g : Nat}  : g + 8 ≠ g + 10 := by omega
theorem nx_M_average_54 {g : Nat}  : g + 1 ≠ g + 10 := by omega
theorem nx_M_average_55 {g : Nat}  : g + 2 ≠ g + 10 := by omega
theorem nx_M_average_56 {g : Nat}  : g + 3 ≠ g + 10 := by omega
theorem nx_M_average_57 {g : Nat}  : g + 4 ≠ g + 10 := by omega
def rm_M_average : Room := { frames := 6, cells := 0, slots := 0, locals := 139 }
set_option maxHeartbeats 4000000 in
set_option maxRecDepth 100000 in
theorem c_M_average (l : Launch) (E : zE) (w0 : zW) (g : Nat) (ty xm ym ne : Int) (xf yf f rf su cn kf mf sf G : Int → Int) (sz : Int → Int) (d k : Int) (q0lt : g < zn E) (q1lt : g + 9 < zn E) (q2lt : g + 10 < zn E) (q3lt : g + 11 < zn E) (q4lt : g + 12 < zn E) (q5lt : g + 6 < zn E) (q6lt : g + 8 < zn E) (q7lt : g + 1 < zn E) (q8lt : g + 2 < zn E) (q9lt : g + 3 < zn E) (q10lt : g + 4 < zn E) (c0 : w0 g = .inr (6, [.ref (ad E (g + 1)), .ref (ad E (g + 2)), .ref (ad E (g + 3)), .ref (ad E (g + 4)), .int (iI ty), .ref (ad E (g + 5)), .ref (ad E (g + 6)), .ref (ad E (g + 7)), .ref (ad E (g + 8)), .ref (ad E (g + 9)), .ref (ad E (g + 10)), .int (iI xm), .int (iI ym), .ref (ad E (g + 11)), .int (iI ne), .ref (ad E (g + 12)), .ref (ad E (g + 13))])) (c1 : w0 (g + 9) = zar E 56 xf) (c2 : w0 (g + 10) = zar E 56 yf) (c3 : w0 (g + 11) = zar E 140 f) (c4 : w0 (g + 12) = zar E 58 rf) (c5 : w0 (g + 6) = zar E 224 su) (c6 : w0 (g + 8) = zar E 112 cn) (c7 : w0 (g + 1) = zar E 8 kf) (c8 : w0 (g + 2) = zaz E 8 mf) (c9 : w0 (g + 3) = zar E 8 sf) (c10 : w0 (g + 4) = zar E 448 G) (bx : bd xf 56 0 9) (by1 : bd yf 56 0 9) (bf : bd f 140 0 9) (br : bd rf 58 0 9) (bk : bd kf 8 0 3) (bm : bd mf 8 0 1) (bs : bd sf 8 0 24) (bG : bd G 448 0 9) (hB : SuB su sz) (bsz : bd sz 4 0 1000) (bcn : bd cn 112 0 1000) (hxm : xm = 0 ∨ xm = 1) (hym : ym = 0 ∨ ym = 1) (hne : ne = 0 ∨ ne = 1) (hd : 0 ≤ d ∧ d < 8) (hk0 : 0 ≤ k ∧ k < 4) (hcs : Sm (fun j => cn (28 * k + j)) 28 ≤ 1000) : zM l y_M_average ws_M_average rm_M_average E [.ref (ad E g), .int (iI d), .int (iI k)] w0 (zQi E w0 (fun z w' => (∃ (u' : Int) (v' : Int) (n' : Int) (x' : Int → Int) (y' : Int → Int) (f' : Int → Int) (r' : Int → Int) (k' : Int → Int) (m' : Int → Int) (s' : Int → Int) (G' : Int → Int), w' g = .inr (6, [.ref (ad E (g + 1)), .ref (ad E (g + 2)), .ref (ad E (g + 3)), .ref (ad E (g + 4)), .int (iI ty), .ref (ad E (g + 5)), .ref (ad E (g + 6)), .ref (ad E (g + 7)), .ref (ad E (g + 8)), .ref (ad E (g + 9)), .ref (ad E (g + 10)), .int (iI u'), .int (iI v'), .ref (ad E (g + 11)), .int (iI n'), .ref (ad E (g + 12)), .ref (ad E (g + 13))]) ∧ w' (g + 9) = zar E 56 x' ∧ w' (g + 10) = zar E 56 y' ∧ w' (g + 11) = zar E 140 f' ∧ w' (g + 12) = zar E 58 r' ∧ w' (g + 1) = zar E 8 k' ∧ w' (g + 2) = zaz E 8 m' ∧ w' (g + 3) = zar E 8 s' ∧ w' (g + 4) = zar E 448 G' ∧ bd x' 56 0 9 ∧ bd y' 56 0 9 ∧ bd f' 140 0 9 ∧ bd r' 58 0 9 ∧ bd k' 8 0 3 ∧ bd m' 8 0 1 ∧ bd s' 8 0 24 ∧ bd G' 448 0 9 ∧ ((u' = 0 ∨ u' = 1) ∧ (v' = 0 ∨ v' = 1) ∧ (n' = 0 ∨ n' = 1) ∧ ∃ (z1 : Int) (k1 s1 m1 G1 : Int → Int), bd k1 8 0 3 ∧ bd m1 8 0 1 ∧ bd s1 8 0 24 ∧ bd G1 448 0 9 ∧ ((z1 = -6 ∧ Sm (fun j => cn (28 * k + j)) 28 = 0 ∧ NoR kf sf mf G k1 s1 m1 G1) ∨ (Sm (fun j => cn (28 * k + j)) 28 ≠ 0 ∧ RsR z1 d (cn (28 * k + 25)) (cn (28 * k + 26)) (cn (28 * k + 27)) (Gt su k) (fun j => cn (28 * k + j)) kf sf mf G k1 s1 m1 G1)) ∧ (((z1 ≠ 0 ∨ k1 d ≠ 0) ∧ z = z1 ∧ NoR k1 s1 m1 G1 k' s' m' G') ∨ (z1 = 0 ∧ k1 d = 0 ∧ 0 < Sm (fun j => cn (28 * k + j)) 28 ∧ ∃ wa wb la lb P : Int, Wt (Gt G1 d) wa ∧ Wt (Sm (fun j => cn (28 * k + j)) 28 * Tp 24) wb ∧ Ld (Gt G1 d) la ∧ Ld (Sm (fun j => cn (28 * k + j)) 28 * Tp 24) lb ∧ P = pd wa wb la lb (s1 d) 0 ∧ KpR z d P (dif (m1 d) 0) (Rn (Gt G1 d * Tp (P + 1) / (Sm (fun j => cn (28 * k + j)) 28 * Tp 24) * Tp (48 - (P + 1))) (48 - P)) k1 s1 m1 G1 k' s' m' G')))) ∧ ∀ k, k ≠ g → k ≠ (g + 9) → k ≠ (g + 10) → k ≠ (g + 11) → k ≠ (g + 12) → k ≠ (g + 1) → k ≠ (g + 2) → k ≠ (g + 3) → k ≠ (g + 4) → w' k = w0 k)) := by
  refine z_met (cc := b_M_average) (maxL := 6) (ret := (some .int)) (by decide +kernel) rfl (Nat.le_of_ble_eq_true rfl) ?_
  intro p e s m below meth cd ls a Qf hQ hC hl hH
  obtain ⟨hF, hr, hlk, hK, hG, hn⟩ := hC
  obtain ⟨hx, hb, hml, hown, hts⟩ := hF
  have hg : ∀ w ∈ GW, w.before a s = true := fun w h => hts w (List.mem_cons_of_mem _ h)
  have hA : ∀ q, s.heap.size ≤ q → va_A (wl E w0) s.heap.size q := fun q h => Or.inr h
  have hl : lv_has ls 6 [(0, .ref (ad E g)), (1, .int (iI d)), (2, .int (iI k))] := hl
  refine lv_aload_n hx hb d_M_average_0 rfl (lv_at hl 0 rfl) ?_
  refine lv_iload_n hx hb d_M_average_1 rfl (lv_at hl 1 rfl) ?_
  refine lv_iload_n hx hb d_M_average_2 rfl (lv_at hl 2 rfl) ?_
  refine z_calli (va_runV (As := [.int (iI d), .int (iI k)]) (rest := []) ⟨hx, hb, hml, hown, hts⟩ (c_M_total (l := l) (E := E) (w0 := w0) (g := g) (ty := ty) (xm := xm) (ym := ym) (ne := ne) (f := f) (su := su) (cn := cn) (kf := kf) (mf := mf) (sf := sf) (G := G) (sz := sz) (d := d) (k := k) (q0lt := q0lt) (q1lt := q3lt) (q2lt := q5lt) (q3lt := q6lt) (q4lt := q7lt) (q5lt := q8lt) (q6lt := q9lt) (q7lt := q10lt) (c0 := c0) (c1 := c3) (c2 := c5) (c3 := c6) (c4 := c7) (c5 := c8) (c6 := c9) (c7 := c10) (bk := bk) (bm := bm) (bs := bs) (bG := bG) (hB := by omega) (bsz := by omega) (bcn := bcn) (hne := by omega) (hd := by omega) (hk0 := by omega) (bf := by omega) s.heap.size) (z_cwV (C := "ScaledNumeralDeskModel") 2 hg wm_979 wm_989 wm_9 wm_977 wm_978 (by decide +kernel) ⟨Nat.le_of_ble_eq_true rfl, Nat.le_of_ble_eq_true rfl⟩) (z_preV (r := ("ScaledNumeralDeskModel", TM, 17)) hK hG hn hH hA q0lt c0 rfl) rfl rfl hl.1 rfl (lv_room (Nat.le_of_ble_eq_true rfl)) d_M_average_3 ⟨Nat.zero_le _, Nat.zero_le _⟩) hH hA (fun z1 w3 H1 lc2 hH4 p3 => ?_)
  obtain ⟨⟨n1, f1, k1, m1, s1, G1, e5, e6, e7, e8, e9, e10, bd11, bd12, bd13, bd14, bd15, p3⟩, hg16⟩ := p3
  replace bd11 : bd f1 140 0 9 := bd11
  replace bd12 : bd k1 8 0 3 := bd12
  replace bd13 : bd m1 8 0 1 := bd13
  replace bd14 : bd s1 8 0 24 := bd14
  replace bd15 : bd G1 448 0 9 := bd15
  replace p3 : (n1 = 0 ∨ n1 = 1) ∧ ((z1 = -6 ∧ Sm (fun j => cn (28 * k + j)) 28 = 0 ∧ NoR kf sf mf G k1 s1 m1 G1) ∨ (Sm (fun j => cn (28 * k + j)) 28 ≠ 0 ∧ RsR z1 d (cn (28 * k + 25)) (cn (28 * k + 26)) (cn (28 * k + 27)) (Gt su k) (fun j => cn (28 * k + j)) kf sf mf G k1 s1 m1 G1)) := p3
  have e17 : w3 (g + 9) = zar E 56 xf := (hg16 (g + 9) (nx_M_average_0 ) (nx_M_average_1 ) (nx_M_average_2 ) (nx_M_average_3 ) (nx_M_average_4 ) (nx_M_average_5 )).trans c1
  have e18 : w3 (g + 10) = zar E 56 yf := (hg16 (g + 10) (nx_M_average_6 ) (nx_M_average_7 ) (nx_M_average_8 ) (nx_M_average_9 ) (nx_M_average_10 ) (nx_M_average_11 )).trans c2
  have e19 : w3 (g + 12) = zar E 58 rf := (hg16 (g + 12) (nx_M_average_12 ) (nx_M_average_13 ) (nx_M_average_14 ) (nx_M_average_15 ) (nx_M_average_16 ) (nx_M_average_17 )).trans c4
  have e20 : w3 (g + 6) = zar E 224 su := (hg16 (g + 6) (nx_M_average_18 ) (nx_M_average_19 ) (nx_M_average_20 ) (nx_M_average_21 ) (nx_M_average_22 ) (nx_M_average_23 )).trans c5
  have e21 : w3 (g + 8) = zar E 112 cn := (hg16 (g + 8) (nx_M_average_24 ) (nx_M_average_25 ) (nx_M_average_26 ) (nx_M_average_27 ) (nx_M_average_28 ) (nx_M_average_29 )).trans c6
  have hf22 : ∀ k, k ≠ g → k ≠ (g + 11) → k ≠ (g + 1) → k ≠ (g + 2) → k ≠ (g + 3) → k ≠ (g + 4) → w3 k = w0 k := fun k g0 g1 g2 g3 g4 g5 => hg16 k g0 g1 g2 g3 g4 g5
  have bk1 : bd k1 8 0 3 := by assumption
  have bm1 : bd m1 8 0 1 := by assumption
  have bs1 : bd s1 8 0 24 := by assumption
  have bG1 : bd G1 448 0 9 := by assumption
  have bk1d := bk1 d hd.1 hd.2
  have bm1d := bm1 d hd.1 hd.2
  have bs1d := bs1 d hd.1 hd.2
  have hm1d : m1 d = 0 ∨ m1 d = 1 := by omega
  have z1r : -10 ≤ z1 ∧ z1 ≤ 10 := by rcases p3.2 with h8 | h8; omega; unfold RsR SpR KpR at h8; rcases h8.2 with h7 | h7 | h7 | ⟨_, _, _, _, _, _, _, _, _, _, _, _, h7⟩; omega; omega; omega; omega
  refine lv_istore_n (lv' := [(3, .int (iI z1)), (0, .ref (ad E g)), (1, .int (iI d)), (2, .int (iI k))]) hx hb d_M_average_6 rfl hl (by decide) rfl (fun ls hl => ?_)
  have L20 : ∀  (ls : Array Slot) (H23 : Heap) (lc24 : List Loc), (lv_has ls 6 [(3, .int (iI z1)), (0, .ref (ad E g)), (1, .int (iI d)), (2, .int (iI k))]) → (zH E w3 (va_A (wl E w0) s.heap.size) s.heap H23 lc24) → (z1 ≠ 0 ∨ k1 d ≠ 0) → W p l e rm_M_average s m a below meth cd H23 lc24 0 0 Qf (F0 m 20 ls []) := by
    intro ls H23 lc24 hl hH h20
    refine lv_iload_n hx hb d_M_average_20 rfl (lv_at hl 0 rfl) ?_
    rw [hQ]
    exact z_iret hx hb hr hlk hH (⟨⟨xm, ym, n1, xf, yf, f1, rf, k1, m1, s1, G1, e5, e17, e18, e6, e19, e7, e8, e9, e10, bx, by1, bd11, br, bd12, bd13, bd14, bd15, ⟨hxm, hym, p3.1, z1, k1, s1, m1, G1, bk1, bm1, bs1, bG1, p3.2, Or.inl ⟨h20, rfl, rfl, rfl, rfl, rfl⟩⟩⟩, (fun k g0 g1 g2 g3 g4 g5 g6 g7 g8 => hf22 k g0 g3 g5 g6 g7 g8)⟩) d_M_average_21
  refine lv_iload_n hx hb d_M_average_7 rfl (lv_at hl 0 rfl) ?_
  refine zv_if_ne (tgt := 20) hx hb d_M_average_8 rfl (by omega) (fun h25 => ?_) (fun h25 => ?_)
  · exact L20 _ H1 lc2 (lv_sub hl [0, 1, 2, 3] rfl) hH4 (by omega)
  · refine lv_aload_n hx hb d_M_average_11 rfl (lv_at hl 1 rfl) ?_
    refine zv_get (C := "ScaledNumeralDeskModel") (T := TM) (N := 17) hx hb hg uM_in hown hK hH4 q0lt e5 rfl 0 (by decide) (hg _ wm_682) (fun _ h9 => h9) rfl d_M_average_12 ?_
    refine lv_iload_n hx hb d_M_average_15 rfl (lv_at hl 2 rfl) ?_
    refine zv_iald hx hb hK hH4 q7lt e7 (by omega) (by omega) (by omega) d_M_average_16 ?_
    have b26 := bd12 d (by omega) (by omega)
    refine zv_if_eq (tgt := 22) hx hb d_M_average_17 rfl (by omega) (fun h27 => ?_) (fun h27 => ?_)
    · have hnz : Sm (fun j => cn (28 * k + j)) 28 ≠ 0 := by rcases p3.2 with h8 | h8; omega; exact h8.1
      refine lv_aload_n hx hb d_M_average_22 rfl (lv_at hl 1 rfl) ?_
      refine lv_iload_n hx hb d_M_average_23 rfl (lv_at hl 2 rfl) ?_
      refine z_callv (va_runV (As := [.int (iI d)]) (rest := []) ⟨hx, hb, hml, hown, hts⟩ (c_M_takeX (l := l) (E := E) (w0 := w3) (g := g) (ty := ty) (xm := xm) (ym := ym) (ne := n1) (mf := m1) (G := G1) (xf := xf) (r := d) (q0lt := q0lt) (q1lt := q8lt) (q2lt := q10lt) (q3lt := q1lt) (c0 := e5) (c1 := e8) (c2 := e10) (c3 := e17) (bm := bd13) (bG := bd15) (hr0 := by omega) H1.size) (z_cwV (C := "ScaledNumeralDeskModel") 1 hg wm_847 wm_844 wm_9 wm_846 wm_s50 (by decide +kernel) ⟨Nat.le_of_ble_eq_true rfl, Nat.le_of_ble_eq_true rfl⟩) (z_preV (r := ("ScaledNumeralDeskModel", TM, 17)) hK hG hn hH4 hA q0lt e5 rfl) rfl rfl hl.1 rfl (lv_room (Nat.le_of_ble_eq_true rfl)) d_M_average_24 ⟨Nat.zero_le _, Nat.zero_le _⟩) hH4 hA (fun  w30 H28 lc29 hH31 p24 => ?_)
      obtain ⟨⟨x1, e32, e33, bd34, p24⟩, hg35⟩ := p24
      replace bd34 : bd x1 56 0 9 := bd34
      replace p24 : Vt x1 56 = Gt G1 d := p24
      have e36 : w30 (g + 10) = zar E 56 yf := (hg35 (g + 10) (nx_M_average_6 ) (nx_M_average_30 )).trans e18
      have e37 : w30 (g + 11) = zar E 140 f1 := (hg35 (g + 11) (nx_M_average_31 ) (nx_M_average_32 )).trans e6
      have e38 : w30 (g + 12) = zar E 58 rf := (hg35 (g + 12) (nx_M_average_12 ) (nx_M_average_33 )).trans e19
      have e39 : w30 (g + 6) = zar E 224 su := (hg35 (g + 6) (nx_M_average_18 ) (nx_M_average_34 )).trans e20
      have e40 : w30 (g + 8) = zar E 112 cn := (hg35 (g + 8) (nx_M_average_24 ) (nx_M_average_35 )).trans e21
      have e41 : w30 (g + 1) = zar E 8 k1 := (hg35 (g + 1) (nx_M_average_36 ) (nx_M_average_37 )).trans e7
      have e42 : w30 (g + 2) = zaz E 8 m1 := (hg35 (g + 2) (nx_M_average_38 ) (nx_M_average_39 )).trans e8
      have e43 : w30 (g + 3) = zar E 8 s1 := (hg35 (g + 3) (nx_M_average_40 ) (nx_M_average_41 )).trans e9
      have e44 : w30 (g + 4) = zar E 448 G1 := (hg35 (g + 4) (nx_M_average_42 ) (nx_M_average_43 )).trans e10
      have hf45 : ∀ k, k ≠ g → k ≠ (g + 11) → k ≠ (g + 1) → k ≠ (g + 2) → k ≠ (g + 3) → k ≠ (g + 4) → k ≠ (g + 9) → w30 k = w0 k := fun k g0 g1 g2 g3 g4 g5 g6 => (hg35 k g0 g6).trans (hf22 k g0 g1 g2 g3 g4 g5)
      refine lv_aload_n hx hb d_M_average_27 rfl (lv_at hl 1 rfl) ?_
      refine lv_iload_n hx hb d_M_average_28 rfl (lv_at hl 3 rfl) ?_
      refine z_calli (va_runV (As := [.int (iI k)]) (rest := []) ⟨hx, hb, hml, hown, hts⟩ (c_M_count (l := l) (E := E) (w0 := w30) (g := g) (ty := ty) (xm := m1 d) (ym := ym) (ne := n1) (cn := cn) (k := k) (q0lt := q0lt) (q1lt := q6lt) (c0 := e32) (c1 := e40) (bcn := bcn) (hk0 := by omega) H28.size) (z_cwV (C := "ScaledNumeralDeskModel") 1 hg wm_975 wm_980 wm_9 wm_973 wm_974 (by decide +kernel) ⟨Nat.le_of_ble_eq_true rfl, Nat.le_of_ble_eq_true rfl⟩) (z_preV (r := ("ScaledNumeralDeskModel", TM, 17)) hK hG hn hH31 hA q0lt e32 rfl) rfl rfl hl.1 rfl (lv_room (Nat.le_of_ble_eq_true rfl)) d_M_average_29 ⟨Nat.zero_le _, Nat.zero_le _⟩) hH31 hA (fun nc w48 H46 lc47 hH49 p29 => ?_)
      obtain ⟨ew50, p29⟩ := p29
      rw [ew50] at hH49
      replace p29 : nc = Sm (fun j => cn (28 * k + j)) 28 ∧ 0 ≤ nc ∧ nc ≤ 28000 := p29
      have n1000 : nc ≤ 1000 := by rw [p29.1]; exact hcs
      refine lv_istore (lv' := [(4, .int (iI nc)), (3, .int (iI z1)), (0, .ref (ad E g)), (1, .int (iI d)), (2, .int (iI k))]) hx hb d_M_average_32 hl (by decide) rfl (fun ls hl => ?_)
      refine lv_aload_n hx hb d_M_average_34 rfl (lv_at hl 2 rfl) ?_
      refine zv_iconst hx hb d_M_average_35 ?_
      refine zv_put (C := "ScaledNumeralDeskModel") (T := TM) (N := 17) (fs' := [.ref (ad E (g + 1)), .ref (ad E (g + 2)), .ref (ad E (g + 3)), .ref (ad E (g + 4)), .int (iI ty), .ref (ad E (g + 5)), .ref (ad E (g + 6)), .ref (ad E (g + 7)), .ref (ad E (g + 8)), .ref (ad E (g + 9)), .ref (ad E (g + 10)), .int (iI (m1 d)), .int (iI 0), .ref (ad E (g + 11)), .int (iI n1), .ref (ad E (g + 12)), .ref (ad E (g + 13))]) hx hb hg uM_in tyM tyM_ok nmM hown hK hH49 q0lt e32 rfl 12 (by decide) (hg _ wm_694) (fun _ h9 => h9) rfl (ty := tyM 12) (by decide +kernel) (by rfl) (by rfl) (Nat.le_of_ble_eq_true rfl) d_M_average_36 rfl (fun H52 lc53 w51 hH54 e55 hg56 => ?_)
      have e57 : w51 (g + 9) = zar E 56 x1 := (hg56 (g + 9) (nx_M_average_0 )).trans e33
      have e58 : w51 (g + 10) = zar E 56 yf := (hg56 (g + 10) (nx_M_average_6 )).trans e36
      have e59 : w51 (g + 11) = zar E 140 f1 := (hg56 (g + 11) (nx_M_average_31 )).trans e37
      have e60 : w51 (g + 12) = zar E 58 rf := (hg56 (g + 12) (nx_M_average_12 )).trans e38
      have e61 : w51 (g + 6) = zar E 224 su := (hg56 (g + 6) (nx_M_average_18 )).trans e39
      have e62 : w51 (g + 8) = zar E 112 cn := (hg56 (g + 8) (nx_M_average_24 )).trans e40
      have e63 : w51 (g + 1) = zar E 8 k1 := (hg56 (g + 1) (nx_M_average_36 )).trans e41
      have e64 : w51 (g + 2) = zaz E 8 m1 := (hg56 (g + 2) (nx_M_average_38 )).trans e42
      have e65 : w51 (g + 3) = zar E 8 s1 := (hg56 (g + 3) (nx_M_average_40 )).trans e43
      have e66 : w51 (g + 4) = zar E 448 G1 := (hg56 (g + 4) (nx_M_average_42 )).trans e44
      have hf67 : ∀ k, k ≠ g → k ≠ (g + 11) → k ≠ (g + 1) → k ≠ (g + 2) → k ≠ (g + 3) → k ≠ (g + 4) → k ≠ (g + 9) → w51 k = w0 k := fun k g0 g1 g2 g3 g4 g5 g6 => (hg56 k g0).trans (hf45 k g0 g1 g2 g3 g4 g5 g6)
      refine zv_iconst hx hb d_M_average_39 ?_
      refine lv_istore (lv' := [(5, .int (iI 0)), (4, .int (iI nc)), (3, .int (iI z1)), (0, .ref (ad E g)), (1, .int (iI d)), (2, .int (iI k))]) hx hb d_M_average_40 hl (by decide) rfl (fun ls hl => ?_)
      have L42 : ∀ (fu : Nat) (i : Int) (h : Int → Int) (ls : Array Slot) (H68 : Heap) (lc69 : List Loc) (w70 : zW), (lv_has ls 6 [(0, .ref (ad E g)), (1, .int (iI d)), (2, .int (iI k)), (4, .int (iI nc)), (5, .int (iI i))]) → (zH E w70 (va_A (wl E w0) s.heap.size) s.heap H68 lc69) → (w70 g = .inr (6, [.ref (ad E (g + 1)), .ref (ad E (g + 2)), .ref (ad E (g + 3)), .ref (ad E (g + 4)), .int (iI ty), .ref (ad E (g + 5)), .ref (ad E (g + 6)), .ref (ad E (g + 7)), .ref (ad E (g + 8)), .ref (ad E (g + 9)), .ref (ad E (g + 10)), .int (iI (m1 d)), .int (iI 0), .ref (ad E (g + 11)), .int (iI n1), .ref (ad E (g + 12)), .ref (ad E (g + 13))])) → (w70 (g + 9) = zar E 56 x1) → (w70 (g + 10) = zar E 56 h) → (w70 (g + 11) = zar E 140 f1) → (w70 (g + 12) = zar E 58 rf) → (w70 (g + 6) = zar E 224 su) → (w70 (g + 8) = zar E 112 cn) → (w70 (g + 1) = zar E 8 k1) → (w70 (g + 2) = zaz E 8 m1) → (w70 (g + 3) = zar E 8 s1) → (w70 (g + 4) = zar E 448 G1) → (∀ k, k ≠ g → k ≠ (g + 11) → k ≠ (g + 1) → k ≠ (g + 2) → k ≠ (g + 3) → k ≠ (g + 4) → k ≠ (g + 9) → k ≠ (g + 10) → w70 k = w0 k) → (0 ≤ i ∧ i ≤ 56) → (∀ j : Int, 0 ≤ j → j < i → h j = 0) → (56 - i < (fu : Int)) → W p l e rm_M_average s m a below meth cd H68 lc69 0 0 Qf (F0 m 42 ls []) := by
        intro fu
        induction fu with
        | zero => intro i h ls H68 lc69 w70 hl hH e71 e72 e73 e74 e75 e76 e77 e78 e79 e80 e81 hf82 hi hz hm; exact absurd hm (by omega)
        | succ fu ih =>
          intro i h ls H68 lc69 w70 hl hH e71 e72 e73 e74 e75 e76 e77 e78 e79 e80 e81 hf82 hi hz hm
          refine lv_iload hx hb d_M_average_42 (lv_at hl 4 rfl) ?_
          refine zv_bipush hx hb d_M_average_44 rfl ?_
          refine zv_icmp_ge (tgt := 63) hx hb d_M_average_46 rfl (by omega) (by omega) (fun h83 => ?_) (fun h83 => ?_)
          · refine zv_bipush hx hb d_M_average_63 rfl ?_
            refine lv_istore (lv' := [(5, .int (iI 24)), (0, .ref (ad E g)), (1, .int (iI d)), (2, .int (iI k)), (4, .int (iI nc))]) hx hb d_M_average_65 hl (by decide) rfl (fun ls hl => ?_)
            have L67 : ∀ (fu : Nat) (i2 : Int) (n2 : Int) (h2 : Int → Int) (ls : Array Slot) (H84 : Heap) (lc85 : List Loc) (w86 : zW), (lv_has ls 6 [(0, .ref (ad E g)), (1, .int (iI d)), (2, .int (iI k)), (4, .int (iI n2)), (5, .int (iI i2))]) → (zH E w86 (va_A (wl E w0) s.heap.size) s.heap H84 lc85) → (w86 g = .inr (6, [.ref (ad E (g + 1)), .ref (ad E (g + 2)), .ref (ad E (g + 3)), .ref (ad E (g + 4)), .int (iI ty), .ref (ad E (g + 5)), .ref (ad E (g + 6)), .ref (ad E (g + 7)), .ref (ad E (g + 8)), .ref (ad E (g + 9)), .ref (ad E (g + 10)), .int (iI (m1 d)), .int (iI 0), .ref (ad E (g + 11)), .int (iI n1), .ref (ad E (g + 12)), .ref (ad E (g + 13))])) → (w86 (g + 9) = zar E 56 x1) → (w86 (g + 10) = zar E 56 h2) → (w86 (g + 11) = zar E 140 f1) → (w86 (g + 12) = zar E 58 rf) → (w86 (g + 6) = zar E 224 su) → (w86 (g + 8) = zar E 112 cn) → (w86 (g + 1) = zar E 8 k1) → (w86 (g + 2) = zaz E 8 m1) → (w86 (g + 3) = zar E 8 s1) → (w86 (g + 4) = zar E 448 G1) → (∀ k, k ≠ g → k ≠ (g + 11) → k ≠ (g + 1) → k ≠ (g + 2) → k ≠ (g + 3) → k ≠ (g + 4) → k ≠ (g + 9) → k ≠ (g + 10) → w86 k = w0 k) → (24 ≤ i2 ∧ i2 ≤ 28) → (n2 = nc / Tp (i2 - 24)) → (0 ≤ n2 ∧ n2 ≤ 1000) → (∀ j : Int, 0 ≤ j → j < i2 - 24 → h2 (24 + j) = nc / Tp j % 10) → (∀ j : Int, 0 ≤ j → j < 56 → ¬ (24 ≤ j ∧ j < 28) → h2 j = 0) → (28 - i2 < (fu : Int)) → W p l e rm_M_average s m a below meth cd H84 lc85 0 0 Qf (F0 m 67 ls []) := by
              intro fu
              induction fu with
              | zero => intro i2 n2 h2 ls H84 lc85 w86 hl hH e87 e88 e89 e90 e91 e92 e93 e94 e95 e96 e97 hf98 hi2 hn2 hn3 hd2 hz2 hm; exact absurd hm (by omega)
              | succ fu ih67 =>
                intro i2 n2 h2 ls H84 lc85 w86 hl hH e87 e88 e89 e90 e91 e92 e93 e94 e95 e96 e97 hf98 hi2 hn2 hn3 hd2 hz2 hm
                refine lv_iload hx hb d_M_average_67 (lv_at hl 4 rfl) ?_
                refine zv_bipush hx hb d_M_average_69 rfl ?_
                refine zv_icmp_ge (tgt := 99) hx hb d_M_average_71 rfl (by omega) (by omega) (fun h99 => ?_) (fun h99 => ?_)
                · have by9 : bd h2 56 0 9 := fun j g1 g2 => by
                    by_cases e8 : 24 ≤ j ∧ j < 28
                    · have e7 := hd2 (j - 24) (by omega) (by omega)
                      rw [show 24 + (j - 24) = j by omega] at e7
                      rw [e7]; omega
                    · rw [hz2 j g1 g2 e8]; decide
                  have hY : Vt h2 56 = nc * Tp 24 := y4_D ⟨by omega, by omega⟩ (fun j g1 g2 => hd2 j g1 (by omega)) hz2
                  have nT : 0 < nc * Tp 24 := Int.mul_pos (by omega) (Tp_pos 24)
                  refine lv_aload_n hx hb d_M_average_99 rfl (lv_at hl 0 rfl) ?_
                  refine lv_iload_n hx hb d_M_average_100 rfl (lv_at hl 1 rfl) ?_
                  refine lv_aload_n hx hb d_M_average_101 rfl (lv_at hl 0 rfl) ?_
                  refine zv_get (C := "ScaledNumeralDeskModel") (T := TM) (N := 17) hx hb hg uM_in hown hK hH q0lt e87 rfl 2 (by decide) (hg _ wm_684) (fun _ h9 => h9) rfl d_M_average_102 ?_
                  refine lv_iload_n hx hb d_M_average_105 rfl (lv_at hl 1 rfl) ?_
                  refine zv_iald hx hb hK hH q9lt e96 (by omega) (by omega) (by omega) d_M_average_106 ?_
                  have b100 := bd14 d (by omega) (by omega)
                  refine zv_iconst hx hb d_M_average_107 ?_
                  refine z_calli (va_runV (As := [.int (iI d), .int (iI (s1 d)), .int (iI 0)]) (rest := []) ⟨hx, hb, hml, hown, hts⟩ (c_M_divide (l := l) (E := E) (w0 := w86) (g := g) (ty := ty) (xm := m1 d) (ym := 0) (ne := n1) (xf := x1) (yf := h2) (f := f1) (rf := rf) (kf := k1) (mf := m1) (sf := s1) (G := G1) (d := d) (sa := s1 d) (sb := 0) (q0lt := q0lt) (q1lt := q1lt) (q2lt := q2lt) (q3lt := q3lt) (q4lt := q4lt) (q5lt := q7lt) (q6lt := q8lt) (q7lt := q9lt) (q8lt := q10lt) (c0 := e87) (c1 := e88) (c2 := e89) (c3 := e90) (c4 := e91) (c5 := e94) (c6 := e95) (c7 := e96) (c8 := e97) (bx := bd34) (by1 := by9) (bk := bd12) (bm := bd13) (bs := bd14) (bG := bd15) (hxm := hm1d) (hym := (Or.inl rfl)) (hd := by omega) (hsa := by omega) (hsb := (by decide)) (hD := (by rw [hY]; exact nT)) H84.size) (z_cwV (C := "ScaledNumeralDeskModel") 3 hg wm_875 wm_872 wm_9 wm_874 wm_s57 (by decide +kernel) ⟨Nat.le_of_ble_eq_true rfl, Nat.le_of_ble_eq_true rfl⟩) (z_preV (r := ("ScaledNumeralDeskModel", TM, 17)) hK hG hn hH hA q0lt e87 rfl) rfl rfl hl.1 rfl (lv_room (Nat.le_of_ble_eq_true rfl)) d_M_average_108 ⟨Nat.zero_le _, Nat.zero_le _⟩) hH hA (fun z105 w103 H101 lc102 hH104 p108 => ?_)
                  obtain ⟨⟨n_106, f_107, r_108, k_109, m_110, s_111, x_112, e113, e114, e115, e116, e117, e118, e119, bd120, bd121, bd122, bd123, bd124, bd125, p108⟩, hg126⟩ := p108
                  replace bd120 : bd f_107 140 0 9 := bd120
                  replace bd121 : bd r_108 58 0 9 := bd121
                  replace bd122 : bd k_109 8 0 3 := bd122
                  replace bd123 : bd m_110 8 0 1 := bd123
                  replace bd124 : bd s_111 8 0 24 := bd124
                  replace bd125 : bd x_112 448 0 9 := bd125
                  replace p108 : (n_106 = 0 ∨ n_106 = 1) ∧ ∃ wa wb la lb P : Int, Wt (Vt x1 56) wa ∧ Wt (Vt h2 56) wb ∧ Ld (Vt x1 56) la ∧ Ld (Vt h2 56) lb ∧ P = pd wa wb la lb (s1 d) (0 : Int) ∧ KpR z105 d P (dif (m1 d) (0 : Int)) (Rn (Vt x1 56 * Tp (P + 1) / Vt h2 56 * Tp (48 - (P + 1))) (48 - P)) k1 s1 m1 G1 k_109 s_111 m_110 x_112 := p108
                  have e127 : w103 (g + 9) = zar E 56 x1 := (hg126 (g + 9) (nx_M_average_0 ) (nx_M_average_1 ) (nx_M_average_44 ) (nx_M_average_2 ) (nx_M_average_3 ) (nx_M_average_4 ) (nx_M_average_5 )).trans e88
                  have e128 : w103 (g + 10) = zar E 56 h2 := (hg126 (g + 10) (nx_M_average_6 ) (nx_M_average_7 ) (nx_M_average_45 ) (nx_M_average_8 ) (nx_M_average_9 ) (nx_M_average_10 ) (nx_M_average_11 )).trans e89
                  have e129 : w103 (g + 6) = zar E 224 su := (hg126 (g + 6) (nx_M_average_18 ) (nx_M_average_19 ) (nx_M_average_46 ) (nx_M_average_20 ) (nx_M_average_21 ) (nx_M_average_22 ) (nx_M_average_23 )).trans e92
                  have e130 : w103 (g + 8) = zar E 112 cn := (hg126 (g + 8) (nx_M_average_24 ) (nx_M_average_25 ) (nx_M_average_47 ) (nx_M_average_26 ) (nx_M_average_27 ) (nx_M_average_28 ) (nx_M_average_29 )).trans e93
                  have hf131 : ∀ k, k ≠ g → k ≠ (g + 11) → k ≠ (g + 1) → k ≠ (g + 2) → k ≠ (g + 3) → k ≠ (g + 4) → k ≠ (g + 9) → k ≠ (g + 10) → k ≠ (g + 12) → w103 k = w0 k := fun k g0 g1 g2 g3 g4 g5 g6 g7 g8 => (hg126 k g0 g1 g8 g2 g3 g4 g5).trans (hf98 k g0 g1 g2 g3 g4 g5 g6 g7)
                  rw [hY, p24, p29.1] at p108
                  rw [hQ]
                  exact z_iret hx hb hr hlk hH104 (⟨⟨((m1 d)), ((0 : Int)), n_106, x1, h2, f_107, r_108, k_109, m_110, s_111, x_112, e113, e127, e128, e114, e115, e116, e117, e118, e119, bd34, by9, bd120, bd121, bd122, bd123, bd124, bd125, ⟨hm1d, Or.inl rfl, p108.1, z1, k1, s1, m1, G1, bk1, bm1, bs1, bG1, p3.2, Or.inr ⟨by omega, by omega, by omega, p108.2⟩⟩⟩, (fun k g0 g1 g2 g3 g4 g5 g6 g7 g8 => hf131 k g0 g3 g5 g6 g7 g8 g1 g2 g4)⟩) d_M_average_111
                · refine lv_aload_n hx hb d_M_average_74 rfl (lv_at hl 0 rfl) ?_
                  refine zv_get (C := "ScaledNumeralDeskModel") (T := TM) (N := 17) hx hb hg uM_in hown hK hH q0lt e87 rfl 10 (by decide) (hg _ wm_692) (fun _ h9 => h9) rfl d_M_average_75 ?_
                  refine lv_iload hx hb d_M_average_78 (lv_at hl 4 rfl) ?_
                  refine lv_iload hx hb d_M_average_80 (lv_at hl 3 rfl) ?_
                  refine zv_bipush hx hb d_M_average_82 rfl ?_
                  refine zv_irem hx hb (by omega) (by omega) (by omega) (by omega) d_M_average_84 ?_
                  refine zv_iast hx hb hK hH q2lt e89 (by omega) (by omega) (by omega) d_M_average_85 (fun H133 lc134 w132 hH135 e136 hg137 => ?_)
                  have e138 : w132 g = .inr (6, [.ref (ad E (g + 1)), .ref (ad E (g + 2)), .ref (ad E (g + 3)), .ref (ad E (g + 4)), .int (iI ty), .ref (ad E (g + 5)), .ref (ad E (g + 6)), .ref (ad E (g + 7)), .ref (ad E (g + 8)), .ref (ad E (g + 9)), .ref (ad E (g + 10)), .int (iI (m1 d)), .int (iI 0), .ref (ad E (g + 11)), .int (iI n1), .ref (ad E (g + 12)), .ref (ad E (g + 13))]) := (hg137 g (nx_M_average_48 )).trans e87
                  have e139 : w132 (g + 9) = zar E 56 x1 := (hg137 (g + 9) (nx_M_average_49 )).trans e88
                  have e140 : w132 (g + 11) = zar E 140 f1 := (hg137 (g + 11) (nx_M_average_50 )).trans e90
                  have e141 : w132 (g + 12) = zar E 58 rf := (hg137 (g + 12) (nx_M_average_51 )).trans e91
                  have e142 : w132 (g + 6) = zar E 224 su := (hg137 (g + 6) (nx_M_average_52 )).trans e92
                  have e143 : w132 (g + 8) = zar E 112 cn := (hg137 (g + 8) (nx_M_average_53 )).trans e93
                  have e144 : w132 (g + 1) = zar E 8 k1 := (hg137 (g + 1) (nx_M_average_54 )).trans e94
                  have e145 : w132 (g + 2) = zaz E 8 m1 := (hg137 (g + 2) (nx_M_average_55 )).trans e95
                  have e146 : w132 (g + 3) = zar E 8 s1 := (hg137 (g + 3) (nx_M_average_56 )).trans e96
                  have e147 : w132 (g + 4) = zar E 448 G1 := (hg137 (g + 4) (nx_M_average_57 )).trans e97
                  have hf148 : ∀ k, k ≠ g → k ≠ (g + 11) → k ≠ (g + 1) → k ≠ (g + 2) → k ≠ (g + 3) → k ≠ (g + 4) → k ≠ (g + 9) → k ≠ (g + 10) → w132 k = w0 k := fun k g0 g1 g2 g3 g4 g5 g6 g7 => (hg137 k g7).trans (hf98 k g0 g1 g2 g3 g4 g5 g6 g7)
                  refine lv_iload hx hb d_M_average_86 (lv_at hl 3 rfl) ?_
                  refine zv_bipush hx hb d_M_average_88 rfl ?_
                  refine zv_idiv hx hb (by omega) (by omega) (by omega) (by omega) d_M_average_90 ?_
                  refine lv_istore (lv' := [(4, .int (iI (n2 / 10))), (0, .ref (ad E g)), (1, .int (iI d)), (2, .int (iI k)), (5, .int (iI i2))]) hx hb d_M_average_91 hl (by decide) rfl (fun ls hl => ?_)
                  refine zv_iinc (k := 4) (lv' := [(5, .int (iI (i2 + 1))), (4, .int (iI (n2 / 10))), (0, .ref (ad E g)), (1, .int (iI d)), (2, .int (iI k))]) hx hb d_M_average_93 hl rfl (by decide) rfl (fun ls hl => ?_)
                  refine lv_goto (tgt := 67) hx hb d_M_average_96 rfl ?_
                  exact ih67  (i2 + 1) (n2 / 10) (up h2 i2 (n2 % 10)) _ H133 lc134 w132 (lv_sub hl [2, 3, 4, 1, 0] rfl) hH135 e138 e139 e136 e140 e141 e142 e143 e144 e145 e146 e147 (fun k g0 g1 g2 g3 g4 g5 g6 g7 => hf148 k g0 g1 g2 g3 g4 g5 g6 g7) (by omega) (by exact y4_n hi2.1 hn2) (by omega) (by intro j g1 g2; by_cases e8 : 24 + j = i2; rw [e8, up_at, hn2, show j = i2 - 24 by omega]; rw [up_ne e8]; exact hd2 j g1 (by omega)) (by intro j g1 g2 g3; rw [up_ne (by omega)]; exact hz2 j g1 g2 g3) (by omega)
            exact L67 ((28 - 24 : Int).toNat + 1) 24 nc h _ H68 lc69 w70 (lv_sub hl [1, 2, 3, 4, 0] rfl) hH e71 e72 e73 e74 e75 e76 e77 e78 e79 e80 e81 (fun k g0 g1 g2 g3 g4 g5 g6 g7 => hf82 k g0 g1 g2 g3 g4 g5 g6 g7) (by omega) (by rw [show (24 : Int) - 24 = 0 by decide, Tp_0, Int.ediv_one]) (by omega) (by intro j g1 g2; omega) (by intro j g1 g2 _; exact hz j g1 (by omega)) (by omega)
          · refine lv_aload_n hx hb d_M_average_49 rfl (lv_at hl 0 rfl) ?_
            refine zv_get (C := "ScaledNumeralDeskModel") (T := TM) (N := 17) hx hb hg uM_in hown hK hH q0lt e71 rfl 10 (by decide) (hg _ wm_692) (fun _ h9 => h9) rfl d_M_average_50 ?_
            refine lv_iload hx hb d_M_average_53 (lv_at hl 4 rfl) ?_
            refine zv_iconst hx hb d_M_average_55 ?_
            refine zv_iast hx hb hK hH q2lt e73 (by omega) (by omega) (by omega) d_M_average_56 (fun H150 lc151 w149 hH152 e153 hg154 => ?_)
            have e155 : w149 g = .inr (6, [.ref (ad E (g + 1)), .ref (ad E (g + 2)), .ref (ad E (g + 3)), .ref (ad E (g + 4)), .int (iI ty), .ref (ad E (g + 5)), .ref (ad E (g + 6)), .ref (ad E (g + 7)), .ref (ad E (g + 8)), .ref (ad E (g + 9)), .ref (ad E (g + 10)), .int (iI (m1 d)), .int (iI 0), .ref (ad E (g + 11)), .int (iI n1), .ref (ad E (g + 12)), .ref (ad E (g + 13))]) := (hg154 g (nx_M_average_48 )).trans e71
            have e156 : w149 (g + 9) = zar E 56 x1 := (hg154 (g + 9) (nx_M_average_49 )).trans e72
            have e157 : w149 (g + 11) = zar E 140 f1 := (hg154 (g + 11) (nx_M_average_50 )).trans e74
            have e158 : w149 (g + 12) = zar E 58 rf := (hg154 (g + 12) (nx_M_average_51 )).trans e75
            have e159 : w149 (g + 6) = zar E 224 su := (hg154 (g + 6) (nx_M_average_52 )).trans e76
            have e160 : w149 (g + 8) = zar E 112 cn := (hg154 (g + 8) (nx_M_average_53 )).trans e77
            have e161 : w149 (g + 1) = zar E 8 k1 := (hg154 (g + 1) (nx_M_average_54 )).trans e78
            have e162 : w149 (g + 2) = zaz E 8 m1 := (hg154 (g + 2) (nx_M_average_55 )).trans e79
            have e163 : w149 (g + 3) = zar E 8 s1 := (hg154 (g + 3) (nx_M_average_56 )).trans e80
            have e164 : w149 (g + 4) = zar E 448 G1 := (hg154 (g + 4) (nx_M_average_57 )).trans e81
            have hf165 : ∀ k, k ≠ g → k ≠ (g + 11) → k ≠ (g + 1) → k ≠ (g + 2) → k ≠ (g + 3) → k ≠ (g + 4) → k ≠ (g + 9) → k ≠ (g + 10) → w149 k = w0 k := fun k g0 g1 g2 g3 g4 g5 g6 g7 => (hg154 k g7).trans (hf82 k g0 g1 g2 g3 g4 g5 g6 g7)
            refine zv_iinc (k := 4) (lv' := [(5, .int (iI (i + 1))), (0, .ref (ad E g)), (1, .int (iI d)), (2, .int (iI k)), (4, .int (iI nc))]) hx hb d_M_average_57 hl rfl (by decide) rfl (fun ls hl => ?_)
            refine lv_goto (tgt := 42) hx hb d_M_average_60 rfl ?_
            exact ih  (i + 1) (up h i 0) _ H150 lc151 w149 (lv_sub hl [1, 2, 3, 4, 0] rfl) hH152 e155 e156 e153 e157 e158 e159 e160 e161 e162 e163 e164 (fun k g0 g1 g2 g3 g4 g5 g6 g7 => hf165 k g0 g1 g2 g3 g4 g5 g6 g7) (by omega) (v_step hz) (by omega)
      exact L42 ((56 - 0 : Int).toNat + 1) 0 yf _ H52 lc53 w51 (lv_sub hl [3, 4, 5, 1, 0] rfl) hH54 e55 e57 e58 e59 e60 e61 e62 e63 e64 e65 e66 (fun k g0 g1 g2 g3 g4 g5 g6 g7 => hf67 k g0 g1 g2 g3 g4 g5 g6) (by omega) (by intro j g1 g2; omega) (by omega)
    · exact L20 _ H1 lc2 (lv_sub hl [0, 1, 2, 3] rfl) hH4 (by omega)
