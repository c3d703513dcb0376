theorem nx_M_fit_0 {g : Nat}  : g + 11 ≠ g := by omega
theorem nx_M_fit_1 {g : Nat}  : g + 11 ≠ g + 9 := by omega
theorem nx_M_fit_2 {g : Nat}  : g + 1 ≠ g := by omega
theorem nx_M_fit_3 {g : Nat}  : g + 1 ≠ g + 9 := by omega
theorem nx_M_fit_4 {g : Nat}  : g + 2 ≠ g := by omega
theorem nx_M_fit_5 {g : Nat}  : g + 2 ≠ g + 9 := by omega
theorem nx_M_fit_6 {g : Nat}  : g + 3 ≠ g := by omega
theorem nx_M_fit_7 {g : Nat}  : g + 3 ≠ g + 9 := by omega
theorem nx_M_fit_8 {g : Nat}  : g + 4 ≠ g := by omega
theorem nx_M_fit_9 {g : Nat}  : g + 4 ≠ g + 9 := by omega
theorem nx_M_fit_10 {g : Nat}  : g + 9 ≠ g := by omega
theorem nx_M_fit_11 {g : Nat}  : g + 9 ≠ g + 11 := by omega
theorem nx_M_fit_12 {g : Nat}  : g + 1 ≠ g + 11 := by omega
theorem nx_M_fit_13 {g : Nat}  : g + 2 ≠ g + 11 := by omega
theorem nx_M_fit_14 {g : Nat}  : g + 3 ≠ g + 11 := by omega
theorem nx_M_fit_15 {g : Nat}  : g + 4 ≠ g + 11 := by omega
theorem nx_M_fit_16 {g : Nat}  : g ≠ g + 1 := by omega
theorem nx_M_fit_17 {g : Nat}  : g ≠ g + 2 := by omega
theorem nx_M_fit_18 {g : Nat}  : g ≠ g + 3 := by omega
theorem nx_M_fit_19 {g : Nat}  : g ≠ g + 4 := by omega
theorem nx_M_fit_20 {g : Nat}  : g + 9 ≠ g + 1 := by omega
theorem nx_M_fit_21 {g : Nat}  : g + 9 ≠ g + 2 := by omega
theorem nx_M_fit_22 {g : Nat}  : g + 9 ≠ g + 3 := by omega
theorem nx_M_fit_23 {g : Nat}  : g + 9 ≠ g + 4 := by omega
theorem nx_M_fit_24 {g : Nat}  : g + 11 ≠ g + 1 := by omega
theorem nx_M_fit_25 {g : Nat}  : g + 11 ≠ g + 2 := by omega
theorem nx_M_fit_26 {g : Nat}  : g + 11 ≠ g + 3 := by omega
theorem nx_M_fit_27 {g : Nat}  : g + 11 ≠ g + 4 := by omega
def rm_M_fit : Room := { frames := 3, cells := 0, slots := 0, locals := 68 }
set_option maxHeartbeats 4000000 in
set_option maxRecDepth 100000 in
theorem c_M_fit (l : Launch) (E : zE) (w0 : zW) (g : Nat) (ty xm ym ne : Int) (xf f kf mf sf G : Int → Int) (ra pr sc : Int) (q0lt : g < zn E) (q1lt : g + 9 < zn E) (q2lt : g + 11 < zn E) (q3lt : g + 1 < zn E) (q4lt : g + 2 < zn E) (q5lt : g + 3 < zn E) (q6lt : g + 4 < zn E) (c0 : w0 g = .inr (6, [.ref (ad E (g + 1)), .ref (ad E (g + 2)), .ref (ad E (g + 3)), .ref (ad E (g + 4)), .int (iI ty), .ref (ad E (g + 5)), .ref (ad E (g + 6)), .ref (ad E (g + 7)), .ref (ad E (g + 8)), .ref (ad E (g + 9)), .ref (ad E (g + 10)), .int (iI xm), .int (iI ym), .ref (ad E (g + 11)), .int (iI ne), .ref (ad E (g + 12)), .ref (ad E (g + 13))])) (c1 : w0 (g + 9) = zar E 56 xf) (c2 : w0 (g + 11) = zar E 140 f) (c3 : w0 (g + 1) = zar E 8 kf) (c4 : w0 (g + 2) = zaz E 8 mf) (c5 : w0 (g + 3) = zar E 8 sf) (c6 : w0 (g + 4) = zar E 448 G) (bx : bd xf 56 0 9) (bf : bd f 140 0 9) (bk : bd kf 8 0 3) (bm : bd mf 8 0 1) (bs : bd sf 8 0 24) (bG : bd G 448 0 9) (hxm : xm = 0 ∨ xm = 1) (hym : ym = 0 ∨ ym = 1) (hne : ne = 0 ∨ ne = 1) (hra : 0 ≤ ra ∧ ra < 8) (hpr : 1 ≤ pr ∧ pr ≤ 56) (hsc : -32 ≤ sc ∧ sc ≤ 24) : zM l y_M_fit ws_M_fit rm_M_fit E [.ref (ad E g), .int (iI ra), .int (iI pr), .int (iI sc)] w0 (zQi E w0 (fun z w' => (∃ (u' : Int) (n' : Int) (x' : Int → Int) (f' : Int → Int) (k' : Int → Int) (m' : Int → Int) (s' : Int → Int) (G' : Int → Int), w' g = .inr (6, [.ref (ad E (g + 1)), .ref (ad E (g + 2)), .ref (ad E (g + 3)), .ref (ad E (g + 4)), .int (iI ty), .ref (ad E (g + 5)), .ref (ad E (g + 6)), .ref (ad E (g + 7)), .ref (ad E (g + 8)), .ref (ad E (g + 9)), .ref (ad E (g + 10)), .int (iI u'), .int (iI ym), .ref (ad E (g + 11)), .int (iI n'), .ref (ad E (g + 12)), .ref (ad E (g + 13))]) ∧ w' (g + 9) = zar E 56 x' ∧ w' (g + 11) = zar E 140 f' ∧ w' (g + 1) = zar E 8 k' ∧ w' (g + 2) = zaz E 8 m' ∧ w' (g + 3) = zar E 8 s' ∧ w' (g + 4) = zar E 448 G' ∧ bd x' 56 0 9 ∧ bd f' 140 0 9 ∧ bd k' 8 0 3 ∧ bd m' 8 0 1 ∧ bd s' 8 0 24 ∧ bd G' 448 0 9 ∧ ((u' = 0 ∨ u' = 1) ∧ (n' = 0 ∨ n' = 1) ∧ FtR pr sc z ra (kf ra) (mf ra) (Gt G ra) kf sf mf G k' s' m' G')) ∧ ∀ k, k ≠ g → k ≠ (g + 9) → k ≠ (g + 11) → k ≠ (g + 1) → k ≠ (g + 2) → k ≠ (g + 3) → k ≠ (g + 4) → w' k = w0 k)) := by
  refine z_met (cc := b_M_fit) (maxL := 4) (ret := (some .int)) (by decide +kernel) rfl (Nat.le_of_ble_eq_true rfl) ?_
  intro p e s m below meth cd ls a Qf hQ hC hl hH
  obtain ⟨hF, hr, hlk, hK, hG, hn⟩ := hC
  obtain ⟨hx, hb, hml, hown, hts⟩ := hF
  have hg : ∀ w ∈ GW, w.before a s = true := fun w h => hts w (List.mem_cons_of_mem _ h)
  have hA : ∀ q, s.heap.size ≤ q → va_A (wl E w0) s.heap.size q := fun q h => Or.inr h
  have hl : lv_has ls 4 [(0, .ref (ad E g)), (1, .int (iI ra)), (2, .int (iI pr)), (3, .int (iI sc))] := hl
  have bka := bk ra hra.1 hra.2
  have bma := bm ra hra.1 hra.2
  have bsa := bs ra hra.1 hra.2
  have vga := Gt_in bG hra
  have t24 := T24_lt vga
  have t80 := T80_139
  have t140 : Tp 140 = 10 * Tp 139 := Tp_s (i := 139) (by decide)
  refine lv_aload_n hx hb d_M_fit_0 rfl (lv_at hl 0 rfl) ?_
  refine lv_iload_n hx hb d_M_fit_1 rfl (lv_at hl 1 rfl) ?_
  refine zv_bipush hx hb d_M_fit_2 rfl ?_
  refine z_calli (va_runV (As := [.int (iI ra), .int (iI 7)]) (rest := []) ⟨hx, hb, hml, hown, hts⟩ (c_M_out (l := l) (E := E) (w0 := w0) (g := g) (ty := ty) (xm := xm) (ym := ym) (ne := ne) (v := ra) (mo := 7) (q0lt := q0lt) (c0 := c0) (hv := by omega) (hmo := by omega) s.heap.size) (z_cwV (C := "ScaledNumeralDeskModel") 2 hg wm_746 wm_743 wm_9 wm_745 wm_s29 (by decide +kernel) ⟨Nat.le_of_ble_eq_true rfl, Nat.le_of_ble_eq_true rfl⟩) (z_preV (r := ("ScaledNumeralDeskModel", TM, 17)) hK hG hn hH hA q0lt c0 rfl) rfl rfl hl.1 rfl (lv_room (Nat.le_of_ble_eq_true rfl)) d_M_fit_4 ⟨Nat.zero_le _, Nat.zero_le _⟩) hH hA (fun z5 w3 H1 lc2 hH4 q4 => ?_)
  obtain ⟨ew6, q4⟩ := q4
  rw [ew6] at hH4
  replace q4 : (z5 = 1 ∧ (ra < 0 ∨ (7 : Int) < ra)) ∨ (z5 = 0 ∧ 0 ≤ ra ∧ ra ≤ (7 : Int)) := q4
  refine zv_if_ne (tgt := 33) hx hb d_M_fit_7 rfl (by omega) (fun h7 => absurd h7 (by omega)) (fun h7 => ?_)
  refine lv_iload_n hx hb d_M_fit_10 rfl (lv_at hl 2 rfl) ?_
  refine zv_iconst hx hb d_M_fit_11 ?_
  refine zv_icmp_lt (tgt := 33) hx hb d_M_fit_12 rfl (by omega) (by omega) (fun h8 => absurd h8 (by omega)) (fun h8 => ?_)
  refine lv_iload_n hx hb d_M_fit_15 rfl (lv_at hl 2 rfl) ?_
  refine zv_bipush hx hb d_M_fit_16 rfl ?_
  refine zv_icmp_gt (tgt := 33) hx hb d_M_fit_18 rfl (by omega) (by omega) (fun h9 => absurd h9 (by omega)) (fun h9 => ?_)
  refine lv_iload_n hx hb d_M_fit_21 rfl (lv_at hl 3 rfl) ?_
  refine zv_bipush hx hb d_M_fit_22 rfl ?_
  refine zv_icmp_lt (tgt := 33) hx hb d_M_fit_24 rfl (by omega) (by omega) (fun h10 => absurd h10 (by omega)) (fun h10 => ?_)
  refine lv_iload_n hx hb d_M_fit_27 rfl (lv_at hl 3 rfl) ?_
  refine zv_bipush hx hb d_M_fit_28 rfl ?_
  refine zv_icmp_le (tgt := 35) hx hb d_M_fit_30 rfl (by omega) (by omega) (fun h11 => ?_) (fun h11 => absurd h11 (by omega))
  refine lv_aload_n hx hb d_M_fit_35 rfl (lv_at hl 0 rfl) ?_
  refine zv_get (C := "ScaledNumeralDeskModel") (T := TM) (N := 17) hx hb hg uM_in hown hK hH4 q0lt c0 rfl 0 (by decide) (hg _ wm_682) (fun _ h9 => h9) rfl d_M_fit_36 ?_
  refine lv_iload_n hx hb d_M_fit_39 rfl (lv_at hl 1 rfl) ?_
  refine zv_iald hx hb hK hH4 q3lt c3 (by omega) (by omega) (by omega) d_M_fit_40 ?_
  have b12 := bk ra (by omega) (by omega)
  refine zv_if_eq (tgt := 61) hx hb d_M_fit_41 rfl (by omega) (fun h13 => ?_) (fun h13 => ?_)
  · refine lv_aload_n hx hb d_M_fit_61 rfl (lv_at hl 0 rfl) ?_
    refine lv_iload_n hx hb d_M_fit_62 rfl (lv_at hl 1 rfl) ?_
    refine z_callv (va_runV (As := [.int (iI ra)]) (rest := []) ⟨hx, hb, hml, hown, hts⟩ (c_M_takeX (l := l) (E := E) (w0 := w0) (g := g) (ty := ty) (xm := xm) (ym := ym) (ne := ne) (mf := mf) (G := G) (xf := xf) (r := ra) (q0lt := q0lt) (q1lt := q4lt) (q2lt := q6lt) (q3lt := q1lt) (c0 := c0) (c1 := c4) (c2 := c6) (c3 := c1) (bm := bm) (bG := bG) (hr0 := by omega) H1.size) (z_cwV (C := "ScaledNumeralDeskModel") 1 hg wm_847 wm_844 wm_9 wm_846 wm_s50 (by decide +kernel) ⟨Nat.le_of_ble_eq_true rfl, Nat.le_of_ble_eq_true rfl⟩) (z_preV (r := ("ScaledNumeralDeskModel", TM, 17)) hK hG hn hH4 hA q0lt c0 rfl) rfl rfl hl.1 rfl (lv_room (Nat.le_of_ble_eq_true rfl)) d_M_fit_63 ⟨Nat.zero_le _, Nat.zero_le _⟩) hH4 hA (fun  w16 H14 lc15 hH17 p63 => ?_)
    obtain ⟨⟨x1, e18, e19, bd20, p63⟩, hg21⟩ := p63
    replace bd20 : bd x1 56 0 9 := bd20
    replace p63 : Vt x1 56 = Gt G ra := p63
    have e22 : w16 (g + 11) = zar E 140 f := (hg21 (g + 11) (nx_M_fit_0 ) (nx_M_fit_1 )).trans c2
    have e23 : w16 (g + 1) = zar E 8 kf := (hg21 (g + 1) (nx_M_fit_2 ) (nx_M_fit_3 )).trans c3
    have e24 : w16 (g + 2) = zaz E 8 mf := (hg21 (g + 2) (nx_M_fit_4 ) (nx_M_fit_5 )).trans c4
    have e25 : w16 (g + 3) = zar E 8 sf := (hg21 (g + 3) (nx_M_fit_6 ) (nx_M_fit_7 )).trans c5
    have e26 : w16 (g + 4) = zar E 448 G := (hg21 (g + 4) (nx_M_fit_8 ) (nx_M_fit_9 )).trans c6
    have hf27 : ∀ k, k ≠ g → k ≠ (g + 9) → w16 k = w0 k := fun k g0 g1 => hg21 k g0 g1
    refine lv_aload_n hx hb d_M_fit_66 rfl (lv_at hl 0 rfl) ?_
    refine z_callv (va_runV (As := []) (rest := []) ⟨hx, hb, hml, hown, hts⟩ (c_M_spread (l := l) (E := E) (w0 := w16) (g := g) (ty := ty) (xm := mf ra) (ym := ym) (ne := ne) (xf := x1) (f := f) (q0lt := q0lt) (q1lt := q1lt) (q2lt := q2lt) (c0 := e18) (c1 := e19) (c2 := e22) (bx := bd20) (hxm := (by omega)) H14.size) (z_cwV (C := "ScaledNumeralDeskModel") 0 hg wm_851 wm_848 wm_9 wm_850 wm_s51 (by decide +kernel) ⟨Nat.le_of_ble_eq_true rfl, Nat.le_of_ble_eq_true rfl⟩) (z_preV (r := ("ScaledNumeralDeskModel", TM, 17)) hK hG hn hH17 hA q0lt e18 rfl) rfl rfl hl.1 rfl (lv_room (Nat.le_of_ble_eq_true rfl)) d_M_fit_67 ⟨Nat.zero_le _, Nat.zero_le _⟩) hH17 hA (fun  w30 H28 lc29 hH31 p67 => ?_)
    obtain ⟨⟨f1, e32, e33, bd34, p67⟩, hg35⟩ := p67
    replace bd34 : bd f1 140 0 9 := bd34
    replace p67 : Vt f1 140 = Vt x1 56 * Tp 24 := p67
    have e36 : w30 (g + 9) = zar E 56 x1 := (hg35 (g + 9) (nx_M_fit_10 ) (nx_M_fit_11 )).trans e19
    have e37 : w30 (g + 1) = zar E 8 kf := (hg35 (g + 1) (nx_M_fit_2 ) (nx_M_fit_12 )).trans e23
    have e38 : w30 (g + 2) = zaz E 8 mf := (hg35 (g + 2) (nx_M_fit_4 ) (nx_M_fit_13 )).trans e24
    have e39 : w30 (g + 3) = zar E 8 sf := (hg35 (g + 3) (nx_M_fit_6 ) (nx_M_fit_14 )).trans e25
    have e40 : w30 (g + 4) = zar E 448 G := (hg35 (g + 4) (nx_M_fit_8 ) (nx_M_fit_15 )).trans e26
    have hf41 : ∀ k, k ≠ g → k ≠ (g + 9) → k ≠ (g + 11) → w30 k = w0 k := fun k g0 g1 g2 => (hg35 k g0 g2).trans (hf27 k g0 g1)
    have bf1 : bd f1 140 0 9 := by assumption
    have hX : Vt f1 140 = Gt G ra * Tp 24 := by rw [p67, p63]
    refine lv_aload_n hx hb d_M_fit_70 rfl (lv_at hl 0 rfl) ?_
    refine lv_iload_n hx hb d_M_fit_71 rfl (lv_at hl 3 rfl) ?_
    refine z_callv (va_runV (As := [.int (iI sc)]) (rest := []) ⟨hx, hb, hml, hown, hts⟩ (c_M_roundAt (l := l) (E := E) (w0 := w30) (g := g) (ty := ty) (xm := (mf ra)) (ym := ym) (ne := (mf ra)) (f := f1) (n := sc) (q0lt := q0lt) (q1lt := q2lt) (c0 := e32) (c1 := e33) (bf := (fun j g1 g2 => by have := bf1 j g1 g2; omega)) (hne := by omega) (hV := (by rw [hX]; omega)) (hn := by omega) H28.size) (z_cwV (C := "ScaledNumeralDeskModel") 1 hg wm_790 wm_787 wm_9 wm_789 wm_s40 (by decide +kernel) ⟨Nat.le_of_ble_eq_true rfl, Nat.le_of_ble_eq_true rfl⟩) (z_preV (r := ("ScaledNumeralDeskModel", TM, 17)) hK hG hn hH31 hA q0lt e32 rfl) rfl rfl hl.1 rfl (lv_room (Nat.le_of_ble_eq_true rfl)) d_M_fit_72 ⟨Nat.zero_le _, Nat.zero_le _⟩) hH31 hA (fun  w44 H42 lc43 hH45 p72 => ?_)
    obtain ⟨⟨n2, f2, e46, e47, bd48, p72⟩, hg49⟩ := p72
    replace bd48 : bd f2 140 0 9 := bd48
    replace p72 : (n2 = 0 ∨ n2 = 1) ∧ ∃ X : Int, AbR (Vt f1 140) ((mf ra)) X n2 ∧ Vt f2 140 = Rn X (48 - sc) ∧ X < Tp 139 := p72
    have e50 : w44 (g + 9) = zar E 56 x1 := (hg49 (g + 9) (nx_M_fit_10 ) (nx_M_fit_11 )).trans e36
    have e51 : w44 (g + 1) = zar E 8 kf := (hg49 (g + 1) (nx_M_fit_2 ) (nx_M_fit_12 )).trans e37
    have e52 : w44 (g + 2) = zaz E 8 mf := (hg49 (g + 2) (nx_M_fit_4 ) (nx_M_fit_13 )).trans e38
    have e53 : w44 (g + 3) = zar E 8 sf := (hg49 (g + 3) (nx_M_fit_6 ) (nx_M_fit_14 )).trans e39
    have e54 : w44 (g + 4) = zar E 448 G := (hg49 (g + 4) (nx_M_fit_8 ) (nx_M_fit_15 )).trans e40
    have hf55 : ∀ k, k ≠ g → k ≠ (g + 9) → k ≠ (g + 11) → w44 k = w0 k := fun k g0 g1 g2 => (hg49 k g0 g2).trans (hf41 k g0 g1 g2)
    obtain ⟨p72a, X, p72b, p72c, p72d⟩ := p72
    rw [hX] at p72b
    have ab := AbR_p p72b t24.1
    rw [ab.1] at p72c
    have ab2 := ab.2
    refine lv_aload_n hx hb d_M_fit_75 rfl (lv_at hl 0 rfl) ?_
    refine zv_bipush hx hb d_M_fit_76 rfl ?_
    refine lv_iload_n hx hb d_M_fit_78 rfl (lv_at hl 2 rfl) ?_
    refine zv_iadd hx hb d_M_fit_79 ?_
    refine lv_iload_n hx hb d_M_fit_80 rfl (lv_at hl 3 rfl) ?_
    refine zv_isub hx hb d_M_fit_81 ?_
    refine z_calli (va_runV (As := [.int (iI ((48 + pr) - sc))]) (rest := []) ⟨hx, hb, hml, hown, hts⟩ (c_M_reaches (l := l) (E := E) (w0 := w44) (g := g) (ty := ty) (xm := ((mf ra))) (ym := ym) (ne := n2) (f := f2) (x := (48 + pr) - sc) (q0lt := q0lt) (q1lt := q2lt) (c0 := e46) (c1 := e47) (bf := bd48) (hx0 := by omega) H42.size) (z_cwV (C := "ScaledNumeralDeskModel") 1 hg wm_810 wm_807 wm_9 wm_809 wm_s45 (by decide +kernel) ⟨Nat.le_of_ble_eq_true rfl, Nat.le_of_ble_eq_true rfl⟩) (z_preV (r := ("ScaledNumeralDeskModel", TM, 17)) hK hG hn hH45 hA q0lt e46 rfl) rfl rfl hl.1 rfl (lv_room (Nat.le_of_ble_eq_true rfl)) d_M_fit_82 ⟨Nat.zero_le _, Nat.zero_le _⟩) hH45 hA (fun z82 w58 H56 lc57 hH59 p82 => ?_)
    obtain ⟨ew60, p82⟩ := p82
    rw [ew60] at hH59
    replace p82 : (z82 = 1 ∧ Tp ((48 + pr) - sc) ≤ Vt f2 140) ∨ (z82 = 0 ∧ Vt f2 140 < Tp ((48 + pr) - sc)) := p82
    rw [p72c] at p82
    refine zv_if_eq (tgt := 93) hx hb d_M_fit_85 rfl (by omega) (fun h61 => ?_) (fun h61 => ?_)
    · have L104 : ∀ (mm : Int) (ls : Array Slot) (H62 : Heap) (lc63 : List Loc), (lv_has ls 4 [(0, .ref (ad E g)), (1, .int (iI ra)), (2, .int (iI pr)), (3, .int (iI sc))]) → (zH E w44 (va_A (wl E w0) s.heap.size) s.heap H62 lc63) → (mm = mx0 sc) → (0 ≤ mm ∧ mm ≤ 24) → W p l e rm_M_fit s m a below meth cd H62 lc63 0 0 Qf (F0 m 104 ls [.int (iI mm), .int (iI ra), .ref (ad E g)]) := by
        intro mm ls H62 lc63 hl hH hmm hmm0
        refine z_calli (va_runV (As := [.int (iI ra), .int (iI mm)]) (rest := []) ⟨hx, hb, hml, hown, hts⟩ (c_M_keep (l := l) (E := E) (w0 := w44) (g := g) (ty := ty) (xm := ((mf ra))) (ym := ym) (ne := n2) (f := f2) (kf := kf) (mf := mf) (sf := sf) (G := G) (d := ra) (sc := mm) (q0lt := q0lt) (q1lt := q2lt) (q2lt := q3lt) (q3lt := q4lt) (q4lt := q5lt) (q5lt := q6lt) (c0 := e46) (c1 := e47) (c2 := e51) (c3 := e52) (c4 := e53) (c5 := e54) (bf := bd48) (bk := bk) (bm := bm) (bs := bs) (bG := bG) (hne := by omega) (hd := by omega) (hsc := by omega) H62.size) (z_cwV (C := "ScaledNumeralDeskModel") 2 hg wm_806 wm_803 wm_9 wm_805 wm_s44 (by decide +kernel) ⟨Nat.le_of_ble_eq_true rfl, Nat.le_of_ble_eq_true rfl⟩) (z_preV (r := ("ScaledNumeralDeskModel", TM, 17)) hK hG hn hH hA q0lt e46 rfl) rfl rfl hl.1 rfl (lv_room (Nat.le_of_ble_eq_true rfl)) d_M_fit_104 ⟨Nat.zero_le _, Nat.zero_le _⟩) hH hA (fun z68 w66 H64 lc65 hH67 p104 => ?_)
        obtain ⟨⟨k_69, m_70, s_71, x_72, e73, e74, e75, e76, bd77, bd78, bd79, bd80, p104⟩, hg81⟩ := p104
        replace bd77 : bd k_69 8 0 3 := bd77
        replace bd78 : bd m_70 8 0 1 := bd78
        replace bd79 : bd s_71 8 0 24 := bd79
        replace bd80 : bd x_72 448 0 9 := bd80
        replace p104 : KpR z68 ra mm n2 (Vt f2 140) kf sf mf G k_69 s_71 m_70 x_72 := p104
        have e82 : w66 g = .inr (6, [.ref (ad E (g + 1)), .ref (ad E (g + 2)), .ref (ad E (g + 3)), .ref (ad E (g + 4)), .int (iI ty), .ref (ad E (g + 5)), .ref (ad E (g + 6)), .ref (ad E (g + 7)), .ref (ad E (g + 8)), .ref (ad E (g + 9)), .ref (ad E (g + 10)), .int (iI (((mf ra)))), .int (iI ym), .ref (ad E (g + 11)), .int (iI n2), .ref (ad E (g + 12)), .ref (ad E (g + 13))]) := (hg81 g (nx_M_fit_16 ) (nx_M_fit_17 ) (nx_M_fit_18 ) (nx_M_fit_19 )).trans e46
        have e83 : w66 (g + 9) = zar E 56 x1 := (hg81 (g + 9) (nx_M_fit_20 ) (nx_M_fit_21 ) (nx_M_fit_22 ) (nx_M_fit_23 )).trans e50
        have e84 : w66 (g + 11) = zar E 140 f2 := (hg81 (g + 11) (nx_M_fit_24 ) (nx_M_fit_25 ) (nx_M_fit_26 ) (nx_M_fit_27 )).trans e47
        have hf85 : ∀ k, k ≠ g → k ≠ (g + 9) → k ≠ (g + 11) → k ≠ (g + 1) → k ≠ (g + 2) → k ≠ (g + 3) → k ≠ (g + 4) → w66 k = w0 k := fun k g0 g1 g2 g3 g4 g5 g6 => (hg81 k g3 g4 g5 g6).trans (hf55 k g0 g1 g2)
        have r9 : Rn (Gt G ra * Tp 24) (48 - sc) < Tp (48 + pr - sc) := by rcases p82 with h8 | h8; exact absurd h8.1 (by omega); exact h8.2
        rw [p72c, ab2, hmm] at p104
        rw [hQ]
        exact z_iret hx hb hr hlk hH67 (⟨⟨(((mf ra))), n2, x1, f2, k_69, m_70, s_71, x_72, e82, e83, e84, e73, e74, e75, e76, bd20, bd48, bd77, bd78, bd79, bd80, ⟨by omega, p72a, Or.inr (Or.inr (Or.inr ⟨by omega, r9, p104⟩))⟩⟩, (fun k g0 g1 g2 g3 g4 g5 g6 => hf85 k g0 g1 g2 g3 g4 g5 g6)⟩) d_M_fit_107
      refine lv_aload_n hx hb d_M_fit_93 rfl (lv_at hl 0 rfl) ?_
      refine lv_iload_n hx hb d_M_fit_94 rfl (lv_at hl 1 rfl) ?_
      refine lv_iload_n hx hb d_M_fit_95 rfl (lv_at hl 3 rfl) ?_
      refine zv_if_ge (tgt := 103) hx hb d_M_fit_96 rfl (by omega) (fun h86 => ?_) (fun h86 => ?_)
      · refine lv_iload_n hx hb d_M_fit_103 rfl (lv_at hl 3 rfl) ?_
        exact L104 sc _ H56 lc57 (lv_sub hl [0, 1, 2, 3] rfl) hH59 (by unfold mx0; omega) (by omega)
      · refine zv_iconst hx hb d_M_fit_99 ?_
        refine lv_goto (tgt := 104) hx hb d_M_fit_100 rfl ?_
        exact L104 0 _ H56 lc57 (lv_sub hl [0, 1, 2, 3] rfl) hH59 (by unfold mx0; omega) (by omega)
    · refine zv_bipush hx hb d_M_fit_88 rfl ?_
      refine lv_goto (tgt := 107) hx hb d_M_fit_90 rfl ?_
      have r9 : Tp (48 + pr - sc) ≤ Rn (Gt G ra * Tp 24) (48 - sc) := by rcases p82 with h8 | h8; exact h8.2; exact absurd h8.1 (by omega)
      rw [hQ]
      exact z_iret hx hb hr hlk hH59 (⟨⟨(((mf ra))), n2, x1, f2, kf, mf, sf, G, e46, e50, e47, e51, e52, e53, e54, bd20, bd48, bk, bm, bs, bG, ⟨by omega, p72a, Or.inr (Or.inr (Or.inl ⟨by omega, r9, rfl, rfl, rfl, rfl, rfl⟩))⟩⟩, (fun k g0 g1 g2 g3 g4 g5 g6 => hf55 k g0 g1 g2)⟩) d_M_fit_107
  · refine lv_aload_n hx hb d_M_fit_44 rfl (lv_at hl 0 rfl) ?_
    refine zv_get (C := "ScaledNumeralDeskModel") (T := TM) (N := 17) hx hb hg uM_in hown hK hH4 q0lt c0 rfl 0 (by decide) (hg _ wm_682) (fun _ h9 => h9) rfl d_M_fit_45 ?_
    refine lv_iload_n hx hb d_M_fit_48 rfl (lv_at hl 1 rfl) ?_
    refine zv_iald hx hb hK hH4 q3lt c3 (by omega) (by omega) (by omega) d_M_fit_49 ?_
    have b87 := bk ra (by omega) (by omega)
    refine zv_iconst hx hb d_M_fit_50 ?_
    refine zv_icmp_ne (tgt := 58) hx hb d_M_fit_51 rfl (by omega) (by omega) (fun h88 => ?_) (fun h88 => ?_)
    · refine zv_bipush hx hb d_M_fit_58 rfl ?_
      rw [hQ]
      exact z_iret hx hb hr hlk hH4 (⟨⟨xm, ne, xf, f, kf, mf, sf, G, c0, c1, c2, c3, c4, c5, c6, bx, bf, bk, bm, bs, bG, ⟨hxm, hne, Or.inr (Or.inl ⟨by omega, rfl, rfl, rfl, rfl, rfl⟩)⟩⟩, (fun k _ _ _ _ _ _ _ => rfl)⟩) d_M_fit_60
    · refine zv_iconst hx hb d_M_fit_54 ?_
      refine lv_goto (tgt := 60) hx hb d_M_fit_55 rfl ?_
      rw [hQ]
      exact z_iret hx hb hr hlk hH4 (⟨⟨xm, ne, xf, f, kf, mf, sf, G, c0, c1, c2, c3, c4, c5, c6, bx, bf, bk, bm, bs, bG, ⟨hxm, hne, Or.inl ⟨by omega, rfl, rfl, rfl, rfl, rfl⟩⟩⟩, (fun k _ _ _ _ _ _ _ => rfl)⟩) d_M_fit_60
def rm_M_rank : Room := { frames := 0, cells := 0, slots := 0, locals := 0 }
set_option maxHeartbeats 4000000 in
set_option maxRecDepth 100000 in
theorem c_M_rank (l : Launch) (E : zE) (w0 : zW) (g : Nat) (ty xm ym ne : Int) (kf : Int → Int) (ra : Int) (q0lt : g < zn E) (q1lt : g + 1 < zn E) (c0 : w0 g = .inr (6, [.ref (ad E (g + 1)), .ref (ad E (g + 2)), .ref (ad E (g + 3)), .ref (ad E (g + 4)), .int (iI ty), .ref (ad E (g + 5)), .ref (ad E (g + 6)), .ref (ad E (g + 7)), .ref (ad E (g + 8)), .ref (ad E (g + 9)), .ref (ad E (g + 10)), .int (iI xm), .int (iI ym), .ref (ad E (g + 11)), .int (iI ne), .ref (ad E (g + 12)), .ref (ad E (g + 13))])) (c1 : w0 (g + 1) = zar E 8 kf) (bk : bd kf 8 0 3) (hra : 0 ≤ ra ∧ ra < 8) : zM l y_M_rank ws_M_rank rm_M_rank E [.ref (ad E g), .int (iI ra)] w0 (zQi E w0 (fun z w' => w' = w0 ∧ (z = rkM (kf ra) ∧ 0 ≤ z ∧ z ≤ 3))) := by
  refine z_met (cc := b_M_rank) (maxL := 2) (ret := (some .int)) (by decide +kernel) rfl (Nat.le_of_ble_eq_true rfl) ?_
  intro p e s m below meth cd ls a Qf hQ hC hl hH
  obtain ⟨hF, hr, hlk, hK, hG, hn⟩ := hC
  obtain ⟨hx, hb, hml, hown, hts⟩ := hF
  have hg : ∀ w ∈ GW, w.before a s = true := fun w h => hts w (List.mem_cons_of_mem _ h)
  have hA : ∀ q, s.heap.size ≤ q → va_A (wl E w0) s.heap.size q := fun q h => Or.inr h
  have hl : lv_has ls 2 [(0, .ref (ad E g)), (1, .int (iI ra))] := hl
  have rkc := rkM_c (bk ra hra.1 hra.2)
  refine lv_aload_n hx hb d_M_rank_0 rfl (lv_at hl 0 rfl) ?_
  refine zv_get (C := "ScaledNumeralDeskModel") (T := TM) (N := 17) hx hb hg uM_in hown hK hH q0lt c0 rfl 0 (by decide) (hg _ wm_682) (fun _ h9 => h9) rfl d_M_rank_1 ?_
  refine lv_iload_n hx hb d_M_rank_4 rfl (lv_at hl 1 rfl) ?_
  refine zv_iald hx hb hK hH q1lt c1 (by omega) (by omega) (by omega) d_M_rank_5 ?_
  have b1 := bk ra (by omega) (by omega)
  refine zv_iconst hx hb d_M_rank_6 ?_
  refine zv_icmp_ne (tgt := 14) hx hb d_M_rank_7 rfl (by omega) (by omega) (fun h2 => ?_) (fun h2 => ?_)
  · refine lv_aload_n hx hb d_M_rank_14 rfl (lv_at hl 0 rfl) ?_
    refine zv_get (C := "ScaledNumeralDeskModel") (T := TM) (N := 17) hx hb hg uM_in hown hK hH q0lt c0 rfl 0 (by decide) (hg _ wm_682) (fun _ h9 => h9) rfl d_M_rank_15 ?_
    refine lv_iload_n hx hb d_M_rank_18 rfl (lv_at hl 1 rfl) ?_
    refine zv_iald hx hb hK hH q1lt c1 (by omega) (by omega) (by omega) d_M_rank_19 ?_
    have b3 := bk ra (by omega) (by omega)
    refine zv_if_ne (tgt := 27) hx hb d_M_rank_20 rfl (by omega) (fun h4 => ?_) (fun h4 => ?_)
    · refine lv_aload_n hx hb d_M_rank_27 rfl (lv_at hl 0 rfl) ?_
      refine zv_get (C := "ScaledNumeralDeskModel") (T := TM) (N := 17) hx hb hg uM_in hown hK hH q0lt c0 rfl 0 (by decide) (hg _ wm_682) (fun _ h9 => h9) rfl d_M_rank_28 ?_
      refine lv_iload_n hx hb d_M_rank_31 rfl (lv_at hl 1 rfl) ?_
      refine zv_iald hx hb hK hH q1lt c1 (by omega) (by omega) (by omega) d_M_rank_32 ?_
      have b5 := bk ra (by omega) (by omega)
      refine zv_iconst hx hb d_M_rank_33 ?_
      refine zv_icmp_ne (tgt := 41) hx hb d_M_rank_34 rfl (by omega) (by omega) (fun h6 => ?_) (fun h6 => ?_)
      · refine zv_iconst hx hb d_M_rank_41 ?_
        rw [hQ]
        exact z_iret hx hb hr hlk hH (⟨rfl, by omega⟩) d_M_rank_42
      · refine zv_iconst hx hb d_M_rank_37 ?_
        refine lv_goto (tgt := 42) hx hb d_M_rank_38 rfl ?_
        rw [hQ]
        exact z_iret hx hb hr hlk hH (⟨rfl, by omega⟩) d_M_rank_42
    · refine zv_iconst hx hb d_M_rank_23 ?_
      refine lv_goto (tgt := 42) hx hb d_M_rank_24 rfl ?_
      rw [hQ]
      exact z_iret hx hb hr hlk hH (⟨rfl, by omega⟩) d_M_rank_42
  · refine zv_iconst hx hb d_M_rank_10 ?_
    refine lv_goto (tgt := 42) hx hb d_M_rank_11 rfl ?_
    rw [hQ]
    exact z_iret hx hb hr hlk hH (⟨rfl, by omega⟩) d_M_rank_42
theorem nx_M_compare_0 {g : Nat}  : g + 10 ≠ g := by omega
theorem nx_M_compare_1 {g : Nat}  : g + 10 ≠ g + 9 := by omega
theorem nx_M_compare_2 {g : Nat}  : g + 1 ≠ g := by omega
theorem nx_M_compare_3 {g : Nat}  : g + 1 ≠ g + 9 := by omega
theorem nx_M_compare_4 {g : Nat}  : g + 2 ≠ g := by omega
theorem nx_M_compare_5 {g : Nat}  : g + 2 ≠ g + 9 := by omega
theorem nx_M_compare_6 {g : Nat}  : g + 4 ≠ g := by omega
theorem nx_M_compare_7 {g : Nat}  : g + 4 ≠ g + 9 := by omega
theorem nx_M_compare_8 {g : Nat}  : g + 9 ≠ g := by omega
theorem nx_M_compare_9 {g : Nat}  : g + 9 ≠ g + 10 := by omega
theorem nx_M_compare_10 {g : Nat}  : g + 1 ≠ g + 10 := by omega
theorem nx_M_compare_11 {g : Nat}  : g + 2 ≠ g + 10 := by omega
theorem nx_M_compare_12 {g : Nat}  : g + 4 ≠ g + 10 := by omega
def rm_M_compare : Room := { frames := 1, cells := 0, slots := 0, locals := 22 }
set_option maxHeartbeats 4000000 in
set_option maxRecDepth 100000 in
theorem c_M_compare (l : Launch) (E : zE) (w0 : zW) (g : Nat) (ty xm ym ne : Int) (xf yf kf mf G : Int → Int) (ra rb : Int) (q0lt : g < zn E) (q1lt : g + 9 < zn E) (q2lt : g + 10 < zn E) (q3lt : g + 1 < zn E) (q4lt : g + 2 < zn E) (q5lt : g + 4 < zn E) (c0 : w0 g = .inr (6, [.ref (ad E (g + 1)), .ref (ad E (g + 2)), .ref (ad E (g + 3)), .ref (ad E (g + 4)), .int (iI ty), .ref (ad E (g + 5)), .ref (ad E (g + 6)), .ref (ad E (g + 7)), .ref (ad E (g + 8)), .ref (ad E (g + 9)), .ref (ad E (g + 10)), .int (iI xm), .int (iI ym), .ref (ad E (g + 11)), .int (iI ne), .ref (ad E (g + 12)), .ref (ad E (g + 13))])) (c1 : w0 (g + 9) = zar E 56 xf) (c2 : w0 (g + 10) = zar E 56 yf) (c3 : w0 (g + 1) = zar E 8 kf) (c4 : w0 (g + 2) = zaz E 8 mf) (c5 : w0 (g + 4) = zar E 448 G) (bx : bd xf 56 0 9) (by1 : bd yf 56 0 9) (bk : bd kf 8 0 3) (bm : bd mf 8 0 1) (bG : bd G 448 0 9) (hxm : xm = 0 ∨ xm = 1) (hym : ym = 0 ∨ ym = 1) (hra : 0 ≤ ra ∧ ra < 8) (hrb : 0 ≤ rb ∧ rb < 8) : zM l y_M_compare ws_M_compare rm_M_compare E [.ref (ad E g), .int (iI ra), .int (iI rb)] w0 (zQi E w0 (fun z w' => (∃ (u' : Int) (v' : Int) (x' : Int → Int) (y' : Int → Int), w' g = .inr (6, [.ref (ad E (g + 1)), .ref (ad E (g + 2)), .ref (ad E (g + 3)), .ref (ad E (g + 4)), .int (iI ty), .ref (ad E (g + 5)), .ref (ad E (g + 6)), .ref (ad E (g + 7)), .ref (ad E (g + 8)), .ref (ad E (g + 9)), .ref (ad E (g + 10)), .int (iI u'), .int (iI v'), .ref (ad E (g + 11)), .int (iI ne), .ref (ad E (g + 12)), .ref (ad E (g + 13))]) ∧ w' (g + 9) = zar E 56 x' ∧ w' (g + 10) = zar E 56 y' ∧ bd x' 56 0 9 ∧ bd y' 56 0 9 ∧ ((u' = 0 ∨ u' = 1) ∧ (v' = 0 ∨ v' = 1) ∧ CpR z (kf ra) (mf ra) (Gt G ra) (kf rb) (mf rb) (Gt G rb))) ∧ ∀ k, k ≠ g → k ≠ (g + 9) → k ≠ (g + 10) → w' k = w0 k)) := by
  refine z_met (cc := b_M_compare) (maxL := 6) (ret := (some .int)) (by decide +kernel) rfl (Nat.le_of_ble_eq_true rfl) ?_
  intro p e s m below meth cd ls a Qf hQ hC hl hH
  obtain ⟨hF, hr, hlk, hK, hG, hn⟩ := hC
  obtain ⟨hx, hb, hml, hown, hts⟩ := hF
  have hg : ∀ w ∈ GW, w.before a s = true := fun w h => hts w (List.mem_cons_of_mem _ h)
  have hA : ∀ q, s.heap.size ≤ q → va_A (wl E w0) s.heap.size q := fun q h => Or.inr h
  have hl : lv_has ls 6 [(0, .ref (ad E g)), (1, .int (iI ra)), (2, .int (iI rb))] := hl
  have bma := bm ra hra.1 hra.2
  have bmb := bm rb hrb.1 hrb.2
  have hma : mf ra = 0 ∨ mf ra = 1 := by omega
  have hmb : mf rb = 0 ∨ mf rb = 1 := by omega
  refine lv_aload_n hx hb d_M_compare_0 rfl (lv_at hl 0 rfl) ?_
  refine lv_iload_n hx hb d_M_compare_1 rfl (lv_at hl 1 rfl) ?_
  refine zv_bipush hx hb d_M_compare_2 rfl ?_
  refine z_calli (va_runV (As := [.int (iI ra), .int (iI 7)]) (rest := []) ⟨hx, hb, hml, hown, hts⟩ (c_M_out (l := l) (E := E) (w0 := w0) (g := g) (ty := ty) (xm := xm) (ym := ym) (ne := ne) (v := ra) (mo := 7) (q0lt := q0lt) (c0 := c0) (hv := by omega) (hmo := by omega) s.heap.size) (z_cwV (C := "ScaledNumeralDeskModel") 2 hg wm_746 wm_743 wm_9 wm_745 wm_s29 (by decide +kernel) ⟨Nat.le_of_ble_eq_true rfl, Nat.le_of_ble_eq_true rfl⟩) (z_preV (r := ("ScaledNumeralDeskModel", TM, 17)) hK hG hn hH hA q0lt c0 rfl) rfl rfl hl.1 rfl (lv_room (Nat.le_of_ble_eq_true rfl)) d_M_compare_4 ⟨Nat.zero_le _, Nat.zero_le _⟩) hH hA (fun z5 w3 H1 lc2 hH4 q4 => ?_)
  obtain ⟨ew6, q4⟩ := q4
  rw [ew6] at hH4
  replace q4 : (z5 = 1 ∧ (ra < 0 ∨ (7 : Int) < ra)) ∨ (z5 = 0 ∧ 0 ≤ ra ∧ ra ≤ (7 : Int)) := q4
  refine zv_if_ne (tgt := 20) hx hb d_M_compare_7 rfl (by omega) (fun h7 => absurd h7 (by omega)) (fun h7 => ?_)
  refine lv_aload_n hx hb d_M_compare_10 rfl (lv_at hl 0 rfl) ?_
  refine lv_iload_n hx hb d_M_compare_11 rfl (lv_at hl 2 rfl) ?_
  refine zv_bipush hx hb d_M_compare_12 rfl ?_
  refine z_calli (va_runV (As := [.int (iI rb), .int (iI 7)]) (rest := []) ⟨hx, hb, hml, hown, hts⟩ (c_M_out (l := l) (E := E) (w0 := w0) (g := g) (ty := ty) (xm := xm) (ym := ym) (ne := ne) (v := rb) (mo := 7) (q0lt := q0lt) (c0 := c0) (hv := by omega) (hmo := by omega) H1.size) (z_cwV (C := "ScaledNumeralDeskModel") 2 hg wm_746 wm_743 wm_9 wm_745 wm_s29 (by decide +kernel) ⟨Nat.le_of_ble_eq_true rfl, Nat.le_of_ble_eq_true rfl⟩) (z_preV (r := ("ScaledNumeralDeskModel", TM, 17)) hK hG hn hH4 hA q0lt c0 rfl) rfl rfl hl.1 rfl (lv_room (Nat.le_of_ble_eq_true rfl)) d_M_compare_14 ⟨Nat.zero_le _, Nat.zero_le _⟩) hH4 hA (fun z12 w10 H8 lc9 hH11 q14 => ?_)
  obtain ⟨ew13, q14⟩ := q14
  rw [ew13] at hH11
  replace q14 : (z12 = 1 ∧ (rb < 0 ∨ (7 : Int) < rb)) ∨ (z12 = 0 ∧ 0 ≤ rb ∧ rb ≤ (7 : Int)) := q14
  refine zv_if_eq (tgt := 23) hx hb d_M_compare_17 rfl (by omega) (fun h14 => ?_) (fun h14 => absurd h14 (by omega))
  have L41 : ∀  (ls : Array Slot) (H15 : Heap) (lc16 : List Loc), (lv_has ls 6 [(0, .ref (ad E g)), (1, .int (iI ra)), (2, .int (iI rb))]) → (zH E w0 (va_A (wl E w0) s.heap.size) s.heap H15 lc16) → (¬ (kf ra = 0 ∧ kf rb = 0)) → W p l e rm_M_compare s m a below meth cd H15 lc16 0 0 Qf (F0 m 41 ls []) := by
    intro ls H15 lc16 hl hH h41
    refine lv_aload_n hx hb d_M_compare_41 rfl (lv_at hl 0 rfl) ?_
    refine lv_iload_n hx hb d_M_compare_42 rfl (lv_at hl 1 rfl) ?_
    refine z_calli (va_runV (As := [.int (iI ra)]) (rest := []) ⟨hx, hb, hml, hown, hts⟩ (c_M_rank (l := l) (E := E) (w0 := w0) (g := g) (ty := ty) (xm := xm) (ym := ym) (ne := ne) (kf := kf) (ra := ra) (q0lt := q0lt) (q1lt := q3lt) (c0 := c0) (c1 := c3) (bk := bk) (hra := by omega) H15.size) (z_cwV (C := "ScaledNumeralDeskModel") 1 hg wm_947 wm_944 wm_9 wm_946 wm_s72 (by decide +kernel) ⟨Nat.le_of_ble_eq_true rfl, Nat.le_of_ble_eq_true rfl⟩) (z_preV (r := ("ScaledNumeralDeskModel", TM, 17)) hK hG hn hH hA q0lt c0 rfl) rfl rfl hl.1 rfl (lv_room (Nat.le_of_ble_eq_true rfl)) d_M_compare_43 ⟨Nat.zero_le _, Nat.zero_le _⟩) hH hA (fun z21 w19 H17 lc18 hH20 p43 => ?_)
    obtain ⟨ew22, p43⟩ := p43
    rw [ew22] at hH20
    replace p43 : z21 = rkM (kf ra) ∧ 0 ≤ z21 ∧ z21 ≤ 3 := p43
    refine lv_aload_n hx hb d_M_compare_46 rfl (lv_at hl 0 rfl) ?_
    refine lv_iload_n hx hb d_M_compare_47 rfl (lv_at hl 2 rfl) ?_
    refine z_calli (va_runV (As := [.int (iI rb)]) (rest := [.int (iI z21)]) ⟨hx, hb, hml, hown, hts⟩ (c_M_rank (l := l) (E := E) (w0 := w0) (g := g) (ty := ty) (xm := xm) (ym := ym) (ne := ne) (kf := kf) (ra := rb) (q0lt := q0lt) (q1lt := q3lt) (c0 := c0) (c1 := c3) (bk := bk) (hra := by omega) H17.size) (z_cwV (C := "ScaledNumeralDeskModel") 1 hg wm_947 wm_944 wm_9 wm_946 wm_s72 (by decide +kernel) ⟨Nat.le_of_ble_eq_true rfl, Nat.le_of_ble_eq_true rfl⟩) (z_preV (r := ("ScaledNumeralDeskModel", TM, 17)) hK hG hn hH20 hA q0lt c0 rfl) rfl rfl hl.1 rfl (lv_room (Nat.le_of_ble_eq_true rfl)) d_M_compare_48 ⟨Nat.zero_le _, Nat.zero_le _⟩) hH20 hA (fun z27 w25 H23 lc24 hH26 p48 => ?_)
    obtain ⟨ew28, p48⟩ := p48
    rw [ew28] at hH26
    replace p48 : z27 = rkM (kf rb) ∧ 0 ≤ z27 ∧ z27 ≤ 3 := p48
    refine zv_icmp_ge (tgt := 58) hx hb d_M_compare_51 rfl (by omega) (by omega) (fun h29 => ?_) (fun h29 => ?_)
    · refine lv_aload_n hx hb d_M_compare_58 rfl (lv_at hl 0 rfl) ?_
      refine lv_iload_n hx hb d_M_compare_59 rfl (lv_at hl 1 rfl) ?_
      refine z_calli (va_runV (As := [.int (iI ra)]) (rest := []) ⟨hx, hb, hml, hown, hts⟩ (c_M_rank (l := l) (E := E) (w0 := w0) (g := g) (ty := ty) (xm := xm) (ym := ym) (ne := ne) (kf := kf) (ra := ra) (q0lt := q0lt) (q1lt := q3lt) (c0 := c0) (c1 := c3) (bk := bk) (hra := by omega) H23.size) (z_cwV (C := "ScaledNumeralDeskModel") 1 hg wm_947 wm_944 wm_9 wm_946 wm_s72 (by decide +kernel) ⟨Nat.le_of_ble_eq_true rfl, Nat.le_of_ble_eq_true rfl⟩) (z_preV (r := ("ScaledNumeralDeskModel", TM, 17)) hK hG hn hH26 hA q0lt c0 rfl) rfl rfl hl.1 rfl (lv_room (Nat.le_of_ble_eq_true rfl)) d_M_compare_60 ⟨Nat.zero_le _, Nat.zero_le _⟩) hH26 hA (fun z34 w32 H30 lc31 hH33 p60 => ?_)
      obtain ⟨ew35, p60⟩ := p60
      rw [ew35] at hH33
      replace p60 : z34 = rkM (kf ra) ∧ 0 ≤ z34 ∧ z34 ≤ 3 := p60
      refine lv_aload_n hx hb d_M_compare_63 rfl (lv_at hl 0 rfl) ?_
      refine lv_iload_n hx hb d_M_compare_64 rfl (lv_at hl 2 rfl) ?_
      refine z_calli (va_runV (As := [.int (iI rb)]) (rest := [.int (iI z34)]) ⟨hx, hb, hml, hown, hts⟩ (c_M_rank (l := l) (E := E) (w0 := w0) (g := g) (ty := ty) (xm := xm) (ym := ym) (ne := ne) (kf := kf) (ra := rb) (q0lt := q0lt) (q1lt := q3lt) (c0 := c0) (c1 := c3) (bk := bk) (hra := by omega) H30.size) (z_cwV (C := "ScaledNumeralDeskModel") 1 hg wm_947 wm_944 wm_9 wm_946 wm_s72 (by decide +kernel) ⟨Nat.le_of_ble_eq_true rfl, Nat.le_of_ble_eq_true rfl⟩) (z_preV (r := ("ScaledNumeralDeskModel", TM, 17)) hK hG hn hH33 hA q0lt c0 rfl) rfl rfl hl.1 rfl (lv_room (Nat.le_of_ble_eq_true rfl)) d_M_compare_65 ⟨Nat.zero_le _, Nat.zero_le _⟩) hH33 hA (fun z40 w38 H36 lc37 hH39 p65 => ?_)
      obtain ⟨ew41, p65⟩ := p65
      rw [ew41] at hH39
      replace p65 : z40 = rkM (kf rb) ∧ 0 ≤ z40 ∧ z40 ≤ 3 := p65
      refine zv_icmp_le (tgt := 75) hx hb d_M_compare_68 rfl (by omega) (by omega) (fun h42 => ?_) (fun h42 => ?_)
      · refine zv_iconst hx hb d_M_compare_75 ?_
        rw [hQ]
        exact z_iret hx hb hr hlk hH39 (⟨⟨xm, ym, xf, yf, c0, c1, c2, bx, by1, ⟨hxm, hym, Or.inr ⟨h41, by omega⟩⟩⟩, (fun k _ _ _ => rfl)⟩) d_M_compare_76
      · refine zv_iconst hx hb d_M_compare_71 ?_
        refine lv_goto (tgt := 76) hx hb d_M_compare_72 rfl ?_
        rw [hQ]
        exact z_iret hx hb hr hlk hH39 (⟨⟨xm, ym, xf, yf, c0, c1, c2, bx, by1, ⟨hxm, hym, Or.inr ⟨h41, by omega⟩⟩⟩, (fun k _ _ _ => rfl)⟩) d_M_compare_76
    · refine zv_iconst hx hb d_M_compare_54 ?_
      refine lv_goto (tgt := 76) hx hb d_M_compare_55 rfl ?_
      rw [hQ]
      exact z_iret hx hb hr hlk hH26 (⟨⟨xm, ym, xf, yf, c0, c1, c2, bx, by1, ⟨hxm, hym, Or.inr ⟨h41, by omega⟩⟩⟩, (fun k _ _ _ => rfl)⟩) d_M_compare_76
  refine lv_aload_n hx hb d_M_compare_23 rfl (lv_at hl 0 rfl) ?_
  refine zv_get (C := "ScaledNumeralDeskModel") (T := TM) (N := 17) hx hb hg uM_in hown hK hH11 q0lt c0 rfl 0 (by decide) (hg _ wm_682) (fun _ h9 => h9) rfl d_M_compare_24 ?_
  refine lv_iload_n hx hb d_M_compare_27 rfl (lv_at hl 1 rfl) ?_
  refine zv_iald hx hb hK hH11 q3lt c3 (by omega) (by omega) (by omega) d_M_compare_28 ?_
  have b43 := bk ra (by omega) (by omega)
  refine zv_if_ne (tgt := 41) hx hb d_M_compare_29 rfl (by omega) (fun h44 => ?_) (fun h44 => ?_)
  · exact L41 _ H8 lc9 (lv_sub hl [0, 1, 2] rfl) hH11 (by omega)
  · refine lv_aload_n hx hb d_M_compare_32 rfl (lv_at hl 0 rfl) ?_
    refine zv_get (C := "ScaledNumeralDeskModel") (T := TM) (N := 17) hx hb hg uM_in hown hK hH11 q0lt c0 rfl 0 (by decide) (hg _ wm_682) (fun _ h9 => h9) rfl d_M_compare_33 ?_
    refine lv_iload_n hx hb d_M_compare_36 rfl (lv_at hl 2 rfl) ?_
    refine zv_iald hx hb hK hH11 q3lt c3 (by omega) (by omega) (by omega) d_M_compare_37 ?_
    have b45 := bk rb (by omega) (by omega)
    refine zv_if_eq (tgt := 77) hx hb d_M_compare_38 rfl (by omega) (fun h46 => ?_) (fun h46 => ?_)
    · refine lv_aload_n hx hb d_M_compare_77 rfl (lv_at hl 0 rfl) ?_
      refine lv_iload_n hx hb d_M_compare_78 rfl (lv_at hl 1 rfl) ?_
      refine z_callv (va_runV (As := [.int (iI ra)]) (rest := []) ⟨hx, hb, hml, hown, hts⟩ (c_M_takeX (l := l) (E := E) (w0 := w0) (g := g) (ty := ty) (xm := xm) (ym := ym) (ne := ne) (mf := mf) (G := G) (xf := xf) (r := ra) (q0lt := q0lt) (q1lt := q4lt) (q2lt := q5lt) (q3lt := q1lt) (c0 := c0) (c1 := c4) (c2 := c5) (c3 := c1) (bm := bm) (bG := bG) (hr0 := by omega) H8.size) (z_cwV (C := "ScaledNumeralDeskModel") 1 hg wm_847 wm_844 wm_9 wm_846 wm_s50 (by decide +kernel) ⟨Nat.le_of_ble_eq_true rfl, Nat.le_of_ble_eq_true rfl⟩) (z_preV (r := ("ScaledNumeralDeskModel", TM, 17)) hK hG hn hH11 hA q0lt c0 rfl) rfl rfl hl.1 rfl (lv_room (Nat.le_of_ble_eq_true rfl)) d_M_compare_79 ⟨Nat.zero_le _, Nat.zero_le _⟩) hH11 hA (fun  w49 H47 lc48 hH50 p79 => ?_)
      obtain ⟨⟨x1, e51, e52, bd53, p79⟩, hg54⟩ := p79
      replace bd53 : bd x1 56 0 9 := bd53
      replace p79 : Vt x1 56 = Gt G ra := p79
      have e55 : w49 (g + 10) = zar E 56 yf := (hg54 (g + 10) (nx_M_compare_0 ) (nx_M_compare_1 )).trans c2
      have e56 : w49 (g + 1) = zar E 8 kf := (hg54 (g + 1) (nx_M_compare_2 ) (nx_M_compare_3 )).trans c3
      have e57 : w49 (g + 2) = zaz E 8 mf := (hg54 (g + 2) (nx_M_compare_4 ) (nx_M_compare_5 )).trans c4
      have e58 : w49 (g + 4) = zar E 448 G := (hg54 (g + 4) (nx_M_compare_6 ) (nx_M_compare_7 )).trans c5
      have hf59 : ∀ k, k ≠ g → k ≠ (g + 9) → w49 k = w0 k := fun k g0 g1 => hg54 k g0 g1
      have bx1 : bd x1 56 0 9 := by assumption
      refine lv_aload_n hx hb d_M_compare_82 rfl (lv_at hl 0 rfl) ?_
      refine lv_iload_n hx hb d_M_compare_83 rfl (lv_at hl 2 rfl) ?_
      refine z_callv (va_runV (As := [.int (iI rb)]) (rest := []) ⟨hx, hb, hml, hown, hts⟩ (c_M_takeY (l := l) (E := E) (w0 := w49) (g := g) (ty := ty) (xm := mf ra) (ym := ym) (ne := ne) (mf := mf) (G := G) (yf := yf) (r := rb) (q0lt := q0lt) (q1lt := q4lt) (q2lt := q5lt) (q3lt := q2lt) (c0 := e51) (c1 := e57) (c2 := e58) (c3 := e55) (bm := bm) (bG := bG) (hr0 := by omega) H47.size) (z_cwV (C := "ScaledNumeralDeskModel") 1 hg wm_859 wm_856 wm_9 wm_858 wm_s53 (by decide +kernel) ⟨Nat.le_of_ble_eq_true rfl, Nat.le_of_ble_eq_true rfl⟩) (z_preV (r := ("ScaledNumeralDeskModel", TM, 17)) hK hG hn hH50 hA q0lt e51 rfl) rfl rfl hl.1 rfl (lv_room (Nat.le_of_ble_eq_true rfl)) d_M_compare_84 ⟨Nat.zero_le _, Nat.zero_le _⟩) hH50 hA (fun  w62 H60 lc61 hH63 p84 => ?_)
      obtain ⟨⟨y1, e64, e65, bd66, p84⟩, hg67⟩ := p84
      replace bd66 : bd y1 56 0 9 := bd66
      replace p84 : Vt y1 56 = Gt G rb := p84
      have e68 : w62 (g + 9) = zar E 56 x1 := (hg67 (g + 9) (nx_M_compare_8 ) (nx_M_compare_9 )).trans e52
      have e69 : w62 (g + 1) = zar E 8 kf := (hg67 (g + 1) (nx_M_compare_2 ) (nx_M_compare_10 )).trans e56
      have e70 : w62 (g + 2) = zaz E 8 mf := (hg67 (g + 2) (nx_M_compare_4 ) (nx_M_compare_11 )).trans e57
      have e71 : w62 (g + 4) = zar E 448 G := (hg67 (g + 4) (nx_M_compare_6 ) (nx_M_compare_12 )).trans e58
      have hf72 : ∀ k, k ≠ g → k ≠ (g + 9) → k ≠ (g + 10) → w62 k = w0 k := fun k g0 g1 g2 => (hg67 k g0 g2).trans (hf59 k g0 g1)
      have by2 : bd y1 56 0 9 := by assumption
      refine zv_bipush hx hb d_M_compare_87 rfl ?_
      refine lv_istore_n (lv' := [(3, .int (iI 55)), (0, .ref (ad E g)), (1, .int (iI ra)), (2, .int (iI rb))]) hx hb d_M_compare_89 rfl hl (by decide) rfl (fun ls hl => ?_)
      have L90 : ∀ (fu : Nat) (i : Int) (ls : Array Slot) (H73 : Heap) (lc74 : List Loc), (lv_has ls 6 [(0, .ref (ad E g)), (1, .int (iI ra)), (2, .int (iI rb)), (3, .int (iI i))]) → (zH E w62 (va_A (wl E w0) s.heap.size) s.heap H73 lc74) → (-1 ≤ i ∧ i ≤ 55) → (∀ j : Int, i < j → j < 56 → sv (mf ra) (x1 j) = sv (mf rb) (y1 j)) → (i + 1 < (fu : Int)) → W p l e rm_M_compare s m a below meth cd H73 lc74 0 0 Qf (F0 m 90 ls []) := by
        intro fu
        induction fu with
        | zero => intro i ls H73 lc74 hl hH hi hk hm; exact absurd hm (by omega)
        | succ fu ih =>
          intro i ls H73 lc74 hl hH hi hk hm
          refine lv_iload_n hx hb d_M_compare_90 rfl (lv_at hl 3 rfl) ?_
          refine zv_if_lt (tgt := 170) hx hb d_M_compare_91 rfl (by omega) (fun h75 => ?_) (fun h75 => ?_)
          · refine zv_iconst hx hb d_M_compare_170 ?_
            rw [hQ]
            exact z_iret hx hb hr hlk hH (⟨⟨((mf ra)), (mf rb), x1, y1, e64, e68, e65, bd53, bd66, ⟨hma, hmb, Or.inl ⟨by omega, by omega, Or.inr (Or.inl ⟨rfl, by rw [← p79, ← p84]; exact cmv_eq hma hmb (fun j g1 g2 => hk j (by omega) g2)⟩)⟩⟩⟩, (fun k g0 g1 g2 => hf72 k g0 g1 g2)⟩) d_M_compare_171
          · have L117 : ∀ (u : Int) (ls : Array Slot) (H76 : Heap) (lc77 : List Loc), (lv_has ls 6 [(0, .ref (ad E g)), (1, .int (iI ra)), (2, .int (iI rb)), (3, .int (iI i))]) → (zH E w62 (va_A (wl E w0) s.heap.size) s.heap H76 lc77) → (u = sv (mf ra) (x1 i)) → (-9 ≤ u ∧ u ≤ 9) → W p l e rm_M_compare s m a below meth cd H76 lc77 0 0 Qf (F0 m 117 ls [.int (iI u)]) := by
              intro u ls H76 lc77 hl hH hu hur
              refine lv_istore (lv' := [(4, .int (iI u)), (0, .ref (ad E g)), (1, .int (iI ra)), (2, .int (iI rb)), (3, .int (iI i))]) hx hb d_M_compare_117 hl (by decide) rfl (fun ls hl => ?_)
              have L142 : ∀ (v : Int) (ls : Array Slot) (H78 : Heap) (lc79 : List Loc), (lv_has ls 6 [(4, .int (iI u)), (0, .ref (ad E g)), (1, .int (iI ra)), (2, .int (iI rb)), (3, .int (iI i))]) → (zH E w62 (va_A (wl E w0) s.heap.size) s.heap H78 lc79) → (v = sv (mf rb) (y1 i)) → (-9 ≤ v ∧ v ≤ 9) → W p l e rm_M_compare s m a below meth cd H78 lc79 0 0 Qf (F0 m 142 ls [.int (iI v)]) := by
                intro v ls H78 lc79 hl hH hv hvr
                refine lv_istore (lv' := [(5, .int (iI v)), (4, .int (iI u)), (0, .ref (ad E g)), (1, .int (iI ra)), (2, .int (iI rb)), (3, .int (iI i))]) hx hb d_M_compare_142 hl (by decide) rfl (fun ls hl => ?_)
                refine lv_iload hx hb d_M_compare_144 (lv_at hl 1 rfl) ?_
                refine lv_iload hx hb d_M_compare_146 (lv_at hl 0 rfl) ?_
                refine zv_icmp_eq (tgt := 164) hx hb d_M_compare_148 rfl (by omega) (by omega) (fun h80 => ?_) (fun h80 => ?_)
                · refine zv_iinc (k := 5) (lv' := [(3, .int (iI (i + (-1)))), (5, .int (iI v)), (4, .int (iI u)), (0, .ref (ad E g)), (1, .int (iI ra)), (2, .int (iI rb))]) hx hb d_M_compare_164 hl rfl (by decide) rfl (fun ls hl => ?_)
                  refine lv_goto (tgt := 90) hx hb d_M_compare_167 rfl ?_
                  exact ih  (i + (-1)) _ H78 lc79 (lv_sub hl [3, 4, 5, 0] rfl) hH (by omega) (by intro j g1 g2; by_cases e8 : j = i; rw [e8, ← hu, ← hv]; omega; exact hk j (by omega) g2) (by omega)
                · refine lv_iload hx hb d_M_compare_151 (lv_at hl 1 rfl) ?_
                  refine lv_iload hx hb d_M_compare_153 (lv_at hl 0 rfl) ?_
                  refine zv_icmp_ge (tgt := 162) hx hb d_M_compare_155 rfl (by omega) (by omega) (fun h81 => ?_) (fun h81 => ?_)
                  · refine zv_iconst hx hb d_M_compare_162 ?_
                    rw [hQ]
                    exact z_iret hx hb hr hlk hH (⟨⟨((mf ra)), (mf rb), x1, y1, e64, e68, e65, bd53, bd66, ⟨hma, hmb, Or.inl ⟨by omega, by omega, Or.inr (Or.inr ⟨rfl, by rw [← p79, ← p84]; exact cmv_lt by2 bx1 hmb hma ⟨by omega, by omega⟩ (fun j g1 g2 => (hk j g1 g2).symm) (by rw [← hu, ← hv]; omega)⟩)⟩⟩⟩, (fun k g0 g1 g2 => hf72 k g0 g1 g2)⟩) d_M_compare_163
                  · refine zv_iconst hx hb d_M_compare_158 ?_
                    refine lv_goto (tgt := 163) hx hb d_M_compare_159 rfl ?_
                    rw [hQ]
                    exact z_iret hx hb hr hlk hH (⟨⟨((mf ra)), (mf rb), x1, y1, e64, e68, e65, bd53, bd66, ⟨hma, hmb, Or.inl ⟨by omega, by omega, Or.inl ⟨rfl, by rw [← p79, ← p84]; exact cmv_lt bx1 by2 hma hmb ⟨by omega, by omega⟩ hk (by rw [← hu, ← hv]; omega)⟩⟩⟩⟩, (fun k g0 g1 g2 => hf72 k g0 g1 g2)⟩) d_M_compare_163
              refine lv_aload_n hx hb d_M_compare_119 rfl (lv_at hl 1 rfl) ?_
              refine zv_get (C := "ScaledNumeralDeskModel") (T := TM) (N := 17) hx hb hg uM_in hown hK hH q0lt e64 rfl 12 (by decide) (hg _ wm_694) (fun _ h9 => h9) rfl d_M_compare_120 ?_
              refine zv_if_eq (tgt := 136) hx hb d_M_compare_123 rfl (by omega) (fun h82 => ?_) (fun h82 => ?_)
              · refine lv_aload_n hx hb d_M_compare_136 rfl (lv_at hl 1 rfl) ?_
                refine zv_get (C := "ScaledNumeralDeskModel") (T := TM) (N := 17) hx hb hg uM_in hown hK hH q0lt e64 rfl 10 (by decide) (hg _ wm_692) (fun _ h9 => h9) rfl d_M_compare_137 ?_
                refine lv_iload_n hx hb d_M_compare_140 rfl (lv_at hl 4 rfl) ?_
                refine zv_iald hx hb hK hH q2lt e65 (by omega) (by omega) (by omega) d_M_compare_141 ?_
                have b83 := bd66 i (by omega) (by omega)
                exact L142 (y1 i) _ H76 lc77 (lv_sub hl [0, 1, 2, 3, 4] rfl) hH (by first | (rw [show mf rb = 1 by omega, sv_1]; done) | (rw [show mf rb = 0 by omega, sv_0]; done)) (by omega)
              · refine lv_aload_n hx hb d_M_compare_126 rfl (lv_at hl 1 rfl) ?_
                refine zv_get (C := "ScaledNumeralDeskModel") (T := TM) (N := 17) hx hb hg uM_in hown hK hH q0lt e64 rfl 10 (by decide) (hg _ wm_692) (fun _ h9 => h9) rfl d_M_compare_127 ?_
                refine lv_iload_n hx hb d_M_compare_130 rfl (lv_at hl 4 rfl) ?_
                refine zv_iald hx hb hK hH q2lt e65 (by omega) (by omega) (by omega) d_M_compare_131 ?_
                have b84 := bd66 i (by omega) (by omega)
                refine zv_ineg hx hb d_M_compare_132 ?_
                refine lv_goto (tgt := 142) hx hb d_M_compare_133 rfl ?_
                exact L142 (-(y1 i)) _ H76 lc77 (lv_sub hl [0, 1, 2, 3, 4] rfl) hH (by first | (rw [show mf rb = 1 by omega, sv_1]; done) | (rw [show mf rb = 0 by omega, sv_0]; done)) (by omega)
            refine lv_aload_n hx hb d_M_compare_94 rfl (lv_at hl 0 rfl) ?_
            refine zv_get (C := "ScaledNumeralDeskModel") (T := TM) (N := 17) hx hb hg uM_in hown hK hH q0lt e64 rfl 11 (by decide) (hg _ wm_693) (fun _ h9 => h9) rfl d_M_compare_95 ?_
            refine zv_if_eq (tgt := 111) hx hb d_M_compare_98 rfl (by omega) (fun h85 => ?_) (fun h85 => ?_)
            · refine lv_aload_n hx hb d_M_compare_111 rfl (lv_at hl 0 rfl) ?_
              refine zv_get (C := "ScaledNumeralDeskModel") (T := TM) (N := 17) hx hb hg uM_in hown hK hH q0lt e64 rfl 9 (by decide) (hg _ wm_691) (fun _ h9 => h9) rfl d_M_compare_112 ?_
              refine lv_iload_n hx hb d_M_compare_115 rfl (lv_at hl 3 rfl) ?_
              refine zv_iald hx hb hK hH q1lt e68 (by omega) (by omega) (by omega) d_M_compare_116 ?_
              have b86 := bd53 i (by omega) (by omega)
              exact L117 (x1 i) _ H73 lc74 (lv_sub hl [0, 1, 2, 3] rfl) hH (by first | (rw [show mf ra = 1 by omega, sv_1]; done) | (rw [show mf ra = 0 by omega, sv_0]; done)) (by omega)
            · refine lv_aload_n hx hb d_M_compare_101 rfl (lv_at hl 0 rfl) ?_
              refine zv_get (C := "ScaledNumeralDeskModel") (T := TM) (N := 17) hx hb hg uM_in hown hK hH q0lt e64 rfl 9 (by decide) (hg _ wm_691) (fun _ h9 => h9) rfl d_M_compare_102 ?_
              refine lv_iload_n hx hb d_M_compare_105 rfl (lv_at hl 3 rfl) ?_
              refine zv_iald hx hb hK hH q1lt e68 (by omega) (by omega) (by omega) d_M_compare_106 ?_
              have b87 := bd53 i (by omega) (by omega)
              refine zv_ineg hx hb d_M_compare_107 ?_
              refine lv_goto (tgt := 117) hx hb d_M_compare_108 rfl ?_
              exact L117 (-(x1 i)) _ H73 lc74 (lv_sub hl [0, 1, 2, 3] rfl) hH (by first | (rw [show mf ra = 1 by omega, sv_1]; done) | (rw [show mf ra = 0 by omega, sv_0]; done)) (by omega)
      exact L90 ((55 + 1 : Int).toNat + 1) 55 _ H60 lc61 (lv_sub hl [1, 2, 3, 0] rfl) hH63 (by omega) (by intro j g1 g2; omega) (by omega)
    · exact L41 _ H8 lc9 (lv_sub hl [0, 1, 2] rfl) hH11 (by omega)
