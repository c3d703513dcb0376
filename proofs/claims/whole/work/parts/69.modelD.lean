theorem nx_M_adjust_0 {g : Nat}  : g + 10 ≠ g := by omega
theorem nx_M_adjust_1 {g : Nat}  : g + 10 ≠ g + 9 := by omega
theorem nx_M_adjust_2 {g : Nat}  : g + 11 ≠ g := by omega
theorem nx_M_adjust_3 {g : Nat}  : g + 11 ≠ g + 9 := by omega
theorem nx_M_adjust_4 {g : Nat}  : g + 12 ≠ g := by omega
theorem nx_M_adjust_5 {g : Nat}  : g + 12 ≠ g + 9 := by omega
theorem nx_M_adjust_6 {g : Nat}  : g + 13 ≠ g := by omega
theorem nx_M_adjust_7 {g : Nat}  : g + 13 ≠ g + 9 := by omega
theorem nx_M_adjust_8 {g : Nat}  : g + 1 ≠ g := by omega
theorem nx_M_adjust_9 {g : Nat}  : g + 1 ≠ g + 9 := by omega
theorem nx_M_adjust_10 {g : Nat}  : g + 2 ≠ g := by omega
theorem nx_M_adjust_11 {g : Nat}  : g + 2 ≠ g + 9 := by omega
theorem nx_M_adjust_12 {g : Nat}  : g + 3 ≠ g := by omega
theorem nx_M_adjust_13 {g : Nat}  : g + 3 ≠ g + 9 := by omega
theorem nx_M_adjust_14 {g : Nat}  : g + 4 ≠ g := by omega
theorem nx_M_adjust_15 {g : Nat}  : g + 4 ≠ g + 9 := by omega
theorem nx_M_adjust_16 {g : Nat}  : g + 9 ≠ g := by omega
theorem nx_M_adjust_17 {g : Nat}  : g + 9 ≠ g + 11 := by omega
theorem nx_M_adjust_18 {g : Nat}  : g + 10 ≠ g + 11 := by omega
theorem nx_M_adjust_19 {g : Nat}  : g + 12 ≠ g + 11 := by omega
theorem nx_M_adjust_20 {g : Nat}  : g + 13 ≠ g + 11 := by omega
theorem nx_M_adjust_21 {g : Nat}  : g + 1 ≠ g + 11 := by omega
theorem nx_M_adjust_22 {g : Nat}  : g + 2 ≠ g + 11 := by omega
theorem nx_M_adjust_23 {g : Nat}  : g + 3 ≠ g + 11 := by omega
theorem nx_M_adjust_24 {g : Nat}  : g + 4 ≠ g + 11 := by omega
theorem nx_M_adjust_25 {g : Nat}  : g + 9 ≠ g + 1 := by omega
theorem nx_M_adjust_26 {g : Nat}  : g + 9 ≠ g + 2 := by omega
theorem nx_M_adjust_27 {g : Nat}  : g + 9 ≠ g + 3 := by omega
theorem nx_M_adjust_28 {g : Nat}  : g + 9 ≠ g + 4 := by omega
theorem nx_M_adjust_29 {g : Nat}  : g + 10 ≠ g + 1 := by omega
theorem nx_M_adjust_30 {g : Nat}  : g + 10 ≠ g + 2 := by omega
theorem nx_M_adjust_31 {g : Nat}  : g + 10 ≠ g + 3 := by omega
theorem nx_M_adjust_32 {g : Nat}  : g + 10 ≠ g + 4 := by omega
theorem nx_M_adjust_33 {g : Nat}  : g + 12 ≠ g + 1 := by omega
theorem nx_M_adjust_34 {g : Nat}  : g + 12 ≠ g + 2 := by omega
theorem nx_M_adjust_35 {g : Nat}  : g + 12 ≠ g + 3 := by omega
theorem nx_M_adjust_36 {g : Nat}  : g + 12 ≠ g + 4 := by omega
theorem nx_M_adjust_37 {g : Nat}  : g + 13 ≠ g + 1 := by omega
theorem nx_M_adjust_38 {g : Nat}  : g + 13 ≠ g + 2 := by omega
theorem nx_M_adjust_39 {g : Nat}  : g + 13 ≠ g + 3 := by omega
theorem nx_M_adjust_40 {g : Nat}  : g + 13 ≠ g + 4 := by omega
theorem nx_M_adjust_41 {g : Nat}  : g ≠ g + 11 := by omega
theorem nx_M_adjust_42 {g : Nat}  : g ≠ g + 1 := by omega
theorem nx_M_adjust_43 {g : Nat}  : g ≠ g + 2 := by omega
theorem nx_M_adjust_44 {g : Nat}  : g ≠ g + 3 := by omega
theorem nx_M_adjust_45 {g : Nat}  : g ≠ g + 4 := by omega
theorem nx_M_adjust_46 {g : Nat}  : g + 11 ≠ g + 1 := by omega
theorem nx_M_adjust_47 {g : Nat}  : g + 11 ≠ g + 2 := by omega
theorem nx_M_adjust_48 {g : Nat}  : g + 11 ≠ g + 3 := by omega
theorem nx_M_adjust_49 {g : Nat}  : g + 11 ≠ g + 4 := by omega
theorem nx_M_adjust_50 {g : Nat}  : g + 9 ≠ g + 10 := by omega
theorem nx_M_adjust_51 {g : Nat}  : g + 9 ≠ g + 12 := by omega
theorem nx_M_adjust_52 {g : Nat}  : g + 9 ≠ g + 13 := by omega
theorem nx_M_adjust_53 {g : Nat}  : g + 1 ≠ g + 10 := by omega
theorem nx_M_adjust_54 {g : Nat}  : g + 1 ≠ g + 12 := by omega
theorem nx_M_adjust_55 {g : Nat}  : g + 1 ≠ g + 13 := by omega
theorem nx_M_adjust_56 {g : Nat}  : g + 2 ≠ g + 10 := by omega
theorem nx_M_adjust_57 {g : Nat}  : g + 2 ≠ g + 12 := by omega
theorem nx_M_adjust_58 {g : Nat}  : g + 2 ≠ g + 13 := by omega
theorem nx_M_adjust_59 {g : Nat}  : g + 3 ≠ g + 10 := by omega
theorem nx_M_adjust_60 {g : Nat}  : g + 3 ≠ g + 12 := by omega
theorem nx_M_adjust_61 {g : Nat}  : g + 3 ≠ g + 13 := by omega
theorem nx_M_adjust_62 {g : Nat}  : g + 4 ≠ g + 10 := by omega
theorem nx_M_adjust_63 {g : Nat}  : g + 4 ≠ g + 12 := by omega
theorem nx_M_adjust_64 {g : Nat}  : g + 4 ≠ g + 13 := by omega
theorem nx_M_adjust_65 {g : Nat}  : g + 2 ≠ g + 1 := by omega
theorem nx_M_adjust_66 {g : Nat}  : g + 3 ≠ g + 1 := by omega
theorem nx_M_adjust_67 {g : Nat}  : g + 4 ≠ g + 1 := by omega
def rm_M_adjust : Room := { frames := 4, cells := 0, slots := 0, locals := 90 }
set_option maxHeartbeats 4000000 in
set_option maxRecDepth 100000 in
theorem c_M_adjust (l : Launch) (E : zE) (w0 : zW) (g : Nat) (ty xm ym ne : Int) (xf yf f rf tf kf mf sf G : Int → Int) (op d ra n0 : Int) (q0lt : g < zn E) (q1lt : g + 9 < zn E) (q2lt : g + 10 < zn E) (q3lt : g + 11 < zn E) (q4lt : g + 12 < zn E) (q5lt : g + 13 < zn E) (q6lt : g + 1 < zn E) (q7lt : g + 2 < zn E) (q8lt : g + 3 < zn E) (q9lt : g + 4 < zn E) (c0 : w0 g = .inr (6, [.ref (ad E (g + 1)), .ref (ad E (g + 2)), .ref (ad E (g + 3)), .ref (ad E (g + 4)), .int (iI ty), .ref (ad E (g + 5)), .ref (ad E (g + 6)), .ref (ad E (g + 7)), .ref (ad E (g + 8)), .ref (ad E (g + 9)), .ref (ad E (g + 10)), .int (iI xm), .int (iI ym), .ref (ad E (g + 11)), .int (iI ne), .ref (ad E (g + 12)), .ref (ad E (g + 13))])) (c1 : w0 (g + 9) = zar E 56 xf) (c2 : w0 (g + 10) = zar E 56 yf) (c3 : w0 (g + 11) = zar E 140 f) (c4 : w0 (g + 12) = zar E 58 rf) (c5 : w0 (g + 13) = zar E 46 tf) (c6 : w0 (g + 1) = zar E 8 kf) (c7 : w0 (g + 2) = zaz E 8 mf) (c8 : w0 (g + 3) = zar E 8 sf) (c9 : w0 (g + 4) = zar E 448 G) (bx : bd xf 56 0 9) (by1 : bd yf 56 0 9) (bf : bd f 140 0 9) (br : bd rf 58 0 9) (bt : bd tf 46 0 9) (bk : bd kf 8 0 3) (bm : bd mf 8 0 1) (bs : bd sf 8 0 24) (bG : bd G 448 0 9) (hxm : xm = 0 ∨ xm = 1) (hym : ym = 0 ∨ ym = 1) (hne : ne = 0 ∨ ne = 1) (hop : 0 ≤ op ∧ op ≤ 6) (hd : 0 ≤ d ∧ d < 8) (hra : 0 ≤ ra ∧ ra < 8) (hn0 : zr n0) : zM l y_M_adjust ws_M_adjust rm_M_adjust E [.ref (ad E g), .int (iI op), .int (iI d), .int (iI ra), .int (iI n0)] w0 (zQi E w0 (fun z w' => (∃ (u' : Int) (n' : Int) (x' : Int → Int) (y' : Int → Int) (f' : Int → Int) (r' : Int → Int) (t' : Int → Int) (k' : Int → Int) (m' : Int → Int) (s' : Int → Int) (G' : Int → Int), w' g = .inr (6, [.ref (ad E (g + 1)), .ref (ad E (g + 2)), .ref (ad E (g + 3)), .ref (ad E (g + 4)), .int (iI ty), .ref (ad E (g + 5)), .ref (ad E (g + 6)), .ref (ad E (g + 7)), .ref (ad E (g + 8)), .ref (ad E (g + 9)), .ref (ad E (g + 10)), .int (iI u'), .int (iI ym), .ref (ad E (g + 11)), .int (iI n'), .ref (ad E (g + 12)), .ref (ad E (g + 13))]) ∧ w' (g + 9) = zar E 56 x' ∧ w' (g + 10) = zar E 56 y' ∧ w' (g + 11) = zar E 140 f' ∧ w' (g + 12) = zar E 58 r' ∧ w' (g + 13) = zar E 46 t' ∧ w' (g + 1) = zar E 8 k' ∧ w' (g + 2) = zaz E 8 m' ∧ w' (g + 3) = zar E 8 s' ∧ w' (g + 4) = zar E 448 G' ∧ bd x' 56 0 9 ∧ bd y' 56 0 9 ∧ bd f' 140 0 9 ∧ bd r' 58 0 9 ∧ bd t' 46 0 9 ∧ bd k' 8 0 3 ∧ bd m' 8 0 1 ∧ bd s' 8 0 24 ∧ bd G' 448 0 9 ∧ ((u' = 0 ∨ u' = 1) ∧ (n' = 0 ∨ n' = 1) ∧ AjR op (clm n0) z d (kf ra) (sf ra) (mf ra) (Gt G ra) kf sf mf G k' s' m' G')) ∧ ∀ k, k ≠ g → k ≠ (g + 9) → k ≠ (g + 10) → k ≠ (g + 11) → k ≠ (g + 12) → k ≠ (g + 13) → k ≠ (g + 1) → k ≠ (g + 2) → k ≠ (g + 3) → k ≠ (g + 4) → w' k = w0 k)) := by
  refine z_met (cc := b_M_adjust) (maxL := 7) (ret := (some .int)) (by decide +kernel) rfl (Nat.le_of_ble_eq_true rfl) ?_
  intro p e s m below meth cd ls a Qf hQ hC hl hH
  obtain ⟨hF, hr, hlk, hK, hG, hn⟩ := hC
  obtain ⟨hx, hb, hml, hown, hts⟩ := hF
  have hg : ∀ w ∈ GW, w.before a s = true := fun w h => hts w (List.mem_cons_of_mem _ h)
  have hA : ∀ q, s.heap.size ≤ q → va_A (wl E w0) s.heap.size q := fun q h => Or.inr h
  have hl : lv_has ls 7 [(0, .ref (ad E g)), (1, .int (iI op)), (2, .int (iI d)), (3, .int (iI ra)), (4, .int (iI n0))] := hl
  have bka := bk ra hra.1 hra.2
  have bma := bm ra hra.1 hra.2
  have bsa := bs ra hra.1 hra.2
  have vga := Gt_in bG hra
  have t24 := T24_lt vga
  have t80 := T80_139
  have t140 : Tp 140 = 10 * Tp 139 := Tp_s (i := 139) (by decide)
  refine lv_aload_n hx hb d_M_adjust_0 rfl (lv_at hl 0 rfl) ?_
  refine lv_iload_n hx hb d_M_adjust_1 rfl (lv_at hl 1 rfl) ?_
  refine zv_bipush hx hb d_M_adjust_2 rfl ?_
  refine z_calli (va_runV (As := [.int (iI op), .int (iI 6)]) (rest := []) ⟨hx, hb, hml, hown, hts⟩ (c_M_out (l := l) (E := E) (w0 := w0) (g := g) (ty := ty) (xm := xm) (ym := ym) (ne := ne) (v := op) (mo := 6) (q0lt := q0lt) (c0 := c0) (hv := by omega) (hmo := by omega) s.heap.size) (z_cwV (C := "ScaledNumeralDeskModel") 2 hg wm_746 wm_743 wm_9 wm_745 wm_s29 (by decide +kernel) ⟨Nat.le_of_ble_eq_true rfl, Nat.le_of_ble_eq_true rfl⟩) (z_preV (r := ("ScaledNumeralDeskModel", TM, 17)) hK hG hn hH hA q0lt c0 rfl) rfl rfl hl.1 rfl (lv_room (Nat.le_of_ble_eq_true rfl)) d_M_adjust_4 ⟨Nat.zero_le _, Nat.zero_le _⟩) hH hA (fun z5 w3 H1 lc2 hH4 q4 => ?_)
  obtain ⟨ew6, q4⟩ := q4
  rw [ew6] at hH4
  replace q4 : (z5 = 1 ∧ (op < 0 ∨ (6 : Int) < op)) ∨ (z5 = 0 ∧ 0 ≤ op ∧ op ≤ (6 : Int)) := q4
  refine zv_if_ne (tgt := 30) hx hb d_M_adjust_7 rfl (by omega) (fun h7 => absurd h7 (by omega)) (fun h7 => ?_)
  refine lv_aload_n hx hb d_M_adjust_10 rfl (lv_at hl 0 rfl) ?_
  refine lv_iload_n hx hb d_M_adjust_11 rfl (lv_at hl 2 rfl) ?_
  refine zv_bipush hx hb d_M_adjust_12 rfl ?_
  refine z_calli (va_runV (As := [.int (iI d), .int (iI 7)]) (rest := []) ⟨hx, hb, hml, hown, hts⟩ (c_M_out (l := l) (E := E) (w0 := w0) (g := g) (ty := ty) (xm := xm) (ym := ym) (ne := ne) (v := d) (mo := 7) (q0lt := q0lt) (c0 := c0) (hv := by omega) (hmo := by omega) H1.size) (z_cwV (C := "ScaledNumeralDeskModel") 2 hg wm_746 wm_743 wm_9 wm_745 wm_s29 (by decide +kernel) ⟨Nat.le_of_ble_eq_true rfl, Nat.le_of_ble_eq_true rfl⟩) (z_preV (r := ("ScaledNumeralDeskModel", TM, 17)) hK hG hn hH4 hA q0lt c0 rfl) rfl rfl hl.1 rfl (lv_room (Nat.le_of_ble_eq_true rfl)) d_M_adjust_14 ⟨Nat.zero_le _, Nat.zero_le _⟩) hH4 hA (fun z12 w10 H8 lc9 hH11 q14 => ?_)
  obtain ⟨ew13, q14⟩ := q14
  rw [ew13] at hH11
  replace q14 : (z12 = 1 ∧ (d < 0 ∨ (7 : Int) < d)) ∨ (z12 = 0 ∧ 0 ≤ d ∧ d ≤ (7 : Int)) := q14
  refine zv_if_ne (tgt := 30) hx hb d_M_adjust_17 rfl (by omega) (fun h14 => absurd h14 (by omega)) (fun h14 => ?_)
  refine lv_aload_n hx hb d_M_adjust_20 rfl (lv_at hl 0 rfl) ?_
  refine lv_iload_n hx hb d_M_adjust_21 rfl (lv_at hl 3 rfl) ?_
  refine zv_bipush hx hb d_M_adjust_22 rfl ?_
  refine z_calli (va_runV (As := [.int (iI ra), .int (iI 7)]) (rest := []) ⟨hx, hb, hml, hown, hts⟩ (c_M_out (l := l) (E := E) (w0 := w0) (g := g) (ty := ty) (xm := xm) (ym := ym) (ne := ne) (v := ra) (mo := 7) (q0lt := q0lt) (c0 := c0) (hv := by omega) (hmo := by omega) H8.size) (z_cwV (C := "ScaledNumeralDeskModel") 2 hg wm_746 wm_743 wm_9 wm_745 wm_s29 (by decide +kernel) ⟨Nat.le_of_ble_eq_true rfl, Nat.le_of_ble_eq_true rfl⟩) (z_preV (r := ("ScaledNumeralDeskModel", TM, 17)) hK hG hn hH11 hA q0lt c0 rfl) rfl rfl hl.1 rfl (lv_room (Nat.le_of_ble_eq_true rfl)) d_M_adjust_24 ⟨Nat.zero_le _, Nat.zero_le _⟩) hH11 hA (fun z19 w17 H15 lc16 hH18 q24 => ?_)
  obtain ⟨ew20, q24⟩ := q24
  rw [ew20] at hH18
  replace q24 : (z19 = 1 ∧ (ra < 0 ∨ (7 : Int) < ra)) ∨ (z19 = 0 ∧ 0 ≤ ra ∧ ra ≤ (7 : Int)) := q24
  refine zv_if_eq (tgt := 32) hx hb d_M_adjust_27 rfl (by omega) (fun h21 => ?_) (fun h21 => absurd h21 (by omega))
  have L66 : ∀  (ls : Array Slot) (H22 : Heap) (lc23 : List Loc), (lv_has ls 7 [(0, .ref (ad E g)), (1, .int (iI op)), (2, .int (iI d)), (3, .int (iI ra)), (4, .int (iI n0))]) → (zH E w0 (va_A (wl E w0) s.heap.size) s.heap H22 lc23) → (op = 6 ∧ (kf ra = 3 ∨ (kf ra = 0 ∧ mf ra = 1))) → W p l e rm_M_adjust s m a below meth cd H22 lc23 0 0 Qf (F0 m 66 ls []) := by
    intro ls H22 lc23 hl hH h66
    refine zv_bipush hx hb d_M_adjust_66 rfl ?_
    rw [hQ]
    exact z_iret hx hb hr hlk hH (⟨⟨xm, ne, xf, yf, f, rf, tf, kf, mf, sf, G, c0, c1, c2, c3, c4, c5, c6, c7, c8, c9, bx, by1, bf, br, bt, bk, bm, bs, bG, ⟨hxm, hne, Or.inl ⟨h66.1, h66.2, rfl, rfl, rfl, rfl, rfl⟩⟩⟩, (fun k _ _ _ _ _ _ _ _ _ _ => rfl)⟩) d_M_adjust_68
  have L69 : ∀  (ls : Array Slot) (H24 : Heap) (lc25 : List Loc), (lv_has ls 7 [(0, .ref (ad E g)), (1, .int (iI op)), (2, .int (iI d)), (3, .int (iI ra)), (4, .int (iI n0))]) → (zH E w0 (va_A (wl E w0) s.heap.size) s.heap H24 lc25) → (¬ (op = 6 ∧ (kf ra = 3 ∨ (kf ra = 0 ∧ mf ra = 1)))) → W p l e rm_M_adjust s m a below meth cd H24 lc25 0 0 Qf (F0 m 69 ls []) := by
    intro ls H24 lc25 hl hH h69
    refine lv_aload_n hx hb d_M_adjust_69 rfl (lv_at hl 0 rfl) ?_
    refine zv_get (C := "ScaledNumeralDeskModel") (T := TM) (N := 17) hx hb hg uM_in hown hK hH q0lt c0 rfl 0 (by decide) (hg _ wm_682) (fun _ h9 => h9) rfl d_M_adjust_70 ?_
    refine lv_iload_n hx hb d_M_adjust_73 rfl (lv_at hl 3 rfl) ?_
    refine zv_iald hx hb hK hH q6lt c6 (by omega) (by omega) (by omega) d_M_adjust_74 ?_
    have b26 := bk ra (by omega) (by omega)
    refine zv_if_eq (tgt := 116) hx hb d_M_adjust_75 rfl (by omega) (fun h27 => ?_) (fun h27 => ?_)
    · refine lv_aload_n hx hb d_M_adjust_116 rfl (lv_at hl 0 rfl) ?_
      refine lv_iload_n hx hb d_M_adjust_117 rfl (lv_at hl 3 rfl) ?_
      refine z_callv (va_runV (As := [.int (iI ra)]) (rest := []) ⟨hx, hb, hml, hown, hts⟩ (c_M_takeX (l := l) (E := E) (w0 := w0) (g := g) (ty := ty) (xm := xm) (ym := ym) (ne := ne) (mf := mf) (G := G) (xf := xf) (r := ra) (q0lt := q0lt) (q1lt := q7lt) (q2lt := q9lt) (q3lt := q1lt) (c0 := c0) (c1 := c7) (c2 := c9) (c3 := c1) (bm := bm) (bG := bG) (hr0 := by omega) H24.size) (z_cwV (C := "ScaledNumeralDeskModel") 1 hg wm_847 wm_844 wm_9 wm_846 wm_s50 (by decide +kernel) ⟨Nat.le_of_ble_eq_true rfl, Nat.le_of_ble_eq_true rfl⟩) (z_preV (r := ("ScaledNumeralDeskModel", TM, 17)) hK hG hn hH hA q0lt c0 rfl) rfl rfl hl.1 rfl (lv_room (Nat.le_of_ble_eq_true rfl)) d_M_adjust_118 ⟨Nat.zero_le _, Nat.zero_le _⟩) hH hA (fun  w30 H28 lc29 hH31 p118 => ?_)
      obtain ⟨⟨x1, e32, e33, bd34, p118⟩, hg35⟩ := p118
      replace bd34 : bd x1 56 0 9 := bd34
      replace p118 : Vt x1 56 = Gt G ra := p118
      have e36 : w30 (g + 10) = zar E 56 yf := (hg35 (g + 10) (nx_M_adjust_0 ) (nx_M_adjust_1 )).trans c2
      have e37 : w30 (g + 11) = zar E 140 f := (hg35 (g + 11) (nx_M_adjust_2 ) (nx_M_adjust_3 )).trans c3
      have e38 : w30 (g + 12) = zar E 58 rf := (hg35 (g + 12) (nx_M_adjust_4 ) (nx_M_adjust_5 )).trans c4
      have e39 : w30 (g + 13) = zar E 46 tf := (hg35 (g + 13) (nx_M_adjust_6 ) (nx_M_adjust_7 )).trans c5
      have e40 : w30 (g + 1) = zar E 8 kf := (hg35 (g + 1) (nx_M_adjust_8 ) (nx_M_adjust_9 )).trans c6
      have e41 : w30 (g + 2) = zaz E 8 mf := (hg35 (g + 2) (nx_M_adjust_10 ) (nx_M_adjust_11 )).trans c7
      have e42 : w30 (g + 3) = zar E 8 sf := (hg35 (g + 3) (nx_M_adjust_12 ) (nx_M_adjust_13 )).trans c8
      have e43 : w30 (g + 4) = zar E 448 G := (hg35 (g + 4) (nx_M_adjust_14 ) (nx_M_adjust_15 )).trans c9
      have hf44 : ∀ k, k ≠ g → k ≠ (g + 9) → w30 k = w0 k := fun k g0 g1 => hg35 k g0 g1
      refine lv_aload_n hx hb d_M_adjust_121 rfl (lv_at hl 0 rfl) ?_
      refine z_callv (va_runV (As := []) (rest := []) ⟨hx, hb, hml, hown, hts⟩ (c_M_spread (l := l) (E := E) (w0 := w30) (g := g) (ty := ty) (xm := mf ra) (ym := ym) (ne := ne) (xf := x1) (f := f) (q0lt := q0lt) (q1lt := q1lt) (q2lt := q3lt) (c0 := e32) (c1 := e33) (c2 := e37) (bx := bd34) (hxm := (by omega)) H28.size) (z_cwV (C := "ScaledNumeralDeskModel") 0 hg wm_851 wm_848 wm_9 wm_850 wm_s51 (by decide +kernel) ⟨Nat.le_of_ble_eq_true rfl, Nat.le_of_ble_eq_true rfl⟩) (z_preV (r := ("ScaledNumeralDeskModel", TM, 17)) hK hG hn hH31 hA q0lt e32 rfl) rfl rfl hl.1 rfl (lv_room (Nat.le_of_ble_eq_true rfl)) d_M_adjust_122 ⟨Nat.zero_le _, Nat.zero_le _⟩) hH31 hA (fun  w47 H45 lc46 hH48 p122 => ?_)
      obtain ⟨⟨f1, e49, e50, bd51, p122⟩, hg52⟩ := p122
      replace bd51 : bd f1 140 0 9 := bd51
      replace p122 : Vt f1 140 = Vt x1 56 * Tp 24 := p122
      have e53 : w47 (g + 9) = zar E 56 x1 := (hg52 (g + 9) (nx_M_adjust_16 ) (nx_M_adjust_17 )).trans e33
      have e54 : w47 (g + 10) = zar E 56 yf := (hg52 (g + 10) (nx_M_adjust_0 ) (nx_M_adjust_18 )).trans e36
      have e55 : w47 (g + 12) = zar E 58 rf := (hg52 (g + 12) (nx_M_adjust_4 ) (nx_M_adjust_19 )).trans e38
      have e56 : w47 (g + 13) = zar E 46 tf := (hg52 (g + 13) (nx_M_adjust_6 ) (nx_M_adjust_20 )).trans e39
      have e57 : w47 (g + 1) = zar E 8 kf := (hg52 (g + 1) (nx_M_adjust_8 ) (nx_M_adjust_21 )).trans e40
      have e58 : w47 (g + 2) = zaz E 8 mf := (hg52 (g + 2) (nx_M_adjust_10 ) (nx_M_adjust_22 )).trans e41
      have e59 : w47 (g + 3) = zar E 8 sf := (hg52 (g + 3) (nx_M_adjust_12 ) (nx_M_adjust_23 )).trans e42
      have e60 : w47 (g + 4) = zar E 448 G := (hg52 (g + 4) (nx_M_adjust_14 ) (nx_M_adjust_24 )).trans e43
      have hf61 : ∀ k, k ≠ g → k ≠ (g + 9) → k ≠ (g + 11) → w47 k = w0 k := fun k g0 g1 g2 => (hg52 k g0 g2).trans (hf44 k g0 g1)
      have bf1 : bd f1 140 0 9 := by assumption
      have hX : Vt f1 140 = Gt G ra * Tp 24 := by rw [p122, p118]
      have L151 : ∀ (m1 : Int) (ls : Array Slot) (H62 : Heap) (lc63 : List Loc), (lv_has ls 7 [(0, .ref (ad E g)), (1, .int (iI op)), (2, .int (iI d)), (3, .int (iI ra)), (4, .int (iI n0))]) → (zH E w47 (va_A (wl E w0) s.heap.size) s.heap H62 lc63) → (m1 = clm n0) → (-32 ≤ m1 ∧ m1 ≤ 24) → W p l e rm_M_adjust s m a below meth cd H62 lc63 0 0 Qf (F0 m 151 ls [.int (iI m1)]) := by
        intro m1 ls H62 lc63 hl hH hm1 hm2
        refine lv_istore (lv' := [(5, .int (iI m1)), (0, .ref (ad E g)), (1, .int (iI op)), (2, .int (iI d)), (3, .int (iI ra)), (4, .int (iI n0))]) hx hb d_M_adjust_151 hl (by decide) rfl (fun ls hl => ?_)
        refine lv_iload_n hx hb d_M_adjust_153 rfl (lv_at hl 2 rfl) ?_
        rcases (show op = 0 ∨ op = 1 ∨ op = 2 ∨ op = 3 ∨ op = 4 ∨ op = 5 ∨ op = 6 by omega) with rfl | rfl | rfl | rfl | rfl | rfl | rfl
        · refine lv_tableIn (x := iI 0) (off := 38) (tgt := 192) hx hb d_M_adjust_154 (by decide) (by decide) (by decide) (by decide) ?_
          refine lv_aload_n hx hb d_M_adjust_192 rfl (lv_at hl 1 rfl) ?_
          refine lv_iload_n hx hb d_M_adjust_193 rfl (lv_at hl 3 rfl) ?_
          refine lv_iload hx hb d_M_adjust_194 (lv_at hl 0 rfl) ?_
          refine z_calli (va_runV (As := [.int (iI d), .int (iI m1)]) (rest := []) ⟨hx, hb, hml, hown, hts⟩ (c_M_finish (l := l) (E := E) (w0 := w47) (g := g) (ty := ty) (xm := (mf ra)) (ym := ym) (ne := (mf ra)) (f := f1) (kf := kf) (mf := mf) (sf := sf) (G := G) (d := d) (n := m1) (q0lt := q0lt) (q1lt := q3lt) (q2lt := q6lt) (q3lt := q7lt) (q4lt := q8lt) (q5lt := q9lt) (c0 := e49) (c1 := e50) (c2 := e57) (c3 := e58) (c4 := e59) (c5 := e60) (bf := (fun j g1 g2 => by have := bf1 j g1 g2; omega)) (bk := bk) (bm := bm) (bs := bs) (bG := bG) (hne := by omega) (hV := (by rw [hX]; omega)) (hd := by omega) (hn := by omega) H62.size) (z_cwV (C := "ScaledNumeralDeskModel") 2 hg wm_786 wm_783 wm_9 wm_785 wm_s39 (by decide +kernel) ⟨Nat.le_of_ble_eq_true rfl, Nat.le_of_ble_eq_true rfl⟩) (z_preV (r := ("ScaledNumeralDeskModel", TM, 17)) hK hG hn hH hA q0lt e49 rfl) rfl rfl hl.1 rfl (lv_room (Nat.le_of_ble_eq_true rfl)) d_M_adjust_196 ⟨Nat.zero_le _, Nat.zero_le _⟩) hH hA (fun z68 w66 H64 lc65 hH67 p196 => ?_)
          obtain ⟨⟨n_69, f_70, k_71, m_72, s_73, x_74, e75, e76, e77, e78, e79, e80, bd81, bd82, bd83, bd84, bd85, p196⟩, hg86⟩ := p196
          replace bd81 : bd f_70 140 0 9 := bd81
          replace bd82 : bd k_71 8 0 3 := bd82
          replace bd83 : bd m_72 8 0 1 := bd83
          replace bd84 : bd s_73 8 0 24 := bd84
          replace bd85 : bd x_74 448 0 9 := bd85
          replace p196 : (n_69 = 0 ∨ n_69 = 1) ∧ ∃ X : Int, AbR (Vt f1 140) ((mf ra)) X n_69 ∧ KpR z68 d (mx0 m1) n_69 (Rn X (48 - m1)) kf sf mf G k_71 s_73 m_72 x_74 := p196
          have e87 : w66 (g + 9) = zar E 56 x1 := (hg86 (g + 9) (nx_M_adjust_16 ) (nx_M_adjust_17 ) (nx_M_adjust_25 ) (nx_M_adjust_26 ) (nx_M_adjust_27 ) (nx_M_adjust_28 )).trans e53
          have e88 : w66 (g + 10) = zar E 56 yf := (hg86 (g + 10) (nx_M_adjust_0 ) (nx_M_adjust_18 ) (nx_M_adjust_29 ) (nx_M_adjust_30 ) (nx_M_adjust_31 ) (nx_M_adjust_32 )).trans e54
          have e89 : w66 (g + 12) = zar E 58 rf := (hg86 (g + 12) (nx_M_adjust_4 ) (nx_M_adjust_19 ) (nx_M_adjust_33 ) (nx_M_adjust_34 ) (nx_M_adjust_35 ) (nx_M_adjust_36 )).trans e55
          have e90 : w66 (g + 13) = zar E 46 tf := (hg86 (g + 13) (nx_M_adjust_6 ) (nx_M_adjust_20 ) (nx_M_adjust_37 ) (nx_M_adjust_38 ) (nx_M_adjust_39 ) (nx_M_adjust_40 )).trans e56
          have hf91 : ∀ k, k ≠ g → k ≠ (g + 9) → k ≠ (g + 11) → k ≠ (g + 1) → k ≠ (g + 2) → k ≠ (g + 3) → k ≠ (g + 4) → w66 k = w0 k := fun k g0 g1 g2 g3 g4 g5 g6 => (hg86 k g0 g2 g3 g4 g5 g6).trans (hf61 k g0 g1 g2)
          obtain ⟨p196a, X, p196b, p196c⟩ := p196
          rw [hX] at p196b
          have ab := AbR_p p196b t24.1
          rw [ab.1, ab.2, hm1] at p196c
          rw [hQ]
          exact z_iret hx hb hr hlk hH67 (⟨⟨(((mf ra))), n_69, x1, yf, f_70, rf, tf, k_71, m_72, s_73, x_74, e75, e87, e88, e76, e89, e90, e77, e78, e79, e80, bd34, by1, bd81, br, bt, bd82, bd83, bd84, bd85, ⟨by omega, p196a, Or.inr (Or.inr ⟨h69, by omega, Or.inl ⟨rfl, p196c⟩⟩)⟩⟩, (fun k g0 g1 g2 g3 g4 g5 g6 g7 g8 g9 => hf91 k g0 g1 g3 g6 g7 g8 g9)⟩) d_M_adjust_199
        · refine lv_tableIn (x := iI 1) (off := 46) (tgt := 200) hx hb d_M_adjust_154 (by decide) (by decide) (by decide) (by decide) ?_
          refine lv_aload_n hx hb d_M_adjust_200 rfl (lv_at hl 1 rfl) ?_
          refine zv_bipush hx hb d_M_adjust_201 rfl ?_
          refine lv_iload hx hb d_M_adjust_203 (lv_at hl 0 rfl) ?_
          refine zv_isub hx hb d_M_adjust_205 ?_
          refine z_callv (va_runV (As := [.int (iI (48 - m1))]) (rest := []) ⟨hx, hb, hml, hown, hts⟩ (c_M_cut (l := l) (E := E) (w0 := w47) (g := g) (ty := ty) (xm := (mf ra)) (ym := ym) (ne := (mf ra)) (f := f1) (x := 48 - m1) (q0lt := q0lt) (q1lt := q3lt) (c0 := e49) (c1 := e50) (bf := bd51) (hx0 := by omega) H62.size) (z_cwV (C := "ScaledNumeralDeskModel") 1 hg wm_802 wm_799 wm_9 wm_801 wm_s43 (by decide +kernel) ⟨Nat.le_of_ble_eq_true rfl, Nat.le_of_ble_eq_true rfl⟩) (z_preV (r := ("ScaledNumeralDeskModel", TM, 17)) hK hG hn hH hA q0lt e49 rfl) rfl rfl hl.1 rfl (lv_room (Nat.le_of_ble_eq_true rfl)) d_M_adjust_206 ⟨Nat.zero_le _, Nat.zero_le _⟩) hH hA (fun  w94 H92 lc93 hH95 p206 => ?_)
          obtain ⟨⟨f2, e96, bd97, p206⟩, hg98⟩ := p206
          replace bd97 : bd f2 140 0 9 := bd97
          replace p206 : Vt f2 140 = Vt f1 140 / Tp (48 - m1) * Tp (48 - m1) ∧ ((48 - m1) < 140 → f2 (48 - m1) = f1 (48 - m1)) := p206
          have e99 : w94 g = .inr (6, [.ref (ad E (g + 1)), .ref (ad E (g + 2)), .ref (ad E (g + 3)), .ref (ad E (g + 4)), .int (iI ty), .ref (ad E (g + 5)), .ref (ad E (g + 6)), .ref (ad E (g + 7)), .ref (ad E (g + 8)), .ref (ad E (g + 9)), .ref (ad E (g + 10)), .int (iI ((mf ra))), .int (iI ym), .ref (ad E (g + 11)), .int (iI ((mf ra))), .ref (ad E (g + 12)), .ref (ad E (g + 13))]) := (hg98 g (nx_M_adjust_41 )).trans e49
          have e100 : w94 (g + 9) = zar E 56 x1 := (hg98 (g + 9) (nx_M_adjust_17 )).trans e53
          have e101 : w94 (g + 10) = zar E 56 yf := (hg98 (g + 10) (nx_M_adjust_18 )).trans e54
          have e102 : w94 (g + 12) = zar E 58 rf := (hg98 (g + 12) (nx_M_adjust_19 )).trans e55
          have e103 : w94 (g + 13) = zar E 46 tf := (hg98 (g + 13) (nx_M_adjust_20 )).trans e56
          have e104 : w94 (g + 1) = zar E 8 kf := (hg98 (g + 1) (nx_M_adjust_21 )).trans e57
          have e105 : w94 (g + 2) = zaz E 8 mf := (hg98 (g + 2) (nx_M_adjust_22 )).trans e58
          have e106 : w94 (g + 3) = zar E 8 sf := (hg98 (g + 3) (nx_M_adjust_23 )).trans e59
          have e107 : w94 (g + 4) = zar E 448 G := (hg98 (g + 4) (nx_M_adjust_24 )).trans e60
          have hf108 : ∀ k, k ≠ g → k ≠ (g + 9) → k ≠ (g + 11) → w94 k = w0 k := fun k g0 g1 g2 => (hg98 k g2).trans (hf61 k g0 g1 g2)
          refine lv_aload_n hx hb d_M_adjust_209 rfl (lv_at hl 1 rfl) ?_
          refine lv_iload_n hx hb d_M_adjust_210 rfl (lv_at hl 3 rfl) ?_
          have L222 : ∀ (mm : Int) (ls : Array Slot) (H109 : Heap) (lc110 : List Loc), (lv_has ls 7 [(5, .int (iI m1)), (0, .ref (ad E g)), (1, .int (iI 1)), (2, .int (iI d)), (3, .int (iI ra)), (4, .int (iI n0))]) → (zH E w94 (va_A (wl E w0) s.heap.size) s.heap H109 lc110) → (mm = mx0 m1) → (0 ≤ mm ∧ mm ≤ 24) → W p l e rm_M_adjust s m a below meth cd H109 lc110 0 0 Qf (F0 m 222 ls [.int (iI mm), .int (iI d), .ref (ad E g)]) := by
            intro mm ls H109 lc110 hl hH hmm hmm0
            refine z_calli (va_runV (As := [.int (iI d), .int (iI mm)]) (rest := []) ⟨hx, hb, hml, hown, hts⟩ (c_M_keep (l := l) (E := E) (w0 := w94) (g := g) (ty := ty) (xm := (mf ra)) (ym := ym) (ne := (mf ra)) (f := f2) (kf := kf) (mf := mf) (sf := sf) (G := G) (d := d) (sc := mm) (q0lt := q0lt) (q1lt := q3lt) (q2lt := q6lt) (q3lt := q7lt) (q4lt := q8lt) (q5lt := q9lt) (c0 := e99) (c1 := e96) (c2 := e104) (c3 := e105) (c4 := e106) (c5 := e107) (bf := bd97) (bk := bk) (bm := bm) (bs := bs) (bG := bG) (hne := by omega) (hd := by omega) (hsc := by omega) H109.size) (z_cwV (C := "ScaledNumeralDeskModel") 2 hg wm_806 wm_803 wm_9 wm_805 wm_s44 (by decide +kernel) ⟨Nat.le_of_ble_eq_true rfl, Nat.le_of_ble_eq_true rfl⟩) (z_preV (r := ("ScaledNumeralDeskModel", TM, 17)) hK hG hn hH hA q0lt e99 rfl) rfl rfl hl.1 rfl (lv_room (Nat.le_of_ble_eq_true rfl)) d_M_adjust_222 ⟨Nat.zero_le _, Nat.zero_le _⟩) hH hA (fun z115 w113 H111 lc112 hH114 p222 => ?_)
            obtain ⟨⟨k_116, m_117, s_118, x_119, e120, e121, e122, e123, bd124, bd125, bd126, bd127, p222⟩, hg128⟩ := p222
            replace bd124 : bd k_116 8 0 3 := bd124
            replace bd125 : bd m_117 8 0 1 := bd125
            replace bd126 : bd s_118 8 0 24 := bd126
            replace bd127 : bd x_119 448 0 9 := bd127
            replace p222 : KpR z115 d mm ((mf ra)) (Vt f2 140) kf sf mf G k_116 s_118 m_117 x_119 := p222
            have e129 : w113 g = .inr (6, [.ref (ad E (g + 1)), .ref (ad E (g + 2)), .ref (ad E (g + 3)), .ref (ad E (g + 4)), .int (iI ty), .ref (ad E (g + 5)), .ref (ad E (g + 6)), .ref (ad E (g + 7)), .ref (ad E (g + 8)), .ref (ad E (g + 9)), .ref (ad E (g + 10)), .int (iI ((mf ra))), .int (iI ym), .ref (ad E (g + 11)), .int (iI ((mf ra))), .ref (ad E (g + 12)), .ref (ad E (g + 13))]) := (hg128 g (nx_M_adjust_42 ) (nx_M_adjust_43 ) (nx_M_adjust_44 ) (nx_M_adjust_45 )).trans e99
            have e130 : w113 (g + 9) = zar E 56 x1 := (hg128 (g + 9) (nx_M_adjust_25 ) (nx_M_adjust_26 ) (nx_M_adjust_27 ) (nx_M_adjust_28 )).trans e100
            have e131 : w113 (g + 10) = zar E 56 yf := (hg128 (g + 10) (nx_M_adjust_29 ) (nx_M_adjust_30 ) (nx_M_adjust_31 ) (nx_M_adjust_32 )).trans e101
            have e132 : w113 (g + 11) = zar E 140 f2 := (hg128 (g + 11) (nx_M_adjust_46 ) (nx_M_adjust_47 ) (nx_M_adjust_48 ) (nx_M_adjust_49 )).trans e96
            have e133 : w113 (g + 12) = zar E 58 rf := (hg128 (g + 12) (nx_M_adjust_33 ) (nx_M_adjust_34 ) (nx_M_adjust_35 ) (nx_M_adjust_36 )).trans e102
            have e134 : w113 (g + 13) = zar E 46 tf := (hg128 (g + 13) (nx_M_adjust_37 ) (nx_M_adjust_38 ) (nx_M_adjust_39 ) (nx_M_adjust_40 )).trans e103
            have hf135 : ∀ k, k ≠ g → k ≠ (g + 9) → k ≠ (g + 11) → k ≠ (g + 1) → k ≠ (g + 2) → k ≠ (g + 3) → k ≠ (g + 4) → w113 k = w0 k := fun k g0 g1 g2 g3 g4 g5 g6 => (hg128 k g3 g4 g5 g6).trans (hf108 k g0 g1 g2)
            rw [p206.1, hX, hmm, hm1] at p222
            rw [hQ]
            exact z_iret hx hb hr hlk hH114 (⟨⟨((mf ra)), ((mf ra)), x1, yf, f2, rf, tf, k_116, m_117, s_118, x_119, e129, e130, e131, e132, e133, e134, e120, e121, e122, e123, bd34, by1, bd97, br, bt, bd124, bd125, bd126, bd127, ⟨by omega, by omega, Or.inr (Or.inr ⟨h69, by omega, Or.inr (Or.inl ⟨rfl, p222⟩)⟩)⟩⟩, (fun k g0 g1 g2 g3 g4 g5 g6 g7 g8 g9 => hf135 k g0 g1 g3 g6 g7 g8 g9)⟩) d_M_adjust_225
          refine lv_iload hx hb d_M_adjust_211 (lv_at hl 0 rfl) ?_
          refine zv_if_ge (tgt := 220) hx hb d_M_adjust_213 rfl (by omega) (fun h136 => ?_) (fun h136 => ?_)
          · refine lv_iload hx hb d_M_adjust_220 (lv_at hl 0 rfl) ?_
            exact L222 m1 _ H92 lc93 (lv_sub hl [0, 1, 2, 3, 4, 5] rfl) hH95 (by unfold mx0; omega) (by omega)
          · refine zv_iconst hx hb d_M_adjust_216 ?_
            refine lv_goto (tgt := 222) hx hb d_M_adjust_217 rfl ?_
            exact L222 0 _ H92 lc93 (lv_sub hl [0, 1, 2, 3, 4, 5] rfl) hH95 (by unfold mx0; omega) (by omega)
        · refine lv_tableIn (x := iI 2) (off := 72) (tgt := 226) hx hb d_M_adjust_154 (by decide) (by decide) (by decide) (by decide) ?_
          refine lv_aload_n hx hb d_M_adjust_226 rfl (lv_at hl 1 rfl) ?_
          refine lv_iload_n hx hb d_M_adjust_227 rfl (lv_at hl 3 rfl) ?_
          refine lv_iload_n hx hb d_M_adjust_228 rfl (lv_at hl 2 rfl) ?_
          refine zv_iconst hx hb d_M_adjust_229 ?_
          refine zv_icmp_ne (tgt := 237) hx hb d_M_adjust_230 rfl (by omega) (by omega) (fun h137 => ?_) (fun h137 => absurd h137 (by omega))
          refine zv_iconst hx hb d_M_adjust_237 ?_
          refine z_calli (va_runV (As := [.int (iI d), .int (iI 0)]) (rest := []) ⟨hx, hb, hml, hown, hts⟩ (c_M_toWhole (l := l) (E := E) (w0 := w47) (g := g) (ty := ty) (xm := (mf ra)) (ym := ym) (ne := (mf ra)) (f := f1) (kf := kf) (mf := mf) (sf := sf) (G := G) (d := d) (dn := 0) (q0lt := q0lt) (q1lt := q3lt) (q2lt := q6lt) (q3lt := q7lt) (q4lt := q8lt) (q5lt := q9lt) (c0 := e49) (c1 := e50) (c2 := e57) (c3 := e58) (c4 := e59) (c5 := e60) (bf := bd51) (bk := bk) (bm := bm) (bs := bs) (bG := bG) (hne := by omega) (hd := by omega) (hdn := by omega) (hX0 := (by rw [hX]; omega)) H62.size) (z_cwV (C := "ScaledNumeralDeskModel") 2 hg wm_919 wm_916 wm_9 wm_918 wm_s67 (by decide +kernel) ⟨Nat.le_of_ble_eq_true rfl, Nat.le_of_ble_eq_true rfl⟩) (z_preV (r := ("ScaledNumeralDeskModel", TM, 17)) hK hG hn hH hA q0lt e49 rfl) rfl rfl hl.1 rfl (lv_room (Nat.le_of_ble_eq_true rfl)) d_M_adjust_238 ⟨Nat.zero_le _, Nat.zero_le _⟩) hH hA (fun z142 w140 H138 lc139 hH141 p238 => ?_)
          obtain ⟨⟨n_143, f_144, k_145, m_146, s_147, x_148, e149, e150, e151, e152, e153, e154, bd155, bd156, bd157, bd158, bd159, p238⟩, hg160⟩ := p238
          replace bd155 : bd f_144 140 0 9 := bd155
          replace bd156 : bd k_145 8 0 3 := bd156
          replace bd157 : bd m_146 8 0 1 := bd157
          replace bd158 : bd s_147 8 0 24 := bd158
          replace bd159 : bd x_148 448 0 9 := bd159
          replace p238 : (n_143 = 0 ∨ n_143 = 1) ∧ ∃ X : Int, TwR ((mf ra)) (0 : Int) (Vt f1 140) X ∧ KpR z142 d 0 ((mf ra)) X kf sf mf G k_145 s_147 m_146 x_148 := p238
          have e161 : w140 (g + 9) = zar E 56 x1 := (hg160 (g + 9) (nx_M_adjust_16 ) (nx_M_adjust_17 ) (nx_M_adjust_25 ) (nx_M_adjust_26 ) (nx_M_adjust_27 ) (nx_M_adjust_28 )).trans e53
          have e162 : w140 (g + 10) = zar E 56 yf := (hg160 (g + 10) (nx_M_adjust_0 ) (nx_M_adjust_18 ) (nx_M_adjust_29 ) (nx_M_adjust_30 ) (nx_M_adjust_31 ) (nx_M_adjust_32 )).trans e54
          have e163 : w140 (g + 12) = zar E 58 rf := (hg160 (g + 12) (nx_M_adjust_4 ) (nx_M_adjust_19 ) (nx_M_adjust_33 ) (nx_M_adjust_34 ) (nx_M_adjust_35 ) (nx_M_adjust_36 )).trans e55
          have e164 : w140 (g + 13) = zar E 46 tf := (hg160 (g + 13) (nx_M_adjust_6 ) (nx_M_adjust_20 ) (nx_M_adjust_37 ) (nx_M_adjust_38 ) (nx_M_adjust_39 ) (nx_M_adjust_40 )).trans e56
          have hf165 : ∀ k, k ≠ g → k ≠ (g + 9) → k ≠ (g + 11) → k ≠ (g + 1) → k ≠ (g + 2) → k ≠ (g + 3) → k ≠ (g + 4) → w140 k = w0 k := fun k g0 g1 g2 g3 g4 g5 g6 => (hg160 k g0 g2 g3 g4 g5 g6).trans (hf61 k g0 g1 g2)
          obtain ⟨p238a, X, p238b, p238c⟩ := p238
          rw [hX] at p238b
          rw [hQ]
          exact z_iret hx hb hr hlk hH141 (⟨⟨(((mf ra))), n_143, x1, yf, f_144, rf, tf, k_145, m_146, s_147, x_148, e149, e161, e162, e150, e163, e164, e151, e152, e153, e154, bd34, by1, bd155, br, bt, bd156, bd157, bd158, bd159, ⟨by omega, p238a, Or.inr (Or.inr ⟨h69, by omega, Or.inr (Or.inr (Or.inl ⟨by omega, X, p238b, p238c⟩))⟩)⟩⟩, (fun k g0 g1 g2 g3 g4 g5 g6 g7 g8 g9 => hf165 k g0 g1 g3 g6 g7 g8 g9)⟩) d_M_adjust_241
        · refine lv_tableIn (x := iI 3) (off := 72) (tgt := 226) hx hb d_M_adjust_154 (by decide) (by decide) (by decide) (by decide) ?_
          refine lv_aload_n hx hb d_M_adjust_226 rfl (lv_at hl 1 rfl) ?_
          refine lv_iload_n hx hb d_M_adjust_227 rfl (lv_at hl 3 rfl) ?_
          refine lv_iload_n hx hb d_M_adjust_228 rfl (lv_at hl 2 rfl) ?_
          refine zv_iconst hx hb d_M_adjust_229 ?_
          refine zv_icmp_ne (tgt := 237) hx hb d_M_adjust_230 rfl (by omega) (by omega) (fun h166 => absurd h166 (by omega)) (fun h166 => ?_)
          refine zv_iconst hx hb d_M_adjust_233 ?_
          refine lv_goto (tgt := 238) hx hb d_M_adjust_234 rfl ?_
          refine z_calli (va_runV (As := [.int (iI d), .int (iI 1)]) (rest := []) ⟨hx, hb, hml, hown, hts⟩ (c_M_toWhole (l := l) (E := E) (w0 := w47) (g := g) (ty := ty) (xm := (mf ra)) (ym := ym) (ne := (mf ra)) (f := f1) (kf := kf) (mf := mf) (sf := sf) (G := G) (d := d) (dn := 1) (q0lt := q0lt) (q1lt := q3lt) (q2lt := q6lt) (q3lt := q7lt) (q4lt := q8lt) (q5lt := q9lt) (c0 := e49) (c1 := e50) (c2 := e57) (c3 := e58) (c4 := e59) (c5 := e60) (bf := bd51) (bk := bk) (bm := bm) (bs := bs) (bG := bG) (hne := by omega) (hd := by omega) (hdn := by omega) (hX0 := (by rw [hX]; omega)) H62.size) (z_cwV (C := "ScaledNumeralDeskModel") 2 hg wm_919 wm_916 wm_9 wm_918 wm_s67 (by decide +kernel) ⟨Nat.le_of_ble_eq_true rfl, Nat.le_of_ble_eq_true rfl⟩) (z_preV (r := ("ScaledNumeralDeskModel", TM, 17)) hK hG hn hH hA q0lt e49 rfl) rfl rfl hl.1 rfl (lv_room (Nat.le_of_ble_eq_true rfl)) d_M_adjust_238 ⟨Nat.zero_le _, Nat.zero_le _⟩) hH hA (fun z171 w169 H167 lc168 hH170 p238 => ?_)
          obtain ⟨⟨n_172, f_173, k_174, m_175, s_176, x_177, e178, e179, e180, e181, e182, e183, bd184, bd185, bd186, bd187, bd188, p238⟩, hg189⟩ := p238
          replace bd184 : bd f_173 140 0 9 := bd184
          replace bd185 : bd k_174 8 0 3 := bd185
          replace bd186 : bd m_175 8 0 1 := bd186
          replace bd187 : bd s_176 8 0 24 := bd187
          replace bd188 : bd x_177 448 0 9 := bd188
          replace p238 : (n_172 = 0 ∨ n_172 = 1) ∧ ∃ X : Int, TwR ((mf ra)) (1 : Int) (Vt f1 140) X ∧ KpR z171 d 0 ((mf ra)) X kf sf mf G k_174 s_176 m_175 x_177 := p238
          have e190 : w169 (g + 9) = zar E 56 x1 := (hg189 (g + 9) (nx_M_adjust_16 ) (nx_M_adjust_17 ) (nx_M_adjust_25 ) (nx_M_adjust_26 ) (nx_M_adjust_27 ) (nx_M_adjust_28 )).trans e53
          have e191 : w169 (g + 10) = zar E 56 yf := (hg189 (g + 10) (nx_M_adjust_0 ) (nx_M_adjust_18 ) (nx_M_adjust_29 ) (nx_M_adjust_30 ) (nx_M_adjust_31 ) (nx_M_adjust_32 )).trans e54
          have e192 : w169 (g + 12) = zar E 58 rf := (hg189 (g + 12) (nx_M_adjust_4 ) (nx_M_adjust_19 ) (nx_M_adjust_33 ) (nx_M_adjust_34 ) (nx_M_adjust_35 ) (nx_M_adjust_36 )).trans e55
          have e193 : w169 (g + 13) = zar E 46 tf := (hg189 (g + 13) (nx_M_adjust_6 ) (nx_M_adjust_20 ) (nx_M_adjust_37 ) (nx_M_adjust_38 ) (nx_M_adjust_39 ) (nx_M_adjust_40 )).trans e56
          have hf194 : ∀ k, k ≠ g → k ≠ (g + 9) → k ≠ (g + 11) → k ≠ (g + 1) → k ≠ (g + 2) → k ≠ (g + 3) → k ≠ (g + 4) → w169 k = w0 k := fun k g0 g1 g2 g3 g4 g5 g6 => (hg189 k g0 g2 g3 g4 g5 g6).trans (hf61 k g0 g1 g2)
          obtain ⟨p238a, X, p238b, p238c⟩ := p238
          rw [hX] at p238b
          rw [hQ]
          exact z_iret hx hb hr hlk hH170 (⟨⟨(((mf ra))), n_172, x1, yf, f_173, rf, tf, k_174, m_175, s_176, x_177, e178, e190, e191, e179, e192, e193, e180, e181, e182, e183, bd34, by1, bd184, br, bt, bd185, bd186, bd187, bd188, ⟨by omega, p238a, Or.inr (Or.inr ⟨h69, by omega, Or.inr (Or.inr (Or.inl ⟨by omega, X, p238b, p238c⟩))⟩)⟩⟩, (fun k g0 g1 g2 g3 g4 g5 g6 g7 g8 g9 => hf194 k g0 g1 g3 g6 g7 g8 g9)⟩) d_M_adjust_241
        · refine lv_tableIn (x := iI 4) (off := 88) (tgt := 242) hx hb d_M_adjust_154 (by decide) (by decide) (by decide) (by decide) ?_
          refine lv_aload_n hx hb d_M_adjust_242 rfl (lv_at hl 1 rfl) ?_
          have L255 : ∀ (nn : Int) (ls : Array Slot) (H195 : Heap) (lc196 : List Loc), (lv_has ls 7 [(5, .int (iI m1)), (0, .ref (ad E g)), (1, .int (iI 4)), (2, .int (iI d)), (3, .int (iI ra)), (4, .int (iI n0))]) → (zH E w47 (va_A (wl E w0) s.heap.size) s.heap H195 lc196) → (nn = 1 - mf ra) → (nn = 0 ∨ nn = 1) → W p l e rm_M_adjust s m a below meth cd H195 lc196 0 0 Qf (F0 m 255 ls [.int (iI nn), .ref (ad E g)]) := by
            intro nn ls H195 lc196 hl hH hnn9 hnn
            refine zv_put (C := "ScaledNumeralDeskModel") (T := TM) (N := 17) (fs' := [.ref (ad E (g + 1)), .ref (ad E (g + 2)), .ref (ad E (g + 3)), .ref (ad E (g + 4)), .int (iI ty), .ref (ad E (g + 5)), .ref (ad E (g + 6)), .ref (ad E (g + 7)), .ref (ad E (g + 8)), .ref (ad E (g + 9)), .ref (ad E (g + 10)), .int (iI ((mf ra))), .int (iI ym), .ref (ad E (g + 11)), .int (iI nn), .ref (ad E (g + 12)), .ref (ad E (g + 13))]) hx hb hg uM_in tyM tyM_ok nmM hown hK hH q0lt e49 rfl 14 (by decide) (hg _ wm_696) (fun _ h9 => h9) rfl (ty := tyM 14) (by decide +kernel) (by exact nar_z hnn) (by exact fit_z hnn) (Nat.le_of_ble_eq_true rfl) d_M_adjust_255 rfl (fun H198 lc199 w197 hH200 e201 hg202 => ?_)
            have e203 : w197 (g + 9) = zar E 56 x1 := (hg202 (g + 9) (nx_M_adjust_16 )).trans e53
            have e204 : w197 (g + 10) = zar E 56 yf := (hg202 (g + 10) (nx_M_adjust_0 )).trans e54
            have e205 : w197 (g + 11) = zar E 140 f1 := (hg202 (g + 11) (nx_M_adjust_2 )).trans e50
            have e206 : w197 (g + 12) = zar E 58 rf := (hg202 (g + 12) (nx_M_adjust_4 )).trans e55
            have e207 : w197 (g + 13) = zar E 46 tf := (hg202 (g + 13) (nx_M_adjust_6 )).trans e56
            have e208 : w197 (g + 1) = zar E 8 kf := (hg202 (g + 1) (nx_M_adjust_8 )).trans e57
            have e209 : w197 (g + 2) = zaz E 8 mf := (hg202 (g + 2) (nx_M_adjust_10 )).trans e58
            have e210 : w197 (g + 3) = zar E 8 sf := (hg202 (g + 3) (nx_M_adjust_12 )).trans e59
            have e211 : w197 (g + 4) = zar E 448 G := (hg202 (g + 4) (nx_M_adjust_14 )).trans e60
            have hf212 : ∀ k, k ≠ g → k ≠ (g + 9) → k ≠ (g + 11) → w197 k = w0 k := fun k g0 g1 g2 => (hg202 k g0).trans (hf61 k g0 g1 g2)
            refine lv_aload_n hx hb d_M_adjust_258 rfl (lv_at hl 1 rfl) ?_
            refine lv_iload_n hx hb d_M_adjust_259 rfl (lv_at hl 3 rfl) ?_
            refine lv_aload_n hx hb d_M_adjust_260 rfl (lv_at hl 1 rfl) ?_
            refine zv_get (C := "ScaledNumeralDeskModel") (T := TM) (N := 17) hx hb hg uM_in hown hK hH200 q0lt e201 rfl 2 (by decide) (hg _ wm_684) (fun _ h9 => h9) rfl d_M_adjust_261 ?_
            refine lv_iload_n hx hb d_M_adjust_264 rfl (lv_at hl 4 rfl) ?_
            refine zv_iald hx hb hK hH200 q8lt e210 (by omega) (by omega) (by omega) d_M_adjust_265 ?_
            have b213 := bs ra (by omega) (by omega)
            refine z_calli (va_runV (As := [.int (iI d), .int (iI (sf ra))]) (rest := []) ⟨hx, hb, hml, hown, hts⟩ (c_M_keep (l := l) (E := E) (w0 := w197) (g := g) (ty := ty) (xm := (mf ra)) (ym := ym) (ne := nn) (f := f1) (kf := kf) (mf := mf) (sf := sf) (G := G) (d := d) (sc := sf ra) (q0lt := q0lt) (q1lt := q3lt) (q2lt := q6lt) (q3lt := q7lt) (q4lt := q8lt) (q5lt := q9lt) (c0 := e201) (c1 := e205) (c2 := e208) (c3 := e209) (c4 := e210) (c5 := e211) (bf := bd51) (bk := bk) (bm := bm) (bs := bs) (bG := bG) (hne := by omega) (hd := by omega) (hsc := by omega) H198.size) (z_cwV (C := "ScaledNumeralDeskModel") 2 hg wm_806 wm_803 wm_9 wm_805 wm_s44 (by decide +kernel) ⟨Nat.le_of_ble_eq_true rfl, Nat.le_of_ble_eq_true rfl⟩) (z_preV (r := ("ScaledNumeralDeskModel", TM, 17)) hK hG hn hH200 hA q0lt e201 rfl) rfl rfl hl.1 rfl (lv_room (Nat.le_of_ble_eq_true rfl)) d_M_adjust_266 ⟨Nat.zero_le _, Nat.zero_le _⟩) hH200 hA (fun z218 w216 H214 lc215 hH217 p266 => ?_)
            obtain ⟨⟨k_219, m_220, s_221, x_222, e223, e224, e225, e226, bd227, bd228, bd229, bd230, p266⟩, hg231⟩ := p266
            replace bd227 : bd k_219 8 0 3 := bd227
            replace bd228 : bd m_220 8 0 1 := bd228
            replace bd229 : bd s_221 8 0 24 := bd229
            replace bd230 : bd x_222 448 0 9 := bd230
            replace p266 : KpR z218 d (sf ra) nn (Vt f1 140) kf sf mf G k_219 s_221 m_220 x_222 := p266
            have e232 : w216 g = .inr (6, [.ref (ad E (g + 1)), .ref (ad E (g + 2)), .ref (ad E (g + 3)), .ref (ad E (g + 4)), .int (iI ty), .ref (ad E (g + 5)), .ref (ad E (g + 6)), .ref (ad E (g + 7)), .ref (ad E (g + 8)), .ref (ad E (g + 9)), .ref (ad E (g + 10)), .int (iI ((mf ra))), .int (iI ym), .ref (ad E (g + 11)), .int (iI nn), .ref (ad E (g + 12)), .ref (ad E (g + 13))]) := (hg231 g (nx_M_adjust_42 ) (nx_M_adjust_43 ) (nx_M_adjust_44 ) (nx_M_adjust_45 )).trans e201
            have e233 : w216 (g + 9) = zar E 56 x1 := (hg231 (g + 9) (nx_M_adjust_25 ) (nx_M_adjust_26 ) (nx_M_adjust_27 ) (nx_M_adjust_28 )).trans e203
            have e234 : w216 (g + 10) = zar E 56 yf := (hg231 (g + 10) (nx_M_adjust_29 ) (nx_M_adjust_30 ) (nx_M_adjust_31 ) (nx_M_adjust_32 )).trans e204
            have e235 : w216 (g + 11) = zar E 140 f1 := (hg231 (g + 11) (nx_M_adjust_46 ) (nx_M_adjust_47 ) (nx_M_adjust_48 ) (nx_M_adjust_49 )).trans e205
            have e236 : w216 (g + 12) = zar E 58 rf := (hg231 (g + 12) (nx_M_adjust_33 ) (nx_M_adjust_34 ) (nx_M_adjust_35 ) (nx_M_adjust_36 )).trans e206
            have e237 : w216 (g + 13) = zar E 46 tf := (hg231 (g + 13) (nx_M_adjust_37 ) (nx_M_adjust_38 ) (nx_M_adjust_39 ) (nx_M_adjust_40 )).trans e207
            have hf238 : ∀ k, k ≠ g → k ≠ (g + 9) → k ≠ (g + 11) → k ≠ (g + 1) → k ≠ (g + 2) → k ≠ (g + 3) → k ≠ (g + 4) → w216 k = w0 k := fun k g0 g1 g2 g3 g4 g5 g6 => (hg231 k g3 g4 g5 g6).trans (hf212 k g0 g1 g2)
            rw [hX, hnn9] at p266
            rw [hQ]
            exact z_iret hx hb hr hlk hH217 (⟨⟨((mf ra)), nn, x1, yf, f1, rf, tf, k_219, m_220, s_221, x_222, e232, e233, e234, e235, e236, e237, e223, e224, e225, e226, bd34, by1, bd51, br, bt, bd227, bd228, bd229, bd230, ⟨by omega, hnn, Or.inr (Or.inr ⟨h69, by omega, Or.inr (Or.inr (Or.inr (Or.inl ⟨rfl, p266⟩)))⟩)⟩⟩, (fun k g0 g1 g2 g3 g4 g5 g6 g7 g8 g9 => hf238 k g0 g1 g3 g6 g7 g8 g9)⟩) d_M_adjust_269
          refine lv_aload_n hx hb d_M_adjust_243 rfl (lv_at hl 1 rfl) ?_
          refine zv_get (C := "ScaledNumeralDeskModel") (T := TM) (N := 17) hx hb hg uM_in hown hK hH q0lt e49 rfl 14 (by decide) (hg _ wm_696) (fun _ h9 => h9) rfl d_M_adjust_244 ?_
          refine zv_if_ne (tgt := 254) hx hb d_M_adjust_247 rfl (by omega) (fun h239 => ?_) (fun h239 => ?_)
          · refine zv_iconst hx hb d_M_adjust_254 ?_
            exact L255 0 _ H62 lc63 (lv_sub hl [0, 1, 2, 3, 4, 5] rfl) hH (by omega) (by omega)
          · refine zv_iconst hx hb d_M_adjust_250 ?_
            refine lv_goto (tgt := 255) hx hb d_M_adjust_251 rfl ?_
            exact L255 1 _ H62 lc63 (lv_sub hl [0, 1, 2, 3, 4, 5] rfl) hH (by omega) (by omega)
        · refine lv_tableIn (x := iI 5) (off := 116) (tgt := 270) hx hb d_M_adjust_154 (by decide) (by decide) (by decide) (by decide) ?_
          refine lv_aload_n hx hb d_M_adjust_270 rfl (lv_at hl 1 rfl) ?_
          refine lv_iload_n hx hb d_M_adjust_271 rfl (lv_at hl 3 rfl) ?_
          refine lv_aload_n hx hb d_M_adjust_272 rfl (lv_at hl 1 rfl) ?_
          refine z_calli (va_runV (As := []) (rest := [.int (iI d), .ref (ad E g)]) ⟨hx, hb, hml, hown, hts⟩ (c_M_least (l := l) (E := E) (w0 := w47) (g := g) (ty := ty) (xm := (mf ra)) (ym := ym) (ne := (mf ra)) (f := f1) (q0lt := q0lt) (q1lt := q3lt) (c0 := e49) (c1 := e50) (bf := bd51) H62.size) (z_cwV (C := "ScaledNumeralDeskModel") 0 hg wm_923 wm_920 wm_9 wm_922 wm_s68 (by decide +kernel) ⟨Nat.le_of_ble_eq_true rfl, Nat.le_of_ble_eq_true rfl⟩) (z_preV (r := ("ScaledNumeralDeskModel", TM, 17)) hK hG hn hH hA q0lt e49 rfl) rfl rfl hl.1 rfl (lv_room (Nat.le_of_ble_eq_true rfl)) d_M_adjust_273 ⟨Nat.zero_le _, Nat.zero_le _⟩) hH hA (fun le w242 H240 lc241 hH243 p273 => ?_)
          obtain ⟨ew244, p273⟩ := p273
          rw [ew244] at hH243
          replace p273 : LeR (Vt f1 140) le := p273
          have lei : 0 ≤ le ∧ le ≤ 24 := ⟨p273.1, p273.2.1⟩
          refine z_calli (va_runV (As := [.int (iI d), .int (iI le)]) (rest := []) ⟨hx, hb, hml, hown, hts⟩ (c_M_keep (l := l) (E := E) (w0 := w47) (g := g) (ty := ty) (xm := (mf ra)) (ym := ym) (ne := (mf ra)) (f := f1) (kf := kf) (mf := mf) (sf := sf) (G := G) (d := d) (sc := le) (q0lt := q0lt) (q1lt := q3lt) (q2lt := q6lt) (q3lt := q7lt) (q4lt := q8lt) (q5lt := q9lt) (c0 := e49) (c1 := e50) (c2 := e57) (c3 := e58) (c4 := e59) (c5 := e60) (bf := bd51) (bk := bk) (bm := bm) (bs := bs) (bG := bG) (hne := by omega) (hd := by omega) (hsc := by omega) H240.size) (z_cwV (C := "ScaledNumeralDeskModel") 2 hg wm_806 wm_803 wm_9 wm_805 wm_s44 (by decide +kernel) ⟨Nat.le_of_ble_eq_true rfl, Nat.le_of_ble_eq_true rfl⟩) (z_preV (r := ("ScaledNumeralDeskModel", TM, 17)) hK hG hn hH243 hA q0lt e49 rfl) rfl rfl hl.1 rfl (lv_room (Nat.le_of_ble_eq_true rfl)) d_M_adjust_276 ⟨Nat.zero_le _, Nat.zero_le _⟩) hH243 hA (fun z249 w247 H245 lc246 hH248 p276 => ?_)
          obtain ⟨⟨k_250, m_251, s_252, x_253, e254, e255, e256, e257, bd258, bd259, bd260, bd261, p276⟩, hg262⟩ := p276
          replace bd258 : bd k_250 8 0 3 := bd258
          replace bd259 : bd m_251 8 0 1 := bd259
          replace bd260 : bd s_252 8 0 24 := bd260
          replace bd261 : bd x_253 448 0 9 := bd261
          replace p276 : KpR z249 d le ((mf ra)) (Vt f1 140) kf sf mf G k_250 s_252 m_251 x_253 := p276
          have e263 : w247 g = .inr (6, [.ref (ad E (g + 1)), .ref (ad E (g + 2)), .ref (ad E (g + 3)), .ref (ad E (g + 4)), .int (iI ty), .ref (ad E (g + 5)), .ref (ad E (g + 6)), .ref (ad E (g + 7)), .ref (ad E (g + 8)), .ref (ad E (g + 9)), .ref (ad E (g + 10)), .int (iI ((mf ra))), .int (iI ym), .ref (ad E (g + 11)), .int (iI ((mf ra))), .ref (ad E (g + 12)), .ref (ad E (g + 13))]) := (hg262 g (nx_M_adjust_42 ) (nx_M_adjust_43 ) (nx_M_adjust_44 ) (nx_M_adjust_45 )).trans e49
          have e264 : w247 (g + 9) = zar E 56 x1 := (hg262 (g + 9) (nx_M_adjust_25 ) (nx_M_adjust_26 ) (nx_M_adjust_27 ) (nx_M_adjust_28 )).trans e53
          have e265 : w247 (g + 10) = zar E 56 yf := (hg262 (g + 10) (nx_M_adjust_29 ) (nx_M_adjust_30 ) (nx_M_adjust_31 ) (nx_M_adjust_32 )).trans e54
          have e266 : w247 (g + 11) = zar E 140 f1 := (hg262 (g + 11) (nx_M_adjust_46 ) (nx_M_adjust_47 ) (nx_M_adjust_48 ) (nx_M_adjust_49 )).trans e50
          have e267 : w247 (g + 12) = zar E 58 rf := (hg262 (g + 12) (nx_M_adjust_33 ) (nx_M_adjust_34 ) (nx_M_adjust_35 ) (nx_M_adjust_36 )).trans e55
          have e268 : w247 (g + 13) = zar E 46 tf := (hg262 (g + 13) (nx_M_adjust_37 ) (nx_M_adjust_38 ) (nx_M_adjust_39 ) (nx_M_adjust_40 )).trans e56
          have hf269 : ∀ k, k ≠ g → k ≠ (g + 9) → k ≠ (g + 11) → k ≠ (g + 1) → k ≠ (g + 2) → k ≠ (g + 3) → k ≠ (g + 4) → w247 k = w0 k := fun k g0 g1 g2 g3 g4 g5 g6 => (hg262 k g3 g4 g5 g6).trans (hf61 k g0 g1 g2)
          rw [hX] at p276 p273
          rw [hQ]
          exact z_iret hx hb hr hlk hH248 (⟨⟨((mf ra)), ((mf ra)), x1, yf, f1, rf, tf, k_250, m_251, s_252, x_253, e263, e264, e265, e266, e267, e268, e254, e255, e256, e257, bd34, by1, bd51, br, bt, bd258, bd259, bd260, bd261, ⟨by omega, by omega, Or.inr (Or.inr ⟨h69, by omega, Or.inr (Or.inr (Or.inr (Or.inr (Or.inl ⟨rfl, _, p273, p276⟩))))⟩)⟩⟩, (fun k g0 g1 g2 g3 g4 g5 g6 g7 g8 g9 => hf269 k g0 g1 g3 g6 g7 g8 g9)⟩) d_M_adjust_279
        · refine lv_tableOut (x := iI 6) (tgt := 280) hx hb d_M_adjust_154 (by decide) (by decide) ?_
          refine zv_bipush hx hb d_M_adjust_280 rfl ?_
          refine zv_iconst hx hb d_M_adjust_282 ?_
          refine lv_aload_n hx hb d_M_adjust_283 rfl (lv_at hl 1 rfl) ?_
          refine zv_iconst hx hb d_M_adjust_284 ?_
          refine z_calli (va_runV (As := [.int (iI 0)]) (rest := [.int (iI 2), .int (iI 16)]) ⟨hx, hb, hml, hown, hts⟩ (c_M_weightX (l := l) (E := E) (w0 := w47) (g := g) (ty := ty) (xm := (mf ra)) (ym := ym) (ne := (mf ra)) (xf := x1) (yf := yf) (q0lt := q0lt) (q1lt := q1lt) (q2lt := q2lt) (c0 := e49) (c1 := e53) (c2 := e54) (bx := bd34) (by1 := by1) H62.size) (z_cwV (C := "ScaledNumeralDeskModel") 1 hg wm_883 wm_880 wm_9 wm_882 wm_s59 (by decide +kernel) ⟨Nat.le_of_ble_eq_true rfl, Nat.le_of_ble_eq_true rfl⟩) (z_preV (r := ("ScaledNumeralDeskModel", TM, 17)) hK hG hn hH hA q0lt e49 rfl) rfl rfl hl.1 rfl (lv_room (Nat.le_of_ble_eq_true rfl)) d_M_adjust_285 ⟨Nat.zero_le _, Nat.zero_le _⟩) hH hA (fun w w272 H270 lc271 hH273 p285 => ?_)
          obtain ⟨ew274, p285⟩ := p285
          rw [ew274] at hH273
          replace p285 : Wt (Vt x1 56) w := p285
          rw [p118] at p285
          have w4 := Wt_in p285
          have rpi := rp_in (w := w) bsa
          refine zv_imul hx hb d_M_adjust_288 ?_
          refine zv_isub hx hb d_M_adjust_289 ?_
          refine lv_istore (lv' := [(6, .int (iI (16 - (2 * w)))), (5, .int (iI m1)), (0, .ref (ad E g)), (1, .int (iI 6)), (2, .int (iI d)), (3, .int (iI ra)), (4, .int (iI n0))]) hx hb d_M_adjust_290 hl (by decide) rfl (fun ls hl => ?_)
          have L314 : ∀ (k2 : Int) (ls : Array Slot) (H275 : Heap) (lc276 : List Loc), (lv_has ls 7 [(6, .int (iI (16 - (2 * w)))), (5, .int (iI m1)), (0, .ref (ad E g)), (1, .int (iI 6)), (2, .int (iI d)), (3, .int (iI ra)), (4, .int (iI n0))]) → (zH E w47 (va_A (wl E w0) s.heap.size) s.heap H275 lc276) → (k2 = max (16 - 2 * w) (sf ra)) → W p l e rm_M_adjust s m a below meth cd H275 lc276 0 0 Qf (F0 m 314 ls [.int (iI k2)]) := by
            intro k2 ls H275 lc276 hl hH hk2
            refine lv_istore (lv' := [(6, .int (iI k2)), (5, .int (iI m1)), (0, .ref (ad E g)), (1, .int (iI 6)), (2, .int (iI d)), (3, .int (iI ra)), (4, .int (iI n0))]) hx hb d_M_adjust_314 hl (by decide) rfl (fun ls hl => ?_)
            have L330 : ∀ (k3 : Int) (ls : Array Slot) (H277 : Heap) (lc278 : List Loc), (lv_has ls 7 [(6, .int (iI k2)), (5, .int (iI m1)), (0, .ref (ad E g)), (1, .int (iI 6)), (2, .int (iI d)), (3, .int (iI ra)), (4, .int (iI n0))]) → (zH E w47 (va_A (wl E w0) s.heap.size) s.heap H277 lc278) → (k3 = rp w (sf ra)) → (0 ≤ k3 ∧ k3 ≤ 24) → W p l e rm_M_adjust s m a below meth cd H277 lc278 0 0 Qf (F0 m 330 ls [.int (iI k3)]) := by
              intro k3 ls H277 lc278 hl hH hk3 hk30
              refine lv_istore (lv' := [(6, .int (iI k3)), (5, .int (iI m1)), (0, .ref (ad E g)), (1, .int (iI 6)), (2, .int (iI d)), (3, .int (iI ra)), (4, .int (iI n0))]) hx hb d_M_adjust_330 hl (by decide) rfl (fun ls hl => ?_)
              refine lv_aload_n hx hb d_M_adjust_332 rfl (lv_at hl 2 rfl) ?_
              refine lv_iload hx hb d_M_adjust_333 (lv_at hl 0 rfl) ?_
              refine zv_iconst hx hb d_M_adjust_335 ?_
              refine zv_iadd hx hb d_M_adjust_336 ?_
              refine z_callv (va_runV (As := [.int (iI (k3 + 1))]) (rest := []) ⟨hx, hb, hml, hown, hts⟩ (c_M_squareRoot (l := l) (E := E) (w0 := w47) (g := g) (ty := ty) (xm := (mf ra)) (ym := ym) (ne := (mf ra)) (xf := x1) (yf := yf) (f := f1) (rf := rf) (tf := tf) (n := k3 + 1) (q0lt := q0lt) (q1lt := q1lt) (q2lt := q2lt) (q3lt := q3lt) (q4lt := q4lt) (q5lt := q5lt) (c0 := e49) (c1 := e53) (c2 := e54) (c3 := e50) (c4 := e55) (c5 := e56) (bx := bd34) (by1 := by1) (hn0 := by omega) H277.size) (z_cwV (C := "ScaledNumeralDeskModel") 1 hg wm_927 wm_924 wm_9 wm_926 wm_s69 (by decide +kernel) ⟨Nat.le_of_ble_eq_true rfl, Nat.le_of_ble_eq_true rfl⟩) (z_preV (r := ("ScaledNumeralDeskModel", TM, 17)) hK hG hn hH hA q0lt e49 rfl) rfl rfl hl.1 rfl (lv_room (Nat.le_of_ble_eq_true rfl)) d_M_adjust_337 ⟨Nat.zero_le _, Nat.zero_le _⟩) hH hA (fun  w281 H279 lc280 hH282 p337 => ?_)
              obtain ⟨⟨y3, f3, r3, t3, e283, e284, e285, e286, e287, bd288, bd289, bd290, bd291, p337⟩, hg292⟩ := p337
              replace bd288 : bd y3 56 0 9 := bd288
              replace bd289 : bd f3 140 0 9 := bd289
              replace bd290 : bd r3 58 0 9 := bd290
              replace bd291 : bd t3 46 0 9 := bd291
              replace p337 : ∃ S : Int, 0 ≤ S ∧ S * S ≤ Vt x1 56 * Tp (2 * (k3 + 1)) / Tp 24 ∧ Vt x1 56 * Tp (2 * (k3 + 1)) / Tp 24 < (S + 1) * (S + 1) ∧ Vt f3 140 = S * Tp (48 - (k3 + 1)) ∧ S < Tp 42 := p337
              have e293 : w281 (g + 9) = zar E 56 x1 := (hg292 (g + 9) (nx_M_adjust_16 ) (nx_M_adjust_50 ) (nx_M_adjust_17 ) (nx_M_adjust_51 ) (nx_M_adjust_52 )).trans e53
              have e294 : w281 (g + 1) = zar E 8 kf := (hg292 (g + 1) (nx_M_adjust_8 ) (nx_M_adjust_53 ) (nx_M_adjust_21 ) (nx_M_adjust_54 ) (nx_M_adjust_55 )).trans e57
              have e295 : w281 (g + 2) = zaz E 8 mf := (hg292 (g + 2) (nx_M_adjust_10 ) (nx_M_adjust_56 ) (nx_M_adjust_22 ) (nx_M_adjust_57 ) (nx_M_adjust_58 )).trans e58
              have e296 : w281 (g + 3) = zar E 8 sf := (hg292 (g + 3) (nx_M_adjust_12 ) (nx_M_adjust_59 ) (nx_M_adjust_23 ) (nx_M_adjust_60 ) (nx_M_adjust_61 )).trans e59
              have e297 : w281 (g + 4) = zar E 448 G := (hg292 (g + 4) (nx_M_adjust_14 ) (nx_M_adjust_62 ) (nx_M_adjust_24 ) (nx_M_adjust_63 ) (nx_M_adjust_64 )).trans e60
              have hf298 : ∀ k, k ≠ g → k ≠ (g + 9) → k ≠ (g + 11) → k ≠ (g + 10) → k ≠ (g + 12) → k ≠ (g + 13) → w281 k = w0 k := fun k g0 g1 g2 g3 g4 g5 => (hg292 k g0 g3 g2 g4 g5).trans (hf61 k g0 g1 g2)
              obtain ⟨SS, p337a, p337b, p337c, p337d, p337e⟩ := p337
              have bf3 : bd f3 140 0 9 := by assumption
              have sl := S_lt (k := k3 + 1) p337a p337e (by omega)
              rw [p118] at p337b p337c
              refine lv_aload_n hx hb d_M_adjust_340 rfl (lv_at hl 2 rfl) ?_
              refine lv_iload_n hx hb d_M_adjust_341 rfl (lv_at hl 4 rfl) ?_
              refine lv_iload hx hb d_M_adjust_342 (lv_at hl 0 rfl) ?_
              refine z_calli (va_runV (As := [.int (iI d), .int (iI k3)]) (rest := []) ⟨hx, hb, hml, hown, hts⟩ (c_M_finish (l := l) (E := E) (w0 := w281) (g := g) (ty := ty) (xm := ((mf ra))) (ym := ym) (ne := 0) (f := f3) (kf := kf) (mf := mf) (sf := sf) (G := G) (d := d) (n := k3) (q0lt := q0lt) (q1lt := q3lt) (q2lt := q6lt) (q3lt := q7lt) (q4lt := q8lt) (q5lt := q9lt) (c0 := e283) (c1 := e285) (c2 := e294) (c3 := e295) (c4 := e296) (c5 := e297) (bf := (fun j g1 g2 => by have := bf3 j g1 g2; omega)) (bk := bk) (bm := bm) (bs := bs) (bG := bG) (hne := (Or.inl rfl)) (hV := (by rw [p337d]; omega)) (hd := by omega) (hn := by omega) H279.size) (z_cwV (C := "ScaledNumeralDeskModel") 2 hg wm_786 wm_783 wm_9 wm_785 wm_s39 (by decide +kernel) ⟨Nat.le_of_ble_eq_true rfl, Nat.le_of_ble_eq_true rfl⟩) (z_preV (r := ("ScaledNumeralDeskModel", TM, 17)) hK hG hn hH282 hA q0lt e283 rfl) rfl rfl hl.1 rfl (lv_room (Nat.le_of_ble_eq_true rfl)) d_M_adjust_344 ⟨Nat.zero_le _, Nat.zero_le _⟩) hH282 hA (fun z303 w301 H299 lc300 hH302 p344 => ?_)
              obtain ⟨⟨n_304, f_305, k_306, m_307, s_308, x_309, e310, e311, e312, e313, e314, e315, bd316, bd317, bd318, bd319, bd320, p344⟩, hg321⟩ := p344
              replace bd316 : bd f_305 140 0 9 := bd316
              replace bd317 : bd k_306 8 0 3 := bd317
              replace bd318 : bd m_307 8 0 1 := bd318
              replace bd319 : bd s_308 8 0 24 := bd319
              replace bd320 : bd x_309 448 0 9 := bd320
              replace p344 : (n_304 = 0 ∨ n_304 = 1) ∧ ∃ X : Int, AbR (Vt f3 140) (0 : Int) X n_304 ∧ KpR z303 d (mx0 k3) n_304 (Rn X (48 - k3)) kf sf mf G k_306 s_308 m_307 x_309 := p344
              have e322 : w301 (g + 9) = zar E 56 x1 := (hg321 (g + 9) (nx_M_adjust_16 ) (nx_M_adjust_17 ) (nx_M_adjust_25 ) (nx_M_adjust_26 ) (nx_M_adjust_27 ) (nx_M_adjust_28 )).trans e293
              have e323 : w301 (g + 10) = zar E 56 y3 := (hg321 (g + 10) (nx_M_adjust_0 ) (nx_M_adjust_18 ) (nx_M_adjust_29 ) (nx_M_adjust_30 ) (nx_M_adjust_31 ) (nx_M_adjust_32 )).trans e284
              have e324 : w301 (g + 12) = zar E 58 r3 := (hg321 (g + 12) (nx_M_adjust_4 ) (nx_M_adjust_19 ) (nx_M_adjust_33 ) (nx_M_adjust_34 ) (nx_M_adjust_35 ) (nx_M_adjust_36 )).trans e286
              have e325 : w301 (g + 13) = zar E 46 t3 := (hg321 (g + 13) (nx_M_adjust_6 ) (nx_M_adjust_20 ) (nx_M_adjust_37 ) (nx_M_adjust_38 ) (nx_M_adjust_39 ) (nx_M_adjust_40 )).trans e287
              have hf326 : ∀ k, k ≠ g → k ≠ (g + 9) → k ≠ (g + 11) → k ≠ (g + 10) → k ≠ (g + 12) → k ≠ (g + 13) → k ≠ (g + 1) → k ≠ (g + 2) → k ≠ (g + 3) → k ≠ (g + 4) → w301 k = w0 k := fun k g0 g1 g2 g3 g4 g5 g6 g7 g8 g9 => (hg321 k g0 g2 g6 g7 g8 g9).trans (hf298 k g0 g1 g2 g3 g4 g5)
              obtain ⟨p344a, X, p344b, p344c⟩ := p344
              rw [p337d] at p344b
              have ab := AbR_p p344b sl.1
              rw [ab.1, ab.2, mx0_p hk30.1, hk3] at p344c
              rw [hk3] at p337b p337c
              rw [hQ]
              exact z_iret hx hb hr hlk hH302 (⟨⟨((((mf ra)))), n_304, x1, y3, f_305, r3, t3, k_306, m_307, s_308, x_309, e310, e322, e323, e311, e324, e325, e312, e313, e314, e315, bd34, bd288, bd316, bd290, bd291, bd317, bd318, bd319, bd320, ⟨by omega, p344a, Or.inr (Or.inr ⟨h69, by omega, Or.inr (Or.inr (Or.inr (Or.inr (Or.inr ⟨rfl, w, SS, p285, p337a, p337b, p337c, p344c⟩))))⟩)⟩⟩, (fun k g0 g1 g2 g3 g4 g5 g6 g7 g8 g9 => hf326 k g0 g1 g3 g2 g4 g5 g6 g7 g8 g9)⟩) d_M_adjust_347
            refine lv_iload hx hb d_M_adjust_316 (lv_at hl 0 rfl) ?_
            refine zv_bipush hx hb d_M_adjust_318 rfl ?_
            refine zv_icmp_le (tgt := 328) hx hb d_M_adjust_320 rfl (by omega) (by omega) (fun h327 => ?_) (fun h327 => ?_)
            · refine lv_iload hx hb d_M_adjust_328 (lv_at hl 0 rfl) ?_
              exact L330 k2 _ H275 lc276 (lv_sub hl [0, 1, 2, 3, 4, 5, 6] rfl) hH (by unfold rp; omega) (by omega)
            · refine zv_bipush hx hb d_M_adjust_323 rfl ?_
              refine lv_goto (tgt := 330) hx hb d_M_adjust_325 rfl ?_
              exact L330 24 _ H275 lc276 (lv_sub hl [0, 1, 2, 3, 4, 5, 6] rfl) hH (by unfold rp; omega) (by omega)
          refine lv_aload_n hx hb d_M_adjust_292 rfl (lv_at hl 2 rfl) ?_
          refine zv_get (C := "ScaledNumeralDeskModel") (T := TM) (N := 17) hx hb hg uM_in hown hK hH273 q0lt e49 rfl 2 (by decide) (hg _ wm_684) (fun _ h9 => h9) rfl d_M_adjust_293 ?_
          refine lv_iload_n hx hb d_M_adjust_296 rfl (lv_at hl 5 rfl) ?_
          refine zv_iald hx hb hK hH273 q8lt e59 (by omega) (by omega) (by omega) d_M_adjust_297 ?_
          have b328 := bs ra (by omega) (by omega)
          refine lv_iload hx hb d_M_adjust_298 (lv_at hl 0 rfl) ?_
          refine zv_icmp_le (tgt := 312) hx hb d_M_adjust_300 rfl (by omega) (by omega) (fun h329 => ?_) (fun h329 => ?_)
          · refine lv_iload hx hb d_M_adjust_312 (lv_at hl 0 rfl) ?_
            exact L314 (16 - (2 * w)) _ H270 lc271 (lv_sub hl [0, 1, 2, 3, 4, 5, 6] rfl) hH273 (by omega)
          · refine lv_aload_n hx hb d_M_adjust_303 rfl (lv_at hl 2 rfl) ?_
            refine zv_get (C := "ScaledNumeralDeskModel") (T := TM) (N := 17) hx hb hg uM_in hown hK hH273 q0lt e49 rfl 2 (by decide) (hg _ wm_684) (fun _ h9 => h9) rfl d_M_adjust_304 ?_
            refine lv_iload_n hx hb d_M_adjust_307 rfl (lv_at hl 5 rfl) ?_
            refine zv_iald hx hb hK hH273 q8lt e59 (by omega) (by omega) (by omega) d_M_adjust_308 ?_
            have b330 := bs ra (by omega) (by omega)
            refine lv_goto (tgt := 314) hx hb d_M_adjust_309 rfl ?_
            exact L314 (sf ra) _ H270 lc271 (lv_sub hl [0, 1, 2, 3, 4, 5, 6] rfl) hH273 (by omega)
      refine lv_iload hx hb d_M_adjust_125 (lv_at hl 4 rfl) ?_
      refine zv_bipush hx hb d_M_adjust_127 rfl ?_
      refine zv_icmp_ge (tgt := 137) hx hb d_M_adjust_129 rfl (by omega) (by omega) (fun h331 => ?_) (fun h331 => ?_)
      · refine lv_iload hx hb d_M_adjust_137 (lv_at hl 4 rfl) ?_
        refine zv_bipush hx hb d_M_adjust_139 rfl ?_
        refine zv_icmp_le (tgt := 149) hx hb d_M_adjust_141 rfl (by omega) (by omega) (fun h332 => ?_) (fun h332 => ?_)
        · refine lv_iload hx hb d_M_adjust_149 (lv_at hl 4 rfl) ?_
          exact L151 n0 _ H45 lc46 (lv_sub hl [0, 1, 2, 3, 4] rfl) hH48 (by unfold clm; omega) (by omega)
        · refine zv_bipush hx hb d_M_adjust_144 rfl ?_
          refine lv_goto (tgt := 151) hx hb d_M_adjust_146 rfl ?_
          exact L151 24 _ H45 lc46 (lv_sub hl [0, 1, 2, 3, 4] rfl) hH48 (by unfold clm; omega) (by omega)
      · refine zv_bipush hx hb d_M_adjust_132 rfl ?_
        refine lv_goto (tgt := 151) hx hb d_M_adjust_134 rfl ?_
        exact L151 (-32) _ H45 lc46 (lv_sub hl [0, 1, 2, 3, 4] rfl) hH48 (by unfold clm; omega) (by omega)
    · refine lv_aload_n hx hb d_M_adjust_78 rfl (lv_at hl 0 rfl) ?_
      refine lv_iload_n hx hb d_M_adjust_79 rfl (lv_at hl 2 rfl) ?_
      have L112 : ∀ (kc : Int) (ls : Array Slot) (H333 : Heap) (lc334 : List Loc), (lv_has ls 7 [(0, .ref (ad E g)), (1, .int (iI op)), (2, .int (iI d)), (3, .int (iI ra)), (4, .int (iI n0))]) → (zH E w0 (va_A (wl E w0) s.heap.size) s.heap H333 lc334) → ((op = 4 ∧ 1 < kf ra ∧ kc = 5 - kf ra) ∨ (¬ (op = 4 ∧ 1 < kf ra) ∧ kc = kf ra)) → W p l e rm_M_adjust s m a below meth cd H333 lc334 0 0 Qf (F0 m 112 ls [.int (iI kc), .int (iI d), .ref (ad E g)]) := by
        intro kc ls H333 lc334 hl hH hkc
        refine z_calli (va_runV (As := [.int (iI d), .int (iI kc)]) (rest := []) ⟨hx, hb, hml, hown, hts⟩ (c_M_special (l := l) (E := E) (w0 := w0) (g := g) (ty := ty) (xm := xm) (ym := ym) (ne := ne) (f := kf) (d := d) (k := kc) (q0lt := q0lt) (q1lt := q6lt) (c0 := c0) (c1 := c6) (hd0 := by omega) H333.size) (z_cwV (C := "ScaledNumeralDeskModel") 2 hg wm_754 wm_751 wm_9 wm_753 wm_s31 (by decide +kernel) ⟨Nat.le_of_ble_eq_true rfl, Nat.le_of_ble_eq_true rfl⟩) (z_preV (r := ("ScaledNumeralDeskModel", TM, 17)) hK hG hn hH hA q0lt c0 rfl) rfl rfl hl.1 rfl (lv_room (Nat.le_of_ble_eq_true rfl)) d_M_adjust_112 ⟨Nat.zero_le _, Nat.zero_le _⟩) hH hA (fun z339 w337 H335 lc336 hH338 p112 => ?_)
        obtain ⟨⟨e340, p112⟩, hg341⟩ := p112
        replace p112 : z339 = 0 := p112
        have e342 : w337 g = .inr (6, [.ref (ad E (g + 1)), .ref (ad E (g + 2)), .ref (ad E (g + 3)), .ref (ad E (g + 4)), .int (iI ty), .ref (ad E (g + 5)), .ref (ad E (g + 6)), .ref (ad E (g + 7)), .ref (ad E (g + 8)), .ref (ad E (g + 9)), .ref (ad E (g + 10)), .int (iI xm), .int (iI ym), .ref (ad E (g + 11)), .int (iI ne), .ref (ad E (g + 12)), .ref (ad E (g + 13))]) := (hg341 g (nx_M_adjust_42 )).trans c0
        have e343 : w337 (g + 9) = zar E 56 xf := (hg341 (g + 9) (nx_M_adjust_25 )).trans c1
        have e344 : w337 (g + 10) = zar E 56 yf := (hg341 (g + 10) (nx_M_adjust_29 )).trans c2
        have e345 : w337 (g + 11) = zar E 140 f := (hg341 (g + 11) (nx_M_adjust_46 )).trans c3
        have e346 : w337 (g + 12) = zar E 58 rf := (hg341 (g + 12) (nx_M_adjust_33 )).trans c4
        have e347 : w337 (g + 13) = zar E 46 tf := (hg341 (g + 13) (nx_M_adjust_37 )).trans c5
        have e348 : w337 (g + 2) = zaz E 8 mf := (hg341 (g + 2) (nx_M_adjust_65 )).trans c7
        have e349 : w337 (g + 3) = zar E 8 sf := (hg341 (g + 3) (nx_M_adjust_66 )).trans c8
        have e350 : w337 (g + 4) = zar E 448 G := (hg341 (g + 4) (nx_M_adjust_67 )).trans c9
        have hf351 : ∀ k, k ≠ (g + 1) → w337 k = w0 k := fun k g0 => hg341 k g0
        have bk9 := bd_up bk d kc (by omega)
        rw [hQ]
        exact z_iret hx hb hr hlk hH338 (⟨⟨xm, ne, xf, yf, f, rf, tf, (up kf d kc), mf, sf, G, e342, e343, e344, e345, e346, e347, e340, e348, e349, e350, bx, by1, bf, br, bt, (by assumption), bm, bs, bG, ⟨hxm, hne, Or.inr (Or.inl ⟨h69, by omega, by rcases hkc with h8 | h8; exact Or.inl ⟨h8.1, h8.2.1, p112, by rw [h8.2.2], rfl, rfl, rfl⟩; exact Or.inr ⟨h8.1, p112, by rw [h8.2], rfl, rfl, rfl⟩⟩)⟩⟩, (fun k g0 g1 g2 g3 g4 g5 g6 g7 g8 g9 => hf351 k g6)⟩) d_M_adjust_115
      refine lv_iload_n hx hb d_M_adjust_80 rfl (lv_at hl 1 rfl) ?_
      refine zv_iconst hx hb d_M_adjust_81 ?_
      refine zv_icmp_ne (tgt := 106) hx hb d_M_adjust_82 rfl (by omega) (by omega) (fun h352 => ?_) (fun h352 => ?_)
      · refine lv_aload_n hx hb d_M_adjust_106 rfl (lv_at hl 0 rfl) ?_
        refine zv_get (C := "ScaledNumeralDeskModel") (T := TM) (N := 17) hx hb hg uM_in hown hK hH q0lt c0 rfl 0 (by decide) (hg _ wm_682) (fun _ h9 => h9) rfl d_M_adjust_107 ?_
        refine lv_iload_n hx hb d_M_adjust_110 rfl (lv_at hl 3 rfl) ?_
        refine zv_iald hx hb hK hH q6lt c6 (by omega) (by omega) (by omega) d_M_adjust_111 ?_
        have b353 := bk ra (by omega) (by omega)
        exact L112 (kf ra) _ H24 lc25 (lv_sub hl [0, 1, 2, 3, 4] rfl) hH (by omega)
      · refine lv_aload_n hx hb d_M_adjust_85 rfl (lv_at hl 0 rfl) ?_
        refine zv_get (C := "ScaledNumeralDeskModel") (T := TM) (N := 17) hx hb hg uM_in hown hK hH q0lt c0 rfl 0 (by decide) (hg _ wm_682) (fun _ h9 => h9) rfl d_M_adjust_86 ?_
        refine lv_iload_n hx hb d_M_adjust_89 rfl (lv_at hl 3 rfl) ?_
        refine zv_iald hx hb hK hH q6lt c6 (by omega) (by omega) (by omega) d_M_adjust_90 ?_
        have b354 := bk ra (by omega) (by omega)
        refine zv_iconst hx hb d_M_adjust_91 ?_
        refine zv_icmp_le (tgt := 106) hx hb d_M_adjust_92 rfl (by omega) (by omega) (fun h355 => ?_) (fun h355 => ?_)
        · refine lv_aload_n hx hb d_M_adjust_106 rfl (lv_at hl 0 rfl) ?_
          refine zv_get (C := "ScaledNumeralDeskModel") (T := TM) (N := 17) hx hb hg uM_in hown hK hH q0lt c0 rfl 0 (by decide) (hg _ wm_682) (fun _ h9 => h9) rfl d_M_adjust_107 ?_
          refine lv_iload_n hx hb d_M_adjust_110 rfl (lv_at hl 3 rfl) ?_
          refine zv_iald hx hb hK hH q6lt c6 (by omega) (by omega) (by omega) d_M_adjust_111 ?_
          have b356 := bk ra (by omega) (by omega)
          exact L112 (kf ra) _ H24 lc25 (lv_sub hl [0, 1, 2, 3, 4] rfl) hH (by omega)
        · refine zv_iconst hx hb d_M_adjust_95 ?_
          refine lv_aload_n hx hb d_M_adjust_96 rfl (lv_at hl 0 rfl) ?_
          refine zv_get (C := "ScaledNumeralDeskModel") (T := TM) (N := 17) hx hb hg uM_in hown hK hH q0lt c0 rfl 0 (by decide) (hg _ wm_682) (fun _ h9 => h9) rfl d_M_adjust_97 ?_
          refine lv_iload_n hx hb d_M_adjust_100 rfl (lv_at hl 3 rfl) ?_
          refine zv_iald hx hb hK hH q6lt c6 (by omega) (by omega) (by omega) d_M_adjust_101 ?_
          have b357 := bk ra (by omega) (by omega)
          refine zv_isub hx hb d_M_adjust_102 ?_
          refine lv_goto (tgt := 112) hx hb d_M_adjust_103 rfl ?_
          exact L112 (5 - (kf ra)) _ H24 lc25 (lv_sub hl [0, 1, 2, 3, 4] rfl) hH (by omega)
  refine lv_iload_n hx hb d_M_adjust_32 rfl (lv_at hl 1 rfl) ?_
  refine zv_bipush hx hb d_M_adjust_33 rfl ?_
  refine zv_icmp_ne (tgt := 69) hx hb d_M_adjust_35 rfl (by omega) (by omega) (fun h358 => ?_) (fun h358 => ?_)
  · exact L69 _ H15 lc16 (lv_sub hl [0, 1, 2, 3, 4] rfl) hH18 (by omega)
  · refine lv_aload_n hx hb d_M_adjust_38 rfl (lv_at hl 0 rfl) ?_
    refine zv_get (C := "ScaledNumeralDeskModel") (T := TM) (N := 17) hx hb hg uM_in hown hK hH18 q0lt c0 rfl 0 (by decide) (hg _ wm_682) (fun _ h9 => h9) rfl d_M_adjust_39 ?_
    refine lv_iload_n hx hb d_M_adjust_42 rfl (lv_at hl 3 rfl) ?_
    refine zv_iald hx hb hK hH18 q6lt c6 (by omega) (by omega) (by omega) d_M_adjust_43 ?_
    have b359 := bk ra (by omega) (by omega)
    refine zv_iconst hx hb d_M_adjust_44 ?_
    refine zv_icmp_eq (tgt := 66) hx hb d_M_adjust_45 rfl (by omega) (by omega) (fun h360 => ?_) (fun h360 => ?_)
    · exact L66 _ H15 lc16 (lv_sub hl [0, 1, 2, 3, 4] rfl) hH18 (by omega)
    · refine lv_aload_n hx hb d_M_adjust_48 rfl (lv_at hl 0 rfl) ?_
      refine zv_get (C := "ScaledNumeralDeskModel") (T := TM) (N := 17) hx hb hg uM_in hown hK hH18 q0lt c0 rfl 0 (by decide) (hg _ wm_682) (fun _ h9 => h9) rfl d_M_adjust_49 ?_
      refine lv_iload_n hx hb d_M_adjust_52 rfl (lv_at hl 3 rfl) ?_
      refine zv_iald hx hb hK hH18 q6lt c6 (by omega) (by omega) (by omega) d_M_adjust_53 ?_
      have b361 := bk ra (by omega) (by omega)
      refine zv_if_ne (tgt := 69) hx hb d_M_adjust_54 rfl (by omega) (fun h362 => ?_) (fun h362 => ?_)
      · exact L69 _ H15 lc16 (lv_sub hl [0, 1, 2, 3, 4] rfl) hH18 (by omega)
      · refine lv_aload_n hx hb d_M_adjust_57 rfl (lv_at hl 0 rfl) ?_
        refine zv_get (C := "ScaledNumeralDeskModel") (T := TM) (N := 17) hx hb hg uM_in hown hK hH18 q0lt c0 rfl 1 (by decide) (hg _ wm_683) (fun _ h9 => h9) rfl d_M_adjust_58 ?_
        refine lv_iload_n hx hb d_M_adjust_61 rfl (lv_at hl 3 rfl) ?_
        refine zv_zald hx hb hK hH18 q7lt c7 (by omega) (by omega) (by omega) d_M_adjust_62 ?_
        have b363 := bm ra (by omega) (by omega)
        refine zv_if_eq (tgt := 69) hx hb d_M_adjust_63 rfl (by omega) (fun h364 => ?_) (fun h364 => ?_)
        · exact L69 _ H15 lc16 (lv_sub hl [0, 1, 2, 3, 4] rfl) hH18 (by omega)
        · exact L66 _ H15 lc16 (lv_sub hl [0, 1, 2, 3, 4] rfl) hH18 (by omega)
