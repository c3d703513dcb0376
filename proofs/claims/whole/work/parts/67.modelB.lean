theorem nx_M_apply_0 {g : Nat}  : g ≠ g + 1 := by omega
theorem nx_M_apply_1 {g : Nat}  : g + 9 ≠ g + 1 := by omega
theorem nx_M_apply_2 {g : Nat}  : g + 10 ≠ g + 1 := by omega
theorem nx_M_apply_3 {g : Nat}  : g + 11 ≠ g + 1 := by omega
theorem nx_M_apply_4 {g : Nat}  : g + 12 ≠ g + 1 := by omega
theorem nx_M_apply_5 {g : Nat}  : g + 2 ≠ g + 1 := by omega
theorem nx_M_apply_6 {g : Nat}  : g + 3 ≠ g + 1 := by omega
theorem nx_M_apply_7 {g : Nat}  : g + 4 ≠ g + 1 := by omega
theorem nx_M_apply_8 {g : Nat}  : g + 10 ≠ g := by omega
theorem nx_M_apply_9 {g : Nat}  : g + 10 ≠ g + 9 := by omega
theorem nx_M_apply_10 {g : Nat}  : g + 10 ≠ g + 11 := by omega
theorem nx_M_apply_11 {g : Nat}  : g + 10 ≠ g + 2 := by omega
theorem nx_M_apply_12 {g : Nat}  : g + 10 ≠ g + 3 := by omega
theorem nx_M_apply_13 {g : Nat}  : g + 10 ≠ g + 4 := by omega
theorem nx_M_apply_14 {g : Nat}  : g + 12 ≠ g := by omega
theorem nx_M_apply_15 {g : Nat}  : g + 12 ≠ g + 9 := by omega
theorem nx_M_apply_16 {g : Nat}  : g + 12 ≠ g + 11 := by omega
theorem nx_M_apply_17 {g : Nat}  : g + 12 ≠ g + 2 := by omega
theorem nx_M_apply_18 {g : Nat}  : g + 12 ≠ g + 3 := by omega
theorem nx_M_apply_19 {g : Nat}  : g + 12 ≠ g + 4 := by omega
theorem nx_M_apply_20 {g : Nat}  : g + 11 ≠ g := by omega
theorem nx_M_apply_21 {g : Nat}  : g + 11 ≠ g + 9 := by omega
theorem nx_M_apply_22 {g : Nat}  : g + 1 ≠ g := by omega
theorem nx_M_apply_23 {g : Nat}  : g + 1 ≠ g + 9 := by omega
theorem nx_M_apply_24 {g : Nat}  : g + 2 ≠ g := by omega
theorem nx_M_apply_25 {g : Nat}  : g + 2 ≠ g + 9 := by omega
theorem nx_M_apply_26 {g : Nat}  : g + 3 ≠ g := by omega
theorem nx_M_apply_27 {g : Nat}  : g + 3 ≠ g + 9 := by omega
theorem nx_M_apply_28 {g : Nat}  : g + 4 ≠ g := by omega
theorem nx_M_apply_29 {g : Nat}  : g + 4 ≠ g + 9 := by omega
theorem nx_M_apply_30 {g : Nat}  : g + 9 ≠ g := by omega
theorem nx_M_apply_31 {g : Nat}  : g + 9 ≠ g + 10 := by omega
theorem nx_M_apply_32 {g : Nat}  : g + 11 ≠ g + 10 := by omega
theorem nx_M_apply_33 {g : Nat}  : g + 12 ≠ g + 10 := by omega
theorem nx_M_apply_34 {g : Nat}  : g + 1 ≠ g + 10 := by omega
theorem nx_M_apply_35 {g : Nat}  : g + 2 ≠ g + 10 := by omega
theorem nx_M_apply_36 {g : Nat}  : g + 3 ≠ g + 10 := by omega
theorem nx_M_apply_37 {g : Nat}  : g + 4 ≠ g + 10 := by omega
theorem nx_M_apply_38 {g : Nat}  : g + 9 ≠ g + 11 := by omega
theorem nx_M_apply_39 {g : Nat}  : g + 9 ≠ g + 2 := by omega
theorem nx_M_apply_40 {g : Nat}  : g + 9 ≠ g + 3 := by omega
theorem nx_M_apply_41 {g : Nat}  : g + 9 ≠ g + 4 := by omega
theorem nx_M_apply_42 {g : Nat}  : g + 9 ≠ g + 12 := by omega
theorem nx_M_apply_43 {g : Nat}  : g + 10 ≠ g + 12 := by omega
theorem nx_M_apply_44 {g : Nat}  : g + 1 ≠ g + 11 := by omega
theorem nx_M_apply_45 {g : Nat}  : g + 1 ≠ g + 12 := by omega
theorem nx_M_apply_46 {g : Nat}  : g + 2 ≠ g + 11 := by omega
theorem nx_M_apply_47 {g : Nat}  : g + 2 ≠ g + 12 := by omega
theorem nx_M_apply_48 {g : Nat}  : g + 3 ≠ g + 11 := by omega
theorem nx_M_apply_49 {g : Nat}  : g + 3 ≠ g + 12 := by omega
theorem nx_M_apply_50 {g : Nat}  : g + 4 ≠ g + 11 := by omega
theorem nx_M_apply_51 {g : Nat}  : g + 4 ≠ g + 12 := by omega
theorem nx_M_apply_52 {g : Nat}  : g ≠ g + 2 := by omega
theorem nx_M_apply_53 {g : Nat}  : g ≠ g + 3 := by omega
theorem nx_M_apply_54 {g : Nat}  : g ≠ g + 4 := by omega
theorem nx_M_apply_55 {g : Nat}  : g + 11 ≠ g + 2 := by omega
theorem nx_M_apply_56 {g : Nat}  : g + 11 ≠ g + 3 := by omega
theorem nx_M_apply_57 {g : Nat}  : g + 11 ≠ g + 4 := by omega
def rm_M_apply : Room := { frames := 5, cells := 0, slots := 0, locals := 114 }
set_option maxHeartbeats 4000000 in
set_option maxRecDepth 100000 in
theorem c_M_apply (l : Launch) (E : zE) (w0 : zW) (g : Nat) (ty xm ym ne : Int) (xf yf f rf kf mf sf G : Int → Int) (op d ra rb : Int) (q0lt : g < zn E) (q1lt : g + 9 < zn E) (q2lt : g + 10 < zn E) (q3lt : g + 11 < zn E) (q4lt : g + 12 < zn E) (q5lt : g + 1 < zn E) (q6lt : g + 2 < zn E) (q7lt : g + 3 < zn E) (q8lt : g + 4 < zn E) (c0 : w0 g = .inr (6, [.ref (ad E (g + 1)), .ref (ad E (g + 2)), .ref (ad E (g + 3)), .ref (ad E (g + 4)), .int (iI ty), .ref (ad E (g + 5)), .ref (ad E (g + 6)), .ref (ad E (g + 7)), .ref (ad E (g + 8)), .ref (ad E (g + 9)), .ref (ad E (g + 10)), .int (iI xm), .int (iI ym), .ref (ad E (g + 11)), .int (iI ne), .ref (ad E (g + 12)), .ref (ad E (g + 13))])) (c1 : w0 (g + 9) = zar E 56 xf) (c2 : w0 (g + 10) = zar E 56 yf) (c3 : w0 (g + 11) = zar E 140 f) (c4 : w0 (g + 12) = zar E 58 rf) (c5 : w0 (g + 1) = zar E 8 kf) (c6 : w0 (g + 2) = zaz E 8 mf) (c7 : w0 (g + 3) = zar E 8 sf) (c8 : w0 (g + 4) = zar E 448 G) (bx : bd xf 56 0 9) (by1 : bd yf 56 0 9) (bf : bd f 140 0 9) (br : bd rf 58 0 9) (bk : bd kf 8 0 3) (bm : bd mf 8 0 1) (bs : bd sf 8 0 24) (bG : bd G 448 0 9) (hxm : xm = 0 ∨ xm = 1) (hym : ym = 0 ∨ ym = 1) (hne : ne = 0 ∨ ne = 1) (hop : 0 ≤ op ∧ op ≤ 5) (hd : 0 ≤ d ∧ d < 8) (hra : 0 ≤ ra ∧ ra < 8) (hrb : 0 ≤ rb ∧ rb < 8) : zM l y_M_apply ws_M_apply rm_M_apply E [.ref (ad E g), .int (iI op), .int (iI d), .int (iI ra), .int (iI rb)] w0 (zQi E w0 (fun z w' => (∃ (u' : Int) (v' : Int) (n' : Int) (x' : Int → Int) (y' : Int → Int) (f' : Int → Int) (r' : Int → Int) (k' : Int → Int) (m' : Int → Int) (s' : Int → Int) (G' : Int → Int), w' g = .inr (6, [.ref (ad E (g + 1)), .ref (ad E (g + 2)), .ref (ad E (g + 3)), .ref (ad E (g + 4)), .int (iI ty), .ref (ad E (g + 5)), .ref (ad E (g + 6)), .ref (ad E (g + 7)), .ref (ad E (g + 8)), .ref (ad E (g + 9)), .ref (ad E (g + 10)), .int (iI u'), .int (iI v'), .ref (ad E (g + 11)), .int (iI n'), .ref (ad E (g + 12)), .ref (ad E (g + 13))]) ∧ w' (g + 9) = zar E 56 x' ∧ w' (g + 10) = zar E 56 y' ∧ w' (g + 11) = zar E 140 f' ∧ w' (g + 12) = zar E 58 r' ∧ w' (g + 1) = zar E 8 k' ∧ w' (g + 2) = zaz E 8 m' ∧ w' (g + 3) = zar E 8 s' ∧ w' (g + 4) = zar E 448 G' ∧ bd x' 56 0 9 ∧ bd y' 56 0 9 ∧ bd f' 140 0 9 ∧ bd r' 58 0 9 ∧ bd k' 8 0 3 ∧ bd m' 8 0 1 ∧ bd s' 8 0 24 ∧ bd G' 448 0 9 ∧ ((u' = 0 ∨ u' = 1) ∧ (v' = 0 ∨ v' = 1) ∧ (n' = 0 ∨ n' = 1) ∧ ApR op z d (kf ra) (kf rb) (sf ra) (mf ra) (Gt G ra) (sf rb) (mf rb) (Gt G rb) kf sf mf G k' s' m' G')) ∧ ∀ k, k ≠ g → k ≠ (g + 9) → k ≠ (g + 10) → k ≠ (g + 11) → k ≠ (g + 12) → k ≠ (g + 1) → k ≠ (g + 2) → k ≠ (g + 3) → k ≠ (g + 4) → w' k = w0 k)) := by
  refine z_met (cc := b_M_apply) (maxL := 8) (ret := (some .int)) (by decide +kernel) rfl (Nat.le_of_ble_eq_true rfl) ?_
  intro p e s m below meth cd ls a Qf hQ hC hl hH
  obtain ⟨hF, hr, hlk, hK, hG, hn⟩ := hC
  obtain ⟨hx, hb, hml, hown, hts⟩ := hF
  have hg : ∀ w ∈ GW, w.before a s = true := fun w h => hts w (List.mem_cons_of_mem _ h)
  have hA : ∀ q, s.heap.size ≤ q → va_A (wl E w0) s.heap.size q := fun q h => Or.inr h
  have hl : lv_has ls 8 [(0, .ref (ad E g)), (1, .int (iI op)), (2, .int (iI d)), (3, .int (iI ra)), (4, .int (iI rb))] := hl
  have bka := bk ra hra.1 hra.2
  have bma := bm ra hra.1 hra.2
  have bsa := bs ra hra.1 hra.2
  have vga := Gt_in bG hra
  have bkb := bk rb hrb.1 hrb.2
  have bmb := bm rb hrb.1 hrb.2
  have bsb := bs rb hrb.1 hrb.2
  have vgb := Gt_in bG hrb
  refine lv_aload_n hx hb d_M_apply_0 rfl (lv_at hl 0 rfl) ?_
  refine lv_iload_n hx hb d_M_apply_1 rfl (lv_at hl 1 rfl) ?_
  refine zv_iconst hx hb d_M_apply_2 ?_
  refine z_calli (va_runV (As := [.int (iI op), .int (iI 5)]) (rest := []) ⟨hx, hb, hml, hown, hts⟩ (c_M_out (l := l) (E := E) (w0 := w0) (g := g) (ty := ty) (xm := xm) (ym := ym) (ne := ne) (v := op) (mo := 5) (q0lt := q0lt) (c0 := c0) (hv := by omega) (hmo := by omega) s.heap.size) (z_cwV (C := "ScaledNumeralDeskModel") 2 hg wm_746 wm_743 wm_9 wm_745 wm_s29 (by decide +kernel) ⟨Nat.le_of_ble_eq_true rfl, Nat.le_of_ble_eq_true rfl⟩) (z_preV (r := ("ScaledNumeralDeskModel", TM, 17)) hK hG hn hH hA q0lt c0 rfl) rfl rfl hl.1 rfl (lv_room (Nat.le_of_ble_eq_true rfl)) d_M_apply_3 ⟨Nat.zero_le _, Nat.zero_le _⟩) hH hA (fun z5 w3 H1 lc2 hH4 q3 => ?_)
  obtain ⟨ew6, q3⟩ := q3
  rw [ew6] at hH4
  replace q3 : (z5 = 1 ∧ (op < 0 ∨ (5 : Int) < op)) ∨ (z5 = 0 ∧ 0 ≤ op ∧ op ≤ (5 : Int)) := q3
  refine zv_if_ne (tgt := 40) hx hb d_M_apply_6 rfl (by omega) (fun h7 => absurd h7 (by omega)) (fun h7 => ?_)
  refine lv_aload_n hx hb d_M_apply_9 rfl (lv_at hl 0 rfl) ?_
  refine lv_iload_n hx hb d_M_apply_10 rfl (lv_at hl 2 rfl) ?_
  refine zv_bipush hx hb d_M_apply_11 rfl ?_
  refine z_calli (va_runV (As := [.int (iI d), .int (iI 7)]) (rest := []) ⟨hx, hb, hml, hown, hts⟩ (c_M_out (l := l) (E := E) (w0 := w0) (g := g) (ty := ty) (xm := xm) (ym := ym) (ne := ne) (v := d) (mo := 7) (q0lt := q0lt) (c0 := c0) (hv := by omega) (hmo := by omega) H1.size) (z_cwV (C := "ScaledNumeralDeskModel") 2 hg wm_746 wm_743 wm_9 wm_745 wm_s29 (by decide +kernel) ⟨Nat.le_of_ble_eq_true rfl, Nat.le_of_ble_eq_true rfl⟩) (z_preV (r := ("ScaledNumeralDeskModel", TM, 17)) hK hG hn hH4 hA q0lt c0 rfl) rfl rfl hl.1 rfl (lv_room (Nat.le_of_ble_eq_true rfl)) d_M_apply_13 ⟨Nat.zero_le _, Nat.zero_le _⟩) hH4 hA (fun z12 w10 H8 lc9 hH11 q13 => ?_)
  obtain ⟨ew13, q13⟩ := q13
  rw [ew13] at hH11
  replace q13 : (z12 = 1 ∧ (d < 0 ∨ (7 : Int) < d)) ∨ (z12 = 0 ∧ 0 ≤ d ∧ d ≤ (7 : Int)) := q13
  refine zv_if_ne (tgt := 40) hx hb d_M_apply_16 rfl (by omega) (fun h14 => absurd h14 (by omega)) (fun h14 => ?_)
  refine lv_aload_n hx hb d_M_apply_19 rfl (lv_at hl 0 rfl) ?_
  refine lv_iload_n hx hb d_M_apply_20 rfl (lv_at hl 3 rfl) ?_
  refine zv_bipush hx hb d_M_apply_21 rfl ?_
  refine z_calli (va_runV (As := [.int (iI ra), .int (iI 7)]) (rest := []) ⟨hx, hb, hml, hown, hts⟩ (c_M_out (l := l) (E := E) (w0 := w0) (g := g) (ty := ty) (xm := xm) (ym := ym) (ne := ne) (v := ra) (mo := 7) (q0lt := q0lt) (c0 := c0) (hv := by omega) (hmo := by omega) H8.size) (z_cwV (C := "ScaledNumeralDeskModel") 2 hg wm_746 wm_743 wm_9 wm_745 wm_s29 (by decide +kernel) ⟨Nat.le_of_ble_eq_true rfl, Nat.le_of_ble_eq_true rfl⟩) (z_preV (r := ("ScaledNumeralDeskModel", TM, 17)) hK hG hn hH11 hA q0lt c0 rfl) rfl rfl hl.1 rfl (lv_room (Nat.le_of_ble_eq_true rfl)) d_M_apply_23 ⟨Nat.zero_le _, Nat.zero_le _⟩) hH11 hA (fun z19 w17 H15 lc16 hH18 q23 => ?_)
  obtain ⟨ew20, q23⟩ := q23
  rw [ew20] at hH18
  replace q23 : (z19 = 1 ∧ (ra < 0 ∨ (7 : Int) < ra)) ∨ (z19 = 0 ∧ 0 ≤ ra ∧ ra ≤ (7 : Int)) := q23
  refine zv_if_ne (tgt := 40) hx hb d_M_apply_26 rfl (by omega) (fun h21 => absurd h21 (by omega)) (fun h21 => ?_)
  refine lv_aload_n hx hb d_M_apply_29 rfl (lv_at hl 0 rfl) ?_
  refine lv_iload hx hb d_M_apply_30 (lv_at hl 4 rfl) ?_
  refine zv_bipush hx hb d_M_apply_32 rfl ?_
  refine z_calli (va_runV (As := [.int (iI rb), .int (iI 7)]) (rest := []) ⟨hx, hb, hml, hown, hts⟩ (c_M_out (l := l) (E := E) (w0 := w0) (g := g) (ty := ty) (xm := xm) (ym := ym) (ne := ne) (v := rb) (mo := 7) (q0lt := q0lt) (c0 := c0) (hv := by omega) (hmo := by omega) H15.size) (z_cwV (C := "ScaledNumeralDeskModel") 2 hg wm_746 wm_743 wm_9 wm_745 wm_s29 (by decide +kernel) ⟨Nat.le_of_ble_eq_true rfl, Nat.le_of_ble_eq_true rfl⟩) (z_preV (r := ("ScaledNumeralDeskModel", TM, 17)) hK hG hn hH18 hA q0lt c0 rfl) rfl rfl hl.1 rfl (lv_room (Nat.le_of_ble_eq_true rfl)) d_M_apply_34 ⟨Nat.zero_le _, Nat.zero_le _⟩) hH18 hA (fun z26 w24 H22 lc23 hH25 q34 => ?_)
  obtain ⟨ew27, q34⟩ := q34
  rw [ew27] at hH25
  replace q34 : (z26 = 1 ∧ (rb < 0 ∨ (7 : Int) < rb)) ∨ (z26 = 0 ∧ 0 ≤ rb ∧ rb ≤ (7 : Int)) := q34
  refine zv_if_eq (tgt := 42) hx hb d_M_apply_37 rfl (by omega) (fun h28 => ?_) (fun h28 => absurd h28 (by omega))
  have L63 : ∀  (ls : Array Slot) (H29 : Heap) (lc30 : List Loc), (lv_has ls 8 [(0, .ref (ad E g)), (1, .int (iI op)), (2, .int (iI d)), (3, .int (iI ra)), (4, .int (iI rb))]) → (zH E w0 (va_A (wl E w0) s.heap.size) s.heap H29 lc30) → (kf ra = 1 ∨ kf rb = 1) → W p l e rm_M_apply s m a below meth cd H29 lc30 0 0 Qf (F0 m 63 ls []) := by
    intro ls H29 lc30 hl hH h63
    refine lv_aload_n hx hb d_M_apply_63 rfl (lv_at hl 0 rfl) ?_
    refine lv_iload_n hx hb d_M_apply_64 rfl (lv_at hl 2 rfl) ?_
    refine zv_iconst hx hb d_M_apply_65 ?_
    refine z_calli (va_runV (As := [.int (iI d), .int (iI 1)]) (rest := []) ⟨hx, hb, hml, hown, hts⟩ (c_M_special (l := l) (E := E) (w0 := w0) (g := g) (ty := ty) (xm := xm) (ym := ym) (ne := ne) (f := kf) (d := d) (k := 1) (q0lt := q0lt) (q1lt := q5lt) (c0 := c0) (c1 := c5) (hd0 := by omega) H29.size) (z_cwV (C := "ScaledNumeralDeskModel") 2 hg wm_754 wm_751 wm_9 wm_753 wm_s31 (by decide +kernel) ⟨Nat.le_of_ble_eq_true rfl, Nat.le_of_ble_eq_true rfl⟩) (z_preV (r := ("ScaledNumeralDeskModel", TM, 17)) hK hG hn hH hA q0lt c0 rfl) rfl rfl hl.1 rfl (lv_room (Nat.le_of_ble_eq_true rfl)) d_M_apply_66 ⟨Nat.zero_le _, Nat.zero_le _⟩) hH hA (fun z35 w33 H31 lc32 hH34 p66 => ?_)
    obtain ⟨⟨e36, p66⟩, hg37⟩ := p66
    replace p66 : z35 = 0 := p66
    have e38 : w33 g = .inr (6, [.ref (ad E (g + 1)), .ref (ad E (g + 2)), .ref (ad E (g + 3)), .ref (ad E (g + 4)), .int (iI ty), .ref (ad E (g + 5)), .ref (ad E (g + 6)), .ref (ad E (g + 7)), .ref (ad E (g + 8)), .ref (ad E (g + 9)), .ref (ad E (g + 10)), .int (iI xm), .int (iI ym), .ref (ad E (g + 11)), .int (iI ne), .ref (ad E (g + 12)), .ref (ad E (g + 13))]) := (hg37 g (nx_M_apply_0 )).trans c0
    have e39 : w33 (g + 9) = zar E 56 xf := (hg37 (g + 9) (nx_M_apply_1 )).trans c1
    have e40 : w33 (g + 10) = zar E 56 yf := (hg37 (g + 10) (nx_M_apply_2 )).trans c2
    have e41 : w33 (g + 11) = zar E 140 f := (hg37 (g + 11) (nx_M_apply_3 )).trans c3
    have e42 : w33 (g + 12) = zar E 58 rf := (hg37 (g + 12) (nx_M_apply_4 )).trans c4
    have e43 : w33 (g + 2) = zaz E 8 mf := (hg37 (g + 2) (nx_M_apply_5 )).trans c6
    have e44 : w33 (g + 3) = zar E 8 sf := (hg37 (g + 3) (nx_M_apply_6 )).trans c7
    have e45 : w33 (g + 4) = zar E 448 G := (hg37 (g + 4) (nx_M_apply_7 )).trans c8
    have hf46 : ∀ k, k ≠ (g + 1) → w33 k = w0 k := fun k g0 => hg37 k g0
    have bk9 := bd_up bk d 1 (by omega)
    rw [hQ]
    exact z_iret hx hb hr hlk hH34 (⟨⟨xm, ym, ne, xf, yf, f, rf, (up kf d (1 : Int)), mf, sf, G, e38, e39, e40, e41, e42, e36, e43, e44, e45, bx, by1, bf, br, (by assumption), bm, bs, bG, ⟨hxm, hym, hne, Or.inl ⟨h63, p66, rfl, rfl, rfl, rfl⟩⟩⟩, (fun k g0 g1 g2 g3 g4 g5 g6 g7 g8 => hf46 k g5)⟩) d_M_apply_69
  have L70 : ∀  (ls : Array Slot) (H47 : Heap) (lc48 : List Loc), (lv_has ls 8 [(0, .ref (ad E g)), (1, .int (iI op)), (2, .int (iI d)), (3, .int (iI ra)), (4, .int (iI rb))]) → (zH E w0 (va_A (wl E w0) s.heap.size) s.heap H47 lc48) → (kf ra ≠ 1 ∧ kf rb ≠ 1) → W p l e rm_M_apply s m a below meth cd H47 lc48 0 0 Qf (F0 m 70 ls []) := by
    intro ls H47 lc48 hl hH h70
    have L91 : ∀  (ls : Array Slot) (H49 : Heap) (lc50 : List Loc), (lv_has ls 8 [(0, .ref (ad E g)), (1, .int (iI op)), (2, .int (iI d)), (3, .int (iI ra)), (4, .int (iI rb))]) → (zH E w0 (va_A (wl E w0) s.heap.size) s.heap H49 lc50) → (1 < kf ra ∨ 1 < kf rb) → W p l e rm_M_apply s m a below meth cd H49 lc50 0 0 Qf (F0 m 91 ls []) := by
      intro ls H49 lc50 hl hH h91
      refine lv_aload_n hx hb d_M_apply_91 rfl (lv_at hl 0 rfl) ?_
      refine lv_iload_n hx hb d_M_apply_92 rfl (lv_at hl 1 rfl) ?_
      refine lv_iload_n hx hb d_M_apply_93 rfl (lv_at hl 2 rfl) ?_
      refine lv_iload_n hx hb d_M_apply_94 rfl (lv_at hl 3 rfl) ?_
      refine lv_iload hx hb d_M_apply_95 (lv_at hl 4 rfl) ?_
      refine z_calli (va_runV (As := [.int (iI op), .int (iI d), .int (iI ra), .int (iI rb)]) (rest := []) ⟨hx, hb, hml, hown, hts⟩ (c_M_infinite (l := l) (E := E) (w0 := w0) (g := g) (ty := ty) (xm := xm) (ym := ym) (ne := ne) (xf := xf) (f := f) (kf := kf) (mf := mf) (sf := sf) (G := G) (op := op) (d := d) (ra := ra) (rb := rb) (q0lt := q0lt) (q1lt := q1lt) (q2lt := q3lt) (q3lt := q5lt) (q4lt := q6lt) (q5lt := q7lt) (q6lt := q8lt) (c0 := c0) (c1 := c1) (c2 := c3) (c3 := c5) (c4 := c6) (c5 := c7) (c6 := c8) (bk := bk) (bm := bm) (bs := bs) (bG := bG) (hxm := by omega) (hym := by omega) (hne := by omega) (bx := by omega) (bf := by omega) (hd := by omega) (hra := by omega) (hrb := by omega) (hop := by omega) (hk1 := by omega) H49.size) (z_cwV (C := "ScaledNumeralDeskModel") 4 hg wm_835 wm_832 wm_9 wm_834 wm_s47 (by decide +kernel) ⟨Nat.le_of_ble_eq_true rfl, Nat.le_of_ble_eq_true rfl⟩) (z_preV (r := ("ScaledNumeralDeskModel", TM, 17)) hK hG hn hH hA q0lt c0 rfl) rfl rfl hl.1 rfl (lv_room (Nat.le_of_ble_eq_true rfl)) d_M_apply_97 ⟨Nat.zero_le _, Nat.zero_le _⟩) hH hA (fun z55 w53 H51 lc52 hH54 p97 => ?_)
      obtain ⟨⟨u_56, n_57, x_58, f_59, k_60, m_61, s_62, x_63, e64, e65, e66, e67, e68, e69, e70, bd71, bd72, bd73, bd74, bd75, bd76, p97⟩, hg77⟩ := p97
      replace bd71 : bd x_58 56 0 9 := bd71
      replace bd72 : bd f_59 140 0 9 := bd72
      replace bd73 : bd k_60 8 0 3 := bd73
      replace bd74 : bd m_61 8 0 1 := bd74
      replace bd75 : bd s_62 8 0 24 := bd75
      replace bd76 : bd x_63 448 0 9 := bd76
      replace p97 : (u_56 = 0 ∨ u_56 = 1) ∧ (n_57 = 0 ∨ n_57 = 1) ∧ ∃ sa sb : Int, SgR (kf ra) (mf ra) (Gt G ra) sa ∧ SgR (kf rb) (mf rb) (Gt G rb) sb ∧ IfR op z55 d (kf ra) (kf rb) sa sb (sf ra) (mf ra) (Gt G ra) kf sf mf G k_60 s_62 m_61 x_63 := p97
      have e78 : w53 (g + 10) = zar E 56 yf := (hg77 (g + 10) (nx_M_apply_8 ) (nx_M_apply_9 ) (nx_M_apply_10 ) (nx_M_apply_2 ) (nx_M_apply_11 ) (nx_M_apply_12 ) (nx_M_apply_13 )).trans c2
      have e79 : w53 (g + 12) = zar E 58 rf := (hg77 (g + 12) (nx_M_apply_14 ) (nx_M_apply_15 ) (nx_M_apply_16 ) (nx_M_apply_4 ) (nx_M_apply_17 ) (nx_M_apply_18 ) (nx_M_apply_19 )).trans c4
      have hf80 : ∀ k, k ≠ g → k ≠ (g + 9) → k ≠ (g + 11) → k ≠ (g + 1) → k ≠ (g + 2) → k ≠ (g + 3) → k ≠ (g + 4) → w53 k = w0 k := fun k g0 g1 g2 g3 g4 g5 g6 => hg77 k g0 g1 g2 g3 g4 g5 g6
      rw [hQ]
      exact z_iret hx hb hr hlk hH54 (⟨⟨u_56, ym, n_57, x_58, yf, f_59, rf, k_60, m_61, s_62, x_63, e64, e65, e78, e66, e79, e67, e68, e69, e70, bd71, by1, bd72, br, bd73, bd74, bd75, bd76, ⟨p97.1, hym, p97.2.1, Or.inr (Or.inl ⟨h70.1, h70.2, h91, p97.2.2⟩)⟩⟩, (fun k g0 g1 g2 g3 g4 g5 g6 g7 g8 => hf80 k g0 g1 g3 g5 g6 g7 g8)⟩) d_M_apply_100
    refine lv_aload_n hx hb d_M_apply_70 rfl (lv_at hl 0 rfl) ?_
    refine zv_get (C := "ScaledNumeralDeskModel") (T := TM) (N := 17) hx hb hg uM_in hown hK hH q0lt c0 rfl 0 (by decide) (hg _ wm_682) (fun _ h9 => h9) rfl d_M_apply_71 ?_
    refine lv_iload_n hx hb d_M_apply_74 rfl (lv_at hl 3 rfl) ?_
    refine zv_iald hx hb hK hH q5lt c5 (by omega) (by omega) (by omega) d_M_apply_75 ?_
    have b81 := bk ra (by omega) (by omega)
    refine zv_iconst hx hb d_M_apply_76 ?_
    refine zv_icmp_gt (tgt := 91) hx hb d_M_apply_77 rfl (by omega) (by omega) (fun h82 => ?_) (fun h82 => ?_)
    · exact L91 _ H47 lc48 (lv_sub hl [0, 1, 2, 3, 4] rfl) hH (by omega)
    · refine lv_aload_n hx hb d_M_apply_80 rfl (lv_at hl 0 rfl) ?_
      refine zv_get (C := "ScaledNumeralDeskModel") (T := TM) (N := 17) hx hb hg uM_in hown hK hH q0lt c0 rfl 0 (by decide) (hg _ wm_682) (fun _ h9 => h9) rfl d_M_apply_81 ?_
      refine lv_iload hx hb d_M_apply_84 (lv_at hl 4 rfl) ?_
      refine zv_iald hx hb hK hH q5lt c5 (by omega) (by omega) (by omega) d_M_apply_86 ?_
      have b83 := bk rb (by omega) (by omega)
      refine zv_iconst hx hb d_M_apply_87 ?_
      refine zv_icmp_le (tgt := 101) hx hb d_M_apply_88 rfl (by omega) (by omega) (fun h84 => ?_) (fun h84 => ?_)
      · refine lv_aload_n hx hb d_M_apply_101 rfl (lv_at hl 0 rfl) ?_
        refine lv_iload_n hx hb d_M_apply_102 rfl (lv_at hl 3 rfl) ?_
        refine z_callv (va_runV (As := [.int (iI ra)]) (rest := []) ⟨hx, hb, hml, hown, hts⟩ (c_M_takeX (l := l) (E := E) (w0 := w0) (g := g) (ty := ty) (xm := xm) (ym := ym) (ne := ne) (mf := mf) (G := G) (xf := xf) (r := ra) (q0lt := q0lt) (q1lt := q6lt) (q2lt := q8lt) (q3lt := q1lt) (c0 := c0) (c1 := c6) (c2 := c8) (c3 := c1) (bm := bm) (bG := bG) (hr0 := by omega) H47.size) (z_cwV (C := "ScaledNumeralDeskModel") 1 hg wm_847 wm_844 wm_9 wm_846 wm_s50 (by decide +kernel) ⟨Nat.le_of_ble_eq_true rfl, Nat.le_of_ble_eq_true rfl⟩) (z_preV (r := ("ScaledNumeralDeskModel", TM, 17)) hK hG hn hH hA q0lt c0 rfl) rfl rfl hl.1 rfl (lv_room (Nat.le_of_ble_eq_true rfl)) d_M_apply_103 ⟨Nat.zero_le _, Nat.zero_le _⟩) hH hA (fun  w87 H85 lc86 hH88 p103 => ?_)
        obtain ⟨⟨x1, e89, e90, bd91, p103⟩, hg92⟩ := p103
        replace bd91 : bd x1 56 0 9 := bd91
        replace p103 : Vt x1 56 = Gt G ra := p103
        have e93 : w87 (g + 10) = zar E 56 yf := (hg92 (g + 10) (nx_M_apply_8 ) (nx_M_apply_9 )).trans c2
        have e94 : w87 (g + 11) = zar E 140 f := (hg92 (g + 11) (nx_M_apply_20 ) (nx_M_apply_21 )).trans c3
        have e95 : w87 (g + 12) = zar E 58 rf := (hg92 (g + 12) (nx_M_apply_14 ) (nx_M_apply_15 )).trans c4
        have e96 : w87 (g + 1) = zar E 8 kf := (hg92 (g + 1) (nx_M_apply_22 ) (nx_M_apply_23 )).trans c5
        have e97 : w87 (g + 2) = zaz E 8 mf := (hg92 (g + 2) (nx_M_apply_24 ) (nx_M_apply_25 )).trans c6
        have e98 : w87 (g + 3) = zar E 8 sf := (hg92 (g + 3) (nx_M_apply_26 ) (nx_M_apply_27 )).trans c7
        have e99 : w87 (g + 4) = zar E 448 G := (hg92 (g + 4) (nx_M_apply_28 ) (nx_M_apply_29 )).trans c8
        have hf100 : ∀ k, k ≠ g → k ≠ (g + 9) → w87 k = w0 k := fun k g0 g1 => hg92 k g0 g1
        refine lv_aload_n hx hb d_M_apply_106 rfl (lv_at hl 0 rfl) ?_
        refine lv_iload hx hb d_M_apply_107 (lv_at hl 4 rfl) ?_
        refine z_callv (va_runV (As := [.int (iI rb)]) (rest := []) ⟨hx, hb, hml, hown, hts⟩ (c_M_takeY (l := l) (E := E) (w0 := w87) (g := g) (ty := ty) (xm := mf ra) (ym := ym) (ne := ne) (mf := mf) (G := G) (yf := yf) (r := rb) (q0lt := q0lt) (q1lt := q6lt) (q2lt := q8lt) (q3lt := q2lt) (c0 := e89) (c1 := e97) (c2 := e99) (c3 := e93) (bm := bm) (bG := bG) (hr0 := by omega) H85.size) (z_cwV (C := "ScaledNumeralDeskModel") 1 hg wm_859 wm_856 wm_9 wm_858 wm_s53 (by decide +kernel) ⟨Nat.le_of_ble_eq_true rfl, Nat.le_of_ble_eq_true rfl⟩) (z_preV (r := ("ScaledNumeralDeskModel", TM, 17)) hK hG hn hH88 hA q0lt e89 rfl) rfl rfl hl.1 rfl (lv_room (Nat.le_of_ble_eq_true rfl)) d_M_apply_109 ⟨Nat.zero_le _, Nat.zero_le _⟩) hH88 hA (fun  w103 H101 lc102 hH104 p109 => ?_)
        obtain ⟨⟨y1, e105, e106, bd107, p109⟩, hg108⟩ := p109
        replace bd107 : bd y1 56 0 9 := bd107
        replace p109 : Vt y1 56 = Gt G rb := p109
        have e109 : w103 (g + 9) = zar E 56 x1 := (hg108 (g + 9) (nx_M_apply_30 ) (nx_M_apply_31 )).trans e90
        have e110 : w103 (g + 11) = zar E 140 f := (hg108 (g + 11) (nx_M_apply_20 ) (nx_M_apply_32 )).trans e94
        have e111 : w103 (g + 12) = zar E 58 rf := (hg108 (g + 12) (nx_M_apply_14 ) (nx_M_apply_33 )).trans e95
        have e112 : w103 (g + 1) = zar E 8 kf := (hg108 (g + 1) (nx_M_apply_22 ) (nx_M_apply_34 )).trans e96
        have e113 : w103 (g + 2) = zaz E 8 mf := (hg108 (g + 2) (nx_M_apply_24 ) (nx_M_apply_35 )).trans e97
        have e114 : w103 (g + 3) = zar E 8 sf := (hg108 (g + 3) (nx_M_apply_26 ) (nx_M_apply_36 )).trans e98
        have e115 : w103 (g + 4) = zar E 448 G := (hg108 (g + 4) (nx_M_apply_28 ) (nx_M_apply_37 )).trans e99
        have hf116 : ∀ k, k ≠ g → k ≠ (g + 9) → k ≠ (g + 10) → w103 k = w0 k := fun k g0 g1 g2 => (hg108 k g0 g2).trans (hf100 k g0 g1)
        have L128 : ∀  (ls : Array Slot) (H117 : Heap) (lc118 : List Loc), (lv_has ls 8 [(0, .ref (ad E g)), (1, .int (iI op)), (2, .int (iI d)), (3, .int (iI ra)), (4, .int (iI rb))]) → (zH E w103 (va_A (wl E w0) s.heap.size) s.heap H117 lc118) → (op < 3 ∨ 0 < Gt G rb) → W p l e rm_M_apply s m a below meth cd H117 lc118 0 0 Qf (F0 m 128 ls []) := by
          intro ls H117 lc118 hl hH hdv
          refine lv_aload_n hx hb d_M_apply_128 rfl (lv_at hl 0 rfl) ?_
          refine zv_get (C := "ScaledNumeralDeskModel") (T := TM) (N := 17) hx hb hg uM_in hown hK hH q0lt e105 rfl 2 (by decide) (hg _ wm_684) (fun _ h9 => h9) rfl d_M_apply_129 ?_
          refine lv_iload_n hx hb d_M_apply_132 rfl (lv_at hl 3 rfl) ?_
          refine zv_iald hx hb hK hH q7lt e114 (by omega) (by omega) (by omega) d_M_apply_133 ?_
          have b119 := bs ra (by omega) (by omega)
          refine lv_istore (lv' := [(5, .int (iI (sf ra))), (0, .ref (ad E g)), (1, .int (iI op)), (2, .int (iI d)), (3, .int (iI ra)), (4, .int (iI rb))]) hx hb d_M_apply_134 hl (by decide) rfl (fun ls hl => ?_)
          refine lv_aload_n hx hb d_M_apply_136 rfl (lv_at hl 1 rfl) ?_
          refine zv_get (C := "ScaledNumeralDeskModel") (T := TM) (N := 17) hx hb hg uM_in hown hK hH q0lt e105 rfl 2 (by decide) (hg _ wm_684) (fun _ h9 => h9) rfl d_M_apply_137 ?_
          refine lv_iload hx hb d_M_apply_140 (lv_at hl 5 rfl) ?_
          refine zv_iald hx hb hK hH q7lt e114 (by omega) (by omega) (by omega) d_M_apply_142 ?_
          have b120 := bs rb (by omega) (by omega)
          refine lv_istore (lv' := [(6, .int (iI (sf rb))), (5, .int (iI (sf ra))), (0, .ref (ad E g)), (1, .int (iI op)), (2, .int (iI d)), (3, .int (iI ra)), (4, .int (iI rb))]) hx hb d_M_apply_143 hl (by decide) rfl (fun ls hl => ?_)
          have L159 : ∀ (mo : Int) (ls : Array Slot) (H121 : Heap) (lc122 : List Loc), (lv_has ls 8 [(6, .int (iI (sf rb))), (5, .int (iI (sf ra))), (0, .ref (ad E g)), (1, .int (iI op)), (2, .int (iI d)), (3, .int (iI ra)), (4, .int (iI rb))]) → (zH E w103 (va_A (wl E w0) s.heap.size) s.heap H121 lc122) → (mo = max (sf ra) (sf rb)) → (0 ≤ mo ∧ mo ≤ 24) → W p l e rm_M_apply s m a below meth cd H121 lc122 0 0 Qf (F0 m 159 ls [.int (iI mo)]) := by
            intro mo ls H121 lc122 hl hH hmo hm0
            refine lv_istore (lv' := [(7, .int (iI mo)), (6, .int (iI (sf rb))), (5, .int (iI (sf ra))), (0, .ref (ad E g)), (1, .int (iI op)), (2, .int (iI d)), (3, .int (iI ra)), (4, .int (iI rb))]) hx hb d_M_apply_159 hl (by decide) rfl (fun ls hl => ?_)
            refine lv_iload_n hx hb d_M_apply_161 rfl (lv_at hl 4 rfl) ?_
            rcases (show op = 0 ∨ op = 1 ∨ op = 2 ∨ op = 3 ∨ op = 4 ∨ op = 5 by omega) with rfl | rfl | rfl | rfl | rfl | rfl
            · refine lv_tableIn (x := iI 0) (off := 34) (tgt := 196) hx hb d_M_apply_162 (by decide) (by decide) (by decide) (by decide) ?_
              refine lv_aload_n hx hb d_M_apply_196 rfl (lv_at hl 3 rfl) ?_
              refine lv_iload_n hx hb d_M_apply_197 rfl (lv_at hl 5 rfl) ?_
              refine lv_iload_n hx hb d_M_apply_198 rfl (lv_at hl 4 rfl) ?_
              refine zv_iconst hx hb d_M_apply_199 ?_
              refine zv_icmp_ne (tgt := 207) hx hb d_M_apply_200 rfl (by omega) (by omega) (fun h123 => ?_) (fun h123 => absurd h123 (by omega))
              refine zv_iconst hx hb d_M_apply_207 ?_
              refine lv_iload hx hb d_M_apply_208 (lv_at hl 0 rfl) ?_
              refine z_calli (va_runV (As := [.int (iI d), .int (iI 0), .int (iI mo)]) (rest := []) ⟨hx, hb, hml, hown, hts⟩ (c_M_add (l := l) (E := E) (w0 := w103) (g := g) (ty := ty) (xm := (mf ra)) (ym := mf rb) (ne := ne) (xf := x1) (yf := y1) (f := f) (kf := kf) (mf := mf) (sf := sf) (G := G) (d := d) (le := 0) (sc := mo) (q0lt := q0lt) (q1lt := q1lt) (q2lt := q2lt) (q3lt := q3lt) (q4lt := q5lt) (q5lt := q6lt) (q6lt := q7lt) (q7lt := q8lt) (c0 := e105) (c1 := e109) (c2 := e106) (c3 := e110) (c4 := e112) (c5 := e113) (c6 := e114) (c7 := e115) (bx := bd91) (by1 := bd107) (bk := bk) (bm := bm) (bs := bs) (bG := bG) (hxm := by omega) (hym := by omega) (hd := by omega) (hsc := by omega) (hle := by omega) H121.size) (z_cwV (C := "ScaledNumeralDeskModel") 3 hg wm_867 wm_864 wm_9 wm_866 wm_s55 (by decide +kernel) ⟨Nat.le_of_ble_eq_true rfl, Nat.le_of_ble_eq_true rfl⟩) (z_preV (r := ("ScaledNumeralDeskModel", TM, 17)) hK hG hn hH hA q0lt e105 rfl) rfl rfl hl.1 rfl (lv_room (Nat.le_of_ble_eq_true rfl)) d_M_apply_210 ⟨Nat.zero_le _, Nat.zero_le _⟩) hH hA (fun z128 w126 H124 lc125 hH127 p210 => ?_)
              obtain ⟨⟨n_129, f_130, k_131, m_132, s_133, x_134, e135, e136, e137, e138, e139, e140, bd141, bd142, bd143, bd144, bd145, p210⟩, hg146⟩ := p210
              replace bd141 : bd f_130 140 0 9 := bd141
              replace bd142 : bd k_131 8 0 3 := bd142
              replace bd143 : bd m_132 8 0 1 := bd143
              replace bd144 : bd s_133 8 0 24 := bd144
              replace bd145 : bd x_134 448 0 9 := bd145
              replace p210 : (n_129 = 0 ∨ n_129 = 1) ∧ ∃ X : Int, AbR ((sv ((mf ra)) (Vt x1 56) + sv (dif (mf rb) (0 : Int)) (Vt y1 56)) * Tp 24) 0 X n_129 ∧ KpR z128 d mo n_129 (Rn X (48 - mo)) kf sf mf G k_131 s_133 m_132 x_134 := p210
              have e147 : w126 (g + 9) = zar E 56 x1 := (hg146 (g + 9) (nx_M_apply_30 ) (nx_M_apply_38 ) (nx_M_apply_1 ) (nx_M_apply_39 ) (nx_M_apply_40 ) (nx_M_apply_41 )).trans e109
              have e148 : w126 (g + 10) = zar E 56 y1 := (hg146 (g + 10) (nx_M_apply_8 ) (nx_M_apply_10 ) (nx_M_apply_2 ) (nx_M_apply_11 ) (nx_M_apply_12 ) (nx_M_apply_13 )).trans e106
              have e149 : w126 (g + 12) = zar E 58 rf := (hg146 (g + 12) (nx_M_apply_14 ) (nx_M_apply_16 ) (nx_M_apply_4 ) (nx_M_apply_17 ) (nx_M_apply_18 ) (nx_M_apply_19 )).trans e111
              have hf150 : ∀ k, k ≠ g → k ≠ (g + 9) → k ≠ (g + 10) → k ≠ (g + 11) → k ≠ (g + 1) → k ≠ (g + 2) → k ≠ (g + 3) → k ≠ (g + 4) → w126 k = w0 k := fun k g0 g1 g2 g3 g4 g5 g6 g7 => (hg146 k g0 g3 g4 g5 g6 g7).trans (hf116 k g0 g1 g2)
              obtain ⟨p210a, X, p210b, p210c⟩ := p210
              rw [p103, p109] at p210b
              rw [hmo] at p210c
              rw [hQ]
              exact z_iret hx hb hr hlk hH127 (⟨⟨(((mf ra))), ((mf rb)), n_129, x1, y1, f_130, rf, k_131, m_132, s_133, x_134, e135, e147, e148, e136, e149, e137, e138, e139, e140, bd91, bd107, bd141, br, bd142, bd143, bd144, bd145, ⟨by omega, by omega, p210a, Or.inr (Or.inr (Or.inr ⟨by omega, by omega, hdv, Or.inl ⟨by omega, _, X, p210a, p210b, p210c⟩⟩))⟩⟩, (fun k g0 g1 g2 g3 g4 g5 g6 g7 g8 => hf150 k g0 g1 g2 g3 g5 g6 g7 g8)⟩) d_M_apply_213
            · refine lv_tableIn (x := iI 1) (off := 34) (tgt := 196) hx hb d_M_apply_162 (by decide) (by decide) (by decide) (by decide) ?_
              refine lv_aload_n hx hb d_M_apply_196 rfl (lv_at hl 3 rfl) ?_
              refine lv_iload_n hx hb d_M_apply_197 rfl (lv_at hl 5 rfl) ?_
              refine lv_iload_n hx hb d_M_apply_198 rfl (lv_at hl 4 rfl) ?_
              refine zv_iconst hx hb d_M_apply_199 ?_
              refine zv_icmp_ne (tgt := 207) hx hb d_M_apply_200 rfl (by omega) (by omega) (fun h151 => absurd h151 (by omega)) (fun h151 => ?_)
              refine zv_iconst hx hb d_M_apply_203 ?_
              refine lv_goto (tgt := 208) hx hb d_M_apply_204 rfl ?_
              refine lv_iload hx hb d_M_apply_208 (lv_at hl 0 rfl) ?_
              refine z_calli (va_runV (As := [.int (iI d), .int (iI 1), .int (iI mo)]) (rest := []) ⟨hx, hb, hml, hown, hts⟩ (c_M_add (l := l) (E := E) (w0 := w103) (g := g) (ty := ty) (xm := (mf ra)) (ym := mf rb) (ne := ne) (xf := x1) (yf := y1) (f := f) (kf := kf) (mf := mf) (sf := sf) (G := G) (d := d) (le := 1) (sc := mo) (q0lt := q0lt) (q1lt := q1lt) (q2lt := q2lt) (q3lt := q3lt) (q4lt := q5lt) (q5lt := q6lt) (q6lt := q7lt) (q7lt := q8lt) (c0 := e105) (c1 := e109) (c2 := e106) (c3 := e110) (c4 := e112) (c5 := e113) (c6 := e114) (c7 := e115) (bx := bd91) (by1 := bd107) (bk := bk) (bm := bm) (bs := bs) (bG := bG) (hxm := by omega) (hym := by omega) (hd := by omega) (hsc := by omega) (hle := by omega) H121.size) (z_cwV (C := "ScaledNumeralDeskModel") 3 hg wm_867 wm_864 wm_9 wm_866 wm_s55 (by decide +kernel) ⟨Nat.le_of_ble_eq_true rfl, Nat.le_of_ble_eq_true rfl⟩) (z_preV (r := ("ScaledNumeralDeskModel", TM, 17)) hK hG hn hH hA q0lt e105 rfl) rfl rfl hl.1 rfl (lv_room (Nat.le_of_ble_eq_true rfl)) d_M_apply_210 ⟨Nat.zero_le _, Nat.zero_le _⟩) hH hA (fun z156 w154 H152 lc153 hH155 p210 => ?_)
              obtain ⟨⟨n_157, f_158, k_159, m_160, s_161, x_162, e163, e164, e165, e166, e167, e168, bd169, bd170, bd171, bd172, bd173, p210⟩, hg174⟩ := p210
              replace bd169 : bd f_158 140 0 9 := bd169
              replace bd170 : bd k_159 8 0 3 := bd170
              replace bd171 : bd m_160 8 0 1 := bd171
              replace bd172 : bd s_161 8 0 24 := bd172
              replace bd173 : bd x_162 448 0 9 := bd173
              replace p210 : (n_157 = 0 ∨ n_157 = 1) ∧ ∃ X : Int, AbR ((sv ((mf ra)) (Vt x1 56) + sv (dif (mf rb) (1 : Int)) (Vt y1 56)) * Tp 24) 0 X n_157 ∧ KpR z156 d mo n_157 (Rn X (48 - mo)) kf sf mf G k_159 s_161 m_160 x_162 := p210
              have e175 : w154 (g + 9) = zar E 56 x1 := (hg174 (g + 9) (nx_M_apply_30 ) (nx_M_apply_38 ) (nx_M_apply_1 ) (nx_M_apply_39 ) (nx_M_apply_40 ) (nx_M_apply_41 )).trans e109
              have e176 : w154 (g + 10) = zar E 56 y1 := (hg174 (g + 10) (nx_M_apply_8 ) (nx_M_apply_10 ) (nx_M_apply_2 ) (nx_M_apply_11 ) (nx_M_apply_12 ) (nx_M_apply_13 )).trans e106
              have e177 : w154 (g + 12) = zar E 58 rf := (hg174 (g + 12) (nx_M_apply_14 ) (nx_M_apply_16 ) (nx_M_apply_4 ) (nx_M_apply_17 ) (nx_M_apply_18 ) (nx_M_apply_19 )).trans e111
              have hf178 : ∀ k, k ≠ g → k ≠ (g + 9) → k ≠ (g + 10) → k ≠ (g + 11) → k ≠ (g + 1) → k ≠ (g + 2) → k ≠ (g + 3) → k ≠ (g + 4) → w154 k = w0 k := fun k g0 g1 g2 g3 g4 g5 g6 g7 => (hg174 k g0 g3 g4 g5 g6 g7).trans (hf116 k g0 g1 g2)
              obtain ⟨p210a, X, p210b, p210c⟩ := p210
              rw [p103, p109] at p210b
              rw [hmo] at p210c
              rw [hQ]
              exact z_iret hx hb hr hlk hH155 (⟨⟨(((mf ra))), ((mf rb)), n_157, x1, y1, f_158, rf, k_159, m_160, s_161, x_162, e163, e175, e176, e164, e177, e165, e166, e167, e168, bd91, bd107, bd169, br, bd170, bd171, bd172, bd173, ⟨by omega, by omega, p210a, Or.inr (Or.inr (Or.inr ⟨by omega, by omega, hdv, Or.inl ⟨by omega, _, X, p210a, p210b, p210c⟩⟩))⟩⟩, (fun k g0 g1 g2 g3 g4 g5 g6 g7 g8 => hf178 k g0 g1 g2 g3 g5 g6 g7 g8)⟩) d_M_apply_213
            · refine lv_tableIn (x := iI 2) (off := 52) (tgt := 214) hx hb d_M_apply_162 (by decide) (by decide) (by decide) (by decide) ?_
              refine lv_aload_n hx hb d_M_apply_214 rfl (lv_at hl 3 rfl) ?_
              refine lv_iload_n hx hb d_M_apply_215 rfl (lv_at hl 5 rfl) ?_
              have L236 : ∀ (pm : Int) (ls : Array Slot) (H179 : Heap) (lc180 : List Loc), (lv_has ls 8 [(7, .int (iI mo)), (6, .int (iI (sf rb))), (5, .int (iI (sf ra))), (0, .ref (ad E g)), (1, .int (iI 2)), (2, .int (iI d)), (3, .int (iI ra)), (4, .int (iI rb))]) → (zH E w103 (va_A (wl E w0) s.heap.size) s.heap H179 lc180) → (pm = min (sf ra + sf rb) 24) → (0 ≤ pm ∧ pm ≤ 24) → W p l e rm_M_apply s m a below meth cd H179 lc180 0 0 Qf (F0 m 236 ls [.int (iI pm), .int (iI d), .ref (ad E g)]) := by
                intro pm ls H179 lc180 hl hH hpm hpm0
                refine z_calli (va_runV (As := [.int (iI d), .int (iI pm)]) (rest := []) ⟨hx, hb, hml, hown, hts⟩ (c_M_multiply (l := l) (E := E) (w0 := w103) (g := g) (ty := ty) (xm := (mf ra)) (ym := mf rb) (ne := ne) (xf := x1) (yf := y1) (f := f) (kf := kf) (mf := mf) (sf := sf) (G := G) (d := d) (sc := pm) (q0lt := q0lt) (q1lt := q1lt) (q2lt := q2lt) (q3lt := q3lt) (q4lt := q5lt) (q5lt := q6lt) (q6lt := q7lt) (q7lt := q8lt) (c0 := e105) (c1 := e109) (c2 := e106) (c3 := e110) (c4 := e112) (c5 := e113) (c6 := e114) (c7 := e115) (bx := bd91) (by1 := bd107) (bk := bk) (bm := bm) (bs := bs) (bG := bG) (hxm := by omega) (hym := by omega) (hd := by omega) (hsc := by omega) H179.size) (z_cwV (C := "ScaledNumeralDeskModel") 2 hg wm_871 wm_868 wm_9 wm_870 wm_s56 (by decide +kernel) ⟨Nat.le_of_ble_eq_true rfl, Nat.le_of_ble_eq_true rfl⟩) (z_preV (r := ("ScaledNumeralDeskModel", TM, 17)) hK hG hn hH hA q0lt e105 rfl) rfl rfl hl.1 rfl (lv_room (Nat.le_of_ble_eq_true rfl)) d_M_apply_236 ⟨Nat.zero_le _, Nat.zero_le _⟩) hH hA (fun z185 w183 H181 lc182 hH184 p236 => ?_)
                obtain ⟨⟨n_186, f_187, k_188, m_189, s_190, x_191, e192, e193, e194, e195, e196, e197, bd198, bd199, bd200, bd201, bd202, p236⟩, hg203⟩ := p236
                replace bd198 : bd f_187 140 0 9 := bd198
                replace bd199 : bd k_188 8 0 3 := bd199
                replace bd200 : bd m_189 8 0 1 := bd200
                replace bd201 : bd s_190 8 0 24 := bd201
                replace bd202 : bd x_191 448 0 9 := bd202
                replace p236 : (n_186 = 0 ∨ n_186 = 1) ∧ KpR z185 d pm (dif ((mf ra)) (mf rb)) (Rn (Vt x1 56 * Vt y1 56) (48 - pm)) kf sf mf G k_188 s_190 m_189 x_191 := p236
                have e204 : w183 (g + 9) = zar E 56 x1 := (hg203 (g + 9) (nx_M_apply_30 ) (nx_M_apply_38 ) (nx_M_apply_1 ) (nx_M_apply_39 ) (nx_M_apply_40 ) (nx_M_apply_41 )).trans e109
                have e205 : w183 (g + 10) = zar E 56 y1 := (hg203 (g + 10) (nx_M_apply_8 ) (nx_M_apply_10 ) (nx_M_apply_2 ) (nx_M_apply_11 ) (nx_M_apply_12 ) (nx_M_apply_13 )).trans e106
                have e206 : w183 (g + 12) = zar E 58 rf := (hg203 (g + 12) (nx_M_apply_14 ) (nx_M_apply_16 ) (nx_M_apply_4 ) (nx_M_apply_17 ) (nx_M_apply_18 ) (nx_M_apply_19 )).trans e111
                have hf207 : ∀ k, k ≠ g → k ≠ (g + 9) → k ≠ (g + 10) → k ≠ (g + 11) → k ≠ (g + 1) → k ≠ (g + 2) → k ≠ (g + 3) → k ≠ (g + 4) → w183 k = w0 k := fun k g0 g1 g2 g3 g4 g5 g6 g7 => (hg203 k g0 g3 g4 g5 g6 g7).trans (hf116 k g0 g1 g2)
                rw [p103, p109, hpm] at p236
                rw [hQ]
                exact z_iret hx hb hr hlk hH184 (⟨⟨(((mf ra))), ((mf rb)), n_186, x1, y1, f_187, rf, k_188, m_189, s_190, x_191, e192, e204, e205, e193, e206, e194, e195, e196, e197, bd91, bd107, bd198, br, bd199, bd200, bd201, bd202, ⟨by omega, by omega, p236.1, Or.inr (Or.inr (Or.inr ⟨by omega, by omega, hdv, Or.inr (Or.inl ⟨rfl, p236.2⟩)⟩))⟩⟩, (fun k g0 g1 g2 g3 g4 g5 g6 g7 g8 => hf207 k g0 g1 g2 g3 g5 g6 g7 g8)⟩) d_M_apply_239
              refine lv_iload hx hb d_M_apply_216 (lv_at hl 2 rfl) ?_
              refine lv_iload hx hb d_M_apply_218 (lv_at hl 1 rfl) ?_
              refine zv_iadd hx hb d_M_apply_220 ?_
              refine zv_bipush hx hb d_M_apply_221 rfl ?_
              refine zv_icmp_le (tgt := 231) hx hb d_M_apply_223 rfl (by omega) (by omega) (fun h208 => ?_) (fun h208 => ?_)
              · refine lv_iload hx hb d_M_apply_231 (lv_at hl 2 rfl) ?_
                refine lv_iload hx hb d_M_apply_233 (lv_at hl 1 rfl) ?_
                refine zv_iadd hx hb d_M_apply_235 ?_
                exact L236 ((sf ra) + (sf rb)) _ H121 lc122 (lv_sub hl [0, 1, 2, 3, 4, 5, 6, 7] rfl) hH (by omega) (by omega)
              · refine zv_bipush hx hb d_M_apply_226 rfl ?_
                refine lv_goto (tgt := 236) hx hb d_M_apply_228 rfl ?_
                exact L236 24 _ H121 lc122 (lv_sub hl [0, 1, 2, 3, 4, 5, 6, 7] rfl) hH (by omega) (by omega)
            · refine lv_tableIn (x := iI 3) (off := 78) (tgt := 240) hx hb d_M_apply_162 (by decide) (by decide) (by decide) (by decide) ?_
              refine lv_aload_n hx hb d_M_apply_240 rfl (lv_at hl 3 rfl) ?_
              refine lv_iload_n hx hb d_M_apply_241 rfl (lv_at hl 5 rfl) ?_
              refine lv_iload hx hb d_M_apply_242 (lv_at hl 2 rfl) ?_
              refine lv_iload hx hb d_M_apply_244 (lv_at hl 1 rfl) ?_
              refine z_calli (va_runV (As := [.int (iI d), .int (iI (sf ra)), .int (iI (sf rb))]) (rest := []) ⟨hx, hb, hml, hown, hts⟩ (c_M_divide (l := l) (E := E) (w0 := w103) (g := g) (ty := ty) (xm := (mf ra)) (ym := mf rb) (ne := ne) (xf := x1) (yf := y1) (f := f) (rf := rf) (kf := kf) (mf := mf) (sf := sf) (G := G) (d := d) (sa := sf ra) (sb := sf rb) (q0lt := q0lt) (q1lt := q1lt) (q2lt := q2lt) (q3lt := q3lt) (q4lt := q4lt) (q5lt := q5lt) (q6lt := q6lt) (q7lt := q7lt) (q8lt := q8lt) (c0 := e105) (c1 := e109) (c2 := e106) (c3 := e110) (c4 := e111) (c5 := e112) (c6 := e113) (c7 := e114) (c8 := e115) (bx := bd91) (by1 := bd107) (bk := bk) (bm := bm) (bs := bs) (bG := bG) (hxm := by omega) (hym := by omega) (hd := by omega) (hsa := by omega) (hsb := by omega) (hD := (by rw [p109]; omega)) H121.size) (z_cwV (C := "ScaledNumeralDeskModel") 3 hg wm_875 wm_872 wm_9 wm_874 wm_s57 (by decide +kernel) ⟨Nat.le_of_ble_eq_true rfl, Nat.le_of_ble_eq_true rfl⟩) (z_preV (r := ("ScaledNumeralDeskModel", TM, 17)) hK hG hn hH hA q0lt e105 rfl) rfl rfl hl.1 rfl (lv_room (Nat.le_of_ble_eq_true rfl)) d_M_apply_246 ⟨Nat.zero_le _, Nat.zero_le _⟩) hH hA (fun z213 w211 H209 lc210 hH212 p246 => ?_)
              obtain ⟨⟨n_214, f_215, r_216, k_217, m_218, s_219, x_220, e221, e222, e223, e224, e225, e226, e227, bd228, bd229, bd230, bd231, bd232, bd233, p246⟩, hg234⟩ := p246
              replace bd228 : bd f_215 140 0 9 := bd228
              replace bd229 : bd r_216 58 0 9 := bd229
              replace bd230 : bd k_217 8 0 3 := bd230
              replace bd231 : bd m_218 8 0 1 := bd231
              replace bd232 : bd s_219 8 0 24 := bd232
              replace bd233 : bd x_220 448 0 9 := bd233
              replace p246 : (n_214 = 0 ∨ n_214 = 1) ∧ ∃ wa wb la lb P : Int, Wt (Vt x1 56) wa ∧ Wt (Vt y1 56) wb ∧ Ld (Vt x1 56) la ∧ Ld (Vt y1 56) lb ∧ P = pd wa wb la lb (sf ra) (sf rb) ∧ KpR z213 d P (dif ((mf ra)) (mf rb)) (Rn (Vt x1 56 * Tp (P + 1) / Vt y1 56 * Tp (48 - (P + 1))) (48 - P)) kf sf mf G k_217 s_219 m_218 x_220 := p246
              have e235 : w211 (g + 9) = zar E 56 x1 := (hg234 (g + 9) (nx_M_apply_30 ) (nx_M_apply_38 ) (nx_M_apply_42 ) (nx_M_apply_1 ) (nx_M_apply_39 ) (nx_M_apply_40 ) (nx_M_apply_41 )).trans e109
              have e236 : w211 (g + 10) = zar E 56 y1 := (hg234 (g + 10) (nx_M_apply_8 ) (nx_M_apply_10 ) (nx_M_apply_43 ) (nx_M_apply_2 ) (nx_M_apply_11 ) (nx_M_apply_12 ) (nx_M_apply_13 )).trans e106
              have hf237 : ∀ k, k ≠ g → k ≠ (g + 9) → k ≠ (g + 10) → k ≠ (g + 11) → k ≠ (g + 12) → k ≠ (g + 1) → k ≠ (g + 2) → k ≠ (g + 3) → k ≠ (g + 4) → w211 k = w0 k := fun k g0 g1 g2 g3 g4 g5 g6 g7 g8 => (hg234 k g0 g3 g4 g5 g6 g7 g8).trans (hf116 k g0 g1 g2)
              rw [p103, p109] at p246
              rw [hQ]
              exact z_iret hx hb hr hlk hH212 (⟨⟨(((mf ra))), ((mf rb)), n_214, x1, y1, f_215, r_216, k_217, m_218, s_219, x_220, e221, e235, e236, e222, e223, e224, e225, e226, e227, bd91, bd107, bd228, bd229, bd230, bd231, bd232, bd233, ⟨by omega, by omega, p246.1, Or.inr (Or.inr (Or.inr ⟨by omega, by omega, hdv, Or.inr (Or.inr (Or.inl ⟨rfl, p246.2⟩))⟩))⟩⟩, (fun k g0 g1 g2 g3 g4 g5 g6 g7 g8 => hf237 k g0 g1 g2 g3 g4 g5 g6 g7 g8)⟩) d_M_apply_249
            · refine lv_tableIn (x := iI 4) (off := 88) (tgt := 250) hx hb d_M_apply_162 (by decide) (by decide) (by decide) (by decide) ?_
              refine lv_aload_n hx hb d_M_apply_250 rfl (lv_at hl 3 rfl) ?_
              refine zv_iconst hx hb d_M_apply_251 ?_
              refine z_callv (va_runV (As := [.int (iI 0)]) (rest := []) ⟨hx, hb, hml, hown, hts⟩ (c_M_quotient (l := l) (E := E) (w0 := w103) (g := g) (ty := ty) (xm := (mf ra)) (ym := mf rb) (ne := ne) (xf := x1) (yf := y1) (f := f) (rf := rf) (n := 0) (q0lt := q0lt) (q1lt := q1lt) (q2lt := q2lt) (q3lt := q3lt) (q4lt := q4lt) (c0 := e105) (c1 := e109) (c2 := e106) (c3 := e110) (c4 := e111) (bx := bd91) (by1 := bd107) (hxm := by omega) (hym := by omega) (hn0 := by omega) (hD := (by rw [p109]; omega)) H121.size) (z_cwV (C := "ScaledNumeralDeskModel") 1 hg wm_891 wm_888 wm_9 wm_890 wm_s61 (by decide +kernel) ⟨Nat.le_of_ble_eq_true rfl, Nat.le_of_ble_eq_true rfl⟩) (z_preV (r := ("ScaledNumeralDeskModel", TM, 17)) hK hG hn hH hA q0lt e105 rfl) rfl rfl hl.1 rfl (lv_room (Nat.le_of_ble_eq_true rfl)) d_M_apply_252 ⟨Nat.zero_le _, Nat.zero_le _⟩) hH hA (fun  w240 H238 lc239 hH241 p252 => ?_)
              obtain ⟨⟨n5, f5, r_242, e243, e244, e245, bd246, bd247, p252⟩, hg248⟩ := p252
              replace bd246 : bd f5 140 0 9 := bd246
              replace bd247 : bd r_242 58 0 9 := bd247
              replace p252 : n5 = dif ((mf ra)) (mf rb) ∧ (n5 = 0 ∨ n5 = 1) ∧ Vt f5 140 = Vt x1 56 * Tp (0 : Int) / Vt y1 56 * Tp (48 - (0 : Int)) ∧ Vt r_242 58 = Vt x1 56 * Tp (0 : Int) % Vt y1 56 := p252
              have e249 : w240 (g + 9) = zar E 56 x1 := (hg248 (g + 9) (nx_M_apply_30 ) (nx_M_apply_38 ) (nx_M_apply_42 )).trans e109
              have e250 : w240 (g + 10) = zar E 56 y1 := (hg248 (g + 10) (nx_M_apply_8 ) (nx_M_apply_10 ) (nx_M_apply_43 )).trans e106
              have e251 : w240 (g + 1) = zar E 8 kf := (hg248 (g + 1) (nx_M_apply_22 ) (nx_M_apply_44 ) (nx_M_apply_45 )).trans e112
              have e252 : w240 (g + 2) = zaz E 8 mf := (hg248 (g + 2) (nx_M_apply_24 ) (nx_M_apply_46 ) (nx_M_apply_47 )).trans e113
              have e253 : w240 (g + 3) = zar E 8 sf := (hg248 (g + 3) (nx_M_apply_26 ) (nx_M_apply_48 ) (nx_M_apply_49 )).trans e114
              have e254 : w240 (g + 4) = zar E 448 G := (hg248 (g + 4) (nx_M_apply_28 ) (nx_M_apply_50 ) (nx_M_apply_51 )).trans e115
              have hf255 : ∀ k, k ≠ g → k ≠ (g + 9) → k ≠ (g + 10) → k ≠ (g + 11) → k ≠ (g + 12) → w240 k = w0 k := fun k g0 g1 g2 g3 g4 => (hg248 k g0 g3 g4).trans (hf116 k g0 g1 g2)
              refine lv_aload_n hx hb d_M_apply_255 rfl (lv_at hl 3 rfl) ?_
              refine lv_iload_n hx hb d_M_apply_256 rfl (lv_at hl 5 rfl) ?_
              refine zv_iconst hx hb d_M_apply_257 ?_
              refine z_calli (va_runV (As := [.int (iI d), .int (iI 0)]) (rest := []) ⟨hx, hb, hml, hown, hts⟩ (c_M_keep (l := l) (E := E) (w0 := w240) (g := g) (ty := ty) (xm := ((mf ra))) (ym := (mf rb)) (ne := n5) (f := f5) (kf := kf) (mf := mf) (sf := sf) (G := G) (d := d) (sc := 0) (q0lt := q0lt) (q1lt := q3lt) (q2lt := q5lt) (q3lt := q6lt) (q4lt := q7lt) (q5lt := q8lt) (c0 := e243) (c1 := e244) (c2 := e251) (c3 := e252) (c4 := e253) (c5 := e254) (bf := bd246) (bk := bk) (bm := bm) (bs := bs) (bG := bG) (hne := by omega) (hd := by omega) (hsc := by omega) H238.size) (z_cwV (C := "ScaledNumeralDeskModel") 2 hg wm_806 wm_803 wm_9 wm_805 wm_s44 (by decide +kernel) ⟨Nat.le_of_ble_eq_true rfl, Nat.le_of_ble_eq_true rfl⟩) (z_preV (r := ("ScaledNumeralDeskModel", TM, 17)) hK hG hn hH241 hA q0lt e243 rfl) rfl rfl hl.1 rfl (lv_room (Nat.le_of_ble_eq_true rfl)) d_M_apply_258 ⟨Nat.zero_le _, Nat.zero_le _⟩) hH241 hA (fun z260 w258 H256 lc257 hH259 p258 => ?_)
              obtain ⟨⟨k_261, m_262, s_263, x_264, e265, e266, e267, e268, bd269, bd270, bd271, bd272, p258⟩, hg273⟩ := p258
              replace bd269 : bd k_261 8 0 3 := bd269
              replace bd270 : bd m_262 8 0 1 := bd270
              replace bd271 : bd s_263 8 0 24 := bd271
              replace bd272 : bd x_264 448 0 9 := bd272
              replace p258 : KpR z260 d (0 : Int) n5 (Vt f5 140) kf sf mf G k_261 s_263 m_262 x_264 := p258
              have e274 : w258 g = .inr (6, [.ref (ad E (g + 1)), .ref (ad E (g + 2)), .ref (ad E (g + 3)), .ref (ad E (g + 4)), .int (iI ty), .ref (ad E (g + 5)), .ref (ad E (g + 6)), .ref (ad E (g + 7)), .ref (ad E (g + 8)), .ref (ad E (g + 9)), .ref (ad E (g + 10)), .int (iI (((mf ra)))), .int (iI ((mf rb))), .ref (ad E (g + 11)), .int (iI n5), .ref (ad E (g + 12)), .ref (ad E (g + 13))]) := (hg273 g (nx_M_apply_0 ) (nx_M_apply_52 ) (nx_M_apply_53 ) (nx_M_apply_54 )).trans e243
              have e275 : w258 (g + 9) = zar E 56 x1 := (hg273 (g + 9) (nx_M_apply_1 ) (nx_M_apply_39 ) (nx_M_apply_40 ) (nx_M_apply_41 )).trans e249
              have e276 : w258 (g + 10) = zar E 56 y1 := (hg273 (g + 10) (nx_M_apply_2 ) (nx_M_apply_11 ) (nx_M_apply_12 ) (nx_M_apply_13 )).trans e250
              have e277 : w258 (g + 11) = zar E 140 f5 := (hg273 (g + 11) (nx_M_apply_3 ) (nx_M_apply_55 ) (nx_M_apply_56 ) (nx_M_apply_57 )).trans e244
              have e278 : w258 (g + 12) = zar E 58 r_242 := (hg273 (g + 12) (nx_M_apply_4 ) (nx_M_apply_17 ) (nx_M_apply_18 ) (nx_M_apply_19 )).trans e245
              have hf279 : ∀ k, k ≠ g → k ≠ (g + 9) → k ≠ (g + 10) → k ≠ (g + 11) → k ≠ (g + 12) → k ≠ (g + 1) → k ≠ (g + 2) → k ≠ (g + 3) → k ≠ (g + 4) → w258 k = w0 k := fun k g0 g1 g2 g3 g4 g5 g6 g7 g8 => (hg273 k g5 g6 g7 g8).trans (hf255 k g0 g1 g2 g3 g4)
              rw [p252.2.2.1, p252.1, p103, p109, Tp_0, Int.mul_one] at p258
              rw [hQ]
              exact z_iret hx hb hr hlk hH259 (⟨⟨(((mf ra))), ((mf rb)), n5, x1, y1, f5, r_242, k_261, m_262, s_263, x_264, e274, e275, e276, e277, e278, e265, e266, e267, e268, bd91, bd107, bd246, bd247, bd269, bd270, bd271, bd272, ⟨by omega, by omega, by rw [p252.1]; exact dif_01 _ _, Or.inr (Or.inr (Or.inr ⟨by omega, by omega, hdv, Or.inr (Or.inr (Or.inr (Or.inl ⟨rfl, p258⟩)))⟩))⟩⟩, (fun k g0 g1 g2 g3 g4 g5 g6 g7 g8 => hf279 k g0 g1 g2 g3 g4 g5 g6 g7 g8)⟩) d_M_apply_261
            · refine lv_tableOut (x := iI 5) (tgt := 262) hx hb d_M_apply_162 (by decide) (by decide) ?_
              refine lv_aload_n hx hb d_M_apply_262 rfl (lv_at hl 3 rfl) ?_
              refine lv_iload_n hx hb d_M_apply_263 rfl (lv_at hl 5 rfl) ?_
              refine lv_iload hx hb d_M_apply_264 (lv_at hl 0 rfl) ?_
              refine z_calli (va_runV (As := [.int (iI d), .int (iI mo)]) (rest := []) ⟨hx, hb, hml, hown, hts⟩ (c_M_remainder (l := l) (E := E) (w0 := w103) (g := g) (ty := ty) (xm := (mf ra)) (ym := mf rb) (ne := ne) (xf := x1) (yf := y1) (f := f) (rf := rf) (kf := kf) (mf := mf) (sf := sf) (G := G) (d := d) (sc := mo) (q0lt := q0lt) (q1lt := q1lt) (q2lt := q2lt) (q3lt := q3lt) (q4lt := q4lt) (q5lt := q5lt) (q6lt := q6lt) (q7lt := q7lt) (q8lt := q8lt) (c0 := e105) (c1 := e109) (c2 := e106) (c3 := e110) (c4 := e111) (c5 := e112) (c6 := e113) (c7 := e114) (c8 := e115) (bx := bd91) (by1 := bd107) (bk := bk) (bm := bm) (bs := bs) (bG := bG) (hxm := by omega) (hym := by omega) (hd := by omega) (hsc := by omega) (hD := (by rw [p109]; omega)) H121.size) (z_cwV (C := "ScaledNumeralDeskModel") 2 hg wm_911 wm_908 wm_9 wm_910 wm_s66 (by decide +kernel) ⟨Nat.le_of_ble_eq_true rfl, Nat.le_of_ble_eq_true rfl⟩) (z_preV (r := ("ScaledNumeralDeskModel", TM, 17)) hK hG hn hH hA q0lt e105 rfl) rfl rfl hl.1 rfl (lv_room (Nat.le_of_ble_eq_true rfl)) d_M_apply_266 ⟨Nat.zero_le _, Nat.zero_le _⟩) hH hA (fun z284 w282 H280 lc281 hH283 p266 => ?_)
              obtain ⟨⟨n_285, f_286, r_287, k_288, m_289, s_290, x_291, e292, e293, e294, e295, e296, e297, e298, bd299, bd300, bd301, bd302, bd303, bd304, p266⟩, hg305⟩ := p266
              replace bd299 : bd f_286 140 0 9 := bd299
              replace bd300 : bd r_287 58 0 9 := bd300
              replace bd301 : bd k_288 8 0 3 := bd301
              replace bd302 : bd m_289 8 0 1 := bd302
              replace bd303 : bd s_290 8 0 24 := bd303
              replace bd304 : bd x_291 448 0 9 := bd304
              replace p266 : (n_285 = 0 ∨ n_285 = 1) ∧ KpR z284 d mo ((mf ra)) (Vt x1 56 % Vt y1 56 * Tp 24) kf sf mf G k_288 s_290 m_289 x_291 := p266
              have e306 : w282 (g + 9) = zar E 56 x1 := (hg305 (g + 9) (nx_M_apply_30 ) (nx_M_apply_38 ) (nx_M_apply_42 ) (nx_M_apply_1 ) (nx_M_apply_39 ) (nx_M_apply_40 ) (nx_M_apply_41 )).trans e109
              have e307 : w282 (g + 10) = zar E 56 y1 := (hg305 (g + 10) (nx_M_apply_8 ) (nx_M_apply_10 ) (nx_M_apply_43 ) (nx_M_apply_2 ) (nx_M_apply_11 ) (nx_M_apply_12 ) (nx_M_apply_13 )).trans e106
              have hf308 : ∀ k, k ≠ g → k ≠ (g + 9) → k ≠ (g + 10) → k ≠ (g + 11) → k ≠ (g + 12) → k ≠ (g + 1) → k ≠ (g + 2) → k ≠ (g + 3) → k ≠ (g + 4) → w282 k = w0 k := fun k g0 g1 g2 g3 g4 g5 g6 g7 g8 => (hg305 k g0 g3 g4 g5 g6 g7 g8).trans (hf116 k g0 g1 g2)
              rw [p103, p109, hmo] at p266
              rw [hQ]
              exact z_iret hx hb hr hlk hH283 (⟨⟨(((mf ra))), ((mf rb)), n_285, x1, y1, f_286, r_287, k_288, m_289, s_290, x_291, e292, e306, e307, e293, e294, e295, e296, e297, e298, bd91, bd107, bd299, bd300, bd301, bd302, bd303, bd304, ⟨by omega, by omega, p266.1, Or.inr (Or.inr (Or.inr ⟨by omega, by omega, hdv, Or.inr (Or.inr (Or.inr (Or.inr ⟨rfl, p266.2⟩)))⟩))⟩⟩, (fun k g0 g1 g2 g3 g4 g5 g6 g7 g8 => hf308 k g0 g1 g2 g3 g4 g5 g6 g7 g8)⟩) d_M_apply_269
          refine lv_iload hx hb d_M_apply_145 (lv_at hl 1 rfl) ?_
          refine lv_iload hx hb d_M_apply_147 (lv_at hl 0 rfl) ?_
          refine zv_icmp_le (tgt := 157) hx hb d_M_apply_149 rfl (by omega) (by omega) (fun h309 => ?_) (fun h309 => ?_)
          · refine lv_iload hx hb d_M_apply_157 (lv_at hl 0 rfl) ?_
            exact L159 (sf rb) _ H117 lc118 (lv_sub hl [0, 1, 2, 3, 4, 5, 6] rfl) hH (by omega) (by omega)
          · refine lv_iload hx hb d_M_apply_152 (lv_at hl 1 rfl) ?_
            refine lv_goto (tgt := 159) hx hb d_M_apply_154 rfl ?_
            exact L159 (sf ra) _ H117 lc118 (lv_sub hl [0, 1, 2, 3, 4, 5, 6] rfl) hH (by omega) (by omega)
        refine lv_iload_n hx hb d_M_apply_112 rfl (lv_at hl 1 rfl) ?_
        refine zv_iconst hx hb d_M_apply_113 ?_
        refine zv_icmp_lt (tgt := 128) hx hb d_M_apply_114 rfl (by omega) (by omega) (fun h310 => ?_) (fun h310 => ?_)
        · have hdv : op < 3 ∨ 0 < Gt G rb := Or.inl (by omega)
          exact L128 _ H101 lc102 (lv_sub hl [0, 1, 2, 3, 4] rfl) hH104 (by exact hdv)
        · refine lv_aload_n hx hb d_M_apply_117 rfl (lv_at hl 0 rfl) ?_
          refine zv_iconst hx hb d_M_apply_118 ?_
          refine z_calli (va_runV (As := [.int (iI 1)]) (rest := []) ⟨hx, hb, hml, hown, hts⟩ (c_M_topY (l := l) (E := E) (w0 := w103) (g := g) (ty := ty) (xm := (mf ra)) (ym := mf rb) (ne := ne) (xf := x1) (yf := y1) (q0lt := q0lt) (q1lt := q1lt) (q2lt := q2lt) (c0 := e105) (c1 := e109) (c2 := e106) (bx := bd91) (by1 := bd107) H101.size) (z_cwV (C := "ScaledNumeralDeskModel") 1 hg wm_863 wm_860 wm_9 wm_862 wm_s54 (by decide +kernel) ⟨Nat.le_of_ble_eq_true rfl, Nat.le_of_ble_eq_true rfl⟩) (z_preV (r := ("ScaledNumeralDeskModel", TM, 17)) hK hG hn hH104 hA q0lt e105 rfl) rfl rfl hl.1 rfl (lv_room (Nat.le_of_ble_eq_true rfl)) d_M_apply_119 ⟨Nat.zero_le _, Nat.zero_le _⟩) hH104 hA (fun t w313 H311 lc312 hH314 p119 => ?_)
          obtain ⟨ew315, p119⟩ := p119
          rw [ew315] at hH314
          replace p119 : TpR y1 t := p119
          unfold TpR at p119
          rw [p109] at p119
          refine zv_if_ge (tgt := 128) hx hb d_M_apply_122 rfl (by omega) (fun h316 => ?_) (fun h316 => ?_)
          · have hdv : op < 3 ∨ 0 < Gt G rb := Or.inr (by rcases p119 with h8 | h8; omega; have := Tp_pos t; omega)
            exact L128 _ H311 lc312 (lv_sub hl [0, 1, 2, 3, 4] rfl) hH314 (by exact hdv)
          · have hdz : Gt G rb = 0 := by rcases p119 with h8 | h8; exact h8.2; omega
            refine zv_bipush hx hb d_M_apply_125 rfl ?_
            rw [hQ]
            exact z_iret hx hb hr hlk hH314 (⟨⟨((mf ra)), (mf rb), ne, x1, y1, f, rf, kf, mf, sf, G, e105, e109, e106, e110, e111, e112, e113, e114, e115, bd91, bd107, bf, br, bk, bm, bs, bG, ⟨by omega, by omega, hne, Or.inr (Or.inr (Or.inl ⟨by omega, by omega, by omega, hdz, rfl, rfl, rfl, rfl, rfl⟩))⟩⟩, (fun k g0 g1 g2 g3 g4 g5 g6 g7 g8 => hf116 k g0 g1 g2)⟩) d_M_apply_127
      · exact L91 _ H47 lc48 (lv_sub hl [0, 1, 2, 3, 4] rfl) hH (by omega)
  refine lv_aload_n hx hb d_M_apply_42 rfl (lv_at hl 0 rfl) ?_
  refine zv_get (C := "ScaledNumeralDeskModel") (T := TM) (N := 17) hx hb hg uM_in hown hK hH25 q0lt c0 rfl 0 (by decide) (hg _ wm_682) (fun _ h9 => h9) rfl d_M_apply_43 ?_
  refine lv_iload_n hx hb d_M_apply_46 rfl (lv_at hl 3 rfl) ?_
  refine zv_iald hx hb hK hH25 q5lt c5 (by omega) (by omega) (by omega) d_M_apply_47 ?_
  have b317 := bk ra (by omega) (by omega)
  refine zv_iconst hx hb d_M_apply_48 ?_
  refine zv_icmp_eq (tgt := 63) hx hb d_M_apply_49 rfl (by omega) (by omega) (fun h318 => ?_) (fun h318 => ?_)
  · exact L63 _ H22 lc23 (lv_sub hl [0, 1, 2, 3, 4] rfl) hH25 (by omega)
  · refine lv_aload_n hx hb d_M_apply_52 rfl (lv_at hl 0 rfl) ?_
    refine zv_get (C := "ScaledNumeralDeskModel") (T := TM) (N := 17) hx hb hg uM_in hown hK hH25 q0lt c0 rfl 0 (by decide) (hg _ wm_682) (fun _ h9 => h9) rfl d_M_apply_53 ?_
    refine lv_iload hx hb d_M_apply_56 (lv_at hl 4 rfl) ?_
    refine zv_iald hx hb hK hH25 q5lt c5 (by omega) (by omega) (by omega) d_M_apply_58 ?_
    have b319 := bk rb (by omega) (by omega)
    refine zv_iconst hx hb d_M_apply_59 ?_
    refine zv_icmp_ne (tgt := 70) hx hb d_M_apply_60 rfl (by omega) (by omega) (fun h320 => ?_) (fun h320 => ?_)
    · exact L70 _ H22 lc23 (lv_sub hl [0, 1, 2, 3, 4] rfl) hH25 (by omega)
    · exact L63 _ H22 lc23 (lv_sub hl [0, 1, 2, 3, 4] rfl) hH25 (by omega)
