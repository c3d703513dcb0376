def rm_M_qscale : Room := { frames := 2, cells := 0, slots := 0, locals := 48 }
set_option maxHeartbeats 4000000 in
set_option maxRecDepth 100000 in
theorem c_M_qscale (l : Launch) (E : zE) (w0 : zW) (g : Nat) (ty xm ym ne : Int) (xf yf : Int → Int) (sa sb : Int) (q0lt : g < zn E) (q1lt : g + 9 < zn E) (q2lt : g + 10 < zn E) (c0 : w0 g = .inr (6, [.ref (ad E (g + 1)), .ref (ad E (g + 2)), .ref (ad E (g + 3)), .ref (ad E (g + 4)), .int (iI ty), .ref (ad E (g + 5)), .ref (ad E (g + 6)), .ref (ad E (g + 7)), .ref (ad E (g + 8)), .ref (ad E (g + 9)), .ref (ad E (g + 10)), .int (iI xm), .int (iI ym), .ref (ad E (g + 11)), .int (iI ne), .ref (ad E (g + 12)), .ref (ad E (g + 13))])) (c1 : w0 (g + 9) = zar E 56 xf) (c2 : w0 (g + 10) = zar E 56 yf) (bx : bd xf 56 0 9) (by1 : bd yf 56 0 9) (hsa : 0 ≤ sa ∧ sa ≤ 24) (hsb : 0 ≤ sb ∧ sb ≤ 24) : zM l y_M_quotientScale ws_M_quotientScale rm_M_qscale E [.ref (ad E g), .int (iI sa), .int (iI sb)] w0 (zQi E w0 (fun z w' => w' = w0 ∧ (∃ wa wb la lb : Int, Wt (Vt xf 56) wa ∧ Wt (Vt yf 56) wb ∧ Ld (Vt xf 56) la ∧ Ld (Vt yf 56) lb ∧ z = pd wa wb la lb sa sb))) := by
  refine z_met (cc := b_M_quotientScale) (maxL := 5) (ret := (some .int)) (by decide +kernel) rfl (Nat.le_of_ble_eq_true rfl) ?_
  intro p e s m below meth cd ls a Qf hQ hC hl hH
  obtain ⟨hF, hr, hlk, hK, hG, hn⟩ := hC
  obtain ⟨hx, hb, hml, hown, hts⟩ := hF
  have hg : ∀ w ∈ GW, w.before a s = true := fun w h => hts w (List.mem_cons_of_mem _ h)
  have hA : ∀ q, s.heap.size ≤ q → va_A (wl E w0) s.heap.size q := fun q h => Or.inr h
  have hl : lv_has ls 5 [(0, .ref (ad E g)), (1, .int (iI sa)), (2, .int (iI sb))] := hl
  refine lv_aload_n hx hb d_M_quotientScale_0 rfl (lv_at hl 0 rfl) ?_
  refine zv_iconst hx hb d_M_quotientScale_1 ?_
  refine z_calli (va_runV (As := [.int (iI 0)]) (rest := []) ⟨hx, hb, hml, hown, hts⟩ (c_M_weightX (l := l) (E := E) (w0 := w0) (g := g) (ty := ty) (xm := xm) (ym := ym) (ne := ne) (xf := xf) (yf := yf) (q0lt := q0lt) (q1lt := q1lt) (q2lt := q2lt) (c0 := c0) (c1 := c1) (c2 := c2) (bx := bx) (by1 := by1) s.heap.size) (z_cwV (C := "ScaledNumeralDeskModel") 1 hg wm_883 wm_880 wm_9 wm_882 wm_s59 (by decide +kernel) ⟨Nat.le_of_ble_eq_true rfl, Nat.le_of_ble_eq_true rfl⟩) (z_preV (r := ("ScaledNumeralDeskModel", TM, 17)) hK hG hn hH hA q0lt c0 rfl) rfl rfl hl.1 rfl (lv_room (Nat.le_of_ble_eq_true rfl)) d_M_quotientScale_2 ⟨Nat.zero_le _, Nat.zero_le _⟩) hH hA (fun wa w3 H1 lc2 hH4 p2 => ?_)
  obtain ⟨ew5, p2⟩ := p2
  rw [ew5] at hH4
  replace p2 : Wt (Vt xf 56) wa := p2
  have w2 := Wt_in p2
  refine lv_aload_n hx hb d_M_quotientScale_5 rfl (lv_at hl 0 rfl) ?_
  refine zv_iconst hx hb d_M_quotientScale_6 ?_
  refine z_calli (va_runV (As := [.int (iI 1)]) (rest := [.int (iI wa)]) ⟨hx, hb, hml, hown, hts⟩ (c_M_weightY (l := l) (E := E) (w0 := w0) (g := g) (ty := ty) (xm := xm) (ym := ym) (ne := ne) (xf := xf) (yf := yf) (q0lt := q0lt) (q1lt := q1lt) (q2lt := q2lt) (c0 := c0) (c1 := c1) (c2 := c2) (bx := bx) (by1 := by1) H1.size) (z_cwV (C := "ScaledNumeralDeskModel") 1 hg wm_883 wm_880 wm_9 wm_882 wm_s59 (by decide +kernel) ⟨Nat.le_of_ble_eq_true rfl, Nat.le_of_ble_eq_true rfl⟩) (z_preV (r := ("ScaledNumeralDeskModel", TM, 17)) hK hG hn hH4 hA q0lt c0 rfl) rfl rfl hl.1 rfl (lv_room (Nat.le_of_ble_eq_true rfl)) d_M_quotientScale_7 ⟨Nat.zero_le _, Nat.zero_le _⟩) hH4 hA (fun wb w8 H6 lc7 hH9 p7 => ?_)
  obtain ⟨ew10, p7⟩ := p7
  rw [ew10] at hH9
  replace p7 : Wt (Vt yf 56) wb := p7
  have w7 := Wt_in p7
  refine zv_isub hx hb d_M_quotientScale_10 ?_
  refine lv_aload_n hx hb d_M_quotientScale_11 rfl (lv_at hl 0 rfl) ?_
  refine zv_iconst hx hb d_M_quotientScale_12 ?_
  refine z_calli (va_runV (As := [.int (iI 0)]) (rest := [.int (iI (wa - wb))]) ⟨hx, hb, hml, hown, hts⟩ (c_M_leadX (l := l) (E := E) (w0 := w0) (g := g) (ty := ty) (xm := xm) (ym := ym) (ne := ne) (xf := xf) (yf := yf) (q0lt := q0lt) (q1lt := q1lt) (q2lt := q2lt) (c0 := c0) (c1 := c1) (c2 := c2) (bx := bx) (by1 := by1) H6.size) (z_cwV (C := "ScaledNumeralDeskModel") 1 hg wm_887 wm_884 wm_9 wm_886 wm_s60 (by decide +kernel) ⟨Nat.le_of_ble_eq_true rfl, Nat.le_of_ble_eq_true rfl⟩) (z_preV (r := ("ScaledNumeralDeskModel", TM, 17)) hK hG hn hH9 hA q0lt c0 rfl) rfl rfl hl.1 rfl (lv_room (Nat.le_of_ble_eq_true rfl)) d_M_quotientScale_13 ⟨Nat.zero_le _, Nat.zero_le _⟩) hH9 hA (fun la w13 H11 lc12 hH14 p13 => ?_)
  obtain ⟨ew15, p13⟩ := p13
  rw [ew15] at hH14
  replace p13 : Ld (Vt xf 56) la ∧ 0 ≤ la ∧ la ≤ 9999 := p13
  refine lv_aload_n hx hb d_M_quotientScale_16 rfl (lv_at hl 0 rfl) ?_
  refine zv_iconst hx hb d_M_quotientScale_17 ?_
  refine z_calli (va_runV (As := [.int (iI 1)]) (rest := [.int (iI la), .int (iI (wa - wb))]) ⟨hx, hb, hml, hown, hts⟩ (c_M_leadY (l := l) (E := E) (w0 := w0) (g := g) (ty := ty) (xm := xm) (ym := ym) (ne := ne) (xf := xf) (yf := yf) (q0lt := q0lt) (q1lt := q1lt) (q2lt := q2lt) (c0 := c0) (c1 := c1) (c2 := c2) (bx := bx) (by1 := by1) H11.size) (z_cwV (C := "ScaledNumeralDeskModel") 1 hg wm_887 wm_884 wm_9 wm_886 wm_s60 (by decide +kernel) ⟨Nat.le_of_ble_eq_true rfl, Nat.le_of_ble_eq_true rfl⟩) (z_preV (r := ("ScaledNumeralDeskModel", TM, 17)) hK hG hn hH14 hA q0lt c0 rfl) rfl rfl hl.1 rfl (lv_room (Nat.le_of_ble_eq_true rfl)) d_M_quotientScale_18 ⟨Nat.zero_le _, Nat.zero_le _⟩) hH14 hA (fun lb w18 H16 lc17 hH19 p18 => ?_)
  obtain ⟨ew20, p18⟩ := p18
  rw [ew20] at hH19
  replace p18 : Ld (Vt yf 56) lb ∧ 0 ≤ lb ∧ lb ≤ 9999 := p18
  have L29 : ∀ (fl : Int) (ls : Array Slot) (H21 : Heap) (lc22 : List Loc), (lv_has ls 5 [(0, .ref (ad E g)), (1, .int (iI sa)), (2, .int (iI sb))]) → (zH E w0 (va_A (wl E w0) s.heap.size) s.heap H21 lc22) → ((fl = 1 ∧ la ≤ lb) ∨ (fl = 0 ∧ ¬ la ≤ lb)) → W p l e rm_M_qscale s m a below meth cd H21 lc22 0 0 Qf (F0 m 29 ls [.int (iI fl), .int (iI (wa - wb))]) := by
    intro fl ls H21 lc22 hl hH hfl
    refine zv_isub hx hb d_M_quotientScale_29 ?_
    refine lv_istore_n (lv' := [(3, .int (iI ((wa - wb) - fl))), (0, .ref (ad E g)), (1, .int (iI sa)), (2, .int (iI sb))]) hx hb d_M_quotientScale_30 rfl hl (by decide) rfl (fun ls hl => ?_)
    refine zv_bipush hx hb d_M_quotientScale_31 rfl ?_
    refine zv_iconst hx hb d_M_quotientScale_33 ?_
    refine lv_iload_n hx hb d_M_quotientScale_34 rfl (lv_at hl 0 rfl) ?_
    refine zv_imul hx hb d_M_quotientScale_35 ?_
    refine zv_isub hx hb d_M_quotientScale_36 ?_
    refine lv_istore (lv' := [(4, .int (iI (16 - (4 * ((wa - wb) - fl))))), (3, .int (iI ((wa - wb) - fl))), (0, .ref (ad E g)), (1, .int (iI sa)), (2, .int (iI sb))]) hx hb d_M_quotientScale_37 hl (by decide) rfl (fun ls hl => ?_)
    refine lv_iload_n hx hb d_M_quotientScale_39 rfl (lv_at hl 3 rfl) ?_
    refine lv_iload hx hb d_M_quotientScale_40 (lv_at hl 0 rfl) ?_
    refine zv_icmp_le (tgt := 49) hx hb d_M_quotientScale_42 rfl (by omega) (by omega) (fun h23 => ?_) (fun h23 => ?_)
    · refine lv_iload hx hb d_M_quotientScale_49 (lv_at hl 0 rfl) ?_
      refine lv_istore (lv' := [(4, .int (iI (16 - (4 * ((wa - wb) - fl))))), (3, .int (iI ((wa - wb) - fl))), (0, .ref (ad E g)), (1, .int (iI sa)), (2, .int (iI sb))]) hx hb d_M_quotientScale_51 hl (by decide) rfl (fun ls hl => ?_)
      refine lv_iload_n hx hb d_M_quotientScale_53 rfl (lv_at hl 4 rfl) ?_
      refine lv_iload hx hb d_M_quotientScale_54 (lv_at hl 0 rfl) ?_
      refine zv_icmp_le (tgt := 63) hx hb d_M_quotientScale_56 rfl (by omega) (by omega) (fun h24 => ?_) (fun h24 => ?_)
      · refine lv_iload hx hb d_M_quotientScale_63 (lv_at hl 0 rfl) ?_
        refine lv_istore (lv' := [(4, .int (iI (16 - (4 * ((wa - wb) - fl))))), (3, .int (iI ((wa - wb) - fl))), (0, .ref (ad E g)), (1, .int (iI sa)), (2, .int (iI sb))]) hx hb d_M_quotientScale_65 hl (by decide) rfl (fun ls hl => ?_)
        refine lv_iload hx hb d_M_quotientScale_67 (lv_at hl 0 rfl) ?_
        refine zv_bipush hx hb d_M_quotientScale_69 rfl ?_
        refine zv_icmp_le (tgt := 79) hx hb d_M_quotientScale_71 rfl (by omega) (by omega) (fun h25 => ?_) (fun h25 => ?_)
        · refine lv_iload hx hb d_M_quotientScale_79 (lv_at hl 0 rfl) ?_
          rw [hQ]
          exact z_iret hx hb hr hlk hH (⟨rfl, ⟨wa, wb, la, lb, p2, p7, p13.1, p18.1, by unfold pd; by_cases h8 : la ≤ lb; rw [if_pos h8]; omega; rw [if_neg h8]; omega⟩⟩) d_M_quotientScale_81
        · refine zv_bipush hx hb d_M_quotientScale_74 rfl ?_
          refine lv_goto (tgt := 81) hx hb d_M_quotientScale_76 rfl ?_
          rw [hQ]
          exact z_iret hx hb hr hlk hH (⟨rfl, ⟨wa, wb, la, lb, p2, p7, p13.1, p18.1, by unfold pd; by_cases h8 : la ≤ lb; rw [if_pos h8]; omega; rw [if_neg h8]; omega⟩⟩) d_M_quotientScale_81
      · refine lv_iload_n hx hb d_M_quotientScale_59 rfl (lv_at hl 4 rfl) ?_
        refine lv_goto (tgt := 65) hx hb d_M_quotientScale_60 rfl ?_
        refine lv_istore (lv' := [(4, .int (iI sb)), (3, .int (iI ((wa - wb) - fl))), (0, .ref (ad E g)), (1, .int (iI sa)), (2, .int (iI sb))]) hx hb d_M_quotientScale_65 hl (by decide) rfl (fun ls hl => ?_)
        refine lv_iload hx hb d_M_quotientScale_67 (lv_at hl 0 rfl) ?_
        refine zv_bipush hx hb d_M_quotientScale_69 rfl ?_
        refine zv_icmp_le (tgt := 79) hx hb d_M_quotientScale_71 rfl (by omega) (by omega) (fun h26 => ?_) (fun h26 => ?_)
        · refine lv_iload hx hb d_M_quotientScale_79 (lv_at hl 0 rfl) ?_
          rw [hQ]
          exact z_iret hx hb hr hlk hH (⟨rfl, ⟨wa, wb, la, lb, p2, p7, p13.1, p18.1, by unfold pd; by_cases h8 : la ≤ lb; rw [if_pos h8]; omega; rw [if_neg h8]; omega⟩⟩) d_M_quotientScale_81
        · refine zv_bipush hx hb d_M_quotientScale_74 rfl ?_
          refine lv_goto (tgt := 81) hx hb d_M_quotientScale_76 rfl ?_
          rw [hQ]
          exact z_iret hx hb hr hlk hH (⟨rfl, ⟨wa, wb, la, lb, p2, p7, p13.1, p18.1, by unfold pd; by_cases h8 : la ≤ lb; rw [if_pos h8]; omega; rw [if_neg h8]; omega⟩⟩) d_M_quotientScale_81
    · refine lv_iload_n hx hb d_M_quotientScale_45 rfl (lv_at hl 3 rfl) ?_
      refine lv_goto (tgt := 51) hx hb d_M_quotientScale_46 rfl ?_
      refine lv_istore (lv' := [(4, .int (iI sa)), (3, .int (iI ((wa - wb) - fl))), (0, .ref (ad E g)), (1, .int (iI sa)), (2, .int (iI sb))]) hx hb d_M_quotientScale_51 hl (by decide) rfl (fun ls hl => ?_)
      refine lv_iload_n hx hb d_M_quotientScale_53 rfl (lv_at hl 4 rfl) ?_
      refine lv_iload hx hb d_M_quotientScale_54 (lv_at hl 0 rfl) ?_
      refine zv_icmp_le (tgt := 63) hx hb d_M_quotientScale_56 rfl (by omega) (by omega) (fun h27 => ?_) (fun h27 => ?_)
      · refine lv_iload hx hb d_M_quotientScale_63 (lv_at hl 0 rfl) ?_
        refine lv_istore (lv' := [(4, .int (iI sa)), (3, .int (iI ((wa - wb) - fl))), (0, .ref (ad E g)), (1, .int (iI sa)), (2, .int (iI sb))]) hx hb d_M_quotientScale_65 hl (by decide) rfl (fun ls hl => ?_)
        refine lv_iload hx hb d_M_quotientScale_67 (lv_at hl 0 rfl) ?_
        refine zv_bipush hx hb d_M_quotientScale_69 rfl ?_
        refine zv_icmp_le (tgt := 79) hx hb d_M_quotientScale_71 rfl (by omega) (by omega) (fun h28 => ?_) (fun h28 => ?_)
        · refine lv_iload hx hb d_M_quotientScale_79 (lv_at hl 0 rfl) ?_
          rw [hQ]
          exact z_iret hx hb hr hlk hH (⟨rfl, ⟨wa, wb, la, lb, p2, p7, p13.1, p18.1, by unfold pd; by_cases h8 : la ≤ lb; rw [if_pos h8]; omega; rw [if_neg h8]; omega⟩⟩) d_M_quotientScale_81
        · refine zv_bipush hx hb d_M_quotientScale_74 rfl ?_
          refine lv_goto (tgt := 81) hx hb d_M_quotientScale_76 rfl ?_
          rw [hQ]
          exact z_iret hx hb hr hlk hH (⟨rfl, ⟨wa, wb, la, lb, p2, p7, p13.1, p18.1, by unfold pd; by_cases h8 : la ≤ lb; rw [if_pos h8]; omega; rw [if_neg h8]; omega⟩⟩) d_M_quotientScale_81
      · refine lv_iload_n hx hb d_M_quotientScale_59 rfl (lv_at hl 4 rfl) ?_
        refine lv_goto (tgt := 65) hx hb d_M_quotientScale_60 rfl ?_
        refine lv_istore (lv' := [(4, .int (iI sb)), (3, .int (iI ((wa - wb) - fl))), (0, .ref (ad E g)), (1, .int (iI sa)), (2, .int (iI sb))]) hx hb d_M_quotientScale_65 hl (by decide) rfl (fun ls hl => ?_)
        refine lv_iload hx hb d_M_quotientScale_67 (lv_at hl 0 rfl) ?_
        refine zv_bipush hx hb d_M_quotientScale_69 rfl ?_
        refine zv_icmp_le (tgt := 79) hx hb d_M_quotientScale_71 rfl (by omega) (by omega) (fun h29 => ?_) (fun h29 => ?_)
        · refine lv_iload hx hb d_M_quotientScale_79 (lv_at hl 0 rfl) ?_
          rw [hQ]
          exact z_iret hx hb hr hlk hH (⟨rfl, ⟨wa, wb, la, lb, p2, p7, p13.1, p18.1, by unfold pd; by_cases h8 : la ≤ lb; rw [if_pos h8]; omega; rw [if_neg h8]; omega⟩⟩) d_M_quotientScale_81
        · refine zv_bipush hx hb d_M_quotientScale_74 rfl ?_
          refine lv_goto (tgt := 81) hx hb d_M_quotientScale_76 rfl ?_
          rw [hQ]
          exact z_iret hx hb hr hlk hH (⟨rfl, ⟨wa, wb, la, lb, p2, p7, p13.1, p18.1, by unfold pd; by_cases h8 : la ≤ lb; rw [if_pos h8]; omega; rw [if_neg h8]; omega⟩⟩) d_M_quotientScale_81
  refine zv_icmp_gt (tgt := 28) hx hb d_M_quotientScale_21 rfl (by omega) (by omega) (fun h30 => ?_) (fun h30 => ?_)
  · refine zv_iconst hx hb d_M_quotientScale_28 ?_
    exact L29 0 _ H16 lc17 (lv_sub hl [0, 1, 2] rfl) hH19 (by omega)
  · refine zv_iconst hx hb d_M_quotientScale_24 ?_
    refine lv_goto (tgt := 29) hx hb d_M_quotientScale_25 rfl ?_
    exact L29 1 _ H16 lc17 (lv_sub hl [0, 1, 2] rfl) hH19 (by omega)
theorem nx_M_divide_0 {g : Nat}  : g + 9 ≠ g := by omega
theorem nx_M_divide_1 {g : Nat}  : g + 9 ≠ g + 11 := by omega
theorem nx_M_divide_2 {g : Nat}  : g + 9 ≠ g + 12 := by omega
theorem nx_M_divide_3 {g : Nat}  : g + 10 ≠ g := by omega
theorem nx_M_divide_4 {g : Nat}  : g + 10 ≠ g + 11 := by omega
theorem nx_M_divide_5 {g : Nat}  : g + 10 ≠ g + 12 := by omega
theorem nx_M_divide_6 {g : Nat}  : g + 1 ≠ g := by omega
theorem nx_M_divide_7 {g : Nat}  : g + 1 ≠ g + 11 := by omega
theorem nx_M_divide_8 {g : Nat}  : g + 1 ≠ g + 12 := by omega
theorem nx_M_divide_9 {g : Nat}  : g + 2 ≠ g := by omega
theorem nx_M_divide_10 {g : Nat}  : g + 2 ≠ g + 11 := by omega
theorem nx_M_divide_11 {g : Nat}  : g + 2 ≠ g + 12 := by omega
theorem nx_M_divide_12 {g : Nat}  : g + 3 ≠ g := by omega
theorem nx_M_divide_13 {g : Nat}  : g + 3 ≠ g + 11 := by omega
theorem nx_M_divide_14 {g : Nat}  : g + 3 ≠ g + 12 := by omega
theorem nx_M_divide_15 {g : Nat}  : g + 4 ≠ g := by omega
theorem nx_M_divide_16 {g : Nat}  : g + 4 ≠ g + 11 := by omega
theorem nx_M_divide_17 {g : Nat}  : g + 4 ≠ g + 12 := by omega
theorem nx_M_divide_18 {g : Nat}  : g + 9 ≠ g + 1 := by omega
theorem nx_M_divide_19 {g : Nat}  : g + 9 ≠ g + 2 := by omega
theorem nx_M_divide_20 {g : Nat}  : g + 9 ≠ g + 3 := by omega
theorem nx_M_divide_21 {g : Nat}  : g + 9 ≠ g + 4 := by omega
theorem nx_M_divide_22 {g : Nat}  : g + 10 ≠ g + 1 := by omega
theorem nx_M_divide_23 {g : Nat}  : g + 10 ≠ g + 2 := by omega
theorem nx_M_divide_24 {g : Nat}  : g + 10 ≠ g + 3 := by omega
theorem nx_M_divide_25 {g : Nat}  : g + 10 ≠ g + 4 := by omega
theorem nx_M_divide_26 {g : Nat}  : g + 12 ≠ g := by omega
theorem nx_M_divide_27 {g : Nat}  : g + 12 ≠ g + 11 := by omega
theorem nx_M_divide_28 {g : Nat}  : g + 12 ≠ g + 1 := by omega
theorem nx_M_divide_29 {g : Nat}  : g + 12 ≠ g + 2 := by omega
theorem nx_M_divide_30 {g : Nat}  : g + 12 ≠ g + 3 := by omega
theorem nx_M_divide_31 {g : Nat}  : g + 12 ≠ g + 4 := by omega
def rm_M_divide : Room := { frames := 4, cells := 0, slots := 0, locals := 90 }
set_option maxHeartbeats 4000000 in
set_option maxRecDepth 100000 in
theorem c_M_divide (l : Launch) (E : zE) (w0 : zW) (g : Nat) (ty xm ym ne : Int) (xf yf f rf kf mf sf G : Int → Int) (d sa sb : Int) (q0lt : g < zn E) (q1lt : g + 9 < zn E) (q2lt : g + 10 < zn E) (q3lt : g + 11 < zn E) (q4lt : g + 12 < zn E) (q5lt : g + 1 < zn E) (q6lt : g + 2 < zn E) (q7lt : g + 3 < zn E) (q8lt : g + 4 < zn E) (c0 : w0 g = .inr (6, [.ref (ad E (g + 1)), .ref (ad E (g + 2)), .ref (ad E (g + 3)), .ref (ad E (g + 4)), .int (iI ty), .ref (ad E (g + 5)), .ref (ad E (g + 6)), .ref (ad E (g + 7)), .ref (ad E (g + 8)), .ref (ad E (g + 9)), .ref (ad E (g + 10)), .int (iI xm), .int (iI ym), .ref (ad E (g + 11)), .int (iI ne), .ref (ad E (g + 12)), .ref (ad E (g + 13))])) (c1 : w0 (g + 9) = zar E 56 xf) (c2 : w0 (g + 10) = zar E 56 yf) (c3 : w0 (g + 11) = zar E 140 f) (c4 : w0 (g + 12) = zar E 58 rf) (c5 : w0 (g + 1) = zar E 8 kf) (c6 : w0 (g + 2) = zaz E 8 mf) (c7 : w0 (g + 3) = zar E 8 sf) (c8 : w0 (g + 4) = zar E 448 G) (bx : bd xf 56 0 9) (by1 : bd yf 56 0 9) (bk : bd kf 8 0 3) (bm : bd mf 8 0 1) (bs : bd sf 8 0 24) (bG : bd G 448 0 9) (hxm : xm = 0 ∨ xm = 1) (hym : ym = 0 ∨ ym = 1) (hd : 0 ≤ d ∧ d < 8) (hsa : 0 ≤ sa ∧ sa ≤ 24) (hsb : 0 ≤ sb ∧ sb ≤ 24) (hD : 0 < Vt yf 56) : zM l y_M_divide ws_M_divide rm_M_divide E [.ref (ad E g), .int (iI d), .int (iI sa), .int (iI sb)] w0 (zQi E w0 (fun z w' => (∃ (n' : Int) (f' : Int → Int) (r' : Int → Int) (k' : Int → Int) (m' : Int → Int) (s' : Int → Int) (G' : Int → Int), w' g = .inr (6, [.ref (ad E (g + 1)), .ref (ad E (g + 2)), .ref (ad E (g + 3)), .ref (ad E (g + 4)), .int (iI ty), .ref (ad E (g + 5)), .ref (ad E (g + 6)), .ref (ad E (g + 7)), .ref (ad E (g + 8)), .ref (ad E (g + 9)), .ref (ad E (g + 10)), .int (iI xm), .int (iI ym), .ref (ad E (g + 11)), .int (iI n'), .ref (ad E (g + 12)), .ref (ad E (g + 13))]) ∧ w' (g + 11) = zar E 140 f' ∧ w' (g + 12) = zar E 58 r' ∧ w' (g + 1) = zar E 8 k' ∧ w' (g + 2) = zaz E 8 m' ∧ w' (g + 3) = zar E 8 s' ∧ w' (g + 4) = zar E 448 G' ∧ bd f' 140 0 9 ∧ bd r' 58 0 9 ∧ bd k' 8 0 3 ∧ bd m' 8 0 1 ∧ bd s' 8 0 24 ∧ bd G' 448 0 9 ∧ ((n' = 0 ∨ n' = 1) ∧ ∃ wa wb la lb P : Int, Wt (Vt xf 56) wa ∧ Wt (Vt yf 56) wb ∧ Ld (Vt xf 56) la ∧ Ld (Vt yf 56) lb ∧ P = pd wa wb la lb sa sb ∧ KpR z d P (dif xm ym) (Rn (Vt xf 56 * Tp (P + 1) / Vt yf 56 * Tp (48 - (P + 1))) (48 - P)) kf sf mf G k' s' m' G')) ∧ ∀ k, k ≠ g → k ≠ (g + 11) → k ≠ (g + 12) → k ≠ (g + 1) → k ≠ (g + 2) → k ≠ (g + 3) → k ≠ (g + 4) → w' k = w0 k)) := by
  refine z_met (cc := b_M_divide) (maxL := 5) (ret := (some .int)) (by decide +kernel) rfl (Nat.le_of_ble_eq_true rfl) ?_
  intro p e s m below meth cd ls a Qf hQ hC hl hH
  obtain ⟨hF, hr, hlk, hK, hG, hn⟩ := hC
  obtain ⟨hx, hb, hml, hown, hts⟩ := hF
  have hg : ∀ w ∈ GW, w.before a s = true := fun w h => hts w (List.mem_cons_of_mem _ h)
  have hA : ∀ q, s.heap.size ≤ q → va_A (wl E w0) s.heap.size q := fun q h => Or.inr h
  have hl : lv_has ls 5 [(0, .ref (ad E g)), (1, .int (iI d)), (2, .int (iI sa)), (3, .int (iI sb))] := hl
  have vx := Vt_in bx (show (0 : Int) ≤ 56 by decide) (Int.le_refl 56)
  refine lv_aload_n hx hb d_M_divide_0 rfl (lv_at hl 0 rfl) ?_
  refine lv_iload_n hx hb d_M_divide_1 rfl (lv_at hl 2 rfl) ?_
  refine lv_iload_n hx hb d_M_divide_2 rfl (lv_at hl 3 rfl) ?_
  refine z_calli (va_runV (As := [.int (iI sa), .int (iI sb)]) (rest := []) ⟨hx, hb, hml, hown, hts⟩ (c_M_qscale (l := l) (E := E) (w0 := w0) (g := g) (ty := ty) (xm := xm) (ym := ym) (ne := ne) (xf := xf) (yf := yf) (sa := sa) (sb := sb) (q0lt := q0lt) (q1lt := q1lt) (q2lt := q2lt) (c0 := c0) (c1 := c1) (c2 := c2) (bx := bx) (by1 := by1) (hsa := by omega) (hsb := by omega) s.heap.size) (z_cwV (C := "ScaledNumeralDeskModel") 2 hg wm_879 wm_876 wm_9 wm_878 wm_s58 (by decide +kernel) ⟨Nat.le_of_ble_eq_true rfl, Nat.le_of_ble_eq_true rfl⟩) (z_preV (r := ("ScaledNumeralDeskModel", TM, 17)) hK hG hn hH hA q0lt c0 rfl) rfl rfl hl.1 rfl (lv_room (Nat.le_of_ble_eq_true rfl)) d_M_divide_3 ⟨Nat.zero_le _, Nat.zero_le _⟩) hH hA (fun P w3 H1 lc2 hH4 p3 => ?_)
  obtain ⟨ew5, p3⟩ := p3
  rw [ew5] at hH4
  replace p3 : ∃ wa wb la lb : Int, Wt (Vt xf 56) wa ∧ Wt (Vt yf 56) wb ∧ Ld (Vt xf 56) la ∧ Ld (Vt yf 56) lb ∧ P = pd wa wb la lb sa sb := p3
  obtain ⟨wa, wb, la, lb, x1, x2, x3, x4, x5⟩ := p3
  have pdi := pd_in (wa := wa) (wb := wb) (la := la) (lb := lb) (po := sb) hsa
  rw [← x5] at pdi
  refine lv_istore (lv' := [(4, .int (iI P)), (0, .ref (ad E g)), (1, .int (iI d)), (2, .int (iI sa)), (3, .int (iI sb))]) hx hb d_M_divide_6 hl (by decide) rfl (fun ls hl => ?_)
  refine lv_aload_n hx hb d_M_divide_8 rfl (lv_at hl 1 rfl) ?_
  refine lv_iload hx hb d_M_divide_9 (lv_at hl 0 rfl) ?_
  refine zv_iconst hx hb d_M_divide_11 ?_
  refine zv_iadd hx hb d_M_divide_12 ?_
  refine z_callv (va_runV (As := [.int (iI (P + 1))]) (rest := []) ⟨hx, hb, hml, hown, hts⟩ (c_M_quotient (l := l) (E := E) (w0 := w0) (g := g) (ty := ty) (xm := xm) (ym := ym) (ne := ne) (xf := xf) (yf := yf) (f := f) (rf := rf) (n := P + 1) (q0lt := q0lt) (q1lt := q1lt) (q2lt := q2lt) (q3lt := q3lt) (q4lt := q4lt) (c0 := c0) (c1 := c1) (c2 := c2) (c3 := c3) (c4 := c4) (bx := bx) (by1 := by1) (hxm := by omega) (hym := by omega) (hn0 := by omega) (hD := by omega) H1.size) (z_cwV (C := "ScaledNumeralDeskModel") 1 hg wm_891 wm_888 wm_9 wm_890 wm_s61 (by decide +kernel) ⟨Nat.le_of_ble_eq_true rfl, Nat.le_of_ble_eq_true rfl⟩) (z_preV (r := ("ScaledNumeralDeskModel", TM, 17)) hK hG hn hH4 hA q0lt c0 rfl) rfl rfl hl.1 rfl (lv_room (Nat.le_of_ble_eq_true rfl)) d_M_divide_13 ⟨Nat.zero_le _, Nat.zero_le _⟩) hH4 hA (fun  w8 H6 lc7 hH9 p13 => ?_)
  obtain ⟨⟨n1, f1, r_10, e11, e12, e13, bd14, bd15, p13⟩, hg16⟩ := p13
  replace bd14 : bd f1 140 0 9 := bd14
  replace bd15 : bd r_10 58 0 9 := bd15
  replace p13 : n1 = dif xm ym ∧ (n1 = 0 ∨ n1 = 1) ∧ Vt f1 140 = Vt xf 56 * Tp (P + 1) / Vt yf 56 * Tp (48 - (P + 1)) ∧ Vt r_10 58 = Vt xf 56 * Tp (P + 1) % Vt yf 56 := p13
  have e17 : w8 (g + 9) = zar E 56 xf := (hg16 (g + 9) (nx_M_divide_0 ) (nx_M_divide_1 ) (nx_M_divide_2 )).trans c1
  have e18 : w8 (g + 10) = zar E 56 yf := (hg16 (g + 10) (nx_M_divide_3 ) (nx_M_divide_4 ) (nx_M_divide_5 )).trans c2
  have e19 : w8 (g + 1) = zar E 8 kf := (hg16 (g + 1) (nx_M_divide_6 ) (nx_M_divide_7 ) (nx_M_divide_8 )).trans c5
  have e20 : w8 (g + 2) = zaz E 8 mf := (hg16 (g + 2) (nx_M_divide_9 ) (nx_M_divide_10 ) (nx_M_divide_11 )).trans c6
  have e21 : w8 (g + 3) = zar E 8 sf := (hg16 (g + 3) (nx_M_divide_12 ) (nx_M_divide_13 ) (nx_M_divide_14 )).trans c7
  have e22 : w8 (g + 4) = zar E 448 G := (hg16 (g + 4) (nx_M_divide_15 ) (nx_M_divide_16 ) (nx_M_divide_17 )).trans c8
  have hf23 : ∀ k, k ≠ g → k ≠ (g + 11) → k ≠ (g + 12) → w8 k = w0 k := fun k g0 g1 g2 => hg16 k g0 g1 g2
  have bf1 : bd f1 140 0 9 := by assumption
  have qs := q_size (n := P + 1) vx ⟨by omega, by omega⟩ hD
  have t104 := T104
  have t139 := Tp_pos 139
  refine lv_aload_n hx hb d_M_divide_16 rfl (lv_at hl 1 rfl) ?_
  refine lv_iload_n hx hb d_M_divide_17 rfl (lv_at hl 2 rfl) ?_
  refine lv_iload hx hb d_M_divide_18 (lv_at hl 0 rfl) ?_
  refine z_calli (va_runV (As := [.int (iI d), .int (iI P)]) (rest := []) ⟨hx, hb, hml, hown, hts⟩ (c_M_finish (l := l) (E := E) (w0 := w8) (g := g) (ty := ty) (xm := xm) (ym := ym) (ne := n1) (f := f1) (kf := kf) (mf := mf) (sf := sf) (G := G) (d := d) (n := P) (q0lt := q0lt) (q1lt := q3lt) (q2lt := q5lt) (q3lt := q6lt) (q4lt := q7lt) (q5lt := q8lt) (c0 := e11) (c1 := e12) (c2 := e19) (c3 := e20) (c4 := e21) (c5 := e22) (bf := (fun j g1 g2 => by have := bf1 j g1 g2; omega)) (bk := bk) (bm := bm) (bs := bs) (bG := bG) (hne := by omega) (hV := (by rw [p13.2.2.1]; omega)) (hd := by omega) (hn := by omega) H6.size) (z_cwV (C := "ScaledNumeralDeskModel") 2 hg wm_786 wm_783 wm_9 wm_785 wm_s39 (by decide +kernel) ⟨Nat.le_of_ble_eq_true rfl, Nat.le_of_ble_eq_true rfl⟩) (z_preV (r := ("ScaledNumeralDeskModel", TM, 17)) hK hG hn hH9 hA q0lt e11 rfl) rfl rfl hl.1 rfl (lv_room (Nat.le_of_ble_eq_true rfl)) d_M_divide_20 ⟨Nat.zero_le _, Nat.zero_le _⟩) hH9 hA (fun z28 w26 H24 lc25 hH27 p20 => ?_)
  obtain ⟨⟨n_29, f_30, k_31, m_32, s_33, x_34, e35, e36, e37, e38, e39, e40, bd41, bd42, bd43, bd44, bd45, p20⟩, hg46⟩ := p20
  replace bd41 : bd f_30 140 0 9 := bd41
  replace bd42 : bd k_31 8 0 3 := bd42
  replace bd43 : bd m_32 8 0 1 := bd43
  replace bd44 : bd s_33 8 0 24 := bd44
  replace bd45 : bd x_34 448 0 9 := bd45
  replace p20 : (n_29 = 0 ∨ n_29 = 1) ∧ ∃ X : Int, AbR (Vt f1 140) n1 X n_29 ∧ KpR z28 d (mx0 P) n_29 (Rn X (48 - P)) kf sf mf G k_31 s_33 m_32 x_34 := p20
  have e47 : w26 (g + 9) = zar E 56 xf := (hg46 (g + 9) (nx_M_divide_0 ) (nx_M_divide_1 ) (nx_M_divide_18 ) (nx_M_divide_19 ) (nx_M_divide_20 ) (nx_M_divide_21 )).trans e17
  have e48 : w26 (g + 10) = zar E 56 yf := (hg46 (g + 10) (nx_M_divide_3 ) (nx_M_divide_4 ) (nx_M_divide_22 ) (nx_M_divide_23 ) (nx_M_divide_24 ) (nx_M_divide_25 )).trans e18
  have e49 : w26 (g + 12) = zar E 58 r_10 := (hg46 (g + 12) (nx_M_divide_26 ) (nx_M_divide_27 ) (nx_M_divide_28 ) (nx_M_divide_29 ) (nx_M_divide_30 ) (nx_M_divide_31 )).trans e13
  have hf50 : ∀ k, k ≠ g → k ≠ (g + 11) → k ≠ (g + 12) → k ≠ (g + 1) → k ≠ (g + 2) → k ≠ (g + 3) → k ≠ (g + 4) → w26 k = w0 k := fun k g0 g1 g2 g3 g4 g5 g6 => (hg46 k g0 g1 g3 g4 g5 g6).trans (hf23 k g0 g1 g2)
  obtain ⟨p20a, X, p20b, p20c⟩ := p20
  have ab := AbR_p p20b (by rw [p13.2.2.1]; exact qs.1)
  rw [ab.1, ab.2, p13.2.2.1, p13.1, mx0_p pdi.1] at p20c
  rw [hQ]
  exact z_iret hx hb hr hlk hH27 (⟨⟨n_29, f_30, r_10, k_31, m_32, s_33, x_34, e35, e36, e49, e37, e38, e39, e40, bd41, bd15, bd42, bd43, bd44, bd45, ⟨p20a, wa, wb, la, lb, P, x1, x2, x3, x4, x5, p20c⟩⟩, (fun k g0 g1 g2 g3 g4 g5 g6 => hf50 k g0 g1 g2 g3 g4 g5 g6)⟩) d_M_divide_23
