def rm_N_compared : Room := { frames := 3, cells := 0, slots := 0, locals := 65 }
set_option maxHeartbeats 4000000 in
set_option maxRecDepth 100000 in
theorem c_N_compared (l : Launch) (E : zE) (w0 : zW) (q r : Nat) (kd ko : Nat) (pl po ng no : Int) (f g : Int → Int) (q0lt : q < zn E) (q1lt : q + 1 < zn E) (q2lt : q + 2 < zn E) (q3lt : r < zn E) (q4lt : r + 1 < zn E) (q5lt : r + 2 < zn E) (c0 : w0 q = .inr (1, [.ref (zg E (1 + kd)), .int (iI pl), .ref (ad E (q + 1))])) (c1 : w0 (q + 1) = .inr (0, [.ref (ad E (q + 2)), .int (iI ng)])) (c2 : w0 (q + 2) = zar E 15 f) (c3 : w0 r = .inr (1, [.ref (zg E (1 + ko)), .int (iI po), .ref (ad E (r + 1))])) (c4 : w0 (r + 1) = .inr (0, [.ref (ad E (r + 2)), .int (iI no)])) (c5 : w0 (r + 2) = zar E 15 g) (bf : bd f 15 0 9999) (hkd : kd < 4) (hng : ng = 0 ∨ ng = 1) (bg : bd g 15 0 9999) (hko : ko < 4) (hno : no = 0 ∨ no = 1) (cf : V f 15 = 0 → ng = 0) (cg : V g 15 = 0 → no = 0) : zM l y_N_comparedWith ws_N_comparedWith rm_N_compared E [.ref (ad E q), .ref (ad E r)] w0 (zQi E w0 (fun z w' => w' = w0 ∧ ((kd = 1 ∧ ko = 1 ∧ ((z = -1 ∧ sv ng (V f 15) < sv no (V g 15)) ∨ (z = 0 ∧ sv ng (V f 15) = sv no (V g 15)) ∨ (z = 1 ∧ sv no (V g 15) < sv ng (V f 15)))) ∨ (¬ (kd = 1 ∧ ko = 1) ∧ ((kd < ko ∧ z = -1) ∨ (kd = ko ∧ z = 0) ∨ (ko < kd ∧ z = 1)))))) := by
  refine z_met (cc := b_N_comparedWith) (maxL := 2) (ret := (some .int)) (by decide +kernel) rfl (Nat.le_of_ble_eq_true rfl) ?_
  intro p e s m below meth cd ls a Qf hQ hC hl hH
  obtain ⟨hF, hr, hlk, hK, hG, hn⟩ := hC
  obtain ⟨hx, hb, hml, hown, hts⟩ := hF
  have hg : ∀ w ∈ GW, w.before a s = true := fun w h => hts w (List.mem_cons_of_mem _ h)
  have hA : ∀ q, s.heap.size ≤ q → va_A (wl E w0) s.heap.size q := fun q h => Or.inr h
  have hl : lv_has ls 2 [(0, .ref (ad E q)), (1, .ref (ad E r))] := hl
  refine lv_aload_n hx hb d_N_comparedWith_0 rfl (lv_at hl 0 rfl) ?_
  refine z_calli (va_runV (As := []) (rest := []) ⟨hx, hb, hml, hown, hts⟩ (c_N_isFinite (l := l) (E := E) (w0 := w0) (q := q) (kd := kd) (pl := pl) (ng := ng) (f := f) (q0lt := q0lt) (q1lt := q1lt) (q2lt := q2lt) (c0 := c0) (c1 := c1) (c2 := c2) (bf := bf) (hkd := by omega) (hng := by omega) s.heap.size) (z_cwV (C := "ScaledNumeralDesk$Numeral") 0 hg wm_344 wm_341 wm_2 wm_342 wm_343 (by decide +kernel) ⟨Nat.le_of_ble_eq_true rfl, Nat.le_of_ble_eq_true rfl⟩) (z_preV (r := ("ScaledNumeralDesk$Numeral", TN, 3)) hK hG hn hH hA q0lt c0 rfl) rfl rfl hl.1 rfl (lv_room (Nat.le_of_ble_eq_true rfl)) d_N_comparedWith_1 ⟨Nat.zero_le _, Nat.zero_le _⟩) hH hA (fun z6 w3 H1 lc2 hH4 hp5 => ?_)
  obtain ⟨ew7, hp5⟩ := hp5
  rw [ew7] at hH4
  replace hp5 : (z6 = 1 ∧ kd = 1) ∨ (z6 = 0 ∧ kd ≠ 1) := hp5
  refine zv_if_eq (tgt := 26) hx hb d_N_comparedWith_4 rfl (by omega) (fun h8 => ?_) (fun h8 => ?_)
  · refine lv_aload_n hx hb d_N_comparedWith_26 rfl (lv_at hl 0 rfl) ?_
    refine zv_get (C := "ScaledNumeralDesk$Numeral") (T := TN) (N := 3) hx hb hg uN_in hown hK hH4 q0lt c0 rfl 0 (by decide) (hg _ wm_55) (fun _ h9 => h9) rfl d_N_comparedWith_27 ?_
    refine zs_rank (k := kd) hx hb hG hH4 (by omega) hown (hg _ wm_993) d_N_comparedWith_30 ?_
    refine lv_aload_n hx hb d_N_comparedWith_33 rfl (lv_at hl 1 rfl) ?_
    refine zv_get (C := "ScaledNumeralDesk$Numeral") (T := TN) (N := 3) hx hb hg uN_in hown hK hH4 q3lt c3 rfl 0 (by decide) (hg _ wm_55) (fun _ h9 => h9) rfl d_N_comparedWith_34 ?_
    refine zs_rank (k := ko) hx hb hG hH4 (by omega) hown (hg _ wm_993) d_N_comparedWith_37 ?_
    refine zv_isub hx hb d_N_comparedWith_40 ?_
    refine z_calli (va_runS (As := [.int (iI (((kd : Int)) - ((ko : Int))))]) (rest := []) ⟨hx, hb, hml, hown, hts⟩ (c_signum (l := l) (E := E) (w0 := w0) (x := ((kd : Int)) - ((ko : Int))) (hx0 := by omega) H1.size) (z_cwS 1 hg wm_592 wm_590 wm_18 wm_591 (by decide +kernel) ⟨Nat.le_of_ble_eq_true rfl, Nat.le_of_ble_eq_true rfl⟩) (z_preS hK hG hn hH4 hA) rfl rfl hl.1 rfl (lv_room (Nat.le_of_ble_eq_true rfl)) d_N_comparedWith_41 ⟨Nat.zero_le _, Nat.zero_le _⟩) hH4 hA (fun z14 w11 H9 lc10 hH12 hp13 => ?_)
    obtain ⟨ew15, hp13⟩ := hp13
    rw [ew15] at hH12
    replace hp13 : ((((kd : Int)) - ((ko : Int))) < 0 ∧ z14 = -1) ∨ ((((kd : Int)) - ((ko : Int))) = 0 ∧ z14 = 0) ∨ (0 < (((kd : Int)) - ((ko : Int))) ∧ z14 = 1) := hp13
    rw [hQ]
    exact z_iret hx hb hr hlk hH12 (⟨rfl, by omega⟩) d_N_comparedWith_44
  · refine lv_aload_n hx hb d_N_comparedWith_7 rfl (lv_at hl 1 rfl) ?_
    refine z_calli (va_runV (As := []) (rest := []) ⟨hx, hb, hml, hown, hts⟩ (c_N_isFinite (l := l) (E := E) (w0 := w0) (q := r) (kd := ko) (pl := po) (ng := no) (f := g) (q0lt := q3lt) (q1lt := q4lt) (q2lt := q5lt) (c0 := c3) (c1 := c4) (c2 := c5) (bf := bg) (hkd := by omega) (hng := by omega) H1.size) (z_cwV (C := "ScaledNumeralDesk$Numeral") 0 hg wm_344 wm_341 wm_2 wm_342 wm_343 (by decide +kernel) ⟨Nat.le_of_ble_eq_true rfl, Nat.le_of_ble_eq_true rfl⟩) (z_preV (r := ("ScaledNumeralDesk$Numeral", TN, 3)) hK hG hn hH4 hA q3lt c3 rfl) rfl rfl hl.1 rfl (lv_room (Nat.le_of_ble_eq_true rfl)) d_N_comparedWith_8 ⟨Nat.zero_le _, Nat.zero_le _⟩) hH4 hA (fun z21 w18 H16 lc17 hH19 hp20 => ?_)
    obtain ⟨ew22, hp20⟩ := hp20
    rw [ew22] at hH19
    replace hp20 : (z21 = 1 ∧ ko = 1) ∨ (z21 = 0 ∧ ko ≠ 1) := hp20
    refine zv_if_eq (tgt := 26) hx hb d_N_comparedWith_11 rfl (by omega) (fun h23 => ?_) (fun h23 => ?_)
    · refine lv_aload_n hx hb d_N_comparedWith_26 rfl (lv_at hl 0 rfl) ?_
      refine zv_get (C := "ScaledNumeralDesk$Numeral") (T := TN) (N := 3) hx hb hg uN_in hown hK hH19 q0lt c0 rfl 0 (by decide) (hg _ wm_55) (fun _ h9 => h9) rfl d_N_comparedWith_27 ?_
      refine zs_rank (k := kd) hx hb hG hH19 (by omega) hown (hg _ wm_993) d_N_comparedWith_30 ?_
      refine lv_aload_n hx hb d_N_comparedWith_33 rfl (lv_at hl 1 rfl) ?_
      refine zv_get (C := "ScaledNumeralDesk$Numeral") (T := TN) (N := 3) hx hb hg uN_in hown hK hH19 q3lt c3 rfl 0 (by decide) (hg _ wm_55) (fun _ h9 => h9) rfl d_N_comparedWith_34 ?_
      refine zs_rank (k := ko) hx hb hG hH19 (by omega) hown (hg _ wm_993) d_N_comparedWith_37 ?_
      refine zv_isub hx hb d_N_comparedWith_40 ?_
      refine z_calli (va_runS (As := [.int (iI (((kd : Int)) - ((ko : Int))))]) (rest := []) ⟨hx, hb, hml, hown, hts⟩ (c_signum (l := l) (E := E) (w0 := w0) (x := ((kd : Int)) - ((ko : Int))) (hx0 := by omega) H16.size) (z_cwS 1 hg wm_592 wm_590 wm_18 wm_591 (by decide +kernel) ⟨Nat.le_of_ble_eq_true rfl, Nat.le_of_ble_eq_true rfl⟩) (z_preS hK hG hn hH19 hA) rfl rfl hl.1 rfl (lv_room (Nat.le_of_ble_eq_true rfl)) d_N_comparedWith_41 ⟨Nat.zero_le _, Nat.zero_le _⟩) hH19 hA (fun z29 w26 H24 lc25 hH27 hp28 => ?_)
      obtain ⟨ew30, hp28⟩ := hp28
      rw [ew30] at hH27
      replace hp28 : ((((kd : Int)) - ((ko : Int))) < 0 ∧ z29 = -1) ∨ ((((kd : Int)) - ((ko : Int))) = 0 ∧ z29 = 0) ∨ (0 < (((kd : Int)) - ((ko : Int))) ∧ z29 = 1) := hp28
      rw [hQ]
      exact z_iret hx hb hr hlk hH27 (⟨rfl, by omega⟩) d_N_comparedWith_44
    · refine lv_aload_n hx hb d_N_comparedWith_14 rfl (lv_at hl 0 rfl) ?_
      refine zv_get (C := "ScaledNumeralDesk$Numeral") (T := TN) (N := 3) hx hb hg uN_in hown hK hH19 q0lt c0 rfl 2 (by decide) (hg _ wm_64) (fun _ h9 => h9) rfl d_N_comparedWith_15 ?_
      refine lv_aload_n hx hb d_N_comparedWith_18 rfl (lv_at hl 1 rfl) ?_
      refine zv_get (C := "ScaledNumeralDesk$Numeral") (T := TN) (N := 3) hx hb hg uN_in hown hK hH19 q3lt c3 rfl 2 (by decide) (hg _ wm_64) (fun _ h9 => h9) rfl d_N_comparedWith_19 ?_
      refine z_calli (va_runV (As := [.ref (ad E (r + 1))]) (rest := []) ⟨hx, hb, hml, hown, hts⟩ (c_A_compared (l := l) (E := E) (w0 := w0) (q := q + 1) (r := r + 1) (f := f) (g := g) (ng := ng) (no := no) (q0lt := q1lt) (q1lt := q2lt) (q2lt := q4lt) (q3lt := q5lt) (c0 := c1) (c1 := c2) (c2 := c4) (c3 := c5) (bf := bf) (bg := bg) (hno := by omega) (hng := by omega) (cf := by omega) (cg := by omega) H16.size) (z_cwV (C := "ScaledNumeralDesk$Amount") 1 hg wm_589 wm_586 wm_5 wm_587 wm_588 (by decide +kernel) ⟨Nat.le_of_ble_eq_true rfl, Nat.le_of_ble_eq_true rfl⟩) (z_preV (r := ("ScaledNumeralDesk$Amount", TA, 2)) hK hG hn hH19 hA q1lt c1 rfl) rfl rfl hl.1 rfl (lv_room (Nat.le_of_ble_eq_true rfl)) d_N_comparedWith_22 ⟨Nat.zero_le _, Nat.zero_le _⟩) hH19 hA (fun z36 w33 H31 lc32 hH34 hp35 => ?_)
      obtain ⟨ew37, hp35⟩ := hp35
      rw [ew37] at hH34
      replace hp35 : (z36 = -1 ∧ sv ng (V f 15) < sv no (V g 15)) ∨ (z36 = 0 ∧ sv ng (V f 15) = sv no (V g 15)) ∨ (z36 = 1 ∧ sv no (V g 15) < sv ng (V f 15)) := hp35
      rw [hQ]
      exact z_iret hx hb hr hlk hH34 (⟨rfl, by omega⟩) d_N_comparedWith_25
def rm_N_textLength : Room := { frames := 3, cells := 0, slots := 0, locals := 64 }
set_option maxHeartbeats 4000000 in
set_option maxRecDepth 100000 in
theorem c_N_textLength (l : Launch) (E : zE) (w0 : zW) (q : Nat) (kd : Nat) (pl ng : Int) (f : Int → Int) (q0lt : q < zn E) (q1lt : q + 1 < zn E) (q2lt : q + 2 < zn E) (c0 : w0 q = .inr (1, [.ref (zg E (1 + kd)), .int (iI pl), .ref (ad E (q + 1))])) (c1 : w0 (q + 1) = .inr (0, [.ref (ad E (q + 2)), .int (iI ng)])) (c2 : w0 (q + 2) = zar E 15 f) (bf : bd f 15 0 9999) (hkd : kd < 4) (hng : ng = 0 ∨ ng = 1) (hpl : 0 ≤ pl ∧ pl ≤ 24) : zM l y_N_textLength ws_N_textLength rm_N_textLength E [.ref (ad E q)] w0 (zQi E w0 (fun z w' => w' = w0 ∧ ((kd ≠ 1 ∧ z = lenZ kd) ∨ (kd = 1 ∧ ∃ n : Int, Wh (V f 15) n ∧ 1 ≤ n ∧ n ≤ 36 ∧ z = ng + n + ptl pl)))) := by
  refine z_met (cc := b_N_textLength) (maxL := 2) (ret := (some .int)) (by decide +kernel) rfl (Nat.le_of_ble_eq_true rfl) ?_
  intro p e s m below meth cd ls a Qf hQ hC hl hH
  obtain ⟨hF, hr, hlk, hK, hG, hn⟩ := hC
  obtain ⟨hx, hb, hml, hown, hts⟩ := hF
  have hg : ∀ w ∈ GW, w.before a s = true := fun w h => hts w (List.mem_cons_of_mem _ h)
  have hA : ∀ q, s.heap.size ≤ q → va_A (wl E w0) s.heap.size q := fun q h => Or.inr h
  have hl : lv_has ls 2 [(0, .ref (ad E q))] := hl
  refine lv_aload_n hx hb d_N_textLength_0 rfl (lv_at hl 0 rfl) ?_
  refine z_calli (va_runV (As := []) (rest := []) ⟨hx, hb, hml, hown, hts⟩ (c_N_isFinite (l := l) (E := E) (w0 := w0) (q := q) (kd := kd) (pl := pl) (ng := ng) (f := f) (q0lt := q0lt) (q1lt := q1lt) (q2lt := q2lt) (c0 := c0) (c1 := c1) (c2 := c2) (bf := bf) (hkd := by omega) (hng := by omega) s.heap.size) (z_cwV (C := "ScaledNumeralDesk$Numeral") 0 hg wm_344 wm_341 wm_2 wm_342 wm_343 (by decide +kernel) ⟨Nat.le_of_ble_eq_true rfl, Nat.le_of_ble_eq_true rfl⟩) (z_preV (r := ("ScaledNumeralDesk$Numeral", TN, 3)) hK hG hn hH hA q0lt c0 rfl) rfl rfl hl.1 rfl (lv_room (Nat.le_of_ble_eq_true rfl)) d_N_textLength_1 ⟨Nat.zero_le _, Nat.zero_le _⟩) hH hA (fun z6 w3 H1 lc2 hH4 hp5 => ?_)
  obtain ⟨ew7, hp5⟩ := hp5
  rw [ew7] at hH4
  replace hp5 : (z6 = 1 ∧ kd = 1) ∨ (z6 = 0 ∧ kd ≠ 1) := hp5
  refine zv_if_ne (tgt := 18) hx hb d_N_textLength_4 rfl (by omega) (fun h8 => ?_) (fun h8 => ?_)
  · refine lv_aload_n hx hb d_N_textLength_18 rfl (lv_at hl 0 rfl) ?_
    refine zv_get (C := "ScaledNumeralDesk$Numeral") (T := TN) (N := 3) hx hb hg uN_in hown hK hH4 q0lt c0 rfl 2 (by decide) (hg _ wm_64) (fun _ h9 => h9) rfl d_N_textLength_19 ?_
    refine zv_get (C := "ScaledNumeralDesk$Amount") (T := TA) (N := 2) hx hb hg uA_in hown hK hH4 q1lt c1 rfl 1 (by decide) (hg _ wm_48) (fun _ h9 => h9) rfl d_N_textLength_22 ?_
    refine zv_if_eq (tgt := 32) hx hb d_N_textLength_25 rfl (by omega) (fun h9 => ?_) (fun h9 => ?_)
    · refine zv_iconst hx hb d_N_textLength_32 ?_
      refine lv_istore_n (lv' := [(1, .int (iI 0)), (0, .ref (ad E q))]) hx hb d_N_textLength_33 rfl hl (by decide) rfl (fun ls hl => ?_)
      refine lv_iload_n hx hb d_N_textLength_34 rfl (lv_at hl 0 rfl) ?_
      refine lv_aload_n hx hb d_N_textLength_35 rfl (lv_at hl 1 rfl) ?_
      refine z_calli (va_runV (As := []) (rest := [.int (iI 0)]) ⟨hx, hb, hml, hown, hts⟩ (c_N_whole (l := l) (E := E) (w0 := w0) (q := q) (kd := kd) (pl := pl) (ng := ng) (f := f) (q0lt := q0lt) (q1lt := q1lt) (q2lt := q2lt) (c0 := c0) (c1 := c1) (c2 := c2) (bf := bf) (hkd := by omega) (hng := by omega) H1.size) (z_cwV (C := "ScaledNumeralDesk$Numeral") 0 hg wm_349 wm_346 wm_2 wm_348 wm_s9 (by decide +kernel) ⟨Nat.le_of_ble_eq_true rfl, Nat.le_of_ble_eq_true rfl⟩) (z_preV (r := ("ScaledNumeralDesk$Numeral", TN, 3)) hK hG hn hH4 hA q0lt c0 rfl) rfl rfl hl.1 rfl (lv_room (Nat.le_of_ble_eq_true rfl)) d_N_textLength_36 ⟨Nat.zero_le _, Nat.zero_le _⟩) hH4 hA (fun n9 w12 H10 lc11 hH13 p36 => ?_)
      obtain ⟨ew14, p36⟩ := p36
      rw [ew14] at hH13
      replace p36 : ∃ d : Int, dgs (V f 15) d ∧ 0 ≤ d ∧ d ≤ 60 ∧ n9 = max (d - 24) 1 := p36
      have wh : Wh (V f 15) n9 ∧ 1 ≤ n9 ∧ n9 ≤ 36 := by
        obtain ⟨d9, d1, d2, d3, d4⟩ := p36
        exact ⟨⟨d9, d1, d4⟩, by omega, by omega⟩
      clear p36
      refine zv_iadd hx hb d_N_textLength_39 ?_
      refine lv_aload_n hx hb d_N_textLength_40 rfl (lv_at hl 1 rfl) ?_
      refine zv_get (C := "ScaledNumeralDesk$Numeral") (T := TN) (N := 3) hx hb hg uN_in hown hK hH13 q0lt c0 rfl 1 (by decide) (hg _ wm_59) (fun _ h9 => h9) rfl d_N_textLength_41 ?_
      refine zv_if_le (tgt := 56) hx hb d_N_textLength_44 rfl (by omega) (fun h15 => ?_) (fun h15 => ?_)
      · refine zv_iconst hx hb d_N_textLength_56 ?_
        refine zv_iadd hx hb d_N_textLength_57 ?_
        rw [hQ]
        exact z_iret hx hb hr hlk hH13 (⟨rfl, Or.inr ⟨by omega, n9, wh.1, wh.2.1, wh.2.2, by rw [ptl_0 (by omega)]; omega⟩⟩) d_N_textLength_58
      · refine zv_iconst hx hb d_N_textLength_47 ?_
        refine lv_aload_n hx hb d_N_textLength_48 rfl (lv_at hl 1 rfl) ?_
        refine zv_get (C := "ScaledNumeralDesk$Numeral") (T := TN) (N := 3) hx hb hg uN_in hown hK hH13 q0lt c0 rfl 1 (by decide) (hg _ wm_59) (fun _ h9 => h9) rfl d_N_textLength_49 ?_
        refine zv_iadd hx hb d_N_textLength_52 ?_
        refine lv_goto (tgt := 57) hx hb d_N_textLength_53 rfl ?_
        refine zv_iadd hx hb d_N_textLength_57 ?_
        rw [hQ]
        exact z_iret hx hb hr hlk hH13 (⟨rfl, Or.inr ⟨by omega, n9, wh.1, wh.2.1, wh.2.2, by rw [ptl_p (by omega)]; omega⟩⟩) d_N_textLength_58
    · refine zv_iconst hx hb d_N_textLength_28 ?_
      refine lv_goto (tgt := 33) hx hb d_N_textLength_29 rfl ?_
      refine lv_istore_n (lv' := [(1, .int (iI 1)), (0, .ref (ad E q))]) hx hb d_N_textLength_33 rfl hl (by decide) rfl (fun ls hl => ?_)
      refine lv_iload_n hx hb d_N_textLength_34 rfl (lv_at hl 0 rfl) ?_
      refine lv_aload_n hx hb d_N_textLength_35 rfl (lv_at hl 1 rfl) ?_
      refine z_calli (va_runV (As := []) (rest := [.int (iI 1)]) ⟨hx, hb, hml, hown, hts⟩ (c_N_whole (l := l) (E := E) (w0 := w0) (q := q) (kd := kd) (pl := pl) (ng := ng) (f := f) (q0lt := q0lt) (q1lt := q1lt) (q2lt := q2lt) (c0 := c0) (c1 := c1) (c2 := c2) (bf := bf) (hkd := by omega) (hng := by omega) H1.size) (z_cwV (C := "ScaledNumeralDesk$Numeral") 0 hg wm_349 wm_346 wm_2 wm_348 wm_s9 (by decide +kernel) ⟨Nat.le_of_ble_eq_true rfl, Nat.le_of_ble_eq_true rfl⟩) (z_preV (r := ("ScaledNumeralDesk$Numeral", TN, 3)) hK hG hn hH4 hA q0lt c0 rfl) rfl rfl hl.1 rfl (lv_room (Nat.le_of_ble_eq_true rfl)) d_N_textLength_36 ⟨Nat.zero_le _, Nat.zero_le _⟩) hH4 hA (fun n9 w18 H16 lc17 hH19 p36 => ?_)
      obtain ⟨ew20, p36⟩ := p36
      rw [ew20] at hH19
      replace p36 : ∃ d : Int, dgs (V f 15) d ∧ 0 ≤ d ∧ d ≤ 60 ∧ n9 = max (d - 24) 1 := p36
      have wh : Wh (V f 15) n9 ∧ 1 ≤ n9 ∧ n9 ≤ 36 := by
        obtain ⟨d9, d1, d2, d3, d4⟩ := p36
        exact ⟨⟨d9, d1, d4⟩, by omega, by omega⟩
      clear p36
      refine zv_iadd hx hb d_N_textLength_39 ?_
      refine lv_aload_n hx hb d_N_textLength_40 rfl (lv_at hl 1 rfl) ?_
      refine zv_get (C := "ScaledNumeralDesk$Numeral") (T := TN) (N := 3) hx hb hg uN_in hown hK hH19 q0lt c0 rfl 1 (by decide) (hg _ wm_59) (fun _ h9 => h9) rfl d_N_textLength_41 ?_
      refine zv_if_le (tgt := 56) hx hb d_N_textLength_44 rfl (by omega) (fun h21 => ?_) (fun h21 => ?_)
      · refine zv_iconst hx hb d_N_textLength_56 ?_
        refine zv_iadd hx hb d_N_textLength_57 ?_
        rw [hQ]
        exact z_iret hx hb hr hlk hH19 (⟨rfl, Or.inr ⟨by omega, n9, wh.1, wh.2.1, wh.2.2, by rw [ptl_0 (by omega)]; omega⟩⟩) d_N_textLength_58
      · refine zv_iconst hx hb d_N_textLength_47 ?_
        refine lv_aload_n hx hb d_N_textLength_48 rfl (lv_at hl 1 rfl) ?_
        refine zv_get (C := "ScaledNumeralDesk$Numeral") (T := TN) (N := 3) hx hb hg uN_in hown hK hH19 q0lt c0 rfl 1 (by decide) (hg _ wm_59) (fun _ h9 => h9) rfl d_N_textLength_49 ?_
        refine zv_iadd hx hb d_N_textLength_52 ?_
        refine lv_goto (tgt := 57) hx hb d_N_textLength_53 rfl ?_
        refine zv_iadd hx hb d_N_textLength_57 ?_
        rw [hQ]
        exact z_iret hx hb hr hlk hH19 (⟨rfl, Or.inr ⟨by omega, n9, wh.1, wh.2.1, wh.2.2, by rw [ptl_p (by omega)]; omega⟩⟩) d_N_textLength_58
  · refine lv_aload_n hx hb d_N_textLength_7 rfl (lv_at hl 0 rfl) ?_
    refine zv_get (C := "ScaledNumeralDesk$Numeral") (T := TN) (N := 3) hx hb hg uN_in hown hK hH4 q0lt c0 rfl 0 (by decide) (hg _ wm_55) (fun _ h9 => h9) rfl d_N_textLength_8 ?_
    refine zs_text (k := kd) hx hb hG hH4 (by omega) hown (hg _ wm_992) d_N_textLength_11 ?_
    refine z_calli (va_runV (As := []) (rest := []) ⟨hx, hb, hml, hown, hts⟩ (c_strlen (l := l) (E := E) (w0 := w0) (i := kd) (hi := by omega) H1.size) (z_cwV (C := "java/lang/String") 0 hg wm_177 wm_345 wm_10 wm_175 wm_176 (by decide +kernel) ⟨Nat.le_of_ble_eq_true rfl, Nat.le_of_ble_eq_true rfl⟩) (z_preVs (i := kd) (by omega) hK hG hn hH4 hA) rfl rfl hl.1 rfl (lv_room (Nat.le_of_ble_eq_true rfl)) d_N_textLength_14 ⟨Nat.zero_le _, Nat.zero_le _⟩) hH4 hA (fun z26 w24 H22 lc23 hH25 p14 => ?_)
    obtain ⟨ew27, p14⟩ := p14
    rw [ew27] at hH25
    replace p14 : z26 = lenZ kd := p14
    rw [hQ]
    exact z_iret hx hb hr hlk hH25 (⟨rfl, Or.inl ⟨by omega, p14⟩⟩) d_N_textLength_17
def rm_N_textChar : Room := { frames := 4, cells := 0, slots := 0, locals := 85 }
set_option maxHeartbeats 4000000 in
set_option maxRecDepth 100000 in
theorem c_N_textChar (l : Launch) (E : zE) (w0 : zW) (q : Nat) (kd : Nat) (pl ng : Int) (f : Int → Int) (i : Int) (q0lt : q < zn E) (q1lt : q + 1 < zn E) (q2lt : q + 2 < zn E) (c0 : w0 q = .inr (1, [.ref (zg E (1 + kd)), .int (iI pl), .ref (ad E (q + 1))])) (c1 : w0 (q + 1) = .inr (0, [.ref (ad E (q + 2)), .int (iI ng)])) (c2 : w0 (q + 2) = zar E 15 f) (bf : bd f 15 0 9999) (hkd : kd < 4) (hng : ng = 0 ∨ ng = 1) (hpl : 0 ≤ pl ∧ pl ≤ 24) (hi0 : 0 ≤ i ∧ (kd ≠ 1 → i < lenZ kd)) (hi1 : ∀ n : Int, Wh (V f 15) n → kd = 1 → i < ng + n + ptl pl) : zM l y_N_textCharacter ws_N_textCharacter rm_N_textChar E [.ref (ad E q), .int (iI i)] w0 (zQi E w0 (fun z w' => w' = w0 ∧ ((kd ≠ 1 ∧ z = chZ kd i) ∨ (kd = 1 ∧ ∃ n : Int, Wh (V f 15) n ∧ TcR ng (V f 15) n i z)))) := by
  refine z_met (cc := b_N_textCharacter) (maxL := 4) (ret := (some .int)) (by decide +kernel) rfl (Nat.le_of_ble_eq_true rfl) ?_
  intro p e s m below meth cd ls a Qf hQ hC hl hH
  obtain ⟨hF, hr, hlk, hK, hG, hn⟩ := hC
  obtain ⟨hx, hb, hml, hown, hts⟩ := hF
  have hg : ∀ w ∈ GW, w.before a s = true := fun w h => hts w (List.mem_cons_of_mem _ h)
  have hA : ∀ q, s.heap.size ≤ q → va_A (wl E w0) s.heap.size q := fun q h => Or.inr h
  have hl : lv_has ls 4 [(0, .ref (ad E q)), (1, .int (iI i))] := hl
  have hpt : ptl pl ≤ 25 := by by_cases hh : 0 < pl; rw [ptl_p hh]; omega; rw [ptl_0 (by omega)]; omega
  refine lv_aload_n hx hb d_N_textCharacter_0 rfl (lv_at hl 0 rfl) ?_
  refine z_calli (va_runV (As := []) (rest := []) ⟨hx, hb, hml, hown, hts⟩ (c_N_isFinite (l := l) (E := E) (w0 := w0) (q := q) (kd := kd) (pl := pl) (ng := ng) (f := f) (q0lt := q0lt) (q1lt := q1lt) (q2lt := q2lt) (c0 := c0) (c1 := c1) (c2 := c2) (bf := bf) (hkd := by omega) (hng := by omega) s.heap.size) (z_cwV (C := "ScaledNumeralDesk$Numeral") 0 hg wm_344 wm_341 wm_2 wm_342 wm_343 (by decide +kernel) ⟨Nat.le_of_ble_eq_true rfl, Nat.le_of_ble_eq_true rfl⟩) (z_preV (r := ("ScaledNumeralDesk$Numeral", TN, 3)) hK hG hn hH hA q0lt c0 rfl) rfl rfl hl.1 rfl (lv_room (Nat.le_of_ble_eq_true rfl)) d_N_textCharacter_1 ⟨Nat.zero_le _, Nat.zero_le _⟩) hH hA (fun z6 w3 H1 lc2 hH4 hp5 => ?_)
  obtain ⟨ew7, hp5⟩ := hp5
  rw [ew7] at hH4
  replace hp5 : (z6 = 1 ∧ kd = 1) ∨ (z6 = 0 ∧ kd ≠ 1) := hp5
  refine zv_if_ne (tgt := 19) hx hb d_N_textCharacter_4 rfl (by omega) (fun h8 => ?_) (fun h8 => ?_)
  · have hw9 : ∃ n : Int, Wh (V f 15) n := ⟨_, _, (Classical.choose_spec (dgs_ex bf)), rfl⟩
    have hi2 : i < 100 := by
      obtain ⟨n, hn9⟩ := hw9
      have := hi1 n hn9 (by omega)
      have := Wh_le bf hn9
      omega
    clear hw9
    have L36 : ∀  (ls : Array Slot) (H9 : Heap) (lc10 : List Loc), (lv_has ls 4 [(0, .ref (ad E q)), (1, .int (iI i))]) → (zH E w0 (va_A (wl E w0) s.heap.size) s.heap H9 lc10) → (¬ (ng = 1 ∧ i = 0)) → W p l e rm_N_textChar s m a below meth cd H9 lc10 0 0 Qf (F0 m 36 ls []) := by
      intro ls H9 lc10 hl hH h36
      refine lv_aload_n hx hb d_N_textCharacter_36 rfl (lv_at hl 0 rfl) ?_
      refine z_calli (va_runV (As := []) (rest := []) ⟨hx, hb, hml, hown, hts⟩ (c_N_whole (l := l) (E := E) (w0 := w0) (q := q) (kd := kd) (pl := pl) (ng := ng) (f := f) (q0lt := q0lt) (q1lt := q1lt) (q2lt := q2lt) (c0 := c0) (c1 := c1) (c2 := c2) (bf := bf) (hkd := by omega) (hng := by omega) H9.size) (z_cwV (C := "ScaledNumeralDesk$Numeral") 0 hg wm_349 wm_346 wm_2 wm_348 wm_s9 (by decide +kernel) ⟨Nat.le_of_ble_eq_true rfl, Nat.le_of_ble_eq_true rfl⟩) (z_preV (r := ("ScaledNumeralDesk$Numeral", TN, 3)) hK hG hn hH hA q0lt c0 rfl) rfl rfl hl.1 rfl (lv_room (Nat.le_of_ble_eq_true rfl)) d_N_textCharacter_37 ⟨Nat.zero_le _, Nat.zero_le _⟩) hH hA (fun n9 w13 H11 lc12 hH14 p37 => ?_)
      obtain ⟨ew15, p37⟩ := p37
      rw [ew15] at hH14
      replace p37 : ∃ d : Int, dgs (V f 15) d ∧ 0 ≤ d ∧ d ≤ 60 ∧ n9 = max (d - 24) 1 := p37
      have wh : Wh (V f 15) n9 ∧ 1 ≤ n9 ∧ n9 ≤ 36 := by
        obtain ⟨d9, d1, d2, d3, d4⟩ := p37
        exact ⟨⟨d9, d1, d4⟩, by omega, by omega⟩
      clear p37
      have hi3 := hi1 n9 wh.1 (by omega)
      have L57 : ∀ (j : Int) (ls : Array Slot) (H16 : Heap) (lc17 : List Loc), (lv_has ls 4 [(0, .ref (ad E q)), (1, .int (iI i))]) → (zH E w0 (va_A (wl E w0) s.heap.size) s.heap H16 lc17) → (j = i - ng) → W p l e rm_N_textChar s m a below meth cd H16 lc17 0 0 Qf (F0 m 57 ls [.int (iI j), .int (iI n9)]) := by
        intro j ls H16 lc17 hl hH hj
        refine zv_isub hx hb d_N_textCharacter_57 ?_
        refine lv_istore_n (lv' := [(2, .int (iI (n9 - j))), (0, .ref (ad E q)), (1, .int (iI i))]) hx hb d_N_textCharacter_58 rfl hl (by decide) rfl (fun ls hl => ?_)
        refine lv_iload_n hx hb d_N_textCharacter_59 rfl (lv_at hl 0 rfl) ?_
        refine zv_if_ne (tgt := 66) hx hb d_N_textCharacter_60 rfl (by omega) (fun h18 => ?_) (fun h18 => ?_)
        · refine lv_iload_n hx hb d_N_textCharacter_66 rfl (lv_at hl 0 rfl) ?_
          refine zv_if_le (tgt := 76) hx hb d_N_textCharacter_67 rfl (by omega) (fun h19 => ?_) (fun h19 => ?_)
          · refine lv_iload_n hx hb d_N_textCharacter_76 rfl (lv_at hl 0 rfl) ?_
            refine lv_istore_n (lv' := [(3, .int (iI (n9 - j))), (2, .int (iI (n9 - j))), (0, .ref (ad E q)), (1, .int (iI i))]) hx hb d_N_textCharacter_77 rfl hl (by decide) rfl (fun ls hl => ?_)
            refine zv_bipush hx hb d_N_textCharacter_78 rfl ?_
            refine lv_aload_n hx hb d_N_textCharacter_80 rfl (lv_at hl 2 rfl) ?_
            refine zv_get (C := "ScaledNumeralDesk$Numeral") (T := TN) (N := 3) hx hb hg uN_in hown hK hH q0lt c0 rfl 2 (by decide) (hg _ wm_64) (fun _ h9 => h9) rfl d_N_textCharacter_81 ?_
            refine zv_get (C := "ScaledNumeralDesk$Amount") (T := TA) (N := 2) hx hb hg uA_in hown hK hH q1lt c1 rfl 0 (by decide) (hg _ wm_45) (fun _ h9 => h9) rfl d_N_textCharacter_84 ?_
            refine zv_bipush hx hb d_N_textCharacter_87 rfl ?_
            refine lv_iload_n hx hb d_N_textCharacter_89 rfl (lv_at hl 0 rfl) ?_
            refine zv_iadd hx hb d_N_textCharacter_90 ?_
            refine z_calli (va_runS (As := [.ref (ad E (q + 2)), .int (iI (24 + (n9 - j)))]) (rest := [.int (iI 48)]) ⟨hx, hb, hml, hown, hts⟩ (c_digitAt (l := l) (E := E) (w0 := w0) (q := q + 2) (N := 15) (f := f) (x := 24 + (n9 - j)) (q0lt := q2lt) (c0 := c2) (hN := by omega) (bf := bf) (hp := by omega) H16.size) (z_cwS 2 hg wm_363 wm_361 wm_16 wm_362 (by decide +kernel) ⟨Nat.le_of_ble_eq_true rfl, Nat.le_of_ble_eq_true rfl⟩) (z_preS hK hG hn hH hA) rfl rfl hl.1 rfl (lv_room (Nat.le_of_ble_eq_true rfl)) d_N_textCharacter_91 ⟨Nat.zero_le _, Nat.zero_le _⟩) hH hA (fun z24 w22 H20 lc21 hH23 p91 => ?_)
            obtain ⟨ew25, p91⟩ := p91
            rw [ew25] at hH23
            replace p91 : z24 = (if (24 + (n9 - j)) < 0 then 0 else V f 15 / Tp (24 + (n9 - j)) % 10) := p91
            rw [if_neg (by omega)] at p91
            refine zv_iadd hx hb d_N_textCharacter_94 ?_
            rw [hQ]
            exact z_iret hx hb hr hlk hH23 (⟨rfl, Or.inr ⟨by omega, n9, wh.1, Or.inr ⟨h36, Or.inr (Or.inr ⟨by omega, by rw [p91, hj]⟩)⟩⟩⟩) d_N_textCharacter_95
          · refine lv_iload_n hx hb d_N_textCharacter_70 rfl (lv_at hl 0 rfl) ?_
            refine zv_iconst hx hb d_N_textCharacter_71 ?_
            refine zv_isub hx hb d_N_textCharacter_72 ?_
            refine lv_goto (tgt := 77) hx hb d_N_textCharacter_73 rfl ?_
            refine lv_istore_n (lv' := [(3, .int (iI ((n9 - j) - 1))), (2, .int (iI (n9 - j))), (0, .ref (ad E q)), (1, .int (iI i))]) hx hb d_N_textCharacter_77 rfl hl (by decide) rfl (fun ls hl => ?_)
            refine zv_bipush hx hb d_N_textCharacter_78 rfl ?_
            refine lv_aload_n hx hb d_N_textCharacter_80 rfl (lv_at hl 2 rfl) ?_
            refine zv_get (C := "ScaledNumeralDesk$Numeral") (T := TN) (N := 3) hx hb hg uN_in hown hK hH q0lt c0 rfl 2 (by decide) (hg _ wm_64) (fun _ h9 => h9) rfl d_N_textCharacter_81 ?_
            refine zv_get (C := "ScaledNumeralDesk$Amount") (T := TA) (N := 2) hx hb hg uA_in hown hK hH q1lt c1 rfl 0 (by decide) (hg _ wm_45) (fun _ h9 => h9) rfl d_N_textCharacter_84 ?_
            refine zv_bipush hx hb d_N_textCharacter_87 rfl ?_
            refine lv_iload_n hx hb d_N_textCharacter_89 rfl (lv_at hl 0 rfl) ?_
            refine zv_iadd hx hb d_N_textCharacter_90 ?_
            refine z_calli (va_runS (As := [.ref (ad E (q + 2)), .int (iI (24 + ((n9 - j) - 1)))]) (rest := [.int (iI 48)]) ⟨hx, hb, hml, hown, hts⟩ (c_digitAt (l := l) (E := E) (w0 := w0) (q := q + 2) (N := 15) (f := f) (x := 24 + ((n9 - j) - 1)) (q0lt := q2lt) (c0 := c2) (hN := by omega) (bf := bf) (hp := by omega) H16.size) (z_cwS 2 hg wm_363 wm_361 wm_16 wm_362 (by decide +kernel) ⟨Nat.le_of_ble_eq_true rfl, Nat.le_of_ble_eq_true rfl⟩) (z_preS hK hG hn hH hA) rfl rfl hl.1 rfl (lv_room (Nat.le_of_ble_eq_true rfl)) d_N_textCharacter_91 ⟨Nat.zero_le _, Nat.zero_le _⟩) hH hA (fun z30 w28 H26 lc27 hH29 p91 => ?_)
            obtain ⟨ew31, p91⟩ := p91
            rw [ew31] at hH29
            replace p91 : z30 = (if (24 + ((n9 - j) - 1)) < 0 then 0 else V f 15 / Tp (24 + ((n9 - j) - 1)) % 10) := p91
            rw [if_neg (by omega)] at p91
            refine zv_iadd hx hb d_N_textCharacter_94 ?_
            rw [hQ]
            exact z_iret hx hb hr hlk hH29 (⟨rfl, Or.inr ⟨by omega, n9, wh.1, Or.inr ⟨h36, Or.inr (Or.inl ⟨by omega, by rw [p91, hj]⟩)⟩⟩⟩) d_N_textCharacter_95
        · refine zv_bipush hx hb d_N_textCharacter_63 rfl ?_
          rw [hQ]
          exact z_iret hx hb hr hlk hH (⟨rfl, Or.inr ⟨by omega, n9, wh.1, Or.inr ⟨h36, Or.inl ⟨by omega, rfl⟩⟩⟩⟩) d_N_textCharacter_65
      refine lv_aload_n hx hb d_N_textCharacter_40 rfl (lv_at hl 0 rfl) ?_
      refine zv_get (C := "ScaledNumeralDesk$Numeral") (T := TN) (N := 3) hx hb hg uN_in hown hK hH14 q0lt c0 rfl 2 (by decide) (hg _ wm_64) (fun _ h9 => h9) rfl d_N_textCharacter_41 ?_
      refine zv_get (C := "ScaledNumeralDesk$Amount") (T := TA) (N := 2) hx hb hg uA_in hown hK hH14 q1lt c1 rfl 1 (by decide) (hg _ wm_48) (fun _ h9 => h9) rfl d_N_textCharacter_44 ?_
      refine zv_if_eq (tgt := 56) hx hb d_N_textCharacter_47 rfl (by omega) (fun h32 => ?_) (fun h32 => ?_)
      · refine lv_iload_n hx hb d_N_textCharacter_56 rfl (lv_at hl 1 rfl) ?_
        exact L57 i _ H11 lc12 (lv_sub hl [0, 1] rfl) hH14 (by omega)
      · refine lv_iload_n hx hb d_N_textCharacter_50 rfl (lv_at hl 1 rfl) ?_
        refine zv_iconst hx hb d_N_textCharacter_51 ?_
        refine zv_isub hx hb d_N_textCharacter_52 ?_
        refine lv_goto (tgt := 57) hx hb d_N_textCharacter_53 rfl ?_
        exact L57 (i - 1) _ H11 lc12 (lv_sub hl [0, 1] rfl) hH14 (by omega)
    refine lv_aload_n hx hb d_N_textCharacter_19 rfl (lv_at hl 0 rfl) ?_
    refine zv_get (C := "ScaledNumeralDesk$Numeral") (T := TN) (N := 3) hx hb hg uN_in hown hK hH4 q0lt c0 rfl 2 (by decide) (hg _ wm_64) (fun _ h9 => h9) rfl d_N_textCharacter_20 ?_
    refine zv_get (C := "ScaledNumeralDesk$Amount") (T := TA) (N := 2) hx hb hg uA_in hown hK hH4 q1lt c1 rfl 1 (by decide) (hg _ wm_48) (fun _ h9 => h9) rfl d_N_textCharacter_23 ?_
    refine zv_if_eq (tgt := 36) hx hb d_N_textCharacter_26 rfl (by omega) (fun h33 => ?_) (fun h33 => ?_)
    · exact L36 _ H1 lc2 (lv_sub hl [0, 1] rfl) hH4 (by omega)
    · refine lv_iload_n hx hb d_N_textCharacter_29 rfl (lv_at hl 1 rfl) ?_
      refine zv_if_ne (tgt := 36) hx hb d_N_textCharacter_30 rfl (by omega) (fun h34 => ?_) (fun h34 => ?_)
      · exact L36 _ H1 lc2 (lv_sub hl [0, 1] rfl) hH4 (by omega)
      · obtain ⟨d8, hd8⟩ := dgs_ex bf
        refine zv_bipush hx hb d_N_textCharacter_33 rfl ?_
        rw [hQ]
        exact z_iret hx hb hr hlk hH4 (⟨rfl, Or.inr ⟨by omega, _, ⟨d8, hd8, rfl⟩, Or.inl ⟨by omega, by omega, rfl⟩⟩⟩) d_N_textCharacter_35
  · refine lv_aload_n hx hb d_N_textCharacter_7 rfl (lv_at hl 0 rfl) ?_
    refine zv_get (C := "ScaledNumeralDesk$Numeral") (T := TN) (N := 3) hx hb hg uN_in hown hK hH4 q0lt c0 rfl 0 (by decide) (hg _ wm_55) (fun _ h9 => h9) rfl d_N_textCharacter_8 ?_
    refine zs_text (k := kd) hx hb hG hH4 (by omega) hown (hg _ wm_992) d_N_textCharacter_11 ?_
    refine lv_iload_n hx hb d_N_textCharacter_14 rfl (lv_at hl 1 rfl) ?_
    refine z_calli (va_runV (As := [.int (iI i)]) (rest := []) ⟨hx, hb, hml, hown, hts⟩ (c_charAt (l := l) (E := E) (w0 := w0) (i := kd) (k := i) (hi := by omega) (hk := ⟨hi0.1, hi0.2 (by omega)⟩) H1.size) (z_cwV (C := "java/lang/String") 1 hg wm_190 wm_360 wm_10 wm_188 wm_189 (by decide +kernel) ⟨Nat.le_of_ble_eq_true rfl, Nat.le_of_ble_eq_true rfl⟩) (z_preVs (i := kd) (by omega) hK hG hn hH4 hA) rfl rfl hl.1 rfl (lv_room (Nat.le_of_ble_eq_true rfl)) d_N_textCharacter_15 ⟨Nat.zero_le _, Nat.zero_le _⟩) hH4 hA (fun z39 w37 H35 lc36 hH38 p15 => ?_)
    obtain ⟨ew40, p15⟩ := p15
    rw [ew40] at hH38
    replace p15 : z39 = chZ kd i := p15
    rw [hQ]
    exact z_iret hx hb hr hlk hH38 (⟨rfl, Or.inl ⟨by omega, p15⟩⟩) d_N_textCharacter_18
