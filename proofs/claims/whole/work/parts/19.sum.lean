def rm_S_clear : Room := { frames := 2, cells := 0, slots := 0, locals := 43 }
set_option maxHeartbeats 4000000 in
set_option maxRecDepth 100000 in
theorem c_S_clear (l : Launch) (E : zE) (w0 : zW) (y : Nat) (sn sz : Int) (sf cn : Int → Int) (q0lt : y < zn E) (q1lt : y + 1 < zn E) (q2lt : y + 2 < zn E) (q3lt : y + 3 < zn E) (c0 : w0 y = .inr (2, [.ref (ad E (y + 1)), .ref (ad E (y + 3)), .int (iI sz)])) (c1 : w0 (y + 1) = .inr (0, [.ref (ad E (y + 2)), .int (iI sn)])) (c2 : w0 (y + 2) = zar E 15 sf) (c3 : w0 (y + 3) = zar E 28 cn) (bs : bd sf 15 0 9999) (hsn : sn = 0 ∨ sn = 1) (bc : bd cn 28 0 sz) (hsz : 0 ≤ sz ∧ sz ≤ 1000) : zM l y_S_clear ws_S_clear rm_S_clear E [.ref (ad E y)] w0 (zQv E w0 (fun w' => (∃ (f' : Int → Int) (c' : Int → Int), w' y = .inr (2, [.ref (ad E (y + 1)), .ref (ad E (y + 3)), .int (iI 0)]) ∧ w' (y + 1) = .inr (0, [.ref (ad E (y + 2)), .int (iI 0)]) ∧ w' (y + 2) = zar E 15 f' ∧ w' (y + 3) = zar E 28 c' ∧ bd f' 15 0 9999 ∧ (V f' 15 = 0 ∧ ∀ j : Int, 0 ≤ j → j < 28 → c' j = 0)) ∧ ∀ k, k ≠ y → k ≠ (y + 1) → k ≠ (y + 2) → k ≠ (y + 3) → w' k = w0 k)) := by
  refine z_met (cc := b_S_clear) (maxL := 1) (ret := none) (by decide +kernel) rfl (Nat.le_of_ble_eq_true rfl) ?_
  intro p e s m below meth cd ls a Qf hQ hC hl hH
  obtain ⟨hF, hr, hlk, hK, hG, hn⟩ := hC
  obtain ⟨hx, hb, hml, hown, hts⟩ := hF
  have hg : ∀ w ∈ GW, w.before a s = true := fun w h => hts w (List.mem_cons_of_mem _ h)
  have hA : ∀ q, s.heap.size ≤ q → va_A (wl E w0) s.heap.size q := fun q h => Or.inr h
  have hl : lv_has ls 1 [(0, .ref (ad E y))] := hl
  refine lv_aload_n hx hb d_S_clear_0 rfl (lv_at hl 0 rfl) ?_
  refine zv_get (C := "ScaledNumeralDesk$Sum") (T := TS) (N := 3) hx hb hg uS_in hown hK hH q0lt c0 rfl 0 (by decide) (hg _ wm_85) (fun _ h9 => h9) rfl d_S_clear_1 ?_
  refine z_callv (va_runV (As := []) (rest := []) ⟨hx, hb, hml, hown, hts⟩ (c_A_clear (l := l) (E := E) (w0 := w0) (q := y + 1) (f := sf) (ng := sn) (q0lt := q1lt) (q1lt := q2lt) (c0 := c1) (c1 := c2) (bf := bs) s.heap.size) (z_cwV (C := "ScaledNumeralDesk$Amount") 0 hg wm_234 wm_639 wm_5 wm_232 wm_233 (by decide +kernel) ⟨Nat.le_of_ble_eq_true rfl, Nat.le_of_ble_eq_true rfl⟩) (z_preV (r := ("ScaledNumeralDesk$Amount", TA, 2)) hK hG hn hH hA q1lt c1 rfl) rfl rfl hl.1 rfl (lv_room (Nat.le_of_ble_eq_true rfl)) d_S_clear_4 ⟨Nat.zero_le _, Nat.zero_le _⟩) hH hA (fun  w3 H1 lc2 hH4 p4 => ?_)
  obtain ⟨⟨f_5, e6, e7, bd8, p4⟩, hg9⟩ := p4
  replace bd8 : bd f_5 15 0 9999 := bd8
  replace p4 : ∀ j : Int, 0 ≤ j → j < 15 → f_5 j = 0 := p4
  have e10 : w3 y = .inr (2, [.ref (ad E (y + 1)), .ref (ad E (y + 3)), .int (iI sz)]) := (hg9 y (by omega) (by omega)).trans c0
  have e11 : w3 (y + 3) = zar E 28 cn := (hg9 (y + 3) (by omega) (by omega)).trans c3
  have hf12 : ∀ k, k ≠ (y + 1) → k ≠ (y + 2) → w3 k = w0 k := fun k g0 g1 => hg9 k g0 g1
  refine lv_aload_n hx hb d_S_clear_7 rfl (lv_at hl 0 rfl) ?_
  refine zv_get (C := "ScaledNumeralDesk$Sum") (T := TS) (N := 3) hx hb hg uS_in hown hK hH4 q0lt e10 rfl 1 (by decide) (hg _ wm_86) (fun _ h9 => h9) rfl d_S_clear_8 ?_
  refine zv_iconst hx hb d_S_clear_11 ?_
  refine z_callv (va_runS (As := [.ref (ad E (y + 3)), .int (iI 0)]) (rest := []) ⟨hx, hb, hml, hown, hts⟩ (c_fill (l := l) (E := E) (w0 := w3) (q := y + 3) (N := 28) (f := cn) (v := 0) (q0lt := q3lt) (c0 := e11) (hN := by omega) H1.size) (z_cwS 2 hg wm_237 wm_640 wm_14 wm_236 (by decide +kernel) ⟨Nat.le_of_ble_eq_true rfl, Nat.le_of_ble_eq_true rfl⟩) (z_preS hK hG hn hH4 hA) rfl rfl hl.1 rfl (lv_room (Nat.le_of_ble_eq_true rfl)) d_S_clear_12 ⟨Nat.zero_le _, Nat.zero_le _⟩) hH4 hA (fun  w15 H13 lc14 hH16 p12 => ?_)
  obtain ⟨⟨f_17, e18, p12⟩, hg19⟩ := p12
  replace p12 : ∀ j : Int, 0 ≤ j → j < 28 → f_17 j = (0 : Int) := p12
  have e20 : w15 y = .inr (2, [.ref (ad E (y + 1)), .ref (ad E (y + 3)), .int (iI sz)]) := (hg19 y (by omega)).trans e10
  have e21 : w15 (y + 1) = .inr (0, [.ref (ad E (y + 2)), .int (iI 0)]) := (hg19 (y + 1) (by omega)).trans e6
  have e22 : w15 (y + 2) = zar E 15 f_5 := (hg19 (y + 2) (by omega)).trans e7
  have hf23 : ∀ k, k ≠ (y + 1) → k ≠ (y + 2) → k ≠ (y + 3) → w15 k = w0 k := fun k g0 g1 g2 => (hg19 k g2).trans (hf12 k g0 g1)
  refine lv_aload_n hx hb d_S_clear_15 rfl (lv_at hl 0 rfl) ?_
  refine zv_iconst hx hb d_S_clear_16 ?_
  refine zv_put (C := "ScaledNumeralDesk$Sum") (T := TS) (N := 3) (fs' := [.ref (ad E (y + 1)), .ref (ad E (y + 3)), .int (iI 0)]) hx hb hg uS_in tyS tyS_ok nmS hown hK hH16 q0lt e20 rfl 2 (by decide) (hg _ wm_87) (fun _ h9 => h9) rfl (ty := tyS 2) (by decide +kernel) (rfl) (by rfl) (Nat.le_of_ble_eq_true rfl) d_S_clear_17 rfl (fun H25 lc26 w24 hH27 e28 hg29 => ?_)
  have e30 : w24 (y + 1) = .inr (0, [.ref (ad E (y + 2)), .int (iI 0)]) := (hg29 (y + 1) (by omega)).trans e21
  have e31 : w24 (y + 2) = zar E 15 f_5 := (hg29 (y + 2) (by omega)).trans e22
  have e32 : w24 (y + 3) = zar E 28 f_17 := (hg29 (y + 3) (by omega)).trans e18
  have hf33 : ∀ k, k ≠ (y + 1) → k ≠ (y + 2) → k ≠ (y + 3) → k ≠ y → w24 k = w0 k := fun k g0 g1 g2 g3 => (hg29 k g3).trans (hf23 k g0 g1 g2)
  rw [hQ]
  exact z_vret hx hb hr hlk hH27 (⟨⟨f_5, f_17, e28, e30, e31, e32, bd8, ⟨V0_of p4, p12⟩⟩, (fun k g0 g1 g2 g3 => hf33 k g1 g2 g3 g0)⟩) d_S_clear_20
def rm_S_countOf : Room := { frames := 1, cells := 0, slots := 0, locals := 20 }
set_option maxHeartbeats 4000000 in
set_option maxRecDepth 100000 in
theorem c_S_countOf (l : Launch) (E : zE) (w0 : zW) (q : Nat) (kd : Nat) (pl ng : Int) (f : Int → Int) (q0lt : q < zn E) (q1lt : q + 1 < zn E) (q2lt : q + 2 < zn E) (c0 : w0 q = .inr (1, [.ref (zg E (1 + kd)), .int (iI pl), .ref (ad E (q + 1))])) (c1 : w0 (q + 1) = .inr (0, [.ref (ad E (q + 2)), .int (iI ng)])) (c2 : w0 (q + 2) = zar E 15 f) (bf : bd f 15 0 9999) (hkd : kd < 4) (hng : ng = 0 ∨ ng = 1) : zM l y_S_countOf ws_S_countOf rm_S_countOf E [.ref (ad E q)] w0 (zQi E w0 (fun z w' => w' = w0 ∧ (z = (cidx kd pl)))) := by
  refine z_met (cc := b_S_countOf) (maxL := 1) (ret := (some .int)) (by decide +kernel) rfl (Nat.le_of_ble_eq_true rfl) ?_
  intro p e s m below meth cd ls a Qf hQ hC hl hH
  obtain ⟨hF, hr, hlk, hK, hG, hn⟩ := hC
  obtain ⟨hx, hb, hml, hown, hts⟩ := hF
  have hg : ∀ w ∈ GW, w.before a s = true := fun w h => hts w (List.mem_cons_of_mem _ h)
  have hA : ∀ q, s.heap.size ≤ q → va_A (wl E w0) s.heap.size q := fun q h => Or.inr h
  have hl : lv_has ls 1 [(0, .ref (ad E q))] := hl
  refine lv_aload_n hx hb d_S_countOf_0 rfl (lv_at hl 0 rfl) ?_
  refine z_calli (va_runV (As := []) (rest := []) ⟨hx, hb, hml, hown, hts⟩ (c_N_isFinite (l := l) (E := E) (w0 := w0) (q := q) (kd := kd) (pl := pl) (ng := ng) (f := f) (q0lt := q0lt) (q1lt := q1lt) (q2lt := q2lt) (c0 := c0) (c1 := c1) (c2 := c2) (bf := bf) (hkd := by omega) (hng := by omega) s.heap.size) (z_cwV (C := "ScaledNumeralDesk$Numeral") 0 hg wm_344 wm_611 wm_2 wm_342 wm_343 (by decide +kernel) ⟨Nat.le_of_ble_eq_true rfl, Nat.le_of_ble_eq_true rfl⟩) (z_preV (r := ("ScaledNumeralDesk$Numeral", TN, 3)) hK hG hn hH hA q0lt c0 rfl) rfl rfl hl.1 rfl (lv_room (Nat.le_of_ble_eq_true rfl)) d_S_countOf_1 ⟨Nat.zero_le _, Nat.zero_le _⟩) hH hA (fun z6 w3 H1 lc2 hH4 hp5 => ?_)
  obtain ⟨ew7, hp5⟩ := hp5
  rw [ew7] at hH4
  replace hp5 : (z6 = 1 ∧ kd = 1) ∨ (z6 = 0 ∧ kd ≠ 1) := hp5
  refine zv_if_eq (tgt := 12) hx hb d_S_countOf_4 rfl (by omega) (fun h8 => ?_) (fun h8 => ?_)
  · refine lv_aload_n hx hb d_S_countOf_12 rfl (lv_at hl 0 rfl) ?_
    refine zv_get (C := "ScaledNumeralDesk$Numeral") (T := TN) (N := 3) hx hb hg uN_in hown hK hH4 q0lt c0 rfl 0 (by decide) (hg _ wm_57) (fun _ h9 => h9) rfl d_S_countOf_13 ?_
    refine zv_kind hx hb hG hH4 hown 3 (by decide) (hg _ wm_612) (fun _ h9 => h9) d_S_countOf_16 ?_
    refine zv_acmp_ne (a := kd) (b := 3) (tgt := 25) hx hb hG (by omega) (by omega) d_S_countOf_19 rfl (fun h9 => ?_) (fun h9 => ?_)
    · refine lv_aload_n hx hb d_S_countOf_25 rfl (lv_at hl 0 rfl) ?_
      refine zv_get (C := "ScaledNumeralDesk$Numeral") (T := TN) (N := 3) hx hb hg uN_in hown hK hH4 q0lt c0 rfl 0 (by decide) (hg _ wm_57) (fun _ h9 => h9) rfl d_S_countOf_26 ?_
      refine zv_kind hx hb hG hH4 hown 2 (by decide) (hg _ wm_613) (fun _ h9 => h9) d_S_countOf_29 ?_
      refine zv_acmp_ne (a := kd) (b := 2) (tgt := 40) hx hb hG (by omega) (by omega) d_S_countOf_32 rfl (fun h10 => ?_) (fun h10 => ?_)
      · refine zv_bipush hx hb d_S_countOf_40 rfl ?_
        rw [hQ]
        exact z_iret hx hb hr hlk hH4 (⟨rfl, (cidx_0 (by omega)).symm⟩) d_S_countOf_42
      · refine zv_bipush hx hb d_S_countOf_35 rfl ?_
        refine lv_goto (tgt := 42) hx hb d_S_countOf_37 rfl ?_
        rw [hQ]
        exact z_iret hx hb hr hlk hH4 (⟨rfl, (cidx_2 (by omega)).symm⟩) d_S_countOf_42
    · refine zv_bipush hx hb d_S_countOf_22 rfl ?_
      rw [hQ]
      exact z_iret hx hb hr hlk hH4 (⟨rfl, (cidx_3 (by omega)).symm⟩) d_S_countOf_24
  · refine lv_aload_n hx hb d_S_countOf_7 rfl (lv_at hl 0 rfl) ?_
    refine zv_get (C := "ScaledNumeralDesk$Numeral") (T := TN) (N := 3) hx hb hg uN_in hown hK hH4 q0lt c0 rfl 1 (by decide) (hg _ wm_62) (fun _ h9 => h9) rfl d_S_countOf_8 ?_
    rw [hQ]
    exact z_iret hx hb hr hlk hH4 (⟨rfl, (cidx_1 (by omega)).symm⟩) d_S_countOf_11
def rm_S_change : Room := { frames := 4, cells := 0, slots := 0, locals := 85 }
set_option maxHeartbeats 4000000 in
set_option maxRecDepth 100000 in
theorem c_S_change (l : Launch) (E : zE) (w0 : zW) (y : Nat) (sn sz : Int) (sf cn : Int → Int) (q : Nat) (kd : Nat) (pl ng : Int) (f : Int → Int) (by1 : Int) (q0lt : y < zn E) (q1lt : y + 1 < zn E) (q2lt : y + 2 < zn E) (q3lt : y + 3 < zn E) (q4lt : q < zn E) (q5lt : q + 1 < zn E) (q6lt : q + 2 < zn E) (c0 : w0 y = .inr (2, [.ref (ad E (y + 1)), .ref (ad E (y + 3)), .int (iI sz)])) (c1 : w0 (y + 1) = .inr (0, [.ref (ad E (y + 2)), .int (iI sn)])) (c2 : w0 (y + 2) = zar E 15 sf) (c3 : w0 (y + 3) = zar E 28 cn) (c4 : w0 q = .inr (1, [.ref (zg E (1 + kd)), .int (iI pl), .ref (ad E (q + 1))])) (c5 : w0 (q + 1) = .inr (0, [.ref (ad E (q + 2)), .int (iI ng)])) (c6 : w0 (q + 2) = zar E 15 f) (bs : bd sf 15 0 9999) (hsn : sn = 0 ∨ sn = 1) (bc : bd cn 28 0 sz) (hsz : 0 ≤ sz ∧ sz ≤ 1000) (bf : bd f 15 0 9999) (hkd : kd < 4) (hng : ng = 0 ∨ ng = 1) (hpl : 0 ≤ pl ∧ pl ≤ 24) (hqy : y + 3 < q ∨ q + 2 < y) (hs : V sf 15 + V f 15 < Bp 15) (csf : V sf 15 = 0 → sn = 0) (hby : (by1 = 1) ∨ (by1 = -1 ∧ 1 ≤ cn (cidx kd pl))) : zM l y_S_change ws_S_change rm_S_change E [.ref (ad E y), .ref (ad E q), .int (iI by1)] w0 (zQv E w0 (fun w' => (∃ (n' : Int) (f' : Int → Int) (c' : Int → Int), w' y = .inr (2, [.ref (ad E (y + 1)), .ref (ad E (y + 3)), .int (iI (sz + 1))]) ∧ w' (y + 1) = .inr (0, [.ref (ad E (y + 2)), .int (iI n')]) ∧ w' (y + 2) = zar E 15 f' ∧ w' (y + 3) = zar E 28 c' ∧ bd f' 15 0 9999 ∧ bd c' 28 0 (sz + 1) ∧ ((n' = 0 ∨ n' = 1) ∧ (V f' 15 = 0 → n' = 0) ∧ sv n' (V f' 15) = sv sn (V sf 15) + vadd kd by1 (sv ng (V f 15)) ∧ (∀ j : Int, 0 ≤ j → j < 28 → c' j = cn j + cadd (cidx kd pl) j by1))) ∧ ∀ k, k ≠ y → k ≠ (y + 1) → k ≠ (y + 2) → k ≠ (y + 3) → w' k = w0 k)) := by
  refine z_met (cc := b_S_change) (maxL := 3) (ret := none) (by decide +kernel) rfl (Nat.le_of_ble_eq_true rfl) ?_
  intro p e s m below meth cd ls a Qf hQ hC hl hH
  obtain ⟨hF, hr, hlk, hK, hG, hn⟩ := hC
  obtain ⟨hx, hb, hml, hown, hts⟩ := hF
  have hg : ∀ w ∈ GW, w.before a s = true := fun w h => hts w (List.mem_cons_of_mem _ h)
  have hA : ∀ q, s.heap.size ≤ q → va_A (wl E w0) s.heap.size q := fun q h => Or.inr h
  have hl : lv_has ls 3 [(0, .ref (ad E y)), (1, .ref (ad E q)), (2, .int (iI by1))] := hl
  refine lv_aload_n hx hb d_S_change_0 rfl (lv_at hl 0 rfl) ?_
  refine zv_get (C := "ScaledNumeralDesk$Sum") (T := TS) (N := 3) hx hb hg uS_in hown hK hH q0lt c0 rfl 1 (by decide) (hg _ wm_86) (fun _ h9 => h9) rfl d_S_change_1 ?_
  refine lv_aload_n hx hb d_S_change_4 rfl (lv_at hl 1 rfl) ?_
  refine z_calli (va_runS (As := [.ref (ad E q)]) (rest := [.ref (ad E (y + 3))]) ⟨hx, hb, hml, hown, hts⟩ (c_S_countOf (l := l) (E := E) (w0 := w0) (q := q) (kd := kd) (pl := pl) (ng := ng) (f := f) (q0lt := q4lt) (q1lt := q5lt) (q2lt := q6lt) (c0 := c4) (c1 := c5) (c2 := c6) (bf := bf) (hkd := by omega) (hng := by omega) s.heap.size) (z_cwS 1 hg wm_610 wm_608 wm_6 wm_609 (by decide +kernel) ⟨Nat.le_of_ble_eq_true rfl, Nat.le_of_ble_eq_true rfl⟩) (z_preS hK hG hn hH hA) rfl rfl hl.1 rfl (lv_room (Nat.le_of_ble_eq_true rfl)) d_S_change_5 ⟨Nat.zero_le _, Nat.zero_le _⟩) hH hA (fun i w3 H1 lc2 hH4 p5 => ?_)
  obtain ⟨ew5, p5⟩ := p5
  rw [ew5] at hH4
  replace p5 : i = (cidx kd pl) := p5
  have hi := cidx_in hkd hpl
  rw [← p5] at hi
  rw [← p5] at hby
  have bc2 : bd cn 28 0 (sz + 1) := bd_w bc (by omega)
  refine lv_dup2_11 hx hb d_S_change_8 rfl rfl ?_
  refine zv_iald hx hb hK hH4 q3lt c3 (by omega) (by omega) (by omega) d_S_change_9 ?_
  have b6 := bc i (by omega) (by omega)
  refine lv_iload_n hx hb d_S_change_10 rfl (lv_at hl 2 rfl) ?_
  refine zv_iadd hx hb d_S_change_11 ?_
  refine zv_iast hx hb hK hH4 q3lt c3 (by omega) (by omega) (by omega) d_S_change_12 (fun H8 lc9 w7 hH10 e11 hg12 => ?_)
  have bd13 := bd_up bc2 i ((cn i) + by1) (by omega)
  have e14 : w7 y = .inr (2, [.ref (ad E (y + 1)), .ref (ad E (y + 3)), .int (iI sz)]) := (hg12 y (by omega)).trans c0
  have e15 : w7 (y + 1) = .inr (0, [.ref (ad E (y + 2)), .int (iI sn)]) := (hg12 (y + 1) (by omega)).trans c1
  have e16 : w7 (y + 2) = zar E 15 sf := (hg12 (y + 2) (by omega)).trans c2
  have e17 : w7 q = .inr (1, [.ref (zg E (1 + kd)), .int (iI pl), .ref (ad E (q + 1))]) := (hg12 q (by omega)).trans c4
  have e18 : w7 (q + 1) = .inr (0, [.ref (ad E (q + 2)), .int (iI ng)]) := (hg12 (q + 1) (by omega)).trans c5
  have e19 : w7 (q + 2) = zar E 15 f := (hg12 (q + 2) (by omega)).trans c6
  have hf20 : ∀ k, k ≠ (y + 3) → w7 k = w0 k := fun k g0 => hg12 k g0
  refine lv_aload_n hx hb d_S_change_13 rfl (lv_at hl 1 rfl) ?_
  refine z_calli (va_runV (As := []) (rest := []) ⟨hx, hb, hml, hown, hts⟩ (c_N_isFinite (l := l) (E := E) (w0 := w7) (q := q) (kd := kd) (pl := pl) (ng := ng) (f := f) (q0lt := q4lt) (q1lt := q5lt) (q2lt := q6lt) (c0 := e17) (c1 := e18) (c2 := e19) (bf := bf) (hkd := by omega) (hng := by omega) H8.size) (z_cwV (C := "ScaledNumeralDesk$Numeral") 0 hg wm_344 wm_611 wm_2 wm_342 wm_343 (by decide +kernel) ⟨Nat.le_of_ble_eq_true rfl, Nat.le_of_ble_eq_true rfl⟩) (z_preV (r := ("ScaledNumeralDesk$Numeral", TN, 3)) hK hG hn hH10 hA q4lt e17 rfl) rfl rfl hl.1 rfl (lv_room (Nat.le_of_ble_eq_true rfl)) d_S_change_14 ⟨Nat.zero_le _, Nat.zero_le _⟩) hH10 hA (fun z25 w23 H21 lc22 hH24 p14 => ?_)
  obtain ⟨ew26, p14⟩ := p14
  rw [ew26] at hH24
  replace p14 : (z25 = 1 ∧ kd = 1) ∨ (z25 = 0 ∧ kd ≠ 1) := p14
  refine zv_if_eq (tgt := 40) hx hb d_S_change_17 rfl (by omega) (fun h27 => ?_) (fun h27 => ?_)
  · refine lv_aload_n hx hb d_S_change_40 rfl (lv_at hl 0 rfl) ?_
    refine lv_dup hx hb d_S_change_41 rfl ?_
    refine zv_get (C := "ScaledNumeralDesk$Sum") (T := TS) (N := 3) hx hb hg uS_in hown hK hH24 q0lt e14 rfl 2 (by decide) (hg _ wm_87) (fun _ h9 => h9) rfl d_S_change_42 ?_
    refine zv_iconst hx hb d_S_change_45 ?_
    refine zv_iadd hx hb d_S_change_46 ?_
    refine zv_put (C := "ScaledNumeralDesk$Sum") (T := TS) (N := 3) (fs' := [.ref (ad E (y + 1)), .ref (ad E (y + 3)), .int (iI (sz + 1))]) hx hb hg uS_in tyS tyS_ok nmS hown hK hH24 q0lt e14 rfl 2 (by decide) (hg _ wm_87) (fun _ h9 => h9) rfl (ty := tyS 2) (by decide +kernel) (rfl) (by rfl) (Nat.le_of_ble_eq_true rfl) d_S_change_47 rfl (fun H29 lc30 w28 hH31 e32 hg33 => ?_)
    have e34 : w28 (y + 1) = .inr (0, [.ref (ad E (y + 2)), .int (iI sn)]) := (hg33 (y + 1) (by omega)).trans e15
    have e35 : w28 (y + 2) = zar E 15 sf := (hg33 (y + 2) (by omega)).trans e16
    have e36 : w28 (y + 3) = zar E 28 (up cn i ((cn i) + by1)) := (hg33 (y + 3) (by omega)).trans e11
    have e37 : w28 q = .inr (1, [.ref (zg E (1 + kd)), .int (iI pl), .ref (ad E (q + 1))]) := (hg33 q (by omega)).trans e17
    have e38 : w28 (q + 1) = .inr (0, [.ref (ad E (q + 2)), .int (iI ng)]) := (hg33 (q + 1) (by omega)).trans e18
    have e39 : w28 (q + 2) = zar E 15 f := (hg33 (q + 2) (by omega)).trans e19
    have hf40 : ∀ k, k ≠ (y + 3) → k ≠ y → w28 k = w0 k := fun k g0 g1 => (hg33 k g1).trans (hf20 k g0)
    rw [hQ]
    exact z_vret hx hb hr hlk hH31 (⟨⟨sn, sf, (up cn i ((cn i) + by1)), e32, e34, e35, e36, bs, bd13, ⟨hsn, csf, by rw [vadd_0 (by omega)]; omega, fun j g1 g2 => by rw [← p5]; exact ch_d cn i by1 j⟩⟩, (fun k g0 g1 g2 g3 => hf40 k g3 g0)⟩) d_S_change_50
  · refine lv_aload_n hx hb d_S_change_20 rfl (lv_at hl 0 rfl) ?_
    refine zv_get (C := "ScaledNumeralDesk$Sum") (T := TS) (N := 3) hx hb hg uS_in hown hK hH24 q0lt e14 rfl 0 (by decide) (hg _ wm_85) (fun _ h9 => h9) rfl d_S_change_21 ?_
    refine lv_aload_n hx hb d_S_change_24 rfl (lv_at hl 1 rfl) ?_
    refine zv_get (C := "ScaledNumeralDesk$Numeral") (T := TN) (N := 3) hx hb hg uN_in hown hK hH24 q4lt e17 rfl 2 (by decide) (hg _ wm_66) (fun _ h9 => h9) rfl d_S_change_25 ?_
    refine lv_iload_n hx hb d_S_change_28 rfl (lv_at hl 2 rfl) ?_
    refine zv_if_ge (tgt := 36) hx hb d_S_change_29 rfl (by omega) (fun h41 => ?_) (fun h41 => ?_)
    · refine zv_iconst hx hb d_S_change_36 ?_
      refine z_callv (va_runV (As := [.ref (ad E (q + 1)), .int (iI 0)]) (rest := []) ⟨hx, hb, hml, hown, hts⟩ (c_A_increase (l := l) (E := E) (w0 := w7) (q := y + 1) (r := q + 1) (f := sf) (g := f) (ng := sn) (no := ng) (ta := 0) (q0lt := q1lt) (q1lt := q2lt) (q2lt := q5lt) (q3lt := q6lt) (c0 := e15) (c1 := e16) (c2 := e18) (c3 := e19) (bf := bs) (bg := bf) (hno := by omega) (hqr := by omega) (hng := by omega) (hta := by omega) (hs := by omega) H21.size) (z_cwV (C := "ScaledNumeralDesk$Amount") 2 hg wm_388 wm_614 wm_5 wm_386 wm_387 (by decide +kernel) ⟨Nat.le_of_ble_eq_true rfl, Nat.le_of_ble_eq_true rfl⟩) (z_preV (r := ("ScaledNumeralDesk$Amount", TA, 2)) hK hG hn hH24 hA q1lt e15 rfl) rfl rfl hl.1 rfl (lv_room (Nat.le_of_ble_eq_true rfl)) d_S_change_37 ⟨Nat.zero_le _, Nat.zero_le _⟩) hH24 hA (fun  w44 H42 lc43 hH45 p37 => ?_)
      obtain ⟨⟨n_46, f_47, e48, e49, bd50, p37⟩, hg51⟩ := p37
      replace bd50 : bd f_47 15 0 9999 := bd50
      replace p37 : (n_46 = 0 ∨ n_46 = 1) ∧ (V f_47 15 = 0 → n_46 = 0) ∧ sv n_46 (V f_47 15) = sv sn (V sf 15) + tk (0 : Int) (sv ng (V f 15)) := p37
      have e52 : w44 y = .inr (2, [.ref (ad E (y + 1)), .ref (ad E (y + 3)), .int (iI sz)]) := (hg51 y (by omega) (by omega)).trans e14
      have e53 : w44 (y + 3) = zar E 28 (up cn i ((cn i) + by1)) := (hg51 (y + 3) (by omega) (by omega)).trans e11
      have e54 : w44 q = .inr (1, [.ref (zg E (1 + kd)), .int (iI pl), .ref (ad E (q + 1))]) := (hg51 q (by omega) (by omega)).trans e17
      have e55 : w44 (q + 1) = .inr (0, [.ref (ad E (q + 2)), .int (iI ng)]) := (hg51 (q + 1) (by omega) (by omega)).trans e18
      have e56 : w44 (q + 2) = zar E 15 f := (hg51 (q + 2) (by omega) (by omega)).trans e19
      have hf57 : ∀ k, k ≠ (y + 3) → k ≠ (y + 1) → k ≠ (y + 2) → w44 k = w0 k := fun k g0 g1 g2 => (hg51 k g1 g2).trans (hf20 k g0)
      refine lv_aload_n hx hb d_S_change_40 rfl (lv_at hl 0 rfl) ?_
      refine lv_dup hx hb d_S_change_41 rfl ?_
      refine zv_get (C := "ScaledNumeralDesk$Sum") (T := TS) (N := 3) hx hb hg uS_in hown hK hH45 q0lt e52 rfl 2 (by decide) (hg _ wm_87) (fun _ h9 => h9) rfl d_S_change_42 ?_
      refine zv_iconst hx hb d_S_change_45 ?_
      refine zv_iadd hx hb d_S_change_46 ?_
      refine zv_put (C := "ScaledNumeralDesk$Sum") (T := TS) (N := 3) (fs' := [.ref (ad E (y + 1)), .ref (ad E (y + 3)), .int (iI (sz + 1))]) hx hb hg uS_in tyS tyS_ok nmS hown hK hH45 q0lt e52 rfl 2 (by decide) (hg _ wm_87) (fun _ h9 => h9) rfl (ty := tyS 2) (by decide +kernel) (rfl) (by rfl) (Nat.le_of_ble_eq_true rfl) d_S_change_47 rfl (fun H59 lc60 w58 hH61 e62 hg63 => ?_)
      have e64 : w58 (y + 1) = .inr (0, [.ref (ad E (y + 2)), .int (iI n_46)]) := (hg63 (y + 1) (by omega)).trans e48
      have e65 : w58 (y + 2) = zar E 15 f_47 := (hg63 (y + 2) (by omega)).trans e49
      have e66 : w58 (y + 3) = zar E 28 (up cn i ((cn i) + by1)) := (hg63 (y + 3) (by omega)).trans e53
      have e67 : w58 q = .inr (1, [.ref (zg E (1 + kd)), .int (iI pl), .ref (ad E (q + 1))]) := (hg63 q (by omega)).trans e54
      have e68 : w58 (q + 1) = .inr (0, [.ref (ad E (q + 2)), .int (iI ng)]) := (hg63 (q + 1) (by omega)).trans e55
      have e69 : w58 (q + 2) = zar E 15 f := (hg63 (q + 2) (by omega)).trans e56
      have hf70 : ∀ k, k ≠ (y + 3) → k ≠ (y + 1) → k ≠ (y + 2) → k ≠ y → w58 k = w0 k := fun k g0 g1 g2 g3 => (hg63 k g3).trans (hf57 k g0 g1 g2)
      rw [hQ]
      exact z_vret hx hb hr hlk hH61 (⟨⟨n_46, f_47, (up cn i ((cn i) + by1)), e62, e64, e65, e66, bd50, bd13, ⟨p37.1, p37.2.1, by rw [p37.2.2, tk_0, vadd_p (by omega) (by omega)], fun j g1 g2 => by rw [← p5]; exact ch_d cn i by1 j⟩⟩, (fun k g0 g1 g2 g3 => hf70 k g3 g1 g2 g0)⟩) d_S_change_50
    · refine zv_iconst hx hb d_S_change_32 ?_
      refine lv_goto (tgt := 37) hx hb d_S_change_33 rfl ?_
      refine z_callv (va_runV (As := [.ref (ad E (q + 1)), .int (iI 1)]) (rest := []) ⟨hx, hb, hml, hown, hts⟩ (c_A_increase (l := l) (E := E) (w0 := w7) (q := y + 1) (r := q + 1) (f := sf) (g := f) (ng := sn) (no := ng) (ta := 1) (q0lt := q1lt) (q1lt := q2lt) (q2lt := q5lt) (q3lt := q6lt) (c0 := e15) (c1 := e16) (c2 := e18) (c3 := e19) (bf := bs) (bg := bf) (hno := by omega) (hqr := by omega) (hng := by omega) (hta := by omega) (hs := by omega) H21.size) (z_cwV (C := "ScaledNumeralDesk$Amount") 2 hg wm_388 wm_614 wm_5 wm_386 wm_387 (by decide +kernel) ⟨Nat.le_of_ble_eq_true rfl, Nat.le_of_ble_eq_true rfl⟩) (z_preV (r := ("ScaledNumeralDesk$Amount", TA, 2)) hK hG hn hH24 hA q1lt e15 rfl) rfl rfl hl.1 rfl (lv_room (Nat.le_of_ble_eq_true rfl)) d_S_change_37 ⟨Nat.zero_le _, Nat.zero_le _⟩) hH24 hA (fun  w73 H71 lc72 hH74 p37 => ?_)
      obtain ⟨⟨n_75, f_76, e77, e78, bd79, p37⟩, hg80⟩ := p37
      replace bd79 : bd f_76 15 0 9999 := bd79
      replace p37 : (n_75 = 0 ∨ n_75 = 1) ∧ (V f_76 15 = 0 → n_75 = 0) ∧ sv n_75 (V f_76 15) = sv sn (V sf 15) + tk (1 : Int) (sv ng (V f 15)) := p37
      have e81 : w73 y = .inr (2, [.ref (ad E (y + 1)), .ref (ad E (y + 3)), .int (iI sz)]) := (hg80 y (by omega) (by omega)).trans e14
      have e82 : w73 (y + 3) = zar E 28 (up cn i ((cn i) + by1)) := (hg80 (y + 3) (by omega) (by omega)).trans e11
      have e83 : w73 q = .inr (1, [.ref (zg E (1 + kd)), .int (iI pl), .ref (ad E (q + 1))]) := (hg80 q (by omega) (by omega)).trans e17
      have e84 : w73 (q + 1) = .inr (0, [.ref (ad E (q + 2)), .int (iI ng)]) := (hg80 (q + 1) (by omega) (by omega)).trans e18
      have e85 : w73 (q + 2) = zar E 15 f := (hg80 (q + 2) (by omega) (by omega)).trans e19
      have hf86 : ∀ k, k ≠ (y + 3) → k ≠ (y + 1) → k ≠ (y + 2) → w73 k = w0 k := fun k g0 g1 g2 => (hg80 k g1 g2).trans (hf20 k g0)
      refine lv_aload_n hx hb d_S_change_40 rfl (lv_at hl 0 rfl) ?_
      refine lv_dup hx hb d_S_change_41 rfl ?_
      refine zv_get (C := "ScaledNumeralDesk$Sum") (T := TS) (N := 3) hx hb hg uS_in hown hK hH74 q0lt e81 rfl 2 (by decide) (hg _ wm_87) (fun _ h9 => h9) rfl d_S_change_42 ?_
      refine zv_iconst hx hb d_S_change_45 ?_
      refine zv_iadd hx hb d_S_change_46 ?_
      refine zv_put (C := "ScaledNumeralDesk$Sum") (T := TS) (N := 3) (fs' := [.ref (ad E (y + 1)), .ref (ad E (y + 3)), .int (iI (sz + 1))]) hx hb hg uS_in tyS tyS_ok nmS hown hK hH74 q0lt e81 rfl 2 (by decide) (hg _ wm_87) (fun _ h9 => h9) rfl (ty := tyS 2) (by decide +kernel) (rfl) (by rfl) (Nat.le_of_ble_eq_true rfl) d_S_change_47 rfl (fun H88 lc89 w87 hH90 e91 hg92 => ?_)
      have e93 : w87 (y + 1) = .inr (0, [.ref (ad E (y + 2)), .int (iI n_75)]) := (hg92 (y + 1) (by omega)).trans e77
      have e94 : w87 (y + 2) = zar E 15 f_76 := (hg92 (y + 2) (by omega)).trans e78
      have e95 : w87 (y + 3) = zar E 28 (up cn i ((cn i) + by1)) := (hg92 (y + 3) (by omega)).trans e82
      have e96 : w87 q = .inr (1, [.ref (zg E (1 + kd)), .int (iI pl), .ref (ad E (q + 1))]) := (hg92 q (by omega)).trans e83
      have e97 : w87 (q + 1) = .inr (0, [.ref (ad E (q + 2)), .int (iI ng)]) := (hg92 (q + 1) (by omega)).trans e84
      have e98 : w87 (q + 2) = zar E 15 f := (hg92 (q + 2) (by omega)).trans e85
      have hf99 : ∀ k, k ≠ (y + 3) → k ≠ (y + 1) → k ≠ (y + 2) → k ≠ y → w87 k = w0 k := fun k g0 g1 g2 g3 => (hg92 k g3).trans (hf86 k g0 g1 g2)
      rw [hQ]
      exact z_vret hx hb hr hlk hH90 (⟨⟨n_75, f_76, (up cn i ((cn i) + by1)), e91, e93, e94, e95, bd79, bd13, ⟨p37.1, p37.2.1, by rw [p37.2.2, tk_1, vadd_m (by omega) (by omega)], fun j g1 g2 => by rw [← p5]; exact ch_d cn i by1 j⟩⟩, (fun k g0 g1 g2 g3 => hf99 k g3 g1 g2 g0)⟩) d_S_change_50
def rm_S_putIn : Room := { frames := 5, cells := 0, slots := 0, locals := 107 }
set_option maxHeartbeats 4000000 in
set_option maxRecDepth 100000 in
theorem c_S_putIn (l : Launch) (E : zE) (w0 : zW) (y : Nat) (sn sz : Int) (sf cn : Int → Int) (q : Nat) (kd : Nat) (pl ng : Int) (f : Int → Int) (q0lt : y < zn E) (q1lt : y + 1 < zn E) (q2lt : y + 2 < zn E) (q3lt : y + 3 < zn E) (q4lt : q < zn E) (q5lt : q + 1 < zn E) (q6lt : q + 2 < zn E) (c0 : w0 y = .inr (2, [.ref (ad E (y + 1)), .ref (ad E (y + 3)), .int (iI sz)])) (c1 : w0 (y + 1) = .inr (0, [.ref (ad E (y + 2)), .int (iI sn)])) (c2 : w0 (y + 2) = zar E 15 sf) (c3 : w0 (y + 3) = zar E 28 cn) (c4 : w0 q = .inr (1, [.ref (zg E (1 + kd)), .int (iI pl), .ref (ad E (q + 1))])) (c5 : w0 (q + 1) = .inr (0, [.ref (ad E (q + 2)), .int (iI ng)])) (c6 : w0 (q + 2) = zar E 15 f) (bs : bd sf 15 0 9999) (hsn : sn = 0 ∨ sn = 1) (bc : bd cn 28 0 sz) (hsz : 0 ≤ sz ∧ sz ≤ 1000) (bf : bd f 15 0 9999) (hkd : kd < 4) (hng : ng = 0 ∨ ng = 1) (hpl : 0 ≤ pl ∧ pl ≤ 24) (hqy : y + 3 < q ∨ q + 2 < y) (hs : V sf 15 + V f 15 < Bp 15) (csf : V sf 15 = 0 → sn = 0) : zM l y_S_putIn ws_S_putIn rm_S_putIn E [.ref (ad E y), .ref (ad E q)] w0 (zQi E w0 (fun z w' => (∃ (s' : Int) (n' : Int) (f' : Int → Int) (c' : Int → Int), w' y = .inr (2, [.ref (ad E (y + 1)), .ref (ad E (y + 3)), .int (iI s')]) ∧ w' (y + 1) = .inr (0, [.ref (ad E (y + 2)), .int (iI n')]) ∧ w' (y + 2) = zar E 15 f' ∧ w' (y + 3) = zar E 28 c' ∧ bd f' 15 0 9999 ∧ bd c' 28 0 (s') ∧ ((z = -2 ∧ 1000 ≤ sz ∧ (s' = sz ∧ n' = sn ∧ f' = sf ∧ c' = cn)) ∨ (z = 0 ∧ sz < 1000 ∧ s' = sz + 1 ∧ (n' = 0 ∨ n' = 1) ∧ (V f' 15 = 0 → n' = 0) ∧ sv n' (V f' 15) = sv sn (V sf 15) + vadd kd 1 (sv ng (V f 15)) ∧ (∀ j : Int, 0 ≤ j → j < 28 → c' j = cn j + cadd (cidx kd pl) j 1)))) ∧ ∀ k, k ≠ y → k ≠ (y + 1) → k ≠ (y + 2) → k ≠ (y + 3) → w' k = w0 k)) := by
  refine z_met (cc := b_S_putIn) (maxL := 2) (ret := (some .int)) (by decide +kernel) rfl (Nat.le_of_ble_eq_true rfl) ?_
  intro p e s m below meth cd ls a Qf hQ hC hl hH
  obtain ⟨hF, hr, hlk, hK, hG, hn⟩ := hC
  obtain ⟨hx, hb, hml, hown, hts⟩ := hF
  have hg : ∀ w ∈ GW, w.before a s = true := fun w h => hts w (List.mem_cons_of_mem _ h)
  have hA : ∀ q, s.heap.size ≤ q → va_A (wl E w0) s.heap.size q := fun q h => Or.inr h
  have hl : lv_has ls 2 [(0, .ref (ad E y)), (1, .ref (ad E q))] := hl
  refine lv_aload_n hx hb d_S_putIn_0 rfl (lv_at hl 0 rfl) ?_
  refine zv_get (C := "ScaledNumeralDesk$Sum") (T := TS) (N := 3) hx hb hg uS_in hown hK hH q0lt c0 rfl 2 (by decide) (hg _ wm_87) (fun _ h9 => h9) rfl d_S_putIn_1 ?_
  refine zv_sipush hx hb d_S_putIn_4 rfl ?_
  refine zv_icmp_lt (tgt := 13) hx hb d_S_putIn_7 rfl (by omega) (by omega) (fun h1 => ?_) (fun h1 => ?_)
  · refine lv_aload_n hx hb d_S_putIn_13 rfl (lv_at hl 0 rfl) ?_
    refine lv_aload_n hx hb d_S_putIn_14 rfl (lv_at hl 1 rfl) ?_
    refine zv_iconst hx hb d_S_putIn_15 ?_
    refine z_callv (va_runV (As := [.ref (ad E q), .int (iI 1)]) (rest := []) ⟨hx, hb, hml, hown, hts⟩ (c_S_change (l := l) (E := E) (w0 := w0) (y := y) (sn := sn) (sz := sz) (sf := sf) (cn := cn) (q := q) (kd := kd) (pl := pl) (ng := ng) (f := f) (by1 := 1) (q0lt := q0lt) (q1lt := q1lt) (q2lt := q2lt) (q3lt := q3lt) (q4lt := q4lt) (q5lt := q5lt) (q6lt := q6lt) (c0 := c0) (c1 := c1) (c2 := c2) (c3 := c3) (c4 := c4) (c5 := c5) (c6 := c6) (bs := bs) (hsn := by omega) (bc := bc) (hsz := by omega) (bf := bf) (hkd := by omega) (hng := by omega) (hpl := by omega) (hqy := by omega) (hs := by omega) (csf := by omega) (hby := by omega) s.heap.size) (z_cwV (C := "ScaledNumeralDesk$Sum") 2 hg wm_607 wm_604 wm_6 wm_606 wm_s27 (by decide +kernel) ⟨Nat.le_of_ble_eq_true rfl, Nat.le_of_ble_eq_true rfl⟩) (z_preV (r := ("ScaledNumeralDesk$Sum", TS, 3)) hK hG hn hH hA q0lt c0 rfl) rfl rfl hl.1 rfl (lv_room (Nat.le_of_ble_eq_true rfl)) d_S_putIn_16 ⟨Nat.zero_le _, Nat.zero_le _⟩) hH hA (fun  w4 H2 lc3 hH5 p16 => ?_)
    obtain ⟨⟨n_6, f_7, c_8, e9, e10, e11, e12, bd13, bd14, p16⟩, hg15⟩ := p16
    replace bd13 : bd f_7 15 0 9999 := bd13
    replace bd14 : bd c_8 28 0 (sz + 1) := bd14
    replace p16 : (n_6 = 0 ∨ n_6 = 1) ∧ (V f_7 15 = 0 → n_6 = 0) ∧ sv n_6 (V f_7 15) = sv sn (V sf 15) + vadd kd (1 : Int) (sv ng (V f 15)) ∧ (∀ j : Int, 0 ≤ j → j < 28 → c_8 j = cn j + cadd (cidx kd pl) j (1 : Int)) := p16
    have e16 : w4 q = .inr (1, [.ref (zg E (1 + kd)), .int (iI pl), .ref (ad E (q + 1))]) := (hg15 q (by omega) (by omega) (by omega) (by omega)).trans c4
    have e17 : w4 (q + 1) = .inr (0, [.ref (ad E (q + 2)), .int (iI ng)]) := (hg15 (q + 1) (by omega) (by omega) (by omega) (by omega)).trans c5
    have e18 : w4 (q + 2) = zar E 15 f := (hg15 (q + 2) (by omega) (by omega) (by omega) (by omega)).trans c6
    have hf19 : ∀ k, k ≠ y → k ≠ (y + 1) → k ≠ (y + 2) → k ≠ (y + 3) → w4 k = w0 k := fun k g0 g1 g2 g3 => hg15 k g0 g1 g2 g3
    refine zv_iconst hx hb d_S_putIn_19 ?_
    rw [hQ]
    exact z_iret hx hb hr hlk hH5 (⟨⟨(sz + 1), n_6, f_7, c_8, e9, e10, e11, e12, bd13, bd14, Or.inr ⟨rfl, by omega, rfl, p16⟩⟩, (fun k g0 g1 g2 g3 => hf19 k g0 g1 g2 g3)⟩) d_S_putIn_20
  · refine zv_bipush hx hb d_S_putIn_10 rfl ?_
    rw [hQ]
    exact z_iret hx hb hr hlk hH (⟨⟨sz, sn, sf, cn, c0, c1, c2, c3, bs, bc, Or.inl ⟨rfl, by omega, rfl, rfl, rfl, rfl⟩⟩, (fun k _ _ _ _ => rfl)⟩) d_S_putIn_12
def rm_S_takeOut : Room := { frames := 5, cells := 0, slots := 0, locals := 107 }
set_option maxHeartbeats 4000000 in
set_option maxRecDepth 100000 in
theorem c_S_takeOut (l : Launch) (E : zE) (w0 : zW) (y : Nat) (sn sz : Int) (sf cn : Int → Int) (q : Nat) (kd : Nat) (pl ng : Int) (f : Int → Int) (q0lt : y < zn E) (q1lt : y + 1 < zn E) (q2lt : y + 2 < zn E) (q3lt : y + 3 < zn E) (q4lt : q < zn E) (q5lt : q + 1 < zn E) (q6lt : q + 2 < zn E) (c0 : w0 y = .inr (2, [.ref (ad E (y + 1)), .ref (ad E (y + 3)), .int (iI sz)])) (c1 : w0 (y + 1) = .inr (0, [.ref (ad E (y + 2)), .int (iI sn)])) (c2 : w0 (y + 2) = zar E 15 sf) (c3 : w0 (y + 3) = zar E 28 cn) (c4 : w0 q = .inr (1, [.ref (zg E (1 + kd)), .int (iI pl), .ref (ad E (q + 1))])) (c5 : w0 (q + 1) = .inr (0, [.ref (ad E (q + 2)), .int (iI ng)])) (c6 : w0 (q + 2) = zar E 15 f) (bs : bd sf 15 0 9999) (hsn : sn = 0 ∨ sn = 1) (bc : bd cn 28 0 sz) (hsz : 0 ≤ sz ∧ sz ≤ 1000) (bf : bd f 15 0 9999) (hkd : kd < 4) (hng : ng = 0 ∨ ng = 1) (hpl : 0 ≤ pl ∧ pl ≤ 24) (hqy : y + 3 < q ∨ q + 2 < y) (hs : V sf 15 + V f 15 < Bp 15) (csf : V sf 15 = 0 → sn = 0) : zM l y_S_takeOut ws_S_takeOut rm_S_takeOut E [.ref (ad E y), .ref (ad E q)] w0 (zQi E w0 (fun z w' => (∃ (s' : Int) (n' : Int) (f' : Int → Int) (c' : Int → Int), w' y = .inr (2, [.ref (ad E (y + 1)), .ref (ad E (y + 3)), .int (iI s')]) ∧ w' (y + 1) = .inr (0, [.ref (ad E (y + 2)), .int (iI n')]) ∧ w' (y + 2) = zar E 15 f' ∧ w' (y + 3) = zar E 28 c' ∧ bd f' 15 0 9999 ∧ bd c' 28 0 (s') ∧ ((z = -2 ∧ 1000 ≤ sz ∧ (s' = sz ∧ n' = sn ∧ f' = sf ∧ c' = cn)) ∨ (z = -6 ∧ sz < 1000 ∧ cn (cidx kd pl) = 0 ∧ (s' = sz ∧ n' = sn ∧ f' = sf ∧ c' = cn)) ∨ (z = 0 ∧ sz < 1000 ∧ cn (cidx kd pl) ≠ 0 ∧ s' = sz + 1 ∧ (n' = 0 ∨ n' = 1) ∧ (V f' 15 = 0 → n' = 0) ∧ sv n' (V f' 15) = sv sn (V sf 15) + vadd kd (-1) (sv ng (V f 15)) ∧ (∀ j : Int, 0 ≤ j → j < 28 → c' j = cn j + cadd (cidx kd pl) j (-1))))) ∧ ∀ k, k ≠ y → k ≠ (y + 1) → k ≠ (y + 2) → k ≠ (y + 3) → w' k = w0 k)) := by
  refine z_met (cc := b_S_takeOut) (maxL := 2) (ret := (some .int)) (by decide +kernel) rfl (Nat.le_of_ble_eq_true rfl) ?_
  intro p e s m below meth cd ls a Qf hQ hC hl hH
  obtain ⟨hF, hr, hlk, hK, hG, hn⟩ := hC
  obtain ⟨hx, hb, hml, hown, hts⟩ := hF
  have hg : ∀ w ∈ GW, w.before a s = true := fun w h => hts w (List.mem_cons_of_mem _ h)
  have hA : ∀ q, s.heap.size ≤ q → va_A (wl E w0) s.heap.size q := fun q h => Or.inr h
  have hl : lv_has ls 2 [(0, .ref (ad E y)), (1, .ref (ad E q))] := hl
  refine lv_aload_n hx hb d_S_takeOut_0 rfl (lv_at hl 0 rfl) ?_
  refine zv_get (C := "ScaledNumeralDesk$Sum") (T := TS) (N := 3) hx hb hg uS_in hown hK hH q0lt c0 rfl 2 (by decide) (hg _ wm_87) (fun _ h9 => h9) rfl d_S_takeOut_1 ?_
  refine zv_sipush hx hb d_S_takeOut_4 rfl ?_
  refine zv_icmp_lt (tgt := 13) hx hb d_S_takeOut_7 rfl (by omega) (by omega) (fun h1 => ?_) (fun h1 => ?_)
  · refine lv_aload_n hx hb d_S_takeOut_13 rfl (lv_at hl 0 rfl) ?_
    refine zv_get (C := "ScaledNumeralDesk$Sum") (T := TS) (N := 3) hx hb hg uS_in hown hK hH q0lt c0 rfl 1 (by decide) (hg _ wm_86) (fun _ h9 => h9) rfl d_S_takeOut_14 ?_
    refine lv_aload_n hx hb d_S_takeOut_17 rfl (lv_at hl 1 rfl) ?_
    refine z_calli (va_runS (As := [.ref (ad E q)]) (rest := [.ref (ad E (y + 3))]) ⟨hx, hb, hml, hown, hts⟩ (c_S_countOf (l := l) (E := E) (w0 := w0) (q := q) (kd := kd) (pl := pl) (ng := ng) (f := f) (q0lt := q4lt) (q1lt := q5lt) (q2lt := q6lt) (c0 := c4) (c1 := c5) (c2 := c6) (bf := bf) (hkd := by omega) (hng := by omega) s.heap.size) (z_cwS 1 hg wm_610 wm_608 wm_6 wm_609 (by decide +kernel) ⟨Nat.le_of_ble_eq_true rfl, Nat.le_of_ble_eq_true rfl⟩) (z_preS hK hG hn hH hA) rfl rfl hl.1 rfl (lv_room (Nat.le_of_ble_eq_true rfl)) d_S_takeOut_18 ⟨Nat.zero_le _, Nat.zero_le _⟩) hH hA (fun i w4 H2 lc3 hH5 p18 => ?_)
    obtain ⟨ew6, p18⟩ := p18
    rw [ew6] at hH5
    replace p18 : i = (cidx kd pl) := p18
    have hi := cidx_in hkd hpl
    rw [← p18] at hi
    refine zv_iald hx hb hK hH5 q3lt c3 (by omega) (by omega) (by omega) d_S_takeOut_21 ?_
    have b7 := bc i (by omega) (by omega)
    refine zv_if_ne (tgt := 28) hx hb d_S_takeOut_22 rfl (by omega) (fun h8 => ?_) (fun h8 => ?_)
    · refine lv_aload_n hx hb d_S_takeOut_28 rfl (lv_at hl 0 rfl) ?_
      refine lv_aload_n hx hb d_S_takeOut_29 rfl (lv_at hl 1 rfl) ?_
      refine zv_iconst hx hb d_S_takeOut_30 ?_
      refine z_callv (va_runV (As := [.ref (ad E q), .int (iI (-1))]) (rest := []) ⟨hx, hb, hml, hown, hts⟩ (c_S_change (l := l) (E := E) (w0 := w0) (y := y) (sn := sn) (sz := sz) (sf := sf) (cn := cn) (q := q) (kd := kd) (pl := pl) (ng := ng) (f := f) (by1 := -1) (q0lt := q0lt) (q1lt := q1lt) (q2lt := q2lt) (q3lt := q3lt) (q4lt := q4lt) (q5lt := q5lt) (q6lt := q6lt) (c0 := c0) (c1 := c1) (c2 := c2) (c3 := c3) (c4 := c4) (c5 := c5) (c6 := c6) (bs := bs) (hsn := by omega) (bc := bc) (hsz := by omega) (bf := bf) (hkd := by omega) (hng := by omega) (hpl := by omega) (hqy := by omega) (hs := by omega) (csf := by omega) (hby := (Or.inr ⟨rfl, by rw [← p18]; omega⟩)) H2.size) (z_cwV (C := "ScaledNumeralDesk$Sum") 2 hg wm_607 wm_604 wm_6 wm_606 wm_s27 (by decide +kernel) ⟨Nat.le_of_ble_eq_true rfl, Nat.le_of_ble_eq_true rfl⟩) (z_preV (r := ("ScaledNumeralDesk$Sum", TS, 3)) hK hG hn hH5 hA q0lt c0 rfl) rfl rfl hl.1 rfl (lv_room (Nat.le_of_ble_eq_true rfl)) d_S_takeOut_31 ⟨Nat.zero_le _, Nat.zero_le _⟩) hH5 hA (fun  w11 H9 lc10 hH12 p31 => ?_)
      obtain ⟨⟨n_13, f_14, c_15, e16, e17, e18, e19, bd20, bd21, p31⟩, hg22⟩ := p31
      replace bd20 : bd f_14 15 0 9999 := bd20
      replace bd21 : bd c_15 28 0 (sz + 1) := bd21
      replace p31 : (n_13 = 0 ∨ n_13 = 1) ∧ (V f_14 15 = 0 → n_13 = 0) ∧ sv n_13 (V f_14 15) = sv sn (V sf 15) + vadd kd (-1 : Int) (sv ng (V f 15)) ∧ (∀ j : Int, 0 ≤ j → j < 28 → c_15 j = cn j + cadd (cidx kd pl) j (-1 : Int)) := p31
      have e23 : w11 q = .inr (1, [.ref (zg E (1 + kd)), .int (iI pl), .ref (ad E (q + 1))]) := (hg22 q (by omega) (by omega) (by omega) (by omega)).trans c4
      have e24 : w11 (q + 1) = .inr (0, [.ref (ad E (q + 2)), .int (iI ng)]) := (hg22 (q + 1) (by omega) (by omega) (by omega) (by omega)).trans c5
      have e25 : w11 (q + 2) = zar E 15 f := (hg22 (q + 2) (by omega) (by omega) (by omega) (by omega)).trans c6
      have hf26 : ∀ k, k ≠ y → k ≠ (y + 1) → k ≠ (y + 2) → k ≠ (y + 3) → w11 k = w0 k := fun k g0 g1 g2 g3 => hg22 k g0 g1 g2 g3
      refine zv_iconst hx hb d_S_takeOut_34 ?_
      rw [hQ]
      exact z_iret hx hb hr hlk hH12 (⟨⟨(sz + 1), n_13, f_14, c_15, e16, e17, e18, e19, bd20, bd21, Or.inr (Or.inr ⟨rfl, by omega, by rw [← p18]; assumption, rfl, p31⟩)⟩, (fun k g0 g1 g2 g3 => hf26 k g0 g1 g2 g3)⟩) d_S_takeOut_35
    · refine zv_bipush hx hb d_S_takeOut_25 rfl ?_
      rw [hQ]
      exact z_iret hx hb hr hlk hH5 (⟨⟨sz, sn, sf, cn, c0, c1, c2, c3, bs, bc, Or.inr (Or.inl ⟨rfl, by omega, by rw [← p18]; assumption, rfl, rfl, rfl, rfl⟩)⟩, (fun k _ _ _ _ => rfl)⟩) d_S_takeOut_27
  · refine zv_bipush hx hb d_S_takeOut_10 rfl ?_
    rw [hQ]
    exact z_iret hx hb hr hlk hH (⟨⟨sz, sn, sf, cn, c0, c1, c2, c3, bs, bc, Or.inl ⟨rfl, by omega, rfl, rfl, rfl, rfl⟩⟩, (fun k _ _ _ _ => rfl)⟩) d_S_takeOut_12
def rm_S_members : Room := { frames := 0, cells := 0, slots := 0, locals := 0 }
set_option maxHeartbeats 4000000 in
set_option maxRecDepth 100000 in
theorem c_S_members (l : Launch) (E : zE) (w0 : zW) (y : Nat) (sn sz : Int) (sf cn : Int → Int) (q0lt : y < zn E) (q1lt : y + 1 < zn E) (q2lt : y + 2 < zn E) (q3lt : y + 3 < zn E) (c0 : w0 y = .inr (2, [.ref (ad E (y + 1)), .ref (ad E (y + 3)), .int (iI sz)])) (c1 : w0 (y + 1) = .inr (0, [.ref (ad E (y + 2)), .int (iI sn)])) (c2 : w0 (y + 2) = zar E 15 sf) (c3 : w0 (y + 3) = zar E 28 cn) (bs : bd sf 15 0 9999) (hsn : sn = 0 ∨ sn = 1) (bc : bd cn 28 0 sz) (hsz : 0 ≤ sz ∧ sz ≤ 1000) : zM l y_S_members ws_S_members rm_S_members E [.ref (ad E y)] w0 (zQi E w0 (fun z w' => w' = w0 ∧ (z = Sm cn 28 ∧ 0 ≤ z ∧ z ≤ 28000))) := by
  refine z_met (cc := b_S_members) (maxL := 3) (ret := (some .int)) (by decide +kernel) rfl (Nat.le_of_ble_eq_true rfl) ?_
  intro p e s m below meth cd ls a Qf hQ hC hl hH
  obtain ⟨hF, hr, hlk, hK, hG, hn⟩ := hC
  obtain ⟨hx, hb, hml, hown, hts⟩ := hF
  have hg : ∀ w ∈ GW, w.before a s = true := fun w h => hts w (List.mem_cons_of_mem _ h)
  have hA : ∀ q, s.heap.size ≤ q → va_A (wl E w0) s.heap.size q := fun q h => Or.inr h
  have hl : lv_has ls 3 [(0, .ref (ad E y))] := hl
  refine zv_iconst hx hb d_S_members_0 ?_
  refine lv_istore_n (lv' := [(1, .int (iI 0)), (0, .ref (ad E y))]) hx hb d_S_members_1 rfl hl (by decide) rfl (fun ls hl => ?_)
  refine zv_iconst hx hb d_S_members_2 ?_
  refine lv_istore_n (lv' := [(2, .int (iI 0)), (1, .int (iI 0)), (0, .ref (ad E y))]) hx hb d_S_members_3 rfl hl (by decide) rfl (fun ls hl => ?_)
  have L4 : ∀ (fu : Nat) (i : Int) (u : Int) (ls : Array Slot) (H1 : Heap) (lc2 : List Loc), (lv_has ls 3 [(2, .int (iI i)), (1, .int (iI u)), (0, .ref (ad E y))]) → (zH E w0 (va_A (wl E w0) s.heap.size) s.heap H1 lc2) → (0 ≤ i ∧ i ≤ 28) → (u = Sm cn i) → (0 ≤ u ∧ u ≤ i * 1000) → (28 - i < (fu : Int)) → W p l e rm_S_members s m a below meth cd H1 lc2 0 0 Qf (F0 m 4 ls []) := by
    intro fu
    induction fu with
    | zero => intro i u ls H1 lc2 hl hH hi hu hb9 hm; exact absurd hm (by omega)
    | succ fu ih =>
      intro i u ls H1 lc2 hl hH hi hu hb9 hm
      refine lv_iload_n hx hb d_S_members_4 rfl (lv_at hl 0 rfl) ?_
      refine zv_bipush hx hb d_S_members_5 rfl ?_
      refine zv_icmp_ge (tgt := 25) hx hb d_S_members_7 rfl (by omega) (by omega) (fun h3 => ?_) (fun h3 => ?_)
      · refine lv_iload_n hx hb d_S_members_25 rfl (lv_at hl 1 rfl) ?_
        rw [hQ]
        exact z_iret hx hb hr hlk hH (⟨rfl, ⟨by rw [hu, show i = 28 by omega], by omega, by omega⟩⟩) d_S_members_26
      · refine lv_iload_n hx hb d_S_members_10 rfl (lv_at hl 1 rfl) ?_
        refine lv_aload_n hx hb d_S_members_11 rfl (lv_at hl 2 rfl) ?_
        refine zv_get (C := "ScaledNumeralDesk$Sum") (T := TS) (N := 3) hx hb hg uS_in hown hK hH q0lt c0 rfl 1 (by decide) (hg _ wm_86) (fun _ h9 => h9) rfl d_S_members_12 ?_
        refine lv_iload_n hx hb d_S_members_15 rfl (lv_at hl 0 rfl) ?_
        refine zv_iald hx hb hK hH q3lt c3 (by omega) (by omega) (by omega) d_S_members_16 ?_
        have b4 := bc i (by omega) (by omega)
        refine zv_iadd hx hb d_S_members_17 ?_
        refine lv_istore_n (lv' := [(1, .int (iI (u + (cn i)))), (2, .int (iI i)), (0, .ref (ad E y))]) hx hb d_S_members_18 rfl hl (by decide) rfl (fun ls hl => ?_)
        refine zv_iinc (k := 1) (lv' := [(2, .int (iI (i + 1))), (1, .int (iI (u + (cn i)))), (0, .ref (ad E y))]) hx hb d_S_members_19 hl rfl (by decide) rfl (fun ls hl => ?_)
        refine lv_goto (tgt := 4) hx hb d_S_members_22 rfl ?_
        exact ih  (i + 1) (u + (cn i)) _ H1 lc2 (lv_sub hl [0, 1, 2] rfl) hH (by omega) (by rw [Sm_s cn hi.1, hu]) (by omega) (by omega)
  exact L4 ((28 - 0 : Int).toNat + 1) 0 0 _ s.heap ([]) (lv_sub hl [0, 1, 2] rfl) hH (by omega) (by rfl) (by omega) (by omega)
def rm_S_greatest : Room := { frames := 0, cells := 0, slots := 0, locals := 0 }
set_option maxHeartbeats 4000000 in
set_option maxRecDepth 100000 in
theorem c_S_greatest (l : Launch) (E : zE) (w0 : zW) (y : Nat) (sn sz : Int) (sf cn : Int → Int) (q0lt : y < zn E) (q1lt : y + 1 < zn E) (q2lt : y + 2 < zn E) (q3lt : y + 3 < zn E) (c0 : w0 y = .inr (2, [.ref (ad E (y + 1)), .ref (ad E (y + 3)), .int (iI sz)])) (c1 : w0 (y + 1) = .inr (0, [.ref (ad E (y + 2)), .int (iI sn)])) (c2 : w0 (y + 2) = zar E 15 sf) (c3 : w0 (y + 3) = zar E 28 cn) (bs : bd sf 15 0 9999) (hsn : sn = 0 ∨ sn = 1) (bc : bd cn 28 0 sz) (hsz : 0 ≤ sz ∧ sz ≤ 1000) : zM l y_S_greatestPlaces ws_S_greatestPlaces rm_S_greatest E [.ref (ad E y)] w0 (zQi E w0 (fun z w' => w' = w0 ∧ (0 ≤ z ∧ z ≤ 24 ∧ (z = 0 ∨ cn z ≠ 0) ∧ ∀ k : Int, z < k → k ≤ 24 → cn k = 0))) := by
  refine z_met (cc := b_S_greatestPlaces) (maxL := 2) (ret := (some .int)) (by decide +kernel) rfl (Nat.le_of_ble_eq_true rfl) ?_
  intro p e s m below meth cd ls a Qf hQ hC hl hH
  obtain ⟨hF, hr, hlk, hK, hG, hn⟩ := hC
  obtain ⟨hx, hb, hml, hown, hts⟩ := hF
  have hg : ∀ w ∈ GW, w.before a s = true := fun w h => hts w (List.mem_cons_of_mem _ h)
  have hA : ∀ q, s.heap.size ≤ q → va_A (wl E w0) s.heap.size q := fun q h => Or.inr h
  have hl : lv_has ls 2 [(0, .ref (ad E y))] := hl
  refine zv_bipush hx hb d_S_greatestPlaces_0 rfl ?_
  refine lv_istore_n (lv' := [(1, .int (iI 24)), (0, .ref (ad E y))]) hx hb d_S_greatestPlaces_2 rfl hl (by decide) rfl (fun ls hl => ?_)
  have L3 : ∀ (fu : Nat) (x : Int) (ls : Array Slot) (H1 : Heap) (lc2 : List Loc), (lv_has ls 2 [(1, .int (iI x)), (0, .ref (ad E y))]) → (zH E w0 (va_A (wl E w0) s.heap.size) s.heap H1 lc2) → (0 ≤ x ∧ x ≤ 24) → (∀ k : Int, x < k → k ≤ 24 → cn k = 0) → (x < (fu : Int)) → W p l e rm_S_greatest s m a below meth cd H1 lc2 0 0 Qf (F0 m 3 ls []) := by
    intro fu
    induction fu with
    | zero => intro x ls H1 lc2 hl hH hx0 hz hm; exact absurd hm (by omega)
    | succ fu ih =>
      intro x ls H1 lc2 hl hH hx0 hz hm
      refine lv_iload_n hx hb d_S_greatestPlaces_3 rfl (lv_at hl 0 rfl) ?_
      refine zv_if_le (tgt := 22) hx hb d_S_greatestPlaces_4 rfl (by omega) (fun h3 => ?_) (fun h3 => ?_)
      · refine lv_iload_n hx hb d_S_greatestPlaces_22 rfl (lv_at hl 0 rfl) ?_
        rw [hQ]
        exact z_iret hx hb hr hlk hH (⟨rfl, ⟨hx0.1, hx0.2, Or.inl (by omega), hz⟩⟩) d_S_greatestPlaces_23
      · refine lv_aload_n hx hb d_S_greatestPlaces_7 rfl (lv_at hl 1 rfl) ?_
        refine zv_get (C := "ScaledNumeralDesk$Sum") (T := TS) (N := 3) hx hb hg uS_in hown hK hH q0lt c0 rfl 1 (by decide) (hg _ wm_86) (fun _ h9 => h9) rfl d_S_greatestPlaces_8 ?_
        refine lv_iload_n hx hb d_S_greatestPlaces_11 rfl (lv_at hl 0 rfl) ?_
        refine zv_iald hx hb hK hH q3lt c3 (by omega) (by omega) (by omega) d_S_greatestPlaces_12 ?_
        have b4 := bc x (by omega) (by omega)
        refine zv_if_ne (tgt := 22) hx hb d_S_greatestPlaces_13 rfl (by omega) (fun h5 => ?_) (fun h5 => ?_)
        · refine lv_iload_n hx hb d_S_greatestPlaces_22 rfl (lv_at hl 0 rfl) ?_
          rw [hQ]
          exact z_iret hx hb hr hlk hH (⟨rfl, ⟨hx0.1, hx0.2, Or.inr (by assumption), hz⟩⟩) d_S_greatestPlaces_23
        · refine zv_iinc (k := 0) (lv' := [(1, .int (iI (x + (-1)))), (0, .ref (ad E y))]) hx hb d_S_greatestPlaces_16 hl rfl (by decide) rfl (fun ls hl => ?_)
          refine lv_goto (tgt := 3) hx hb d_S_greatestPlaces_19 rfl ?_
          exact ih  (x + (-1)) _ H1 lc2 (lv_sub hl [0, 1] rfl) hH (by omega) (by intro k g1 g2; by_cases e9 : k = x; rw [e9]; assumption; exact hz k (by omega) g2) (by omega)
  exact L3 ((24 : Int).toNat + 1) 24 _ s.heap ([]) (lv_sub hl [0, 1] rfl) hH (by omega) (by intro k g1 g2; omega) (by omega)
def rm_S_join : Room := { frames := 4, cells := 0, slots := 0, locals := 85 }
set_option maxHeartbeats 4000000 in
set_option maxRecDepth 100000 in
theorem c_S_join (l : Launch) (E : zE) (w0 : zW) (y : Nat) (sn sz : Int) (sf cn : Int → Int) (x : Nat) (on oz : Int) (of co : Int → Int) (q0lt : y < zn E) (q1lt : y + 1 < zn E) (q2lt : y + 2 < zn E) (q3lt : y + 3 < zn E) (q4lt : x < zn E) (q5lt : x + 1 < zn E) (q6lt : x + 2 < zn E) (q7lt : x + 3 < zn E) (c0 : w0 y = .inr (2, [.ref (ad E (y + 1)), .ref (ad E (y + 3)), .int (iI sz)])) (c1 : w0 (y + 1) = .inr (0, [.ref (ad E (y + 2)), .int (iI sn)])) (c2 : w0 (y + 2) = zar E 15 sf) (c3 : w0 (y + 3) = zar E 28 cn) (c4 : w0 x = .inr (2, [.ref (ad E (x + 1)), .ref (ad E (x + 3)), .int (iI oz)])) (c5 : w0 (x + 1) = .inr (0, [.ref (ad E (x + 2)), .int (iI on)])) (c6 : w0 (x + 2) = zar E 15 of) (c7 : w0 (x + 3) = zar E 28 co) (bs : bd sf 15 0 9999) (hsn : sn = 0 ∨ sn = 1) (bc : bd cn 28 0 sz) (hsz : 0 ≤ sz ∧ sz ≤ 1000) (bo : bd of 15 0 9999) (hon : on = 0 ∨ on = 1) (bco : bd co 28 0 oz) (hoz : 0 ≤ oz ∧ oz ≤ 1000) (hs : V sf 15 + V of 15 < Bp 15) (hxy : y + 3 < x ∨ x + 3 < y) : zM l y_S_join ws_S_join rm_S_join E [.ref (ad E y), .ref (ad E x)] w0 (zQi E w0 (fun z w' => (∃ (s' : Int) (n' : Int) (f' : Int → Int) (c' : Int → Int), w' y = .inr (2, [.ref (ad E (y + 1)), .ref (ad E (y + 3)), .int (iI s')]) ∧ w' (y + 1) = .inr (0, [.ref (ad E (y + 2)), .int (iI n')]) ∧ w' (y + 2) = zar E 15 f' ∧ w' (y + 3) = zar E 28 c' ∧ bd f' 15 0 9999 ∧ bd c' 28 0 (s') ∧ ((z = -2 ∧ 1000 < sz + oz ∧ (s' = sz ∧ n' = sn ∧ f' = sf ∧ c' = cn)) ∨ (z = 0 ∧ sz + oz ≤ 1000 ∧ s' = sz + oz ∧ (n' = 0 ∨ n' = 1) ∧ (V f' 15 = 0 → n' = 0) ∧ sv n' (V f' 15) = sv sn (V sf 15) + sv on (V of 15) ∧ ∀ j : Int, 0 ≤ j → j < 28 → c' j = cn j + co j))) ∧ ∀ k, k ≠ y → k ≠ (y + 1) → k ≠ (y + 2) → k ≠ (y + 3) → w' k = w0 k)) := by
  refine z_met (cc := b_S_join) (maxL := 3) (ret := (some .int)) (by decide +kernel) rfl (Nat.le_of_ble_eq_true rfl) ?_
  intro p e s m below meth cd ls a Qf hQ hC hl hH
  obtain ⟨hF, hr, hlk, hK, hG, hn⟩ := hC
  obtain ⟨hx, hb, hml, hown, hts⟩ := hF
  have hg : ∀ w ∈ GW, w.before a s = true := fun w h => hts w (List.mem_cons_of_mem _ h)
  have hA : ∀ q, s.heap.size ≤ q → va_A (wl E w0) s.heap.size q := fun q h => Or.inr h
  have hl : lv_has ls 3 [(0, .ref (ad E y)), (1, .ref (ad E x))] := hl
  refine lv_aload_n hx hb d_S_join_0 rfl (lv_at hl 0 rfl) ?_
  refine zv_get (C := "ScaledNumeralDesk$Sum") (T := TS) (N := 3) hx hb hg uS_in hown hK hH q0lt c0 rfl 2 (by decide) (hg _ wm_87) (fun _ h9 => h9) rfl d_S_join_1 ?_
  refine lv_aload_n hx hb d_S_join_4 rfl (lv_at hl 1 rfl) ?_
  refine zv_get (C := "ScaledNumeralDesk$Sum") (T := TS) (N := 3) hx hb hg uS_in hown hK hH q4lt c4 rfl 2 (by decide) (hg _ wm_87) (fun _ h9 => h9) rfl d_S_join_5 ?_
  refine zv_iadd hx hb d_S_join_8 ?_
  refine zv_sipush hx hb d_S_join_9 rfl ?_
  refine zv_icmp_le (tgt := 18) hx hb d_S_join_12 rfl (by omega) (by omega) (fun h1 => ?_) (fun h1 => ?_)
  · refine lv_aload_n hx hb d_S_join_18 rfl (lv_at hl 0 rfl) ?_
    refine zv_get (C := "ScaledNumeralDesk$Sum") (T := TS) (N := 3) hx hb hg uS_in hown hK hH q0lt c0 rfl 0 (by decide) (hg _ wm_85) (fun _ h9 => h9) rfl d_S_join_19 ?_
    refine lv_aload_n hx hb d_S_join_22 rfl (lv_at hl 1 rfl) ?_
    refine zv_get (C := "ScaledNumeralDesk$Sum") (T := TS) (N := 3) hx hb hg uS_in hown hK hH q4lt c4 rfl 0 (by decide) (hg _ wm_85) (fun _ h9 => h9) rfl d_S_join_23 ?_
    refine zv_iconst hx hb d_S_join_26 ?_
    refine z_callv (va_runV (As := [.ref (ad E (x + 1)), .int (iI 0)]) (rest := []) ⟨hx, hb, hml, hown, hts⟩ (c_A_increase (l := l) (E := E) (w0 := w0) (q := y + 1) (r := x + 1) (f := sf) (g := of) (ng := sn) (no := on) (ta := 0) (q0lt := q1lt) (q1lt := q2lt) (q2lt := q5lt) (q3lt := q6lt) (c0 := c1) (c1 := c2) (c2 := c5) (c3 := c6) (bf := bs) (bg := bo) (hno := by omega) (hqr := by omega) (hng := by omega) (hta := by omega) (hs := by omega) s.heap.size) (z_cwV (C := "ScaledNumeralDesk$Amount") 2 hg wm_388 wm_614 wm_5 wm_386 wm_387 (by decide +kernel) ⟨Nat.le_of_ble_eq_true rfl, Nat.le_of_ble_eq_true rfl⟩) (z_preV (r := ("ScaledNumeralDesk$Amount", TA, 2)) hK hG hn hH hA q1lt c1 rfl) rfl rfl hl.1 rfl (lv_room (Nat.le_of_ble_eq_true rfl)) d_S_join_27 ⟨Nat.zero_le _, Nat.zero_le _⟩) hH hA (fun  w4 H2 lc3 hH5 p27 => ?_)
    obtain ⟨⟨m1, g1, e6, e7, bd8, p27⟩, hg9⟩ := p27
    replace bd8 : bd g1 15 0 9999 := bd8
    replace p27 : (m1 = 0 ∨ m1 = 1) ∧ (V g1 15 = 0 → m1 = 0) ∧ sv m1 (V g1 15) = sv sn (V sf 15) + tk (0 : Int) (sv on (V of 15)) := p27
    have e10 : w4 y = .inr (2, [.ref (ad E (y + 1)), .ref (ad E (y + 3)), .int (iI sz)]) := (hg9 y (by omega) (by omega)).trans c0
    have e11 : w4 (y + 3) = zar E 28 cn := (hg9 (y + 3) (by omega) (by omega)).trans c3
    have e12 : w4 x = .inr (2, [.ref (ad E (x + 1)), .ref (ad E (x + 3)), .int (iI oz)]) := (hg9 x (by omega) (by omega)).trans c4
    have e13 : w4 (x + 1) = .inr (0, [.ref (ad E (x + 2)), .int (iI on)]) := (hg9 (x + 1) (by omega) (by omega)).trans c5
    have e14 : w4 (x + 2) = zar E 15 of := (hg9 (x + 2) (by omega) (by omega)).trans c6
    have e15 : w4 (x + 3) = zar E 28 co := (hg9 (x + 3) (by omega) (by omega)).trans c7
    have hf16 : ∀ k, k ≠ (y + 1) → k ≠ (y + 2) → w4 k = w0 k := fun k g0 g1 => hg9 k g0 g1
    rw [tk_0] at p27
    have bc2 : bd cn 28 0 (sz + oz) := bd_w bc (by omega)
    refine zv_iconst hx hb d_S_join_30 ?_
    refine lv_istore_n (lv' := [(2, .int (iI 0)), (0, .ref (ad E y)), (1, .ref (ad E x))]) hx hb d_S_join_31 rfl hl (by decide) rfl (fun ls hl => ?_)
    have L32 : ∀ (fu : Nat) (i : Int) (h : Int → Int) (ls : Array Slot) (H17 : Heap) (lc18 : List Loc) (w19 : zW), (lv_has ls 3 [(2, .int (iI i)), (0, .ref (ad E y)), (1, .ref (ad E x))]) → (zH E w19 (va_A (wl E w0) s.heap.size) s.heap H17 lc18) → (w19 y = .inr (2, [.ref (ad E (y + 1)), .ref (ad E (y + 3)), .int (iI sz)])) → (w19 (y + 1) = .inr (0, [.ref (ad E (y + 2)), .int (iI m1)])) → (w19 (y + 2) = zar E 15 g1) → (w19 (y + 3) = zar E 28 h) → (w19 x = .inr (2, [.ref (ad E (x + 1)), .ref (ad E (x + 3)), .int (iI oz)])) → (w19 (x + 1) = .inr (0, [.ref (ad E (x + 2)), .int (iI on)])) → (w19 (x + 2) = zar E 15 of) → (w19 (x + 3) = zar E 28 co) → (∀ k, k ≠ (y + 1) → k ≠ (y + 2) → k ≠ (y + 3) → w19 k = w0 k) → (bd h 28 0 (sz + oz)) → (0 ≤ i ∧ i ≤ 28) → (∀ j : Int, 0 ≤ j → j < i → h j = cn j + co j) → (∀ j : Int, i ≤ j → h j = cn j) → (28 - i < (fu : Int)) → W p l e rm_S_join s m a below meth cd H17 lc18 0 0 Qf (F0 m 32 ls []) := by
      intro fu
      induction fu with
      | zero => intro i h ls H17 lc18 w19 hl hH e20 e21 e22 e23 e24 e25 e26 e27 hf28 bh hi hd hk hm; exact absurd hm (by omega)
      | succ fu ih =>
        intro i h ls H17 lc18 w19 hl hH e20 e21 e22 e23 e24 e25 e26 e27 hf28 bh hi hd hk hm
        refine lv_iload_n hx hb d_S_join_32 rfl (lv_at hl 0 rfl) ?_
        refine zv_bipush hx hb d_S_join_33 rfl ?_
        refine zv_icmp_ge (tgt := 59) hx hb d_S_join_35 rfl (by omega) (by omega) (fun h29 => ?_) (fun h29 => ?_)
        · refine lv_aload_n hx hb d_S_join_59 rfl (lv_at hl 1 rfl) ?_
          refine lv_dup hx hb d_S_join_60 rfl ?_
          refine zv_get (C := "ScaledNumeralDesk$Sum") (T := TS) (N := 3) hx hb hg uS_in hown hK hH q0lt e20 rfl 2 (by decide) (hg _ wm_87) (fun _ h9 => h9) rfl d_S_join_61 ?_
          refine lv_aload_n hx hb d_S_join_64 rfl (lv_at hl 2 rfl) ?_
          refine zv_get (C := "ScaledNumeralDesk$Sum") (T := TS) (N := 3) hx hb hg uS_in hown hK hH q4lt e24 rfl 2 (by decide) (hg _ wm_87) (fun _ h9 => h9) rfl d_S_join_65 ?_
          refine zv_iadd hx hb d_S_join_68 ?_
          refine zv_put (C := "ScaledNumeralDesk$Sum") (T := TS) (N := 3) (fs' := [.ref (ad E (y + 1)), .ref (ad E (y + 3)), .int (iI (sz + oz))]) hx hb hg uS_in tyS tyS_ok nmS hown hK hH q0lt e20 rfl 2 (by decide) (hg _ wm_87) (fun _ h9 => h9) rfl (ty := tyS 2) (by decide +kernel) (rfl) (by rfl) (Nat.le_of_ble_eq_true rfl) d_S_join_69 rfl (fun H31 lc32 w30 hH33 e34 hg35 => ?_)
          have e36 : w30 (y + 1) = .inr (0, [.ref (ad E (y + 2)), .int (iI m1)]) := (hg35 (y + 1) (by omega)).trans e21
          have e37 : w30 (y + 2) = zar E 15 g1 := (hg35 (y + 2) (by omega)).trans e22
          have e38 : w30 (y + 3) = zar E 28 h := (hg35 (y + 3) (by omega)).trans e23
          have e39 : w30 x = .inr (2, [.ref (ad E (x + 1)), .ref (ad E (x + 3)), .int (iI oz)]) := (hg35 x (by omega)).trans e24
          have e40 : w30 (x + 1) = .inr (0, [.ref (ad E (x + 2)), .int (iI on)]) := (hg35 (x + 1) (by omega)).trans e25
          have e41 : w30 (x + 2) = zar E 15 of := (hg35 (x + 2) (by omega)).trans e26
          have e42 : w30 (x + 3) = zar E 28 co := (hg35 (x + 3) (by omega)).trans e27
          have hf43 : ∀ k, k ≠ (y + 1) → k ≠ (y + 2) → k ≠ (y + 3) → k ≠ y → w30 k = w0 k := fun k g0 g1 g2 g3 => (hg35 k g3).trans (hf28 k g0 g1 g2)
          refine zv_iconst hx hb d_S_join_72 ?_
          rw [hQ]
          exact z_iret hx hb hr hlk hH33 (⟨⟨(sz + oz), m1, g1, h, e34, e36, e37, e38, bd8, bh, Or.inr ⟨rfl, by omega, rfl, p27.1, p27.2.1, p27.2.2, fun j g1 g2 => hd j g1 (by omega)⟩⟩, (fun k g0 g1 g2 g3 => hf43 k g1 g2 g3 g0)⟩) d_S_join_73
        · refine lv_aload_n hx hb d_S_join_38 rfl (lv_at hl 1 rfl) ?_
          refine zv_get (C := "ScaledNumeralDesk$Sum") (T := TS) (N := 3) hx hb hg uS_in hown hK hH q0lt e20 rfl 1 (by decide) (hg _ wm_86) (fun _ h9 => h9) rfl d_S_join_39 ?_
          refine lv_iload_n hx hb d_S_join_42 rfl (lv_at hl 0 rfl) ?_
          refine lv_dup2_11 hx hb d_S_join_43 rfl rfl ?_
          refine zv_iald hx hb hK hH q3lt e23 (by omega) (by omega) (by omega) d_S_join_44 ?_
          have b44 := bh i (by omega) (by omega)
          refine lv_aload_n hx hb d_S_join_45 rfl (lv_at hl 2 rfl) ?_
          refine zv_get (C := "ScaledNumeralDesk$Sum") (T := TS) (N := 3) hx hb hg uS_in hown hK hH q4lt e24 rfl 1 (by decide) (hg _ wm_86) (fun _ h9 => h9) rfl d_S_join_46 ?_
          refine lv_iload_n hx hb d_S_join_49 rfl (lv_at hl 0 rfl) ?_
          refine zv_iald hx hb hK hH q7lt e27 (by omega) (by omega) (by omega) d_S_join_50 ?_
          have b45 := bco i (by omega) (by omega)
          refine zv_iadd hx hb d_S_join_51 ?_
          have hk9 := hk i (Int.le_refl i)
          have bq1 := bc i (by omega) (by omega)
          have bq2 := bco i (by omega) (by omega)
          refine zv_iast hx hb hK hH q3lt e23 (by omega) (by omega) (by omega) d_S_join_52 (fun H47 lc48 w46 hH49 e50 hg51 => ?_)
          have bd52 := bd_up bh i ((h i) + (co i)) (by omega)
          have e53 : w46 y = .inr (2, [.ref (ad E (y + 1)), .ref (ad E (y + 3)), .int (iI sz)]) := (hg51 y (by omega)).trans e20
          have e54 : w46 (y + 1) = .inr (0, [.ref (ad E (y + 2)), .int (iI m1)]) := (hg51 (y + 1) (by omega)).trans e21
          have e55 : w46 (y + 2) = zar E 15 g1 := (hg51 (y + 2) (by omega)).trans e22
          have e56 : w46 x = .inr (2, [.ref (ad E (x + 1)), .ref (ad E (x + 3)), .int (iI oz)]) := (hg51 x (by omega)).trans e24
          have e57 : w46 (x + 1) = .inr (0, [.ref (ad E (x + 2)), .int (iI on)]) := (hg51 (x + 1) (by omega)).trans e25
          have e58 : w46 (x + 2) = zar E 15 of := (hg51 (x + 2) (by omega)).trans e26
          have e59 : w46 (x + 3) = zar E 28 co := (hg51 (x + 3) (by omega)).trans e27
          have hf60 : ∀ k, k ≠ (y + 1) → k ≠ (y + 2) → k ≠ (y + 3) → w46 k = w0 k := fun k g0 g1 g2 => (hg51 k g2).trans (hf28 k g0 g1 g2)
          refine zv_iinc (k := 0) (lv' := [(2, .int (iI (i + 1))), (0, .ref (ad E y)), (1, .ref (ad E x))]) hx hb d_S_join_53 hl rfl (by decide) rfl (fun ls hl => ?_)
          refine lv_goto (tgt := 32) hx hb d_S_join_56 rfl ?_
          exact ih  (i + 1) (up h i ((h i) + (co i))) _ H47 lc48 w46 (lv_sub hl [0, 1, 2] rfl) hH49 e53 e54 e55 e50 e56 e57 e58 e59 (fun k g0 g1 g2 => hf60 k g0 g1 g2) (by assumption) (by omega) (by intro j g1 g2; by_cases e9 : j = i; rw [e9, up_at, hk i (Int.le_refl i)]; rw [up_ne e9]; exact hd j g1 (by omega)) (ks_step hk) (by omega)
    exact L32 ((28 - 0 : Int).toNat + 1) 0 cn _ H2 lc3 w4 (lv_sub hl [0, 1, 2] rfl) hH5 e10 e6 e7 e11 e12 e13 e14 e15 (fun k g0 g1 g2 => hf16 k g0 g1) (by exact bc2) (by omega) (by intro j g1 g2; omega) (by intro j _; rfl) (by omega)
  · refine zv_bipush hx hb d_S_join_15 rfl ?_
    rw [hQ]
    exact z_iret hx hb hr hlk hH (⟨⟨sz, sn, sf, cn, c0, c1, c2, c3, bs, bc, Or.inl ⟨rfl, by omega, rfl, rfl, rfl, rfl⟩⟩, (fun k _ _ _ _ => rfl)⟩) d_S_join_17
def rm_S_joinAA : Room := { frames := 4, cells := 0, slots := 0, locals := 85 }
set_option maxHeartbeats 4000000 in
set_option maxRecDepth 100000 in
theorem c_S_joinAA (l : Launch) (E : zE) (w0 : zW) (y : Nat) (sn sz : Int) (sf cn : Int → Int) (q0lt : y < zn E) (q1lt : y + 1 < zn E) (q2lt : y + 2 < zn E) (q3lt : y + 3 < zn E) (c0 : w0 y = .inr (2, [.ref (ad E (y + 1)), .ref (ad E (y + 3)), .int (iI sz)])) (c1 : w0 (y + 1) = .inr (0, [.ref (ad E (y + 2)), .int (iI sn)])) (c2 : w0 (y + 2) = zar E 15 sf) (c3 : w0 (y + 3) = zar E 28 cn) (bs : bd sf 15 0 9999) (hsn : sn = 0 ∨ sn = 1) (bc : bd cn 28 0 sz) (hsz : 0 ≤ sz ∧ sz ≤ 1000) (hs : V sf 15 + V sf 15 < Bp 15) : zM l y_S_join ws_S_join rm_S_joinAA E [.ref (ad E y), .ref (ad E y)] w0 (zQi E w0 (fun z w' => (∃ (s' : Int) (n' : Int) (f' : Int → Int) (c' : Int → Int), w' y = .inr (2, [.ref (ad E (y + 1)), .ref (ad E (y + 3)), .int (iI s')]) ∧ w' (y + 1) = .inr (0, [.ref (ad E (y + 2)), .int (iI n')]) ∧ w' (y + 2) = zar E 15 f' ∧ w' (y + 3) = zar E 28 c' ∧ bd f' 15 0 9999 ∧ bd c' 28 0 (s') ∧ ((z = -2 ∧ 1000 < sz + sz ∧ (s' = sz ∧ n' = sn ∧ f' = sf ∧ c' = cn)) ∨ (z = 0 ∧ sz + sz ≤ 1000 ∧ s' = sz + sz ∧ (n' = 0 ∨ n' = 1) ∧ (V f' 15 = 0 → n' = 0) ∧ sv n' (V f' 15) = sv sn (V sf 15) + sv sn (V sf 15) ∧ ∀ j : Int, 0 ≤ j → j < 28 → c' j = cn j + cn j))) ∧ ∀ k, k ≠ y → k ≠ (y + 1) → k ≠ (y + 2) → k ≠ (y + 3) → w' k = w0 k)) := by
  refine z_met (cc := b_S_join) (maxL := 3) (ret := (some .int)) (by decide +kernel) rfl (Nat.le_of_ble_eq_true rfl) ?_
  intro p e s m below meth cd ls a Qf hQ hC hl hH
  obtain ⟨hF, hr, hlk, hK, hG, hn⟩ := hC
  obtain ⟨hx, hb, hml, hown, hts⟩ := hF
  have hg : ∀ w ∈ GW, w.before a s = true := fun w h => hts w (List.mem_cons_of_mem _ h)
  have hA : ∀ q, s.heap.size ≤ q → va_A (wl E w0) s.heap.size q := fun q h => Or.inr h
  have hl : lv_has ls 3 [(0, .ref (ad E y)), (1, .ref (ad E y))] := hl
  refine lv_aload_n hx hb d_S_join_0 rfl (lv_at hl 0 rfl) ?_
  refine zv_get (C := "ScaledNumeralDesk$Sum") (T := TS) (N := 3) hx hb hg uS_in hown hK hH q0lt c0 rfl 2 (by decide) (hg _ wm_87) (fun _ h9 => h9) rfl d_S_join_1 ?_
  refine lv_aload_n hx hb d_S_join_4 rfl (lv_at hl 1 rfl) ?_
  refine zv_get (C := "ScaledNumeralDesk$Sum") (T := TS) (N := 3) hx hb hg uS_in hown hK hH q0lt c0 rfl 2 (by decide) (hg _ wm_87) (fun _ h9 => h9) rfl d_S_join_5 ?_
  refine zv_iadd hx hb d_S_join_8 ?_
  refine zv_sipush hx hb d_S_join_9 rfl ?_
  refine zv_icmp_le (tgt := 18) hx hb d_S_join_12 rfl (by omega) (by omega) (fun h1 => ?_) (fun h1 => ?_)
  · refine lv_aload_n hx hb d_S_join_18 rfl (lv_at hl 0 rfl) ?_
    refine zv_get (C := "ScaledNumeralDesk$Sum") (T := TS) (N := 3) hx hb hg uS_in hown hK hH q0lt c0 rfl 0 (by decide) (hg _ wm_85) (fun _ h9 => h9) rfl d_S_join_19 ?_
    refine lv_aload_n hx hb d_S_join_22 rfl (lv_at hl 1 rfl) ?_
    refine zv_get (C := "ScaledNumeralDesk$Sum") (T := TS) (N := 3) hx hb hg uS_in hown hK hH q0lt c0 rfl 0 (by decide) (hg _ wm_85) (fun _ h9 => h9) rfl d_S_join_23 ?_
    refine zv_iconst hx hb d_S_join_26 ?_
    refine z_callv (va_runV (As := [.ref (ad E (y + 1)), .int (iI 0)]) (rest := []) ⟨hx, hb, hml, hown, hts⟩ (c_A_increaseAA (l := l) (E := E) (w0 := w0) (q := y + 1) (f := sf) (ng := sn) (q0lt := q1lt) (q1lt := q2lt) (c0 := c1) (c1 := c2) (bf := bs) (hng := by omega) (hs := by omega) s.heap.size) (z_cwV (C := "ScaledNumeralDesk$Amount") 2 hg wm_388 wm_614 wm_5 wm_386 wm_387 (by decide +kernel) ⟨Nat.le_of_ble_eq_true rfl, Nat.le_of_ble_eq_true rfl⟩) (z_preV (r := ("ScaledNumeralDesk$Amount", TA, 2)) hK hG hn hH hA q1lt c1 rfl) rfl rfl hl.1 rfl (lv_room (Nat.le_of_ble_eq_true rfl)) d_S_join_27 ⟨Nat.zero_le _, Nat.zero_le _⟩) hH hA (fun  w4 H2 lc3 hH5 p27 => ?_)
    obtain ⟨⟨m1, g1, e6, e7, bd8, p27⟩, hg9⟩ := p27
    replace bd8 : bd g1 15 0 9999 := bd8
    replace p27 : (m1 = 0 ∨ m1 = 1) ∧ (V g1 15 = 0 → m1 = 0) ∧ sv m1 (V g1 15) = sv sn (V sf 15) + sv sn (V sf 15) := p27
    have e10 : w4 y = .inr (2, [.ref (ad E (y + 1)), .ref (ad E (y + 3)), .int (iI sz)]) := (hg9 y (by omega) (by omega)).trans c0
    have e11 : w4 (y + 3) = zar E 28 cn := (hg9 (y + 3) (by omega) (by omega)).trans c3
    have hf12 : ∀ k, k ≠ (y + 1) → k ≠ (y + 2) → w4 k = w0 k := fun k g0 g1 => hg9 k g0 g1
    have bc2 : bd cn 28 0 (sz + sz) := bd_w bc (by omega)
    refine zv_iconst hx hb d_S_join_30 ?_
    refine lv_istore_n (lv' := [(2, .int (iI 0)), (0, .ref (ad E y)), (1, .ref (ad E y))]) hx hb d_S_join_31 rfl hl (by decide) rfl (fun ls hl => ?_)
    have L32 : ∀ (fu : Nat) (i : Int) (h : Int → Int) (ls : Array Slot) (H13 : Heap) (lc14 : List Loc) (w15 : zW), (lv_has ls 3 [(2, .int (iI i)), (0, .ref (ad E y)), (1, .ref (ad E y))]) → (zH E w15 (va_A (wl E w0) s.heap.size) s.heap H13 lc14) → (w15 y = .inr (2, [.ref (ad E (y + 1)), .ref (ad E (y + 3)), .int (iI sz)])) → (w15 (y + 1) = .inr (0, [.ref (ad E (y + 2)), .int (iI m1)])) → (w15 (y + 2) = zar E 15 g1) → (w15 (y + 3) = zar E 28 h) → (∀ k, k ≠ (y + 1) → k ≠ (y + 2) → k ≠ (y + 3) → w15 k = w0 k) → (bd h 28 0 (sz + sz)) → (0 ≤ i ∧ i ≤ 28) → (∀ j : Int, 0 ≤ j → j < i → h j = cn j + cn j) → (∀ j : Int, i ≤ j → h j = cn j) → (28 - i < (fu : Int)) → W p l e rm_S_joinAA s m a below meth cd H13 lc14 0 0 Qf (F0 m 32 ls []) := by
      intro fu
      induction fu with
      | zero => intro i h ls H13 lc14 w15 hl hH e16 e17 e18 e19 hf20 bh hi hd hk hm; exact absurd hm (by omega)
      | succ fu ih =>
        intro i h ls H13 lc14 w15 hl hH e16 e17 e18 e19 hf20 bh hi hd hk hm
        refine lv_iload_n hx hb d_S_join_32 rfl (lv_at hl 0 rfl) ?_
        refine zv_bipush hx hb d_S_join_33 rfl ?_
        refine zv_icmp_ge (tgt := 59) hx hb d_S_join_35 rfl (by omega) (by omega) (fun h21 => ?_) (fun h21 => ?_)
        · refine lv_aload_n hx hb d_S_join_59 rfl (lv_at hl 1 rfl) ?_
          refine lv_dup hx hb d_S_join_60 rfl ?_
          refine zv_get (C := "ScaledNumeralDesk$Sum") (T := TS) (N := 3) hx hb hg uS_in hown hK hH q0lt e16 rfl 2 (by decide) (hg _ wm_87) (fun _ h9 => h9) rfl d_S_join_61 ?_
          refine lv_aload_n hx hb d_S_join_64 rfl (lv_at hl 2 rfl) ?_
          refine zv_get (C := "ScaledNumeralDesk$Sum") (T := TS) (N := 3) hx hb hg uS_in hown hK hH q0lt e16 rfl 2 (by decide) (hg _ wm_87) (fun _ h9 => h9) rfl d_S_join_65 ?_
          refine zv_iadd hx hb d_S_join_68 ?_
          refine zv_put (C := "ScaledNumeralDesk$Sum") (T := TS) (N := 3) (fs' := [.ref (ad E (y + 1)), .ref (ad E (y + 3)), .int (iI (sz + sz))]) hx hb hg uS_in tyS tyS_ok nmS hown hK hH q0lt e16 rfl 2 (by decide) (hg _ wm_87) (fun _ h9 => h9) rfl (ty := tyS 2) (by decide +kernel) (rfl) (by rfl) (Nat.le_of_ble_eq_true rfl) d_S_join_69 rfl (fun H23 lc24 w22 hH25 e26 hg27 => ?_)
          have e28 : w22 (y + 1) = .inr (0, [.ref (ad E (y + 2)), .int (iI m1)]) := (hg27 (y + 1) (by omega)).trans e17
          have e29 : w22 (y + 2) = zar E 15 g1 := (hg27 (y + 2) (by omega)).trans e18
          have e30 : w22 (y + 3) = zar E 28 h := (hg27 (y + 3) (by omega)).trans e19
          have hf31 : ∀ k, k ≠ (y + 1) → k ≠ (y + 2) → k ≠ (y + 3) → k ≠ y → w22 k = w0 k := fun k g0 g1 g2 g3 => (hg27 k g3).trans (hf20 k g0 g1 g2)
          refine zv_iconst hx hb d_S_join_72 ?_
          rw [hQ]
          exact z_iret hx hb hr hlk hH25 (⟨⟨(sz + sz), m1, g1, h, e26, e28, e29, e30, bd8, bh, Or.inr ⟨rfl, by omega, rfl, p27.1, p27.2.1, p27.2.2, fun j g1 g2 => hd j g1 (by omega)⟩⟩, (fun k g0 g1 g2 g3 => hf31 k g1 g2 g3 g0)⟩) d_S_join_73
        · refine lv_aload_n hx hb d_S_join_38 rfl (lv_at hl 1 rfl) ?_
          refine zv_get (C := "ScaledNumeralDesk$Sum") (T := TS) (N := 3) hx hb hg uS_in hown hK hH q0lt e16 rfl 1 (by decide) (hg _ wm_86) (fun _ h9 => h9) rfl d_S_join_39 ?_
          refine lv_iload_n hx hb d_S_join_42 rfl (lv_at hl 0 rfl) ?_
          refine lv_dup2_11 hx hb d_S_join_43 rfl rfl ?_
          refine zv_iald hx hb hK hH q3lt e19 (by omega) (by omega) (by omega) d_S_join_44 ?_
          have b32 := bh i (by omega) (by omega)
          refine lv_aload_n hx hb d_S_join_45 rfl (lv_at hl 2 rfl) ?_
          refine zv_get (C := "ScaledNumeralDesk$Sum") (T := TS) (N := 3) hx hb hg uS_in hown hK hH q0lt e16 rfl 1 (by decide) (hg _ wm_86) (fun _ h9 => h9) rfl d_S_join_46 ?_
          refine lv_iload_n hx hb d_S_join_49 rfl (lv_at hl 0 rfl) ?_
          refine zv_iald hx hb hK hH q3lt e19 (by omega) (by omega) (by omega) d_S_join_50 ?_
          have b33 := bh i (by omega) (by omega)
          refine zv_iadd hx hb d_S_join_51 ?_
          have hk9 := hk i (Int.le_refl i)
          have bq1 := bc i (by omega) (by omega)
          refine zv_iast hx hb hK hH q3lt e19 (by omega) (by omega) (by omega) d_S_join_52 (fun H35 lc36 w34 hH37 e38 hg39 => ?_)
          have bd40 := bd_up bh i ((h i) + (h i)) (by omega)
          have e41 : w34 y = .inr (2, [.ref (ad E (y + 1)), .ref (ad E (y + 3)), .int (iI sz)]) := (hg39 y (by omega)).trans e16
          have e42 : w34 (y + 1) = .inr (0, [.ref (ad E (y + 2)), .int (iI m1)]) := (hg39 (y + 1) (by omega)).trans e17
          have e43 : w34 (y + 2) = zar E 15 g1 := (hg39 (y + 2) (by omega)).trans e18
          have hf44 : ∀ k, k ≠ (y + 1) → k ≠ (y + 2) → k ≠ (y + 3) → w34 k = w0 k := fun k g0 g1 g2 => (hg39 k g2).trans (hf20 k g0 g1 g2)
          refine zv_iinc (k := 0) (lv' := [(2, .int (iI (i + 1))), (0, .ref (ad E y)), (1, .ref (ad E y))]) hx hb d_S_join_53 hl rfl (by decide) rfl (fun ls hl => ?_)
          refine lv_goto (tgt := 32) hx hb d_S_join_56 rfl ?_
          exact ih  (i + 1) (up h i ((h i) + (h i))) _ H35 lc36 w34 (lv_sub hl [0, 1, 2] rfl) hH37 e41 e42 e43 e38 (fun k g0 g1 g2 => hf44 k g0 g1 g2) (by assumption) (by omega) (by intro j g1 g2; by_cases e9 : j = i; rw [e9, up_at, hk i (Int.le_refl i)]; rw [up_ne e9]; exact hd j g1 (by omega)) (ks_step hk) (by omega)
    exact L32 ((28 - 0 : Int).toNat + 1) 0 cn _ H2 lc3 w4 (lv_sub hl [0, 1, 2] rfl) hH5 e10 e6 e7 e11 (fun k g0 g1 g2 => hf12 k g0 g1) (by exact bc2) (by omega) (by intro j g1 g2; omega) (by intro j _; rfl) (by omega)
  · refine zv_bipush hx hb d_S_join_15 rfl ?_
    rw [hQ]
    exact z_iret hx hb hr hlk hH (⟨⟨sz, sn, sf, cn, c0, c1, c2, c3, bs, bc, Or.inl ⟨rfl, by omega, rfl, rfl, rfl, rfl⟩⟩, (fun k _ _ _ _ => rfl)⟩) d_S_join_17
