def rm_N_isFinite : Room := { frames := 0, cells := 0, slots := 0, locals := 0 }
set_option maxHeartbeats 4000000 in
set_option maxRecDepth 100000 in
theorem c_N_isFinite (l : Launch) (E : zE) (w0 : zW) (q : Nat) (kd : Nat) (pl ng : Int) (f : Int → Int) (q0lt : q < zn E) (q1lt : q + 1 < zn E) (q2lt : q + 2 < zn E) (c0 : w0 q = .inr (1, [.ref (zg E (1 + kd)), .int (iI pl), .ref (ad E (q + 1))])) (c1 : w0 (q + 1) = .inr (0, [.ref (ad E (q + 2)), .int (iI ng)])) (c2 : w0 (q + 2) = zar E 15 f) (bf : bd f 15 0 9999) (hkd : kd < 4) (hng : ng = 0 ∨ ng = 1) : zM l y_N_isFinite ws_N_isFinite rm_N_isFinite E [.ref (ad E q)] w0 (zQi E w0 (fun z w' => w' = w0 ∧ ((z = 1 ∧ kd = 1) ∨ (z = 0 ∧ kd ≠ 1)))) := by
  refine z_met (cc := b_N_isFinite) (maxL := 1) (ret := (some .boolean)) (by decide +kernel) rfl (Nat.le_of_ble_eq_true rfl) ?_
  intro p e s m below meth cd ls a Qf hQ hC hl hH
  obtain ⟨hF, hr, hlk, hK, hG, hn⟩ := hC
  obtain ⟨hx, hb, hml, hown, hts⟩ := hF
  have hg : ∀ w ∈ GW, w.before a s = true := fun w h => hts w (List.mem_cons_of_mem _ h)
  have hA : ∀ q, s.heap.size ≤ q → va_A (wl E w0) s.heap.size q := fun q h => Or.inr h
  have hl : lv_has ls 1 [(0, .ref (ad E q))] := hl
  refine lv_aload_n hx hb d_N_isFinite_0 rfl (lv_at hl 0 rfl) ?_
  refine zv_get (C := "ScaledNumeralDesk$Numeral") (T := TN) (N := 3) hx hb hg uN_in hown hK hH q0lt c0 rfl 0 (by decide) (hg _ wm_55) (fun _ h9 => h9) rfl d_N_isFinite_1 ?_
  refine zv_kind hx hb hG hH hown 1 (by decide) (hg _ wm_34) (fun _ h9 => h9) d_N_isFinite_4 ?_
  refine zv_acmp_ne (a := kd) (b := 1) (tgt := 14) hx hb hG (by omega) (by omega) d_N_isFinite_7 rfl (fun h1 => ?_) (fun h1 => ?_)
  · refine zv_iconst hx hb d_N_isFinite_14 ?_
    rw [hQ]
    exact z_zret hx hb hr hlk hH (⟨rfl, by omega⟩) (by exact nar_z (by omega)) d_N_isFinite_15
  · refine zv_iconst hx hb d_N_isFinite_10 ?_
    refine lv_goto (tgt := 15) hx hb d_N_isFinite_11 rfl ?_
    rw [hQ]
    exact z_zret hx hb hr hlk hH (⟨rfl, by omega⟩) (by exact nar_z (by omega)) d_N_isFinite_15
def rm_N_take : Room := { frames := 2, cells := 0, slots := 0, locals := 47 }
set_option maxHeartbeats 4000000 in
set_option maxRecDepth 100000 in
theorem c_N_take (l : Launch) (E : zE) (w0 : zW) (q r : Nat) (kd ko : Nat) (pl po ng no : Int) (f g : Int → Int) (q0lt : q < zn E) (q1lt : q + 1 < zn E) (q2lt : q + 2 < zn E) (q3lt : r < zn E) (q4lt : r + 1 < zn E) (q5lt : r + 2 < zn E) (c0 : w0 q = .inr (1, [.ref (zg E (1 + kd)), .int (iI pl), .ref (ad E (q + 1))])) (c1 : w0 (q + 1) = .inr (0, [.ref (ad E (q + 2)), .int (iI ng)])) (c2 : w0 (q + 2) = zar E 15 f) (c3 : w0 r = .inr (1, [.ref (zg E (1 + ko)), .int (iI po), .ref (ad E (r + 1))])) (c4 : w0 (r + 1) = .inr (0, [.ref (ad E (r + 2)), .int (iI no)])) (c5 : w0 (r + 2) = zar E 15 g) (bf : bd f 15 0 9999) (hkd : kd < 4) (hng : ng = 0 ∨ ng = 1) (bg : bd g 15 0 9999) (hko : ko < 4) (hno : no = 0 ∨ no = 1) (hqr : q + 2 < r ∨ r + 2 < q) : zM l y_N_take ws_N_take rm_N_take E [.ref (ad E q), .ref (ad E r)] w0 (zQv E w0 (fun w' => (∃ (f' : Int → Int), w' q = .inr (1, [.ref (zg E (1 + ko)), .int (iI po), .ref (ad E (q + 1))]) ∧ w' (q + 1) = .inr (0, [.ref (ad E (q + 2)), .int (iI no)]) ∧ w' (q + 2) = zar E 15 f' ∧ bd f' 15 0 9999 ∧ (V f' 15 = V g 15)) ∧ ∀ k, k ≠ q → k ≠ (q + 1) → k ≠ (q + 2) → w' k = w0 k)) := by
  refine z_met (cc := b_N_take) (maxL := 2) (ret := none) (by decide +kernel) rfl (Nat.le_of_ble_eq_true rfl) ?_
  intro p e s m below meth cd ls a Qf hQ hC hl hH
  obtain ⟨hF, hr, hlk, hK, hG, hn⟩ := hC
  obtain ⟨hx, hb, hml, hown, hts⟩ := hF
  have hg : ∀ w ∈ GW, w.before a s = true := fun w h => hts w (List.mem_cons_of_mem _ h)
  have hA : ∀ q, s.heap.size ≤ q → va_A (wl E w0) s.heap.size q := fun q h => Or.inr h
  have hl : lv_has ls 2 [(0, .ref (ad E q)), (1, .ref (ad E r))] := hl
  refine lv_aload_n hx hb d_N_take_0 rfl (lv_at hl 0 rfl) ?_
  refine lv_aload_n hx hb d_N_take_1 rfl (lv_at hl 1 rfl) ?_
  refine zv_get (C := "ScaledNumeralDesk$Numeral") (T := TN) (N := 3) hx hb hg uN_in hown hK hH q3lt c3 rfl 0 (by decide) (hg _ wm_55) (fun _ h9 => h9) rfl d_N_take_2 ?_
  refine zv_put (C := "ScaledNumeralDesk$Numeral") (T := TN) (N := 3) (fs' := [.ref (zg E (1 + ko)), .int (iI pl), .ref (ad E (q + 1))]) hx hb hg uN_in tyN tyN_ok nmN hown hK hH q0lt c0 rfl 0 (by decide) (hg _ wm_55) (fun _ h9 => h9) rfl (ty := tyN 0) (by decide +kernel) (rfl) (by rfl) (Nat.le_of_ble_eq_true rfl) d_N_take_5 rfl (fun H2 lc3 w1 hH4 e5 hg6 => ?_)
  have e7 : w1 (q + 1) = .inr (0, [.ref (ad E (q + 2)), .int (iI ng)]) := (hg6 (q + 1) (by omega)).trans c1
  have e8 : w1 (q + 2) = zar E 15 f := (hg6 (q + 2) (by omega)).trans c2
  have e9 : w1 r = .inr (1, [.ref (zg E (1 + ko)), .int (iI po), .ref (ad E (r + 1))]) := (hg6 r (by omega)).trans c3
  have e10 : w1 (r + 1) = .inr (0, [.ref (ad E (r + 2)), .int (iI no)]) := (hg6 (r + 1) (by omega)).trans c4
  have e11 : w1 (r + 2) = zar E 15 g := (hg6 (r + 2) (by omega)).trans c5
  have hf12 : ∀ k, k ≠ q → w1 k = w0 k := fun k g0 => hg6 k g0
  refine lv_aload_n hx hb d_N_take_8 rfl (lv_at hl 0 rfl) ?_
  refine lv_aload_n hx hb d_N_take_9 rfl (lv_at hl 1 rfl) ?_
  refine zv_get (C := "ScaledNumeralDesk$Numeral") (T := TN) (N := 3) hx hb hg uN_in hown hK hH4 q3lt e9 rfl 1 (by decide) (hg _ wm_59) (fun _ h9 => h9) rfl d_N_take_10 ?_
  refine zv_put (C := "ScaledNumeralDesk$Numeral") (T := TN) (N := 3) (fs' := [.ref (zg E (1 + ko)), .int (iI po), .ref (ad E (q + 1))]) hx hb hg uN_in tyN tyN_ok nmN hown hK hH4 q0lt e5 rfl 1 (by decide) (hg _ wm_59) (fun _ h9 => h9) rfl (ty := tyN 1) (by decide +kernel) (rfl) (by rfl) (Nat.le_of_ble_eq_true rfl) d_N_take_13 rfl (fun H14 lc15 w13 hH16 e17 hg18 => ?_)
  have e19 : w13 (q + 1) = .inr (0, [.ref (ad E (q + 2)), .int (iI ng)]) := (hg18 (q + 1) (by omega)).trans e7
  have e20 : w13 (q + 2) = zar E 15 f := (hg18 (q + 2) (by omega)).trans e8
  have e21 : w13 r = .inr (1, [.ref (zg E (1 + ko)), .int (iI po), .ref (ad E (r + 1))]) := (hg18 r (by omega)).trans e9
  have e22 : w13 (r + 1) = .inr (0, [.ref (ad E (r + 2)), .int (iI no)]) := (hg18 (r + 1) (by omega)).trans e10
  have e23 : w13 (r + 2) = zar E 15 g := (hg18 (r + 2) (by omega)).trans e11
  have hf24 : ∀ k, k ≠ q → w13 k = w0 k := fun k g0 => (hg18 k g0).trans (hf12 k g0)
  refine lv_aload_n hx hb d_N_take_16 rfl (lv_at hl 0 rfl) ?_
  refine zv_get (C := "ScaledNumeralDesk$Numeral") (T := TN) (N := 3) hx hb hg uN_in hown hK hH16 q0lt e17 rfl 2 (by decide) (hg _ wm_64) (fun _ h9 => h9) rfl d_N_take_17 ?_
  refine lv_aload_n hx hb d_N_take_20 rfl (lv_at hl 1 rfl) ?_
  refine zv_get (C := "ScaledNumeralDesk$Numeral") (T := TN) (N := 3) hx hb hg uN_in hown hK hH16 q3lt e21 rfl 2 (by decide) (hg _ wm_64) (fun _ h9 => h9) rfl d_N_take_21 ?_
  refine z_callv (va_runV (As := [.ref (ad E (r + 1))]) (rest := []) ⟨hx, hb, hml, hown, hts⟩ (c_A_take (l := l) (E := E) (w0 := w13) (q := q + 1) (r := r + 1) (f := f) (g := g) (ng := ng) (no := no) (q0lt := q1lt) (q1lt := q2lt) (q2lt := q4lt) (q3lt := q5lt) (c0 := e19) (c1 := e20) (c2 := e22) (c3 := e23) (bf := bf) (bg := bg) (hno := by omega) (hqr := by omega) H14.size) (z_cwV (C := "ScaledNumeralDesk$Amount") 1 hg wm_328 wm_325 wm_5 wm_326 wm_327 (by decide +kernel) ⟨Nat.le_of_ble_eq_true rfl, Nat.le_of_ble_eq_true rfl⟩) (z_preV (r := ("ScaledNumeralDesk$Amount", TA, 2)) hK hG hn hH16 hA q1lt e19 rfl) rfl rfl hl.1 rfl (lv_room (Nat.le_of_ble_eq_true rfl)) d_N_take_24 ⟨Nat.zero_le _, Nat.zero_le _⟩) hH16 hA (fun  w27 H25 lc26 hH28 p24 => ?_)
  obtain ⟨⟨f_29, e30, e31, bd32, p24⟩, hg33⟩ := p24
  replace bd32 : bd f_29 15 0 9999 := bd32
  replace p24 : V f_29 15 = V g 15 := p24
  have e34 : w27 q = .inr (1, [.ref (zg E (1 + ko)), .int (iI po), .ref (ad E (q + 1))]) := (hg33 q (by omega) (by omega)).trans e17
  have e35 : w27 r = .inr (1, [.ref (zg E (1 + ko)), .int (iI po), .ref (ad E (r + 1))]) := (hg33 r (by omega) (by omega)).trans e21
  have e36 : w27 (r + 1) = .inr (0, [.ref (ad E (r + 2)), .int (iI no)]) := (hg33 (r + 1) (by omega) (by omega)).trans e22
  have e37 : w27 (r + 2) = zar E 15 g := (hg33 (r + 2) (by omega) (by omega)).trans e23
  have hf38 : ∀ k, k ≠ q → k ≠ (q + 1) → k ≠ (q + 2) → w27 k = w0 k := fun k g0 g1 g2 => (hg33 k g1 g2).trans (hf24 k g0)
  rw [hQ]
  exact z_vret hx hb hr hlk hH28 (⟨⟨f_29, e34, e30, e31, bd32, p24⟩, (fun k g0 g1 g2 => hf38 k g0 g1 g2)⟩) d_N_take_27
def rm_N_become : Room := { frames := 2, cells := 0, slots := 0, locals := 43 }
set_option maxHeartbeats 4000000 in
set_option maxRecDepth 100000 in
theorem c_N_become (l : Launch) (E : zE) (w0 : zW) (q : Nat) (kd k2 : Nat) (pl ng : Int) (f : Int → Int) (q0lt : q < zn E) (q1lt : q + 1 < zn E) (q2lt : q + 2 < zn E) (c0 : w0 q = .inr (1, [.ref (zg E (1 + kd)), .int (iI pl), .ref (ad E (q + 1))])) (c1 : w0 (q + 1) = .inr (0, [.ref (ad E (q + 2)), .int (iI ng)])) (c2 : w0 (q + 2) = zar E 15 f) (bf : bd f 15 0 9999) (hkd : kd < 4) (hng : ng = 0 ∨ ng = 1) : zM l y_N_become ws_N_become rm_N_become E [.ref (ad E q), .ref (zg E (1 + k2))] w0 (zQv E w0 (fun w' => (∃ (f' : Int → Int), w' q = .inr (1, [.ref (zg E (1 + k2)), .int (iI 0), .ref (ad E (q + 1))]) ∧ w' (q + 1) = .inr (0, [.ref (ad E (q + 2)), .int (iI 0)]) ∧ w' (q + 2) = zar E 15 f' ∧ bd f' 15 0 9999 ∧ (∀ j : Int, 0 ≤ j → j < 15 → f' j = 0)) ∧ ∀ k, k ≠ q → k ≠ (q + 1) → k ≠ (q + 2) → w' k = w0 k)) := by
  refine z_met (cc := b_N_become) (maxL := 2) (ret := none) (by decide +kernel) rfl (Nat.le_of_ble_eq_true rfl) ?_
  intro p e s m below meth cd ls a Qf hQ hC hl hH
  obtain ⟨hF, hr, hlk, hK, hG, hn⟩ := hC
  obtain ⟨hx, hb, hml, hown, hts⟩ := hF
  have hg : ∀ w ∈ GW, w.before a s = true := fun w h => hts w (List.mem_cons_of_mem _ h)
  have hA : ∀ q, s.heap.size ≤ q → va_A (wl E w0) s.heap.size q := fun q h => Or.inr h
  have hl : lv_has ls 2 [(0, .ref (ad E q)), (1, .ref (zg E (1 + k2)))] := hl
  refine lv_aload_n hx hb d_N_become_0 rfl (lv_at hl 0 rfl) ?_
  refine lv_aload_n hx hb d_N_become_1 rfl (lv_at hl 1 rfl) ?_
  refine zv_put (C := "ScaledNumeralDesk$Numeral") (T := TN) (N := 3) (fs' := [.ref (zg E (1 + k2)), .int (iI pl), .ref (ad E (q + 1))]) hx hb hg uN_in tyN tyN_ok nmN hown hK hH q0lt c0 rfl 0 (by decide) (hg _ wm_55) (fun _ h9 => h9) rfl (ty := tyN 0) (by decide +kernel) (rfl) (by rfl) (Nat.le_of_ble_eq_true rfl) d_N_become_2 rfl (fun H2 lc3 w1 hH4 e5 hg6 => ?_)
  have e7 : w1 (q + 1) = .inr (0, [.ref (ad E (q + 2)), .int (iI ng)]) := (hg6 (q + 1) (by omega)).trans c1
  have e8 : w1 (q + 2) = zar E 15 f := (hg6 (q + 2) (by omega)).trans c2
  have hf9 : ∀ k, k ≠ q → w1 k = w0 k := fun k g0 => hg6 k g0
  refine lv_aload_n hx hb d_N_become_5 rfl (lv_at hl 0 rfl) ?_
  refine zv_iconst hx hb d_N_become_6 ?_
  refine zv_put (C := "ScaledNumeralDesk$Numeral") (T := TN) (N := 3) (fs' := [.ref (zg E (1 + k2)), .int (iI 0), .ref (ad E (q + 1))]) hx hb hg uN_in tyN tyN_ok nmN hown hK hH4 q0lt e5 rfl 1 (by decide) (hg _ wm_59) (fun _ h9 => h9) rfl (ty := tyN 1) (by decide +kernel) (rfl) (by rfl) (Nat.le_of_ble_eq_true rfl) d_N_become_7 rfl (fun H11 lc12 w10 hH13 e14 hg15 => ?_)
  have e16 : w10 (q + 1) = .inr (0, [.ref (ad E (q + 2)), .int (iI ng)]) := (hg15 (q + 1) (by omega)).trans e7
  have e17 : w10 (q + 2) = zar E 15 f := (hg15 (q + 2) (by omega)).trans e8
  have hf18 : ∀ k, k ≠ q → w10 k = w0 k := fun k g0 => (hg15 k g0).trans (hf9 k g0)
  refine lv_aload_n hx hb d_N_become_10 rfl (lv_at hl 0 rfl) ?_
  refine zv_get (C := "ScaledNumeralDesk$Numeral") (T := TN) (N := 3) hx hb hg uN_in hown hK hH13 q0lt e14 rfl 2 (by decide) (hg _ wm_64) (fun _ h9 => h9) rfl d_N_become_11 ?_
  refine z_callv (va_runV (As := []) (rest := []) ⟨hx, hb, hml, hown, hts⟩ (c_A_clear (l := l) (E := E) (w0 := w10) (q := q + 1) (f := f) (ng := ng) (q0lt := q1lt) (q1lt := q2lt) (c0 := e16) (c1 := e17) (bf := bf) H11.size) (z_cwV (C := "ScaledNumeralDesk$Amount") 0 hg wm_234 wm_231 wm_5 wm_232 wm_233 (by decide +kernel) ⟨Nat.le_of_ble_eq_true rfl, Nat.le_of_ble_eq_true rfl⟩) (z_preV (r := ("ScaledNumeralDesk$Amount", TA, 2)) hK hG hn hH13 hA q1lt e16 rfl) rfl rfl hl.1 rfl (lv_room (Nat.le_of_ble_eq_true rfl)) d_N_become_14 ⟨Nat.zero_le _, Nat.zero_le _⟩) hH13 hA (fun  w21 H19 lc20 hH22 p14 => ?_)
  obtain ⟨⟨f_23, e24, e25, bd26, p14⟩, hg27⟩ := p14
  replace bd26 : bd f_23 15 0 9999 := bd26
  replace p14 : ∀ j : Int, 0 ≤ j → j < 15 → f_23 j = 0 := p14
  have e28 : w21 q = .inr (1, [.ref (zg E (1 + k2)), .int (iI 0), .ref (ad E (q + 1))]) := (hg27 q (by omega) (by omega)).trans e14
  have hf29 : ∀ k, k ≠ q → k ≠ (q + 1) → k ≠ (q + 2) → w21 k = w0 k := fun k g0 g1 g2 => (hg27 k g1 g2).trans (hf18 k g0)
  rw [hQ]
  exact z_vret hx hb hr hlk hH22 (⟨⟨f_23, e28, e24, e25, bd26, p14⟩, (fun k g0 g1 g2 => hf29 k g0 g1 g2)⟩) d_N_become_17
def rm_N_becomeInf : Room := { frames := 3, cells := 0, slots := 0, locals := 64 }
set_option maxHeartbeats 4000000 in
set_option maxRecDepth 100000 in
theorem c_N_becomeInf (l : Launch) (E : zE) (w0 : zW) (q : Nat) (kd : Nat) (pl ng sg : Int) (f : Int → Int) (q0lt : q < zn E) (q1lt : q + 1 < zn E) (q2lt : q + 2 < zn E) (c0 : w0 q = .inr (1, [.ref (zg E (1 + kd)), .int (iI pl), .ref (ad E (q + 1))])) (c1 : w0 (q + 1) = .inr (0, [.ref (ad E (q + 2)), .int (iI ng)])) (c2 : w0 (q + 2) = zar E 15 f) (bf : bd f 15 0 9999) (hkd : kd < 4) (hng : ng = 0 ∨ ng = 1) (hsg : zr sg) : zM l y_N_becomeInfinite ws_N_becomeInfinite rm_N_becomeInf E [.ref (ad E q), .int (iI sg)] w0 (zQv E w0 (fun w' => (∃ (k' : Nat) (f' : Int → Int), w' q = .inr (1, [.ref (zg E (1 + k')), .int (iI 0), .ref (ad E (q + 1))]) ∧ w' (q + 1) = .inr (0, [.ref (ad E (q + 2)), .int (iI 0)]) ∧ w' (q + 2) = zar E 15 f' ∧ bd f' 15 0 9999 ∧ ((∀ j : Int, 0 ≤ j → j < 15 → f' j = 0) ∧ ((sg < 0 ∧ k' = 0) ∨ (0 ≤ sg ∧ k' = 2)))) ∧ ∀ k, k ≠ q → k ≠ (q + 1) → k ≠ (q + 2) → w' k = w0 k)) := by
  refine z_met (cc := b_N_becomeInfinite) (maxL := 2) (ret := none) (by decide +kernel) rfl (Nat.le_of_ble_eq_true rfl) ?_
  intro p e s m below meth cd ls a Qf hQ hC hl hH
  obtain ⟨hF, hr, hlk, hK, hG, hn⟩ := hC
  obtain ⟨hx, hb, hml, hown, hts⟩ := hF
  have hg : ∀ w ∈ GW, w.before a s = true := fun w h => hts w (List.mem_cons_of_mem _ h)
  have hA : ∀ q, s.heap.size ≤ q → va_A (wl E w0) s.heap.size q := fun q h => Or.inr h
  have hl : lv_has ls 2 [(0, .ref (ad E q)), (1, .int (iI sg))] := hl
  refine lv_aload_n hx hb d_N_becomeInfinite_0 rfl (lv_at hl 0 rfl) ?_
  refine lv_iload_n hx hb d_N_becomeInfinite_1 rfl (lv_at hl 1 rfl) ?_
  refine zv_if_ge (tgt := 11) hx hb d_N_becomeInfinite_2 rfl (by omega) (fun h1 => ?_) (fun h1 => ?_)
  · refine zv_kind hx hb hG hH hown 2 (by decide) (hg _ wm_250) (fun _ h9 => h9) d_N_becomeInfinite_11 ?_
    refine z_callv (va_runV (As := [.ref (zg E (1 + 2))]) (rest := []) ⟨hx, hb, hml, hown, hts⟩ (c_N_become (l := l) (E := E) (w0 := w0) (q := q) (kd := kd) (k2 := 2) (pl := pl) (ng := ng) (f := f) (q0lt := q0lt) (q1lt := q1lt) (q2lt := q2lt) (c0 := c0) (c1 := c1) (c2 := c2) (bf := bf) (hkd := by omega) (hng := by omega) s.heap.size) (z_cwV (C := "ScaledNumeralDesk$Numeral") 1 hg wm_230 wm_252 wm_2 wm_228 wm_229 (by decide +kernel) ⟨Nat.le_of_ble_eq_true rfl, Nat.le_of_ble_eq_true rfl⟩) (z_preV (r := ("ScaledNumeralDesk$Numeral", TN, 3)) hK hG hn hH hA q0lt c0 rfl) rfl rfl hl.1 rfl (lv_room (Nat.le_of_ble_eq_true rfl)) d_N_becomeInfinite_14 ⟨Nat.zero_le _, Nat.zero_le _⟩) hH hA (fun  w4 H2 lc3 hH5 p14 => ?_)
    obtain ⟨⟨f_6, e7, e8, e9, bd10, p14⟩, hg11⟩ := p14
    replace bd10 : bd f_6 15 0 9999 := bd10
    replace p14 : ∀ j : Int, 0 ≤ j → j < 15 → f_6 j = 0 := p14
    have hf12 : ∀ k, k ≠ q → k ≠ (q + 1) → k ≠ (q + 2) → w4 k = w0 k := fun k g0 g1 g2 => hg11 k g0 g1 g2
    rw [hQ]
    exact z_vret hx hb hr hlk hH5 (⟨⟨2, f_6, e7, e8, e9, bd10, ⟨p14, by omega⟩⟩, (fun k g0 g1 g2 => hf12 k g0 g1 g2)⟩) d_N_becomeInfinite_17
  · refine zv_kind hx hb hG hH hown 0 (by decide) (hg _ wm_248) (fun _ h9 => h9) d_N_becomeInfinite_5 ?_
    refine lv_goto (tgt := 14) hx hb d_N_becomeInfinite_8 rfl ?_
    refine z_callv (va_runV (As := [.ref (zg E (1 + 0))]) (rest := []) ⟨hx, hb, hml, hown, hts⟩ (c_N_become (l := l) (E := E) (w0 := w0) (q := q) (kd := kd) (k2 := 0) (pl := pl) (ng := ng) (f := f) (q0lt := q0lt) (q1lt := q1lt) (q2lt := q2lt) (c0 := c0) (c1 := c1) (c2 := c2) (bf := bf) (hkd := by omega) (hng := by omega) s.heap.size) (z_cwV (C := "ScaledNumeralDesk$Numeral") 1 hg wm_230 wm_252 wm_2 wm_228 wm_229 (by decide +kernel) ⟨Nat.le_of_ble_eq_true rfl, Nat.le_of_ble_eq_true rfl⟩) (z_preV (r := ("ScaledNumeralDesk$Numeral", TN, 3)) hK hG hn hH hA q0lt c0 rfl) rfl rfl hl.1 rfl (lv_room (Nat.le_of_ble_eq_true rfl)) d_N_becomeInfinite_14 ⟨Nat.zero_le _, Nat.zero_le _⟩) hH hA (fun  w15 H13 lc14 hH16 p14 => ?_)
    obtain ⟨⟨f_17, e18, e19, e20, bd21, p14⟩, hg22⟩ := p14
    replace bd21 : bd f_17 15 0 9999 := bd21
    replace p14 : ∀ j : Int, 0 ≤ j → j < 15 → f_17 j = 0 := p14
    have hf23 : ∀ k, k ≠ q → k ≠ (q + 1) → k ≠ (q + 2) → w15 k = w0 k := fun k g0 g1 g2 => hg22 k g0 g1 g2
    rw [hQ]
    exact z_vret hx hb hr hlk hH16 (⟨⟨0, f_17, e18, e19, e20, bd21, ⟨p14, by omega⟩⟩, (fun k g0 g1 g2 => hf23 k g0 g1 g2)⟩) d_N_becomeInfinite_17
def rm_N_becomeSmall : Room := { frames := 3, cells := 0, slots := 0, locals := 64 }
set_option maxHeartbeats 4000000 in
set_option maxRecDepth 100000 in
theorem c_N_becomeSmall (l : Launch) (E : zE) (w0 : zW) (q : Nat) (kd : Nat) (pl ng x : Int) (f : Int → Int) (q0lt : q < zn E) (q1lt : q + 1 < zn E) (q2lt : q + 2 < zn E) (c0 : w0 q = .inr (1, [.ref (zg E (1 + kd)), .int (iI pl), .ref (ad E (q + 1))])) (c1 : w0 (q + 1) = .inr (0, [.ref (ad E (q + 2)), .int (iI ng)])) (c2 : w0 (q + 2) = zar E 15 f) (bf : bd f 15 0 9999) (hkd : kd < 4) (hng : ng = 0 ∨ ng = 1) (hx0 : 0 ≤ x ∧ x ≤ 9999) : zM l y_N_becomeSmall ws_N_becomeSmall rm_N_becomeSmall E [.ref (ad E q), .int (iI x)] w0 (zQv E w0 (fun w' => (∃ (f' : Int → Int), w' q = .inr (1, [.ref (zg E (1 + 1)), .int (iI 0), .ref (ad E (q + 1))]) ∧ w' (q + 1) = .inr (0, [.ref (ad E (q + 2)), .int (iI 0)]) ∧ w' (q + 2) = zar E 15 f' ∧ bd f' 15 0 9999 ∧ (V f' 15 = x * Bp 6)) ∧ ∀ k, k ≠ q → k ≠ (q + 1) → k ≠ (q + 2) → w' k = w0 k)) := by
  refine z_met (cc := b_N_becomeSmall) (maxL := 2) (ret := none) (by decide +kernel) rfl (Nat.le_of_ble_eq_true rfl) ?_
  intro p e s m below meth cd ls a Qf hQ hC hl hH
  obtain ⟨hF, hr, hlk, hK, hG, hn⟩ := hC
  obtain ⟨hx, hb, hml, hown, hts⟩ := hF
  have hg : ∀ w ∈ GW, w.before a s = true := fun w h => hts w (List.mem_cons_of_mem _ h)
  have hA : ∀ q, s.heap.size ≤ q → va_A (wl E w0) s.heap.size q := fun q h => Or.inr h
  have hl : lv_has ls 2 [(0, .ref (ad E q)), (1, .int (iI x))] := hl
  refine lv_aload_n hx hb d_N_becomeSmall_0 rfl (lv_at hl 0 rfl) ?_
  refine zv_kind hx hb hG hH hown 1 (by decide) (hg _ wm_34) (fun _ h9 => h9) d_N_becomeSmall_1 ?_
  refine z_callv (va_runV (As := [.ref (zg E (1 + 1))]) (rest := []) ⟨hx, hb, hml, hown, hts⟩ (c_N_become (l := l) (E := E) (w0 := w0) (q := q) (kd := kd) (k2 := 1) (pl := pl) (ng := ng) (f := f) (q0lt := q0lt) (q1lt := q1lt) (q2lt := q2lt) (c0 := c0) (c1 := c1) (c2 := c2) (bf := bf) (hkd := by omega) (hng := by omega) s.heap.size) (z_cwV (C := "ScaledNumeralDesk$Numeral") 1 hg wm_230 wm_252 wm_2 wm_228 wm_229 (by decide +kernel) ⟨Nat.le_of_ble_eq_true rfl, Nat.le_of_ble_eq_true rfl⟩) (z_preV (r := ("ScaledNumeralDesk$Numeral", TN, 3)) hK hG hn hH hA q0lt c0 rfl) rfl rfl hl.1 rfl (lv_room (Nat.le_of_ble_eq_true rfl)) d_N_becomeSmall_4 ⟨Nat.zero_le _, Nat.zero_le _⟩) hH hA (fun  w3 H1 lc2 hH4 p4 => ?_)
  obtain ⟨⟨f1, e5, e6, e7, bd8, p4⟩, hg9⟩ := p4
  replace bd8 : bd f1 15 0 9999 := bd8
  replace p4 : ∀ j : Int, 0 ≤ j → j < 15 → f1 j = 0 := p4
  have hf10 : ∀ k, k ≠ q → k ≠ (q + 1) → k ≠ (q + 2) → w3 k = w0 k := fun k g0 g1 g2 => hg9 k g0 g1 g2
  refine lv_aload_n hx hb d_N_becomeSmall_7 rfl (lv_at hl 0 rfl) ?_
  refine zv_get (C := "ScaledNumeralDesk$Numeral") (T := TN) (N := 3) hx hb hg uN_in hown hK hH4 q0lt e5 rfl 2 (by decide) (hg _ wm_64) (fun _ h9 => h9) rfl d_N_becomeSmall_8 ?_
  refine zv_get (C := "ScaledNumeralDesk$Amount") (T := TA) (N := 2) hx hb hg uA_in hown hK hH4 q1lt e6 rfl 0 (by decide) (hg _ wm_45) (fun _ h9 => h9) rfl d_N_becomeSmall_11 ?_
  refine zv_bipush hx hb d_N_becomeSmall_14 rfl ?_
  refine lv_iload_n hx hb d_N_becomeSmall_16 rfl (lv_at hl 1 rfl) ?_
  refine zv_iast hx hb hK hH4 q2lt e7 (by omega) (by omega) (by omega) d_N_becomeSmall_17 (fun H12 lc13 w11 hH14 e15 hg16 => ?_)
  have bd17 := bd_up bd8 6 x (by omega)
  have e18 : w11 q = .inr (1, [.ref (zg E (1 + 1)), .int (iI 0), .ref (ad E (q + 1))]) := (hg16 q (by omega)).trans e5
  have e19 : w11 (q + 1) = .inr (0, [.ref (ad E (q + 2)), .int (iI 0)]) := (hg16 (q + 1) (by omega)).trans e6
  have hf20 : ∀ k, k ≠ q → k ≠ (q + 1) → k ≠ (q + 2) → w11 k = w0 k := fun k g0 g1 g2 => (hg16 k g2).trans (hf10 k g0 g1 g2)
  rw [hQ]
  exact z_vret hx hb hr hlk hH14 (⟨⟨(up f1 6 x), e18, e19, e15, bd17, by rw [V_set f1 (by decide) (by decide), V0_of p4, p4 6 (by decide) (by decide)]; omega⟩, (fun k g0 g1 g2 => hf20 k g0 g1 g2)⟩) d_N_becomeSmall_18
def rm_N_sign : Room := { frames := 3, cells := 0, slots := 0, locals := 61 }
set_option maxHeartbeats 4000000 in
set_option maxRecDepth 100000 in
theorem c_N_sign (l : Launch) (E : zE) (w0 : zW) (q : Nat) (kd : Nat) (pl ng : Int) (f : Int → Int) (q0lt : q < zn E) (q1lt : q + 1 < zn E) (q2lt : q + 2 < zn E) (c0 : w0 q = .inr (1, [.ref (zg E (1 + kd)), .int (iI pl), .ref (ad E (q + 1))])) (c1 : w0 (q + 1) = .inr (0, [.ref (ad E (q + 2)), .int (iI ng)])) (c2 : w0 (q + 2) = zar E 15 f) (bf : bd f 15 0 9999) (hkd : kd < 4) (hng : ng = 0 ∨ ng = 1) : zM l y_N_sign ws_N_sign rm_N_sign E [.ref (ad E q)] w0 (zQi E w0 (fun z w' => w' = w0 ∧ ((kd = 1 ∧ ((z = 0 ∧ V f 15 = 0) ∨ (z = -1 ∧ 0 < V f 15 ∧ ng = 1) ∨ (z = 1 ∧ 0 < V f 15 ∧ ng = 0))) ∨ (kd = 0 ∧ z = -1) ∨ ((kd = 2 ∨ kd = 3) ∧ z = 1)))) := by
  refine z_met (cc := b_N_sign) (maxL := 1) (ret := (some .int)) (by decide +kernel) rfl (Nat.le_of_ble_eq_true rfl) ?_
  intro p e s m below meth cd ls a Qf hQ hC hl hH
  obtain ⟨hF, hr, hlk, hK, hG, hn⟩ := hC
  obtain ⟨hx, hb, hml, hown, hts⟩ := hF
  have hg : ∀ w ∈ GW, w.before a s = true := fun w h => hts w (List.mem_cons_of_mem _ h)
  have hA : ∀ q, s.heap.size ≤ q → va_A (wl E w0) s.heap.size q := fun q h => Or.inr h
  have hl : lv_has ls 1 [(0, .ref (ad E q))] := hl
  refine lv_aload_n hx hb d_N_sign_0 rfl (lv_at hl 0 rfl) ?_
  refine z_calli (va_runV (As := []) (rest := []) ⟨hx, hb, hml, hown, hts⟩ (c_N_isFinite (l := l) (E := E) (w0 := w0) (q := q) (kd := kd) (pl := pl) (ng := ng) (f := f) (q0lt := q0lt) (q1lt := q1lt) (q2lt := q2lt) (c0 := c0) (c1 := c1) (c2 := c2) (bf := bf) (hkd := by omega) (hng := by omega) s.heap.size) (z_cwV (C := "ScaledNumeralDesk$Numeral") 0 hg wm_344 wm_341 wm_2 wm_342 wm_343 (by decide +kernel) ⟨Nat.le_of_ble_eq_true rfl, Nat.le_of_ble_eq_true rfl⟩) (z_preV (r := ("ScaledNumeralDesk$Numeral", TN, 3)) hK hG hn hH hA q0lt c0 rfl) rfl rfl hl.1 rfl (lv_room (Nat.le_of_ble_eq_true rfl)) d_N_sign_1 ⟨Nat.zero_le _, Nat.zero_le _⟩) hH hA (fun z6 w3 H1 lc2 hH4 hp5 => ?_)
  obtain ⟨ew7, hp5⟩ := hp5
  rw [ew7] at hH4
  replace hp5 : (z6 = 1 ∧ kd = 1) ∨ (z6 = 0 ∧ kd ≠ 1) := hp5
  refine zv_if_eq (tgt := 15) hx hb d_N_sign_4 rfl (by omega) (fun h8 => ?_) (fun h8 => ?_)
  · refine lv_aload_n hx hb d_N_sign_15 rfl (lv_at hl 0 rfl) ?_
    refine zv_get (C := "ScaledNumeralDesk$Numeral") (T := TN) (N := 3) hx hb hg uN_in hown hK hH4 q0lt c0 rfl 0 (by decide) (hg _ wm_55) (fun _ h9 => h9) rfl d_N_sign_16 ?_
    refine zv_kind hx hb hG hH4 hown 0 (by decide) (hg _ wm_248) (fun _ h9 => h9) d_N_sign_19 ?_
    refine zv_acmp_ne (a := kd) (b := 0) (tgt := 29) hx hb hG (by omega) (by omega) d_N_sign_22 rfl (fun h9 => ?_) (fun h9 => ?_)
    · refine zv_iconst hx hb d_N_sign_29 ?_
      rw [hQ]
      exact z_iret hx hb hr hlk hH4 (⟨rfl, by omega⟩) d_N_sign_30
    · refine zv_iconst hx hb d_N_sign_25 ?_
      refine lv_goto (tgt := 30) hx hb d_N_sign_26 rfl ?_
      rw [hQ]
      exact z_iret hx hb hr hlk hH4 (⟨rfl, by omega⟩) d_N_sign_30
  · refine lv_aload_n hx hb d_N_sign_7 rfl (lv_at hl 0 rfl) ?_
    refine zv_get (C := "ScaledNumeralDesk$Numeral") (T := TN) (N := 3) hx hb hg uN_in hown hK hH4 q0lt c0 rfl 2 (by decide) (hg _ wm_64) (fun _ h9 => h9) rfl d_N_sign_8 ?_
    refine z_calli (va_runV (As := []) (rest := []) ⟨hx, hb, hml, hown, hts⟩ (c_A_sign (l := l) (E := E) (w0 := w0) (q := q + 1) (f := f) (ng := ng) (q0lt := q1lt) (q1lt := q2lt) (c0 := c1) (c1 := c2) (bf := bf) (hng := by omega) H1.size) (z_cwV (C := "ScaledNumeralDesk$Amount") 0 hg wm_416 wm_413 wm_5 wm_414 wm_415 (by decide +kernel) ⟨Nat.le_of_ble_eq_true rfl, Nat.le_of_ble_eq_true rfl⟩) (z_preV (r := ("ScaledNumeralDesk$Amount", TA, 2)) hK hG hn hH4 hA q1lt c1 rfl) rfl rfl hl.1 rfl (lv_room (Nat.le_of_ble_eq_true rfl)) d_N_sign_11 ⟨Nat.zero_le _, Nat.zero_le _⟩) hH4 hA (fun z15 w12 H10 lc11 hH13 hp14 => ?_)
    obtain ⟨ew16, hp14⟩ := hp14
    rw [ew16] at hH13
    replace hp14 : (z15 = 0 ∧ V f 15 = 0) ∨ (z15 = -1 ∧ 0 < V f 15 ∧ ng = 1) ∨ (z15 = 1 ∧ 0 < V f 15 ∧ ng = 0) := hp14
    rw [hQ]
    exact z_iret hx hb hr hlk hH13 (⟨rfl, by omega⟩) d_N_sign_14
def rm_N_isZero : Room := { frames := 2, cells := 0, slots := 0, locals := 41 }
set_option maxHeartbeats 4000000 in
set_option maxRecDepth 100000 in
theorem c_N_isZero (l : Launch) (E : zE) (w0 : zW) (q : Nat) (kd : Nat) (pl ng : Int) (f : Int → Int) (q0lt : q < zn E) (q1lt : q + 1 < zn E) (q2lt : q + 2 < zn E) (c0 : w0 q = .inr (1, [.ref (zg E (1 + kd)), .int (iI pl), .ref (ad E (q + 1))])) (c1 : w0 (q + 1) = .inr (0, [.ref (ad E (q + 2)), .int (iI ng)])) (c2 : w0 (q + 2) = zar E 15 f) (bf : bd f 15 0 9999) (hkd : kd < 4) (hng : ng = 0 ∨ ng = 1) : zM l y_N_isZero ws_N_isZero rm_N_isZero E [.ref (ad E q)] w0 (zQi E w0 (fun z w' => w' = w0 ∧ ((z = 1 ∧ kd = 1 ∧ V f 15 = 0) ∨ (z = 0 ∧ (kd ≠ 1 ∨ 0 < V f 15))))) := by
  refine z_met (cc := b_N_isZero) (maxL := 1) (ret := (some .boolean)) (by decide +kernel) rfl (Nat.le_of_ble_eq_true rfl) ?_
  intro p e s m below meth cd ls a Qf hQ hC hl hH
  obtain ⟨hF, hr, hlk, hK, hG, hn⟩ := hC
  obtain ⟨hx, hb, hml, hown, hts⟩ := hF
  have hg : ∀ w ∈ GW, w.before a s = true := fun w h => hts w (List.mem_cons_of_mem _ h)
  have hA : ∀ q, s.heap.size ≤ q → va_A (wl E w0) s.heap.size q := fun q h => Or.inr h
  have hl : lv_has ls 1 [(0, .ref (ad E q))] := hl
  refine lv_aload_n hx hb d_N_isZero_0 rfl (lv_at hl 0 rfl) ?_
  refine z_calli (va_runV (As := []) (rest := []) ⟨hx, hb, hml, hown, hts⟩ (c_N_isFinite (l := l) (E := E) (w0 := w0) (q := q) (kd := kd) (pl := pl) (ng := ng) (f := f) (q0lt := q0lt) (q1lt := q1lt) (q2lt := q2lt) (c0 := c0) (c1 := c1) (c2 := c2) (bf := bf) (hkd := by omega) (hng := by omega) s.heap.size) (z_cwV (C := "ScaledNumeralDesk$Numeral") 0 hg wm_344 wm_341 wm_2 wm_342 wm_343 (by decide +kernel) ⟨Nat.le_of_ble_eq_true rfl, Nat.le_of_ble_eq_true rfl⟩) (z_preV (r := ("ScaledNumeralDesk$Numeral", TN, 3)) hK hG hn hH hA q0lt c0 rfl) rfl rfl hl.1 rfl (lv_room (Nat.le_of_ble_eq_true rfl)) d_N_isZero_1 ⟨Nat.zero_le _, Nat.zero_le _⟩) hH hA (fun z6 w3 H1 lc2 hH4 hp5 => ?_)
  obtain ⟨ew7, hp5⟩ := hp5
  rw [ew7] at hH4
  replace hp5 : (z6 = 1 ∧ kd = 1) ∨ (z6 = 0 ∧ kd ≠ 1) := hp5
  refine zv_if_eq (tgt := 21) hx hb d_N_isZero_4 rfl (by omega) (fun h8 => ?_) (fun h8 => ?_)
  · refine zv_iconst hx hb d_N_isZero_21 ?_
    rw [hQ]
    exact z_zret hx hb hr hlk hH4 (⟨rfl, by omega⟩) (by exact nar_z (by omega)) d_N_isZero_22
  · refine lv_aload_n hx hb d_N_isZero_7 rfl (lv_at hl 0 rfl) ?_
    refine zv_get (C := "ScaledNumeralDesk$Numeral") (T := TN) (N := 3) hx hb hg uN_in hown hK hH4 q0lt c0 rfl 2 (by decide) (hg _ wm_64) (fun _ h9 => h9) rfl d_N_isZero_8 ?_
    refine z_calli (va_runV (As := []) (rest := []) ⟨hx, hb, hml, hown, hts⟩ (c_A_isZero (l := l) (E := E) (w0 := w0) (q := q + 1) (f := f) (ng := ng) (q0lt := q1lt) (q1lt := q2lt) (c0 := c1) (c1 := c2) (bf := bf) H1.size) (z_cwV (C := "ScaledNumeralDesk$Amount") 0 hg wm_297 wm_453 wm_5 wm_295 wm_296 (by decide +kernel) ⟨Nat.le_of_ble_eq_true rfl, Nat.le_of_ble_eq_true rfl⟩) (z_preV (r := ("ScaledNumeralDesk$Amount", TA, 2)) hK hG hn hH4 hA q1lt c1 rfl) rfl rfl hl.1 rfl (lv_room (Nat.le_of_ble_eq_true rfl)) d_N_isZero_11 ⟨Nat.zero_le _, Nat.zero_le _⟩) hH4 hA (fun z14 w11 H9 lc10 hH12 hp13 => ?_)
    obtain ⟨ew15, hp13⟩ := hp13
    rw [ew15] at hH12
    replace hp13 : (z14 = 1 ∧ V f 15 = 0) ∨ (z14 = 0 ∧ 0 < V f 15) := hp13
    refine zv_if_eq (tgt := 21) hx hb d_N_isZero_14 rfl (by omega) (fun h16 => ?_) (fun h16 => ?_)
    · refine zv_iconst hx hb d_N_isZero_21 ?_
      rw [hQ]
      exact z_zret hx hb hr hlk hH12 (⟨rfl, by omega⟩) (by exact nar_z (by omega)) d_N_isZero_22
    · refine zv_iconst hx hb d_N_isZero_17 ?_
      refine lv_goto (tgt := 22) hx hb d_N_isZero_18 rfl ?_
      rw [hQ]
      exact z_zret hx hb hr hlk hH12 (⟨rfl, by omega⟩) (by exact nar_z (by omega)) d_N_isZero_22
def rm_N_isTooLarge : Room := { frames := 3, cells := 0, slots := 0, locals := 65 }
set_option maxHeartbeats 4000000 in
set_option maxRecDepth 100000 in
theorem c_N_isTooLarge (l : Launch) (E : zE) (w0 : zW) (q : Nat) (kd : Nat) (pl ng : Int) (f : Int → Int) (q0lt : q < zn E) (q1lt : q + 1 < zn E) (q2lt : q + 2 < zn E) (c0 : w0 q = .inr (1, [.ref (zg E (1 + kd)), .int (iI pl), .ref (ad E (q + 1))])) (c1 : w0 (q + 1) = .inr (0, [.ref (ad E (q + 2)), .int (iI ng)])) (c2 : w0 (q + 2) = zar E 15 f) (bf : bd f 15 0 9999) (hkd : kd < 4) (hng : ng = 0 ∨ ng = 1) : zM l y_N_isTooLarge ws_N_isTooLarge rm_N_isTooLarge E [.ref (ad E q)] w0 (zQi E w0 (fun z w' => w' = w0 ∧ ((z = 1 ∧ Tp 56 ≤ V f 15) ∨ (z = 0 ∧ V f 15 < Tp 56)))) := by
  refine z_met (cc := b_N_isTooLarge) (maxL := 1) (ret := (some .boolean)) (by decide +kernel) rfl (Nat.le_of_ble_eq_true rfl) ?_
  intro p e s m below meth cd ls a Qf hQ hC hl hH
  obtain ⟨hF, hr, hlk, hK, hG, hn⟩ := hC
  obtain ⟨hx, hb, hml, hown, hts⟩ := hF
  have hg : ∀ w ∈ GW, w.before a s = true := fun w h => hts w (List.mem_cons_of_mem _ h)
  have hA : ∀ q, s.heap.size ≤ q → va_A (wl E w0) s.heap.size q := fun q h => Or.inr h
  have hl : lv_has ls 1 [(0, .ref (ad E q))] := hl
  refine lv_aload_n hx hb d_N_isTooLarge_0 rfl (lv_at hl 0 rfl) ?_
  refine zv_get (C := "ScaledNumeralDesk$Numeral") (T := TN) (N := 3) hx hb hg uN_in hown hK hH q0lt c0 rfl 2 (by decide) (hg _ wm_64) (fun _ h9 => h9) rfl d_N_isTooLarge_1 ?_
  refine zv_bipush hx hb d_N_isTooLarge_4 rfl ?_
  refine z_calli (va_runV (As := [.int (iI 32)]) (rest := []) ⟨hx, hb, hml, hown, hts⟩ (c_A_reaches (l := l) (E := E) (w0 := w0) (q := q + 1) (f := f) (ng := ng) (x := 32) (q0lt := q1lt) (q1lt := q2lt) (c0 := c1) (c1 := c2) (bf := bf) (hx0 := by omega) s.heap.size) (z_cwV (C := "ScaledNumeralDesk$Amount") 1 hg wm_308 wm_305 wm_5 wm_306 wm_307 (by decide +kernel) ⟨Nat.le_of_ble_eq_true rfl, Nat.le_of_ble_eq_true rfl⟩) (z_preV (r := ("ScaledNumeralDesk$Amount", TA, 2)) hK hG hn hH hA q1lt c1 rfl) rfl rfl hl.1 rfl (lv_room (Nat.le_of_ble_eq_true rfl)) d_N_isTooLarge_6 ⟨Nat.zero_le _, Nat.zero_le _⟩) hH hA (fun z5 w3 H1 lc2 hH4 p6 => ?_)
  obtain ⟨ew6, p6⟩ := p6
  rw [ew6] at hH4
  replace p6 : (z5 = 1 ∧ Tp (24 + (32 : Int)) ≤ V f 15) ∨ (z5 = 0 ∧ V f 15 < Tp (24 + (32 : Int))) := p6
  rw [show (24 : Int) + 32 = 56 by decide] at p6
  rw [hQ]
  exact z_zret hx hb hr hlk hH4 (⟨rfl, p6⟩) (by exact nar_z (by omega)) d_N_isTooLarge_9
def rm_N_keep : Room := { frames := 3, cells := 0, slots := 0, locals := 62 }
set_option maxHeartbeats 4000000 in
set_option maxRecDepth 100000 in
theorem c_N_keep (l : Launch) (E : zE) (w0 : zW) (q : Nat) (kd : Nat) (pl ng x : Int) (f : Int → Int) (q0lt : q < zn E) (q1lt : q + 1 < zn E) (q2lt : q + 2 < zn E) (c0 : w0 q = .inr (1, [.ref (zg E (1 + kd)), .int (iI pl), .ref (ad E (q + 1))])) (c1 : w0 (q + 1) = .inr (0, [.ref (ad E (q + 2)), .int (iI ng)])) (c2 : w0 (q + 2) = zar E 15 f) (bf : bd f 15 0 9999) (hkd : kd < 4) (hng : ng = 0 ∨ ng = 1) (hx0 : zr x) : zM l y_N_keepSignAndPlaces ws_N_keepSignAndPlaces rm_N_keep E [.ref (ad E q), .int (iI x)] w0 (zQv E w0 (fun w' => (∃ (p' : Int) (n' : Int), w' q = .inr (1, [.ref (zg E (1 + kd)), .int (iI p'), .ref (ad E (q + 1))]) ∧ w' (q + 1) = .inr (0, [.ref (ad E (q + 2)), .int (iI n')]) ∧ ((n' = 0 ∨ n' = 1) ∧ (V f 15 = 0 → n' = 0) ∧ (0 < V f 15 → n' = ng) ∧ p' = mx0 x)) ∧ ∀ k, k ≠ q → k ≠ (q + 1) → w' k = w0 k)) := by
  refine z_met (cc := b_N_keepSignAndPlaces) (maxL := 2) (ret := none) (by decide +kernel) rfl (Nat.le_of_ble_eq_true rfl) ?_
  intro p e s m below meth cd ls a Qf hQ hC hl hH
  obtain ⟨hF, hr, hlk, hK, hG, hn⟩ := hC
  obtain ⟨hx, hb, hml, hown, hts⟩ := hF
  have hg : ∀ w ∈ GW, w.before a s = true := fun w h => hts w (List.mem_cons_of_mem _ h)
  have hA : ∀ q, s.heap.size ≤ q → va_A (wl E w0) s.heap.size q := fun q h => Or.inr h
  have hl : lv_has ls 2 [(0, .ref (ad E q)), (1, .int (iI x))] := hl
  refine lv_aload_n hx hb d_N_keepSignAndPlaces_0 rfl (lv_at hl 0 rfl) ?_
  refine zv_get (C := "ScaledNumeralDesk$Numeral") (T := TN) (N := 3) hx hb hg uN_in hown hK hH q0lt c0 rfl 2 (by decide) (hg _ wm_64) (fun _ h9 => h9) rfl d_N_keepSignAndPlaces_1 ?_
  refine lv_aload_n hx hb d_N_keepSignAndPlaces_4 rfl (lv_at hl 0 rfl) ?_
  refine zv_get (C := "ScaledNumeralDesk$Numeral") (T := TN) (N := 3) hx hb hg uN_in hown hK hH q0lt c0 rfl 2 (by decide) (hg _ wm_64) (fun _ h9 => h9) rfl d_N_keepSignAndPlaces_5 ?_
  refine zv_get (C := "ScaledNumeralDesk$Amount") (T := TA) (N := 2) hx hb hg uA_in hown hK hH q1lt c1 rfl 1 (by decide) (hg _ wm_48) (fun _ h9 => h9) rfl d_N_keepSignAndPlaces_8 ?_
  refine z_callv (va_runV (As := [.int (iI ng)]) (rest := []) ⟨hx, hb, hml, hown, hts⟩ (c_A_signAs (l := l) (E := E) (w0 := w0) (q := q + 1) (f := f) (ng := ng) (mn := ng) (q0lt := q1lt) (q1lt := q2lt) (c0 := c1) (c1 := c2) (bf := bf) (hmn := by omega) s.heap.size) (z_cwV (C := "ScaledNumeralDesk$Amount") 1 hg wm_293 wm_532 wm_5 wm_291 wm_292 (by decide +kernel) ⟨Nat.le_of_ble_eq_true rfl, Nat.le_of_ble_eq_true rfl⟩) (z_preV (r := ("ScaledNumeralDesk$Amount", TA, 2)) hK hG hn hH hA q1lt c1 rfl) rfl rfl hl.1 rfl (lv_room (Nat.le_of_ble_eq_true rfl)) d_N_keepSignAndPlaces_11 ⟨Nat.zero_le _, Nat.zero_le _⟩) hH hA (fun  w3 H1 lc2 hH4 p11 => ?_)
  obtain ⟨⟨n_5, e6, p11⟩, hg7⟩ := p11
  replace p11 : (n_5 = 0 ∨ n_5 = 1) ∧ (V f 15 = 0 → n_5 = 0) ∧ (0 < V f 15 → n_5 = ng) := p11
  have e8 : w3 q = .inr (1, [.ref (zg E (1 + kd)), .int (iI pl), .ref (ad E (q + 1))]) := (hg7 q (by omega)).trans c0
  have e9 : w3 (q + 2) = zar E 15 f := (hg7 (q + 2) (by omega)).trans c2
  have hf10 : ∀ k, k ≠ (q + 1) → w3 k = w0 k := fun k g0 => hg7 k g0
  refine lv_aload_n hx hb d_N_keepSignAndPlaces_14 rfl (lv_at hl 0 rfl) ?_
  refine lv_iload_n hx hb d_N_keepSignAndPlaces_15 rfl (lv_at hl 1 rfl) ?_
  refine zv_iconst hx hb d_N_keepSignAndPlaces_16 ?_
  refine z_calli (va_runS (As := [.int (iI x), .int (iI 0)]) (rest := [.ref (ad E q)]) ⟨hx, hb, hml, hown, hts⟩ (c_max (l := l) (E := E) (w0 := w3) (x := x) (y := 0) (zx := by omega) (zy := by omega) H1.size) (z_cwS 2 hg wm_275 wm_351 wm_15 wm_274 (by decide +kernel) ⟨Nat.le_of_ble_eq_true rfl, Nat.le_of_ble_eq_true rfl⟩) (z_preS hK hG hn hH4 hA) rfl rfl hl.1 rfl (lv_room (Nat.le_of_ble_eq_true rfl)) d_N_keepSignAndPlaces_17 ⟨Nat.zero_le _, Nat.zero_le _⟩) hH4 hA (fun z15 w13 H11 lc12 hH14 p17 => ?_)
  obtain ⟨ew16, p17⟩ := p17
  rw [ew16] at hH14
  replace p17 : z15 = max x (0 : Int) := p17
  refine zv_put (C := "ScaledNumeralDesk$Numeral") (T := TN) (N := 3) (fs' := [.ref (zg E (1 + kd)), .int (iI z15), .ref (ad E (q + 1))]) hx hb hg uN_in tyN tyN_ok nmN hown hK hH14 q0lt e8 rfl 1 (by decide) (hg _ wm_59) (fun _ h9 => h9) rfl (ty := tyN 1) (by decide +kernel) (rfl) (by rfl) (Nat.le_of_ble_eq_true rfl) d_N_keepSignAndPlaces_20 rfl (fun H18 lc19 w17 hH20 e21 hg22 => ?_)
  have e23 : w17 (q + 1) = .inr (0, [.ref (ad E (q + 2)), .int (iI n_5)]) := (hg22 (q + 1) (by omega)).trans e6
  have e24 : w17 (q + 2) = zar E 15 f := (hg22 (q + 2) (by omega)).trans e9
  have hf25 : ∀ k, k ≠ (q + 1) → k ≠ q → w17 k = w0 k := fun k g0 g1 => (hg22 k g1).trans (hf10 k g0)
  rw [hQ]
  exact z_vret hx hb hr hlk hH20 (⟨⟨z15, n_5, e21, e23, ⟨p11.1, p11.2.1, p11.2.2, p17⟩⟩, (fun k g0 g1 => hf25 k g1 g0)⟩) d_N_keepSignAndPlaces_23
def rm_N_roundAt : Room := { frames := 4, cells := 0, slots := 0, locals := 83 }
set_option maxHeartbeats 4000000 in
set_option maxRecDepth 100000 in
theorem c_N_roundAt (l : Launch) (E : zE) (w0 : zW) (q : Nat) (kd : Nat) (pl ng x : Int) (f : Int → Int) (q0lt : q < zn E) (q1lt : q + 1 < zn E) (q2lt : q + 2 < zn E) (c0 : w0 q = .inr (1, [.ref (zg E (1 + kd)), .int (iI pl), .ref (ad E (q + 1))])) (c1 : w0 (q + 1) = .inr (0, [.ref (ad E (q + 2)), .int (iI ng)])) (c2 : w0 (q + 2) = zar E 15 f) (bf : bd f 15 0 9999) (hkd : kd < 4) (hng : ng = 0 ∨ ng = 1) (hx0 : -32 ≤ x ∧ x ≤ 24) : zM l y_N_roundAt ws_N_roundAt rm_N_roundAt E [.ref (ad E q), .int (iI x)] w0 (zQv E w0 (fun w' => (∃ (p' : Int) (n' : Int) (f' : Int → Int), w' q = .inr (1, [.ref (zg E (1 + kd)), .int (iI p'), .ref (ad E (q + 1))]) ∧ w' (q + 1) = .inr (0, [.ref (ad E (q + 2)), .int (iI n')]) ∧ w' (q + 2) = zar E 15 f' ∧ bd f' 15 0 9999 ∧ (V f' 15 = Rn (V f 15) (24 - x) % Bp 15 ∧ (n' = 0 ∨ n' = 1) ∧ (V f' 15 = 0 → n' = 0) ∧ (0 < V f' 15 → n' = ng) ∧ p' = mx0 x)) ∧ ∀ k, k ≠ q → k ≠ (q + 1) → k ≠ (q + 2) → w' k = w0 k)) := by
  refine z_met (cc := b_N_roundAt) (maxL := 2) (ret := none) (by decide +kernel) rfl (Nat.le_of_ble_eq_true rfl) ?_
  intro p e s m below meth cd ls a Qf hQ hC hl hH
  obtain ⟨hF, hr, hlk, hK, hG, hn⟩ := hC
  obtain ⟨hx, hb, hml, hown, hts⟩ := hF
  have hg : ∀ w ∈ GW, w.before a s = true := fun w h => hts w (List.mem_cons_of_mem _ h)
  have hA : ∀ q, s.heap.size ≤ q → va_A (wl E w0) s.heap.size q := fun q h => Or.inr h
  have hl : lv_has ls 2 [(0, .ref (ad E q)), (1, .int (iI x))] := hl
  refine lv_aload_n hx hb d_N_roundAt_0 rfl (lv_at hl 0 rfl) ?_
  refine zv_get (C := "ScaledNumeralDesk$Numeral") (T := TN) (N := 3) hx hb hg uN_in hown hK hH q0lt c0 rfl 2 (by decide) (hg _ wm_64) (fun _ h9 => h9) rfl d_N_roundAt_1 ?_
  refine zv_get (C := "ScaledNumeralDesk$Amount") (T := TA) (N := 2) hx hb hg uA_in hown hK hH q1lt c1 rfl 0 (by decide) (hg _ wm_45) (fun _ h9 => h9) rfl d_N_roundAt_4 ?_
  refine zv_bipush hx hb d_N_roundAt_7 rfl ?_
  refine lv_iload_n hx hb d_N_roundAt_9 rfl (lv_at hl 1 rfl) ?_
  refine zv_isub hx hb d_N_roundAt_10 ?_
  refine z_callv (va_runS (As := [.ref (ad E (q + 2)), .int (iI (24 - x))]) (rest := []) ⟨hx, hb, hml, hown, hts⟩ (c_roundOff (l := l) (E := E) (w0 := w0) (q := q + 2) (N := 15) (f := f) (x := 24 - x) (q0lt := q2lt) (c0 := c2) (hN := by omega) (bf := bf) (hp := by omega) s.heap.size) (z_cwS 2 hg wm_435 wm_527 wm_16 wm_434 (by decide +kernel) ⟨Nat.le_of_ble_eq_true rfl, Nat.le_of_ble_eq_true rfl⟩) (z_preS hK hG hn hH hA) rfl rfl hl.1 rfl (lv_room (Nat.le_of_ble_eq_true rfl)) d_N_roundAt_11 ⟨Nat.zero_le _, Nat.zero_le _⟩) hH hA (fun  w3 H1 lc2 hH4 p11 => ?_)
  obtain ⟨⟨f_5, e6, bd7, p11⟩, hg8⟩ := p11
  replace bd7 : bd f_5 15 0 9999 := bd7
  replace p11 : V f_5 15 = Rn (V f 15) (24 - x) % Bp 15 := p11
  have e9 : w3 q = .inr (1, [.ref (zg E (1 + kd)), .int (iI pl), .ref (ad E (q + 1))]) := (hg8 q (by omega)).trans c0
  have e10 : w3 (q + 1) = .inr (0, [.ref (ad E (q + 2)), .int (iI ng)]) := (hg8 (q + 1) (by omega)).trans c1
  have hf11 : ∀ k, k ≠ (q + 2) → w3 k = w0 k := fun k g0 => hg8 k g0
  refine lv_aload_n hx hb d_N_roundAt_14 rfl (lv_at hl 0 rfl) ?_
  refine lv_iload_n hx hb d_N_roundAt_15 rfl (lv_at hl 1 rfl) ?_
  refine z_callv (va_runV (As := [.int (iI x)]) (rest := []) ⟨hx, hb, hml, hown, hts⟩ (c_N_keep (l := l) (E := E) (w0 := w3) (q := q) (kd := kd) (pl := pl) (ng := ng) (x := x) (f := f_5) (q0lt := q0lt) (q1lt := q1lt) (q2lt := q2lt) (c0 := e9) (c1 := e10) (c2 := e6) (bf := bd7) (hkd := by omega) (hng := by omega) (hx0 := by omega) H1.size) (z_cwV (C := "ScaledNumeralDesk$Numeral") 1 hg wm_531 wm_528 wm_2 wm_530 wm_s22 (by decide +kernel) ⟨Nat.le_of_ble_eq_true rfl, Nat.le_of_ble_eq_true rfl⟩) (z_preV (r := ("ScaledNumeralDesk$Numeral", TN, 3)) hK hG hn hH4 hA q0lt e9 rfl) rfl rfl hl.1 rfl (lv_room (Nat.le_of_ble_eq_true rfl)) d_N_roundAt_16 ⟨Nat.zero_le _, Nat.zero_le _⟩) hH4 hA (fun  w14 H12 lc13 hH15 p16 => ?_)
  obtain ⟨⟨p_16, n_17, e18, e19, p16⟩, hg20⟩ := p16
  replace p16 : (n_17 = 0 ∨ n_17 = 1) ∧ (V f_5 15 = 0 → n_17 = 0) ∧ (0 < V f_5 15 → n_17 = ng) ∧ p_16 = mx0 x := p16
  have e21 : w14 (q + 2) = zar E 15 f_5 := (hg20 (q + 2) (by omega) (by omega)).trans e6
  have hf22 : ∀ k, k ≠ (q + 2) → k ≠ q → k ≠ (q + 1) → w14 k = w0 k := fun k g0 g1 g2 => (hg20 k g1 g2).trans (hf11 k g0)
  rw [hQ]
  exact z_vret hx hb hr hlk hH15 (⟨⟨p_16, n_17, f_5, e18, e19, e21, bd7, ⟨p11, p16⟩⟩, (fun k g0 g1 g2 => hf22 k g2 g0 g1)⟩) d_N_roundAt_19
def rm_N_truncateAt : Room := { frames := 4, cells := 0, slots := 0, locals := 83 }
set_option maxHeartbeats 4000000 in
set_option maxRecDepth 100000 in
theorem c_N_truncateAt (l : Launch) (E : zE) (w0 : zW) (q : Nat) (kd : Nat) (pl ng x : Int) (f : Int → Int) (q0lt : q < zn E) (q1lt : q + 1 < zn E) (q2lt : q + 2 < zn E) (c0 : w0 q = .inr (1, [.ref (zg E (1 + kd)), .int (iI pl), .ref (ad E (q + 1))])) (c1 : w0 (q + 1) = .inr (0, [.ref (ad E (q + 2)), .int (iI ng)])) (c2 : w0 (q + 2) = zar E 15 f) (bf : bd f 15 0 9999) (hkd : kd < 4) (hng : ng = 0 ∨ ng = 1) (hx0 : -32 ≤ x ∧ x ≤ 24) : zM l y_N_truncateAt ws_N_truncateAt rm_N_truncateAt E [.ref (ad E q), .int (iI x)] w0 (zQv E w0 (fun w' => (∃ (p' : Int) (n' : Int) (f' : Int → Int), w' q = .inr (1, [.ref (zg E (1 + kd)), .int (iI p'), .ref (ad E (q + 1))]) ∧ w' (q + 1) = .inr (0, [.ref (ad E (q + 2)), .int (iI n')]) ∧ w' (q + 2) = zar E 15 f' ∧ bd f' 15 0 9999 ∧ (V f' 15 = TcV (V f 15) (24 - x) ∧ (n' = 0 ∨ n' = 1) ∧ (V f' 15 = 0 → n' = 0) ∧ (0 < V f' 15 → n' = ng) ∧ p' = mx0 x)) ∧ ∀ k, k ≠ q → k ≠ (q + 1) → k ≠ (q + 2) → w' k = w0 k)) := by
  refine z_met (cc := b_N_truncateAt) (maxL := 2) (ret := none) (by decide +kernel) rfl (Nat.le_of_ble_eq_true rfl) ?_
  intro p e s m below meth cd ls a Qf hQ hC hl hH
  obtain ⟨hF, hr, hlk, hK, hG, hn⟩ := hC
  obtain ⟨hx, hb, hml, hown, hts⟩ := hF
  have hg : ∀ w ∈ GW, w.before a s = true := fun w h => hts w (List.mem_cons_of_mem _ h)
  have hA : ∀ q, s.heap.size ≤ q → va_A (wl E w0) s.heap.size q := fun q h => Or.inr h
  have hl : lv_has ls 2 [(0, .ref (ad E q)), (1, .int (iI x))] := hl
  refine lv_aload_n hx hb d_N_truncateAt_0 rfl (lv_at hl 0 rfl) ?_
  refine zv_get (C := "ScaledNumeralDesk$Numeral") (T := TN) (N := 3) hx hb hg uN_in hown hK hH q0lt c0 rfl 2 (by decide) (hg _ wm_64) (fun _ h9 => h9) rfl d_N_truncateAt_1 ?_
  refine zv_get (C := "ScaledNumeralDesk$Amount") (T := TA) (N := 2) hx hb hg uA_in hown hK hH q1lt c1 rfl 0 (by decide) (hg _ wm_45) (fun _ h9 => h9) rfl d_N_truncateAt_4 ?_
  refine zv_bipush hx hb d_N_truncateAt_7 rfl ?_
  refine lv_iload_n hx hb d_N_truncateAt_9 rfl (lv_at hl 1 rfl) ?_
  refine zv_isub hx hb d_N_truncateAt_10 ?_
  refine z_callv (va_runS (As := [.ref (ad E (q + 2)), .int (iI (24 - x))]) (rest := []) ⟨hx, hb, hml, hown, hts⟩ (c_cut (l := l) (E := E) (w0 := w0) (q := q + 2) (N := 15) (f := f) (x := 24 - x) (q0lt := q2lt) (c0 := c2) (hN := by omega) (bf := bf) (hp := by omega) s.heap.size) (z_cwS 2 hg wm_439 wm_537 wm_16 wm_438 (by decide +kernel) ⟨Nat.le_of_ble_eq_true rfl, Nat.le_of_ble_eq_true rfl⟩) (z_preS hK hG hn hH hA) rfl rfl hl.1 rfl (lv_room (Nat.le_of_ble_eq_true rfl)) d_N_truncateAt_11 ⟨Nat.zero_le _, Nat.zero_le _⟩) hH hA (fun  w3 H1 lc2 hH4 p11 => ?_)
  obtain ⟨⟨f_5, e6, bd7, p11⟩, hg8⟩ := p11
  replace bd7 : bd f_5 15 0 9999 := bd7
  replace p11 : V f_5 15 = (if (24 - x) ≤ 0 then V f 15 else V f 15 / Tp (24 - x) * Tp (24 - x)) := p11
  have e9 : w3 q = .inr (1, [.ref (zg E (1 + kd)), .int (iI pl), .ref (ad E (q + 1))]) := (hg8 q (by omega)).trans c0
  have e10 : w3 (q + 1) = .inr (0, [.ref (ad E (q + 2)), .int (iI ng)]) := (hg8 (q + 1) (by omega)).trans c1
  have hf11 : ∀ k, k ≠ (q + 2) → w3 k = w0 k := fun k g0 => hg8 k g0
  refine lv_aload_n hx hb d_N_truncateAt_14 rfl (lv_at hl 0 rfl) ?_
  refine lv_iload_n hx hb d_N_truncateAt_15 rfl (lv_at hl 1 rfl) ?_
  refine z_callv (va_runV (As := [.int (iI x)]) (rest := []) ⟨hx, hb, hml, hown, hts⟩ (c_N_keep (l := l) (E := E) (w0 := w3) (q := q) (kd := kd) (pl := pl) (ng := ng) (x := x) (f := f_5) (q0lt := q0lt) (q1lt := q1lt) (q2lt := q2lt) (c0 := e9) (c1 := e10) (c2 := e6) (bf := bd7) (hkd := by omega) (hng := by omega) (hx0 := by omega) H1.size) (z_cwV (C := "ScaledNumeralDesk$Numeral") 1 hg wm_531 wm_528 wm_2 wm_530 wm_s22 (by decide +kernel) ⟨Nat.le_of_ble_eq_true rfl, Nat.le_of_ble_eq_true rfl⟩) (z_preV (r := ("ScaledNumeralDesk$Numeral", TN, 3)) hK hG hn hH4 hA q0lt e9 rfl) rfl rfl hl.1 rfl (lv_room (Nat.le_of_ble_eq_true rfl)) d_N_truncateAt_16 ⟨Nat.zero_le _, Nat.zero_le _⟩) hH4 hA (fun  w14 H12 lc13 hH15 p16 => ?_)
  obtain ⟨⟨p_16, n_17, e18, e19, p16⟩, hg20⟩ := p16
  replace p16 : (n_17 = 0 ∨ n_17 = 1) ∧ (V f_5 15 = 0 → n_17 = 0) ∧ (0 < V f_5 15 → n_17 = ng) ∧ p_16 = mx0 x := p16
  have e21 : w14 (q + 2) = zar E 15 f_5 := (hg20 (q + 2) (by omega) (by omega)).trans e6
  have hf22 : ∀ k, k ≠ (q + 2) → k ≠ q → k ≠ (q + 1) → w14 k = w0 k := fun k g0 g1 g2 => (hg20 k g1 g2).trans (hf11 k g0)
  rw [hQ]
  exact z_vret hx hb hr hlk hH15 (⟨⟨p_16, n_17, f_5, e18, e19, e21, bd7, ⟨p11, p16⟩⟩, (fun k g0 g1 g2 => hf22 k g2 g0 g1)⟩) d_N_truncateAt_19
def rm_N_hasFraction : Room := { frames := 0, cells := 0, slots := 0, locals := 0 }
set_option maxHeartbeats 4000000 in
set_option maxRecDepth 100000 in
theorem c_N_hasFraction (l : Launch) (E : zE) (w0 : zW) (q : Nat) (kd : Nat) (pl ng : Int) (f : Int → Int) (q0lt : q < zn E) (q1lt : q + 1 < zn E) (q2lt : q + 2 < zn E) (c0 : w0 q = .inr (1, [.ref (zg E (1 + kd)), .int (iI pl), .ref (ad E (q + 1))])) (c1 : w0 (q + 1) = .inr (0, [.ref (ad E (q + 2)), .int (iI ng)])) (c2 : w0 (q + 2) = zar E 15 f) (bf : bd f 15 0 9999) (hkd : kd < 4) (hng : ng = 0 ∨ ng = 1) : zM l y_N_hasFraction ws_N_hasFraction rm_N_hasFraction E [.ref (ad E q)] w0 (zQi E w0 (fun z w' => w' = w0 ∧ ((z = 1 ∧ V f 15 % Bp 6 ≠ 0) ∨ (z = 0 ∧ V f 15 % Bp 6 = 0)))) := by
  refine z_met (cc := b_N_hasFraction) (maxL := 2) (ret := (some .boolean)) (by decide +kernel) rfl (Nat.le_of_ble_eq_true rfl) ?_
  intro p e s m below meth cd ls a Qf hQ hC hl hH
  obtain ⟨hF, hr, hlk, hK, hG, hn⟩ := hC
  obtain ⟨hx, hb, hml, hown, hts⟩ := hF
  have hg : ∀ w ∈ GW, w.before a s = true := fun w h => hts w (List.mem_cons_of_mem _ h)
  have hA : ∀ q, s.heap.size ≤ q → va_A (wl E w0) s.heap.size q := fun q h => Or.inr h
  have hl : lv_has ls 2 [(0, .ref (ad E q))] := hl
  refine zv_iconst hx hb d_N_hasFraction_0 ?_
  refine lv_istore_n (lv' := [(1, .int (iI 0)), (0, .ref (ad E q))]) hx hb d_N_hasFraction_1 rfl hl (by decide) rfl (fun ls hl => ?_)
  have L2 : ∀ (fu : Nat) (i : Int) (ls : Array Slot) (H1 : Heap) (lc2 : List Loc), (lv_has ls 2 [(1, .int (iI i)), (0, .ref (ad E q))]) → (zH E w0 (va_A (wl E w0) s.heap.size) s.heap H1 lc2) → (0 ≤ i ∧ i ≤ 6) → (∀ j : Int, 0 ≤ j → j < i → f j = 0) → (6 - i < (fu : Int)) → W p l e rm_N_hasFraction s m a below meth cd H1 lc2 0 0 Qf (F0 m 2 ls []) := by
    intro fu
    induction fu with
    | zero => intro i ls H1 lc2 hl hH hi hz hm; exact absurd hm (by omega)
    | succ fu ih =>
      intro i ls H1 lc2 hl hH hi hz hm
      refine lv_iload_n hx hb d_N_hasFraction_2 rfl (lv_at hl 0 rfl) ?_
      refine zv_bipush hx hb d_N_hasFraction_3 rfl ?_
      refine zv_icmp_ge (tgt := 28) hx hb d_N_hasFraction_5 rfl (by omega) (by omega) (fun h3 => ?_) (fun h3 => ?_)
      · refine zv_iconst hx hb d_N_hasFraction_28 ?_
        rw [hQ]
        exact z_zret hx hb hr hlk hH (⟨rfl, Or.inr ⟨rfl, hf_0 bf (fun j g1 g2 => hz j g1 (by omega))⟩⟩) (by exact nar_z (by omega)) d_N_hasFraction_29
      · refine lv_aload_n hx hb d_N_hasFraction_8 rfl (lv_at hl 1 rfl) ?_
        refine zv_get (C := "ScaledNumeralDesk$Numeral") (T := TN) (N := 3) hx hb hg uN_in hown hK hH q0lt c0 rfl 2 (by decide) (hg _ wm_64) (fun _ h9 => h9) rfl d_N_hasFraction_9 ?_
        refine zv_get (C := "ScaledNumeralDesk$Amount") (T := TA) (N := 2) hx hb hg uA_in hown hK hH q1lt c1 rfl 0 (by decide) (hg _ wm_45) (fun _ h9 => h9) rfl d_N_hasFraction_12 ?_
        refine lv_iload_n hx hb d_N_hasFraction_15 rfl (lv_at hl 0 rfl) ?_
        refine zv_iald hx hb hK hH q2lt c2 (by omega) (by omega) (by omega) d_N_hasFraction_16 ?_
        have b4 := bf i (by omega) (by omega)
        refine zv_if_eq (tgt := 22) hx hb d_N_hasFraction_17 rfl (by omega) (fun h5 => ?_) (fun h5 => ?_)
        · refine zv_iinc (k := 0) (lv' := [(1, .int (iI (i + 1))), (0, .ref (ad E q))]) hx hb d_N_hasFraction_22 hl rfl (by decide) rfl (fun ls hl => ?_)
          refine lv_goto (tgt := 2) hx hb d_N_hasFraction_25 rfl ?_
          exact ih  (i + 1) _ H1 lc2 (lv_sub hl [0, 1] rfl) hH (by omega) (by intro j g1 g2; by_cases e9 : j = i; rw [e9]; assumption; exact hz j g1 (by omega)) (by omega)
        · refine zv_iconst hx hb d_N_hasFraction_20 ?_
          rw [hQ]
          exact z_zret hx hb hr hlk hH (⟨rfl, Or.inl ⟨rfl, hf_1 bf hi.1 (by omega) (by omega)⟩⟩) (by exact nar_z (by omega)) d_N_hasFraction_21
  exact L2 ((6 - 0 : Int).toNat + 1) 0 _ s.heap ([]) (lv_sub hl [0, 1] rfl) hH (by omega) (by intro j g1 g2; omega) (by omega)
def rm_N_makeWhole : Room := { frames := 5, cells := 0, slots := 0, locals := 104 }
set_option maxHeartbeats 4000000 in
set_option maxRecDepth 100000 in
theorem c_N_makeWhole (l : Launch) (E : zE) (w0 : zW) (q : Nat) (kd : Nat) (pl ng aw : Int) (f : Int → Int) (q0lt : q < zn E) (q1lt : q + 1 < zn E) (q2lt : q + 2 < zn E) (c0 : w0 q = .inr (1, [.ref (zg E (1 + kd)), .int (iI pl), .ref (ad E (q + 1))])) (c1 : w0 (q + 1) = .inr (0, [.ref (ad E (q + 2)), .int (iI ng)])) (c2 : w0 (q + 2) = zar E 15 f) (bf : bd f 15 0 9999) (hkd : kd < 4) (hng : ng = 0 ∨ ng = 1) (haw : aw = 0 ∨ aw = 1) (hV : V f 15 + Tp 24 < Bp 15) : zM l y_N_makeWhole ws_N_makeWhole rm_N_makeWhole E [.ref (ad E q), .int (iI aw)] w0 (zQv E w0 (fun w' => (∃ (n' : Int) (f' : Int → Int), w' q = .inr (1, [.ref (zg E (1 + kd)), .int (iI 0), .ref (ad E (q + 1))]) ∧ w' (q + 1) = .inr (0, [.ref (ad E (q + 2)), .int (iI n')]) ∧ w' (q + 2) = zar E 15 f' ∧ bd f' 15 0 9999 ∧ (V f' 15 = MwV ng aw (V f 15) ∧ (n' = 0 ∨ n' = 1) ∧ (V f' 15 = 0 → n' = 0) ∧ (0 < V f' 15 → n' = ng))) ∧ ∀ k, k ≠ q → k ≠ (q + 1) → k ≠ (q + 2) → w' k = w0 k)) := by
  refine z_met (cc := b_N_makeWhole) (maxL := 4) (ret := none) (by decide +kernel) rfl (Nat.le_of_ble_eq_true rfl) ?_
  intro p e s m below meth cd ls a Qf hQ hC hl hH
  obtain ⟨hF, hr, hlk, hK, hG, hn⟩ := hC
  obtain ⟨hx, hb, hml, hown, hts⟩ := hF
  have hg : ∀ w ∈ GW, w.before a s = true := fun w h => hts w (List.mem_cons_of_mem _ h)
  have hA : ∀ q, s.heap.size ≤ q → va_A (wl E w0) s.heap.size q := fun q h => Or.inr h
  have hl : lv_has ls 4 [(0, .ref (ad E q)), (1, .int (iI aw))] := hl
  have vf := V_in bf (show (0 : Int) ≤ 15 by decide) (Int.le_refl 15)
  have ee : Bp 6 = Tp 24 := Bp_Tp (by decide)
  have tp := Tp_pos 24
  have dl := Int.ediv_mul_le (V f 15) (show Tp 24 ≠ 0 by omega)
  have dn : 0 ≤ V f 15 / Tp 24 * Tp 24 := Int.mul_nonneg (Int.ediv_nonneg vf.1 (by omega)) (by omega)
  refine lv_aload_n hx hb d_N_makeWhole_0 rfl (lv_at hl 0 rfl) ?_
  refine zv_get (C := "ScaledNumeralDesk$Numeral") (T := TN) (N := 3) hx hb hg uN_in hown hK hH q0lt c0 rfl 2 (by decide) (hg _ wm_64) (fun _ h9 => h9) rfl d_N_makeWhole_1 ?_
  refine zv_get (C := "ScaledNumeralDesk$Amount") (T := TA) (N := 2) hx hb hg uA_in hown hK hH q1lt c1 rfl 1 (by decide) (hg _ wm_48) (fun _ h9 => h9) rfl d_N_makeWhole_4 ?_
  refine lv_istore_n (lv' := [(2, .int (iI ng)), (0, .ref (ad E q)), (1, .int (iI aw))]) hx hb d_N_makeWhole_7 rfl hl (by decide) rfl (fun ls hl => ?_)
  have L25 : ∀ (y : Int) (ls : Array Slot) (H1 : Heap) (lc2 : List Loc), (lv_has ls 4 [(2, .int (iI ng)), (0, .ref (ad E q)), (1, .int (iI aw))]) → (zH E w0 (va_A (wl E w0) s.heap.size) s.heap H1 lc2) → ((y = 1 ∧ ng = aw ∧ V f 15 % Tp 24 ≠ 0) ∨ (y = 0 ∧ ¬ (ng = aw ∧ V f 15 % Tp 24 ≠ 0))) → W p l e rm_N_makeWhole s m a below meth cd H1 lc2 0 0 Qf (F0 m 25 ls [.int (iI y)]) := by
    intro y ls H1 lc2 hl hH hy
    refine lv_istore_n (lv' := [(3, .int (iI y)), (2, .int (iI ng)), (0, .ref (ad E q)), (1, .int (iI aw))]) hx hb d_N_makeWhole_25 rfl hl (by decide) rfl (fun ls hl => ?_)
    refine lv_aload_n hx hb d_N_makeWhole_26 rfl (lv_at hl 2 rfl) ?_
    refine zv_iconst hx hb d_N_makeWhole_27 ?_
    refine z_callv (va_runV (As := [.int (iI 0)]) (rest := []) ⟨hx, hb, hml, hown, hts⟩ (c_N_truncateAt (l := l) (E := E) (w0 := w0) (q := q) (kd := kd) (pl := pl) (ng := ng) (x := 0) (f := f) (q0lt := q0lt) (q1lt := q1lt) (q2lt := q2lt) (c0 := c0) (c1 := c1) (c2 := c2) (bf := bf) (hkd := by omega) (hng := by omega) (hx0 := by omega) H1.size) (z_cwV (C := "ScaledNumeralDesk$Numeral") 1 hg wm_536 wm_546 wm_2 wm_534 wm_535 (by decide +kernel) ⟨Nat.le_of_ble_eq_true rfl, Nat.le_of_ble_eq_true rfl⟩) (z_preV (r := ("ScaledNumeralDesk$Numeral", TN, 3)) hK hG hn hH hA q0lt c0 rfl) rfl rfl hl.1 rfl (lv_room (Nat.le_of_ble_eq_true rfl)) d_N_makeWhole_28 ⟨Nat.zero_le _, Nat.zero_le _⟩) hH hA (fun  w5 H3 lc4 hH6 p28 => ?_)
    obtain ⟨⟨p9, n_7, f1, e8, e9, e10, bd11, p28⟩, hg12⟩ := p28
    replace bd11 : bd f1 15 0 9999 := bd11
    replace p28 : V f1 15 = TcV (V f 15) (24 - (0 : Int)) ∧ (n_7 = 0 ∨ n_7 = 1) ∧ (V f1 15 = 0 → n_7 = 0) ∧ (0 < V f1 15 → n_7 = ng) ∧ p9 = mx0 (0 : Int) := p28
    have hf13 : ∀ k, k ≠ q → k ≠ (q + 1) → k ≠ (q + 2) → w5 k = w0 k := fun k g0 g1 g2 => hg12 k g0 g1 g2
    have p0 : p9 = 0 := p28.2.2.2.2
    subst p0
    have p28v : V f1 15 = V f 15 / Tp 24 * Tp 24 := p28.1.trans (if_neg (by decide))
    refine lv_iload_n hx hb d_N_makeWhole_31 rfl (lv_at hl 0 rfl) ?_
    refine zv_if_eq (tgt := 55) hx hb d_N_makeWhole_32 rfl (by omega) (fun h14 => ?_) (fun h14 => ?_)
    · rw [hQ]
      exact z_vret hx hb hr hlk hH6 (⟨⟨n_7, f1, e8, e9, e10, bd11, ⟨by rw [p28v, MwV_n (by omega)], p28.2.1, p28.2.2.1, p28.2.2.2.1⟩⟩, (fun k g0 g1 g2 => hf13 k g0 g1 g2)⟩) d_N_makeWhole_55
    · refine lv_aload_n hx hb d_N_makeWhole_35 rfl (lv_at hl 2 rfl) ?_
      refine zv_get (C := "ScaledNumeralDesk$Numeral") (T := TN) (N := 3) hx hb hg uN_in hown hK hH6 q0lt e8 rfl 2 (by decide) (hg _ wm_64) (fun _ h9 => h9) rfl d_N_makeWhole_36 ?_
      refine zv_get (C := "ScaledNumeralDesk$Amount") (T := TA) (N := 2) hx hb hg uA_in hown hK hH6 q1lt e9 rfl 0 (by decide) (hg _ wm_45) (fun _ h9 => h9) rfl d_N_makeWhole_39 ?_
      refine zv_bipush hx hb d_N_makeWhole_42 rfl ?_
      refine z_callv (va_runS (As := [.ref (ad E (q + 2)), .int (iI 24)]) (rest := []) ⟨hx, hb, hml, hown, hts⟩ (c_addOneAt (l := l) (E := E) (w0 := w5) (q := q + 2) (N := 15) (f := f1) (x := 24) (q0lt := q2lt) (c0 := e10) (hN := by omega) (bf := bd11) (hp := by omega) H3.size) (z_cwS 2 hg wm_288 wm_547 wm_16 wm_287 (by decide +kernel) ⟨Nat.le_of_ble_eq_true rfl, Nat.le_of_ble_eq_true rfl⟩) (z_preS hK hG hn hH6 hA) rfl rfl hl.1 rfl (lv_room (Nat.le_of_ble_eq_true rfl)) d_N_makeWhole_44 ⟨Nat.zero_le _, Nat.zero_le _⟩) hH6 hA (fun  w17 H15 lc16 hH18 p44 => ?_)
      obtain ⟨⟨f_19, e20, bd21, p44⟩, hg22⟩ := p44
      replace bd21 : bd f_19 15 0 9999 := bd21
      replace p44 : V f_19 15 = (if (24 : Int) < 0 then V f1 15 else (V f1 15 + Tp (24 : Int)) % Bp 15) := p44
      have e23 : w17 q = .inr (1, [.ref (zg E (1 + kd)), .int (iI 0), .ref (ad E (q + 1))]) := (hg22 q (by omega)).trans e8
      have e24 : w17 (q + 1) = .inr (0, [.ref (ad E (q + 2)), .int (iI n_7)]) := (hg22 (q + 1) (by omega)).trans e9
      have hf25 : ∀ k, k ≠ q → k ≠ (q + 1) → k ≠ (q + 2) → w17 k = w0 k := fun k g0 g1 g2 => (hg22 k g2).trans (hf13 k g0 g1 g2)
      refine lv_aload_n hx hb d_N_makeWhole_47 rfl (lv_at hl 2 rfl) ?_
      refine zv_get (C := "ScaledNumeralDesk$Numeral") (T := TN) (N := 3) hx hb hg uN_in hown hK hH18 q0lt e23 rfl 2 (by decide) (hg _ wm_64) (fun _ h9 => h9) rfl d_N_makeWhole_48 ?_
      refine lv_iload_n hx hb d_N_makeWhole_51 rfl (lv_at hl 1 rfl) ?_
      refine z_callv (va_runV (As := [.int (iI ng)]) (rest := []) ⟨hx, hb, hml, hown, hts⟩ (c_A_signAs (l := l) (E := E) (w0 := w17) (q := q + 1) (f := f_19) (ng := n_7) (mn := ng) (q0lt := q1lt) (q1lt := q2lt) (c0 := e24) (c1 := e20) (bf := bd21) (hmn := by omega) H15.size) (z_cwV (C := "ScaledNumeralDesk$Amount") 1 hg wm_293 wm_532 wm_5 wm_291 wm_292 (by decide +kernel) ⟨Nat.le_of_ble_eq_true rfl, Nat.le_of_ble_eq_true rfl⟩) (z_preV (r := ("ScaledNumeralDesk$Amount", TA, 2)) hK hG hn hH18 hA q1lt e24 rfl) rfl rfl hl.1 rfl (lv_room (Nat.le_of_ble_eq_true rfl)) d_N_makeWhole_52 ⟨Nat.zero_le _, Nat.zero_le _⟩) hH18 hA (fun  w28 H26 lc27 hH29 p52 => ?_)
      obtain ⟨⟨n_30, e31, p52⟩, hg32⟩ := p52
      replace p52 : (n_30 = 0 ∨ n_30 = 1) ∧ (V f_19 15 = 0 → n_30 = 0) ∧ (0 < V f_19 15 → n_30 = ng) := p52
      have e33 : w28 q = .inr (1, [.ref (zg E (1 + kd)), .int (iI 0), .ref (ad E (q + 1))]) := (hg32 q (by omega)).trans e23
      have e34 : w28 (q + 2) = zar E 15 f_19 := (hg32 (q + 2) (by omega)).trans e20
      have hf35 : ∀ k, k ≠ q → k ≠ (q + 1) → k ≠ (q + 2) → w28 k = w0 k := fun k g0 g1 g2 => (hg32 k g1).trans (hf25 k g0 g1 g2)
      rw [if_neg (by decide)] at p44
      rw [Int.emod_eq_of_lt (by omega) (by omega)] at p44
      rw [hQ]
      exact z_vret hx hb hr hlk hH29 (⟨⟨n_30, f_19, e33, e31, e34, bd21, ⟨by rw [p44, p28v, MwV_y (by omega)], p52⟩⟩, (fun k g0 g1 g2 => hf35 k g0 g1 g2)⟩) d_N_makeWhole_55
  refine lv_iload_n hx hb d_N_makeWhole_8 rfl (lv_at hl 0 rfl) ?_
  refine lv_iload_n hx hb d_N_makeWhole_9 rfl (lv_at hl 2 rfl) ?_
  refine zv_icmp_ne (tgt := 24) hx hb d_N_makeWhole_10 rfl (by omega) (by omega) (fun h36 => ?_) (fun h36 => ?_)
  · refine zv_iconst hx hb d_N_makeWhole_24 ?_
    exact L25 0 _ s.heap ([]) (lv_sub hl [0, 1, 2] rfl) hH (by first | (rw [ee] at p14; omega) | omega)
  · refine lv_aload_n hx hb d_N_makeWhole_13 rfl (lv_at hl 1 rfl) ?_
    refine z_calli (va_runV (As := []) (rest := []) ⟨hx, hb, hml, hown, hts⟩ (c_N_hasFraction (l := l) (E := E) (w0 := w0) (q := q) (kd := kd) (pl := pl) (ng := ng) (f := f) (q0lt := q0lt) (q1lt := q1lt) (q2lt := q2lt) (c0 := c0) (c1 := c1) (c2 := c2) (bf := bf) (hkd := by omega) (hng := by omega) s.heap.size) (z_cwV (C := "ScaledNumeralDesk$Numeral") 0 hg wm_545 wm_542 wm_2 wm_544 wm_s23 (by decide +kernel) ⟨Nat.le_of_ble_eq_true rfl, Nat.le_of_ble_eq_true rfl⟩) (z_preV (r := ("ScaledNumeralDesk$Numeral", TN, 3)) hK hG hn hH hA q0lt c0 rfl) rfl rfl hl.1 rfl (lv_room (Nat.le_of_ble_eq_true rfl)) d_N_makeWhole_14 ⟨Nat.zero_le _, Nat.zero_le _⟩) hH hA (fun z41 w39 H37 lc38 hH40 p14 => ?_)
    obtain ⟨ew42, p14⟩ := p14
    rw [ew42] at hH40
    replace p14 : (z41 = 1 ∧ V f 15 % Bp 6 ≠ 0) ∨ (z41 = 0 ∧ V f 15 % Bp 6 = 0) := p14
    refine zv_if_eq (tgt := 24) hx hb d_N_makeWhole_17 rfl (by omega) (fun h43 => ?_) (fun h43 => ?_)
    · refine zv_iconst hx hb d_N_makeWhole_24 ?_
      exact L25 0 _ H37 lc38 (lv_sub hl [0, 1, 2] rfl) hH40 (by first | (rw [ee] at p14; omega) | omega)
    · refine zv_iconst hx hb d_N_makeWhole_20 ?_
      refine lv_goto (tgt := 25) hx hb d_N_makeWhole_21 rfl ?_
      exact L25 1 _ H37 lc38 (lv_sub hl [0, 1, 2] rfl) hH40 (by first | (rw [ee] at p14; omega) | omega)
def rm_N_trim : Room := { frames := 1, cells := 0, slots := 0, locals := 21 }
set_option maxHeartbeats 4000000 in
set_option maxRecDepth 100000 in
theorem c_N_trim (l : Launch) (E : zE) (w0 : zW) (q : Nat) (kd : Nat) (pl ng : Int) (f : Int → Int) (q0lt : q < zn E) (q1lt : q + 1 < zn E) (q2lt : q + 2 < zn E) (c0 : w0 q = .inr (1, [.ref (zg E (1 + kd)), .int (iI pl), .ref (ad E (q + 1))])) (c1 : w0 (q + 1) = .inr (0, [.ref (ad E (q + 2)), .int (iI ng)])) (c2 : w0 (q + 2) = zar E 15 f) (bf : bd f 15 0 9999) (hkd : kd < 4) (hng : ng = 0 ∨ ng = 1) (hpl : 0 ≤ pl ∧ pl ≤ 24) : zM l y_N_trim ws_N_trim rm_N_trim E [.ref (ad E q)] w0 (zQv E w0 (fun w' => (∃ (p' : Int), w' q = .inr (1, [.ref (zg E (1 + kd)), .int (iI p'), .ref (ad E (q + 1))]) ∧ (0 ≤ p' ∧ p' ≤ pl ∧ (p' = 0 ∨ V f 15 / Tp (24 - p') % 10 ≠ 0) ∧ (∀ k : Int, p' < k → k ≤ pl → V f 15 / Tp (24 - k) % 10 = 0))) ∧ ∀ k, k ≠ q → w' k = w0 k)) := by
  refine z_met (cc := b_N_trim) (maxL := 1) (ret := none) (by decide +kernel) rfl (Nat.le_of_ble_eq_true rfl) ?_
  intro p e s m below meth cd ls a Qf hQ hC hl hH
  obtain ⟨hF, hr, hlk, hK, hG, hn⟩ := hC
  obtain ⟨hx, hb, hml, hown, hts⟩ := hF
  have hg : ∀ w ∈ GW, w.before a s = true := fun w h => hts w (List.mem_cons_of_mem _ h)
  have hA : ∀ q, s.heap.size ≤ q → va_A (wl E w0) s.heap.size q := fun q h => Or.inr h
  have hl : lv_has ls 1 [(0, .ref (ad E q))] := hl
  have L0 : ∀ (fu : Nat) (x : Int) (ls : Array Slot) (H1 : Heap) (lc2 : List Loc) (w3 : zW), (lv_has ls 1 [(0, .ref (ad E q))]) → (zH E w3 (va_A (wl E w0) s.heap.size) s.heap H1 lc2) → (w3 q = .inr (1, [.ref (zg E (1 + kd)), .int (iI x), .ref (ad E (q + 1))])) → (w3 (q + 1) = .inr (0, [.ref (ad E (q + 2)), .int (iI ng)])) → (w3 (q + 2) = zar E 15 f) → (∀ k, k ≠ q → w3 k = w0 k) → (0 ≤ x ∧ x ≤ pl) → (∀ k : Int, x < k → k ≤ pl → V f 15 / Tp (24 - k) % 10 = 0) → (x < (fu : Int)) → W p l e rm_N_trim s m a below meth cd H1 lc2 0 0 Qf (F0 m 0 ls []) := by
    intro fu
    induction fu with
    | zero => intro x ls H1 lc2 w3 hl hH e4 e5 e6 hf7 hx0 hz hm; exact absurd hm (by omega)
    | succ fu ih =>
      intro x ls H1 lc2 w3 hl hH e4 e5 e6 hf7 hx0 hz hm
      refine lv_aload_n hx hb d_N_trim_0 rfl (lv_at hl 0 rfl) ?_
      refine zv_get (C := "ScaledNumeralDesk$Numeral") (T := TN) (N := 3) hx hb hg uN_in hown hK hH q0lt e4 rfl 1 (by decide) (hg _ wm_59) (fun _ h9 => h9) rfl d_N_trim_1 ?_
      refine zv_if_le (tgt := 40) hx hb d_N_trim_4 rfl (by omega) (fun h8 => ?_) (fun h8 => ?_)
      · rw [hQ]
        exact z_vret hx hb hr hlk hH (⟨⟨x, e4, ⟨hx0.1, hx0.2, by omega, hz⟩⟩, (fun k g0 => hf7 k g0)⟩) d_N_trim_40
      · refine lv_aload_n hx hb d_N_trim_7 rfl (lv_at hl 0 rfl) ?_
        refine zv_get (C := "ScaledNumeralDesk$Numeral") (T := TN) (N := 3) hx hb hg uN_in hown hK hH q0lt e4 rfl 2 (by decide) (hg _ wm_64) (fun _ h9 => h9) rfl d_N_trim_8 ?_
        refine zv_get (C := "ScaledNumeralDesk$Amount") (T := TA) (N := 2) hx hb hg uA_in hown hK hH q1lt e5 rfl 0 (by decide) (hg _ wm_45) (fun _ h9 => h9) rfl d_N_trim_11 ?_
        refine zv_bipush hx hb d_N_trim_14 rfl ?_
        refine lv_aload_n hx hb d_N_trim_16 rfl (lv_at hl 0 rfl) ?_
        refine zv_get (C := "ScaledNumeralDesk$Numeral") (T := TN) (N := 3) hx hb hg uN_in hown hK hH q0lt e4 rfl 1 (by decide) (hg _ wm_59) (fun _ h9 => h9) rfl d_N_trim_17 ?_
        refine zv_isub hx hb d_N_trim_20 ?_
        refine z_calli (va_runS (As := [.ref (ad E (q + 2)), .int (iI (24 - x))]) (rest := []) ⟨hx, hb, hml, hown, hts⟩ (c_digitAt (l := l) (E := E) (w0 := w3) (q := q + 2) (N := 15) (f := f) (x := 24 - x) (q0lt := q2lt) (c0 := e6) (hN := by omega) (bf := bf) (hp := by omega) H1.size) (z_cwS 2 hg wm_363 wm_361 wm_16 wm_362 (by decide +kernel) ⟨Nat.le_of_ble_eq_true rfl, Nat.le_of_ble_eq_true rfl⟩) (z_preS hK hG hn hH hA) rfl rfl hl.1 rfl (lv_room (Nat.le_of_ble_eq_true rfl)) d_N_trim_21 ⟨Nat.zero_le _, Nat.zero_le _⟩) hH hA (fun z13 w11 H9 lc10 hH12 p21 => ?_)
        obtain ⟨ew14, p21⟩ := p21
        rw [ew14] at hH12
        replace p21 : z13 = (if (24 - x) < 0 then 0 else V f 15 / Tp (24 - x) % 10) := p21
        refine zv_if_ne (tgt := 40) hx hb d_N_trim_24 rfl (by omega) (fun h15 => ?_) (fun h15 => ?_)
        · rw [if_neg (by omega)] at p21
          rw [hQ]
          exact z_vret hx hb hr hlk hH12 (⟨⟨x, e4, ⟨hx0.1, hx0.2, Or.inr (by omega), hz⟩⟩, (fun k g0 => hf7 k g0)⟩) d_N_trim_40
        · refine lv_aload_n hx hb d_N_trim_27 rfl (lv_at hl 0 rfl) ?_
          refine lv_dup hx hb d_N_trim_28 rfl ?_
          refine zv_get (C := "ScaledNumeralDesk$Numeral") (T := TN) (N := 3) hx hb hg uN_in hown hK hH12 q0lt e4 rfl 1 (by decide) (hg _ wm_59) (fun _ h9 => h9) rfl d_N_trim_29 ?_
          refine zv_iconst hx hb d_N_trim_32 ?_
          refine zv_isub hx hb d_N_trim_33 ?_
          refine zv_put (C := "ScaledNumeralDesk$Numeral") (T := TN) (N := 3) (fs' := [.ref (zg E (1 + kd)), .int (iI (x - 1)), .ref (ad E (q + 1))]) hx hb hg uN_in tyN tyN_ok nmN hown hK hH12 q0lt e4 rfl 1 (by decide) (hg _ wm_59) (fun _ h9 => h9) rfl (ty := tyN 1) (by decide +kernel) (rfl) (by rfl) (Nat.le_of_ble_eq_true rfl) d_N_trim_34 rfl (fun H17 lc18 w16 hH19 e20 hg21 => ?_)
          have e22 : w16 (q + 1) = .inr (0, [.ref (ad E (q + 2)), .int (iI ng)]) := (hg21 (q + 1) (by omega)).trans e5
          have e23 : w16 (q + 2) = zar E 15 f := (hg21 (q + 2) (by omega)).trans e6
          have hf24 : ∀ k, k ≠ q → w16 k = w0 k := fun k g0 => (hg21 k g0).trans (hf7 k g0)
          refine lv_goto (tgt := 0) hx hb d_N_trim_37 rfl ?_
          exact ih  (x - 1) _ H17 lc18 w16 (lv_sub hl [0] rfl) hH19 e20 e22 e23 (fun k g0 => hf24 k g0) (by omega) (by intro k g1 g2; by_cases e9 : k = x; rw [e9]; rw [if_neg (by omega)] at p21; omega; exact hz k (by omega) g2) (by omega)
  exact L0 ((pl : Int).toNat + 1) pl _ s.heap ([]) w0 (lv_sub hl [0] rfl) hH c0 c1 c2 (fun k _ => rfl) (by omega) (by intro k g1 g2; omega) (by omega)
def rm_N_whole : Room := { frames := 2, cells := 0, slots := 0, locals := 44 }
set_option maxHeartbeats 4000000 in
set_option maxRecDepth 100000 in
theorem c_N_whole (l : Launch) (E : zE) (w0 : zW) (q : Nat) (kd : Nat) (pl ng : Int) (f : Int → Int) (q0lt : q < zn E) (q1lt : q + 1 < zn E) (q2lt : q + 2 < zn E) (c0 : w0 q = .inr (1, [.ref (zg E (1 + kd)), .int (iI pl), .ref (ad E (q + 1))])) (c1 : w0 (q + 1) = .inr (0, [.ref (ad E (q + 2)), .int (iI ng)])) (c2 : w0 (q + 2) = zar E 15 f) (bf : bd f 15 0 9999) (hkd : kd < 4) (hng : ng = 0 ∨ ng = 1) : zM l y_N_wholeDigits ws_N_wholeDigits rm_N_whole E [.ref (ad E q)] w0 (zQi E w0 (fun z w' => w' = w0 ∧ (∃ d : Int, dgs (V f 15) d ∧ 0 ≤ d ∧ d ≤ 60 ∧ z = max (d - 24) 1))) := by
  refine z_met (cc := b_N_wholeDigits) (maxL := 1) (ret := (some .int)) (by decide +kernel) rfl (Nat.le_of_ble_eq_true rfl) ?_
  intro p e s m below meth cd ls a Qf hQ hC hl hH
  obtain ⟨hF, hr, hlk, hK, hG, hn⟩ := hC
  obtain ⟨hx, hb, hml, hown, hts⟩ := hF
  have hg : ∀ w ∈ GW, w.before a s = true := fun w h => hts w (List.mem_cons_of_mem _ h)
  have hA : ∀ q, s.heap.size ≤ q → va_A (wl E w0) s.heap.size q := fun q h => Or.inr h
  have hl : lv_has ls 1 [(0, .ref (ad E q))] := hl
  refine lv_aload_n hx hb d_N_wholeDigits_0 rfl (lv_at hl 0 rfl) ?_
  refine zv_get (C := "ScaledNumeralDesk$Numeral") (T := TN) (N := 3) hx hb hg uN_in hown hK hH q0lt c0 rfl 2 (by decide) (hg _ wm_64) (fun _ h9 => h9) rfl d_N_wholeDigits_1 ?_
  refine zv_get (C := "ScaledNumeralDesk$Amount") (T := TA) (N := 2) hx hb hg uA_in hown hK hH q1lt c1 rfl 0 (by decide) (hg _ wm_45) (fun _ h9 => h9) rfl d_N_wholeDigits_4 ?_
  refine z_calli (va_runS (As := [.ref (ad E (q + 2))]) (rest := []) ⟨hx, hb, hml, hown, hts⟩ (c_digits (l := l) (E := E) (w0 := w0) (q := q + 2) (N := 15) (f := f) (q0lt := q2lt) (c0 := c2) (hN := by omega) (bf := bf) s.heap.size) (z_cwS 1 hg wm_311 wm_350 wm_16 wm_310 (by decide +kernel) ⟨Nat.le_of_ble_eq_true rfl, Nat.le_of_ble_eq_true rfl⟩) (z_preS hK hG hn hH hA) rfl rfl hl.1 rfl (lv_room (Nat.le_of_ble_eq_true rfl)) d_N_wholeDigits_7 ⟨Nat.zero_le _, Nat.zero_le _⟩) hH hA (fun d w3 H1 lc2 hH4 p7 => ?_)
  obtain ⟨ew5, p7⟩ := p7
  rw [ew5] at hH4
  replace p7 : dgs (V f 15) d ∧ 0 ≤ d ∧ d ≤ 15 * 4 := p7
  refine zv_bipush hx hb d_N_wholeDigits_10 rfl ?_
  refine zv_isub hx hb d_N_wholeDigits_12 ?_
  refine zv_iconst hx hb d_N_wholeDigits_13 ?_
  refine z_calli (va_runS (As := [.int (iI (d - 24)), .int (iI 1)]) (rest := []) ⟨hx, hb, hml, hown, hts⟩ (c_max (l := l) (E := E) (w0 := w0) (x := d - 24) (y := 1) (zx := by omega) (zy := by omega) H1.size) (z_cwS 2 hg wm_275 wm_351 wm_15 wm_274 (by decide +kernel) ⟨Nat.le_of_ble_eq_true rfl, Nat.le_of_ble_eq_true rfl⟩) (z_preS hK hG hn hH4 hA) rfl rfl hl.1 rfl (lv_room (Nat.le_of_ble_eq_true rfl)) d_N_wholeDigits_14 ⟨Nat.zero_le _, Nat.zero_le _⟩) hH4 hA (fun z10 w8 H6 lc7 hH9 p14 => ?_)
  obtain ⟨ew11, p14⟩ := p14
  rw [ew11] at hH9
  replace p14 : z10 = max (d - 24) (1 : Int) := p14
  rw [hQ]
  exact z_iret hx hb hr hlk hH9 (⟨rfl, ⟨d, p7.1, p7.2.1, by omega, p14⟩⟩) d_N_wholeDigits_17
