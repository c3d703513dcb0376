def rm_B_judged : Room := { frames := 4, cells := 0, slots := 0, locals := 85 }
set_option maxHeartbeats 4000000 in
set_option maxRecDepth 100000 in
theorem c_B_judged (l : Launch) (E : zE) (w0 : zW) (q : Nat) (kd : Nat) (pl ng : Int) (f : Int → Int) (q0lt : q < zn E) (q1lt : q + 1 < zn E) (q2lt : q + 2 < zn E) (c0 : w0 q = .inr (1, [.ref (zg E (1 + kd)), .int (iI pl), .ref (ad E (q + 1))])) (c1 : w0 (q + 1) = .inr (0, [.ref (ad E (q + 2)), .int (iI ng)])) (c2 : w0 (q + 2) = zar E 15 f) (bf : bd f 15 0 9999) (hkd : kd < 4) (hng : ng = 0 ∨ ng = 1) : zM l y_B_judged ws_B_judged rm_B_judged E [.ref (ad E q)] w0 (zQi E w0 (fun z w' => w' = w0 ∧ ((z = -3 ∧ Tp 56 ≤ V f 15) ∨ (z = 0 ∧ V f 15 < Tp 56)))) := by
  refine z_met (cc := b_B_judged) (maxL := 1) (ret := (some .int)) (by decide +kernel) rfl (Nat.le_of_ble_eq_true rfl) ?_
  intro p e s m below meth cd ls a Qf hQ hC hl hH
  obtain ⟨hF, hr, hlk, hK, hG, hn⟩ := hC
  obtain ⟨hx, hb, hml, hown, hts⟩ := hF
  have hg : ∀ w ∈ GW, w.before a s = true := fun w h => hts w (List.mem_cons_of_mem _ h)
  have hA : ∀ q, s.heap.size ≤ q → va_A (wl E w0) s.heap.size q := fun q h => Or.inr h
  have hl : lv_has ls 1 [(0, .ref (ad E q))] := hl
  refine lv_aload_n hx hb d_B_judged_0 rfl (lv_at hl 0 rfl) ?_
  refine z_calli (va_runV (As := []) (rest := []) ⟨hx, hb, hml, hown, hts⟩ (c_N_isTooLarge (l := l) (E := E) (w0 := w0) (q := q) (kd := kd) (pl := pl) (ng := ng) (f := f) (q0lt := q0lt) (q1lt := q1lt) (q2lt := q2lt) (c0 := c0) (c1 := c1) (c2 := c2) (bf := bf) (hkd := by omega) (hng := by omega) s.heap.size) (z_cwV (C := "ScaledNumeralDesk$Numeral") 0 hg wm_304 wm_404 wm_2 wm_302 wm_303 (by decide +kernel) ⟨Nat.le_of_ble_eq_true rfl, Nat.le_of_ble_eq_true rfl⟩) (z_preV (r := ("ScaledNumeralDesk$Numeral", TN, 3)) hK hG hn hH hA q0lt c0 rfl) rfl rfl hl.1 rfl (lv_room (Nat.le_of_ble_eq_true rfl)) d_B_judged_1 ⟨Nat.zero_le _, Nat.zero_le _⟩) hH hA (fun z6 w3 H1 lc2 hH4 hp5 => ?_)
  obtain ⟨ew7, hp5⟩ := hp5
  rw [ew7] at hH4
  replace hp5 : (z6 = 1 ∧ Tp 56 ≤ V f 15) ∨ (z6 = 0 ∧ V f 15 < Tp 56) := hp5
  refine zv_if_eq (tgt := 12) hx hb d_B_judged_4 rfl (by omega) (fun h8 => ?_) (fun h8 => ?_)
  · refine zv_iconst hx hb d_B_judged_12 ?_
    rw [hQ]
    exact z_iret hx hb hr hlk hH4 (⟨rfl, by omega⟩) d_B_judged_13
  · refine zv_bipush hx hb d_B_judged_7 rfl ?_
    refine lv_goto (tgt := 13) hx hb d_B_judged_9 rfl ?_
    rw [hQ]
    exact z_iret hx hb hr hlk hH4 (⟨rfl, by omega⟩) d_B_judged_13
theorem nx_B_load_0 {b q : Nat} (hbq : b + 4 < q) : b ≠ b + 1 := by omega
theorem nx_B_load_1 {b q : Nat} (hbq : b + 4 < q) : b + 2 ≠ b + 1 := by omega
theorem nx_B_load_2 {b q : Nat} (hbq : b + 4 < q) : b + 3 ≠ b + 1 := by omega
theorem nx_B_load_3 {b q : Nat} (hbq : b + 4 < q) : b + 4 ≠ b + 1 := by omega
theorem nx_B_load_4 {b q : Nat} (hbq : b + 4 < q) : q ≠ b + 1 := by omega
theorem nx_B_load_5 {b q : Nat} (hbq : b + 4 < q) : q + 1 ≠ b + 1 := by omega
theorem nx_B_load_6 {b q : Nat} (hbq : b + 4 < q) : q + 2 ≠ b + 1 := by omega
def rm_B_load : Room := { frames := 1, cells := 0, slots := 0, locals := 26 }
set_option maxHeartbeats 4000000 in
set_option maxRecDepth 100000 in
theorem c_B_load (l : Launch) (E : zE) (w0 : zW) (b : Nat) (r1 r2 r3 r4 : Int → Int) (q : Nat) (kd : Nat) (pl ng : Int) (f : Int → Int) (x : Int) (q0lt : b < zn E) (q1lt : b + 1 < zn E) (q2lt : b + 2 < zn E) (q3lt : b + 3 < zn E) (q4lt : b + 4 < zn E) (q5lt : q < zn E) (q6lt : q + 1 < zn E) (q7lt : q + 2 < zn E) (c0 : w0 b = .inr (4, [.ref (ad E (b + 1)), .ref (ad E (b + 2)), .ref (ad E (b + 3)), .ref (ad E (b + 4))])) (c1 : w0 (b + 1) = zar E 30 r1) (c2 : w0 (b + 2) = zar E 30 r2) (c3 : w0 (b + 3) = zar E 30 r3) (c4 : w0 (b + 4) = zar E 30 r4) (c5 : w0 q = .inr (1, [.ref (zg E (1 + kd)), .int (iI pl), .ref (ad E (q + 1))])) (c6 : w0 (q + 1) = .inr (0, [.ref (ad E (q + 2)), .int (iI ng)])) (c7 : w0 (q + 2) = zar E 15 f) (br1 : bd r1 30 0 9999) (br2 : bd r2 30 0 9999) (br3 : bd r3 30 0 9999) (br4 : bd r4 30 0 9999) (bf : bd f 15 0 9999) (hkd : kd < 4) (hng : ng = 0 ∨ ng = 1) (hbq : b + 4 < q) (hx0 : 0 ≤ x ∧ x ≤ 15) : zM l y_B_load ws_B_load rm_B_load E [.ref (ad E b), .ref (ad E q), .int (iI x)] w0 (zQv E w0 (fun w' => (∃ (r1' : Int → Int), w' (b + 1) = zar E 30 r1' ∧ bd r1' 30 0 9999 ∧ (V r1' 30 = V f 15 * Bp x)) ∧ ∀ k, k ≠ (b + 1) → w' k = w0 k)) := by
  refine z_met (cc := b_B_load) (maxL := 3) (ret := none) (by decide +kernel) rfl (Nat.le_of_ble_eq_true rfl) ?_
  intro p e s m below meth cd ls a Qf hQ hC hl hH
  obtain ⟨hF, hr, hlk, hK, hG, hn⟩ := hC
  obtain ⟨hx, hb, hml, hown, hts⟩ := hF
  have hg : ∀ w ∈ GW, w.before a s = true := fun w h => hts w (List.mem_cons_of_mem _ h)
  have hA : ∀ q, s.heap.size ≤ q → va_A (wl E w0) s.heap.size q := fun q h => Or.inr h
  have hl : lv_has ls 3 [(0, .ref (ad E b)), (1, .ref (ad E q)), (2, .int (iI x))] := hl
  refine lv_aload_n hx hb d_B_load_0 rfl (lv_at hl 0 rfl) ?_
  refine zv_get (C := "ScaledNumeralDesk$Bench") (T := TB) (N := 4) hx hb hg uB_in hown hK hH q0lt c0 rfl 0 (by decide) (hg _ wm_115) (fun _ h9 => h9) rfl d_B_load_1 ?_
  refine zv_iconst hx hb d_B_load_4 ?_
  refine z_callv (va_runS (As := [.ref (ad E (b + 1)), .int (iI 0)]) (rest := []) ⟨hx, hb, hml, hown, hts⟩ (c_fill (l := l) (E := E) (w0 := w0) (q := b + 1) (N := 30) (f := r1) (v := 0) (q0lt := q1lt) (c0 := c1) (hN := by omega) s.heap.size) (z_cwS 2 hg wm_237 wm_466 wm_14 wm_236 (by decide +kernel) ⟨Nat.le_of_ble_eq_true rfl, Nat.le_of_ble_eq_true rfl⟩) (z_preS hK hG hn hH hA) rfl rfl hl.1 rfl (lv_room (Nat.le_of_ble_eq_true rfl)) d_B_load_5 ⟨Nat.zero_le _, Nat.zero_le _⟩) hH hA (fun  w3 H1 lc2 hH4 p5 => ?_)
  obtain ⟨⟨g1, e5, p5⟩, hg6⟩ := p5
  replace p5 : ∀ j : Int, 0 ≤ j → j < 30 → g1 j = (0 : Int) := p5
  have e7 : w3 b = .inr (4, [.ref (ad E (b + 1)), .ref (ad E (b + 2)), .ref (ad E (b + 3)), .ref (ad E (b + 4))]) := (hg6 b (nx_B_load_0 hbq)).trans c0
  have e8 : w3 (b + 2) = zar E 30 r2 := (hg6 (b + 2) (nx_B_load_1 hbq)).trans c2
  have e9 : w3 (b + 3) = zar E 30 r3 := (hg6 (b + 3) (nx_B_load_2 hbq)).trans c3
  have e10 : w3 (b + 4) = zar E 30 r4 := (hg6 (b + 4) (nx_B_load_3 hbq)).trans c4
  have e11 : w3 q = .inr (1, [.ref (zg E (1 + kd)), .int (iI pl), .ref (ad E (q + 1))]) := (hg6 q (nx_B_load_4 hbq)).trans c5
  have e12 : w3 (q + 1) = .inr (0, [.ref (ad E (q + 2)), .int (iI ng)]) := (hg6 (q + 1) (nx_B_load_5 hbq)).trans c6
  have e13 : w3 (q + 2) = zar E 15 f := (hg6 (q + 2) (nx_B_load_6 hbq)).trans c7
  have hf14 : ∀ k, k ≠ (b + 1) → w3 k = w0 k := fun k g0 => hg6 k g0
  have bg1 : bd g1 30 0 9999 := fun i a1 a2 => by rw [p5 i a1 a2]; decide
  refine lv_aload_n hx hb d_B_load_8 rfl (lv_at hl 1 rfl) ?_
  refine zv_get (C := "ScaledNumeralDesk$Numeral") (T := TN) (N := 3) hx hb hg uN_in hown hK hH4 q5lt e11 rfl 2 (by decide) (hg _ wm_65) (fun _ h9 => h9) rfl d_B_load_9 ?_
  refine zv_get (C := "ScaledNumeralDesk$Amount") (T := TA) (N := 2) hx hb hg uA_in hown hK hH4 q6lt e12 rfl 0 (by decide) (hg _ wm_44) (fun _ h9 => h9) rfl d_B_load_12 ?_
  refine zv_iconst hx hb d_B_load_15 ?_
  refine lv_aload_n hx hb d_B_load_16 rfl (lv_at hl 0 rfl) ?_
  refine zv_get (C := "ScaledNumeralDesk$Bench") (T := TB) (N := 4) hx hb hg uB_in hown hK hH4 q0lt e7 rfl 0 (by decide) (hg _ wm_115) (fun _ h9 => h9) rfl d_B_load_17 ?_
  refine lv_iload_n hx hb d_B_load_20 rfl (lv_at hl 2 rfl) ?_
  refine zv_bipush hx hb d_B_load_21 rfl ?_
  refine zv_copy hx hb hml hl.1 hown (hg _ wm_443) (hg _ wm_331) (hg _ wm_330) (hg _ wm_17) hK hH4 q7lt q1lt e13 e5 (by omega) (by omega) (by omega) (by omega) (by omega) (by omega) (by omega) (Nat.le_of_ble_eq_true rfl) (Nat.le_of_ble_eq_true rfl) d_B_load_23 (fun H16 lc17 w15 hH18 e19 hg20 => ?_)
  have bd21 : bd (cpZ f g1 0 x 15) 30 0 9999 := cp_bd bf bg1 (by omega) (by omega)
  have e22 : w15 b = .inr (4, [.ref (ad E (b + 1)), .ref (ad E (b + 2)), .ref (ad E (b + 3)), .ref (ad E (b + 4))]) := (hg20 b (nx_B_load_0 hbq)).trans e7
  have e23 : w15 (b + 2) = zar E 30 r2 := (hg20 (b + 2) (nx_B_load_1 hbq)).trans e8
  have e24 : w15 (b + 3) = zar E 30 r3 := (hg20 (b + 3) (nx_B_load_2 hbq)).trans e9
  have e25 : w15 (b + 4) = zar E 30 r4 := (hg20 (b + 4) (nx_B_load_3 hbq)).trans e10
  have e26 : w15 q = .inr (1, [.ref (zg E (1 + kd)), .int (iI pl), .ref (ad E (q + 1))]) := (hg20 q (nx_B_load_4 hbq)).trans e11
  have e27 : w15 (q + 1) = .inr (0, [.ref (ad E (q + 2)), .int (iI ng)]) := (hg20 (q + 1) (nx_B_load_5 hbq)).trans e12
  have e28 : w15 (q + 2) = zar E 15 f := (hg20 (q + 2) (nx_B_load_6 hbq)).trans e13
  have hf29 : ∀ k, k ≠ (b + 1) → w15 k = w0 k := fun k g0 => (hg20 k g0).trans (hf14 k g0)
  rw [hQ]
  exact z_vret hx hb hr hlk hH18 (⟨⟨(cpZ f g1 0 x 15), e19, bd21, ld_V hx0.1 (by omega) p5⟩, (fun k g0 => hf29 k g0)⟩) d_B_load_26
theorem nx_B_settle_0 {t y : Nat} (hyt : y < t) : t ≠ y := by omega
theorem nx_B_settle_1 {t y : Nat} (hyt : y < t) : t + 1 ≠ y := by omega
theorem nx_B_settle_2 {t y : Nat} (hyt : y < t) : t + 2 ≠ y := by omega
theorem nx_B_settle_3 {t y : Nat} (hyt : y < t) : y ≠ t := by omega
theorem nx_B_settle_4 {t y : Nat} (hyt : y < t) : y ≠ t + 1 := by omega
theorem nx_B_settle_5 {t y : Nat} (hyt : y < t) : y ≠ t + 2 := by omega
theorem nx_B_settle_6 {t y : Nat} (hyt : y < t) : t + 1 ≠ t := by omega
theorem nx_B_settle_7 {t y : Nat} (hyt : y < t) : t + 2 ≠ t := by omega
theorem nx_B_settle_8 {t y : Nat} (hyt : y < t) : t ≠ t + 2 := by omega
theorem nx_B_settle_9 {t y : Nat} (hyt : y < t) : t + 1 ≠ t + 2 := by omega
theorem nx_B_settle_10 {t y : Nat} (hyt : y < t) : t ≠ t + 1 := by omega
theorem nx_B_settle_11 {t y : Nat} (hyt : y < t) : t + 2 ≠ t + 1 := by omega
def rm_B_settle : Room := { frames := 3, cells := 0, slots := 0, locals := 66 }
set_option maxHeartbeats 4000000 in
set_option maxRecDepth 100000 in
theorem c_B_settle (l : Launch) (E : zE) (w0 : zW) (y : Nat) (u : Int → Int) (x ps mn : Int) (t : Nat) (kt : Nat) (pt nt : Int) (h : Int → Int) (q0lt : y < zn E) (q1lt : t < zn E) (q2lt : t + 1 < zn E) (q3lt : t + 2 < zn E) (c0 : w0 y = zar E 30 u) (c1 : w0 t = .inr (1, [.ref (zg E (1 + kt)), .int (iI pt), .ref (ad E (t + 1))])) (c2 : w0 (t + 1) = .inr (0, [.ref (ad E (t + 2)), .int (iI nt)])) (c3 : w0 (t + 2) = zar E 15 h) (bu : bd u 30 0 9999) (bh : bd h 15 0 9999) (hkt : kt < 4) (hnt : nt = 0 ∨ nt = 1) (hyt : y < t) (hx0 : 6 ≤ x ∧ x ≤ 12) (hps : 0 ≤ ps ∧ ps ≤ 24) (hmn : mn = 0 ∨ mn = 1) (hu : V u 30 < Bp 29) : zM l y_B_settle ws_B_settle rm_B_settle E [.ref (ad E y), .int (iI x), .int (iI ps), .int (iI mn), .ref (ad E t)] w0 (zQi E w0 (fun z w' => (∃ (u' : Int → Int) (k' : Nat) (p' : Int) (n' : Int) (f' : Int → Int), w' y = zar E 30 u' ∧ w' t = .inr (1, [.ref (zg E (1 + k')), .int (iI p'), .ref (ad E (t + 1))]) ∧ w' (t + 1) = .inr (0, [.ref (ad E (t + 2)), .int (iI n')]) ∧ w' (t + 2) = zar E 15 f' ∧ bd u' 30 0 9999 ∧ bd f' 15 0 9999 ∧ (k' < 4 ∧ (n' = 0 ∨ n' = 1) ∧ St z k' p' n' (V f' 15) (Rn (V u 30) (x * 4 - ps)) x ps mn)) ∧ ∀ k, k ≠ y → k ≠ t → k ≠ (t + 1) → k ≠ (t + 2) → w' k = w0 k)) := by
  refine z_met (cc := b_B_settle) (maxL := 6) (ret := (some .int)) (by decide +kernel) rfl (Nat.le_of_ble_eq_true rfl) ?_
  intro p e s m below meth cd ls a Qf hQ hC hl hH
  obtain ⟨hF, hr, hlk, hK, hG, hn⟩ := hC
  obtain ⟨hx, hb, hml, hown, hts⟩ := hF
  have hg : ∀ w ∈ GW, w.before a s = true := fun w h => hts w (List.mem_cons_of_mem _ h)
  have hA : ∀ q, s.heap.size ≤ q → va_A (wl E w0) s.heap.size q := fun q h => Or.inr h
  have hl : lv_has ls 6 [(0, .ref (ad E y)), (1, .int (iI x)), (2, .int (iI ps)), (3, .int (iI mn)), (4, .ref (ad E t))] := hl
  refine lv_iload_n hx hb d_B_settle_0 rfl (lv_at hl 1 rfl) ?_
  refine zv_iconst hx hb d_B_settle_1 ?_
  refine zv_imul hx hb d_B_settle_2 ?_
  refine lv_istore (lv' := [(5, .int (iI (x * 4))), (0, .ref (ad E y)), (1, .int (iI x)), (2, .int (iI ps)), (3, .int (iI mn)), (4, .ref (ad E t))]) hx hb d_B_settle_3 hl (by decide) rfl (fun ls hl => ?_)
  refine lv_aload_n hx hb d_B_settle_5 rfl (lv_at hl 1 rfl) ?_
  refine lv_iload hx hb d_B_settle_6 (lv_at hl 0 rfl) ?_
  refine lv_iload_n hx hb d_B_settle_8 rfl (lv_at hl 3 rfl) ?_
  refine zv_isub hx hb d_B_settle_9 ?_
  refine z_callv (va_runS (As := [.ref (ad E y), .int (iI ((x * 4) - ps))]) (rest := []) ⟨hx, hb, hml, hown, hts⟩ (c_roundOff (l := l) (E := E) (w0 := w0) (q := y) (N := 30) (f := u) (x := (x * 4) - ps) (q0lt := q0lt) (c0 := c0) (hN := by omega) (bf := bu) (hp := by omega) s.heap.size) (z_cwS 2 hg wm_435 wm_433 wm_16 wm_434 (by decide +kernel) ⟨Nat.le_of_ble_eq_true rfl, Nat.le_of_ble_eq_true rfl⟩) (z_preS hK hG hn hH hA) rfl rfl hl.1 rfl (lv_room (Nat.le_of_ble_eq_true rfl)) d_B_settle_10 ⟨Nat.zero_le _, Nat.zero_le _⟩) hH hA (fun  w3 H1 lc2 hH4 p10 => ?_)
  obtain ⟨⟨u1, e5, bd6, p10⟩, hg7⟩ := p10
  replace bd6 : bd u1 30 0 9999 := bd6
  replace p10 : V u1 30 = Rn (V u 30) ((x * 4) - ps) % Bp 30 := p10
  have e8 : w3 t = .inr (1, [.ref (zg E (1 + kt)), .int (iI pt), .ref (ad E (t + 1))]) := (hg7 t (nx_B_settle_0 hyt)).trans c1
  have e9 : w3 (t + 1) = .inr (0, [.ref (ad E (t + 2)), .int (iI nt)]) := (hg7 (t + 1) (nx_B_settle_1 hyt)).trans c2
  have e10 : w3 (t + 2) = zar E 15 h := (hg7 (t + 2) (nx_B_settle_2 hyt)).trans c3
  have hf11 : ∀ k, k ≠ y → w3 k = w0 k := fun k g0 => hg7 k g0
  have vu := V_in bu (show (0 : Int) ≤ 30 by decide) (Int.le_refl 30)
  rw [Rn_mod (N := 30) vu.1 (by decide) hu (by omega)] at p10
  have vu1 := V_in (f := u1) (by assumption) (show (0 : Int) ≤ 30 by decide) (Int.le_refl 30)
  refine lv_aload_n hx hb d_B_settle_13 rfl (lv_at hl 1 rfl) ?_
  refine z_calli (va_runS (As := [.ref (ad E y)]) (rest := []) ⟨hx, hb, hml, hown, hts⟩ (c_digits (l := l) (E := E) (w0 := w3) (q := y) (N := 30) (f := u1) (q0lt := q0lt) (c0 := e5) (hN := by omega) (bf := bd6) H1.size) (z_cwS 1 hg wm_311 wm_441 wm_16 wm_310 (by decide +kernel) ⟨Nat.le_of_ble_eq_true rfl, Nat.le_of_ble_eq_true rfl⟩) (z_preS hK hG hn hH4 hA) rfl rfl hl.1 rfl (lv_room (Nat.le_of_ble_eq_true rfl)) d_B_settle_14 ⟨Nat.zero_le _, Nat.zero_le _⟩) hH4 hA (fun d w14 H12 lc13 hH15 p14 => ?_)
  obtain ⟨ew16, p14⟩ := p14
  rw [ew16] at hH15
  replace p14 : dgs (V u1 30) d ∧ 0 ≤ d ∧ d ≤ 30 * 4 := p14
  have dg := dgs_gt (n := x * 4 + 32) p14.1 vu1.1 (by omega)
  rw [p10] at dg
  refine lv_iload hx hb d_B_settle_17 (lv_at hl 0 rfl) ?_
  refine zv_bipush hx hb d_B_settle_19 rfl ?_
  refine zv_iadd hx hb d_B_settle_21 ?_
  refine zv_icmp_le (tgt := 28) hx hb d_B_settle_22 rfl (by omega) (by omega) (fun h17 => ?_) (fun h17 => ?_)
  · refine lv_aload hx hb d_B_settle_28 (lv_at hl 5 rfl) ?_
    refine zv_kind hx hb hG hH15 hown 1 (by decide) (hg _ wm_442) (fun _ h9 => h9) d_B_settle_30 ?_
    refine z_callv (va_runV (As := [.ref (zg E (1 + 1))]) (rest := []) ⟨hx, hb, hml, hown, hts⟩ (c_N_become (l := l) (E := E) (w0 := w3) (q := t) (kd := kt) (k2 := 1) (pl := pt) (ng := nt) (f := h) (q0lt := q1lt) (q1lt := q2lt) (q2lt := q3lt) (c0 := e8) (c1 := e9) (c2 := e10) (bf := bh) (hkd := by omega) (hng := by omega) H12.size) (z_cwV (C := "ScaledNumeralDesk$Numeral") 1 hg wm_230 wm_378 wm_2 wm_228 wm_229 (by decide +kernel) ⟨Nat.le_of_ble_eq_true rfl, Nat.le_of_ble_eq_true rfl⟩) (z_preV (r := ("ScaledNumeralDesk$Numeral", TN, 3)) hK hG hn hH15 hA q1lt e8 rfl) rfl rfl hl.1 rfl (lv_room (Nat.le_of_ble_eq_true rfl)) d_B_settle_33 ⟨Nat.zero_le _, Nat.zero_le _⟩) hH15 hA (fun  w20 H18 lc19 hH21 p33 => ?_)
    obtain ⟨⟨f_22, e23, e24, e25, bd26, p33⟩, hg27⟩ := p33
    replace bd26 : bd f_22 15 0 9999 := bd26
    replace p33 : ∀ j : Int, 0 ≤ j → j < 15 → f_22 j = 0 := p33
    have e28 : w20 y = zar E 30 u1 := (hg27 y (nx_B_settle_3 hyt) (nx_B_settle_4 hyt) (nx_B_settle_5 hyt)).trans e5
    have hf29 : ∀ k, k ≠ y → k ≠ t → k ≠ (t + 1) → k ≠ (t + 2) → w20 k = w0 k := fun k g0 g1 g2 g3 => (hg27 k g1 g2 g3).trans (hf11 k g0)
    refine lv_aload hx hb d_B_settle_36 (lv_at hl 5 rfl) ?_
    refine lv_iload_n hx hb d_B_settle_38 rfl (lv_at hl 3 rfl) ?_
    refine zv_put (C := "ScaledNumeralDesk$Numeral") (T := TN) (N := 3) (fs' := [.ref (zg E (1 + 1)), .int (iI ps), .ref (ad E (t + 1))]) hx hb hg uN_in tyN tyN_ok nmN hown hK hH21 q1lt e23 rfl 1 (by decide) (hg _ wm_60) (fun _ h9 => h9) rfl (ty := tyN 1) (by decide +kernel) (rfl) (by rfl) (Nat.le_of_ble_eq_true rfl) d_B_settle_39 rfl (fun H31 lc32 w30 hH33 e34 hg35 => ?_)
    have e36 : w30 y = zar E 30 u1 := (hg35 y (nx_B_settle_3 hyt)).trans e28
    have e37 : w30 (t + 1) = .inr (0, [.ref (ad E (t + 2)), .int (iI 0)]) := (hg35 (t + 1) (nx_B_settle_6 hyt)).trans e24
    have e38 : w30 (t + 2) = zar E 15 f_22 := (hg35 (t + 2) (nx_B_settle_7 hyt)).trans e25
    have hf39 : ∀ k, k ≠ y → k ≠ t → k ≠ (t + 1) → k ≠ (t + 2) → w30 k = w0 k := fun k g0 g1 g2 g3 => (hg35 k g1).trans (hf29 k g0 g1 g2 g3)
    refine lv_aload_n hx hb d_B_settle_42 rfl (lv_at hl 1 rfl) ?_
    refine lv_iload_n hx hb d_B_settle_43 rfl (lv_at hl 2 rfl) ?_
    refine zv_bipush hx hb d_B_settle_44 rfl ?_
    refine zv_isub hx hb d_B_settle_46 ?_
    refine lv_aload hx hb d_B_settle_47 (lv_at hl 5 rfl) ?_
    refine zv_get (C := "ScaledNumeralDesk$Numeral") (T := TN) (N := 3) hx hb hg uN_in hown hK hH33 q1lt e34 rfl 2 (by decide) (hg _ wm_65) (fun _ h9 => h9) rfl d_B_settle_49 ?_
    refine zv_get (C := "ScaledNumeralDesk$Amount") (T := TA) (N := 2) hx hb hg uA_in hown hK hH33 q2lt e37 rfl 0 (by decide) (hg _ wm_44) (fun _ h9 => h9) rfl d_B_settle_52 ?_
    refine zv_iconst hx hb d_B_settle_55 ?_
    refine zv_bipush hx hb d_B_settle_56 rfl ?_
    refine zv_copy hx hb hml hl.1 hown (hg _ wm_443) (hg _ wm_331) (hg _ wm_330) (hg _ wm_17) hK hH33 q0lt q3lt e36 e38 (by omega) (by omega) (by omega) (by omega) (by omega) (by omega) (by omega) (Nat.le_of_ble_eq_true rfl) (Nat.le_of_ble_eq_true rfl) d_B_settle_58 (fun H41 lc42 w40 hH43 e44 hg45 => ?_)
    have bd46 : bd (cpZ u1 f_22 (x - 6) 0 15) 15 0 9999 := cp_bd bd6 bd26 (by omega) (by omega)
    have e47 : w40 y = zar E 30 u1 := (hg45 y (nx_B_settle_5 hyt)).trans e36
    have e48 : w40 t = .inr (1, [.ref (zg E (1 + 1)), .int (iI ps), .ref (ad E (t + 1))]) := (hg45 t (nx_B_settle_8 hyt)).trans e34
    have e49 : w40 (t + 1) = .inr (0, [.ref (ad E (t + 2)), .int (iI 0)]) := (hg45 (t + 1) (nx_B_settle_9 hyt)).trans e37
    have hf50 : ∀ k, k ≠ y → k ≠ t → k ≠ (t + 1) → k ≠ (t + 2) → w40 k = w0 k := fun k g0 g1 g2 g3 => (hg45 k g3).trans (hf39 k g0 g1 g2 g3)
    refine lv_aload hx hb d_B_settle_61 (lv_at hl 5 rfl) ?_
    refine zv_get (C := "ScaledNumeralDesk$Numeral") (T := TN) (N := 3) hx hb hg uN_in hown hK hH43 q1lt e48 rfl 2 (by decide) (hg _ wm_65) (fun _ h9 => h9) rfl d_B_settle_63 ?_
    refine lv_iload_n hx hb d_B_settle_66 rfl (lv_at hl 4 rfl) ?_
    refine z_callv (va_runV (As := [.int (iI mn)]) (rest := []) ⟨hx, hb, hml, hown, hts⟩ (c_A_signAs (l := l) (E := E) (w0 := w40) (q := t + 1) (f := cpZ u1 f_22 (x - 6) 0 15) (ng := 0) (mn := mn) (q0lt := q2lt) (q1lt := q3lt) (c0 := e49) (c1 := e44) (bf := bd46) (hmn := by omega) H41.size) (z_cwV (C := "ScaledNumeralDesk$Amount") 1 hg wm_293 wm_444 wm_5 wm_291 wm_292 (by decide +kernel) ⟨Nat.le_of_ble_eq_true rfl, Nat.le_of_ble_eq_true rfl⟩) (z_preV (r := ("ScaledNumeralDesk$Amount", TA, 2)) hK hG hn hH43 hA q2lt e49 rfl) rfl rfl hl.1 rfl (lv_room (Nat.le_of_ble_eq_true rfl)) d_B_settle_67 ⟨Nat.zero_le _, Nat.zero_le _⟩) hH43 hA (fun  w53 H51 lc52 hH54 p67 => ?_)
    obtain ⟨⟨n_55, e56, p67⟩, hg57⟩ := p67
    replace p67 : (n_55 = 0 ∨ n_55 = 1) ∧ (V (cpZ u1 f_22 (x - 6) 0 15) 15 = 0 → n_55 = 0) ∧ (0 < V (cpZ u1 f_22 (x - 6) 0 15) 15 → n_55 = mn) := p67
    have e58 : w53 y = zar E 30 u1 := (hg57 y (nx_B_settle_4 hyt)).trans e47
    have e59 : w53 t = .inr (1, [.ref (zg E (1 + 1)), .int (iI ps), .ref (ad E (t + 1))]) := (hg57 t (nx_B_settle_10 hyt)).trans e48
    have e60 : w53 (t + 2) = zar E 15 (cpZ u1 f_22 (x - 6) 0 15) := (hg57 (t + 2) (nx_B_settle_11 hyt)).trans e44
    have hf61 : ∀ k, k ≠ y → k ≠ t → k ≠ (t + 1) → k ≠ (t + 2) → w53 k = w0 k := fun k g0 g1 g2 g3 => (hg57 k g2).trans (hf50 k g0 g1 g2 g3)
    refine zv_iconst hx hb d_B_settle_70 ?_
    have hlt : Rn (V u 30) (x * 4 - ps) < Tp (x * 4 + 32) := Int.not_le.mp (fun hh => absurd (dg.mpr hh) (by omega))
    rw [hQ]
    exact z_iret hx hb hr hlk hH54 (⟨⟨u1, 1, ps, n_55, (cpZ u1 f_22 (x - 6) 0 15), e58, e59, e56, e60, bd6, bd46, ⟨by decide, p67.1, Or.inr ⟨rfl, hlt, rfl, rfl, st_V (by assumption) hx0.1 (by omega) p10 hlt, p67.2.1, p67.2.2⟩⟩⟩, (fun k g0 g1 g2 g3 => hf61 k g0 g1 g2 g3)⟩) d_B_settle_71
  · refine zv_bipush hx hb d_B_settle_25 rfl ?_
    rw [hQ]
    exact z_iret hx hb hr hlk hH15 (⟨⟨u1, kt, pt, nt, h, e5, e8, e9, e10, bd6, bh, ⟨hkt, hnt, Or.inl ⟨rfl, dg.mp (by omega)⟩⟩⟩, (fun k g0 g1 g2 g3 => hf11 k g0)⟩) d_B_settle_27
theorem nx_B_add_0 {b q r t : Nat} (hqt : t + 2 < q) (hrt : t + 2 < r) (hbt : b + 4 < t) : b ≠ t := by omega
theorem nx_B_add_1 {b q r t : Nat} (hqt : t + 2 < q) (hrt : t + 2 < r) (hbt : b + 4 < t) : b ≠ t + 1 := by omega
theorem nx_B_add_2 {b q r t : Nat} (hqt : t + 2 < q) (hrt : t + 2 < r) (hbt : b + 4 < t) : b ≠ t + 2 := by omega
theorem nx_B_add_3 {b q r t : Nat} (hqt : t + 2 < q) (hrt : t + 2 < r) (hbt : b + 4 < t) : b + 1 ≠ t := by omega
theorem nx_B_add_4 {b q r t : Nat} (hqt : t + 2 < q) (hrt : t + 2 < r) (hbt : b + 4 < t) : b + 1 ≠ t + 1 := by omega
theorem nx_B_add_5 {b q r t : Nat} (hqt : t + 2 < q) (hrt : t + 2 < r) (hbt : b + 4 < t) : b + 1 ≠ t + 2 := by omega
theorem nx_B_add_6 {b q r t : Nat} (hqt : t + 2 < q) (hrt : t + 2 < r) (hbt : b + 4 < t) : b + 2 ≠ t := by omega
theorem nx_B_add_7 {b q r t : Nat} (hqt : t + 2 < q) (hrt : t + 2 < r) (hbt : b + 4 < t) : b + 2 ≠ t + 1 := by omega
theorem nx_B_add_8 {b q r t : Nat} (hqt : t + 2 < q) (hrt : t + 2 < r) (hbt : b + 4 < t) : b + 2 ≠ t + 2 := by omega
theorem nx_B_add_9 {b q r t : Nat} (hqt : t + 2 < q) (hrt : t + 2 < r) (hbt : b + 4 < t) : b + 3 ≠ t := by omega
theorem nx_B_add_10 {b q r t : Nat} (hqt : t + 2 < q) (hrt : t + 2 < r) (hbt : b + 4 < t) : b + 3 ≠ t + 1 := by omega
theorem nx_B_add_11 {b q r t : Nat} (hqt : t + 2 < q) (hrt : t + 2 < r) (hbt : b + 4 < t) : b + 3 ≠ t + 2 := by omega
theorem nx_B_add_12 {b q r t : Nat} (hqt : t + 2 < q) (hrt : t + 2 < r) (hbt : b + 4 < t) : b + 4 ≠ t := by omega
theorem nx_B_add_13 {b q r t : Nat} (hqt : t + 2 < q) (hrt : t + 2 < r) (hbt : b + 4 < t) : b + 4 ≠ t + 1 := by omega
theorem nx_B_add_14 {b q r t : Nat} (hqt : t + 2 < q) (hrt : t + 2 < r) (hbt : b + 4 < t) : b + 4 ≠ t + 2 := by omega
theorem nx_B_add_15 {b q r t : Nat} (hqt : t + 2 < q) (hrt : t + 2 < r) (hbt : b + 4 < t) : q ≠ t := by omega
theorem nx_B_add_16 {b q r t : Nat} (hqt : t + 2 < q) (hrt : t + 2 < r) (hbt : b + 4 < t) : q ≠ t + 1 := by omega
theorem nx_B_add_17 {b q r t : Nat} (hqt : t + 2 < q) (hrt : t + 2 < r) (hbt : b + 4 < t) : q ≠ t + 2 := by omega
theorem nx_B_add_18 {b q r t : Nat} (hqt : t + 2 < q) (hrt : t + 2 < r) (hbt : b + 4 < t) : q + 1 ≠ t := by omega
theorem nx_B_add_19 {b q r t : Nat} (hqt : t + 2 < q) (hrt : t + 2 < r) (hbt : b + 4 < t) : q + 1 ≠ t + 1 := by omega
theorem nx_B_add_20 {b q r t : Nat} (hqt : t + 2 < q) (hrt : t + 2 < r) (hbt : b + 4 < t) : q + 1 ≠ t + 2 := by omega
theorem nx_B_add_21 {b q r t : Nat} (hqt : t + 2 < q) (hrt : t + 2 < r) (hbt : b + 4 < t) : q + 2 ≠ t := by omega
theorem nx_B_add_22 {b q r t : Nat} (hqt : t + 2 < q) (hrt : t + 2 < r) (hbt : b + 4 < t) : q + 2 ≠ t + 1 := by omega
theorem nx_B_add_23 {b q r t : Nat} (hqt : t + 2 < q) (hrt : t + 2 < r) (hbt : b + 4 < t) : q + 2 ≠ t + 2 := by omega
theorem nx_B_add_24 {b q r t : Nat} (hqt : t + 2 < q) (hrt : t + 2 < r) (hbt : b + 4 < t) : r ≠ t := by omega
theorem nx_B_add_25 {b q r t : Nat} (hqt : t + 2 < q) (hrt : t + 2 < r) (hbt : b + 4 < t) : r ≠ t + 1 := by omega
theorem nx_B_add_26 {b q r t : Nat} (hqt : t + 2 < q) (hrt : t + 2 < r) (hbt : b + 4 < t) : r ≠ t + 2 := by omega
theorem nx_B_add_27 {b q r t : Nat} (hqt : t + 2 < q) (hrt : t + 2 < r) (hbt : b + 4 < t) : r + 1 ≠ t := by omega
theorem nx_B_add_28 {b q r t : Nat} (hqt : t + 2 < q) (hrt : t + 2 < r) (hbt : b + 4 < t) : r + 1 ≠ t + 1 := by omega
theorem nx_B_add_29 {b q r t : Nat} (hqt : t + 2 < q) (hrt : t + 2 < r) (hbt : b + 4 < t) : r + 1 ≠ t + 2 := by omega
theorem nx_B_add_30 {b q r t : Nat} (hqt : t + 2 < q) (hrt : t + 2 < r) (hbt : b + 4 < t) : r + 2 ≠ t := by omega
theorem nx_B_add_31 {b q r t : Nat} (hqt : t + 2 < q) (hrt : t + 2 < r) (hbt : b + 4 < t) : r + 2 ≠ t + 1 := by omega
theorem nx_B_add_32 {b q r t : Nat} (hqt : t + 2 < q) (hrt : t + 2 < r) (hbt : b + 4 < t) : r + 2 ≠ t + 2 := by omega
theorem nx_B_add_33 {b q r t : Nat} (hqt : t + 2 < q) (hrt : t + 2 < r) (hbt : b + 4 < t) : t ≠ t + 1 := by omega
theorem nx_B_add_34 {b q r t : Nat} (hqt : t + 2 < q) (hrt : t + 2 < r) (hbt : b + 4 < t) : t ≠ t + 2 := by omega
theorem nx_B_add_35 {b q r t : Nat} (hqt : t + 2 < q) (hrt : t + 2 < r) (hbt : b + 4 < t) : t + 1 ≠ t := by omega
theorem nx_B_add_36 {b q r t : Nat} (hqt : t + 2 < q) (hrt : t + 2 < r) (hbt : b + 4 < t) : t + 2 ≠ t := by omega
def rm_B_add : Room := { frames := 5, cells := 0, slots := 0, locals := 105 }
set_option maxHeartbeats 4000000 in
set_option maxRecDepth 100000 in
theorem c_B_add (l : Launch) (E : zE) (w0 : zW) (b : Nat) (r1 r2 r3 r4 : Int → Int) (q : Nat) (kd : Nat) (pl ng : Int) (f : Int → Int) (r : Nat) (ko : Nat) (po no : Int) (g : Int → Int) (t : Nat) (kt : Nat) (pt nt : Int) (h : Int → Int) (ta : Int) (q0lt : b < zn E) (q1lt : b + 1 < zn E) (q2lt : b + 2 < zn E) (q3lt : b + 3 < zn E) (q4lt : b + 4 < zn E) (q5lt : q < zn E) (q6lt : q + 1 < zn E) (q7lt : q + 2 < zn E) (q8lt : r < zn E) (q9lt : r + 1 < zn E) (q10lt : r + 2 < zn E) (q11lt : t < zn E) (q12lt : t + 1 < zn E) (q13lt : t + 2 < zn E) (c0 : w0 b = .inr (4, [.ref (ad E (b + 1)), .ref (ad E (b + 2)), .ref (ad E (b + 3)), .ref (ad E (b + 4))])) (c1 : w0 (b + 1) = zar E 30 r1) (c2 : w0 (b + 2) = zar E 30 r2) (c3 : w0 (b + 3) = zar E 30 r3) (c4 : w0 (b + 4) = zar E 30 r4) (c5 : w0 q = .inr (1, [.ref (zg E (1 + kd)), .int (iI pl), .ref (ad E (q + 1))])) (c6 : w0 (q + 1) = .inr (0, [.ref (ad E (q + 2)), .int (iI ng)])) (c7 : w0 (q + 2) = zar E 15 f) (c8 : w0 r = .inr (1, [.ref (zg E (1 + ko)), .int (iI po), .ref (ad E (r + 1))])) (c9 : w0 (r + 1) = .inr (0, [.ref (ad E (r + 2)), .int (iI no)])) (c10 : w0 (r + 2) = zar E 15 g) (c11 : w0 t = .inr (1, [.ref (zg E (1 + kt)), .int (iI pt), .ref (ad E (t + 1))])) (c12 : w0 (t + 1) = .inr (0, [.ref (ad E (t + 2)), .int (iI nt)])) (c13 : w0 (t + 2) = zar E 15 h) (br1 : bd r1 30 0 9999) (br2 : bd r2 30 0 9999) (br3 : bd r3 30 0 9999) (br4 : bd r4 30 0 9999) (bf : bd f 15 0 9999) (hkd : kd < 4) (hng : ng = 0 ∨ ng = 1) (hpl : 0 ≤ pl ∧ pl ≤ 24) (vA : V f 15 < Bp 14) (bg : bd g 15 0 9999) (hko : ko < 4) (hno : no = 0 ∨ no = 1) (hpo : 0 ≤ po ∧ po ≤ 24) (vB : V g 15 < Bp 14) (bh : bd h 15 0 9999) (hkt : kt < 4) (hnt : nt = 0 ∨ nt = 1) (hqt : t + 2 < q) (hrt : t + 2 < r) (hbt : b + 4 < t) (hta : ta = 0 ∨ ta = 1) : zM l y_B_add ws_B_add rm_B_add E [.ref (ad E b), .ref (ad E q), .ref (ad E r), .int (iI ta), .ref (ad E t)] w0 (zQi E w0 (fun z w' => (∃ (k' : Nat) (p' : Int) (n' : Int) (f' : Int → Int), w' t = .inr (1, [.ref (zg E (1 + k')), .int (iI p'), .ref (ad E (t + 1))]) ∧ w' (t + 1) = .inr (0, [.ref (ad E (t + 2)), .int (iI n')]) ∧ w' (t + 2) = zar E 15 f' ∧ bd f' 15 0 9999 ∧ (k' = kd ∧ (n' = 0 ∨ n' = 1) ∧ p' = max pl po ∧ (V f' 15 = 0 → n' = 0) ∧ sv n' (V f' 15) = sv ng (V f 15) + tk ta (sv no (V g 15)) ∧ ((z = -3 ∧ Tp 56 ≤ V f' 15) ∨ (z = 0 ∧ V f' 15 < Tp 56)))) ∧ ∀ k, k ≠ t → k ≠ (t + 1) → k ≠ (t + 2) → w' k = w0 k)) := by
  refine z_met (cc := b_B_add) (maxL := 5) (ret := (some .int)) (by decide +kernel) rfl (Nat.le_of_ble_eq_true rfl) ?_
  intro p e s m below meth cd ls a Qf hQ hC hl hH
  obtain ⟨hF, hr, hlk, hK, hG, hn⟩ := hC
  obtain ⟨hx, hb, hml, hown, hts⟩ := hF
  have hg : ∀ w ∈ GW, w.before a s = true := fun w h => hts w (List.mem_cons_of_mem _ h)
  have hA : ∀ q, s.heap.size ≤ q → va_A (wl E w0) s.heap.size q := fun q h => Or.inr h
  have hl : lv_has ls 5 [(0, .ref (ad E b)), (1, .ref (ad E q)), (2, .ref (ad E r)), (3, .int (iI ta)), (4, .ref (ad E t))] := hl
  have vf := V_in bf (show (0 : Int) ≤ 15 by decide) (Int.le_refl 15)
  have vg := V_in bg (show (0 : Int) ≤ 15 by decide) (Int.le_refl 15)
  have b14 : Bp 15 = 10000 * Bp 14 := Bp_s (i := 14) (by decide)
  refine lv_aload hx hb d_B_add_0 (lv_at hl 4 rfl) ?_
  refine lv_aload_n hx hb d_B_add_2 rfl (lv_at hl 1 rfl) ?_
  refine z_callv (va_runV (As := [.ref (ad E q)]) (rest := []) ⟨hx, hb, hml, hown, hts⟩ (c_N_take (l := l) (E := E) (w0 := w0) (q := t) (r := q) (kd := kt) (ko := kd) (pl := pt) (po := pl) (ng := nt) (no := ng) (f := h) (g := f) (q0lt := q11lt) (q1lt := q12lt) (q2lt := q13lt) (q3lt := q5lt) (q4lt := q6lt) (q5lt := q7lt) (c0 := c11) (c1 := c12) (c2 := c13) (c3 := c5) (c4 := c6) (c5 := c7) (bf := bh) (hkd := by omega) (hng := by omega) (bg := bf) (hko := by omega) (hno := by omega) (hqr := by omega) s.heap.size) (z_cwV (C := "ScaledNumeralDesk$Numeral") 1 hg wm_324 wm_384 wm_2 wm_322 wm_323 (by decide +kernel) ⟨Nat.le_of_ble_eq_true rfl, Nat.le_of_ble_eq_true rfl⟩) (z_preV (r := ("ScaledNumeralDesk$Numeral", TN, 3)) hK hG hn hH hA q11lt c11 rfl) rfl rfl hl.1 rfl (lv_room (Nat.le_of_ble_eq_true rfl)) d_B_add_3 ⟨Nat.zero_le _, Nat.zero_le _⟩) hH hA (fun  w3 H1 lc2 hH4 p3 => ?_)
  obtain ⟨⟨f_5, e6, e7, e8, bd9, p3⟩, hg10⟩ := p3
  replace bd9 : bd f_5 15 0 9999 := bd9
  replace p3 : V f_5 15 = V f 15 := p3
  have e11 : w3 b = .inr (4, [.ref (ad E (b + 1)), .ref (ad E (b + 2)), .ref (ad E (b + 3)), .ref (ad E (b + 4))]) := (hg10 b (nx_B_add_0 hqt hrt hbt) (nx_B_add_1 hqt hrt hbt) (nx_B_add_2 hqt hrt hbt)).trans c0
  have e12 : w3 (b + 1) = zar E 30 r1 := (hg10 (b + 1) (nx_B_add_3 hqt hrt hbt) (nx_B_add_4 hqt hrt hbt) (nx_B_add_5 hqt hrt hbt)).trans c1
  have e13 : w3 (b + 2) = zar E 30 r2 := (hg10 (b + 2) (nx_B_add_6 hqt hrt hbt) (nx_B_add_7 hqt hrt hbt) (nx_B_add_8 hqt hrt hbt)).trans c2
  have e14 : w3 (b + 3) = zar E 30 r3 := (hg10 (b + 3) (nx_B_add_9 hqt hrt hbt) (nx_B_add_10 hqt hrt hbt) (nx_B_add_11 hqt hrt hbt)).trans c3
  have e15 : w3 (b + 4) = zar E 30 r4 := (hg10 (b + 4) (nx_B_add_12 hqt hrt hbt) (nx_B_add_13 hqt hrt hbt) (nx_B_add_14 hqt hrt hbt)).trans c4
  have e16 : w3 q = .inr (1, [.ref (zg E (1 + kd)), .int (iI pl), .ref (ad E (q + 1))]) := (hg10 q (nx_B_add_15 hqt hrt hbt) (nx_B_add_16 hqt hrt hbt) (nx_B_add_17 hqt hrt hbt)).trans c5
  have e17 : w3 (q + 1) = .inr (0, [.ref (ad E (q + 2)), .int (iI ng)]) := (hg10 (q + 1) (nx_B_add_18 hqt hrt hbt) (nx_B_add_19 hqt hrt hbt) (nx_B_add_20 hqt hrt hbt)).trans c6
  have e18 : w3 (q + 2) = zar E 15 f := (hg10 (q + 2) (nx_B_add_21 hqt hrt hbt) (nx_B_add_22 hqt hrt hbt) (nx_B_add_23 hqt hrt hbt)).trans c7
  have e19 : w3 r = .inr (1, [.ref (zg E (1 + ko)), .int (iI po), .ref (ad E (r + 1))]) := (hg10 r (nx_B_add_24 hqt hrt hbt) (nx_B_add_25 hqt hrt hbt) (nx_B_add_26 hqt hrt hbt)).trans c8
  have e20 : w3 (r + 1) = .inr (0, [.ref (ad E (r + 2)), .int (iI no)]) := (hg10 (r + 1) (nx_B_add_27 hqt hrt hbt) (nx_B_add_28 hqt hrt hbt) (nx_B_add_29 hqt hrt hbt)).trans c9
  have e21 : w3 (r + 2) = zar E 15 g := (hg10 (r + 2) (nx_B_add_30 hqt hrt hbt) (nx_B_add_31 hqt hrt hbt) (nx_B_add_32 hqt hrt hbt)).trans c10
  have hf22 : ∀ k, k ≠ t → k ≠ (t + 1) → k ≠ (t + 2) → w3 k = w0 k := fun k g0 g1 g2 => hg10 k g0 g1 g2
  refine lv_aload hx hb d_B_add_6 (lv_at hl 4 rfl) ?_
  refine zv_get (C := "ScaledNumeralDesk$Numeral") (T := TN) (N := 3) hx hb hg uN_in hown hK hH4 q11lt e6 rfl 2 (by decide) (hg _ wm_65) (fun _ h9 => h9) rfl d_B_add_8 ?_
  refine lv_aload_n hx hb d_B_add_11 rfl (lv_at hl 2 rfl) ?_
  refine zv_get (C := "ScaledNumeralDesk$Numeral") (T := TN) (N := 3) hx hb hg uN_in hown hK hH4 q8lt e19 rfl 2 (by decide) (hg _ wm_65) (fun _ h9 => h9) rfl d_B_add_12 ?_
  refine lv_iload_n hx hb d_B_add_15 rfl (lv_at hl 3 rfl) ?_
  refine z_callv (va_runV (As := [.ref (ad E (r + 1)), .int (iI ta)]) (rest := []) ⟨hx, hb, hml, hown, hts⟩ (c_A_increase (l := l) (E := E) (w0 := w3) (q := t + 1) (r := r + 1) (f := f_5) (g := g) (ng := ng) (no := no) (ta := ta) (q0lt := q12lt) (q1lt := q13lt) (q2lt := q9lt) (q3lt := q10lt) (c0 := e7) (c1 := e8) (c2 := e20) (c3 := e21) (bf := bd9) (bg := bg) (hno := by omega) (hqr := by omega) (hng := by omega) (hta := by omega) (hs := by omega) H1.size) (z_cwV (C := "ScaledNumeralDesk$Amount") 2 hg wm_388 wm_385 wm_5 wm_386 wm_387 (by decide +kernel) ⟨Nat.le_of_ble_eq_true rfl, Nat.le_of_ble_eq_true rfl⟩) (z_preV (r := ("ScaledNumeralDesk$Amount", TA, 2)) hK hG hn hH4 hA q12lt e7 rfl) rfl rfl hl.1 rfl (lv_room (Nat.le_of_ble_eq_true rfl)) d_B_add_16 ⟨Nat.zero_le _, Nat.zero_le _⟩) hH4 hA (fun  w25 H23 lc24 hH26 p16 => ?_)
  obtain ⟨⟨n_27, f_28, e29, e30, bd31, p16⟩, hg32⟩ := p16
  replace bd31 : bd f_28 15 0 9999 := bd31
  replace p16 : (n_27 = 0 ∨ n_27 = 1) ∧ (V f_28 15 = 0 → n_27 = 0) ∧ sv n_27 (V f_28 15) = sv ng (V f_5 15) + tk ta (sv no (V g 15)) := p16
  have e33 : w25 b = .inr (4, [.ref (ad E (b + 1)), .ref (ad E (b + 2)), .ref (ad E (b + 3)), .ref (ad E (b + 4))]) := (hg32 b (nx_B_add_1 hqt hrt hbt) (nx_B_add_2 hqt hrt hbt)).trans e11
  have e34 : w25 (b + 1) = zar E 30 r1 := (hg32 (b + 1) (nx_B_add_4 hqt hrt hbt) (nx_B_add_5 hqt hrt hbt)).trans e12
  have e35 : w25 (b + 2) = zar E 30 r2 := (hg32 (b + 2) (nx_B_add_7 hqt hrt hbt) (nx_B_add_8 hqt hrt hbt)).trans e13
  have e36 : w25 (b + 3) = zar E 30 r3 := (hg32 (b + 3) (nx_B_add_10 hqt hrt hbt) (nx_B_add_11 hqt hrt hbt)).trans e14
  have e37 : w25 (b + 4) = zar E 30 r4 := (hg32 (b + 4) (nx_B_add_13 hqt hrt hbt) (nx_B_add_14 hqt hrt hbt)).trans e15
  have e38 : w25 q = .inr (1, [.ref (zg E (1 + kd)), .int (iI pl), .ref (ad E (q + 1))]) := (hg32 q (nx_B_add_16 hqt hrt hbt) (nx_B_add_17 hqt hrt hbt)).trans e16
  have e39 : w25 (q + 1) = .inr (0, [.ref (ad E (q + 2)), .int (iI ng)]) := (hg32 (q + 1) (nx_B_add_19 hqt hrt hbt) (nx_B_add_20 hqt hrt hbt)).trans e17
  have e40 : w25 (q + 2) = zar E 15 f := (hg32 (q + 2) (nx_B_add_22 hqt hrt hbt) (nx_B_add_23 hqt hrt hbt)).trans e18
  have e41 : w25 r = .inr (1, [.ref (zg E (1 + ko)), .int (iI po), .ref (ad E (r + 1))]) := (hg32 r (nx_B_add_25 hqt hrt hbt) (nx_B_add_26 hqt hrt hbt)).trans e19
  have e42 : w25 (r + 1) = .inr (0, [.ref (ad E (r + 2)), .int (iI no)]) := (hg32 (r + 1) (nx_B_add_28 hqt hrt hbt) (nx_B_add_29 hqt hrt hbt)).trans e20
  have e43 : w25 (r + 2) = zar E 15 g := (hg32 (r + 2) (nx_B_add_31 hqt hrt hbt) (nx_B_add_32 hqt hrt hbt)).trans e21
  have e44 : w25 t = .inr (1, [.ref (zg E (1 + kd)), .int (iI pl), .ref (ad E (t + 1))]) := (hg32 t (nx_B_add_33 hqt hrt hbt) (nx_B_add_34 hqt hrt hbt)).trans e6
  have hf45 : ∀ k, k ≠ t → k ≠ (t + 1) → k ≠ (t + 2) → w25 k = w0 k := fun k g0 g1 g2 => (hg32 k g1 g2).trans (hf22 k g0 g1 g2)
  rw [p3] at p16
  refine lv_aload hx hb d_B_add_19 (lv_at hl 4 rfl) ?_
  refine lv_aload_n hx hb d_B_add_21 rfl (lv_at hl 1 rfl) ?_
  refine zv_get (C := "ScaledNumeralDesk$Numeral") (T := TN) (N := 3) hx hb hg uN_in hown hK hH26 q5lt e38 rfl 1 (by decide) (hg _ wm_60) (fun _ h9 => h9) rfl d_B_add_22 ?_
  refine lv_aload_n hx hb d_B_add_25 rfl (lv_at hl 2 rfl) ?_
  refine zv_get (C := "ScaledNumeralDesk$Numeral") (T := TN) (N := 3) hx hb hg uN_in hown hK hH26 q8lt e41 rfl 1 (by decide) (hg _ wm_60) (fun _ h9 => h9) rfl d_B_add_26 ?_
  refine z_calli (va_runS (As := [.int (iI pl), .int (iI po)]) (rest := [.ref (ad E t)]) ⟨hx, hb, hml, hown, hts⟩ (c_max (l := l) (E := E) (w0 := w25) (x := pl) (y := po) (zx := by omega) (zy := by omega) H23.size) (z_cwS 2 hg wm_275 wm_400 wm_15 wm_274 (by decide +kernel) ⟨Nat.le_of_ble_eq_true rfl, Nat.le_of_ble_eq_true rfl⟩) (z_preS hK hG hn hH26 hA) rfl rfl hl.1 rfl (lv_room (Nat.le_of_ble_eq_true rfl)) d_B_add_29 ⟨Nat.zero_le _, Nat.zero_le _⟩) hH26 hA (fun z50 w48 H46 lc47 hH49 p29 => ?_)
  obtain ⟨ew51, p29⟩ := p29
  rw [ew51] at hH49
  replace p29 : z50 = max pl po := p29
  refine zv_put (C := "ScaledNumeralDesk$Numeral") (T := TN) (N := 3) (fs' := [.ref (zg E (1 + kd)), .int (iI z50), .ref (ad E (t + 1))]) hx hb hg uN_in tyN tyN_ok nmN hown hK hH49 q11lt e44 rfl 1 (by decide) (hg _ wm_60) (fun _ h9 => h9) rfl (ty := tyN 1) (by decide +kernel) (rfl) (by rfl) (Nat.le_of_ble_eq_true rfl) d_B_add_32 rfl (fun H53 lc54 w52 hH55 e56 hg57 => ?_)
  have e58 : w52 b = .inr (4, [.ref (ad E (b + 1)), .ref (ad E (b + 2)), .ref (ad E (b + 3)), .ref (ad E (b + 4))]) := (hg57 b (nx_B_add_0 hqt hrt hbt)).trans e33
  have e59 : w52 (b + 1) = zar E 30 r1 := (hg57 (b + 1) (nx_B_add_3 hqt hrt hbt)).trans e34
  have e60 : w52 (b + 2) = zar E 30 r2 := (hg57 (b + 2) (nx_B_add_6 hqt hrt hbt)).trans e35
  have e61 : w52 (b + 3) = zar E 30 r3 := (hg57 (b + 3) (nx_B_add_9 hqt hrt hbt)).trans e36
  have e62 : w52 (b + 4) = zar E 30 r4 := (hg57 (b + 4) (nx_B_add_12 hqt hrt hbt)).trans e37
  have e63 : w52 q = .inr (1, [.ref (zg E (1 + kd)), .int (iI pl), .ref (ad E (q + 1))]) := (hg57 q (nx_B_add_15 hqt hrt hbt)).trans e38
  have e64 : w52 (q + 1) = .inr (0, [.ref (ad E (q + 2)), .int (iI ng)]) := (hg57 (q + 1) (nx_B_add_18 hqt hrt hbt)).trans e39
  have e65 : w52 (q + 2) = zar E 15 f := (hg57 (q + 2) (nx_B_add_21 hqt hrt hbt)).trans e40
  have e66 : w52 r = .inr (1, [.ref (zg E (1 + ko)), .int (iI po), .ref (ad E (r + 1))]) := (hg57 r (nx_B_add_24 hqt hrt hbt)).trans e41
  have e67 : w52 (r + 1) = .inr (0, [.ref (ad E (r + 2)), .int (iI no)]) := (hg57 (r + 1) (nx_B_add_27 hqt hrt hbt)).trans e42
  have e68 : w52 (r + 2) = zar E 15 g := (hg57 (r + 2) (nx_B_add_30 hqt hrt hbt)).trans e43
  have e69 : w52 (t + 1) = .inr (0, [.ref (ad E (t + 2)), .int (iI n_27)]) := (hg57 (t + 1) (nx_B_add_35 hqt hrt hbt)).trans e29
  have e70 : w52 (t + 2) = zar E 15 f_28 := (hg57 (t + 2) (nx_B_add_36 hqt hrt hbt)).trans e30
  have hf71 : ∀ k, k ≠ t → k ≠ (t + 1) → k ≠ (t + 2) → w52 k = w0 k := fun k g0 g1 g2 => (hg57 k g0).trans (hf45 k g0 g1 g2)
  refine lv_aload hx hb d_B_add_35 (lv_at hl 4 rfl) ?_
  refine z_calli (va_runS (As := [.ref (ad E t)]) (rest := []) ⟨hx, hb, hml, hown, hts⟩ (c_B_judged (l := l) (E := E) (w0 := w52) (q := t) (kd := kd) (pl := z50) (ng := n_27) (f := f_28) (q0lt := q11lt) (q1lt := q12lt) (q2lt := q13lt) (c0 := e56) (c1 := e69) (c2 := e70) (bf := bd31) (hkd := by omega) (hng := by omega) H53.size) (z_cwS 1 hg wm_403 wm_401 wm_8 wm_402 (by decide +kernel) ⟨Nat.le_of_ble_eq_true rfl, Nat.le_of_ble_eq_true rfl⟩) (z_preS hK hG hn hH55 hA) rfl rfl hl.1 rfl (lv_room (Nat.le_of_ble_eq_true rfl)) d_B_add_37 ⟨Nat.zero_le _, Nat.zero_le _⟩) hH55 hA (fun z76 w74 H72 lc73 hH75 p37 => ?_)
  obtain ⟨ew77, p37⟩ := p37
  rw [ew77] at hH75
  replace p37 : (z76 = -3 ∧ Tp 56 ≤ V f_28 15) ∨ (z76 = 0 ∧ V f_28 15 < Tp 56) := p37
  rw [hQ]
  exact z_iret hx hb hr hlk hH75 (⟨⟨kd, z50, n_27, f_28, e56, e69, e70, bd31, ⟨rfl, p16.1, p29, p16.2.1, p16.2.2, p37⟩⟩, (fun k g0 g1 g2 => hf71 k g0 g1 g2)⟩) d_B_add_40
