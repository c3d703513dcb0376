def rm_A_clear : Room := { frames := 1, cells := 0, slots := 0, locals := 23 }
set_option maxHeartbeats 4000000 in
set_option maxRecDepth 100000 in
theorem c_A_clear (l : Launch) (E : zE) (w0 : zW) (q : Nat) (f : Int → Int) (ng : Int) (q0lt : q < zn E) (q1lt : q + 1 < zn E) (c0 : w0 q = .inr (0, [.ref (ad E (q + 1)), .int (iI ng)])) (c1 : w0 (q + 1) = zar E 15 f) (bf : bd f 15 0 9999) : zM l y_A_clear ws_A_clear rm_A_clear E [.ref (ad E q)] w0 (zQv E w0 (fun w' => (∃ (f' : Int → Int), w' q = .inr (0, [.ref (ad E (q + 1)), .int (iI 0)]) ∧ w' (q + 1) = zar E 15 f' ∧ bd f' 15 0 9999 ∧ (∀ j : Int, 0 ≤ j → j < 15 → f' j = 0)) ∧ ∀ k, k ≠ q → k ≠ (q + 1) → w' k = w0 k)) := by
  refine z_met (cc := b_A_clear) (maxL := 1) (ret := none) (by decide +kernel) rfl (Nat.le_of_ble_eq_true rfl) ?_
  intro p e s m below meth cd ls a Qf hQ hC hl hH
  obtain ⟨hF, hr, hlk, hK, hG, hn⟩ := hC
  obtain ⟨hx, hb, hml, hown, hts⟩ := hF
  have hg : ∀ w ∈ GW, w.before a s = true := fun w h => hts w (List.mem_cons_of_mem _ h)
  have hA : ∀ q, s.heap.size ≤ q → va_A (wl E w0) s.heap.size q := fun q h => Or.inr h
  have hl : lv_has ls 1 [(0, .ref (ad E q))] := hl
  refine lv_aload_n hx hb d_A_clear_0 rfl (lv_at hl 0 rfl) ?_
  refine zv_get (C := "ScaledNumeralDesk$Amount") (T := TA) (N := 2) hx hb hg uA_in hown hK hH q0lt c0 rfl 0 (by decide) (hg _ wm_42) (fun _ h9 => h9) rfl d_A_clear_1 ?_
  refine zv_iconst hx hb d_A_clear_4 ?_
  refine z_callv (va_runS (As := [.ref (ad E (q + 1)), .int (iI 0)]) (rest := []) ⟨hx, hb, hml, hown, hts⟩ (c_fill (l := l) (E := E) (w0 := w0) (q := q + 1) (N := 15) (f := f) (v := 0) (q0lt := q1lt) (c0 := c1) (hN := by omega) s.heap.size) (z_cwS 2 hg wm_237 wm_235 wm_14 wm_236 (by decide +kernel) ⟨Nat.le_of_ble_eq_true rfl, Nat.le_of_ble_eq_true rfl⟩) (z_preS hK hG hn hH hA) rfl rfl hl.1 rfl (lv_room (Nat.le_of_ble_eq_true rfl)) d_A_clear_5 ⟨Nat.zero_le _, Nat.zero_le _⟩) hH hA (fun  w3 H1 lc2 hH4 h1 => ?_)
  obtain ⟨⟨f1, e5, h1⟩, hg6⟩ := h1
  replace h1 : ∀ j : Int, 0 ≤ j → j < 15 → f1 j = (0 : Int) := h1
  have e7 : w3 q = .inr (0, [.ref (ad E (q + 1)), .int (iI ng)]) := (hg6 q (by omega)).trans c0
  have hf8 : ∀ k, k ≠ (q + 1) → w3 k = w0 k := fun k g0 => hg6 k g0
  have bf1 : bd f1 15 0 9999 := fun i g1 g2 => by rw [h1 i g1 g2]; decide
  refine lv_aload_n hx hb d_A_clear_8 rfl (lv_at hl 0 rfl) ?_
  refine zv_iconst hx hb d_A_clear_9 ?_
  refine zv_put (C := "ScaledNumeralDesk$Amount") (T := TA) (N := 2) (fs' := [.ref (ad E (q + 1)), .int (iI 0)]) hx hb hg uA_in tyA tyA_ok nmA hown hK hH4 q0lt e7 rfl 1 (by decide) (hg _ wm_46) (fun _ h9 => h9) rfl (ty := tyA 1) (by decide +kernel) (by exact nar_z (by omega)) (by exact fit_z (by omega)) (Nat.le_of_ble_eq_true rfl) d_A_clear_10 rfl (fun H10 lc11 w9 hH12 e13 hg14 => ?_)
  have e15 : w9 (q + 1) = zar E 15 f1 := (hg14 (q + 1) (by omega)).trans e5
  have hf16 : ∀ k, k ≠ (q + 1) → k ≠ q → w9 k = w0 k := fun k g0 g1 => (hg14 k g1).trans (hf8 k g0)
  rw [hQ]
  exact z_vret hx hb hr hlk hH12 (⟨⟨f1, e13, e15, (by assumption), h1⟩, (fun k g0 g1 => hf16 k g1 g0)⟩) d_A_clear_13
def rm_A_take : Room := { frames := 1, cells := 0, slots := 0, locals := 26 }
set_option maxHeartbeats 4000000 in
set_option maxRecDepth 100000 in
theorem c_A_take (l : Launch) (E : zE) (w0 : zW) (q r : Nat) (f g : Int → Int) (ng no : Int) (q0lt : q < zn E) (q1lt : q + 1 < zn E) (q2lt : r < zn E) (q3lt : r + 1 < zn E) (c0 : w0 q = .inr (0, [.ref (ad E (q + 1)), .int (iI ng)])) (c1 : w0 (q + 1) = zar E 15 f) (c2 : w0 r = .inr (0, [.ref (ad E (r + 1)), .int (iI no)])) (c3 : w0 (r + 1) = zar E 15 g) (bf : bd f 15 0 9999) (bg : bd g 15 0 9999) (hno : no = 0 ∨ no = 1) (hqr : q + 1 < r ∨ r + 1 < q) : zM l y_A_take ws_A_take rm_A_take E [.ref (ad E q), .ref (ad E r)] w0 (zQv E w0 (fun w' => (∃ (f' : Int → Int), w' q = .inr (0, [.ref (ad E (q + 1)), .int (iI no)]) ∧ w' (q + 1) = zar E 15 f' ∧ bd f' 15 0 9999 ∧ (V f' 15 = V g 15)) ∧ ∀ k, k ≠ q → k ≠ (q + 1) → w' k = w0 k)) := by
  refine z_met (cc := b_A_take) (maxL := 2) (ret := none) (by decide +kernel) rfl (Nat.le_of_ble_eq_true rfl) ?_
  intro p e s m below meth cd ls a Qf hQ hC hl hH
  obtain ⟨hF, hr, hlk, hK, hG, hn⟩ := hC
  obtain ⟨hx, hb, hml, hown, hts⟩ := hF
  have hg : ∀ w ∈ GW, w.before a s = true := fun w h => hts w (List.mem_cons_of_mem _ h)
  have hA : ∀ q, s.heap.size ≤ q → va_A (wl E w0) s.heap.size q := fun q h => Or.inr h
  have hl : lv_has ls 2 [(0, .ref (ad E q)), (1, .ref (ad E r))] := hl
  refine lv_aload_n hx hb d_A_take_0 rfl (lv_at hl 1 rfl) ?_
  refine zv_get (C := "ScaledNumeralDesk$Amount") (T := TA) (N := 2) hx hb hg uA_in hown hK hH q2lt c2 rfl 0 (by decide) (hg _ wm_42) (fun _ h9 => h9) rfl d_A_take_1 ?_
  refine zv_iconst hx hb d_A_take_4 ?_
  refine lv_aload_n hx hb d_A_take_5 rfl (lv_at hl 0 rfl) ?_
  refine zv_get (C := "ScaledNumeralDesk$Amount") (T := TA) (N := 2) hx hb hg uA_in hown hK hH q0lt c0 rfl 0 (by decide) (hg _ wm_42) (fun _ h9 => h9) rfl d_A_take_6 ?_
  refine zv_iconst hx hb d_A_take_9 ?_
  refine zv_bipush hx hb d_A_take_10 rfl ?_
  refine zv_copy hx hb hml hl.1 hown (hg _ wm_329) (hg _ wm_331) (hg _ wm_330) (hg _ wm_17) hK hH q3lt q1lt c3 c1 (by omega) (by omega) (by omega) (by omega) (by omega) (by omega) (by omega) (Nat.le_of_ble_eq_true rfl) (Nat.le_of_ble_eq_true rfl) d_A_take_12 (fun H2 lc3 w1 hH4 e5 hg6 => ?_)
  have bd7 : bd (cpZ g f 0 0 15) 15 0 9999 := cp_bd bg bf (by omega) (by omega)
  have e8 : w1 q = .inr (0, [.ref (ad E (q + 1)), .int (iI ng)]) := (hg6 q (by omega)).trans c0
  have e9 : w1 r = .inr (0, [.ref (ad E (r + 1)), .int (iI no)]) := (hg6 r (by omega)).trans c2
  have e10 : w1 (r + 1) = zar E 15 g := (hg6 (r + 1) (by omega)).trans c3
  have hf11 : ∀ k, k ≠ (q + 1) → w1 k = w0 k := fun k g0 => hg6 k g0
  refine lv_aload_n hx hb d_A_take_15 rfl (lv_at hl 0 rfl) ?_
  refine lv_aload_n hx hb d_A_take_16 rfl (lv_at hl 1 rfl) ?_
  refine zv_get (C := "ScaledNumeralDesk$Amount") (T := TA) (N := 2) hx hb hg uA_in hown hK hH4 q2lt e9 rfl 1 (by decide) (hg _ wm_46) (fun _ h9 => h9) rfl d_A_take_17 ?_
  refine zv_put (C := "ScaledNumeralDesk$Amount") (T := TA) (N := 2) (fs' := [.ref (ad E (q + 1)), .int (iI no)]) hx hb hg uA_in tyA tyA_ok nmA hown hK hH4 q0lt e8 rfl 1 (by decide) (hg _ wm_46) (fun _ h9 => h9) rfl (ty := tyA 1) (by decide +kernel) (by exact nar_z (by omega)) (by exact fit_z (by omega)) (Nat.le_of_ble_eq_true rfl) d_A_take_20 rfl (fun H13 lc14 w12 hH15 e16 hg17 => ?_)
  have e18 : w12 (q + 1) = zar E 15 (cpZ g f 0 0 15) := (hg17 (q + 1) (by omega)).trans e5
  have e19 : w12 r = .inr (0, [.ref (ad E (r + 1)), .int (iI no)]) := (hg17 r (by omega)).trans e9
  have e20 : w12 (r + 1) = zar E 15 g := (hg17 (r + 1) (by omega)).trans e10
  have hf21 : ∀ k, k ≠ (q + 1) → k ≠ q → w12 k = w0 k := fun k g0 g1 => (hg17 k g1).trans (hf11 k g0)
  rw [hQ]
  exact z_vret hx hb hr hlk hH15 (⟨⟨(cpZ g f 0 0 15), e16, e18, bd7, cp_V⟩, (fun k g0 g1 => hf21 k g1 g0)⟩) d_A_take_23
def rm_A_isZero : Room := { frames := 1, cells := 0, slots := 0, locals := 21 }
set_option maxHeartbeats 4000000 in
set_option maxRecDepth 100000 in
theorem c_A_isZero (l : Launch) (E : zE) (w0 : zW) (q : Nat) (f : Int → Int) (ng : Int) (q0lt : q < zn E) (q1lt : q + 1 < zn E) (c0 : w0 q = .inr (0, [.ref (ad E (q + 1)), .int (iI ng)])) (c1 : w0 (q + 1) = zar E 15 f) (bf : bd f 15 0 9999) : zM l y_A_isZero ws_A_isZero rm_A_isZero E [.ref (ad E q)] w0 (zQi E w0 (fun z w' => w' = w0 ∧ ((z = 1 ∧ V f 15 = 0) ∨ (z = 0 ∧ 0 < V f 15)))) := by
  refine z_met (cc := b_A_isZero) (maxL := 1) (ret := (some .boolean)) (by decide +kernel) rfl (Nat.le_of_ble_eq_true rfl) ?_
  intro p e s m below meth cd ls a Qf hQ hC hl hH
  obtain ⟨hF, hr, hlk, hK, hG, hn⟩ := hC
  obtain ⟨hx, hb, hml, hown, hts⟩ := hF
  have hg : ∀ w ∈ GW, w.before a s = true := fun w h => hts w (List.mem_cons_of_mem _ h)
  have hA : ∀ q, s.heap.size ≤ q → va_A (wl E w0) s.heap.size q := fun q h => Or.inr h
  have hl : lv_has ls 1 [(0, .ref (ad E q))] := hl
  refine lv_aload_n hx hb d_A_isZero_0 rfl (lv_at hl 0 rfl) ?_
  refine zv_get (C := "ScaledNumeralDesk$Amount") (T := TA) (N := 2) hx hb hg uA_in hown hK hH q0lt c0 rfl 0 (by decide) (hg _ wm_42) (fun _ h9 => h9) rfl d_A_isZero_1 ?_
  refine z_calli (va_runS (As := [.ref (ad E (q + 1))]) (rest := []) ⟨hx, hb, hml, hown, hts⟩ (c_topLimb (l := l) (E := E) (w0 := w0) (q := q + 1) (N := 15) (f := f) (q0lt := q1lt) (c0 := c1) (hN := by omega) (bf := bf) s.heap.size) (z_cwS 1 hg wm_300 wm_298 wm_16 wm_299 (by decide +kernel) ⟨Nat.le_of_ble_eq_true rfl, Nat.le_of_ble_eq_true rfl⟩) (z_preS hK hG hn hH hA) rfl rfl hl.1 rfl (lv_room (Nat.le_of_ble_eq_true rfl)) d_A_isZero_4 ⟨Nat.zero_le _, Nat.zero_le _⟩) hH hA (fun t w3 H1 lc2 hH4 hT => ?_)
  obtain ⟨ew5, hT⟩ := hT
  rw [ew5] at hH4
  replace hT : -1 ≤ t ∧ t < 15 ∧ (∀ j, t < j → j < 15 → f j = 0) ∧ (0 ≤ t → f t ≠ 0) := hT
  refine zv_if_ge (tgt := 14) hx hb d_A_isZero_7 rfl (by omega) (fun h6 => ?_) (fun h6 => ?_)
  · refine zv_iconst hx hb d_A_isZero_14 ?_
    rw [hQ]
    exact z_zret hx hb hr hlk hH4 (⟨rfl, Or.inr ⟨rfl, Int.lt_of_lt_of_le (Bp_pos t) (tz_V bf (by omega) (by omega) hT.2.2.1 (hT.2.2.2 (by omega))).1⟩⟩) (by exact nar_z (by omega)) d_A_isZero_15
  · refine zv_iconst hx hb d_A_isZero_10 ?_
    refine lv_goto (tgt := 15) hx hb d_A_isZero_11 rfl ?_
    rw [hQ]
    exact z_zret hx hb hr hlk hH4 (⟨rfl, Or.inl ⟨rfl, tz_0 (by decide) (by omega) hT.2.2.1⟩⟩) (by exact nar_z (by omega)) d_A_isZero_15
def rm_A_sign : Room := { frames := 2, cells := 0, slots := 0, locals := 41 }
set_option maxHeartbeats 4000000 in
set_option maxRecDepth 100000 in
theorem c_A_sign (l : Launch) (E : zE) (w0 : zW) (q : Nat) (f : Int → Int) (ng : Int) (q0lt : q < zn E) (q1lt : q + 1 < zn E) (c0 : w0 q = .inr (0, [.ref (ad E (q + 1)), .int (iI ng)])) (c1 : w0 (q + 1) = zar E 15 f) (bf : bd f 15 0 9999) (hng : ng = 0 ∨ ng = 1) : zM l y_A_sign ws_A_sign rm_A_sign E [.ref (ad E q)] w0 (zQi E w0 (fun z w' => w' = w0 ∧ ((z = 0 ∧ V f 15 = 0) ∨ (z = -1 ∧ 0 < V f 15 ∧ ng = 1) ∨ (z = 1 ∧ 0 < V f 15 ∧ ng = 0)))) := by
  refine z_met (cc := b_A_sign) (maxL := 1) (ret := (some .int)) (by decide +kernel) rfl (Nat.le_of_ble_eq_true rfl) ?_
  intro p e s m below meth cd ls a Qf hQ hC hl hH
  obtain ⟨hF, hr, hlk, hK, hG, hn⟩ := hC
  obtain ⟨hx, hb, hml, hown, hts⟩ := hF
  have hg : ∀ w ∈ GW, w.before a s = true := fun w h => hts w (List.mem_cons_of_mem _ h)
  have hA : ∀ q, s.heap.size ≤ q → va_A (wl E w0) s.heap.size q := fun q h => Or.inr h
  have hl : lv_has ls 1 [(0, .ref (ad E q))] := hl
  refine lv_aload_n hx hb d_A_sign_0 rfl (lv_at hl 0 rfl) ?_
  refine z_calli (va_runV (As := []) (rest := []) ⟨hx, hb, hml, hown, hts⟩ (c_A_isZero (l := l) (E := E) (w0 := w0) (q := q) (f := f) (ng := ng) (q0lt := q0lt) (q1lt := q1lt) (c0 := c0) (c1 := c1) (bf := bf) s.heap.size) (z_cwV (C := "ScaledNumeralDesk$Amount") 0 hg wm_297 wm_294 wm_5 wm_295 wm_296 (by decide +kernel) ⟨Nat.le_of_ble_eq_true rfl, Nat.le_of_ble_eq_true rfl⟩) (z_preV (r := ("ScaledNumeralDesk$Amount", TA, 2)) hK hG hn hH hA q0lt c0 rfl) rfl rfl hl.1 rfl (lv_room (Nat.le_of_ble_eq_true rfl)) d_A_sign_1 ⟨Nat.zero_le _, Nat.zero_le _⟩) hH hA (fun z6 w3 H1 lc2 hH4 hp5 => ?_)
  obtain ⟨ew7, hp5⟩ := hp5
  rw [ew7] at hH4
  replace hp5 : (z6 = 1 ∧ V f 15 = 0) ∨ (z6 = 0 ∧ 0 < V f 15) := hp5
  refine zv_if_eq (tgt := 9) hx hb d_A_sign_4 rfl (by omega) (fun h8 => ?_) (fun h8 => ?_)
  · refine lv_aload_n hx hb d_A_sign_9 rfl (lv_at hl 0 rfl) ?_
    refine zv_get (C := "ScaledNumeralDesk$Amount") (T := TA) (N := 2) hx hb hg uA_in hown hK hH4 q0lt c0 rfl 1 (by decide) (hg _ wm_46) (fun _ h9 => h9) rfl d_A_sign_10 ?_
    refine zv_if_eq (tgt := 20) hx hb d_A_sign_13 rfl (by omega) (fun h9 => ?_) (fun h9 => ?_)
    · refine zv_iconst hx hb d_A_sign_20 ?_
      rw [hQ]
      exact z_iret hx hb hr hlk hH4 (⟨rfl, by omega⟩) d_A_sign_21
    · refine zv_iconst hx hb d_A_sign_16 ?_
      refine lv_goto (tgt := 21) hx hb d_A_sign_17 rfl ?_
      rw [hQ]
      exact z_iret hx hb hr hlk hH4 (⟨rfl, by omega⟩) d_A_sign_21
  · refine zv_iconst hx hb d_A_sign_7 ?_
    rw [hQ]
    exact z_iret hx hb hr hlk hH4 (⟨rfl, by omega⟩) d_A_sign_8
def rm_A_signAs : Room := { frames := 2, cells := 0, slots := 0, locals := 41 }
set_option maxHeartbeats 4000000 in
set_option maxRecDepth 100000 in
theorem c_A_signAs (l : Launch) (E : zE) (w0 : zW) (q : Nat) (f : Int → Int) (ng mn : Int) (q0lt : q < zn E) (q1lt : q + 1 < zn E) (c0 : w0 q = .inr (0, [.ref (ad E (q + 1)), .int (iI ng)])) (c1 : w0 (q + 1) = zar E 15 f) (bf : bd f 15 0 9999) (hmn : mn = 0 ∨ mn = 1) : zM l y_A_signAs ws_A_signAs rm_A_signAs E [.ref (ad E q), .int (iI mn)] w0 (zQv E w0 (fun w' => (∃ (n' : Int), w' q = .inr (0, [.ref (ad E (q + 1)), .int (iI n')]) ∧ ((n' = 0 ∨ n' = 1) ∧ (V f 15 = 0 → n' = 0) ∧ (0 < V f 15 → n' = mn))) ∧ ∀ k, k ≠ q → w' k = w0 k)) := by
  refine z_met (cc := b_A_signAs) (maxL := 2) (ret := none) (by decide +kernel) rfl (Nat.le_of_ble_eq_true rfl) ?_
  intro p e s m below meth cd ls a Qf hQ hC hl hH
  obtain ⟨hF, hr, hlk, hK, hG, hn⟩ := hC
  obtain ⟨hx, hb, hml, hown, hts⟩ := hF
  have hg : ∀ w ∈ GW, w.before a s = true := fun w h => hts w (List.mem_cons_of_mem _ h)
  have hA : ∀ q, s.heap.size ≤ q → va_A (wl E w0) s.heap.size q := fun q h => Or.inr h
  have hl : lv_has ls 2 [(0, .ref (ad E q)), (1, .int (iI mn))] := hl
  refine lv_aload_n hx hb d_A_signAs_0 rfl (lv_at hl 0 rfl) ?_
  refine lv_iload_n hx hb d_A_signAs_1 rfl (lv_at hl 1 rfl) ?_
  refine zv_if_eq (tgt := 16) hx hb d_A_signAs_2 rfl (by omega) (fun h1 => ?_) (fun h1 => ?_)
  · refine zv_iconst hx hb d_A_signAs_16 ?_
    refine zv_put (C := "ScaledNumeralDesk$Amount") (T := TA) (N := 2) (fs' := [.ref (ad E (q + 1)), .int (iI 0)]) hx hb hg uA_in tyA tyA_ok nmA hown hK hH q0lt c0 rfl 1 (by decide) (hg _ wm_46) (fun _ h9 => h9) rfl (ty := tyA 1) (by decide +kernel) (by exact nar_z (by omega)) (by exact fit_z (by omega)) (Nat.le_of_ble_eq_true rfl) d_A_signAs_17 rfl (fun H3 lc4 w2 hH5 e6 hg7 => ?_)
    have e8 : w2 (q + 1) = zar E 15 f := (hg7 (q + 1) (by omega)).trans c1
    have hf9 : ∀ k, k ≠ q → w2 k = w0 k := fun k g0 => hg7 k g0
    rw [hQ]
    exact z_vret hx hb hr hlk hH5 (⟨⟨0, e6, by omega⟩, (fun k g0 => hf9 k g0)⟩) d_A_signAs_20
  · refine lv_aload_n hx hb d_A_signAs_5 rfl (lv_at hl 0 rfl) ?_
    refine z_calli (va_runV (As := []) (rest := [.ref (ad E q)]) ⟨hx, hb, hml, hown, hts⟩ (c_A_isZero (l := l) (E := E) (w0 := w0) (q := q) (f := f) (ng := ng) (q0lt := q0lt) (q1lt := q1lt) (c0 := c0) (c1 := c1) (bf := bf) s.heap.size) (z_cwV (C := "ScaledNumeralDesk$Amount") 0 hg wm_297 wm_294 wm_5 wm_295 wm_296 (by decide +kernel) ⟨Nat.le_of_ble_eq_true rfl, Nat.le_of_ble_eq_true rfl⟩) (z_preV (r := ("ScaledNumeralDesk$Amount", TA, 2)) hK hG hn hH hA q0lt c0 rfl) rfl rfl hl.1 rfl (lv_room (Nat.le_of_ble_eq_true rfl)) d_A_signAs_6 ⟨Nat.zero_le _, Nat.zero_le _⟩) hH hA (fun z15 w12 H10 lc11 hH13 hp14 => ?_)
    obtain ⟨ew16, hp14⟩ := hp14
    rw [ew16] at hH13
    replace hp14 : (z15 = 1 ∧ V f 15 = 0) ∨ (z15 = 0 ∧ 0 < V f 15) := hp14
    refine zv_if_ne (tgt := 16) hx hb d_A_signAs_9 rfl (by omega) (fun h17 => ?_) (fun h17 => ?_)
    · refine zv_iconst hx hb d_A_signAs_16 ?_
      refine zv_put (C := "ScaledNumeralDesk$Amount") (T := TA) (N := 2) (fs' := [.ref (ad E (q + 1)), .int (iI 0)]) hx hb hg uA_in tyA tyA_ok nmA hown hK hH13 q0lt c0 rfl 1 (by decide) (hg _ wm_46) (fun _ h9 => h9) rfl (ty := tyA 1) (by decide +kernel) (by exact nar_z (by omega)) (by exact fit_z (by omega)) (Nat.le_of_ble_eq_true rfl) d_A_signAs_17 rfl (fun H19 lc20 w18 hH21 e22 hg23 => ?_)
      have e24 : w18 (q + 1) = zar E 15 f := (hg23 (q + 1) (by omega)).trans c1
      have hf25 : ∀ k, k ≠ q → w18 k = w0 k := fun k g0 => hg23 k g0
      rw [hQ]
      exact z_vret hx hb hr hlk hH21 (⟨⟨0, e22, by omega⟩, (fun k g0 => hf25 k g0)⟩) d_A_signAs_20
    · refine zv_iconst hx hb d_A_signAs_12 ?_
      refine lv_goto (tgt := 17) hx hb d_A_signAs_13 rfl ?_
      refine zv_put (C := "ScaledNumeralDesk$Amount") (T := TA) (N := 2) (fs' := [.ref (ad E (q + 1)), .int (iI 1)]) hx hb hg uA_in tyA tyA_ok nmA hown hK hH13 q0lt c0 rfl 1 (by decide) (hg _ wm_46) (fun _ h9 => h9) rfl (ty := tyA 1) (by decide +kernel) (by exact nar_z (by omega)) (by exact fit_z (by omega)) (Nat.le_of_ble_eq_true rfl) d_A_signAs_17 rfl (fun H27 lc28 w26 hH29 e30 hg31 => ?_)
      have e32 : w26 (q + 1) = zar E 15 f := (hg31 (q + 1) (by omega)).trans c1
      have hf33 : ∀ k, k ≠ q → w26 k = w0 k := fun k g0 => hg31 k g0
      rw [hQ]
      exact z_vret hx hb hr hlk hH29 (⟨⟨1, e30, by omega⟩, (fun k g0 => hf33 k g0)⟩) d_A_signAs_20
def rm_A_increase : Room := { frames := 3, cells := 0, slots := 0, locals := 62 }
set_option maxHeartbeats 4000000 in
set_option maxRecDepth 100000 in
theorem c_A_increase (l : Launch) (E : zE) (w0 : zW) (q r : Nat) (f g : Int → Int) (ng no ta : Int) (q0lt : q < zn E) (q1lt : q + 1 < zn E) (q2lt : r < zn E) (q3lt : r + 1 < zn E) (c0 : w0 q = .inr (0, [.ref (ad E (q + 1)), .int (iI ng)])) (c1 : w0 (q + 1) = zar E 15 f) (c2 : w0 r = .inr (0, [.ref (ad E (r + 1)), .int (iI no)])) (c3 : w0 (r + 1) = zar E 15 g) (bf : bd f 15 0 9999) (bg : bd g 15 0 9999) (hno : no = 0 ∨ no = 1) (hqr : q + 1 < r ∨ r + 1 < q) (hng : ng = 0 ∨ ng = 1) (hta : ta = 0 ∨ ta = 1) (hs : V f 15 + V g 15 < Bp 15) : zM l y_A_increase ws_A_increase rm_A_increase E [.ref (ad E q), .ref (ad E r), .int (iI ta)] w0 (zQv E w0 (fun w' => (∃ (n' : Int) (f' : Int → Int), w' q = .inr (0, [.ref (ad E (q + 1)), .int (iI n')]) ∧ w' (q + 1) = zar E 15 f' ∧ bd f' 15 0 9999 ∧ ((n' = 0 ∨ n' = 1) ∧ (V f' 15 = 0 → n' = 0) ∧ sv n' (V f' 15) = sv ng (V f 15) + tk ta (sv no (V g 15)))) ∧ ∀ k, k ≠ q → k ≠ (q + 1) → w' k = w0 k)) := by
  refine z_met (cc := b_A_increase) (maxL := 4) (ret := none) (by decide +kernel) rfl (Nat.le_of_ble_eq_true rfl) ?_
  intro p e s m below meth cd ls a Qf hQ hC hl hH
  obtain ⟨hF, hr, hlk, hK, hG, hn⟩ := hC
  obtain ⟨hx, hb, hml, hown, hts⟩ := hF
  have hg : ∀ w ∈ GW, w.before a s = true := fun w h => hts w (List.mem_cons_of_mem _ h)
  have hA : ∀ q, s.heap.size ≤ q → va_A (wl E w0) s.heap.size q := fun q h => Or.inr h
  have hl : lv_has ls 4 [(0, .ref (ad E q)), (1, .ref (ad E r)), (2, .int (iI ta))] := hl
  have vf := V_in bf (show (0 : Int) ≤ 15 by decide) (Int.le_refl 15)
  have vg := V_in bg (show (0 : Int) ≤ 15 by decide) (Int.le_refl 15)
  have L13 : ∀ (y : Int) (ls : Array Slot) (H1 : Heap) (lc2 : List Loc), (lv_has ls 4 [(0, .ref (ad E q)), (1, .ref (ad E r)), (2, .int (iI ta))]) → (zH E w0 (va_A (wl E w0) s.heap.size) s.heap H1 lc2) → ((y = 0 ∧ no = ta) ∨ (y = 1 ∧ no ≠ ta)) → W p l e rm_A_increase s m a below meth cd H1 lc2 0 0 Qf (F0 m 13 ls [.int (iI y)]) := by
    intro y ls H1 lc2 hl hH hy
    have hx9 := sv_x hy hno hta (V g 15)
    refine lv_istore_n (lv' := [(3, .int (iI y)), (0, .ref (ad E q)), (1, .ref (ad E r)), (2, .int (iI ta))]) hx hb d_A_increase_13 rfl hl (by decide) rfl (fun ls hl => ?_)
    have L88 : ∀ (u : Int) (h : Int → Int) (ls : Array Slot) (H3 : Heap) (lc4 : List Loc) (w5 : zW), (lv_has ls 4 [(3, .int (iI u)), (0, .ref (ad E q)), (1, .ref (ad E r)), (2, .int (iI ta))]) → (zH E w5 (va_A (wl E w0) s.heap.size) s.heap H3 lc4) → (w5 q = .inr (0, [.ref (ad E (q + 1)), .int (iI ng)])) → (w5 (q + 1) = zar E 15 h) → (w5 r = .inr (0, [.ref (ad E (r + 1)), .int (iI no)])) → (w5 (r + 1) = zar E 15 g) → (∀ k, k ≠ (q + 1) → w5 k = w0 k) → (bd h 15 0 9999) → (u = 0 ∨ u = 1) → (sv u (V h 15) = sv ng (V f 15) + sv y (V g 15)) → W p l e rm_A_increase s m a below meth cd H3 lc4 0 0 Qf (F0 m 88 ls []) := by
      intro u h ls H3 lc4 w5 hl hH e6 e7 e8 e9 hf10 bh hu hv
      refine lv_aload_n hx hb d_A_increase_88 rfl (lv_at hl 1 rfl) ?_
      refine lv_iload_n hx hb d_A_increase_89 rfl (lv_at hl 0 rfl) ?_
      refine z_callv (va_runV (As := [.int (iI u)]) (rest := []) ⟨hx, hb, hml, hown, hts⟩ (c_A_signAs (l := l) (E := E) (w0 := w5) (q := q) (f := h) (ng := ng) (mn := u) (q0lt := q0lt) (q1lt := q1lt) (c0 := e6) (c1 := e7) (bf := bh) (hmn := by omega) H3.size) (z_cwV (C := "ScaledNumeralDesk$Amount") 1 hg wm_293 wm_399 wm_5 wm_291 wm_292 (by decide +kernel) ⟨Nat.le_of_ble_eq_true rfl, Nat.le_of_ble_eq_true rfl⟩) (z_preV (r := ("ScaledNumeralDesk$Amount", TA, 2)) hK hG hn hH hA q0lt e6 rfl) rfl rfl hl.1 rfl (lv_room (Nat.le_of_ble_eq_true rfl)) d_A_increase_90 ⟨Nat.zero_le _, Nat.zero_le _⟩) hH hA (fun  w13 H11 lc12 hH14 p90 => ?_)
      obtain ⟨⟨n_15, e16, p90⟩, hg17⟩ := p90
      replace p90 : (n_15 = 0 ∨ n_15 = 1) ∧ (V h 15 = 0 → n_15 = 0) ∧ (0 < V h 15 → n_15 = u) := p90
      have e18 : w13 (q + 1) = zar E 15 h := (hg17 (q + 1) (by omega)).trans e7
      have e19 : w13 r = .inr (0, [.ref (ad E (r + 1)), .int (iI no)]) := (hg17 r (by omega)).trans e8
      have e20 : w13 (r + 1) = zar E 15 g := (hg17 (r + 1) (by omega)).trans e9
      have hf21 : ∀ k, k ≠ (q + 1) → k ≠ q → w13 k = w0 k := fun k g0 g1 => (hg17 k g1).trans (hf10 k g0)
      have vh := V_in bh (show (0 : Int) ≤ 15 by decide) (Int.le_refl 15)
      rw [hQ]
      exact z_vret hx hb hr hlk hH14 (⟨⟨n_15, h, e16, e18, bh, ⟨p90.1, p90.2.1, by
          rw [hx9, ← hv]
          by_cases h0 : V h 15 = 0
          · rw [p90.2.1 h0, h0, sv_0]; rcases hu with rfl | rfl
            · rw [sv_0]
            · rw [sv_1]; rfl
          · rw [p90.2.2 (by omega)]⟩⟩, (fun k g0 g1 => hf21 k g1 g0)⟩) d_A_increase_93
    refine lv_iload_n hx hb d_A_increase_14 rfl (lv_at hl 0 rfl) ?_
    refine lv_aload_n hx hb d_A_increase_15 rfl (lv_at hl 1 rfl) ?_
    refine zv_get (C := "ScaledNumeralDesk$Amount") (T := TA) (N := 2) hx hb hg uA_in hown hK hH q0lt c0 rfl 1 (by decide) (hg _ wm_46) (fun _ h9 => h9) rfl d_A_increase_16 ?_
    refine zv_icmp_ne (tgt := 36) hx hb d_A_increase_19 rfl (by omega) (by omega) (fun h22 => ?_) (fun h22 => ?_)
    · refine lv_aload_n hx hb d_A_increase_36 rfl (lv_at hl 1 rfl) ?_
      refine zv_get (C := "ScaledNumeralDesk$Amount") (T := TA) (N := 2) hx hb hg uA_in hown hK hH q0lt c0 rfl 0 (by decide) (hg _ wm_42) (fun _ h9 => h9) rfl d_A_increase_37 ?_
      refine lv_aload_n hx hb d_A_increase_40 rfl (lv_at hl 2 rfl) ?_
      refine zv_get (C := "ScaledNumeralDesk$Amount") (T := TA) (N := 2) hx hb hg uA_in hown hK hH q2lt c2 rfl 0 (by decide) (hg _ wm_42) (fun _ h9 => h9) rfl d_A_increase_41 ?_
      refine z_calli (va_runS (As := [.ref (ad E (q + 1)), .ref (ad E (r + 1))]) (rest := []) ⟨hx, hb, hml, hown, hts⟩ (c_order (l := l) (E := E) (w0 := w0) (q := q + 1) (r := r + 1) (N := 15) (f := f) (g := g) (q0lt := q1lt) (q1lt := q3lt) (c0 := c1) (c1 := c3) (hN := by omega) (bf := bf) (bg := bg) H1.size) (z_cwS 2 hg wm_394 wm_392 wm_16 wm_393 (by decide +kernel) ⟨Nat.le_of_ble_eq_true rfl, Nat.le_of_ble_eq_true rfl⟩) (z_preS hK hG hn hH hA) rfl rfl hl.1 rfl (lv_room (Nat.le_of_ble_eq_true rfl)) d_A_increase_44 ⟨Nat.zero_le _, Nat.zero_le _⟩) hH hA (fun z27 w25 H23 lc24 hH26 p44 => ?_)
      obtain ⟨ew28, p44⟩ := p44
      rw [ew28] at hH26
      replace p44 : (z27 = -1 ∧ V f 15 < V g 15) ∨ (z27 = 0 ∧ V f 15 = V g 15) ∨ (z27 = 1 ∧ V g 15 < V f 15) := p44
      refine zv_if_lt (tgt := 73) hx hb d_A_increase_47 rfl (by omega) (fun h29 => ?_) (fun h29 => ?_)
      · refine lv_aload_n hx hb d_A_increase_73 rfl (lv_at hl 1 rfl) ?_
        refine zv_get (C := "ScaledNumeralDesk$Amount") (T := TA) (N := 2) hx hb hg uA_in hown hK hH26 q0lt c0 rfl 0 (by decide) (hg _ wm_42) (fun _ h9 => h9) rfl d_A_increase_74 ?_
        refine lv_aload_n hx hb d_A_increase_77 rfl (lv_at hl 2 rfl) ?_
        refine zv_get (C := "ScaledNumeralDesk$Amount") (T := TA) (N := 2) hx hb hg uA_in hown hK hH26 q2lt c2 rfl 0 (by decide) (hg _ wm_42) (fun _ h9 => h9) rfl d_A_increase_78 ?_
        refine lv_aload_n hx hb d_A_increase_81 rfl (lv_at hl 1 rfl) ?_
        refine zv_get (C := "ScaledNumeralDesk$Amount") (T := TA) (N := 2) hx hb hg uA_in hown hK hH26 q0lt c0 rfl 0 (by decide) (hg _ wm_42) (fun _ h9 => h9) rfl d_A_increase_82 ?_
        refine z_callv (va_runS (As := [.ref (ad E (q + 1)), .ref (ad E (r + 1)), .ref (ad E (q + 1))]) (rest := []) ⟨hx, hb, hml, hown, hts⟩ (c_subS (l := l) (E := E) (w0 := w0) (q := q + 1) (r := r + 1) (N := 15) (f := f) (g := g) (q0lt := q1lt) (q1lt := q3lt) (c0 := c1) (c1 := c3) (hN := by omega) (bf := bf) (bg := bg) (hqr := by omega) H23.size) (z_cwS 3 hg wm_398 wm_396 wm_16 wm_397 (by decide +kernel) ⟨Nat.le_of_ble_eq_true rfl, Nat.le_of_ble_eq_true rfl⟩) (z_preS hK hG hn hH26 hA) rfl rfl hl.1 rfl (lv_room (Nat.le_of_ble_eq_true rfl)) d_A_increase_85 ⟨Nat.zero_le _, Nat.zero_le _⟩) hH26 hA (fun  w32 H30 lc31 hH33 p85 => ?_)
        obtain ⟨⟨f_34, e35, bd36, p85⟩, hg37⟩ := p85
        replace bd36 : bd f_34 15 0 9999 := bd36
        replace p85 : V f_34 15 = (V g 15 - V f 15) % Bp 15 := p85
        have e38 : w32 q = .inr (0, [.ref (ad E (q + 1)), .int (iI ng)]) := (hg37 q (by omega)).trans c0
        have e39 : w32 r = .inr (0, [.ref (ad E (r + 1)), .int (iI no)]) := (hg37 r (by omega)).trans c2
        have e40 : w32 (r + 1) = zar E 15 g := (hg37 (r + 1) (by omega)).trans c3
        have hf41 : ∀ k, k ≠ (q + 1) → w32 k = w0 k := fun k g0 => hg37 k g0
        exact L88 y f_34 _ H30 lc31 w32 (lv_sub hl [0, 1, 2, 3] rfl) hH33 e38 e35 e39 e40 (fun k g0 => hf41 k g0) (by assumption) (by omega) (by rw [p85, Int.emod_eq_of_lt (by omega) (by omega), Int.add_comm]; exact sv_op (by omega) hng (by omega) _ _)
      · refine lv_aload_n hx hb d_A_increase_50 rfl (lv_at hl 1 rfl) ?_
        refine zv_get (C := "ScaledNumeralDesk$Amount") (T := TA) (N := 2) hx hb hg uA_in hown hK hH26 q0lt c0 rfl 0 (by decide) (hg _ wm_42) (fun _ h9 => h9) rfl d_A_increase_51 ?_
        refine lv_aload_n hx hb d_A_increase_54 rfl (lv_at hl 1 rfl) ?_
        refine zv_get (C := "ScaledNumeralDesk$Amount") (T := TA) (N := 2) hx hb hg uA_in hown hK hH26 q0lt c0 rfl 0 (by decide) (hg _ wm_42) (fun _ h9 => h9) rfl d_A_increase_55 ?_
        refine lv_aload_n hx hb d_A_increase_58 rfl (lv_at hl 2 rfl) ?_
        refine zv_get (C := "ScaledNumeralDesk$Amount") (T := TA) (N := 2) hx hb hg uA_in hown hK hH26 q2lt c2 rfl 0 (by decide) (hg _ wm_42) (fun _ h9 => h9) rfl d_A_increase_59 ?_
        refine z_callv (va_runS (As := [.ref (ad E (q + 1)), .ref (ad E (q + 1)), .ref (ad E (r + 1))]) (rest := []) ⟨hx, hb, hml, hown, hts⟩ (c_subG (l := l) (E := E) (w0 := w0) (q := q + 1) (r := r + 1) (N := 15) (f := f) (g := g) (q0lt := q1lt) (q1lt := q3lt) (c0 := c1) (c1 := c3) (hN := by omega) (bf := bf) (bg := bg) (hqr := by omega) H23.size) (z_cwS 3 hg wm_398 wm_396 wm_16 wm_397 (by decide +kernel) ⟨Nat.le_of_ble_eq_true rfl, Nat.le_of_ble_eq_true rfl⟩) (z_preS hK hG hn hH26 hA) rfl rfl hl.1 rfl (lv_room (Nat.le_of_ble_eq_true rfl)) d_A_increase_62 ⟨Nat.zero_le _, Nat.zero_le _⟩) hH26 hA (fun  w44 H42 lc43 hH45 p62 => ?_)
        obtain ⟨⟨f_46, e47, bd48, p62⟩, hg49⟩ := p62
        replace bd48 : bd f_46 15 0 9999 := bd48
        replace p62 : V f_46 15 = (V f 15 - V g 15) % Bp 15 := p62
        have e50 : w44 q = .inr (0, [.ref (ad E (q + 1)), .int (iI ng)]) := (hg49 q (by omega)).trans c0
        have e51 : w44 r = .inr (0, [.ref (ad E (r + 1)), .int (iI no)]) := (hg49 r (by omega)).trans c2
        have e52 : w44 (r + 1) = zar E 15 g := (hg49 (r + 1) (by omega)).trans c3
        have hf53 : ∀ k, k ≠ (q + 1) → w44 k = w0 k := fun k g0 => hg49 k g0
        refine lv_aload_n hx hb d_A_increase_65 rfl (lv_at hl 1 rfl) ?_
        refine zv_get (C := "ScaledNumeralDesk$Amount") (T := TA) (N := 2) hx hb hg uA_in hown hK hH45 q0lt e50 rfl 1 (by decide) (hg _ wm_46) (fun _ h9 => h9) rfl d_A_increase_66 ?_
        refine lv_istore_n (lv' := [(3, .int (iI ng)), (0, .ref (ad E q)), (1, .ref (ad E r)), (2, .int (iI ta))]) hx hb d_A_increase_69 rfl hl (by decide) rfl (fun ls hl => ?_)
        refine lv_goto (tgt := 88) hx hb d_A_increase_70 rfl ?_
        exact L88 ng f_46 _ H42 lc43 w44 (lv_sub hl [0, 1, 2, 3] rfl) hH45 e50 e47 e51 e52 (fun k g0 => hf53 k g0) (by assumption) (by omega) (by rw [p62, Int.emod_eq_of_lt (by omega) (by omega)]; exact sv_op hng (by omega) (by omega) _ _)
    · refine lv_aload_n hx hb d_A_increase_22 rfl (lv_at hl 1 rfl) ?_
      refine zv_get (C := "ScaledNumeralDesk$Amount") (T := TA) (N := 2) hx hb hg uA_in hown hK hH q0lt c0 rfl 0 (by decide) (hg _ wm_42) (fun _ h9 => h9) rfl d_A_increase_23 ?_
      refine lv_aload_n hx hb d_A_increase_26 rfl (lv_at hl 2 rfl) ?_
      refine zv_get (C := "ScaledNumeralDesk$Amount") (T := TA) (N := 2) hx hb hg uA_in hown hK hH q2lt c2 rfl 0 (by decide) (hg _ wm_42) (fun _ h9 => h9) rfl d_A_increase_27 ?_
      refine z_callv (va_runS (As := [.ref (ad E (q + 1)), .ref (ad E (r + 1))]) (rest := []) ⟨hx, hb, hml, hown, hts⟩ (c_add (l := l) (E := E) (w0 := w0) (q := q + 1) (r := r + 1) (N := 15) (f := f) (g := g) (q0lt := q1lt) (q1lt := q3lt) (c0 := c1) (c1 := c3) (hN := by omega) (bf := bf) (bg := bg) (hqr := by omega) H1.size) (z_cwS 2 hg wm_391 wm_389 wm_16 wm_390 (by decide +kernel) ⟨Nat.le_of_ble_eq_true rfl, Nat.le_of_ble_eq_true rfl⟩) (z_preS hK hG hn hH hA) rfl rfl hl.1 rfl (lv_room (Nat.le_of_ble_eq_true rfl)) d_A_increase_30 ⟨Nat.zero_le _, Nat.zero_le _⟩) hH hA (fun  w56 H54 lc55 hH57 p30 => ?_)
      obtain ⟨⟨f_58, e59, bd60, p30⟩, hg61⟩ := p30
      replace bd60 : bd f_58 15 0 9999 := bd60
      replace p30 : V f_58 15 = (V f 15 + V g 15) % Bp 15 := p30
      have e62 : w56 q = .inr (0, [.ref (ad E (q + 1)), .int (iI ng)]) := (hg61 q (by omega)).trans c0
      have e63 : w56 r = .inr (0, [.ref (ad E (r + 1)), .int (iI no)]) := (hg61 r (by omega)).trans c2
      have e64 : w56 (r + 1) = zar E 15 g := (hg61 (r + 1) (by omega)).trans c3
      have hf65 : ∀ k, k ≠ (q + 1) → w56 k = w0 k := fun k g0 => hg61 k g0
      refine lv_goto (tgt := 88) hx hb d_A_increase_33 rfl ?_
      exact L88 y f_58 _ H54 lc55 w56 (lv_sub hl [0, 1, 2, 3] rfl) hH57 e62 e59 e63 e64 (fun k g0 => hf65 k g0) (by assumption) (by omega) (by rw [p30, Int.emod_eq_of_lt (by omega) (by omega), show y = ng by omega]; exact sv_add hng)
  refine lv_aload_n hx hb d_A_increase_0 rfl (lv_at hl 1 rfl) ?_
  refine zv_get (C := "ScaledNumeralDesk$Amount") (T := TA) (N := 2) hx hb hg uA_in hown hK hH q2lt c2 rfl 1 (by decide) (hg _ wm_46) (fun _ h9 => h9) rfl d_A_increase_1 ?_
  refine lv_iload_n hx hb d_A_increase_4 rfl (lv_at hl 2 rfl) ?_
  refine zv_icmp_eq (tgt := 12) hx hb d_A_increase_5 rfl (by omega) (by omega) (fun h66 => ?_) (fun h66 => ?_)
  · refine zv_iconst hx hb d_A_increase_12 ?_
    exact L13 0 _ s.heap ([]) (lv_sub hl [0, 1, 2] rfl) hH (by omega)
  · refine zv_iconst hx hb d_A_increase_8 ?_
    refine lv_goto (tgt := 13) hx hb d_A_increase_9 rfl ?_
    exact L13 1 _ s.heap ([]) (lv_sub hl [0, 1, 2] rfl) hH (by omega)
def rm_A_increaseAA : Room := { frames := 3, cells := 0, slots := 0, locals := 62 }
set_option maxHeartbeats 4000000 in
set_option maxRecDepth 100000 in
theorem c_A_increaseAA (l : Launch) (E : zE) (w0 : zW) (q : Nat) (f : Int → Int) (ng : Int) (q0lt : q < zn E) (q1lt : q + 1 < zn E) (c0 : w0 q = .inr (0, [.ref (ad E (q + 1)), .int (iI ng)])) (c1 : w0 (q + 1) = zar E 15 f) (bf : bd f 15 0 9999) (hng : ng = 0 ∨ ng = 1) (hs : V f 15 + V f 15 < Bp 15) : zM l y_A_increase ws_A_increase rm_A_increaseAA E [.ref (ad E q), .ref (ad E q), .int (iI 0)] w0 (zQv E w0 (fun w' => (∃ (n' : Int) (f' : Int → Int), w' q = .inr (0, [.ref (ad E (q + 1)), .int (iI n')]) ∧ w' (q + 1) = zar E 15 f' ∧ bd f' 15 0 9999 ∧ ((n' = 0 ∨ n' = 1) ∧ (V f' 15 = 0 → n' = 0) ∧ sv n' (V f' 15) = sv ng (V f 15) + sv ng (V f 15))) ∧ ∀ k, k ≠ q → k ≠ (q + 1) → w' k = w0 k)) := by
  refine z_met (cc := b_A_increase) (maxL := 4) (ret := none) (by decide +kernel) rfl (Nat.le_of_ble_eq_true rfl) ?_
  intro p e s m below meth cd ls a Qf hQ hC hl hH
  obtain ⟨hF, hr, hlk, hK, hG, hn⟩ := hC
  obtain ⟨hx, hb, hml, hown, hts⟩ := hF
  have hg : ∀ w ∈ GW, w.before a s = true := fun w h => hts w (List.mem_cons_of_mem _ h)
  have hA : ∀ q, s.heap.size ≤ q → va_A (wl E w0) s.heap.size q := fun q h => Or.inr h
  have hl : lv_has ls 4 [(0, .ref (ad E q)), (1, .ref (ad E q)), (2, .int (iI 0))] := hl
  have vf := V_in bf (show (0 : Int) ≤ 15 by decide) (Int.le_refl 15)
  have L13 : ∀ (y : Int) (ls : Array Slot) (H1 : Heap) (lc2 : List Loc), (lv_has ls 4 [(0, .ref (ad E q)), (1, .ref (ad E q)), (2, .int (iI 0))]) → (zH E w0 (va_A (wl E w0) s.heap.size) s.heap H1 lc2) → (y = ng) → W p l e rm_A_increaseAA s m a below meth cd H1 lc2 0 0 Qf (F0 m 13 ls [.int (iI y)]) := by
    intro y ls H1 lc2 hl hH hy
    refine lv_istore_n (lv' := [(3, .int (iI y)), (0, .ref (ad E q)), (1, .ref (ad E q)), (2, .int (iI 0))]) hx hb d_A_increase_13 rfl hl (by decide) rfl (fun ls hl => ?_)
    refine lv_iload_n hx hb d_A_increase_14 rfl (lv_at hl 0 rfl) ?_
    refine lv_aload_n hx hb d_A_increase_15 rfl (lv_at hl 1 rfl) ?_
    refine zv_get (C := "ScaledNumeralDesk$Amount") (T := TA) (N := 2) hx hb hg uA_in hown hK hH q0lt c0 rfl 1 (by decide) (hg _ wm_46) (fun _ h9 => h9) rfl d_A_increase_16 ?_
    refine zv_icmp_ne (tgt := 36) hx hb d_A_increase_19 rfl (by omega) (by omega) (fun h3 => absurd h3 (by omega)) (fun h3 => ?_)
    refine lv_aload_n hx hb d_A_increase_22 rfl (lv_at hl 1 rfl) ?_
    refine zv_get (C := "ScaledNumeralDesk$Amount") (T := TA) (N := 2) hx hb hg uA_in hown hK hH q0lt c0 rfl 0 (by decide) (hg _ wm_42) (fun _ h9 => h9) rfl d_A_increase_23 ?_
    refine lv_aload_n hx hb d_A_increase_26 rfl (lv_at hl 2 rfl) ?_
    refine zv_get (C := "ScaledNumeralDesk$Amount") (T := TA) (N := 2) hx hb hg uA_in hown hK hH q0lt c0 rfl 0 (by decide) (hg _ wm_42) (fun _ h9 => h9) rfl d_A_increase_27 ?_
    refine z_callv (va_runS (As := [.ref (ad E (q + 1)), .ref (ad E (q + 1))]) (rest := []) ⟨hx, hb, hml, hown, hts⟩ (c_addAA (l := l) (E := E) (w0 := w0) (q := q + 1) (N := 15) (f := f) (q0lt := q1lt) (c0 := c1) (hN := by omega) (bf := bf) H1.size) (z_cwS 2 hg wm_391 wm_389 wm_16 wm_390 (by decide +kernel) ⟨Nat.le_of_ble_eq_true rfl, Nat.le_of_ble_eq_true rfl⟩) (z_preS hK hG hn hH hA) rfl rfl hl.1 rfl (lv_room (Nat.le_of_ble_eq_true rfl)) d_A_increase_30 ⟨Nat.zero_le _, Nat.zero_le _⟩) hH hA (fun  w6 H4 lc5 hH7 p30 => ?_)
    obtain ⟨⟨h, e8, bd9, p30⟩, hg10⟩ := p30
    replace bd9 : bd h 15 0 9999 := bd9
    replace p30 : V h 15 = (V f 15 + V f 15) % Bp 15 := p30
    have e11 : w6 q = .inr (0, [.ref (ad E (q + 1)), .int (iI ng)]) := (hg10 q (by omega)).trans c0
    have hf12 : ∀ k, k ≠ (q + 1) → w6 k = w0 k := fun k g0 => hg10 k g0
    have vh : V h 15 = V f 15 + V f 15 := by rw [p30, Int.emod_eq_of_lt (by omega) (by omega)]
    refine lv_goto (tgt := 88) hx hb d_A_increase_33 rfl ?_
    refine lv_aload_n hx hb d_A_increase_88 rfl (lv_at hl 1 rfl) ?_
    refine lv_iload_n hx hb d_A_increase_89 rfl (lv_at hl 0 rfl) ?_
    refine z_callv (va_runV (As := [.int (iI y)]) (rest := []) ⟨hx, hb, hml, hown, hts⟩ (c_A_signAs (l := l) (E := E) (w0 := w6) (q := q) (f := h) (ng := ng) (mn := y) (q0lt := q0lt) (q1lt := q1lt) (c0 := e11) (c1 := e8) (bf := bd9) (hmn := by omega) H4.size) (z_cwV (C := "ScaledNumeralDesk$Amount") 1 hg wm_293 wm_399 wm_5 wm_291 wm_292 (by decide +kernel) ⟨Nat.le_of_ble_eq_true rfl, Nat.le_of_ble_eq_true rfl⟩) (z_preV (r := ("ScaledNumeralDesk$Amount", TA, 2)) hK hG hn hH7 hA q0lt e11 rfl) rfl rfl hl.1 rfl (lv_room (Nat.le_of_ble_eq_true rfl)) d_A_increase_90 ⟨Nat.zero_le _, Nat.zero_le _⟩) hH7 hA (fun  w15 H13 lc14 hH16 p90 => ?_)
    obtain ⟨⟨n_17, e18, p90⟩, hg19⟩ := p90
    replace p90 : (n_17 = 0 ∨ n_17 = 1) ∧ (V h 15 = 0 → n_17 = 0) ∧ (0 < V h 15 → n_17 = y) := p90
    have e20 : w15 (q + 1) = zar E 15 h := (hg19 (q + 1) (by omega)).trans e8
    have hf21 : ∀ k, k ≠ (q + 1) → k ≠ q → w15 k = w0 k := fun k g0 g1 => (hg19 k g1).trans (hf12 k g0)
    rw [hQ]
    exact z_vret hx hb hr hlk hH16 (⟨⟨n_17, h, e18, e20, bd9, ⟨p90.1, p90.2.1, by
        rw [vh, ← sv_add hng]
        by_cases h0 : V h 15 = 0
        · rw [p90.2.1 h0, ← vh, h0, sv_0]; rcases hng with rfl | rfl
          · rw [sv_0]
          · rw [sv_1]; rfl
        · rw [p90.2.2 (by omega), hy]⟩⟩, (fun k g0 g1 => hf21 k g1 g0)⟩) d_A_increase_93
  refine lv_aload_n hx hb d_A_increase_0 rfl (lv_at hl 1 rfl) ?_
  refine zv_get (C := "ScaledNumeralDesk$Amount") (T := TA) (N := 2) hx hb hg uA_in hown hK hH q0lt c0 rfl 1 (by decide) (hg _ wm_46) (fun _ h9 => h9) rfl d_A_increase_1 ?_
  refine lv_iload_n hx hb d_A_increase_4 rfl (lv_at hl 2 rfl) ?_
  refine zv_icmp_eq (tgt := 12) hx hb d_A_increase_5 rfl (by omega) (by omega) (fun h22 => ?_) (fun h22 => ?_)
  · refine zv_iconst hx hb d_A_increase_12 ?_
    exact L13 0 _ s.heap ([]) (lv_sub hl [0, 1, 2] rfl) hH (by omega)
  · refine zv_iconst hx hb d_A_increase_8 ?_
    refine lv_goto (tgt := 13) hx hb d_A_increase_9 rfl ?_
    exact L13 1 _ s.heap ([]) (lv_sub hl [0, 1, 2] rfl) hH (by omega)
def rm_A_compared : Room := { frames := 2, cells := 0, slots := 0, locals := 43 }
set_option maxHeartbeats 4000000 in
set_option maxRecDepth 100000 in
theorem c_A_compared (l : Launch) (E : zE) (w0 : zW) (q r : Nat) (f g : Int → Int) (ng no : Int) (q0lt : q < zn E) (q1lt : q + 1 < zn E) (q2lt : r < zn E) (q3lt : r + 1 < zn E) (c0 : w0 q = .inr (0, [.ref (ad E (q + 1)), .int (iI ng)])) (c1 : w0 (q + 1) = zar E 15 f) (c2 : w0 r = .inr (0, [.ref (ad E (r + 1)), .int (iI no)])) (c3 : w0 (r + 1) = zar E 15 g) (bf : bd f 15 0 9999) (bg : bd g 15 0 9999) (hno : no = 0 ∨ no = 1) (hng : ng = 0 ∨ ng = 1) (cf : V f 15 = 0 → ng = 0) (cg : V g 15 = 0 → no = 0) : zM l y_A_comparedWith ws_A_comparedWith rm_A_compared E [.ref (ad E q), .ref (ad E r)] w0 (zQi E w0 (fun z w' => w' = w0 ∧ ((z = -1 ∧ sv ng (V f 15) < sv no (V g 15)) ∨ (z = 0 ∧ sv ng (V f 15) = sv no (V g 15)) ∨ (z = 1 ∧ sv no (V g 15) < sv ng (V f 15))))) := by
  refine z_met (cc := b_A_comparedWith) (maxL := 3) (ret := (some .int)) (by decide +kernel) rfl (Nat.le_of_ble_eq_true rfl) ?_
  intro p e s m below meth cd ls a Qf hQ hC hl hH
  obtain ⟨hF, hr, hlk, hK, hG, hn⟩ := hC
  obtain ⟨hx, hb, hml, hown, hts⟩ := hF
  have hg : ∀ w ∈ GW, w.before a s = true := fun w h => hts w (List.mem_cons_of_mem _ h)
  have hA : ∀ q, s.heap.size ≤ q → va_A (wl E w0) s.heap.size q := fun q h => Or.inr h
  have hl : lv_has ls 3 [(0, .ref (ad E q)), (1, .ref (ad E r))] := hl
  have vf := V_in bf (show (0 : Int) ≤ 15 by decide) (Int.le_refl 15)
  have vg := V_in bg (show (0 : Int) ≤ 15 by decide) (Int.le_refl 15)
  refine lv_aload_n hx hb d_A_comparedWith_0 rfl (lv_at hl 0 rfl) ?_
  refine zv_get (C := "ScaledNumeralDesk$Amount") (T := TA) (N := 2) hx hb hg uA_in hown hK hH q0lt c0 rfl 1 (by decide) (hg _ wm_46) (fun _ h9 => h9) rfl d_A_comparedWith_1 ?_
  refine lv_aload_n hx hb d_A_comparedWith_4 rfl (lv_at hl 1 rfl) ?_
  refine zv_get (C := "ScaledNumeralDesk$Amount") (T := TA) (N := 2) hx hb hg uA_in hown hK hH q2lt c2 rfl 1 (by decide) (hg _ wm_46) (fun _ h9 => h9) rfl d_A_comparedWith_5 ?_
  refine zv_icmp_eq (tgt := 24) hx hb d_A_comparedWith_8 rfl (by omega) (by omega) (fun h1 => ?_) (fun h1 => ?_)
  · refine lv_aload_n hx hb d_A_comparedWith_24 rfl (lv_at hl 0 rfl) ?_
    refine zv_get (C := "ScaledNumeralDesk$Amount") (T := TA) (N := 2) hx hb hg uA_in hown hK hH q0lt c0 rfl 0 (by decide) (hg _ wm_42) (fun _ h9 => h9) rfl d_A_comparedWith_25 ?_
    refine lv_aload_n hx hb d_A_comparedWith_28 rfl (lv_at hl 1 rfl) ?_
    refine zv_get (C := "ScaledNumeralDesk$Amount") (T := TA) (N := 2) hx hb hg uA_in hown hK hH q2lt c2 rfl 0 (by decide) (hg _ wm_42) (fun _ h9 => h9) rfl d_A_comparedWith_29 ?_
    refine z_calli (va_runS (As := [.ref (ad E (q + 1)), .ref (ad E (r + 1))]) (rest := []) ⟨hx, hb, hml, hown, hts⟩ (c_order (l := l) (E := E) (w0 := w0) (q := q + 1) (r := r + 1) (N := 15) (f := f) (g := g) (q0lt := q1lt) (q1lt := q3lt) (c0 := c1) (c1 := c3) (hN := by omega) (bf := bf) (bg := bg) s.heap.size) (z_cwS 2 hg wm_394 wm_392 wm_16 wm_393 (by decide +kernel) ⟨Nat.le_of_ble_eq_true rfl, Nat.le_of_ble_eq_true rfl⟩) (z_preS hK hG hn hH hA) rfl rfl hl.1 rfl (lv_room (Nat.le_of_ble_eq_true rfl)) d_A_comparedWith_32 ⟨Nat.zero_le _, Nat.zero_le _⟩) hH hA (fun z7 w4 H2 lc3 hH5 hp6 => ?_)
    obtain ⟨ew8, hp6⟩ := hp6
    rw [ew8] at hH5
    replace hp6 : (z7 = -1 ∧ V f 15 < V g 15) ∨ (z7 = 0 ∧ V f 15 = V g 15) ∨ (z7 = 1 ∧ V g 15 < V f 15) := hp6
    refine lv_istore_n (lv' := [(2, .int (iI z7)), (0, .ref (ad E q)), (1, .ref (ad E r))]) hx hb d_A_comparedWith_35 rfl hl (by decide) rfl (fun ls hl => ?_)
    refine lv_aload_n hx hb d_A_comparedWith_36 rfl (lv_at hl 1 rfl) ?_
    refine zv_get (C := "ScaledNumeralDesk$Amount") (T := TA) (N := 2) hx hb hg uA_in hown hK hH5 q0lt c0 rfl 1 (by decide) (hg _ wm_46) (fun _ h9 => h9) rfl d_A_comparedWith_37 ?_
    refine zv_if_eq (tgt := 48) hx hb d_A_comparedWith_40 rfl (by omega) (fun h9 => ?_) (fun h9 => ?_)
    · refine lv_iload_n hx hb d_A_comparedWith_48 rfl (lv_at hl 0 rfl) ?_
      have sf := sv_c hng (V f 15)
      have sg := sv_c hno (V g 15)
      rw [hQ]
      exact z_iret hx hb hr hlk hH5 (⟨rfl, by omega⟩) d_A_comparedWith_49
    · refine lv_iload_n hx hb d_A_comparedWith_43 rfl (lv_at hl 0 rfl) ?_
      refine zv_ineg hx hb d_A_comparedWith_44 ?_
      refine lv_goto (tgt := 49) hx hb d_A_comparedWith_45 rfl ?_
      have sf := sv_c hng (V f 15)
      have sg := sv_c hno (V g 15)
      rw [hQ]
      exact z_iret hx hb hr hlk hH5 (⟨rfl, by omega⟩) d_A_comparedWith_49
  · refine lv_aload_n hx hb d_A_comparedWith_11 rfl (lv_at hl 0 rfl) ?_
    refine zv_get (C := "ScaledNumeralDesk$Amount") (T := TA) (N := 2) hx hb hg uA_in hown hK hH q0lt c0 rfl 1 (by decide) (hg _ wm_46) (fun _ h9 => h9) rfl d_A_comparedWith_12 ?_
    refine zv_if_eq (tgt := 22) hx hb d_A_comparedWith_15 rfl (by omega) (fun h10 => ?_) (fun h10 => ?_)
    · refine zv_iconst hx hb d_A_comparedWith_22 ?_
      have sf := sv_c hng (V f 15)
      have sg := sv_c hno (V g 15)
      rw [hQ]
      exact z_iret hx hb hr hlk hH (⟨rfl, by omega⟩) d_A_comparedWith_23
    · refine zv_iconst hx hb d_A_comparedWith_18 ?_
      refine lv_goto (tgt := 23) hx hb d_A_comparedWith_19 rfl ?_
      have sf := sv_c hng (V f 15)
      have sg := sv_c hno (V g 15)
      rw [hQ]
      exact z_iret hx hb hr hlk hH (⟨rfl, by omega⟩) d_A_comparedWith_23
def rm_A_reaches : Room := { frames := 2, cells := 0, slots := 0, locals := 44 }
set_option maxHeartbeats 4000000 in
set_option maxRecDepth 100000 in
theorem c_A_reaches (l : Launch) (E : zE) (w0 : zW) (q : Nat) (f : Int → Int) (ng x : Int) (q0lt : q < zn E) (q1lt : q + 1 < zn E) (c0 : w0 q = .inr (0, [.ref (ad E (q + 1)), .int (iI ng)])) (c1 : w0 (q + 1) = zar E 15 f) (bf : bd f 15 0 9999) (hx0 : -24 ≤ x ∧ x ≤ 1000) : zM l y_A_reachesTenTo ws_A_reachesTenTo rm_A_reaches E [.ref (ad E q), .int (iI x)] w0 (zQi E w0 (fun z w' => w' = w0 ∧ ((z = 1 ∧ Tp (24 + x) ≤ V f 15) ∨ (z = 0 ∧ V f 15 < Tp (24 + x))))) := by
  refine z_met (cc := b_A_reachesTenTo) (maxL := 2) (ret := (some .boolean)) (by decide +kernel) rfl (Nat.le_of_ble_eq_true rfl) ?_
  intro p e s m below meth cd ls a Qf hQ hC hl hH
  obtain ⟨hF, hr, hlk, hK, hG, hn⟩ := hC
  obtain ⟨hx, hb, hml, hown, hts⟩ := hF
  have hg : ∀ w ∈ GW, w.before a s = true := fun w h => hts w (List.mem_cons_of_mem _ h)
  have hA : ∀ q, s.heap.size ≤ q → va_A (wl E w0) s.heap.size q := fun q h => Or.inr h
  have hl : lv_has ls 2 [(0, .ref (ad E q)), (1, .int (iI x))] := hl
  refine lv_aload_n hx hb d_A_reachesTenTo_0 rfl (lv_at hl 0 rfl) ?_
  refine zv_get (C := "ScaledNumeralDesk$Amount") (T := TA) (N := 2) hx hb hg uA_in hown hK hH q0lt c0 rfl 0 (by decide) (hg _ wm_42) (fun _ h9 => h9) rfl d_A_reachesTenTo_1 ?_
  refine z_calli (va_runS (As := [.ref (ad E (q + 1))]) (rest := []) ⟨hx, hb, hml, hown, hts⟩ (c_digits (l := l) (E := E) (w0 := w0) (q := q + 1) (N := 15) (f := f) (q0lt := q1lt) (c0 := c1) (hN := by omega) (bf := bf) s.heap.size) (z_cwS 1 hg wm_311 wm_309 wm_16 wm_310 (by decide +kernel) ⟨Nat.le_of_ble_eq_true rfl, Nat.le_of_ble_eq_true rfl⟩) (z_preS hK hG hn hH hA) rfl rfl hl.1 rfl (lv_room (Nat.le_of_ble_eq_true rfl)) d_A_reachesTenTo_4 ⟨Nat.zero_le _, Nat.zero_le _⟩) hH hA (fun t w3 H1 lc2 hH4 hd => ?_)
  obtain ⟨ew5, hd⟩ := hd
  rw [ew5] at hH4
  replace hd : dgs (V f 15) t ∧ 0 ≤ t ∧ t ≤ 15 * 4 := hd
  refine zv_bipush hx hb d_A_reachesTenTo_7 rfl ?_
  refine lv_iload_n hx hb d_A_reachesTenTo_9 rfl (lv_at hl 1 rfl) ?_
  refine zv_iadd hx hb d_A_reachesTenTo_10 ?_
  refine zv_icmp_le (tgt := 18) hx hb d_A_reachesTenTo_11 rfl (by omega) (by omega) (fun h6 => ?_) (fun h6 => ?_)
  · refine zv_iconst hx hb d_A_reachesTenTo_18 ?_
    have vf := V_in bf (show (0 : Int) ≤ 15 by decide) (Int.le_refl 15)
    have g9 := dgs_gt (n := 24 + x) hd.1 vf.1 (by omega)
    rw [hQ]
    exact z_zret hx hb hr hlk hH4 (⟨rfl, by omega⟩) (by exact nar_z (by omega)) d_A_reachesTenTo_19
  · refine zv_iconst hx hb d_A_reachesTenTo_14 ?_
    refine lv_goto (tgt := 19) hx hb d_A_reachesTenTo_15 rfl ?_
    have vf := V_in bf (show (0 : Int) ≤ 15 by decide) (Int.le_refl 15)
    have g9 := dgs_gt (n := 24 + x) hd.1 vf.1 (by omega)
    rw [hQ]
    exact z_zret hx hb hr hlk hH4 (⟨rfl, by omega⟩) (by exact nar_z (by omega)) d_A_reachesTenTo_19
def rm_A_weight : Room := { frames := 1, cells := 0, slots := 0, locals := 21 }
set_option maxHeartbeats 4000000 in
set_option maxRecDepth 100000 in
theorem c_A_weight (l : Launch) (E : zE) (w0 : zW) (q : Nat) (f : Int → Int) (ng : Int) (q0lt : q < zn E) (q1lt : q + 1 < zn E) (c0 : w0 q = .inr (0, [.ref (ad E (q + 1)), .int (iI ng)])) (c1 : w0 (q + 1) = zar E 15 f) (bf : bd f 15 0 9999) : zM l y_A_weight ws_A_weight rm_A_weight E [.ref (ad E q)] w0 (zQi E w0 (fun z w' => w' = w0 ∧ (Wt (V f 15) z))) := by
  refine z_met (cc := b_A_weight) (maxL := 2) (ret := (some .int)) (by decide +kernel) rfl (Nat.le_of_ble_eq_true rfl) ?_
  intro p e s m below meth cd ls a Qf hQ hC hl hH
  obtain ⟨hF, hr, hlk, hK, hG, hn⟩ := hC
  obtain ⟨hx, hb, hml, hown, hts⟩ := hF
  have hg : ∀ w ∈ GW, w.before a s = true := fun w h => hts w (List.mem_cons_of_mem _ h)
  have hA : ∀ q, s.heap.size ≤ q → va_A (wl E w0) s.heap.size q := fun q h => Or.inr h
  have hl : lv_has ls 2 [(0, .ref (ad E q))] := hl
  refine lv_aload_n hx hb d_A_weight_0 rfl (lv_at hl 0 rfl) ?_
  refine zv_get (C := "ScaledNumeralDesk$Amount") (T := TA) (N := 2) hx hb hg uA_in hown hK hH q0lt c0 rfl 0 (by decide) (hg _ wm_42) (fun _ h9 => h9) rfl d_A_weight_1 ?_
  refine z_calli (va_runS (As := [.ref (ad E (q + 1))]) (rest := []) ⟨hx, hb, hml, hown, hts⟩ (c_topLimb (l := l) (E := E) (w0 := w0) (q := q + 1) (N := 15) (f := f) (q0lt := q1lt) (c0 := c1) (hN := by omega) (bf := bf) s.heap.size) (z_cwS 1 hg wm_300 wm_298 wm_16 wm_299 (by decide +kernel) ⟨Nat.le_of_ble_eq_true rfl, Nat.le_of_ble_eq_true rfl⟩) (z_preS hK hG hn hH hA) rfl rfl hl.1 rfl (lv_room (Nat.le_of_ble_eq_true rfl)) d_A_weight_4 ⟨Nat.zero_le _, Nat.zero_le _⟩) hH hA (fun t w3 H1 lc2 hH4 hT => ?_)
  obtain ⟨ew5, hT⟩ := hT
  rw [ew5] at hH4
  replace hT : -1 ≤ t ∧ t < 15 ∧ (∀ j, t < j → j < 15 → f j = 0) ∧ (0 ≤ t → f t ≠ 0) := hT
  refine lv_istore_n (lv' := [(1, .int (iI t)), (0, .ref (ad E q))]) hx hb d_A_weight_7 rfl hl (by decide) rfl (fun ls hl => ?_)
  refine lv_iload_n hx hb d_A_weight_8 rfl (lv_at hl 0 rfl) ?_
  refine zv_if_ge (tgt := 16) hx hb d_A_weight_9 rfl (by omega) (fun h6 => ?_) (fun h6 => ?_)
  · refine lv_iload_n hx hb d_A_weight_16 rfl (lv_at hl 0 rfl) ?_
    refine zv_bipush hx hb d_A_weight_17 rfl ?_
    refine zv_isub hx hb d_A_weight_19 ?_
    have k9 := tz_V bf (by omega) (by omega) hT.2.2.1 (hT.2.2.2 (by omega))
    rw [hQ]
    exact z_iret hx hb hr hlk hH4 (⟨rfl, Or.inr ⟨by rw [show t - 6 + 6 = t by omega]; exact k9.1, by rw [show t - 6 + 7 = t + 1 by omega]; exact k9.2.1, by omega, by omega⟩⟩) d_A_weight_20
  · refine zv_iconst hx hb d_A_weight_12 ?_
    refine lv_goto (tgt := 20) hx hb d_A_weight_13 rfl ?_
    rw [hQ]
    exact z_iret hx hb hr hlk hH4 (⟨rfl, Or.inl ⟨rfl, tz_0 (by decide) (by omega) hT.2.2.1⟩⟩) d_A_weight_20
def rm_A_lead : Room := { frames := 1, cells := 0, slots := 0, locals := 21 }
set_option maxHeartbeats 4000000 in
set_option maxRecDepth 100000 in
theorem c_A_lead (l : Launch) (E : zE) (w0 : zW) (q : Nat) (f : Int → Int) (ng : Int) (q0lt : q < zn E) (q1lt : q + 1 < zn E) (c0 : w0 q = .inr (0, [.ref (ad E (q + 1)), .int (iI ng)])) (c1 : w0 (q + 1) = zar E 15 f) (bf : bd f 15 0 9999) : zM l y_A_lead ws_A_lead rm_A_lead E [.ref (ad E q)] w0 (zQi E w0 (fun z w' => w' = w0 ∧ (Ld (V f 15) z))) := by
  refine z_met (cc := b_A_lead) (maxL := 2) (ret := (some .int)) (by decide +kernel) rfl (Nat.le_of_ble_eq_true rfl) ?_
  intro p e s m below meth cd ls a Qf hQ hC hl hH
  obtain ⟨hF, hr, hlk, hK, hG, hn⟩ := hC
  obtain ⟨hx, hb, hml, hown, hts⟩ := hF
  have hg : ∀ w ∈ GW, w.before a s = true := fun w h => hts w (List.mem_cons_of_mem _ h)
  have hA : ∀ q, s.heap.size ≤ q → va_A (wl E w0) s.heap.size q := fun q h => Or.inr h
  have hl : lv_has ls 2 [(0, .ref (ad E q))] := hl
  refine lv_aload_n hx hb d_A_lead_0 rfl (lv_at hl 0 rfl) ?_
  refine zv_get (C := "ScaledNumeralDesk$Amount") (T := TA) (N := 2) hx hb hg uA_in hown hK hH q0lt c0 rfl 0 (by decide) (hg _ wm_42) (fun _ h9 => h9) rfl d_A_lead_1 ?_
  refine z_calli (va_runS (As := [.ref (ad E (q + 1))]) (rest := []) ⟨hx, hb, hml, hown, hts⟩ (c_topLimb (l := l) (E := E) (w0 := w0) (q := q + 1) (N := 15) (f := f) (q0lt := q1lt) (c0 := c1) (hN := by omega) (bf := bf) s.heap.size) (z_cwS 1 hg wm_300 wm_298 wm_16 wm_299 (by decide +kernel) ⟨Nat.le_of_ble_eq_true rfl, Nat.le_of_ble_eq_true rfl⟩) (z_preS hK hG hn hH hA) rfl rfl hl.1 rfl (lv_room (Nat.le_of_ble_eq_true rfl)) d_A_lead_4 ⟨Nat.zero_le _, Nat.zero_le _⟩) hH hA (fun t w3 H1 lc2 hH4 hT => ?_)
  obtain ⟨ew5, hT⟩ := hT
  rw [ew5] at hH4
  replace hT : -1 ≤ t ∧ t < 15 ∧ (∀ j, t < j → j < 15 → f j = 0) ∧ (0 ≤ t → f t ≠ 0) := hT
  refine lv_istore_n (lv' := [(1, .int (iI t)), (0, .ref (ad E q))]) hx hb d_A_lead_7 rfl hl (by decide) rfl (fun ls hl => ?_)
  refine lv_iload_n hx hb d_A_lead_8 rfl (lv_at hl 0 rfl) ?_
  refine zv_if_ge (tgt := 16) hx hb d_A_lead_9 rfl (by omega) (fun h6 => ?_) (fun h6 => ?_)
  · refine lv_aload_n hx hb d_A_lead_16 rfl (lv_at hl 1 rfl) ?_
    refine zv_get (C := "ScaledNumeralDesk$Amount") (T := TA) (N := 2) hx hb hg uA_in hown hK hH4 q0lt c0 rfl 0 (by decide) (hg _ wm_42) (fun _ h9 => h9) rfl d_A_lead_17 ?_
    refine lv_iload_n hx hb d_A_lead_20 rfl (lv_at hl 0 rfl) ?_
    refine zv_iald hx hb hK hH4 q1lt c1 (by omega) (by omega) (by omega) d_A_lead_21 ?_
    have b7 := bf t (by omega) (by omega)
    have k9 := tz_V bf (by omega) (by omega) hT.2.2.1 (hT.2.2.2 (by omega))
    rw [hQ]
    exact z_iret hx hb hr hlk hH4 (⟨rfl, Or.inr ⟨t, by omega, by omega, k9.1, k9.2.1, k9.2.2⟩⟩) d_A_lead_22
  · refine zv_iconst hx hb d_A_lead_12 ?_
    refine lv_goto (tgt := 22) hx hb d_A_lead_13 rfl ?_
    rw [hQ]
    exact z_iret hx hb hr hlk hH4 (⟨rfl, Or.inl ⟨rfl, tz_0 (by decide) (by omega) hT.2.2.1⟩⟩) d_A_lead_22
