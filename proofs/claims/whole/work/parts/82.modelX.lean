def rm_M_enterX : Room := { frames := 1, cells := 0, slots := 0, locals := 22 }
set_option maxHeartbeats 4000000 in
set_option maxRecDepth 100000 in
theorem c_M_enterX (l : Launch) (E : zE) (w0 : zW) (g : Nat) (ty xm ym ne : Int) (v0 : Int) (q0lt : g < zn E) (c0 : w0 g = .inr (6, [.ref (ad E (g + 1)), .ref (ad E (g + 2)), .ref (ad E (g + 3)), .ref (ad E (g + 4)), .int (iI ty), .ref (ad E (g + 5)), .ref (ad E (g + 6)), .ref (ad E (g + 7)), .ref (ad E (g + 8)), .ref (ad E (g + 9)), .ref (ad E (g + 10)), .int (iI xm), .int (iI ym), .ref (ad E (g + 11)), .int (iI ne), .ref (ad E (g + 12)), .ref (ad E (g + 13))])) (hz_v0 : zr v0) (hbad : ¬ (0 ≤ v0 ∧ v0 < 8)) : zM l y_M_enter ws_M_enter rm_M_enterX E [.ref (ad E g), .int (iI v0)] w0 (zQi E w0 (fun z w' => w' = w0 ∧ (z = -1))) := by
  refine z_met (cc := b_M_enter) (maxL := 5) (ret := (some .int)) (by decide +kernel) rfl (Nat.le_of_ble_eq_true rfl) ?_
  intro p e s m below meth cd ls a Qf hQ hC hl hH
  obtain ⟨hF, hr, hlk, hK, hG, hn⟩ := hC
  obtain ⟨hx, hb, hml, hown, hts⟩ := hF
  have hg : ∀ w ∈ GW, w.before a s = true := fun w h => hts w (List.mem_cons_of_mem _ h)
  have hA : ∀ q, s.heap.size ≤ q → va_A (wl E w0) s.heap.size q := fun q h => Or.inr h
  have hl : lv_has ls 5 [(0, .ref (ad E g)), (1, .int (iI v0))] := hl
  refine lv_aload_n hx hb d_M_enter_0 rfl (lv_at hl 0 rfl) ?_
  refine lv_iload_n hx hb d_M_enter_1 rfl (lv_at hl 1 rfl) ?_
  refine zv_bipush hx hb d_M_enter_2 rfl ?_
  refine z_calli (va_runV (As := [.int (iI v0), .int (iI 7)]) (rest := []) ⟨hx, hb, hml, hown, hts⟩ (c_M_out (l := l) (E := E) (w0 := w0) (g := g) (ty := ty) (xm := xm) (ym := ym) (ne := ne) (v := v0) (mo := 7) (q0lt := q0lt) (c0 := c0) (hv := by omega) (hmo := by omega) s.heap.size) (z_cwV (C := "ScaledNumeralDeskModel") 2 hg wm_746 wm_743 wm_9 wm_745 wm_s29 (by decide +kernel) ⟨Nat.le_of_ble_eq_true rfl, Nat.le_of_ble_eq_true rfl⟩) (z_preV (r := ("ScaledNumeralDeskModel", TM, 17)) hK hG hn hH hA q0lt c0 rfl) rfl rfl hl.1 rfl (lv_room (Nat.le_of_ble_eq_true rfl)) d_M_enter_4 ⟨Nat.zero_le _, Nat.zero_le _⟩) hH hA (fun z6 w3 H1 lc2 hH4 hp5 => ?_)
  obtain ⟨ew7, hp5⟩ := hp5
  rw [ew7] at hH4
  replace hp5 : (z6 = 1 ∧ (v0 < 0 ∨ (7 : Int) < v0)) ∨ (z6 = 0 ∧ 0 ≤ v0 ∧ v0 ≤ (7 : Int)) := hp5
  refine zv_if_eq (tgt := 12) hx hb d_M_enter_7 rfl (by omega) (fun h8 => absurd h8 (by omega)) (fun h8 => ?_)
  refine zv_iconst hx hb d_M_enter_10 ?_
  rw [hQ]
  exact z_iret hx hb hr hlk hH4 (⟨rfl, rfl⟩) d_M_enter_11
def rm_M_lengthX : Room := { frames := 1, cells := 0, slots := 0, locals := 22 }
set_option maxHeartbeats 4000000 in
set_option maxRecDepth 100000 in
theorem c_M_lengthX (l : Launch) (E : zE) (w0 : zW) (g : Nat) (ty xm ym ne : Int) (v0 : Int) (q0lt : g < zn E) (c0 : w0 g = .inr (6, [.ref (ad E (g + 1)), .ref (ad E (g + 2)), .ref (ad E (g + 3)), .ref (ad E (g + 4)), .int (iI ty), .ref (ad E (g + 5)), .ref (ad E (g + 6)), .ref (ad E (g + 7)), .ref (ad E (g + 8)), .ref (ad E (g + 9)), .ref (ad E (g + 10)), .int (iI xm), .int (iI ym), .ref (ad E (g + 11)), .int (iI ne), .ref (ad E (g + 12)), .ref (ad E (g + 13))])) (hz_v0 : zr v0) (hbad : ¬ (0 ≤ v0 ∧ v0 < 8)) : zM l y_M_length ws_M_length rm_M_lengthX E [.ref (ad E g), .int (iI v0)] w0 (zQi E w0 (fun z w' => w' = w0 ∧ (z = -1))) := by
  refine z_met (cc := b_M_length) (maxL := 2) (ret := (some .int)) (by decide +kernel) rfl (Nat.le_of_ble_eq_true rfl) ?_
  intro p e s m below meth cd ls a Qf hQ hC hl hH
  obtain ⟨hF, hr, hlk, hK, hG, hn⟩ := hC
  obtain ⟨hx, hb, hml, hown, hts⟩ := hF
  have hg : ∀ w ∈ GW, w.before a s = true := fun w h => hts w (List.mem_cons_of_mem _ h)
  have hA : ∀ q, s.heap.size ≤ q → va_A (wl E w0) s.heap.size q := fun q h => Or.inr h
  have hl : lv_has ls 2 [(0, .ref (ad E g)), (1, .int (iI v0))] := hl
  refine lv_aload_n hx hb d_M_length_0 rfl (lv_at hl 0 rfl) ?_
  refine lv_iload_n hx hb d_M_length_1 rfl (lv_at hl 1 rfl) ?_
  refine zv_bipush hx hb d_M_length_2 rfl ?_
  refine z_calli (va_runV (As := [.int (iI v0), .int (iI 7)]) (rest := []) ⟨hx, hb, hml, hown, hts⟩ (c_M_out (l := l) (E := E) (w0 := w0) (g := g) (ty := ty) (xm := xm) (ym := ym) (ne := ne) (v := v0) (mo := 7) (q0lt := q0lt) (c0 := c0) (hv := by omega) (hmo := by omega) s.heap.size) (z_cwV (C := "ScaledNumeralDeskModel") 2 hg wm_746 wm_743 wm_9 wm_745 wm_s29 (by decide +kernel) ⟨Nat.le_of_ble_eq_true rfl, Nat.le_of_ble_eq_true rfl⟩) (z_preV (r := ("ScaledNumeralDeskModel", TM, 17)) hK hG hn hH hA q0lt c0 rfl) rfl rfl hl.1 rfl (lv_room (Nat.le_of_ble_eq_true rfl)) d_M_length_4 ⟨Nat.zero_le _, Nat.zero_le _⟩) hH hA (fun z6 w3 H1 lc2 hH4 hp5 => ?_)
  obtain ⟨ew7, hp5⟩ := hp5
  rw [ew7] at hH4
  replace hp5 : (z6 = 1 ∧ (v0 < 0 ∨ (7 : Int) < v0)) ∨ (z6 = 0 ∧ 0 ≤ v0 ∧ v0 ≤ (7 : Int)) := hp5
  refine zv_if_eq (tgt := 12) hx hb d_M_length_7 rfl (by omega) (fun h8 => absurd h8 (by omega)) (fun h8 => ?_)
  refine zv_iconst hx hb d_M_length_10 ?_
  rw [hQ]
  exact z_iret hx hb hr hlk hH4 (⟨rfl, rfl⟩) d_M_length_11
def rm_M_characterX : Room := { frames := 1, cells := 0, slots := 0, locals := 22 }
set_option maxHeartbeats 4000000 in
set_option maxRecDepth 100000 in
theorem c_M_characterX (l : Launch) (E : zE) (w0 : zW) (g : Nat) (ty xm ym ne : Int) (v0 v9 : Int) (q0lt : g < zn E) (c0 : w0 g = .inr (6, [.ref (ad E (g + 1)), .ref (ad E (g + 2)), .ref (ad E (g + 3)), .ref (ad E (g + 4)), .int (iI ty), .ref (ad E (g + 5)), .ref (ad E (g + 6)), .ref (ad E (g + 7)), .ref (ad E (g + 8)), .ref (ad E (g + 9)), .ref (ad E (g + 10)), .int (iI xm), .int (iI ym), .ref (ad E (g + 11)), .int (iI ne), .ref (ad E (g + 12)), .ref (ad E (g + 13))])) (hz_v0 : zr v0) (hz_v9 : zr v9) (hbad : ¬ (0 ≤ v0 ∧ v0 < 8)) : zM l y_M_character ws_M_character rm_M_characterX E [.ref (ad E g), .int (iI v0), .int (iI v9)] w0 (zQi E w0 (fun z w' => w' = w0 ∧ (z = -1))) := by
  refine z_met (cc := b_M_character) (maxL := 5) (ret := (some .int)) (by decide +kernel) rfl (Nat.le_of_ble_eq_true rfl) ?_
  intro p e s m below meth cd ls a Qf hQ hC hl hH
  obtain ⟨hF, hr, hlk, hK, hG, hn⟩ := hC
  obtain ⟨hx, hb, hml, hown, hts⟩ := hF
  have hg : ∀ w ∈ GW, w.before a s = true := fun w h => hts w (List.mem_cons_of_mem _ h)
  have hA : ∀ q, s.heap.size ≤ q → va_A (wl E w0) s.heap.size q := fun q h => Or.inr h
  have hl : lv_has ls 5 [(0, .ref (ad E g)), (1, .int (iI v0)), (2, .int (iI v9))] := hl
  refine lv_aload_n hx hb d_M_character_0 rfl (lv_at hl 0 rfl) ?_
  refine lv_iload_n hx hb d_M_character_1 rfl (lv_at hl 1 rfl) ?_
  refine zv_bipush hx hb d_M_character_2 rfl ?_
  refine z_calli (va_runV (As := [.int (iI v0), .int (iI 7)]) (rest := []) ⟨hx, hb, hml, hown, hts⟩ (c_M_out (l := l) (E := E) (w0 := w0) (g := g) (ty := ty) (xm := xm) (ym := ym) (ne := ne) (v := v0) (mo := 7) (q0lt := q0lt) (c0 := c0) (hv := by omega) (hmo := by omega) s.heap.size) (z_cwV (C := "ScaledNumeralDeskModel") 2 hg wm_746 wm_743 wm_9 wm_745 wm_s29 (by decide +kernel) ⟨Nat.le_of_ble_eq_true rfl, Nat.le_of_ble_eq_true rfl⟩) (z_preV (r := ("ScaledNumeralDeskModel", TM, 17)) hK hG hn hH hA q0lt c0 rfl) rfl rfl hl.1 rfl (lv_room (Nat.le_of_ble_eq_true rfl)) d_M_character_4 ⟨Nat.zero_le _, Nat.zero_le _⟩) hH hA (fun z6 w3 H1 lc2 hH4 hp5 => ?_)
  obtain ⟨ew7, hp5⟩ := hp5
  rw [ew7] at hH4
  replace hp5 : (z6 = 1 ∧ (v0 < 0 ∨ (7 : Int) < v0)) ∨ (z6 = 0 ∧ 0 ≤ v0 ∧ v0 ≤ (7 : Int)) := hp5
  refine zv_if_ne (tgt := 25) hx hb d_M_character_7 rfl (by omega) (fun h8 => ?_) (fun h8 => absurd h8 (by omega))
  refine zv_iconst hx hb d_M_character_25 ?_
  rw [hQ]
  exact z_iret hx hb hr hlk hH4 (⟨rfl, rfl⟩) d_M_character_26
def rm_M_scaleX : Room := { frames := 1, cells := 0, slots := 0, locals := 22 }
set_option maxHeartbeats 4000000 in
set_option maxRecDepth 100000 in
theorem c_M_scaleX (l : Launch) (E : zE) (w0 : zW) (g : Nat) (ty xm ym ne : Int) (v0 : Int) (q0lt : g < zn E) (c0 : w0 g = .inr (6, [.ref (ad E (g + 1)), .ref (ad E (g + 2)), .ref (ad E (g + 3)), .ref (ad E (g + 4)), .int (iI ty), .ref (ad E (g + 5)), .ref (ad E (g + 6)), .ref (ad E (g + 7)), .ref (ad E (g + 8)), .ref (ad E (g + 9)), .ref (ad E (g + 10)), .int (iI xm), .int (iI ym), .ref (ad E (g + 11)), .int (iI ne), .ref (ad E (g + 12)), .ref (ad E (g + 13))])) (hz_v0 : zr v0) (hbad : ¬ (0 ≤ v0 ∧ v0 < 8)) : zM l y_M_scale ws_M_scale rm_M_scaleX E [.ref (ad E g), .int (iI v0)] w0 (zQi E w0 (fun z w' => w' = w0 ∧ (z = -1))) := by
  refine z_met (cc := b_M_scale) (maxL := 2) (ret := (some .int)) (by decide +kernel) rfl (Nat.le_of_ble_eq_true rfl) ?_
  intro p e s m below meth cd ls a Qf hQ hC hl hH
  obtain ⟨hF, hr, hlk, hK, hG, hn⟩ := hC
  obtain ⟨hx, hb, hml, hown, hts⟩ := hF
  have hg : ∀ w ∈ GW, w.before a s = true := fun w h => hts w (List.mem_cons_of_mem _ h)
  have hA : ∀ q, s.heap.size ≤ q → va_A (wl E w0) s.heap.size q := fun q h => Or.inr h
  have hl : lv_has ls 2 [(0, .ref (ad E g)), (1, .int (iI v0))] := hl
  refine lv_aload_n hx hb d_M_scale_0 rfl (lv_at hl 0 rfl) ?_
  refine lv_iload_n hx hb d_M_scale_1 rfl (lv_at hl 1 rfl) ?_
  refine zv_bipush hx hb d_M_scale_2 rfl ?_
  refine z_calli (va_runV (As := [.int (iI v0), .int (iI 7)]) (rest := []) ⟨hx, hb, hml, hown, hts⟩ (c_M_out (l := l) (E := E) (w0 := w0) (g := g) (ty := ty) (xm := xm) (ym := ym) (ne := ne) (v := v0) (mo := 7) (q0lt := q0lt) (c0 := c0) (hv := by omega) (hmo := by omega) s.heap.size) (z_cwV (C := "ScaledNumeralDeskModel") 2 hg wm_746 wm_743 wm_9 wm_745 wm_s29 (by decide +kernel) ⟨Nat.le_of_ble_eq_true rfl, Nat.le_of_ble_eq_true rfl⟩) (z_preV (r := ("ScaledNumeralDeskModel", TM, 17)) hK hG hn hH hA q0lt c0 rfl) rfl rfl hl.1 rfl (lv_room (Nat.le_of_ble_eq_true rfl)) d_M_scale_4 ⟨Nat.zero_le _, Nat.zero_le _⟩) hH hA (fun z6 w3 H1 lc2 hH4 hp5 => ?_)
  obtain ⟨ew7, hp5⟩ := hp5
  rw [ew7] at hH4
  replace hp5 : (z6 = 1 ∧ (v0 < 0 ∨ (7 : Int) < v0)) ∨ (z6 = 0 ∧ 0 ≤ v0 ∧ v0 ≤ (7 : Int)) := hp5
  refine zv_if_ne (tgt := 19) hx hb d_M_scale_7 rfl (by omega) (fun h8 => ?_) (fun h8 => absurd h8 (by omega))
  refine zv_iconst hx hb d_M_scale_19 ?_
  refine lv_goto (tgt := 29) hx hb d_M_scale_20 rfl ?_
  rw [hQ]
  exact z_iret hx hb hr hlk hH4 (⟨rfl, rfl⟩) d_M_scale_29
def rm_M_applyX : Room := { frames := 1, cells := 0, slots := 0, locals := 22 }
set_option maxHeartbeats 4000000 in
set_option maxRecDepth 100000 in
theorem c_M_applyX (l : Launch) (E : zE) (w0 : zW) (g : Nat) (ty xm ym ne : Int) (op v0 va vb : Int) (q0lt : g < zn E) (c0 : w0 g = .inr (6, [.ref (ad E (g + 1)), .ref (ad E (g + 2)), .ref (ad E (g + 3)), .ref (ad E (g + 4)), .int (iI ty), .ref (ad E (g + 5)), .ref (ad E (g + 6)), .ref (ad E (g + 7)), .ref (ad E (g + 8)), .ref (ad E (g + 9)), .ref (ad E (g + 10)), .int (iI xm), .int (iI ym), .ref (ad E (g + 11)), .int (iI ne), .ref (ad E (g + 12)), .ref (ad E (g + 13))])) (hz_op : zr op) (hz_v0 : zr v0) (hz_va : zr va) (hz_vb : zr vb) (hbad : ¬ (0 ≤ op ∧ op ≤ 5 ∧ (0 ≤ v0 ∧ v0 < 8) ∧ (0 ≤ va ∧ va < 8) ∧ (0 ≤ vb ∧ vb < 8))) : zM l y_M_apply ws_M_apply rm_M_applyX E [.ref (ad E g), .int (iI op), .int (iI v0), .int (iI va), .int (iI vb)] w0 (zQi E w0 (fun z w' => w' = w0 ∧ (z = -1))) := by
  refine z_met (cc := b_M_apply) (maxL := 8) (ret := (some .int)) (by decide +kernel) rfl (Nat.le_of_ble_eq_true rfl) ?_
  intro p e s m below meth cd ls a Qf hQ hC hl hH
  obtain ⟨hF, hr, hlk, hK, hG, hn⟩ := hC
  obtain ⟨hx, hb, hml, hown, hts⟩ := hF
  have hg : ∀ w ∈ GW, w.before a s = true := fun w h => hts w (List.mem_cons_of_mem _ h)
  have hA : ∀ q, s.heap.size ≤ q → va_A (wl E w0) s.heap.size q := fun q h => Or.inr h
  have hl : lv_has ls 8 [(0, .ref (ad E g)), (1, .int (iI op)), (2, .int (iI v0)), (3, .int (iI va)), (4, .int (iI vb))] := hl
  refine lv_aload_n hx hb d_M_apply_0 rfl (lv_at hl 0 rfl) ?_
  refine lv_iload_n hx hb d_M_apply_1 rfl (lv_at hl 1 rfl) ?_
  refine zv_iconst hx hb d_M_apply_2 ?_
  refine z_calli (va_runV (As := [.int (iI op), .int (iI 5)]) (rest := []) ⟨hx, hb, hml, hown, hts⟩ (c_M_out (l := l) (E := E) (w0 := w0) (g := g) (ty := ty) (xm := xm) (ym := ym) (ne := ne) (v := op) (mo := 5) (q0lt := q0lt) (c0 := c0) (hv := by omega) (hmo := by omega) s.heap.size) (z_cwV (C := "ScaledNumeralDeskModel") 2 hg wm_746 wm_743 wm_9 wm_745 wm_s29 (by decide +kernel) ⟨Nat.le_of_ble_eq_true rfl, Nat.le_of_ble_eq_true rfl⟩) (z_preV (r := ("ScaledNumeralDeskModel", TM, 17)) hK hG hn hH hA q0lt c0 rfl) rfl rfl hl.1 rfl (lv_room (Nat.le_of_ble_eq_true rfl)) d_M_apply_3 ⟨Nat.zero_le _, Nat.zero_le _⟩) hH hA (fun z6 w3 H1 lc2 hH4 hp5 => ?_)
  obtain ⟨ew7, hp5⟩ := hp5
  rw [ew7] at hH4
  replace hp5 : (z6 = 1 ∧ (op < 0 ∨ (5 : Int) < op)) ∨ (z6 = 0 ∧ 0 ≤ op ∧ op ≤ (5 : Int)) := hp5
  refine zv_if_ne (tgt := 40) hx hb d_M_apply_6 rfl (by omega) (fun h8 => ?_) (fun h8 => ?_)
  · refine zv_iconst hx hb d_M_apply_40 ?_
    rw [hQ]
    exact z_iret hx hb hr hlk hH4 (⟨rfl, rfl⟩) d_M_apply_41
  · refine lv_aload_n hx hb d_M_apply_9 rfl (lv_at hl 0 rfl) ?_
    refine lv_iload_n hx hb d_M_apply_10 rfl (lv_at hl 2 rfl) ?_
    refine zv_bipush hx hb d_M_apply_11 rfl ?_
    refine z_calli (va_runV (As := [.int (iI v0), .int (iI 7)]) (rest := []) ⟨hx, hb, hml, hown, hts⟩ (c_M_out (l := l) (E := E) (w0 := w0) (g := g) (ty := ty) (xm := xm) (ym := ym) (ne := ne) (v := v0) (mo := 7) (q0lt := q0lt) (c0 := c0) (hv := by omega) (hmo := by omega) H1.size) (z_cwV (C := "ScaledNumeralDeskModel") 2 hg wm_746 wm_743 wm_9 wm_745 wm_s29 (by decide +kernel) ⟨Nat.le_of_ble_eq_true rfl, Nat.le_of_ble_eq_true rfl⟩) (z_preV (r := ("ScaledNumeralDeskModel", TM, 17)) hK hG hn hH4 hA q0lt c0 rfl) rfl rfl hl.1 rfl (lv_room (Nat.le_of_ble_eq_true rfl)) d_M_apply_13 ⟨Nat.zero_le _, Nat.zero_le _⟩) hH4 hA (fun z14 w11 H9 lc10 hH12 hp13 => ?_)
    obtain ⟨ew15, hp13⟩ := hp13
    rw [ew15] at hH12
    replace hp13 : (z14 = 1 ∧ (v0 < 0 ∨ (7 : Int) < v0)) ∨ (z14 = 0 ∧ 0 ≤ v0 ∧ v0 ≤ (7 : Int)) := hp13
    refine zv_if_ne (tgt := 40) hx hb d_M_apply_16 rfl (by omega) (fun h16 => ?_) (fun h16 => ?_)
    · refine zv_iconst hx hb d_M_apply_40 ?_
      rw [hQ]
      exact z_iret hx hb hr hlk hH12 (⟨rfl, rfl⟩) d_M_apply_41
    · refine lv_aload_n hx hb d_M_apply_19 rfl (lv_at hl 0 rfl) ?_
      refine lv_iload_n hx hb d_M_apply_20 rfl (lv_at hl 3 rfl) ?_
      refine zv_bipush hx hb d_M_apply_21 rfl ?_
      refine z_calli (va_runV (As := [.int (iI va), .int (iI 7)]) (rest := []) ⟨hx, hb, hml, hown, hts⟩ (c_M_out (l := l) (E := E) (w0 := w0) (g := g) (ty := ty) (xm := xm) (ym := ym) (ne := ne) (v := va) (mo := 7) (q0lt := q0lt) (c0 := c0) (hv := by omega) (hmo := by omega) H9.size) (z_cwV (C := "ScaledNumeralDeskModel") 2 hg wm_746 wm_743 wm_9 wm_745 wm_s29 (by decide +kernel) ⟨Nat.le_of_ble_eq_true rfl, Nat.le_of_ble_eq_true rfl⟩) (z_preV (r := ("ScaledNumeralDeskModel", TM, 17)) hK hG hn hH12 hA q0lt c0 rfl) rfl rfl hl.1 rfl (lv_room (Nat.le_of_ble_eq_true rfl)) d_M_apply_23 ⟨Nat.zero_le _, Nat.zero_le _⟩) hH12 hA (fun z22 w19 H17 lc18 hH20 hp21 => ?_)
      obtain ⟨ew23, hp21⟩ := hp21
      rw [ew23] at hH20
      replace hp21 : (z22 = 1 ∧ (va < 0 ∨ (7 : Int) < va)) ∨ (z22 = 0 ∧ 0 ≤ va ∧ va ≤ (7 : Int)) := hp21
      refine zv_if_ne (tgt := 40) hx hb d_M_apply_26 rfl (by omega) (fun h24 => ?_) (fun h24 => ?_)
      · refine zv_iconst hx hb d_M_apply_40 ?_
        rw [hQ]
        exact z_iret hx hb hr hlk hH20 (⟨rfl, rfl⟩) d_M_apply_41
      · refine lv_aload_n hx hb d_M_apply_29 rfl (lv_at hl 0 rfl) ?_
        refine lv_iload hx hb d_M_apply_30 (lv_at hl 4 rfl) ?_
        refine zv_bipush hx hb d_M_apply_32 rfl ?_
        refine z_calli (va_runV (As := [.int (iI vb), .int (iI 7)]) (rest := []) ⟨hx, hb, hml, hown, hts⟩ (c_M_out (l := l) (E := E) (w0 := w0) (g := g) (ty := ty) (xm := xm) (ym := ym) (ne := ne) (v := vb) (mo := 7) (q0lt := q0lt) (c0 := c0) (hv := by omega) (hmo := by omega) H17.size) (z_cwV (C := "ScaledNumeralDeskModel") 2 hg wm_746 wm_743 wm_9 wm_745 wm_s29 (by decide +kernel) ⟨Nat.le_of_ble_eq_true rfl, Nat.le_of_ble_eq_true rfl⟩) (z_preV (r := ("ScaledNumeralDeskModel", TM, 17)) hK hG hn hH20 hA q0lt c0 rfl) rfl rfl hl.1 rfl (lv_room (Nat.le_of_ble_eq_true rfl)) d_M_apply_34 ⟨Nat.zero_le _, Nat.zero_le _⟩) hH20 hA (fun z30 w27 H25 lc26 hH28 hp29 => ?_)
        obtain ⟨ew31, hp29⟩ := hp29
        rw [ew31] at hH28
        replace hp29 : (z30 = 1 ∧ (vb < 0 ∨ (7 : Int) < vb)) ∨ (z30 = 0 ∧ 0 ≤ vb ∧ vb ≤ (7 : Int)) := hp29
        refine zv_if_eq (tgt := 42) hx hb d_M_apply_37 rfl (by omega) (fun h32 => absurd h32 (by omega)) (fun h32 => ?_)
        refine zv_iconst hx hb d_M_apply_40 ?_
        rw [hQ]
        exact z_iret hx hb hr hlk hH28 (⟨rfl, rfl⟩) d_M_apply_41
def rm_M_adjustX : Room := { frames := 1, cells := 0, slots := 0, locals := 22 }
set_option maxHeartbeats 4000000 in
set_option maxRecDepth 100000 in
theorem c_M_adjustX (l : Launch) (E : zE) (w0 : zW) (g : Nat) (ty xm ym ne : Int) (op v0 va n0 : Int) (q0lt : g < zn E) (c0 : w0 g = .inr (6, [.ref (ad E (g + 1)), .ref (ad E (g + 2)), .ref (ad E (g + 3)), .ref (ad E (g + 4)), .int (iI ty), .ref (ad E (g + 5)), .ref (ad E (g + 6)), .ref (ad E (g + 7)), .ref (ad E (g + 8)), .ref (ad E (g + 9)), .ref (ad E (g + 10)), .int (iI xm), .int (iI ym), .ref (ad E (g + 11)), .int (iI ne), .ref (ad E (g + 12)), .ref (ad E (g + 13))])) (hz_op : zr op) (hz_v0 : zr v0) (hz_va : zr va) (hz_n0 : zr n0) (hbad : ¬ (0 ≤ op ∧ op ≤ 6 ∧ (0 ≤ v0 ∧ v0 < 8) ∧ (0 ≤ va ∧ va < 8))) : zM l y_M_adjust ws_M_adjust rm_M_adjustX E [.ref (ad E g), .int (iI op), .int (iI v0), .int (iI va), .int (iI n0)] w0 (zQi E w0 (fun z w' => w' = w0 ∧ (z = -1))) := by
  refine z_met (cc := b_M_adjust) (maxL := 7) (ret := (some .int)) (by decide +kernel) rfl (Nat.le_of_ble_eq_true rfl) ?_
  intro p e s m below meth cd ls a Qf hQ hC hl hH
  obtain ⟨hF, hr, hlk, hK, hG, hn⟩ := hC
  obtain ⟨hx, hb, hml, hown, hts⟩ := hF
  have hg : ∀ w ∈ GW, w.before a s = true := fun w h => hts w (List.mem_cons_of_mem _ h)
  have hA : ∀ q, s.heap.size ≤ q → va_A (wl E w0) s.heap.size q := fun q h => Or.inr h
  have hl : lv_has ls 7 [(0, .ref (ad E g)), (1, .int (iI op)), (2, .int (iI v0)), (3, .int (iI va)), (4, .int (iI n0))] := hl
  refine lv_aload_n hx hb d_M_adjust_0 rfl (lv_at hl 0 rfl) ?_
  refine lv_iload_n hx hb d_M_adjust_1 rfl (lv_at hl 1 rfl) ?_
  refine zv_bipush hx hb d_M_adjust_2 rfl ?_
  refine z_calli (va_runV (As := [.int (iI op), .int (iI 6)]) (rest := []) ⟨hx, hb, hml, hown, hts⟩ (c_M_out (l := l) (E := E) (w0 := w0) (g := g) (ty := ty) (xm := xm) (ym := ym) (ne := ne) (v := op) (mo := 6) (q0lt := q0lt) (c0 := c0) (hv := by omega) (hmo := by omega) s.heap.size) (z_cwV (C := "ScaledNumeralDeskModel") 2 hg wm_746 wm_743 wm_9 wm_745 wm_s29 (by decide +kernel) ⟨Nat.le_of_ble_eq_true rfl, Nat.le_of_ble_eq_true rfl⟩) (z_preV (r := ("ScaledNumeralDeskModel", TM, 17)) hK hG hn hH hA q0lt c0 rfl) rfl rfl hl.1 rfl (lv_room (Nat.le_of_ble_eq_true rfl)) d_M_adjust_4 ⟨Nat.zero_le _, Nat.zero_le _⟩) hH hA (fun z6 w3 H1 lc2 hH4 hp5 => ?_)
  obtain ⟨ew7, hp5⟩ := hp5
  rw [ew7] at hH4
  replace hp5 : (z6 = 1 ∧ (op < 0 ∨ (6 : Int) < op)) ∨ (z6 = 0 ∧ 0 ≤ op ∧ op ≤ (6 : Int)) := hp5
  refine zv_if_ne (tgt := 30) hx hb d_M_adjust_7 rfl (by omega) (fun h8 => ?_) (fun h8 => ?_)
  · refine zv_iconst hx hb d_M_adjust_30 ?_
    rw [hQ]
    exact z_iret hx hb hr hlk hH4 (⟨rfl, rfl⟩) d_M_adjust_31
  · refine lv_aload_n hx hb d_M_adjust_10 rfl (lv_at hl 0 rfl) ?_
    refine lv_iload_n hx hb d_M_adjust_11 rfl (lv_at hl 2 rfl) ?_
    refine zv_bipush hx hb d_M_adjust_12 rfl ?_
    refine z_calli (va_runV (As := [.int (iI v0), .int (iI 7)]) (rest := []) ⟨hx, hb, hml, hown, hts⟩ (c_M_out (l := l) (E := E) (w0 := w0) (g := g) (ty := ty) (xm := xm) (ym := ym) (ne := ne) (v := v0) (mo := 7) (q0lt := q0lt) (c0 := c0) (hv := by omega) (hmo := by omega) H1.size) (z_cwV (C := "ScaledNumeralDeskModel") 2 hg wm_746 wm_743 wm_9 wm_745 wm_s29 (by decide +kernel) ⟨Nat.le_of_ble_eq_true rfl, Nat.le_of_ble_eq_true rfl⟩) (z_preV (r := ("ScaledNumeralDeskModel", TM, 17)) hK hG hn hH4 hA q0lt c0 rfl) rfl rfl hl.1 rfl (lv_room (Nat.le_of_ble_eq_true rfl)) d_M_adjust_14 ⟨Nat.zero_le _, Nat.zero_le _⟩) hH4 hA (fun z14 w11 H9 lc10 hH12 hp13 => ?_)
    obtain ⟨ew15, hp13⟩ := hp13
    rw [ew15] at hH12
    replace hp13 : (z14 = 1 ∧ (v0 < 0 ∨ (7 : Int) < v0)) ∨ (z14 = 0 ∧ 0 ≤ v0 ∧ v0 ≤ (7 : Int)) := hp13
    refine zv_if_ne (tgt := 30) hx hb d_M_adjust_17 rfl (by omega) (fun h16 => ?_) (fun h16 => ?_)
    · refine zv_iconst hx hb d_M_adjust_30 ?_
      rw [hQ]
      exact z_iret hx hb hr hlk hH12 (⟨rfl, rfl⟩) d_M_adjust_31
    · refine lv_aload_n hx hb d_M_adjust_20 rfl (lv_at hl 0 rfl) ?_
      refine lv_iload_n hx hb d_M_adjust_21 rfl (lv_at hl 3 rfl) ?_
      refine zv_bipush hx hb d_M_adjust_22 rfl ?_
      refine z_calli (va_runV (As := [.int (iI va), .int (iI 7)]) (rest := []) ⟨hx, hb, hml, hown, hts⟩ (c_M_out (l := l) (E := E) (w0 := w0) (g := g) (ty := ty) (xm := xm) (ym := ym) (ne := ne) (v := va) (mo := 7) (q0lt := q0lt) (c0 := c0) (hv := by omega) (hmo := by omega) H9.size) (z_cwV (C := "ScaledNumeralDeskModel") 2 hg wm_746 wm_743 wm_9 wm_745 wm_s29 (by decide +kernel) ⟨Nat.le_of_ble_eq_true rfl, Nat.le_of_ble_eq_true rfl⟩) (z_preV (r := ("ScaledNumeralDeskModel", TM, 17)) hK hG hn hH12 hA q0lt c0 rfl) rfl rfl hl.1 rfl (lv_room (Nat.le_of_ble_eq_true rfl)) d_M_adjust_24 ⟨Nat.zero_le _, Nat.zero_le _⟩) hH12 hA (fun z22 w19 H17 lc18 hH20 hp21 => ?_)
      obtain ⟨ew23, hp21⟩ := hp21
      rw [ew23] at hH20
      replace hp21 : (z22 = 1 ∧ (va < 0 ∨ (7 : Int) < va)) ∨ (z22 = 0 ∧ 0 ≤ va ∧ va ≤ (7 : Int)) := hp21
      refine zv_if_eq (tgt := 32) hx hb d_M_adjust_27 rfl (by omega) (fun h24 => absurd h24 (by omega)) (fun h24 => ?_)
      refine zv_iconst hx hb d_M_adjust_30 ?_
      rw [hQ]
      exact z_iret hx hb hr hlk hH20 (⟨rfl, rfl⟩) d_M_adjust_31
def rm_M_fitX : Room := { frames := 1, cells := 0, slots := 0, locals := 22 }
set_option maxHeartbeats 4000000 in
set_option maxRecDepth 100000 in
theorem c_M_fitX (l : Launch) (E : zE) (w0 : zW) (g : Nat) (ty xm ym ne : Int) (v0 pr sc : Int) (q0lt : g < zn E) (c0 : w0 g = .inr (6, [.ref (ad E (g + 1)), .ref (ad E (g + 2)), .ref (ad E (g + 3)), .ref (ad E (g + 4)), .int (iI ty), .ref (ad E (g + 5)), .ref (ad E (g + 6)), .ref (ad E (g + 7)), .ref (ad E (g + 8)), .ref (ad E (g + 9)), .ref (ad E (g + 10)), .int (iI xm), .int (iI ym), .ref (ad E (g + 11)), .int (iI ne), .ref (ad E (g + 12)), .ref (ad E (g + 13))])) (hz_v0 : zr v0) (hz_pr : zr pr) (hz_sc : zr sc) (hbad : ¬ ((0 ≤ v0 ∧ v0 < 8) ∧ 1 ≤ pr ∧ pr ≤ 56 ∧ -32 ≤ sc ∧ sc ≤ 24)) : zM l y_M_fit ws_M_fit rm_M_fitX E [.ref (ad E g), .int (iI v0), .int (iI pr), .int (iI sc)] w0 (zQi E w0 (fun z w' => w' = w0 ∧ (z = -1))) := by
  refine z_met (cc := b_M_fit) (maxL := 4) (ret := (some .int)) (by decide +kernel) rfl (Nat.le_of_ble_eq_true rfl) ?_
  intro p e s m below meth cd ls a Qf hQ hC hl hH
  obtain ⟨hF, hr, hlk, hK, hG, hn⟩ := hC
  obtain ⟨hx, hb, hml, hown, hts⟩ := hF
  have hg : ∀ w ∈ GW, w.before a s = true := fun w h => hts w (List.mem_cons_of_mem _ h)
  have hA : ∀ q, s.heap.size ≤ q → va_A (wl E w0) s.heap.size q := fun q h => Or.inr h
  have hl : lv_has ls 4 [(0, .ref (ad E g)), (1, .int (iI v0)), (2, .int (iI pr)), (3, .int (iI sc))] := hl
  refine lv_aload_n hx hb d_M_fit_0 rfl (lv_at hl 0 rfl) ?_
  refine lv_iload_n hx hb d_M_fit_1 rfl (lv_at hl 1 rfl) ?_
  refine zv_bipush hx hb d_M_fit_2 rfl ?_
  refine z_calli (va_runV (As := [.int (iI v0), .int (iI 7)]) (rest := []) ⟨hx, hb, hml, hown, hts⟩ (c_M_out (l := l) (E := E) (w0 := w0) (g := g) (ty := ty) (xm := xm) (ym := ym) (ne := ne) (v := v0) (mo := 7) (q0lt := q0lt) (c0 := c0) (hv := by omega) (hmo := by omega) s.heap.size) (z_cwV (C := "ScaledNumeralDeskModel") 2 hg wm_746 wm_743 wm_9 wm_745 wm_s29 (by decide +kernel) ⟨Nat.le_of_ble_eq_true rfl, Nat.le_of_ble_eq_true rfl⟩) (z_preV (r := ("ScaledNumeralDeskModel", TM, 17)) hK hG hn hH hA q0lt c0 rfl) rfl rfl hl.1 rfl (lv_room (Nat.le_of_ble_eq_true rfl)) d_M_fit_4 ⟨Nat.zero_le _, Nat.zero_le _⟩) hH hA (fun z6 w3 H1 lc2 hH4 hp5 => ?_)
  obtain ⟨ew7, hp5⟩ := hp5
  rw [ew7] at hH4
  replace hp5 : (z6 = 1 ∧ (v0 < 0 ∨ (7 : Int) < v0)) ∨ (z6 = 0 ∧ 0 ≤ v0 ∧ v0 ≤ (7 : Int)) := hp5
  refine zv_if_ne (tgt := 33) hx hb d_M_fit_7 rfl (by omega) (fun h8 => ?_) (fun h8 => ?_)
  · refine zv_iconst hx hb d_M_fit_33 ?_
    rw [hQ]
    exact z_iret hx hb hr hlk hH4 (⟨rfl, rfl⟩) d_M_fit_34
  · refine lv_iload_n hx hb d_M_fit_10 rfl (lv_at hl 2 rfl) ?_
    refine zv_iconst hx hb d_M_fit_11 ?_
    refine zv_icmp_lt (tgt := 33) hx hb d_M_fit_12 rfl (by omega) (by omega) (fun h9 => ?_) (fun h9 => ?_)
    · refine zv_iconst hx hb d_M_fit_33 ?_
      rw [hQ]
      exact z_iret hx hb hr hlk hH4 (⟨rfl, rfl⟩) d_M_fit_34
    · refine lv_iload_n hx hb d_M_fit_15 rfl (lv_at hl 2 rfl) ?_
      refine zv_bipush hx hb d_M_fit_16 rfl ?_
      refine zv_icmp_gt (tgt := 33) hx hb d_M_fit_18 rfl (by omega) (by omega) (fun h10 => ?_) (fun h10 => ?_)
      · refine zv_iconst hx hb d_M_fit_33 ?_
        rw [hQ]
        exact z_iret hx hb hr hlk hH4 (⟨rfl, rfl⟩) d_M_fit_34
      · refine lv_iload_n hx hb d_M_fit_21 rfl (lv_at hl 3 rfl) ?_
        refine zv_bipush hx hb d_M_fit_22 rfl ?_
        refine zv_icmp_lt (tgt := 33) hx hb d_M_fit_24 rfl (by omega) (by omega) (fun h11 => ?_) (fun h11 => ?_)
        · refine zv_iconst hx hb d_M_fit_33 ?_
          rw [hQ]
          exact z_iret hx hb hr hlk hH4 (⟨rfl, rfl⟩) d_M_fit_34
        · refine lv_iload_n hx hb d_M_fit_27 rfl (lv_at hl 3 rfl) ?_
          refine zv_bipush hx hb d_M_fit_28 rfl ?_
          refine zv_icmp_le (tgt := 35) hx hb d_M_fit_30 rfl (by omega) (by omega) (fun h12 => absurd h12 (by omega)) (fun h12 => ?_)
          refine zv_iconst hx hb d_M_fit_33 ?_
          rw [hQ]
          exact z_iret hx hb hr hlk hH4 (⟨rfl, rfl⟩) d_M_fit_34
def rm_M_compareX : Room := { frames := 1, cells := 0, slots := 0, locals := 22 }
set_option maxHeartbeats 4000000 in
set_option maxRecDepth 100000 in
theorem c_M_compareX (l : Launch) (E : zE) (w0 : zW) (g : Nat) (ty xm ym ne : Int) (va vb : Int) (q0lt : g < zn E) (c0 : w0 g = .inr (6, [.ref (ad E (g + 1)), .ref (ad E (g + 2)), .ref (ad E (g + 3)), .ref (ad E (g + 4)), .int (iI ty), .ref (ad E (g + 5)), .ref (ad E (g + 6)), .ref (ad E (g + 7)), .ref (ad E (g + 8)), .ref (ad E (g + 9)), .ref (ad E (g + 10)), .int (iI xm), .int (iI ym), .ref (ad E (g + 11)), .int (iI ne), .ref (ad E (g + 12)), .ref (ad E (g + 13))])) (hz_va : zr va) (hz_vb : zr vb) (hbad : ¬ ((0 ≤ va ∧ va < 8) ∧ (0 ≤ vb ∧ vb < 8))) : zM l y_M_compare ws_M_compare rm_M_compareX E [.ref (ad E g), .int (iI va), .int (iI vb)] w0 (zQi E w0 (fun z w' => w' = w0 ∧ (z = -2))) := by
  refine z_met (cc := b_M_compare) (maxL := 6) (ret := (some .int)) (by decide +kernel) rfl (Nat.le_of_ble_eq_true rfl) ?_
  intro p e s m below meth cd ls a Qf hQ hC hl hH
  obtain ⟨hF, hr, hlk, hK, hG, hn⟩ := hC
  obtain ⟨hx, hb, hml, hown, hts⟩ := hF
  have hg : ∀ w ∈ GW, w.before a s = true := fun w h => hts w (List.mem_cons_of_mem _ h)
  have hA : ∀ q, s.heap.size ≤ q → va_A (wl E w0) s.heap.size q := fun q h => Or.inr h
  have hl : lv_has ls 6 [(0, .ref (ad E g)), (1, .int (iI va)), (2, .int (iI vb))] := hl
  refine lv_aload_n hx hb d_M_compare_0 rfl (lv_at hl 0 rfl) ?_
  refine lv_iload_n hx hb d_M_compare_1 rfl (lv_at hl 1 rfl) ?_
  refine zv_bipush hx hb d_M_compare_2 rfl ?_
  refine z_calli (va_runV (As := [.int (iI va), .int (iI 7)]) (rest := []) ⟨hx, hb, hml, hown, hts⟩ (c_M_out (l := l) (E := E) (w0 := w0) (g := g) (ty := ty) (xm := xm) (ym := ym) (ne := ne) (v := va) (mo := 7) (q0lt := q0lt) (c0 := c0) (hv := by omega) (hmo := by omega) s.heap.size) (z_cwV (C := "ScaledNumeralDeskModel") 2 hg wm_746 wm_743 wm_9 wm_745 wm_s29 (by decide +kernel) ⟨Nat.le_of_ble_eq_true rfl, Nat.le_of_ble_eq_true rfl⟩) (z_preV (r := ("ScaledNumeralDeskModel", TM, 17)) hK hG hn hH hA q0lt c0 rfl) rfl rfl hl.1 rfl (lv_room (Nat.le_of_ble_eq_true rfl)) d_M_compare_4 ⟨Nat.zero_le _, Nat.zero_le _⟩) hH hA (fun z6 w3 H1 lc2 hH4 hp5 => ?_)
  obtain ⟨ew7, hp5⟩ := hp5
  rw [ew7] at hH4
  replace hp5 : (z6 = 1 ∧ (va < 0 ∨ (7 : Int) < va)) ∨ (z6 = 0 ∧ 0 ≤ va ∧ va ≤ (7 : Int)) := hp5
  refine zv_if_ne (tgt := 20) hx hb d_M_compare_7 rfl (by omega) (fun h8 => ?_) (fun h8 => ?_)
  · refine zv_bipush hx hb d_M_compare_20 rfl ?_
    rw [hQ]
    exact z_iret hx hb hr hlk hH4 (⟨rfl, rfl⟩) d_M_compare_22
  · refine lv_aload_n hx hb d_M_compare_10 rfl (lv_at hl 0 rfl) ?_
    refine lv_iload_n hx hb d_M_compare_11 rfl (lv_at hl 2 rfl) ?_
    refine zv_bipush hx hb d_M_compare_12 rfl ?_
    refine z_calli (va_runV (As := [.int (iI vb), .int (iI 7)]) (rest := []) ⟨hx, hb, hml, hown, hts⟩ (c_M_out (l := l) (E := E) (w0 := w0) (g := g) (ty := ty) (xm := xm) (ym := ym) (ne := ne) (v := vb) (mo := 7) (q0lt := q0lt) (c0 := c0) (hv := by omega) (hmo := by omega) H1.size) (z_cwV (C := "ScaledNumeralDeskModel") 2 hg wm_746 wm_743 wm_9 wm_745 wm_s29 (by decide +kernel) ⟨Nat.le_of_ble_eq_true rfl, Nat.le_of_ble_eq_true rfl⟩) (z_preV (r := ("ScaledNumeralDeskModel", TM, 17)) hK hG hn hH4 hA q0lt c0 rfl) rfl rfl hl.1 rfl (lv_room (Nat.le_of_ble_eq_true rfl)) d_M_compare_14 ⟨Nat.zero_le _, Nat.zero_le _⟩) hH4 hA (fun z14 w11 H9 lc10 hH12 hp13 => ?_)
    obtain ⟨ew15, hp13⟩ := hp13
    rw [ew15] at hH12
    replace hp13 : (z14 = 1 ∧ (vb < 0 ∨ (7 : Int) < vb)) ∨ (z14 = 0 ∧ 0 ≤ vb ∧ vb ≤ (7 : Int)) := hp13
    refine zv_if_eq (tgt := 23) hx hb d_M_compare_17 rfl (by omega) (fun h16 => absurd h16 (by omega)) (fun h16 => ?_)
    refine zv_bipush hx hb d_M_compare_20 rfl ?_
    rw [hQ]
    exact z_iret hx hb hr hlk hH12 (⟨rfl, rfl⟩) d_M_compare_22
def rm_M_acceptX : Room := { frames := 1, cells := 0, slots := 0, locals := 22 }
set_option maxHeartbeats 4000000 in
set_option maxRecDepth 100000 in
theorem c_M_acceptX (l : Launch) (E : zE) (w0 : zW) (g : Nat) (ty xm ym ne : Int) (v0 va : Int) (q0lt : g < zn E) (c0 : w0 g = .inr (6, [.ref (ad E (g + 1)), .ref (ad E (g + 2)), .ref (ad E (g + 3)), .ref (ad E (g + 4)), .int (iI ty), .ref (ad E (g + 5)), .ref (ad E (g + 6)), .ref (ad E (g + 7)), .ref (ad E (g + 8)), .ref (ad E (g + 9)), .ref (ad E (g + 10)), .int (iI xm), .int (iI ym), .ref (ad E (g + 11)), .int (iI ne), .ref (ad E (g + 12)), .ref (ad E (g + 13))])) (hz_v0 : zr v0) (hz_va : zr va) (hbad : ¬ ((0 ≤ v0 ∧ v0 < 4) ∧ (0 ≤ va ∧ va < 8))) : zM l y_M_accept ws_M_accept rm_M_acceptX E [.ref (ad E g), .int (iI v0), .int (iI va)] w0 (zQi E w0 (fun z w' => w' = w0 ∧ (z = -1))) := by
  refine z_met (cc := b_M_accept) (maxL := 3) (ret := (some .int)) (by decide +kernel) rfl (Nat.le_of_ble_eq_true rfl) ?_
  intro p e s m below meth cd ls a Qf hQ hC hl hH
  obtain ⟨hF, hr, hlk, hK, hG, hn⟩ := hC
  obtain ⟨hx, hb, hml, hown, hts⟩ := hF
  have hg : ∀ w ∈ GW, w.before a s = true := fun w h => hts w (List.mem_cons_of_mem _ h)
  have hA : ∀ q, s.heap.size ≤ q → va_A (wl E w0) s.heap.size q := fun q h => Or.inr h
  have hl : lv_has ls 3 [(0, .ref (ad E g)), (1, .int (iI v0)), (2, .int (iI va))] := hl
  refine lv_aload_n hx hb d_M_accept_0 rfl (lv_at hl 0 rfl) ?_
  refine lv_iload_n hx hb d_M_accept_1 rfl (lv_at hl 1 rfl) ?_
  refine zv_iconst hx hb d_M_accept_2 ?_
  refine z_calli (va_runV (As := [.int (iI v0), .int (iI 3)]) (rest := []) ⟨hx, hb, hml, hown, hts⟩ (c_M_out (l := l) (E := E) (w0 := w0) (g := g) (ty := ty) (xm := xm) (ym := ym) (ne := ne) (v := v0) (mo := 3) (q0lt := q0lt) (c0 := c0) (hv := by omega) (hmo := by omega) s.heap.size) (z_cwV (C := "ScaledNumeralDeskModel") 2 hg wm_746 wm_743 wm_9 wm_745 wm_s29 (by decide +kernel) ⟨Nat.le_of_ble_eq_true rfl, Nat.le_of_ble_eq_true rfl⟩) (z_preV (r := ("ScaledNumeralDeskModel", TM, 17)) hK hG hn hH hA q0lt c0 rfl) rfl rfl hl.1 rfl (lv_room (Nat.le_of_ble_eq_true rfl)) d_M_accept_3 ⟨Nat.zero_le _, Nat.zero_le _⟩) hH hA (fun z6 w3 H1 lc2 hH4 hp5 => ?_)
  obtain ⟨ew7, hp5⟩ := hp5
  rw [ew7] at hH4
  replace hp5 : (z6 = 1 ∧ (v0 < 0 ∨ (3 : Int) < v0)) ∨ (z6 = 0 ∧ 0 ≤ v0 ∧ v0 ≤ (3 : Int)) := hp5
  refine zv_if_ne (tgt := 19) hx hb d_M_accept_6 rfl (by omega) (fun h8 => ?_) (fun h8 => ?_)
  · refine zv_iconst hx hb d_M_accept_19 ?_
    rw [hQ]
    exact z_iret hx hb hr hlk hH4 (⟨rfl, rfl⟩) d_M_accept_20
  · refine lv_aload_n hx hb d_M_accept_9 rfl (lv_at hl 0 rfl) ?_
    refine lv_iload_n hx hb d_M_accept_10 rfl (lv_at hl 2 rfl) ?_
    refine zv_bipush hx hb d_M_accept_11 rfl ?_
    refine z_calli (va_runV (As := [.int (iI va), .int (iI 7)]) (rest := []) ⟨hx, hb, hml, hown, hts⟩ (c_M_out (l := l) (E := E) (w0 := w0) (g := g) (ty := ty) (xm := xm) (ym := ym) (ne := ne) (v := va) (mo := 7) (q0lt := q0lt) (c0 := c0) (hv := by omega) (hmo := by omega) H1.size) (z_cwV (C := "ScaledNumeralDeskModel") 2 hg wm_746 wm_743 wm_9 wm_745 wm_s29 (by decide +kernel) ⟨Nat.le_of_ble_eq_true rfl, Nat.le_of_ble_eq_true rfl⟩) (z_preV (r := ("ScaledNumeralDeskModel", TM, 17)) hK hG hn hH4 hA q0lt c0 rfl) rfl rfl hl.1 rfl (lv_room (Nat.le_of_ble_eq_true rfl)) d_M_accept_13 ⟨Nat.zero_le _, Nat.zero_le _⟩) hH4 hA (fun z14 w11 H9 lc10 hH12 hp13 => ?_)
    obtain ⟨ew15, hp13⟩ := hp13
    rw [ew15] at hH12
    replace hp13 : (z14 = 1 ∧ (va < 0 ∨ (7 : Int) < va)) ∨ (z14 = 0 ∧ 0 ≤ va ∧ va ≤ (7 : Int)) := hp13
    refine zv_if_eq (tgt := 21) hx hb d_M_accept_16 rfl (by omega) (fun h16 => absurd h16 (by omega)) (fun h16 => ?_)
    refine zv_iconst hx hb d_M_accept_19 ?_
    rw [hQ]
    exact z_iret hx hb hr hlk hH12 (⟨rfl, rfl⟩) d_M_accept_20
def rm_M_discardX : Room := { frames := 1, cells := 0, slots := 0, locals := 22 }
set_option maxHeartbeats 4000000 in
set_option maxRecDepth 100000 in
theorem c_M_discardX (l : Launch) (E : zE) (w0 : zW) (g : Nat) (ty xm ym ne : Int) (v0 va : Int) (q0lt : g < zn E) (c0 : w0 g = .inr (6, [.ref (ad E (g + 1)), .ref (ad E (g + 2)), .ref (ad E (g + 3)), .ref (ad E (g + 4)), .int (iI ty), .ref (ad E (g + 5)), .ref (ad E (g + 6)), .ref (ad E (g + 7)), .ref (ad E (g + 8)), .ref (ad E (g + 9)), .ref (ad E (g + 10)), .int (iI xm), .int (iI ym), .ref (ad E (g + 11)), .int (iI ne), .ref (ad E (g + 12)), .ref (ad E (g + 13))])) (hz_v0 : zr v0) (hz_va : zr va) (hbad : ¬ ((0 ≤ v0 ∧ v0 < 4) ∧ (0 ≤ va ∧ va < 8))) : zM l y_M_discard ws_M_discard rm_M_discardX E [.ref (ad E g), .int (iI v0), .int (iI va)] w0 (zQi E w0 (fun z w' => w' = w0 ∧ (z = -1))) := by
  refine z_met (cc := b_M_discard) (maxL := 3) (ret := (some .int)) (by decide +kernel) rfl (Nat.le_of_ble_eq_true rfl) ?_
  intro p e s m below meth cd ls a Qf hQ hC hl hH
  obtain ⟨hF, hr, hlk, hK, hG, hn⟩ := hC
  obtain ⟨hx, hb, hml, hown, hts⟩ := hF
  have hg : ∀ w ∈ GW, w.before a s = true := fun w h => hts w (List.mem_cons_of_mem _ h)
  have hA : ∀ q, s.heap.size ≤ q → va_A (wl E w0) s.heap.size q := fun q h => Or.inr h
  have hl : lv_has ls 3 [(0, .ref (ad E g)), (1, .int (iI v0)), (2, .int (iI va))] := hl
  refine lv_aload_n hx hb d_M_discard_0 rfl (lv_at hl 0 rfl) ?_
  refine lv_iload_n hx hb d_M_discard_1 rfl (lv_at hl 1 rfl) ?_
  refine zv_iconst hx hb d_M_discard_2 ?_
  refine z_calli (va_runV (As := [.int (iI v0), .int (iI 3)]) (rest := []) ⟨hx, hb, hml, hown, hts⟩ (c_M_out (l := l) (E := E) (w0 := w0) (g := g) (ty := ty) (xm := xm) (ym := ym) (ne := ne) (v := v0) (mo := 3) (q0lt := q0lt) (c0 := c0) (hv := by omega) (hmo := by omega) s.heap.size) (z_cwV (C := "ScaledNumeralDeskModel") 2 hg wm_746 wm_743 wm_9 wm_745 wm_s29 (by decide +kernel) ⟨Nat.le_of_ble_eq_true rfl, Nat.le_of_ble_eq_true rfl⟩) (z_preV (r := ("ScaledNumeralDeskModel", TM, 17)) hK hG hn hH hA q0lt c0 rfl) rfl rfl hl.1 rfl (lv_room (Nat.le_of_ble_eq_true rfl)) d_M_discard_3 ⟨Nat.zero_le _, Nat.zero_le _⟩) hH hA (fun z6 w3 H1 lc2 hH4 hp5 => ?_)
  obtain ⟨ew7, hp5⟩ := hp5
  rw [ew7] at hH4
  replace hp5 : (z6 = 1 ∧ (v0 < 0 ∨ (3 : Int) < v0)) ∨ (z6 = 0 ∧ 0 ≤ v0 ∧ v0 ≤ (3 : Int)) := hp5
  refine zv_if_ne (tgt := 19) hx hb d_M_discard_6 rfl (by omega) (fun h8 => ?_) (fun h8 => ?_)
  · refine zv_iconst hx hb d_M_discard_19 ?_
    rw [hQ]
    exact z_iret hx hb hr hlk hH4 (⟨rfl, rfl⟩) d_M_discard_20
  · refine lv_aload_n hx hb d_M_discard_9 rfl (lv_at hl 0 rfl) ?_
    refine lv_iload_n hx hb d_M_discard_10 rfl (lv_at hl 2 rfl) ?_
    refine zv_bipush hx hb d_M_discard_11 rfl ?_
    refine z_calli (va_runV (As := [.int (iI va), .int (iI 7)]) (rest := []) ⟨hx, hb, hml, hown, hts⟩ (c_M_out (l := l) (E := E) (w0 := w0) (g := g) (ty := ty) (xm := xm) (ym := ym) (ne := ne) (v := va) (mo := 7) (q0lt := q0lt) (c0 := c0) (hv := by omega) (hmo := by omega) H1.size) (z_cwV (C := "ScaledNumeralDeskModel") 2 hg wm_746 wm_743 wm_9 wm_745 wm_s29 (by decide +kernel) ⟨Nat.le_of_ble_eq_true rfl, Nat.le_of_ble_eq_true rfl⟩) (z_preV (r := ("ScaledNumeralDeskModel", TM, 17)) hK hG hn hH4 hA q0lt c0 rfl) rfl rfl hl.1 rfl (lv_room (Nat.le_of_ble_eq_true rfl)) d_M_discard_13 ⟨Nat.zero_le _, Nat.zero_le _⟩) hH4 hA (fun z14 w11 H9 lc10 hH12 hp13 => ?_)
    obtain ⟨ew15, hp13⟩ := hp13
    rw [ew15] at hH12
    replace hp13 : (z14 = 1 ∧ (va < 0 ∨ (7 : Int) < va)) ∨ (z14 = 0 ∧ 0 ≤ va ∧ va ≤ (7 : Int)) := hp13
    refine zv_if_eq (tgt := 21) hx hb d_M_discard_16 rfl (by omega) (fun h16 => absurd h16 (by omega)) (fun h16 => ?_)
    refine zv_iconst hx hb d_M_discard_19 ?_
    rw [hQ]
    exact z_iret hx hb hr hlk hH12 (⟨rfl, rfl⟩) d_M_discard_20
def rm_M_mergeX : Room := { frames := 1, cells := 0, slots := 0, locals := 22 }
set_option maxHeartbeats 4000000 in
set_option maxRecDepth 100000 in
theorem c_M_mergeX (l : Launch) (E : zE) (w0 : zW) (g : Nat) (ty xm ym ne : Int) (v0 va : Int) (q0lt : g < zn E) (c0 : w0 g = .inr (6, [.ref (ad E (g + 1)), .ref (ad E (g + 2)), .ref (ad E (g + 3)), .ref (ad E (g + 4)), .int (iI ty), .ref (ad E (g + 5)), .ref (ad E (g + 6)), .ref (ad E (g + 7)), .ref (ad E (g + 8)), .ref (ad E (g + 9)), .ref (ad E (g + 10)), .int (iI xm), .int (iI ym), .ref (ad E (g + 11)), .int (iI ne), .ref (ad E (g + 12)), .ref (ad E (g + 13))])) (hz_v0 : zr v0) (hz_va : zr va) (hbad : ¬ ((0 ≤ v0 ∧ v0 < 4) ∧ (0 ≤ va ∧ va < 4))) : zM l y_M_merge ws_M_merge rm_M_mergeX E [.ref (ad E g), .int (iI v0), .int (iI va)] w0 (zQi E w0 (fun z w' => w' = w0 ∧ (z = -1))) := by
  refine z_met (cc := b_M_merge) (maxL := 4) (ret := (some .int)) (by decide +kernel) rfl (Nat.le_of_ble_eq_true rfl) ?_
  intro p e s m below meth cd ls a Qf hQ hC hl hH
  obtain ⟨hF, hr, hlk, hK, hG, hn⟩ := hC
  obtain ⟨hx, hb, hml, hown, hts⟩ := hF
  have hg : ∀ w ∈ GW, w.before a s = true := fun w h => hts w (List.mem_cons_of_mem _ h)
  have hA : ∀ q, s.heap.size ≤ q → va_A (wl E w0) s.heap.size q := fun q h => Or.inr h
  have hl : lv_has ls 4 [(0, .ref (ad E g)), (1, .int (iI v0)), (2, .int (iI va))] := hl
  refine lv_aload_n hx hb d_M_merge_0 rfl (lv_at hl 0 rfl) ?_
  refine lv_iload_n hx hb d_M_merge_1 rfl (lv_at hl 1 rfl) ?_
  refine zv_iconst hx hb d_M_merge_2 ?_
  refine z_calli (va_runV (As := [.int (iI v0), .int (iI 3)]) (rest := []) ⟨hx, hb, hml, hown, hts⟩ (c_M_out (l := l) (E := E) (w0 := w0) (g := g) (ty := ty) (xm := xm) (ym := ym) (ne := ne) (v := v0) (mo := 3) (q0lt := q0lt) (c0 := c0) (hv := by omega) (hmo := by omega) s.heap.size) (z_cwV (C := "ScaledNumeralDeskModel") 2 hg wm_746 wm_743 wm_9 wm_745 wm_s29 (by decide +kernel) ⟨Nat.le_of_ble_eq_true rfl, Nat.le_of_ble_eq_true rfl⟩) (z_preV (r := ("ScaledNumeralDeskModel", TM, 17)) hK hG hn hH hA q0lt c0 rfl) rfl rfl hl.1 rfl (lv_room (Nat.le_of_ble_eq_true rfl)) d_M_merge_3 ⟨Nat.zero_le _, Nat.zero_le _⟩) hH hA (fun z6 w3 H1 lc2 hH4 hp5 => ?_)
  obtain ⟨ew7, hp5⟩ := hp5
  rw [ew7] at hH4
  replace hp5 : (z6 = 1 ∧ (v0 < 0 ∨ (3 : Int) < v0)) ∨ (z6 = 0 ∧ 0 ≤ v0 ∧ v0 ≤ (3 : Int)) := hp5
  refine zv_if_ne (tgt := 18) hx hb d_M_merge_6 rfl (by omega) (fun h8 => ?_) (fun h8 => ?_)
  · refine zv_iconst hx hb d_M_merge_18 ?_
    rw [hQ]
    exact z_iret hx hb hr hlk hH4 (⟨rfl, rfl⟩) d_M_merge_19
  · refine lv_aload_n hx hb d_M_merge_9 rfl (lv_at hl 0 rfl) ?_
    refine lv_iload_n hx hb d_M_merge_10 rfl (lv_at hl 2 rfl) ?_
    refine zv_iconst hx hb d_M_merge_11 ?_
    refine z_calli (va_runV (As := [.int (iI va), .int (iI 3)]) (rest := []) ⟨hx, hb, hml, hown, hts⟩ (c_M_out (l := l) (E := E) (w0 := w0) (g := g) (ty := ty) (xm := xm) (ym := ym) (ne := ne) (v := va) (mo := 3) (q0lt := q0lt) (c0 := c0) (hv := by omega) (hmo := by omega) H1.size) (z_cwV (C := "ScaledNumeralDeskModel") 2 hg wm_746 wm_743 wm_9 wm_745 wm_s29 (by decide +kernel) ⟨Nat.le_of_ble_eq_true rfl, Nat.le_of_ble_eq_true rfl⟩) (z_preV (r := ("ScaledNumeralDeskModel", TM, 17)) hK hG hn hH4 hA q0lt c0 rfl) rfl rfl hl.1 rfl (lv_room (Nat.le_of_ble_eq_true rfl)) d_M_merge_12 ⟨Nat.zero_le _, Nat.zero_le _⟩) hH4 hA (fun z14 w11 H9 lc10 hH12 hp13 => ?_)
    obtain ⟨ew15, hp13⟩ := hp13
    rw [ew15] at hH12
    replace hp13 : (z14 = 1 ∧ (va < 0 ∨ (3 : Int) < va)) ∨ (z14 = 0 ∧ 0 ≤ va ∧ va ≤ (3 : Int)) := hp13
    refine zv_if_eq (tgt := 20) hx hb d_M_merge_15 rfl (by omega) (fun h16 => absurd h16 (by omega)) (fun h16 => ?_)
    refine zv_iconst hx hb d_M_merge_18 ?_
    rw [hQ]
    exact z_iret hx hb hr hlk hH12 (⟨rfl, rfl⟩) d_M_merge_19
def rm_M_resetX : Room := { frames := 1, cells := 0, slots := 0, locals := 22 }
set_option maxHeartbeats 4000000 in
set_option maxRecDepth 100000 in
theorem c_M_resetX (l : Launch) (E : zE) (w0 : zW) (g : Nat) (ty xm ym ne : Int) (v0 : Int) (q0lt : g < zn E) (c0 : w0 g = .inr (6, [.ref (ad E (g + 1)), .ref (ad E (g + 2)), .ref (ad E (g + 3)), .ref (ad E (g + 4)), .int (iI ty), .ref (ad E (g + 5)), .ref (ad E (g + 6)), .ref (ad E (g + 7)), .ref (ad E (g + 8)), .ref (ad E (g + 9)), .ref (ad E (g + 10)), .int (iI xm), .int (iI ym), .ref (ad E (g + 11)), .int (iI ne), .ref (ad E (g + 12)), .ref (ad E (g + 13))])) (hz_v0 : zr v0) (hbad : ¬ (0 ≤ v0 ∧ v0 < 4)) : zM l y_M_reset ws_M_reset rm_M_resetX E [.ref (ad E g), .int (iI v0)] w0 (zQi E w0 (fun z w' => w' = w0 ∧ (z = 0))) := by
  refine z_met (cc := b_M_reset) (maxL := 3) (ret := (some .boolean)) (by decide +kernel) rfl (Nat.le_of_ble_eq_true rfl) ?_
  intro p e s m below meth cd ls a Qf hQ hC hl hH
  obtain ⟨hF, hr, hlk, hK, hG, hn⟩ := hC
  obtain ⟨hx, hb, hml, hown, hts⟩ := hF
  have hg : ∀ w ∈ GW, w.before a s = true := fun w h => hts w (List.mem_cons_of_mem _ h)
  have hA : ∀ q, s.heap.size ≤ q → va_A (wl E w0) s.heap.size q := fun q h => Or.inr h
  have hl : lv_has ls 3 [(0, .ref (ad E g)), (1, .int (iI v0))] := hl
  refine lv_aload_n hx hb d_M_reset_0 rfl (lv_at hl 0 rfl) ?_
  refine lv_iload_n hx hb d_M_reset_1 rfl (lv_at hl 1 rfl) ?_
  refine zv_iconst hx hb d_M_reset_2 ?_
  refine z_calli (va_runV (As := [.int (iI v0), .int (iI 3)]) (rest := []) ⟨hx, hb, hml, hown, hts⟩ (c_M_out (l := l) (E := E) (w0 := w0) (g := g) (ty := ty) (xm := xm) (ym := ym) (ne := ne) (v := v0) (mo := 3) (q0lt := q0lt) (c0 := c0) (hv := by omega) (hmo := by omega) s.heap.size) (z_cwV (C := "ScaledNumeralDeskModel") 2 hg wm_746 wm_743 wm_9 wm_745 wm_s29 (by decide +kernel) ⟨Nat.le_of_ble_eq_true rfl, Nat.le_of_ble_eq_true rfl⟩) (z_preV (r := ("ScaledNumeralDeskModel", TM, 17)) hK hG hn hH hA q0lt c0 rfl) rfl rfl hl.1 rfl (lv_room (Nat.le_of_ble_eq_true rfl)) d_M_reset_3 ⟨Nat.zero_le _, Nat.zero_le _⟩) hH hA (fun z6 w3 H1 lc2 hH4 hp5 => ?_)
  obtain ⟨ew7, hp5⟩ := hp5
  rw [ew7] at hH4
  replace hp5 : (z6 = 1 ∧ (v0 < 0 ∨ (3 : Int) < v0)) ∨ (z6 = 0 ∧ 0 ≤ v0 ∧ v0 ≤ (3 : Int)) := hp5
  refine zv_if_eq (tgt := 11) hx hb d_M_reset_6 rfl (by omega) (fun h8 => absurd h8 (by omega)) (fun h8 => ?_)
  refine zv_iconst hx hb d_M_reset_9 ?_
  rw [hQ]
  exact z_zret hx hb hr hlk hH4 (⟨rfl, rfl⟩) (by exact nar_z (by omega)) d_M_reset_10
def rm_M_countX : Room := { frames := 1, cells := 0, slots := 0, locals := 22 }
set_option maxHeartbeats 4000000 in
set_option maxRecDepth 100000 in
theorem c_M_countX (l : Launch) (E : zE) (w0 : zW) (g : Nat) (ty xm ym ne : Int) (v0 : Int) (q0lt : g < zn E) (c0 : w0 g = .inr (6, [.ref (ad E (g + 1)), .ref (ad E (g + 2)), .ref (ad E (g + 3)), .ref (ad E (g + 4)), .int (iI ty), .ref (ad E (g + 5)), .ref (ad E (g + 6)), .ref (ad E (g + 7)), .ref (ad E (g + 8)), .ref (ad E (g + 9)), .ref (ad E (g + 10)), .int (iI xm), .int (iI ym), .ref (ad E (g + 11)), .int (iI ne), .ref (ad E (g + 12)), .ref (ad E (g + 13))])) (hz_v0 : zr v0) (hbad : ¬ (0 ≤ v0 ∧ v0 < 4)) : zM l y_M_count ws_M_count rm_M_countX E [.ref (ad E g), .int (iI v0)] w0 (zQi E w0 (fun z w' => w' = w0 ∧ (z = -1))) := by
  refine z_met (cc := b_M_count) (maxL := 4) (ret := (some .int)) (by decide +kernel) rfl (Nat.le_of_ble_eq_true rfl) ?_
  intro p e s m below meth cd ls a Qf hQ hC hl hH
  obtain ⟨hF, hr, hlk, hK, hG, hn⟩ := hC
  obtain ⟨hx, hb, hml, hown, hts⟩ := hF
  have hg : ∀ w ∈ GW, w.before a s = true := fun w h => hts w (List.mem_cons_of_mem _ h)
  have hA : ∀ q, s.heap.size ≤ q → va_A (wl E w0) s.heap.size q := fun q h => Or.inr h
  have hl : lv_has ls 4 [(0, .ref (ad E g)), (1, .int (iI v0))] := hl
  refine lv_aload_n hx hb d_M_count_0 rfl (lv_at hl 0 rfl) ?_
  refine lv_iload_n hx hb d_M_count_1 rfl (lv_at hl 1 rfl) ?_
  refine zv_iconst hx hb d_M_count_2 ?_
  refine z_calli (va_runV (As := [.int (iI v0), .int (iI 3)]) (rest := []) ⟨hx, hb, hml, hown, hts⟩ (c_M_out (l := l) (E := E) (w0 := w0) (g := g) (ty := ty) (xm := xm) (ym := ym) (ne := ne) (v := v0) (mo := 3) (q0lt := q0lt) (c0 := c0) (hv := by omega) (hmo := by omega) s.heap.size) (z_cwV (C := "ScaledNumeralDeskModel") 2 hg wm_746 wm_743 wm_9 wm_745 wm_s29 (by decide +kernel) ⟨Nat.le_of_ble_eq_true rfl, Nat.le_of_ble_eq_true rfl⟩) (z_preV (r := ("ScaledNumeralDeskModel", TM, 17)) hK hG hn hH hA q0lt c0 rfl) rfl rfl hl.1 rfl (lv_room (Nat.le_of_ble_eq_true rfl)) d_M_count_3 ⟨Nat.zero_le _, Nat.zero_le _⟩) hH hA (fun z6 w3 H1 lc2 hH4 hp5 => ?_)
  obtain ⟨ew7, hp5⟩ := hp5
  rw [ew7] at hH4
  replace hp5 : (z6 = 1 ∧ (v0 < 0 ∨ (3 : Int) < v0)) ∨ (z6 = 0 ∧ 0 ≤ v0 ∧ v0 ≤ (3 : Int)) := hp5
  refine zv_if_eq (tgt := 11) hx hb d_M_count_6 rfl (by omega) (fun h8 => absurd h8 (by omega)) (fun h8 => ?_)
  refine zv_iconst hx hb d_M_count_9 ?_
  rw [hQ]
  exact z_iret hx hb hr hlk hH4 (⟨rfl, rfl⟩) d_M_count_10
def rm_M_totalX : Room := { frames := 1, cells := 0, slots := 0, locals := 22 }
set_option maxHeartbeats 4000000 in
set_option maxRecDepth 100000 in
theorem c_M_totalX (l : Launch) (E : zE) (w0 : zW) (g : Nat) (ty xm ym ne : Int) (v0 va : Int) (q0lt : g < zn E) (c0 : w0 g = .inr (6, [.ref (ad E (g + 1)), .ref (ad E (g + 2)), .ref (ad E (g + 3)), .ref (ad E (g + 4)), .int (iI ty), .ref (ad E (g + 5)), .ref (ad E (g + 6)), .ref (ad E (g + 7)), .ref (ad E (g + 8)), .ref (ad E (g + 9)), .ref (ad E (g + 10)), .int (iI xm), .int (iI ym), .ref (ad E (g + 11)), .int (iI ne), .ref (ad E (g + 12)), .ref (ad E (g + 13))])) (hz_v0 : zr v0) (hz_va : zr va) (hbad : ¬ ((0 ≤ v0 ∧ v0 < 8) ∧ (0 ≤ va ∧ va < 4))) : zM l y_M_total ws_M_total rm_M_totalX E [.ref (ad E g), .int (iI v0), .int (iI va)] w0 (zQi E w0 (fun z w' => w' = w0 ∧ (z = -1))) := by
  refine z_met (cc := b_M_total) (maxL := 3) (ret := (some .int)) (by decide +kernel) rfl (Nat.le_of_ble_eq_true rfl) ?_
  intro p e s m below meth cd ls a Qf hQ hC hl hH
  obtain ⟨hF, hr, hlk, hK, hG, hn⟩ := hC
  obtain ⟨hx, hb, hml, hown, hts⟩ := hF
  have hg : ∀ w ∈ GW, w.before a s = true := fun w h => hts w (List.mem_cons_of_mem _ h)
  have hA : ∀ q, s.heap.size ≤ q → va_A (wl E w0) s.heap.size q := fun q h => Or.inr h
  have hl : lv_has ls 3 [(0, .ref (ad E g)), (1, .int (iI v0)), (2, .int (iI va))] := hl
  refine lv_aload_n hx hb d_M_total_0 rfl (lv_at hl 0 rfl) ?_
  refine lv_iload_n hx hb d_M_total_1 rfl (lv_at hl 1 rfl) ?_
  refine zv_bipush hx hb d_M_total_2 rfl ?_
  refine z_calli (va_runV (As := [.int (iI v0), .int (iI 7)]) (rest := []) ⟨hx, hb, hml, hown, hts⟩ (c_M_out (l := l) (E := E) (w0 := w0) (g := g) (ty := ty) (xm := xm) (ym := ym) (ne := ne) (v := v0) (mo := 7) (q0lt := q0lt) (c0 := c0) (hv := by omega) (hmo := by omega) s.heap.size) (z_cwV (C := "ScaledNumeralDeskModel") 2 hg wm_746 wm_743 wm_9 wm_745 wm_s29 (by decide +kernel) ⟨Nat.le_of_ble_eq_true rfl, Nat.le_of_ble_eq_true rfl⟩) (z_preV (r := ("ScaledNumeralDeskModel", TM, 17)) hK hG hn hH hA q0lt c0 rfl) rfl rfl hl.1 rfl (lv_room (Nat.le_of_ble_eq_true rfl)) d_M_total_4 ⟨Nat.zero_le _, Nat.zero_le _⟩) hH hA (fun z6 w3 H1 lc2 hH4 hp5 => ?_)
  obtain ⟨ew7, hp5⟩ := hp5
  rw [ew7] at hH4
  replace hp5 : (z6 = 1 ∧ (v0 < 0 ∨ (7 : Int) < v0)) ∨ (z6 = 0 ∧ 0 ≤ v0 ∧ v0 ≤ (7 : Int)) := hp5
  refine zv_if_ne (tgt := 19) hx hb d_M_total_7 rfl (by omega) (fun h8 => ?_) (fun h8 => ?_)
  · refine zv_iconst hx hb d_M_total_19 ?_
    rw [hQ]
    exact z_iret hx hb hr hlk hH4 (⟨rfl, rfl⟩) d_M_total_20
  · refine lv_aload_n hx hb d_M_total_10 rfl (lv_at hl 0 rfl) ?_
    refine lv_iload_n hx hb d_M_total_11 rfl (lv_at hl 2 rfl) ?_
    refine zv_iconst hx hb d_M_total_12 ?_
    refine z_calli (va_runV (As := [.int (iI va), .int (iI 3)]) (rest := []) ⟨hx, hb, hml, hown, hts⟩ (c_M_out (l := l) (E := E) (w0 := w0) (g := g) (ty := ty) (xm := xm) (ym := ym) (ne := ne) (v := va) (mo := 3) (q0lt := q0lt) (c0 := c0) (hv := by omega) (hmo := by omega) H1.size) (z_cwV (C := "ScaledNumeralDeskModel") 2 hg wm_746 wm_743 wm_9 wm_745 wm_s29 (by decide +kernel) ⟨Nat.le_of_ble_eq_true rfl, Nat.le_of_ble_eq_true rfl⟩) (z_preV (r := ("ScaledNumeralDeskModel", TM, 17)) hK hG hn hH4 hA q0lt c0 rfl) rfl rfl hl.1 rfl (lv_room (Nat.le_of_ble_eq_true rfl)) d_M_total_13 ⟨Nat.zero_le _, Nat.zero_le _⟩) hH4 hA (fun z14 w11 H9 lc10 hH12 hp13 => ?_)
    obtain ⟨ew15, hp13⟩ := hp13
    rw [ew15] at hH12
    replace hp13 : (z14 = 1 ∧ (va < 0 ∨ (3 : Int) < va)) ∨ (z14 = 0 ∧ 0 ≤ va ∧ va ≤ (3 : Int)) := hp13
    refine zv_if_eq (tgt := 21) hx hb d_M_total_16 rfl (by omega) (fun h16 => absurd h16 (by omega)) (fun h16 => ?_)
    refine zv_iconst hx hb d_M_total_19 ?_
    rw [hQ]
    exact z_iret hx hb hr hlk hH12 (⟨rfl, rfl⟩) d_M_total_20
def rm_M_averageX : Room := { frames := 2, cells := 0, slots := 0, locals := 44 }
set_option maxHeartbeats 4000000 in
set_option maxRecDepth 100000 in
theorem c_M_averageX (l : Launch) (E : zE) (w0 : zW) (g : Nat) (ty xm ym ne : Int) (v0 va : Int) (q0lt : g < zn E) (c0 : w0 g = .inr (6, [.ref (ad E (g + 1)), .ref (ad E (g + 2)), .ref (ad E (g + 3)), .ref (ad E (g + 4)), .int (iI ty), .ref (ad E (g + 5)), .ref (ad E (g + 6)), .ref (ad E (g + 7)), .ref (ad E (g + 8)), .ref (ad E (g + 9)), .ref (ad E (g + 10)), .int (iI xm), .int (iI ym), .ref (ad E (g + 11)), .int (iI ne), .ref (ad E (g + 12)), .ref (ad E (g + 13))])) (hz_v0 : zr v0) (hz_va : zr va) (hbad : ¬ ((0 ≤ v0 ∧ v0 < 8) ∧ (0 ≤ va ∧ va < 4))) : zM l y_M_average ws_M_average rm_M_averageX E [.ref (ad E g), .int (iI v0), .int (iI va)] w0 (zQi E w0 (fun z w' => w' = w0 ∧ (z = -1))) := by
  refine z_met (cc := b_M_average) (maxL := 6) (ret := (some .int)) (by decide +kernel) rfl (Nat.le_of_ble_eq_true rfl) ?_
  intro p e s m below meth cd ls a Qf hQ hC hl hH
  obtain ⟨hF, hr, hlk, hK, hG, hn⟩ := hC
  obtain ⟨hx, hb, hml, hown, hts⟩ := hF
  have hg : ∀ w ∈ GW, w.before a s = true := fun w h => hts w (List.mem_cons_of_mem _ h)
  have hA : ∀ q, s.heap.size ≤ q → va_A (wl E w0) s.heap.size q := fun q h => Or.inr h
  have hl : lv_has ls 6 [(0, .ref (ad E g)), (1, .int (iI v0)), (2, .int (iI va))] := hl
  refine lv_aload_n hx hb d_M_average_0 rfl (lv_at hl 0 rfl) ?_
  refine lv_iload_n hx hb d_M_average_1 rfl (lv_at hl 1 rfl) ?_
  refine lv_iload_n hx hb d_M_average_2 rfl (lv_at hl 2 rfl) ?_
  refine z_calli (va_runV (As := [.int (iI v0), .int (iI va)]) (rest := []) ⟨hx, hb, hml, hown, hts⟩ (c_M_totalX (l := l) (E := E) (w0 := w0) (g := g) (ty := ty) (xm := xm) (ym := ym) (ne := ne) (v0 := v0) (va := va) (q0lt := q0lt) (c0 := c0) (hz_v0 := by omega) (hz_va := by omega) (hbad := by omega) s.heap.size) (z_cwV (C := "ScaledNumeralDeskModel") 2 hg wm_979 wm_989 wm_9 wm_977 wm_978 (by decide +kernel) ⟨Nat.le_of_ble_eq_true rfl, Nat.le_of_ble_eq_true rfl⟩) (z_preV (r := ("ScaledNumeralDeskModel", TM, 17)) hK hG hn hH hA q0lt c0 rfl) rfl rfl hl.1 rfl (lv_room (Nat.le_of_ble_eq_true rfl)) d_M_average_3 ⟨Nat.zero_le _, Nat.zero_le _⟩) hH hA (fun z5 w3 H1 lc2 hH4 p3 => ?_)
  obtain ⟨ew6, p3⟩ := p3
  rw [ew6] at hH4
  replace p3 : z5 = -1 := p3
  refine lv_istore_n (lv' := [(3, .int (iI z5)), (0, .ref (ad E g)), (1, .int (iI v0)), (2, .int (iI va))]) hx hb d_M_average_6 rfl hl (by decide) rfl (fun ls hl => ?_)
  refine lv_iload_n hx hb d_M_average_7 rfl (lv_at hl 0 rfl) ?_
  refine zv_if_ne (tgt := 20) hx hb d_M_average_8 rfl (by omega) (fun h7 => ?_) (fun h7 => absurd h7 (by omega))
  refine lv_iload_n hx hb d_M_average_20 rfl (lv_at hl 0 rfl) ?_
  rw [hQ]
  exact z_iret hx hb hr hlk hH4 (⟨rfl, p3⟩) d_M_average_21
