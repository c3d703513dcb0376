def rm_D_enterX : Room := { frames := 1, cells := 0, slots := 0, locals := 20 }
set_option maxHeartbeats 4000000 in
set_option maxRecDepth 100000 in
theorem c_D_enterX (l : Launch) (E : zE) (w0 : zW) (v0 : Int)   (hz_v0 : zr v0) (hbad : ¬ (0 ≤ v0 ∧ v0 < 8)) : zM l y_D_enter ws_D_enter rm_D_enterX E [.ref (ad E 0), .int (iI v0)] w0 (zQi E w0 (fun z w' => w' = w0 ∧ (z = -1))) := by
  refine z_met (cc := b_D_enter) (maxL := 3) (ret := (some .int)) (by decide +kernel) rfl (Nat.le_of_ble_eq_true rfl) ?_
  intro p e s m below meth cd ls a Qf hQ hC hl hH
  obtain ⟨hF, hr, hlk, hK, hG, hn⟩ := hC
  obtain ⟨hx, hb, hml, hown, hts⟩ := hF
  have hg : ∀ w ∈ GW, w.before a s = true := fun w h => hts w (List.mem_cons_of_mem _ h)
  have hA : ∀ q, s.heap.size ≤ q → va_A (wl E w0) s.heap.size q := fun q h => Or.inr h
  have hl : lv_has ls 3 [(0, .ref (ad E 0)), (1, .int (iI v0))] := hl
  refine lv_iload_n hx hb d_D_enter_0 rfl (lv_at hl 1 rfl) ?_
  refine z_calli (va_runS (As := [.int (iI v0)]) (rest := []) ⟨hx, hb, hml, hown, hts⟩ (c_D_isRegister (l := l) (E := E) (w0 := w0) (r := v0) (hr0 := by omega) s.heap.size) (z_cwS 1 hg wm_164 wm_162 wm_1 wm_163 (by decide +kernel) ⟨Nat.le_of_ble_eq_true rfl, Nat.le_of_ble_eq_true rfl⟩) (z_preS hK hG hn hH hA) rfl rfl hl.1 rfl (lv_room (Nat.le_of_ble_eq_true rfl)) d_D_enter_1 ⟨Nat.zero_le _, Nat.zero_le _⟩) hH hA (fun z6 w3 H1 lc2 hH4 hp5 => ?_)
  obtain ⟨ew7, hp5⟩ := hp5
  rw [ew7] at hH4
  replace hp5 : (z6 = 1 ∧ 0 ≤ v0 ∧ v0 < 8) ∨ (z6 = 0 ∧ ¬ (0 ≤ v0 ∧ v0 < 8)) := hp5
  refine zv_if_ne (tgt := 9) hx hb d_D_enter_4 rfl (by omega) (fun h8 => absurd h8 (by omega)) (fun h8 => ?_)
  refine zv_iconst hx hb d_D_enter_7 ?_
  rw [hQ]
  exact z_iret hx hb hr hlk hH4 (⟨rfl, rfl⟩) d_D_enter_8
def rm_D_lengthX : Room := { frames := 1, cells := 0, slots := 0, locals := 20 }
set_option maxHeartbeats 4000000 in
set_option maxRecDepth 100000 in
theorem c_D_lengthX (l : Launch) (E : zE) (w0 : zW) (v0 : Int)   (hz_v0 : zr v0) (hbad : ¬ (0 ≤ v0 ∧ v0 < 8)) : zM l y_D_length ws_D_length rm_D_lengthX E [.ref (ad E 0), .int (iI v0)] w0 (zQi E w0 (fun z w' => w' = w0 ∧ (z = -1))) := by
  refine z_met (cc := b_D_length) (maxL := 2) (ret := (some .int)) (by decide +kernel) rfl (Nat.le_of_ble_eq_true rfl) ?_
  intro p e s m below meth cd ls a Qf hQ hC hl hH
  obtain ⟨hF, hr, hlk, hK, hG, hn⟩ := hC
  obtain ⟨hx, hb, hml, hown, hts⟩ := hF
  have hg : ∀ w ∈ GW, w.before a s = true := fun w h => hts w (List.mem_cons_of_mem _ h)
  have hA : ∀ q, s.heap.size ≤ q → va_A (wl E w0) s.heap.size q := fun q h => Or.inr h
  have hl : lv_has ls 2 [(0, .ref (ad E 0)), (1, .int (iI v0))] := hl
  refine lv_iload_n hx hb d_D_length_0 rfl (lv_at hl 1 rfl) ?_
  refine z_calli (va_runS (As := [.int (iI v0)]) (rest := []) ⟨hx, hb, hml, hown, hts⟩ (c_D_isRegister (l := l) (E := E) (w0 := w0) (r := v0) (hr0 := by omega) s.heap.size) (z_cwS 1 hg wm_164 wm_162 wm_1 wm_163 (by decide +kernel) ⟨Nat.le_of_ble_eq_true rfl, Nat.le_of_ble_eq_true rfl⟩) (z_preS hK hG hn hH hA) rfl rfl hl.1 rfl (lv_room (Nat.le_of_ble_eq_true rfl)) d_D_length_1 ⟨Nat.zero_le _, Nat.zero_le _⟩) hH hA (fun z6 w3 H1 lc2 hH4 hp5 => ?_)
  obtain ⟨ew7, hp5⟩ := hp5
  rw [ew7] at hH4
  replace hp5 : (z6 = 1 ∧ 0 ≤ v0 ∧ v0 < 8) ∨ (z6 = 0 ∧ ¬ (0 ≤ v0 ∧ v0 < 8)) := hp5
  refine zv_if_eq (tgt := 19) hx hb d_D_length_4 rfl (by omega) (fun h8 => ?_) (fun h8 => absurd h8 (by omega))
  refine zv_iconst hx hb d_D_length_19 ?_
  rw [hQ]
  exact z_iret hx hb hr hlk hH4 (⟨rfl, rfl⟩) d_D_length_20
def rm_D_characterX : Room := { frames := 1, cells := 0, slots := 0, locals := 20 }
set_option maxHeartbeats 4000000 in
set_option maxRecDepth 100000 in
theorem c_D_characterX (l : Launch) (E : zE) (w0 : zW) (v0 v9 : Int)   (hz_v0 : zr v0) (hz_v9 : zr v9) (hbad : ¬ (0 ≤ v0 ∧ v0 < 8)) : zM l y_D_character ws_D_character rm_D_characterX E [.ref (ad E 0), .int (iI v0), .int (iI v9)] w0 (zQi E w0 (fun z w' => w' = w0 ∧ (z = -1))) := by
  refine z_met (cc := b_D_character) (maxL := 3) (ret := (some .int)) (by decide +kernel) rfl (Nat.le_of_ble_eq_true rfl) ?_
  intro p e s m below meth cd ls a Qf hQ hC hl hH
  obtain ⟨hF, hr, hlk, hK, hG, hn⟩ := hC
  obtain ⟨hx, hb, hml, hown, hts⟩ := hF
  have hg : ∀ w ∈ GW, w.before a s = true := fun w h => hts w (List.mem_cons_of_mem _ h)
  have hA : ∀ q, s.heap.size ≤ q → va_A (wl E w0) s.heap.size q := fun q h => Or.inr h
  have hl : lv_has ls 3 [(0, .ref (ad E 0)), (1, .int (iI v0)), (2, .int (iI v9))] := hl
  refine lv_iload_n hx hb d_D_character_0 rfl (lv_at hl 1 rfl) ?_
  refine z_calli (va_runS (As := [.int (iI v0)]) (rest := []) ⟨hx, hb, hml, hown, hts⟩ (c_D_isRegister (l := l) (E := E) (w0 := w0) (r := v0) (hr0 := by omega) s.heap.size) (z_cwS 1 hg wm_164 wm_162 wm_1 wm_163 (by decide +kernel) ⟨Nat.le_of_ble_eq_true rfl, Nat.le_of_ble_eq_true rfl⟩) (z_preS hK hG hn hH hA) rfl rfl hl.1 rfl (lv_room (Nat.le_of_ble_eq_true rfl)) d_D_character_1 ⟨Nat.zero_le _, Nat.zero_le _⟩) hH hA (fun z6 w3 H1 lc2 hH4 hp5 => ?_)
  obtain ⟨ew7, hp5⟩ := hp5
  rw [ew7] at hH4
  replace hp5 : (z6 = 1 ∧ 0 ≤ v0 ∧ v0 < 8) ∨ (z6 = 0 ∧ ¬ (0 ≤ v0 ∧ v0 < 8)) := hp5
  refine zv_if_eq (tgt := 24) hx hb d_D_character_4 rfl (by omega) (fun h8 => ?_) (fun h8 => absurd h8 (by omega))
  refine zv_iconst hx hb d_D_character_24 ?_
  rw [hQ]
  exact z_iret hx hb hr hlk hH4 (⟨rfl, rfl⟩) d_D_character_25
def rm_D_scaleX : Room := { frames := 1, cells := 0, slots := 0, locals := 20 }
set_option maxHeartbeats 4000000 in
set_option maxRecDepth 100000 in
theorem c_D_scaleX (l : Launch) (E : zE) (w0 : zW) (v0 : Int)   (hz_v0 : zr v0) (hbad : ¬ (0 ≤ v0 ∧ v0 < 8)) : zM l y_D_scale ws_D_scale rm_D_scaleX E [.ref (ad E 0), .int (iI v0)] w0 (zQi E w0 (fun z w' => w' = w0 ∧ (z = -1))) := by
  refine z_met (cc := b_D_scale) (maxL := 2) (ret := (some .int)) (by decide +kernel) rfl (Nat.le_of_ble_eq_true rfl) ?_
  intro p e s m below meth cd ls a Qf hQ hC hl hH
  obtain ⟨hF, hr, hlk, hK, hG, hn⟩ := hC
  obtain ⟨hx, hb, hml, hown, hts⟩ := hF
  have hg : ∀ w ∈ GW, w.before a s = true := fun w h => hts w (List.mem_cons_of_mem _ h)
  have hA : ∀ q, s.heap.size ≤ q → va_A (wl E w0) s.heap.size q := fun q h => Or.inr h
  have hl : lv_has ls 2 [(0, .ref (ad E 0)), (1, .int (iI v0))] := hl
  refine lv_iload_n hx hb d_D_scale_0 rfl (lv_at hl 1 rfl) ?_
  refine z_calli (va_runS (As := [.int (iI v0)]) (rest := []) ⟨hx, hb, hml, hown, hts⟩ (c_D_isRegister (l := l) (E := E) (w0 := w0) (r := v0) (hr0 := by omega) s.heap.size) (z_cwS 1 hg wm_164 wm_162 wm_1 wm_163 (by decide +kernel) ⟨Nat.le_of_ble_eq_true rfl, Nat.le_of_ble_eq_true rfl⟩) (z_preS hK hG hn hH hA) rfl rfl hl.1 rfl (lv_room (Nat.le_of_ble_eq_true rfl)) d_D_scale_1 ⟨Nat.zero_le _, Nat.zero_le _⟩) hH hA (fun z6 w3 H1 lc2 hH4 hp5 => ?_)
  obtain ⟨ew7, hp5⟩ := hp5
  rw [ew7] at hH4
  replace hp5 : (z6 = 1 ∧ 0 ≤ v0 ∧ v0 < 8) ∨ (z6 = 0 ∧ ¬ (0 ≤ v0 ∧ v0 < 8)) := hp5
  refine zv_if_eq (tgt := 19) hx hb d_D_scale_4 rfl (by omega) (fun h8 => ?_) (fun h8 => absurd h8 (by omega))
  refine zv_iconst hx hb d_D_scale_19 ?_
  rw [hQ]
  exact z_iret hx hb hr hlk hH4 (⟨rfl, rfl⟩) d_D_scale_20
def rm_D_applyX : Room := { frames := 1, cells := 0, slots := 0, locals := 20 }
set_option maxHeartbeats 4000000 in
set_option maxRecDepth 100000 in
theorem c_D_applyX (l : Launch) (E : zE) (w0 : zW) (op v0 va vb : Int)   (hz_op : zr op) (hz_v0 : zr v0) (hz_va : zr va) (hz_vb : zr vb) (hbad : ¬ (0 ≤ op ∧ op ≤ 5 ∧ (0 ≤ v0 ∧ v0 < 8) ∧ (0 ≤ va ∧ va < 8) ∧ (0 ≤ vb ∧ vb < 8))) : zM l y_D_apply ws_D_apply rm_D_applyX E [.ref (ad E 0), .int (iI op), .int (iI v0), .int (iI va), .int (iI vb)] w0 (zQi E w0 (fun z w' => w' = w0 ∧ (z = -1))) := by
  refine z_met (cc := b_D_apply) (maxL := 5) (ret := (some .int)) (by decide +kernel) rfl (Nat.le_of_ble_eq_true rfl) ?_
  intro p e s m below meth cd ls a Qf hQ hC hl hH
  obtain ⟨hF, hr, hlk, hK, hG, hn⟩ := hC
  obtain ⟨hx, hb, hml, hown, hts⟩ := hF
  have hg : ∀ w ∈ GW, w.before a s = true := fun w h => hts w (List.mem_cons_of_mem _ h)
  have hA : ∀ q, s.heap.size ≤ q → va_A (wl E w0) s.heap.size q := fun q h => Or.inr h
  have hl : lv_has ls 5 [(0, .ref (ad E 0)), (1, .int (iI op)), (2, .int (iI v0)), (3, .int (iI va)), (4, .int (iI vb))] := hl
  refine lv_iload_n hx hb d_D_apply_0 rfl (lv_at hl 1 rfl) ?_
  refine zv_if_lt (tgt := 31) hx hb d_D_apply_1 rfl (by omega) (fun h1 => ?_) (fun h1 => ?_)
  · refine zv_iconst hx hb d_D_apply_31 ?_
    rw [hQ]
    exact z_iret hx hb hr hlk hH (⟨rfl, rfl⟩) d_D_apply_32
  · refine lv_iload_n hx hb d_D_apply_4 rfl (lv_at hl 1 rfl) ?_
    refine zv_iconst hx hb d_D_apply_5 ?_
    refine zv_icmp_gt (tgt := 31) hx hb d_D_apply_6 rfl (by omega) (by omega) (fun h2 => ?_) (fun h2 => ?_)
    · refine zv_iconst hx hb d_D_apply_31 ?_
      rw [hQ]
      exact z_iret hx hb hr hlk hH (⟨rfl, rfl⟩) d_D_apply_32
    · refine lv_iload_n hx hb d_D_apply_9 rfl (lv_at hl 2 rfl) ?_
      refine z_calli (va_runS (As := [.int (iI v0)]) (rest := []) ⟨hx, hb, hml, hown, hts⟩ (c_D_isRegister (l := l) (E := E) (w0 := w0) (r := v0) (hr0 := by omega) s.heap.size) (z_cwS 1 hg wm_164 wm_162 wm_1 wm_163 (by decide +kernel) ⟨Nat.le_of_ble_eq_true rfl, Nat.le_of_ble_eq_true rfl⟩) (z_preS hK hG hn hH hA) rfl rfl hl.1 rfl (lv_room (Nat.le_of_ble_eq_true rfl)) d_D_apply_10 ⟨Nat.zero_le _, Nat.zero_le _⟩) hH hA (fun z8 w5 H3 lc4 hH6 hp7 => ?_)
      obtain ⟨ew9, hp7⟩ := hp7
      rw [ew9] at hH6
      replace hp7 : (z8 = 1 ∧ 0 ≤ v0 ∧ v0 < 8) ∨ (z8 = 0 ∧ ¬ (0 ≤ v0 ∧ v0 < 8)) := hp7
      refine zv_if_eq (tgt := 31) hx hb d_D_apply_13 rfl (by omega) (fun h10 => ?_) (fun h10 => ?_)
      · refine zv_iconst hx hb d_D_apply_31 ?_
        rw [hQ]
        exact z_iret hx hb hr hlk hH6 (⟨rfl, rfl⟩) d_D_apply_32
      · refine lv_iload_n hx hb d_D_apply_16 rfl (lv_at hl 3 rfl) ?_
        refine z_calli (va_runS (As := [.int (iI va)]) (rest := []) ⟨hx, hb, hml, hown, hts⟩ (c_D_isRegister (l := l) (E := E) (w0 := w0) (r := va) (hr0 := by omega) H3.size) (z_cwS 1 hg wm_164 wm_162 wm_1 wm_163 (by decide +kernel) ⟨Nat.le_of_ble_eq_true rfl, Nat.le_of_ble_eq_true rfl⟩) (z_preS hK hG hn hH6 hA) rfl rfl hl.1 rfl (lv_room (Nat.le_of_ble_eq_true rfl)) d_D_apply_17 ⟨Nat.zero_le _, Nat.zero_le _⟩) hH6 hA (fun z16 w13 H11 lc12 hH14 hp15 => ?_)
        obtain ⟨ew17, hp15⟩ := hp15
        rw [ew17] at hH14
        replace hp15 : (z16 = 1 ∧ 0 ≤ va ∧ va < 8) ∨ (z16 = 0 ∧ ¬ (0 ≤ va ∧ va < 8)) := hp15
        refine zv_if_eq (tgt := 31) hx hb d_D_apply_20 rfl (by omega) (fun h18 => ?_) (fun h18 => ?_)
        · refine zv_iconst hx hb d_D_apply_31 ?_
          rw [hQ]
          exact z_iret hx hb hr hlk hH14 (⟨rfl, rfl⟩) d_D_apply_32
        · refine lv_iload hx hb d_D_apply_23 (lv_at hl 4 rfl) ?_
          refine z_calli (va_runS (As := [.int (iI vb)]) (rest := []) ⟨hx, hb, hml, hown, hts⟩ (c_D_isRegister (l := l) (E := E) (w0 := w0) (r := vb) (hr0 := by omega) H11.size) (z_cwS 1 hg wm_164 wm_162 wm_1 wm_163 (by decide +kernel) ⟨Nat.le_of_ble_eq_true rfl, Nat.le_of_ble_eq_true rfl⟩) (z_preS hK hG hn hH14 hA) rfl rfl hl.1 rfl (lv_room (Nat.le_of_ble_eq_true rfl)) d_D_apply_25 ⟨Nat.zero_le _, Nat.zero_le _⟩) hH14 hA (fun z24 w21 H19 lc20 hH22 hp23 => ?_)
          obtain ⟨ew25, hp23⟩ := hp23
          rw [ew25] at hH22
          replace hp23 : (z24 = 1 ∧ 0 ≤ vb ∧ vb < 8) ∨ (z24 = 0 ∧ ¬ (0 ≤ vb ∧ vb < 8)) := hp23
          refine zv_if_ne (tgt := 33) hx hb d_D_apply_28 rfl (by omega) (fun h26 => absurd h26 (by omega)) (fun h26 => ?_)
          refine zv_iconst hx hb d_D_apply_31 ?_
          rw [hQ]
          exact z_iret hx hb hr hlk hH22 (⟨rfl, rfl⟩) d_D_apply_32
def rm_D_adjustX : Room := { frames := 1, cells := 0, slots := 0, locals := 20 }
set_option maxHeartbeats 4000000 in
set_option maxRecDepth 100000 in
theorem c_D_adjustX (l : Launch) (E : zE) (w0 : zW) (op v0 va n0 : Int)   (hz_op : zr op) (hz_v0 : zr v0) (hz_va : zr va) (hz_n0 : zr n0) (hbad : ¬ (0 ≤ op ∧ op ≤ 6 ∧ (0 ≤ v0 ∧ v0 < 8) ∧ (0 ≤ va ∧ va < 8))) : zM l y_D_adjust ws_D_adjust rm_D_adjustX E [.ref (ad E 0), .int (iI op), .int (iI v0), .int (iI va), .int (iI n0)] w0 (zQi E w0 (fun z w' => w' = w0 ∧ (z = -1))) := by
  refine z_met (cc := b_D_adjust) (maxL := 5) (ret := (some .int)) (by decide +kernel) rfl (Nat.le_of_ble_eq_true rfl) ?_
  intro p e s m below meth cd ls a Qf hQ hC hl hH
  obtain ⟨hF, hr, hlk, hK, hG, hn⟩ := hC
  obtain ⟨hx, hb, hml, hown, hts⟩ := hF
  have hg : ∀ w ∈ GW, w.before a s = true := fun w h => hts w (List.mem_cons_of_mem _ h)
  have hA : ∀ q, s.heap.size ≤ q → va_A (wl E w0) s.heap.size q := fun q h => Or.inr h
  have hl : lv_has ls 5 [(0, .ref (ad E 0)), (1, .int (iI op)), (2, .int (iI v0)), (3, .int (iI va)), (4, .int (iI n0))] := hl
  refine lv_iload_n hx hb d_D_adjust_0 rfl (lv_at hl 1 rfl) ?_
  refine zv_if_lt (tgt := 24) hx hb d_D_adjust_1 rfl (by omega) (fun h1 => ?_) (fun h1 => ?_)
  · refine zv_iconst hx hb d_D_adjust_24 ?_
    rw [hQ]
    exact z_iret hx hb hr hlk hH (⟨rfl, rfl⟩) d_D_adjust_25
  · refine lv_iload_n hx hb d_D_adjust_4 rfl (lv_at hl 1 rfl) ?_
    refine zv_bipush hx hb d_D_adjust_5 rfl ?_
    refine zv_icmp_gt (tgt := 24) hx hb d_D_adjust_7 rfl (by omega) (by omega) (fun h2 => ?_) (fun h2 => ?_)
    · refine zv_iconst hx hb d_D_adjust_24 ?_
      rw [hQ]
      exact z_iret hx hb hr hlk hH (⟨rfl, rfl⟩) d_D_adjust_25
    · refine lv_iload_n hx hb d_D_adjust_10 rfl (lv_at hl 2 rfl) ?_
      refine z_calli (va_runS (As := [.int (iI v0)]) (rest := []) ⟨hx, hb, hml, hown, hts⟩ (c_D_isRegister (l := l) (E := E) (w0 := w0) (r := v0) (hr0 := by omega) s.heap.size) (z_cwS 1 hg wm_164 wm_162 wm_1 wm_163 (by decide +kernel) ⟨Nat.le_of_ble_eq_true rfl, Nat.le_of_ble_eq_true rfl⟩) (z_preS hK hG hn hH hA) rfl rfl hl.1 rfl (lv_room (Nat.le_of_ble_eq_true rfl)) d_D_adjust_11 ⟨Nat.zero_le _, Nat.zero_le _⟩) hH hA (fun z8 w5 H3 lc4 hH6 hp7 => ?_)
      obtain ⟨ew9, hp7⟩ := hp7
      rw [ew9] at hH6
      replace hp7 : (z8 = 1 ∧ 0 ≤ v0 ∧ v0 < 8) ∨ (z8 = 0 ∧ ¬ (0 ≤ v0 ∧ v0 < 8)) := hp7
      refine zv_if_eq (tgt := 24) hx hb d_D_adjust_14 rfl (by omega) (fun h10 => ?_) (fun h10 => ?_)
      · refine zv_iconst hx hb d_D_adjust_24 ?_
        rw [hQ]
        exact z_iret hx hb hr hlk hH6 (⟨rfl, rfl⟩) d_D_adjust_25
      · refine lv_iload_n hx hb d_D_adjust_17 rfl (lv_at hl 3 rfl) ?_
        refine z_calli (va_runS (As := [.int (iI va)]) (rest := []) ⟨hx, hb, hml, hown, hts⟩ (c_D_isRegister (l := l) (E := E) (w0 := w0) (r := va) (hr0 := by omega) H3.size) (z_cwS 1 hg wm_164 wm_162 wm_1 wm_163 (by decide +kernel) ⟨Nat.le_of_ble_eq_true rfl, Nat.le_of_ble_eq_true rfl⟩) (z_preS hK hG hn hH6 hA) rfl rfl hl.1 rfl (lv_room (Nat.le_of_ble_eq_true rfl)) d_D_adjust_18 ⟨Nat.zero_le _, Nat.zero_le _⟩) hH6 hA (fun z16 w13 H11 lc12 hH14 hp15 => ?_)
        obtain ⟨ew17, hp15⟩ := hp15
        rw [ew17] at hH14
        replace hp15 : (z16 = 1 ∧ 0 ≤ va ∧ va < 8) ∨ (z16 = 0 ∧ ¬ (0 ≤ va ∧ va < 8)) := hp15
        refine zv_if_ne (tgt := 26) hx hb d_D_adjust_21 rfl (by omega) (fun h18 => absurd h18 (by omega)) (fun h18 => ?_)
        refine zv_iconst hx hb d_D_adjust_24 ?_
        rw [hQ]
        exact z_iret hx hb hr hlk hH14 (⟨rfl, rfl⟩) d_D_adjust_25
def rm_D_fitX : Room := { frames := 1, cells := 0, slots := 0, locals := 20 }
set_option maxHeartbeats 4000000 in
set_option maxRecDepth 100000 in
theorem c_D_fitX (l : Launch) (E : zE) (w0 : zW) (v0 pr sc : Int)   (hz_v0 : zr v0) (hz_pr : zr pr) (hz_sc : zr sc) (hbad : ¬ ((0 ≤ v0 ∧ v0 < 8) ∧ 1 ≤ pr ∧ pr ≤ 56 ∧ -32 ≤ sc ∧ sc ≤ 24)) : zM l y_D_fit ws_D_fit rm_D_fitX E [.ref (ad E 0), .int (iI v0), .int (iI pr), .int (iI sc)] w0 (zQi E w0 (fun z w' => w' = w0 ∧ (z = -1))) := by
  refine z_met (cc := b_D_fit) (maxL := 5) (ret := (some .int)) (by decide +kernel) rfl (Nat.le_of_ble_eq_true rfl) ?_
  intro p e s m below meth cd ls a Qf hQ hC hl hH
  obtain ⟨hF, hr, hlk, hK, hG, hn⟩ := hC
  obtain ⟨hx, hb, hml, hown, hts⟩ := hF
  have hg : ∀ w ∈ GW, w.before a s = true := fun w h => hts w (List.mem_cons_of_mem _ h)
  have hA : ∀ q, s.heap.size ≤ q → va_A (wl E w0) s.heap.size q := fun q h => Or.inr h
  have hl : lv_has ls 5 [(0, .ref (ad E 0)), (1, .int (iI v0)), (2, .int (iI pr)), (3, .int (iI sc))] := hl
  refine lv_iload_n hx hb d_D_fit_0 rfl (lv_at hl 1 rfl) ?_
  refine z_calli (va_runS (As := [.int (iI v0)]) (rest := []) ⟨hx, hb, hml, hown, hts⟩ (c_D_isRegister (l := l) (E := E) (w0 := w0) (r := v0) (hr0 := by omega) s.heap.size) (z_cwS 1 hg wm_164 wm_162 wm_1 wm_163 (by decide +kernel) ⟨Nat.le_of_ble_eq_true rfl, Nat.le_of_ble_eq_true rfl⟩) (z_preS hK hG hn hH hA) rfl rfl hl.1 rfl (lv_room (Nat.le_of_ble_eq_true rfl)) d_D_fit_1 ⟨Nat.zero_le _, Nat.zero_le _⟩) hH hA (fun z6 w3 H1 lc2 hH4 hp5 => ?_)
  obtain ⟨ew7, hp5⟩ := hp5
  rw [ew7] at hH4
  replace hp5 : (z6 = 1 ∧ 0 ≤ v0 ∧ v0 < 8) ∨ (z6 = 0 ∧ ¬ (0 ≤ v0 ∧ v0 < 8)) := hp5
  refine zv_if_eq (tgt := 30) hx hb d_D_fit_4 rfl (by omega) (fun h8 => ?_) (fun h8 => ?_)
  · refine zv_iconst hx hb d_D_fit_30 ?_
    rw [hQ]
    exact z_iret hx hb hr hlk hH4 (⟨rfl, rfl⟩) d_D_fit_31
  · refine lv_iload_n hx hb d_D_fit_7 rfl (lv_at hl 2 rfl) ?_
    refine zv_iconst hx hb d_D_fit_8 ?_
    refine zv_icmp_lt (tgt := 30) hx hb d_D_fit_9 rfl (by omega) (by omega) (fun h9 => ?_) (fun h9 => ?_)
    · refine zv_iconst hx hb d_D_fit_30 ?_
      rw [hQ]
      exact z_iret hx hb hr hlk hH4 (⟨rfl, rfl⟩) d_D_fit_31
    · refine lv_iload_n hx hb d_D_fit_12 rfl (lv_at hl 2 rfl) ?_
      refine zv_bipush hx hb d_D_fit_13 rfl ?_
      refine zv_icmp_gt (tgt := 30) hx hb d_D_fit_15 rfl (by omega) (by omega) (fun h10 => ?_) (fun h10 => ?_)
      · refine zv_iconst hx hb d_D_fit_30 ?_
        rw [hQ]
        exact z_iret hx hb hr hlk hH4 (⟨rfl, rfl⟩) d_D_fit_31
      · refine lv_iload_n hx hb d_D_fit_18 rfl (lv_at hl 3 rfl) ?_
        refine zv_bipush hx hb d_D_fit_19 rfl ?_
        refine zv_icmp_lt (tgt := 30) hx hb d_D_fit_21 rfl (by omega) (by omega) (fun h11 => ?_) (fun h11 => ?_)
        · refine zv_iconst hx hb d_D_fit_30 ?_
          rw [hQ]
          exact z_iret hx hb hr hlk hH4 (⟨rfl, rfl⟩) d_D_fit_31
        · refine lv_iload_n hx hb d_D_fit_24 rfl (lv_at hl 3 rfl) ?_
          refine zv_bipush hx hb d_D_fit_25 rfl ?_
          refine zv_icmp_le (tgt := 32) hx hb d_D_fit_27 rfl (by omega) (by omega) (fun h12 => absurd h12 (by omega)) (fun h12 => ?_)
          refine zv_iconst hx hb d_D_fit_30 ?_
          rw [hQ]
          exact z_iret hx hb hr hlk hH4 (⟨rfl, rfl⟩) d_D_fit_31
def rm_D_compareX : Room := { frames := 1, cells := 0, slots := 0, locals := 20 }
set_option maxHeartbeats 4000000 in
set_option maxRecDepth 100000 in
theorem c_D_compareX (l : Launch) (E : zE) (w0 : zW) (va vb : Int)   (hz_va : zr va) (hz_vb : zr vb) (hbad : ¬ ((0 ≤ va ∧ va < 8) ∧ (0 ≤ vb ∧ vb < 8))) : zM l y_D_compare ws_D_compare rm_D_compareX E [.ref (ad E 0), .int (iI va), .int (iI vb)] w0 (zQi E w0 (fun z w' => w' = w0 ∧ (z = -2))) := by
  refine z_met (cc := b_D_compare) (maxL := 3) (ret := (some .int)) (by decide +kernel) rfl (Nat.le_of_ble_eq_true rfl) ?_
  intro p e s m below meth cd ls a Qf hQ hC hl hH
  obtain ⟨hF, hr, hlk, hK, hG, hn⟩ := hC
  obtain ⟨hx, hb, hml, hown, hts⟩ := hF
  have hg : ∀ w ∈ GW, w.before a s = true := fun w h => hts w (List.mem_cons_of_mem _ h)
  have hA : ∀ q, s.heap.size ≤ q → va_A (wl E w0) s.heap.size q := fun q h => Or.inr h
  have hl : lv_has ls 3 [(0, .ref (ad E 0)), (1, .int (iI va)), (2, .int (iI vb))] := hl
  refine lv_iload_n hx hb d_D_compare_0 rfl (lv_at hl 1 rfl) ?_
  refine z_calli (va_runS (As := [.int (iI va)]) (rest := []) ⟨hx, hb, hml, hown, hts⟩ (c_D_isRegister (l := l) (E := E) (w0 := w0) (r := va) (hr0 := by omega) s.heap.size) (z_cwS 1 hg wm_164 wm_162 wm_1 wm_163 (by decide +kernel) ⟨Nat.le_of_ble_eq_true rfl, Nat.le_of_ble_eq_true rfl⟩) (z_preS hK hG hn hH hA) rfl rfl hl.1 rfl (lv_room (Nat.le_of_ble_eq_true rfl)) d_D_compare_1 ⟨Nat.zero_le _, Nat.zero_le _⟩) hH hA (fun z6 w3 H1 lc2 hH4 hp5 => ?_)
  obtain ⟨ew7, hp5⟩ := hp5
  rw [ew7] at hH4
  replace hp5 : (z6 = 1 ∧ 0 ≤ va ∧ va < 8) ∨ (z6 = 0 ∧ ¬ (0 ≤ va ∧ va < 8)) := hp5
  refine zv_if_eq (tgt := 14) hx hb d_D_compare_4 rfl (by omega) (fun h8 => ?_) (fun h8 => ?_)
  · refine zv_bipush hx hb d_D_compare_14 rfl ?_
    rw [hQ]
    exact z_iret hx hb hr hlk hH4 (⟨rfl, rfl⟩) d_D_compare_16
  · refine lv_iload_n hx hb d_D_compare_7 rfl (lv_at hl 2 rfl) ?_
    refine z_calli (va_runS (As := [.int (iI vb)]) (rest := []) ⟨hx, hb, hml, hown, hts⟩ (c_D_isRegister (l := l) (E := E) (w0 := w0) (r := vb) (hr0 := by omega) H1.size) (z_cwS 1 hg wm_164 wm_162 wm_1 wm_163 (by decide +kernel) ⟨Nat.le_of_ble_eq_true rfl, Nat.le_of_ble_eq_true rfl⟩) (z_preS hK hG hn hH4 hA) rfl rfl hl.1 rfl (lv_room (Nat.le_of_ble_eq_true rfl)) d_D_compare_8 ⟨Nat.zero_le _, Nat.zero_le _⟩) hH4 hA (fun z14 w11 H9 lc10 hH12 hp13 => ?_)
    obtain ⟨ew15, hp13⟩ := hp13
    rw [ew15] at hH12
    replace hp13 : (z14 = 1 ∧ 0 ≤ vb ∧ vb < 8) ∨ (z14 = 0 ∧ ¬ (0 ≤ vb ∧ vb < 8)) := hp13
    refine zv_if_ne (tgt := 17) hx hb d_D_compare_11 rfl (by omega) (fun h16 => absurd h16 (by omega)) (fun h16 => ?_)
    refine zv_bipush hx hb d_D_compare_14 rfl ?_
    rw [hQ]
    exact z_iret hx hb hr hlk hH12 (⟨rfl, rfl⟩) d_D_compare_16
def rm_D_acceptX : Room := { frames := 1, cells := 0, slots := 0, locals := 20 }
set_option maxHeartbeats 4000000 in
set_option maxRecDepth 100000 in
theorem c_D_acceptX (l : Launch) (E : zE) (w0 : zW) (v0 va : Int)   (hz_v0 : zr v0) (hz_va : zr va) (hbad : ¬ ((0 ≤ v0 ∧ v0 < 4) ∧ (0 ≤ va ∧ va < 8))) : zM l y_D_accept ws_D_accept rm_D_acceptX E [.ref (ad E 0), .int (iI v0), .int (iI va)] w0 (zQi E w0 (fun z w' => w' = w0 ∧ (z = -1))) := by
  refine z_met (cc := b_D_accept) (maxL := 3) (ret := (some .int)) (by decide +kernel) rfl (Nat.le_of_ble_eq_true rfl) ?_
  intro p e s m below meth cd ls a Qf hQ hC hl hH
  obtain ⟨hF, hr, hlk, hK, hG, hn⟩ := hC
  obtain ⟨hx, hb, hml, hown, hts⟩ := hF
  have hg : ∀ w ∈ GW, w.before a s = true := fun w h => hts w (List.mem_cons_of_mem _ h)
  have hA : ∀ q, s.heap.size ≤ q → va_A (wl E w0) s.heap.size q := fun q h => Or.inr h
  have hl : lv_has ls 3 [(0, .ref (ad E 0)), (1, .int (iI v0)), (2, .int (iI va))] := hl
  refine lv_iload_n hx hb d_D_accept_0 rfl (lv_at hl 1 rfl) ?_
  refine z_calli (va_runS (As := [.int (iI v0)]) (rest := []) ⟨hx, hb, hml, hown, hts⟩ (c_D_isSum (l := l) (E := E) (w0 := w0) (r := v0) (hr0 := by omega) s.heap.size) (z_cwS 1 hg wm_599 wm_597 wm_1 wm_598 (by decide +kernel) ⟨Nat.le_of_ble_eq_true rfl, Nat.le_of_ble_eq_true rfl⟩) (z_preS hK hG hn hH hA) rfl rfl hl.1 rfl (lv_room (Nat.le_of_ble_eq_true rfl)) d_D_accept_1 ⟨Nat.zero_le _, Nat.zero_le _⟩) hH hA (fun z6 w3 H1 lc2 hH4 hp5 => ?_)
  obtain ⟨ew7, hp5⟩ := hp5
  rw [ew7] at hH4
  replace hp5 : (z6 = 1 ∧ 0 ≤ v0 ∧ v0 < 4) ∨ (z6 = 0 ∧ ¬ (0 ≤ v0 ∧ v0 < 4)) := hp5
  refine zv_if_eq (tgt := 14) hx hb d_D_accept_4 rfl (by omega) (fun h8 => ?_) (fun h8 => ?_)
  · refine zv_iconst hx hb d_D_accept_14 ?_
    rw [hQ]
    exact z_iret hx hb hr hlk hH4 (⟨rfl, rfl⟩) d_D_accept_15
  · refine lv_iload_n hx hb d_D_accept_7 rfl (lv_at hl 2 rfl) ?_
    refine z_calli (va_runS (As := [.int (iI va)]) (rest := []) ⟨hx, hb, hml, hown, hts⟩ (c_D_isRegister (l := l) (E := E) (w0 := w0) (r := va) (hr0 := by omega) H1.size) (z_cwS 1 hg wm_164 wm_162 wm_1 wm_163 (by decide +kernel) ⟨Nat.le_of_ble_eq_true rfl, Nat.le_of_ble_eq_true rfl⟩) (z_preS hK hG hn hH4 hA) rfl rfl hl.1 rfl (lv_room (Nat.le_of_ble_eq_true rfl)) d_D_accept_8 ⟨Nat.zero_le _, Nat.zero_le _⟩) hH4 hA (fun z14 w11 H9 lc10 hH12 hp13 => ?_)
    obtain ⟨ew15, hp13⟩ := hp13
    rw [ew15] at hH12
    replace hp13 : (z14 = 1 ∧ 0 ≤ va ∧ va < 8) ∨ (z14 = 0 ∧ ¬ (0 ≤ va ∧ va < 8)) := hp13
    refine zv_if_ne (tgt := 16) hx hb d_D_accept_11 rfl (by omega) (fun h16 => absurd h16 (by omega)) (fun h16 => ?_)
    refine zv_iconst hx hb d_D_accept_14 ?_
    rw [hQ]
    exact z_iret hx hb hr hlk hH12 (⟨rfl, rfl⟩) d_D_accept_15
def rm_D_discardX : Room := { frames := 1, cells := 0, slots := 0, locals := 20 }
set_option maxHeartbeats 4000000 in
set_option maxRecDepth 100000 in
theorem c_D_discardX (l : Launch) (E : zE) (w0 : zW) (v0 va : Int)   (hz_v0 : zr v0) (hz_va : zr va) (hbad : ¬ ((0 ≤ v0 ∧ v0 < 4) ∧ (0 ≤ va ∧ va < 8))) : zM l y_D_discard ws_D_discard rm_D_discardX E [.ref (ad E 0), .int (iI v0), .int (iI va)] w0 (zQi E w0 (fun z w' => w' = w0 ∧ (z = -1))) := by
  refine z_met (cc := b_D_discard) (maxL := 3) (ret := (some .int)) (by decide +kernel) rfl (Nat.le_of_ble_eq_true rfl) ?_
  intro p e s m below meth cd ls a Qf hQ hC hl hH
  obtain ⟨hF, hr, hlk, hK, hG, hn⟩ := hC
  obtain ⟨hx, hb, hml, hown, hts⟩ := hF
  have hg : ∀ w ∈ GW, w.before a s = true := fun w h => hts w (List.mem_cons_of_mem _ h)
  have hA : ∀ q, s.heap.size ≤ q → va_A (wl E w0) s.heap.size q := fun q h => Or.inr h
  have hl : lv_has ls 3 [(0, .ref (ad E 0)), (1, .int (iI v0)), (2, .int (iI va))] := hl
  refine lv_iload_n hx hb d_D_discard_0 rfl (lv_at hl 1 rfl) ?_
  refine z_calli (va_runS (As := [.int (iI v0)]) (rest := []) ⟨hx, hb, hml, hown, hts⟩ (c_D_isSum (l := l) (E := E) (w0 := w0) (r := v0) (hr0 := by omega) s.heap.size) (z_cwS 1 hg wm_599 wm_597 wm_1 wm_598 (by decide +kernel) ⟨Nat.le_of_ble_eq_true rfl, Nat.le_of_ble_eq_true rfl⟩) (z_preS hK hG hn hH hA) rfl rfl hl.1 rfl (lv_room (Nat.le_of_ble_eq_true rfl)) d_D_discard_1 ⟨Nat.zero_le _, Nat.zero_le _⟩) hH hA (fun z6 w3 H1 lc2 hH4 hp5 => ?_)
  obtain ⟨ew7, hp5⟩ := hp5
  rw [ew7] at hH4
  replace hp5 : (z6 = 1 ∧ 0 ≤ v0 ∧ v0 < 4) ∨ (z6 = 0 ∧ ¬ (0 ≤ v0 ∧ v0 < 4)) := hp5
  refine zv_if_eq (tgt := 14) hx hb d_D_discard_4 rfl (by omega) (fun h8 => ?_) (fun h8 => ?_)
  · refine zv_iconst hx hb d_D_discard_14 ?_
    rw [hQ]
    exact z_iret hx hb hr hlk hH4 (⟨rfl, rfl⟩) d_D_discard_15
  · refine lv_iload_n hx hb d_D_discard_7 rfl (lv_at hl 2 rfl) ?_
    refine z_calli (va_runS (As := [.int (iI va)]) (rest := []) ⟨hx, hb, hml, hown, hts⟩ (c_D_isRegister (l := l) (E := E) (w0 := w0) (r := va) (hr0 := by omega) H1.size) (z_cwS 1 hg wm_164 wm_162 wm_1 wm_163 (by decide +kernel) ⟨Nat.le_of_ble_eq_true rfl, Nat.le_of_ble_eq_true rfl⟩) (z_preS hK hG hn hH4 hA) rfl rfl hl.1 rfl (lv_room (Nat.le_of_ble_eq_true rfl)) d_D_discard_8 ⟨Nat.zero_le _, Nat.zero_le _⟩) hH4 hA (fun z14 w11 H9 lc10 hH12 hp13 => ?_)
    obtain ⟨ew15, hp13⟩ := hp13
    rw [ew15] at hH12
    replace hp13 : (z14 = 1 ∧ 0 ≤ va ∧ va < 8) ∨ (z14 = 0 ∧ ¬ (0 ≤ va ∧ va < 8)) := hp13
    refine zv_if_ne (tgt := 16) hx hb d_D_discard_11 rfl (by omega) (fun h16 => absurd h16 (by omega)) (fun h16 => ?_)
    refine zv_iconst hx hb d_D_discard_14 ?_
    rw [hQ]
    exact z_iret hx hb hr hlk hH12 (⟨rfl, rfl⟩) d_D_discard_15
def rm_D_mergeX : Room := { frames := 1, cells := 0, slots := 0, locals := 20 }
set_option maxHeartbeats 4000000 in
set_option maxRecDepth 100000 in
theorem c_D_mergeX (l : Launch) (E : zE) (w0 : zW) (v0 va : Int)   (hz_v0 : zr v0) (hz_va : zr va) (hbad : ¬ ((0 ≤ v0 ∧ v0 < 4) ∧ (0 ≤ va ∧ va < 4))) : zM l y_D_merge ws_D_merge rm_D_mergeX E [.ref (ad E 0), .int (iI v0), .int (iI va)] w0 (zQi E w0 (fun z w' => w' = w0 ∧ (z = -1))) := by
  refine z_met (cc := b_D_merge) (maxL := 3) (ret := (some .int)) (by decide +kernel) rfl (Nat.le_of_ble_eq_true rfl) ?_
  intro p e s m below meth cd ls a Qf hQ hC hl hH
  obtain ⟨hF, hr, hlk, hK, hG, hn⟩ := hC
  obtain ⟨hx, hb, hml, hown, hts⟩ := hF
  have hg : ∀ w ∈ GW, w.before a s = true := fun w h => hts w (List.mem_cons_of_mem _ h)
  have hA : ∀ q, s.heap.size ≤ q → va_A (wl E w0) s.heap.size q := fun q h => Or.inr h
  have hl : lv_has ls 3 [(0, .ref (ad E 0)), (1, .int (iI v0)), (2, .int (iI va))] := hl
  refine lv_iload_n hx hb d_D_merge_0 rfl (lv_at hl 1 rfl) ?_
  refine z_calli (va_runS (As := [.int (iI v0)]) (rest := []) ⟨hx, hb, hml, hown, hts⟩ (c_D_isSum (l := l) (E := E) (w0 := w0) (r := v0) (hr0 := by omega) s.heap.size) (z_cwS 1 hg wm_599 wm_597 wm_1 wm_598 (by decide +kernel) ⟨Nat.le_of_ble_eq_true rfl, Nat.le_of_ble_eq_true rfl⟩) (z_preS hK hG hn hH hA) rfl rfl hl.1 rfl (lv_room (Nat.le_of_ble_eq_true rfl)) d_D_merge_1 ⟨Nat.zero_le _, Nat.zero_le _⟩) hH hA (fun z6 w3 H1 lc2 hH4 hp5 => ?_)
  obtain ⟨ew7, hp5⟩ := hp5
  rw [ew7] at hH4
  replace hp5 : (z6 = 1 ∧ 0 ≤ v0 ∧ v0 < 4) ∨ (z6 = 0 ∧ ¬ (0 ≤ v0 ∧ v0 < 4)) := hp5
  refine zv_if_eq (tgt := 14) hx hb d_D_merge_4 rfl (by omega) (fun h8 => ?_) (fun h8 => ?_)
  · refine zv_iconst hx hb d_D_merge_14 ?_
    rw [hQ]
    exact z_iret hx hb hr hlk hH4 (⟨rfl, rfl⟩) d_D_merge_15
  · refine lv_iload_n hx hb d_D_merge_7 rfl (lv_at hl 2 rfl) ?_
    refine z_calli (va_runS (As := [.int (iI va)]) (rest := []) ⟨hx, hb, hml, hown, hts⟩ (c_D_isSum (l := l) (E := E) (w0 := w0) (r := va) (hr0 := by omega) H1.size) (z_cwS 1 hg wm_599 wm_597 wm_1 wm_598 (by decide +kernel) ⟨Nat.le_of_ble_eq_true rfl, Nat.le_of_ble_eq_true rfl⟩) (z_preS hK hG hn hH4 hA) rfl rfl hl.1 rfl (lv_room (Nat.le_of_ble_eq_true rfl)) d_D_merge_8 ⟨Nat.zero_le _, Nat.zero_le _⟩) hH4 hA (fun z14 w11 H9 lc10 hH12 hp13 => ?_)
    obtain ⟨ew15, hp13⟩ := hp13
    rw [ew15] at hH12
    replace hp13 : (z14 = 1 ∧ 0 ≤ va ∧ va < 4) ∨ (z14 = 0 ∧ ¬ (0 ≤ va ∧ va < 4)) := hp13
    refine zv_if_ne (tgt := 16) hx hb d_D_merge_11 rfl (by omega) (fun h16 => absurd h16 (by omega)) (fun h16 => ?_)
    refine zv_iconst hx hb d_D_merge_14 ?_
    rw [hQ]
    exact z_iret hx hb hr hlk hH12 (⟨rfl, rfl⟩) d_D_merge_15
def rm_D_resetX : Room := { frames := 1, cells := 0, slots := 0, locals := 20 }
set_option maxHeartbeats 4000000 in
set_option maxRecDepth 100000 in
theorem c_D_resetX (l : Launch) (E : zE) (w0 : zW) (v0 : Int)   (hz_v0 : zr v0) (hbad : ¬ (0 ≤ v0 ∧ v0 < 4)) : zM l y_D_reset ws_D_reset rm_D_resetX E [.ref (ad E 0), .int (iI v0)] w0 (zQi E w0 (fun z w' => w' = w0 ∧ (z = 0))) := by
  refine z_met (cc := b_D_reset) (maxL := 2) (ret := (some .boolean)) (by decide +kernel) rfl (Nat.le_of_ble_eq_true rfl) ?_
  intro p e s m below meth cd ls a Qf hQ hC hl hH
  obtain ⟨hF, hr, hlk, hK, hG, hn⟩ := hC
  obtain ⟨hx, hb, hml, hown, hts⟩ := hF
  have hg : ∀ w ∈ GW, w.before a s = true := fun w h => hts w (List.mem_cons_of_mem _ h)
  have hA : ∀ q, s.heap.size ≤ q → va_A (wl E w0) s.heap.size q := fun q h => Or.inr h
  have hl : lv_has ls 2 [(0, .ref (ad E 0)), (1, .int (iI v0))] := hl
  refine lv_iload_n hx hb d_D_reset_0 rfl (lv_at hl 1 rfl) ?_
  refine z_calli (va_runS (As := [.int (iI v0)]) (rest := []) ⟨hx, hb, hml, hown, hts⟩ (c_D_isSum (l := l) (E := E) (w0 := w0) (r := v0) (hr0 := by omega) s.heap.size) (z_cwS 1 hg wm_599 wm_597 wm_1 wm_598 (by decide +kernel) ⟨Nat.le_of_ble_eq_true rfl, Nat.le_of_ble_eq_true rfl⟩) (z_preS hK hG hn hH hA) rfl rfl hl.1 rfl (lv_room (Nat.le_of_ble_eq_true rfl)) d_D_reset_1 ⟨Nat.zero_le _, Nat.zero_le _⟩) hH hA (fun z6 w3 H1 lc2 hH4 hp5 => ?_)
  obtain ⟨ew7, hp5⟩ := hp5
  rw [ew7] at hH4
  replace hp5 : (z6 = 1 ∧ 0 ≤ v0 ∧ v0 < 4) ∨ (z6 = 0 ∧ ¬ (0 ≤ v0 ∧ v0 < 4)) := hp5
  refine zv_if_ne (tgt := 9) hx hb d_D_reset_4 rfl (by omega) (fun h8 => absurd h8 (by omega)) (fun h8 => ?_)
  refine zv_iconst hx hb d_D_reset_7 ?_
  rw [hQ]
  exact z_zret hx hb hr hlk hH4 (⟨rfl, rfl⟩) (by exact nar_z (by omega)) d_D_reset_8
def rm_D_countX : Room := { frames := 1, cells := 0, slots := 0, locals := 20 }
set_option maxHeartbeats 4000000 in
set_option maxRecDepth 100000 in
theorem c_D_countX (l : Launch) (E : zE) (w0 : zW) (v0 : Int)   (hz_v0 : zr v0) (hbad : ¬ (0 ≤ v0 ∧ v0 < 4)) : zM l y_D_count ws_D_count rm_D_countX E [.ref (ad E 0), .int (iI v0)] w0 (zQi E w0 (fun z w' => w' = w0 ∧ (z = -1))) := by
  refine z_met (cc := b_D_count) (maxL := 2) (ret := (some .int)) (by decide +kernel) rfl (Nat.le_of_ble_eq_true rfl) ?_
  intro p e s m below meth cd ls a Qf hQ hC hl hH
  obtain ⟨hF, hr, hlk, hK, hG, hn⟩ := hC
  obtain ⟨hx, hb, hml, hown, hts⟩ := hF
  have hg : ∀ w ∈ GW, w.before a s = true := fun w h => hts w (List.mem_cons_of_mem _ h)
  have hA : ∀ q, s.heap.size ≤ q → va_A (wl E w0) s.heap.size q := fun q h => Or.inr h
  have hl : lv_has ls 2 [(0, .ref (ad E 0)), (1, .int (iI v0))] := hl
  refine lv_iload_n hx hb d_D_count_0 rfl (lv_at hl 1 rfl) ?_
  refine z_calli (va_runS (As := [.int (iI v0)]) (rest := []) ⟨hx, hb, hml, hown, hts⟩ (c_D_isSum (l := l) (E := E) (w0 := w0) (r := v0) (hr0 := by omega) s.heap.size) (z_cwS 1 hg wm_599 wm_597 wm_1 wm_598 (by decide +kernel) ⟨Nat.le_of_ble_eq_true rfl, Nat.le_of_ble_eq_true rfl⟩) (z_preS hK hG hn hH hA) rfl rfl hl.1 rfl (lv_room (Nat.le_of_ble_eq_true rfl)) d_D_count_1 ⟨Nat.zero_le _, Nat.zero_le _⟩) hH hA (fun z6 w3 H1 lc2 hH4 hp5 => ?_)
  obtain ⟨ew7, hp5⟩ := hp5
  rw [ew7] at hH4
  replace hp5 : (z6 = 1 ∧ 0 ≤ v0 ∧ v0 < 4) ∨ (z6 = 0 ∧ ¬ (0 ≤ v0 ∧ v0 < 4)) := hp5
  refine zv_if_eq (tgt := 19) hx hb d_D_count_4 rfl (by omega) (fun h8 => ?_) (fun h8 => absurd h8 (by omega))
  refine zv_iconst hx hb d_D_count_19 ?_
  rw [hQ]
  exact z_iret hx hb hr hlk hH4 (⟨rfl, rfl⟩) d_D_count_20
def rm_D_totalX : Room := { frames := 1, cells := 0, slots := 0, locals := 20 }
set_option maxHeartbeats 4000000 in
set_option maxRecDepth 100000 in
theorem c_D_totalX (l : Launch) (E : zE) (w0 : zW) (v0 va : Int)   (hz_v0 : zr v0) (hz_va : zr va) (hbad : ¬ ((0 ≤ v0 ∧ v0 < 8) ∧ (0 ≤ va ∧ va < 4))) : zM l y_D_total ws_D_total rm_D_totalX E [.ref (ad E 0), .int (iI v0), .int (iI va)] w0 (zQi E w0 (fun z w' => w' = w0 ∧ (z = -1))) := by
  refine z_met (cc := b_D_total) (maxL := 3) (ret := (some .int)) (by decide +kernel) rfl (Nat.le_of_ble_eq_true rfl) ?_
  intro p e s m below meth cd ls a Qf hQ hC hl hH
  obtain ⟨hF, hr, hlk, hK, hG, hn⟩ := hC
  obtain ⟨hx, hb, hml, hown, hts⟩ := hF
  have hg : ∀ w ∈ GW, w.before a s = true := fun w h => hts w (List.mem_cons_of_mem _ h)
  have hA : ∀ q, s.heap.size ≤ q → va_A (wl E w0) s.heap.size q := fun q h => Or.inr h
  have hl : lv_has ls 3 [(0, .ref (ad E 0)), (1, .int (iI v0)), (2, .int (iI va))] := hl
  refine lv_iload_n hx hb d_D_total_0 rfl (lv_at hl 1 rfl) ?_
  refine z_calli (va_runS (As := [.int (iI v0)]) (rest := []) ⟨hx, hb, hml, hown, hts⟩ (c_D_isRegister (l := l) (E := E) (w0 := w0) (r := v0) (hr0 := by omega) s.heap.size) (z_cwS 1 hg wm_164 wm_162 wm_1 wm_163 (by decide +kernel) ⟨Nat.le_of_ble_eq_true rfl, Nat.le_of_ble_eq_true rfl⟩) (z_preS hK hG hn hH hA) rfl rfl hl.1 rfl (lv_room (Nat.le_of_ble_eq_true rfl)) d_D_total_1 ⟨Nat.zero_le _, Nat.zero_le _⟩) hH hA (fun z6 w3 H1 lc2 hH4 hp5 => ?_)
  obtain ⟨ew7, hp5⟩ := hp5
  rw [ew7] at hH4
  replace hp5 : (z6 = 1 ∧ 0 ≤ v0 ∧ v0 < 8) ∨ (z6 = 0 ∧ ¬ (0 ≤ v0 ∧ v0 < 8)) := hp5
  refine zv_if_eq (tgt := 14) hx hb d_D_total_4 rfl (by omega) (fun h8 => ?_) (fun h8 => ?_)
  · refine zv_iconst hx hb d_D_total_14 ?_
    rw [hQ]
    exact z_iret hx hb hr hlk hH4 (⟨rfl, rfl⟩) d_D_total_15
  · refine lv_iload_n hx hb d_D_total_7 rfl (lv_at hl 2 rfl) ?_
    refine z_calli (va_runS (As := [.int (iI va)]) (rest := []) ⟨hx, hb, hml, hown, hts⟩ (c_D_isSum (l := l) (E := E) (w0 := w0) (r := va) (hr0 := by omega) H1.size) (z_cwS 1 hg wm_599 wm_597 wm_1 wm_598 (by decide +kernel) ⟨Nat.le_of_ble_eq_true rfl, Nat.le_of_ble_eq_true rfl⟩) (z_preS hK hG hn hH4 hA) rfl rfl hl.1 rfl (lv_room (Nat.le_of_ble_eq_true rfl)) d_D_total_8 ⟨Nat.zero_le _, Nat.zero_le _⟩) hH4 hA (fun z14 w11 H9 lc10 hH12 hp13 => ?_)
    obtain ⟨ew15, hp13⟩ := hp13
    rw [ew15] at hH12
    replace hp13 : (z14 = 1 ∧ 0 ≤ va ∧ va < 4) ∨ (z14 = 0 ∧ ¬ (0 ≤ va ∧ va < 4)) := hp13
    refine zv_if_ne (tgt := 16) hx hb d_D_total_11 rfl (by omega) (fun h16 => absurd h16 (by omega)) (fun h16 => ?_)
    refine zv_iconst hx hb d_D_total_14 ?_
    rw [hQ]
    exact z_iret hx hb hr hlk hH12 (⟨rfl, rfl⟩) d_D_total_15
def rm_D_averageX : Room := { frames := 1, cells := 0, slots := 0, locals := 20 }
set_option maxHeartbeats 4000000 in
set_option maxRecDepth 100000 in
theorem c_D_averageX (l : Launch) (E : zE) (w0 : zW) (v0 va : Int)   (hz_v0 : zr v0) (hz_va : zr va) (hbad : ¬ ((0 ≤ v0 ∧ v0 < 8) ∧ (0 ≤ va ∧ va < 4))) : zM l y_D_average ws_D_average rm_D_averageX E [.ref (ad E 0), .int (iI v0), .int (iI va)] w0 (zQi E w0 (fun z w' => w' = w0 ∧ (z = -1))) := by
  refine z_met (cc := b_D_average) (maxL := 4) (ret := (some .int)) (by decide +kernel) rfl (Nat.le_of_ble_eq_true rfl) ?_
  intro p e s m below meth cd ls a Qf hQ hC hl hH
  obtain ⟨hF, hr, hlk, hK, hG, hn⟩ := hC
  obtain ⟨hx, hb, hml, hown, hts⟩ := hF
  have hg : ∀ w ∈ GW, w.before a s = true := fun w h => hts w (List.mem_cons_of_mem _ h)
  have hA : ∀ q, s.heap.size ≤ q → va_A (wl E w0) s.heap.size q := fun q h => Or.inr h
  have hl : lv_has ls 4 [(0, .ref (ad E 0)), (1, .int (iI v0)), (2, .int (iI va))] := hl
  refine lv_iload_n hx hb d_D_average_0 rfl (lv_at hl 1 rfl) ?_
  refine z_calli (va_runS (As := [.int (iI v0)]) (rest := []) ⟨hx, hb, hml, hown, hts⟩ (c_D_isRegister (l := l) (E := E) (w0 := w0) (r := v0) (hr0 := by omega) s.heap.size) (z_cwS 1 hg wm_164 wm_162 wm_1 wm_163 (by decide +kernel) ⟨Nat.le_of_ble_eq_true rfl, Nat.le_of_ble_eq_true rfl⟩) (z_preS hK hG hn hH hA) rfl rfl hl.1 rfl (lv_room (Nat.le_of_ble_eq_true rfl)) d_D_average_1 ⟨Nat.zero_le _, Nat.zero_le _⟩) hH hA (fun z6 w3 H1 lc2 hH4 hp5 => ?_)
  obtain ⟨ew7, hp5⟩ := hp5
  rw [ew7] at hH4
  replace hp5 : (z6 = 1 ∧ 0 ≤ v0 ∧ v0 < 8) ∨ (z6 = 0 ∧ ¬ (0 ≤ v0 ∧ v0 < 8)) := hp5
  refine zv_if_eq (tgt := 14) hx hb d_D_average_4 rfl (by omega) (fun h8 => ?_) (fun h8 => ?_)
  · refine zv_iconst hx hb d_D_average_14 ?_
    rw [hQ]
    exact z_iret hx hb hr hlk hH4 (⟨rfl, rfl⟩) d_D_average_15
  · refine lv_iload_n hx hb d_D_average_7 rfl (lv_at hl 2 rfl) ?_
    refine z_calli (va_runS (As := [.int (iI va)]) (rest := []) ⟨hx, hb, hml, hown, hts⟩ (c_D_isSum (l := l) (E := E) (w0 := w0) (r := va) (hr0 := by omega) H1.size) (z_cwS 1 hg wm_599 wm_597 wm_1 wm_598 (by decide +kernel) ⟨Nat.le_of_ble_eq_true rfl, Nat.le_of_ble_eq_true rfl⟩) (z_preS hK hG hn hH4 hA) rfl rfl hl.1 rfl (lv_room (Nat.le_of_ble_eq_true rfl)) d_D_average_8 ⟨Nat.zero_le _, Nat.zero_le _⟩) hH4 hA (fun z14 w11 H9 lc10 hH12 hp13 => ?_)
    obtain ⟨ew15, hp13⟩ := hp13
    rw [ew15] at hH12
    replace hp13 : (z14 = 1 ∧ 0 ≤ va ∧ va < 4) ∨ (z14 = 0 ∧ ¬ (0 ≤ va ∧ va < 4)) := hp13
    refine zv_if_ne (tgt := 16) hx hb d_D_average_11 rfl (by omega) (fun h16 => absurd h16 (by omega)) (fun h16 => ?_)
    refine zv_iconst hx hb d_D_average_14 ?_
    rw [hQ]
    exact z_iret hx hb hr hlk hH12 (⟨rfl, rfl⟩) d_D_average_15
