def rm_U_append : Room := { frames := 0, cells := 0, slots := 0, locals := 0 }
set_option maxHeartbeats 4000000 in
set_option maxRecDepth 100000 in
theorem c_U_append (l : Launch) (E : zE) (w0 : zW) (y : Nat) (us : Int) (ch : Int → Int) (x : Int) (q0lt : y < zn E) (q1lt : y + 1 < zn E) (c0 : w0 y = .inr (3, [.ref (ad E (y + 1)), .int (iI us)])) (c1 : w0 (y + 1) = zac E 80 ch) (bch : bd ch 80 0 126) (hus : 0 ≤ us ∧ us ≤ 80) (hx0 : 0 ≤ x ∧ x < 65536) : zM l y_U_append ws_U_append rm_U_append E [.ref (ad E y), .int (iI x)] w0 (zQi E w0 (fun z w' => (∃ (u' : Int) (c' : Int → Int), w' y = .inr (3, [.ref (ad E (y + 1)), .int (iI u')]) ∧ w' (y + 1) = zac E 80 c' ∧ bd c' 80 0 126 ∧ ((z = 0 ∧ (us = 80 ∨ x < 32 ∨ 126 < x) ∧ u' = us ∧ c' = ch) ∨ (z = 1 ∧ us < 80 ∧ 32 ≤ x ∧ x ≤ 126 ∧ u' = us + 1 ∧ c' = up ch us x))) ∧ ∀ k, k ≠ y → k ≠ (y + 1) → w' k = w0 k)) := by
  refine z_met (cc := b_U_append) (maxL := 2) (ret := (some .boolean)) (by decide +kernel) rfl (Nat.le_of_ble_eq_true rfl) ?_
  intro p e s m below meth cd ls a Qf hQ hC hl hH
  obtain ⟨hF, hr, hlk, hK, hG, hn⟩ := hC
  obtain ⟨hx, hb, hml, hown, hts⟩ := hF
  have hg : ∀ w ∈ GW, w.before a s = true := fun w h => hts w (List.mem_cons_of_mem _ h)
  have hA : ∀ q, s.heap.size ≤ q → va_A (wl E w0) s.heap.size q := fun q h => Or.inr h
  have hl : lv_has ls 2 [(0, .ref (ad E y)), (1, .int (iI x))] := hl
  refine lv_aload_n hx hb d_U_append_0 rfl (lv_at hl 0 rfl) ?_
  refine zv_get (C := "ScaledNumeralDesk$Buffer") (T := TU) (N := 2) hx hb hg uU_in hown hK hH q0lt c0 rfl 1 (by decide) (hg _ wm_102) (fun _ h9 => h9) rfl d_U_append_1 ?_
  refine zv_bipush hx hb d_U_append_4 rfl ?_
  refine zv_icmp_ge (tgt := 21) hx hb d_U_append_6 rfl (by omega) (by omega) (fun h1 => ?_) (fun h1 => ?_)
  · refine zv_iconst hx hb d_U_append_21 ?_
    rw [hQ]
    exact z_zret hx hb hr hlk hH (⟨⟨us, ch, c0, c1, bch, Or.inl ⟨rfl, by omega, rfl, rfl⟩⟩, (fun k _ _ => rfl)⟩) (by exact nar_z (by omega)) d_U_append_22
  · refine lv_iload_n hx hb d_U_append_9 rfl (lv_at hl 1 rfl) ?_
    refine zv_bipush hx hb d_U_append_10 rfl ?_
    refine zv_icmp_lt (tgt := 21) hx hb d_U_append_12 rfl (by omega) (by omega) (fun h2 => ?_) (fun h2 => ?_)
    · refine zv_iconst hx hb d_U_append_21 ?_
      rw [hQ]
      exact z_zret hx hb hr hlk hH (⟨⟨us, ch, c0, c1, bch, Or.inl ⟨rfl, by omega, rfl, rfl⟩⟩, (fun k _ _ => rfl)⟩) (by exact nar_z (by omega)) d_U_append_22
    · refine lv_iload_n hx hb d_U_append_15 rfl (lv_at hl 1 rfl) ?_
      refine zv_bipush hx hb d_U_append_16 rfl ?_
      refine zv_icmp_le (tgt := 23) hx hb d_U_append_18 rfl (by omega) (by omega) (fun h3 => ?_) (fun h3 => ?_)
      · refine lv_aload_n hx hb d_U_append_23 rfl (lv_at hl 0 rfl) ?_
        refine zv_get (C := "ScaledNumeralDesk$Buffer") (T := TU) (N := 2) hx hb hg uU_in hown hK hH q0lt c0 rfl 0 (by decide) (hg _ wm_101) (fun _ h9 => h9) rfl d_U_append_24 ?_
        refine lv_aload_n hx hb d_U_append_27 rfl (lv_at hl 0 rfl) ?_
        refine zv_get (C := "ScaledNumeralDesk$Buffer") (T := TU) (N := 2) hx hb hg uU_in hown hK hH q0lt c0 rfl 1 (by decide) (hg _ wm_102) (fun _ h9 => h9) rfl d_U_append_28 ?_
        refine lv_iload_n hx hb d_U_append_31 rfl (lv_at hl 1 rfl) ?_
        refine zv_cast hx hb hK hH q1lt c1 (by omega) (by omega) (by omega) (by omega) d_U_append_32 (fun H5 lc6 w4 hH7 e8 hg9 => ?_)
        have bd10 := bd_up bch us x (by omega)
        have e11 : w4 y = .inr (3, [.ref (ad E (y + 1)), .int (iI us)]) := (hg9 y (by omega)).trans c0
        have hf12 : ∀ k, k ≠ (y + 1) → w4 k = w0 k := fun k g0 => hg9 k g0
        refine lv_aload_n hx hb d_U_append_33 rfl (lv_at hl 0 rfl) ?_
        refine lv_dup hx hb d_U_append_34 rfl ?_
        refine zv_get (C := "ScaledNumeralDesk$Buffer") (T := TU) (N := 2) hx hb hg uU_in hown hK hH7 q0lt e11 rfl 1 (by decide) (hg _ wm_102) (fun _ h9 => h9) rfl d_U_append_35 ?_
        refine zv_iconst hx hb d_U_append_38 ?_
        refine zv_iadd hx hb d_U_append_39 ?_
        refine zv_put (C := "ScaledNumeralDesk$Buffer") (T := TU) (N := 2) (fs' := [.ref (ad E (y + 1)), .int (iI (us + 1))]) hx hb hg uU_in tyU tyU_ok nmU hown hK hH7 q0lt e11 rfl 1 (by decide) (hg _ wm_102) (fun _ h9 => h9) rfl (ty := tyU 1) (by decide +kernel) (rfl) (by rfl) (Nat.le_of_ble_eq_true rfl) d_U_append_40 rfl (fun H14 lc15 w13 hH16 e17 hg18 => ?_)
        have e19 : w13 (y + 1) = zac E 80 (up ch us x) := (hg18 (y + 1) (by omega)).trans e8
        have hf20 : ∀ k, k ≠ (y + 1) → k ≠ y → w13 k = w0 k := fun k g0 g1 => (hg18 k g1).trans (hf12 k g0)
        refine zv_iconst hx hb d_U_append_43 ?_
        rw [hQ]
        exact z_zret hx hb hr hlk hH16 (⟨⟨(us + 1), (up ch us x), e17, e19, bd10, Or.inr ⟨rfl, by omega, by omega, by omega, rfl, rfl⟩⟩, (fun k g0 g1 => hf20 k g1 g0)⟩) (by exact nar_z (by omega)) d_U_append_44
      · refine zv_iconst hx hb d_U_append_21 ?_
        rw [hQ]
        exact z_zret hx hb hr hlk hH (⟨⟨us, ch, c0, c1, bch, Or.inl ⟨rfl, by omega, rfl, rfl⟩⟩, (fun k _ _ => rfl)⟩) (by exact nar_z (by omega)) d_U_append_22
def rm_U_empty : Room := { frames := 0, cells := 0, slots := 0, locals := 0 }
set_option maxHeartbeats 4000000 in
set_option maxRecDepth 100000 in
theorem c_U_empty (l : Launch) (E : zE) (w0 : zW) (y : Nat) (us : Int) (ch : Int → Int) (q0lt : y < zn E) (q1lt : y + 1 < zn E) (c0 : w0 y = .inr (3, [.ref (ad E (y + 1)), .int (iI us)])) (c1 : w0 (y + 1) = zac E 80 ch) (bch : bd ch 80 0 126) (hus : 0 ≤ us ∧ us ≤ 80) : zM l y_U_empty ws_U_empty rm_U_empty E [.ref (ad E y)] w0 (zQv E w0 (fun w' => (w' y = .inr (3, [.ref (ad E (y + 1)), .int (iI 0)]) ∧ (True)) ∧ ∀ k, k ≠ y → w' k = w0 k)) := by
  refine z_met (cc := b_U_empty) (maxL := 1) (ret := none) (by decide +kernel) rfl (Nat.le_of_ble_eq_true rfl) ?_
  intro p e s m below meth cd ls a Qf hQ hC hl hH
  obtain ⟨hF, hr, hlk, hK, hG, hn⟩ := hC
  obtain ⟨hx, hb, hml, hown, hts⟩ := hF
  have hg : ∀ w ∈ GW, w.before a s = true := fun w h => hts w (List.mem_cons_of_mem _ h)
  have hA : ∀ q, s.heap.size ≤ q → va_A (wl E w0) s.heap.size q := fun q h => Or.inr h
  have hl : lv_has ls 1 [(0, .ref (ad E y))] := hl
  refine lv_aload_n hx hb d_U_empty_0 rfl (lv_at hl 0 rfl) ?_
  refine zv_iconst hx hb d_U_empty_1 ?_
  refine zv_put (C := "ScaledNumeralDesk$Buffer") (T := TU) (N := 2) (fs' := [.ref (ad E (y + 1)), .int (iI 0)]) hx hb hg uU_in tyU tyU_ok nmU hown hK hH q0lt c0 rfl 1 (by decide) (hg _ wm_102) (fun _ h9 => h9) rfl (ty := tyU 1) (by decide +kernel) (rfl) (by rfl) (Nat.le_of_ble_eq_true rfl) d_U_empty_2 rfl (fun H2 lc3 w1 hH4 e5 hg6 => ?_)
  have e7 : w1 (y + 1) = zac E 80 ch := (hg6 (y + 1) (by omega)).trans c1
  have hf8 : ∀ k, k ≠ y → w1 k = w0 k := fun k g0 => hg6 k g0
  rw [hQ]
  exact z_vret hx hb hr hlk hH4 (⟨⟨e5, trivial⟩, (fun k g0 => hf8 k g0)⟩) d_U_empty_5
def rm_U_isSign : Room := { frames := 0, cells := 0, slots := 0, locals := 0 }
set_option maxHeartbeats 4000000 in
set_option maxRecDepth 100000 in
theorem c_U_isSign (l : Launch) (E : zE) (w0 : zW) (y : Nat) (us : Int) (ch : Int → Int) (i : Int) (q0lt : y < zn E) (q1lt : y + 1 < zn E) (c0 : w0 y = .inr (3, [.ref (ad E (y + 1)), .int (iI us)])) (c1 : w0 (y + 1) = zac E 80 ch) (bch : bd ch 80 0 126) (hus : 0 ≤ us ∧ us ≤ 80) (hi0 : 0 ≤ i ∧ i < 1000) : zM l y_U_isSignAt ws_U_isSignAt rm_U_isSign E [.ref (ad E y), .int (iI i)] w0 (zQi E w0 (fun z w' => w' = w0 ∧ ((z = 1 ∧ i < us ∧ (ch i = 43 ∨ ch i = 45)) ∨ (z = 0 ∧ ¬ (i < us ∧ (ch i = 43 ∨ ch i = 45)))))) := by
  refine z_met (cc := b_U_isSignAt) (maxL := 2) (ret := (some .boolean)) (by decide +kernel) rfl (Nat.le_of_ble_eq_true rfl) ?_
  intro p e s m below meth cd ls a Qf hQ hC hl hH
  obtain ⟨hF, hr, hlk, hK, hG, hn⟩ := hC
  obtain ⟨hx, hb, hml, hown, hts⟩ := hF
  have hg : ∀ w ∈ GW, w.before a s = true := fun w h => hts w (List.mem_cons_of_mem _ h)
  have hA : ∀ q, s.heap.size ≤ q → va_A (wl E w0) s.heap.size q := fun q h => Or.inr h
  have hl : lv_has ls 2 [(0, .ref (ad E y)), (1, .int (iI i))] := hl
  refine lv_iload_n hx hb d_U_isSignAt_0 rfl (lv_at hl 1 rfl) ?_
  refine lv_aload_n hx hb d_U_isSignAt_1 rfl (lv_at hl 0 rfl) ?_
  refine zv_get (C := "ScaledNumeralDesk$Buffer") (T := TU) (N := 2) hx hb hg uU_in hown hK hH q0lt c0 rfl 1 (by decide) (hg _ wm_102) (fun _ h9 => h9) rfl d_U_isSignAt_2 ?_
  refine zv_icmp_ge (tgt := 34) hx hb d_U_isSignAt_5 rfl (by omega) (by omega) (fun h1 => ?_) (fun h1 => ?_)
  · refine zv_iconst hx hb d_U_isSignAt_34 ?_
    rw [hQ]
    exact z_zret hx hb hr hlk hH (⟨rfl, by omega⟩) (by exact nar_z (by omega)) d_U_isSignAt_35
  · refine lv_aload_n hx hb d_U_isSignAt_8 rfl (lv_at hl 0 rfl) ?_
    refine zv_get (C := "ScaledNumeralDesk$Buffer") (T := TU) (N := 2) hx hb hg uU_in hown hK hH q0lt c0 rfl 0 (by decide) (hg _ wm_101) (fun _ h9 => h9) rfl d_U_isSignAt_9 ?_
    refine lv_iload_n hx hb d_U_isSignAt_12 rfl (lv_at hl 1 rfl) ?_
    refine zv_cald hx hb hK hH q1lt c1 (by omega) (by omega) (by omega) d_U_isSignAt_13 ?_
    have b2 := bch i (by omega) (by omega)
    refine zv_bipush hx hb d_U_isSignAt_14 rfl ?_
    refine zv_icmp_eq (tgt := 30) hx hb d_U_isSignAt_16 rfl (by omega) (by omega) (fun h3 => ?_) (fun h3 => ?_)
    · refine zv_iconst hx hb d_U_isSignAt_30 ?_
      refine lv_goto (tgt := 35) hx hb d_U_isSignAt_31 rfl ?_
      rw [hQ]
      exact z_zret hx hb hr hlk hH (⟨rfl, by omega⟩) (by exact nar_z (by omega)) d_U_isSignAt_35
    · refine lv_aload_n hx hb d_U_isSignAt_19 rfl (lv_at hl 0 rfl) ?_
      refine zv_get (C := "ScaledNumeralDesk$Buffer") (T := TU) (N := 2) hx hb hg uU_in hown hK hH q0lt c0 rfl 0 (by decide) (hg _ wm_101) (fun _ h9 => h9) rfl d_U_isSignAt_20 ?_
      refine lv_iload_n hx hb d_U_isSignAt_23 rfl (lv_at hl 1 rfl) ?_
      refine zv_cald hx hb hK hH q1lt c1 (by omega) (by omega) (by omega) d_U_isSignAt_24 ?_
      have b4 := bch i (by omega) (by omega)
      refine zv_bipush hx hb d_U_isSignAt_25 rfl ?_
      refine zv_icmp_ne (tgt := 34) hx hb d_U_isSignAt_27 rfl (by omega) (by omega) (fun h5 => ?_) (fun h5 => ?_)
      · refine zv_iconst hx hb d_U_isSignAt_34 ?_
        rw [hQ]
        exact z_zret hx hb hr hlk hH (⟨rfl, by omega⟩) (by exact nar_z (by omega)) d_U_isSignAt_35
      · refine zv_iconst hx hb d_U_isSignAt_30 ?_
        refine lv_goto (tgt := 35) hx hb d_U_isSignAt_31 rfl ?_
        rw [hQ]
        exact z_zret hx hb hr hlk hH (⟨rfl, by omega⟩) (by exact nar_z (by omega)) d_U_isSignAt_35
def rm_U_isDigit : Room := { frames := 0, cells := 0, slots := 0, locals := 0 }
set_option maxHeartbeats 4000000 in
set_option maxRecDepth 100000 in
theorem c_U_isDigit (l : Launch) (E : zE) (w0 : zW) (y : Nat) (us : Int) (ch : Int → Int) (i : Int) (q0lt : y < zn E) (q1lt : y + 1 < zn E) (c0 : w0 y = .inr (3, [.ref (ad E (y + 1)), .int (iI us)])) (c1 : w0 (y + 1) = zac E 80 ch) (bch : bd ch 80 0 126) (hus : 0 ≤ us ∧ us ≤ 80) (hi0 : 0 ≤ i ∧ i < 1000) : zM l y_U_isDigitAt ws_U_isDigitAt rm_U_isDigit E [.ref (ad E y), .int (iI i)] w0 (zQi E w0 (fun z w' => w' = w0 ∧ ((z = 1 ∧ i < us ∧ 48 ≤ ch i ∧ ch i ≤ 57) ∨ (z = 0 ∧ ¬ (i < us ∧ 48 ≤ ch i ∧ ch i ≤ 57))))) := by
  refine z_met (cc := b_U_isDigitAt) (maxL := 2) (ret := (some .boolean)) (by decide +kernel) rfl (Nat.le_of_ble_eq_true rfl) ?_
  intro p e s m below meth cd ls a Qf hQ hC hl hH
  obtain ⟨hF, hr, hlk, hK, hG, hn⟩ := hC
  obtain ⟨hx, hb, hml, hown, hts⟩ := hF
  have hg : ∀ w ∈ GW, w.before a s = true := fun w h => hts w (List.mem_cons_of_mem _ h)
  have hA : ∀ q, s.heap.size ≤ q → va_A (wl E w0) s.heap.size q := fun q h => Or.inr h
  have hl : lv_has ls 2 [(0, .ref (ad E y)), (1, .int (iI i))] := hl
  refine lv_iload_n hx hb d_U_isDigitAt_0 rfl (lv_at hl 1 rfl) ?_
  refine lv_aload_n hx hb d_U_isDigitAt_1 rfl (lv_at hl 0 rfl) ?_
  refine zv_get (C := "ScaledNumeralDesk$Buffer") (T := TU) (N := 2) hx hb hg uU_in hown hK hH q0lt c0 rfl 1 (by decide) (hg _ wm_102) (fun _ h9 => h9) rfl d_U_isDigitAt_2 ?_
  refine zv_icmp_ge (tgt := 34) hx hb d_U_isDigitAt_5 rfl (by omega) (by omega) (fun h1 => ?_) (fun h1 => ?_)
  · refine zv_iconst hx hb d_U_isDigitAt_34 ?_
    rw [hQ]
    exact z_zret hx hb hr hlk hH (⟨rfl, by omega⟩) (by exact nar_z (by omega)) d_U_isDigitAt_35
  · refine lv_aload_n hx hb d_U_isDigitAt_8 rfl (lv_at hl 0 rfl) ?_
    refine zv_get (C := "ScaledNumeralDesk$Buffer") (T := TU) (N := 2) hx hb hg uU_in hown hK hH q0lt c0 rfl 0 (by decide) (hg _ wm_101) (fun _ h9 => h9) rfl d_U_isDigitAt_9 ?_
    refine lv_iload_n hx hb d_U_isDigitAt_12 rfl (lv_at hl 1 rfl) ?_
    refine zv_cald hx hb hK hH q1lt c1 (by omega) (by omega) (by omega) d_U_isDigitAt_13 ?_
    have b2 := bch i (by omega) (by omega)
    refine zv_bipush hx hb d_U_isDigitAt_14 rfl ?_
    refine zv_icmp_lt (tgt := 34) hx hb d_U_isDigitAt_16 rfl (by omega) (by omega) (fun h3 => ?_) (fun h3 => ?_)
    · refine zv_iconst hx hb d_U_isDigitAt_34 ?_
      rw [hQ]
      exact z_zret hx hb hr hlk hH (⟨rfl, by omega⟩) (by exact nar_z (by omega)) d_U_isDigitAt_35
    · refine lv_aload_n hx hb d_U_isDigitAt_19 rfl (lv_at hl 0 rfl) ?_
      refine zv_get (C := "ScaledNumeralDesk$Buffer") (T := TU) (N := 2) hx hb hg uU_in hown hK hH q0lt c0 rfl 0 (by decide) (hg _ wm_101) (fun _ h9 => h9) rfl d_U_isDigitAt_20 ?_
      refine lv_iload_n hx hb d_U_isDigitAt_23 rfl (lv_at hl 1 rfl) ?_
      refine zv_cald hx hb hK hH q1lt c1 (by omega) (by omega) (by omega) d_U_isDigitAt_24 ?_
      have b4 := bch i (by omega) (by omega)
      refine zv_bipush hx hb d_U_isDigitAt_25 rfl ?_
      refine zv_icmp_gt (tgt := 34) hx hb d_U_isDigitAt_27 rfl (by omega) (by omega) (fun h5 => ?_) (fun h5 => ?_)
      · refine zv_iconst hx hb d_U_isDigitAt_34 ?_
        rw [hQ]
        exact z_zret hx hb hr hlk hH (⟨rfl, by omega⟩) (by exact nar_z (by omega)) d_U_isDigitAt_35
      · refine zv_iconst hx hb d_U_isDigitAt_30 ?_
        refine lv_goto (tgt := 35) hx hb d_U_isDigitAt_31 rfl ?_
        rw [hQ]
        exact z_zret hx hb hr hlk hH (⟨rfl, by omega⟩) (by exact nar_z (by omega)) d_U_isDigitAt_35
def rm_U_lower : Room := { frames := 0, cells := 0, slots := 0, locals := 0 }
set_option maxHeartbeats 4000000 in
set_option maxRecDepth 100000 in
theorem c_U_lower (l : Launch) (E : zE) (w0 : zW) (x : Int)   (hx0 : 0 ≤ x ∧ x < 65536) : zM l y_U_lower ws_U_lower rm_U_lower E [.int (iI x)] w0 (zQi E w0 (fun z w' => w' = w0 ∧ ((65 ≤ x ∧ x ≤ 90 ∧ z = x + 32) ∨ (¬ (65 ≤ x ∧ x ≤ 90) ∧ z = x)))) := by
  refine z_met (cc := b_U_lower) (maxL := 1) (ret := (some .int)) (by decide +kernel) rfl (Nat.le_of_ble_eq_true rfl) ?_
  intro p e s m below meth cd ls a Qf hQ hC hl hH
  obtain ⟨hF, hr, hlk, hK, hG, hn⟩ := hC
  obtain ⟨hx, hb, hml, hown, hts⟩ := hF
  have hg : ∀ w ∈ GW, w.before a s = true := fun w h => hts w (List.mem_cons_of_mem _ h)
  have hA : ∀ q, s.heap.size ≤ q → va_A (wl E w0) s.heap.size q := fun q h => Or.inr h
  have hl : lv_has ls 1 [(0, .int (iI x))] := hl
  refine lv_iload_n hx hb d_U_lower_0 rfl (lv_at hl 0 rfl) ?_
  refine zv_bipush hx hb d_U_lower_1 rfl ?_
  refine zv_icmp_lt (tgt := 22) hx hb d_U_lower_3 rfl (by omega) (by omega) (fun h1 => ?_) (fun h1 => ?_)
  · refine lv_iload_n hx hb d_U_lower_22 rfl (lv_at hl 0 rfl) ?_
    rw [hQ]
    exact z_iret hx hb hr hlk hH (⟨rfl, by omega⟩) d_U_lower_23
  · refine lv_iload_n hx hb d_U_lower_6 rfl (lv_at hl 0 rfl) ?_
    refine zv_bipush hx hb d_U_lower_7 rfl ?_
    refine zv_icmp_gt (tgt := 22) hx hb d_U_lower_9 rfl (by omega) (by omega) (fun h2 => ?_) (fun h2 => ?_)
    · refine lv_iload_n hx hb d_U_lower_22 rfl (lv_at hl 0 rfl) ?_
      rw [hQ]
      exact z_iret hx hb hr hlk hH (⟨rfl, by omega⟩) d_U_lower_23
    · refine lv_iload_n hx hb d_U_lower_12 rfl (lv_at hl 0 rfl) ?_
      refine zv_bipush hx hb d_U_lower_13 rfl ?_
      refine zv_isub hx hb d_U_lower_15 ?_
      refine zv_bipush hx hb d_U_lower_16 rfl ?_
      refine zv_iadd hx hb d_U_lower_18 ?_
      refine lv_goto (tgt := 23) hx hb d_U_lower_19 rfl ?_
      rw [hQ]
      exact z_iret hx hb hr hlk hH (⟨rfl, by omega⟩) d_U_lower_23
def rm_U_point : Room := { frames := 0, cells := 0, slots := 0, locals := 0 }
set_option maxHeartbeats 4000000 in
set_option maxRecDepth 100000 in
theorem c_U_point (l : Launch) (E : zE) (w0 : zW) (y : Nat) (us : Int) (ch : Int → Int) (st1 en : Int) (q0lt : y < zn E) (q1lt : y + 1 < zn E) (c0 : w0 y = .inr (3, [.ref (ad E (y + 1)), .int (iI us)])) (c1 : w0 (y + 1) = zac E 80 ch) (bch : bd ch 80 0 126) (hus : 0 ≤ us ∧ us ≤ 80) (hse : 0 ≤ st1 ∧ st1 ≤ en ∧ en ≤ us) : zM l y_U_pointBetween ws_U_pointBetween rm_U_point E [.ref (ad E y), .int (iI st1), .int (iI en)] w0 (zQi E w0 (fun z w' => w' = w0 ∧ (st1 ≤ z ∧ z ≤ en ∧ (∀ j : Int, st1 ≤ j → j < z → ch j ≠ 46) ∧ (z < en → ch z = 46)))) := by
  refine z_met (cc := b_U_pointBetween) (maxL := 4) (ret := (some .int)) (by decide +kernel) rfl (Nat.le_of_ble_eq_true rfl) ?_
  intro p e s m below meth cd ls a Qf hQ hC hl hH
  obtain ⟨hF, hr, hlk, hK, hG, hn⟩ := hC
  obtain ⟨hx, hb, hml, hown, hts⟩ := hF
  have hg : ∀ w ∈ GW, w.before a s = true := fun w h => hts w (List.mem_cons_of_mem _ h)
  have hA : ∀ q, s.heap.size ≤ q → va_A (wl E w0) s.heap.size q := fun q h => Or.inr h
  have hl : lv_has ls 4 [(0, .ref (ad E y)), (1, .int (iI st1)), (2, .int (iI en))] := hl
  refine lv_iload_n hx hb d_U_pointBetween_0 rfl (lv_at hl 1 rfl) ?_
  refine lv_istore_n (lv' := [(3, .int (iI st1)), (0, .ref (ad E y)), (1, .int (iI st1)), (2, .int (iI en))]) hx hb d_U_pointBetween_1 rfl hl (by decide) rfl (fun ls hl => ?_)
  have L2 : ∀ (fu : Nat) (x : Int) (ls : Array Slot) (H1 : Heap) (lc2 : List Loc), (lv_has ls 4 [(3, .int (iI x)), (0, .ref (ad E y)), (1, .int (iI st1)), (2, .int (iI en))]) → (zH E w0 (va_A (wl E w0) s.heap.size) s.heap H1 lc2) → (st1 ≤ x ∧ x ≤ en) → (∀ j : Int, st1 ≤ j → j < x → ch j ≠ 46) → (en - x < (fu : Int)) → W p l e rm_U_point s m a below meth cd H1 lc2 0 0 Qf (F0 m 2 ls []) := by
    intro fu
    induction fu with
    | zero => intro x ls H1 lc2 hl hH hx0 hz hm; exact absurd hm (by omega)
    | succ fu ih =>
      intro x ls H1 lc2 hl hH hx0 hz hm
      refine lv_iload_n hx hb d_U_pointBetween_2 rfl (lv_at hl 0 rfl) ?_
      refine lv_iload_n hx hb d_U_pointBetween_3 rfl (lv_at hl 3 rfl) ?_
      refine zv_icmp_ge (tgt := 24) hx hb d_U_pointBetween_4 rfl (by omega) (by omega) (fun h3 => ?_) (fun h3 => ?_)
      · refine lv_iload_n hx hb d_U_pointBetween_24 rfl (lv_at hl 0 rfl) ?_
        rw [hQ]
        exact z_iret hx hb hr hlk hH (⟨rfl, ⟨hx0.1, hx0.2, hz, fun h0 => by omega⟩⟩) d_U_pointBetween_25
      · refine lv_aload_n hx hb d_U_pointBetween_7 rfl (lv_at hl 1 rfl) ?_
        refine zv_get (C := "ScaledNumeralDesk$Buffer") (T := TU) (N := 2) hx hb hg uU_in hown hK hH q0lt c0 rfl 0 (by decide) (hg _ wm_101) (fun _ h9 => h9) rfl d_U_pointBetween_8 ?_
        refine lv_iload_n hx hb d_U_pointBetween_11 rfl (lv_at hl 0 rfl) ?_
        refine zv_cald hx hb hK hH q1lt c1 (by omega) (by omega) (by omega) d_U_pointBetween_12 ?_
        have b4 := bch x (by omega) (by omega)
        refine zv_bipush hx hb d_U_pointBetween_13 rfl ?_
        refine zv_icmp_eq (tgt := 24) hx hb d_U_pointBetween_15 rfl (by omega) (by omega) (fun h5 => ?_) (fun h5 => ?_)
        · refine lv_iload_n hx hb d_U_pointBetween_24 rfl (lv_at hl 0 rfl) ?_
          rw [hQ]
          exact z_iret hx hb hr hlk hH (⟨rfl, ⟨hx0.1, hx0.2, hz, fun h0 => by omega⟩⟩) d_U_pointBetween_25
        · refine zv_iinc (k := 0) (lv' := [(3, .int (iI (x + 1))), (0, .ref (ad E y)), (1, .int (iI st1)), (2, .int (iI en))]) hx hb d_U_pointBetween_18 hl rfl (by decide) rfl (fun ls hl => ?_)
          refine lv_goto (tgt := 2) hx hb d_U_pointBetween_21 rfl ?_
          exact ih  (x + 1) _ H1 lc2 (lv_sub hl [0, 1, 2, 3] rfl) hH (by omega) (by intro j g1 g2; by_cases e9 : j = x; rw [e9]; assumption; exact hz j g1 (by omega)) (by omega)
  exact L2 ((en - st1 : Int).toNat + 1) st1 _ s.heap ([]) (lv_sub hl [0, 1, 2, 3] rfl) hH (by omega) (by intro j g1 g2; omega) (by omega)
