theorem nx_M_type_0 {g : Nat}  : g ≠ g + 5 := by omega
theorem nx_M_type_1 {g : Nat}  : g + 5 ≠ g := by omega
def rm_M_type : Room := { frames := 0, cells := 0, slots := 0, locals := 0 }
set_option maxHeartbeats 4000000 in
set_option maxRecDepth 100000 in
theorem c_M_type (l : Launch) (E : zE) (w0 : zW) (g : Nat) (ty xm ym ne : Int) (ch : Int → Int) (x : Int) (q0lt : g < zn E) (q1lt : g + 5 < zn E) (c0 : w0 g = .inr (6, [.ref (ad E (g + 1)), .ref (ad E (g + 2)), .ref (ad E (g + 3)), .ref (ad E (g + 4)), .int (iI ty), .ref (ad E (g + 5)), .ref (ad E (g + 6)), .ref (ad E (g + 7)), .ref (ad E (g + 8)), .ref (ad E (g + 9)), .ref (ad E (g + 10)), .int (iI xm), .int (iI ym), .ref (ad E (g + 11)), .int (iI ne), .ref (ad E (g + 12)), .ref (ad E (g + 13))])) (c1 : w0 (g + 5) = zar E 80 ch) (bch : bd ch 80 0 126) (hty : 0 ≤ ty ∧ ty ≤ 80) (hx0 : 0 ≤ x ∧ x < 65536) : zM l y_M_type ws_M_type rm_M_type E [.ref (ad E g), .int (iI x)] w0 (zQi E w0 (fun z w' => (∃ (t' : Int) (c' : Int → Int), w' g = .inr (6, [.ref (ad E (g + 1)), .ref (ad E (g + 2)), .ref (ad E (g + 3)), .ref (ad E (g + 4)), .int (iI t'), .ref (ad E (g + 5)), .ref (ad E (g + 6)), .ref (ad E (g + 7)), .ref (ad E (g + 8)), .ref (ad E (g + 9)), .ref (ad E (g + 10)), .int (iI xm), .int (iI ym), .ref (ad E (g + 11)), .int (iI ne), .ref (ad E (g + 12)), .ref (ad E (g + 13))]) ∧ w' (g + 5) = zar E 80 c' ∧ bd c' 80 0 126 ∧ ((z = 0 ∧ (ty = 80 ∨ x < 32 ∨ 126 < x) ∧ t' = ty ∧ c' = ch) ∨ (z = 1 ∧ ty < 80 ∧ 32 ≤ x ∧ x ≤ 126 ∧ t' = ty + 1 ∧ c' = up ch ty x))) ∧ ∀ k, k ≠ g → k ≠ (g + 5) → w' k = w0 k)) := by
  refine z_met (cc := b_M_type) (maxL := 2) (ret := (some .boolean)) (by decide +kernel) rfl (Nat.le_of_ble_eq_true rfl) ?_
  intro p e s m below meth cd ls a Qf hQ hC hl hH
  obtain ⟨hF, hr, hlk, hK, hG, hn⟩ := hC
  obtain ⟨hx, hb, hml, hown, hts⟩ := hF
  have hg : ∀ w ∈ GW, w.before a s = true := fun w h => hts w (List.mem_cons_of_mem _ h)
  have hA : ∀ q, s.heap.size ≤ q → va_A (wl E w0) s.heap.size q := fun q h => Or.inr h
  have hl : lv_has ls 2 [(0, .ref (ad E g)), (1, .int (iI x))] := hl
  refine lv_aload_n hx hb d_M_type_0 rfl (lv_at hl 0 rfl) ?_
  refine zv_get (C := "ScaledNumeralDeskModel") (T := TM) (N := 17) hx hb hg uM_in hown hK hH q0lt c0 rfl 4 (by decide) (hg _ wm_686) (fun _ h9 => h9) rfl d_M_type_1 ?_
  refine zv_bipush hx hb d_M_type_4 rfl ?_
  refine zv_icmp_eq (tgt := 21) hx hb d_M_type_6 rfl (by omega) (by omega) (fun h1 => ?_) (fun h1 => ?_)
  · refine zv_iconst hx hb d_M_type_21 ?_
    rw [hQ]
    exact z_zret hx hb hr hlk hH (⟨⟨ty, ch, c0, c1, bch, Or.inl ⟨rfl, by omega, rfl, rfl⟩⟩, (fun k _ _ => rfl)⟩) (by exact nar_z (by omega)) d_M_type_22
  · refine lv_iload_n hx hb d_M_type_9 rfl (lv_at hl 1 rfl) ?_
    refine zv_bipush hx hb d_M_type_10 rfl ?_
    refine zv_icmp_lt (tgt := 21) hx hb d_M_type_12 rfl (by omega) (by omega) (fun h2 => ?_) (fun h2 => ?_)
    · refine zv_iconst hx hb d_M_type_21 ?_
      rw [hQ]
      exact z_zret hx hb hr hlk hH (⟨⟨ty, ch, c0, c1, bch, Or.inl ⟨rfl, by omega, rfl, rfl⟩⟩, (fun k _ _ => rfl)⟩) (by exact nar_z (by omega)) d_M_type_22
    · refine lv_iload_n hx hb d_M_type_15 rfl (lv_at hl 1 rfl) ?_
      refine zv_bipush hx hb d_M_type_16 rfl ?_
      refine zv_icmp_le (tgt := 23) hx hb d_M_type_18 rfl (by omega) (by omega) (fun h3 => ?_) (fun h3 => ?_)
      · refine lv_aload_n hx hb d_M_type_23 rfl (lv_at hl 0 rfl) ?_
        refine zv_get (C := "ScaledNumeralDeskModel") (T := TM) (N := 17) hx hb hg uM_in hown hK hH q0lt c0 rfl 5 (by decide) (hg _ wm_687) (fun _ h9 => h9) rfl d_M_type_24 ?_
        refine lv_aload_n hx hb d_M_type_27 rfl (lv_at hl 0 rfl) ?_
        refine zv_get (C := "ScaledNumeralDeskModel") (T := TM) (N := 17) hx hb hg uM_in hown hK hH q0lt c0 rfl 4 (by decide) (hg _ wm_686) (fun _ h9 => h9) rfl d_M_type_28 ?_
        refine lv_iload_n hx hb d_M_type_31 rfl (lv_at hl 1 rfl) ?_
        refine zv_iast hx hb hK hH q1lt c1 (by omega) (by omega) (by omega) d_M_type_32 (fun H5 lc6 w4 hH7 e8 hg9 => ?_)
        have bd10 := bd_up bch ty x (by omega)
        have e11 : w4 g = .inr (6, [.ref (ad E (g + 1)), .ref (ad E (g + 2)), .ref (ad E (g + 3)), .ref (ad E (g + 4)), .int (iI ty), .ref (ad E (g + 5)), .ref (ad E (g + 6)), .ref (ad E (g + 7)), .ref (ad E (g + 8)), .ref (ad E (g + 9)), .ref (ad E (g + 10)), .int (iI xm), .int (iI ym), .ref (ad E (g + 11)), .int (iI ne), .ref (ad E (g + 12)), .ref (ad E (g + 13))]) := (hg9 g (nx_M_type_0 )).trans c0
        have hf12 : ∀ k, k ≠ (g + 5) → w4 k = w0 k := fun k g0 => hg9 k g0
        refine lv_aload_n hx hb d_M_type_33 rfl (lv_at hl 0 rfl) ?_
        refine lv_dup hx hb d_M_type_34 rfl ?_
        refine zv_get (C := "ScaledNumeralDeskModel") (T := TM) (N := 17) hx hb hg uM_in hown hK hH7 q0lt e11 rfl 4 (by decide) (hg _ wm_686) (fun _ h9 => h9) rfl d_M_type_35 ?_
        refine zv_iconst hx hb d_M_type_38 ?_
        refine zv_iadd hx hb d_M_type_39 ?_
        refine zv_put (C := "ScaledNumeralDeskModel") (T := TM) (N := 17) (fs' := [.ref (ad E (g + 1)), .ref (ad E (g + 2)), .ref (ad E (g + 3)), .ref (ad E (g + 4)), .int (iI (ty + 1)), .ref (ad E (g + 5)), .ref (ad E (g + 6)), .ref (ad E (g + 7)), .ref (ad E (g + 8)), .ref (ad E (g + 9)), .ref (ad E (g + 10)), .int (iI xm), .int (iI ym), .ref (ad E (g + 11)), .int (iI ne), .ref (ad E (g + 12)), .ref (ad E (g + 13))]) hx hb hg uM_in tyM tyM_ok nmM hown hK hH7 q0lt e11 rfl 4 (by decide) (hg _ wm_686) (fun _ h9 => h9) rfl (ty := tyM 4) (by decide +kernel) (rfl) (by rfl) (Nat.le_of_ble_eq_true rfl) d_M_type_40 rfl (fun H14 lc15 w13 hH16 e17 hg18 => ?_)
        have e19 : w13 (g + 5) = zar E 80 (up ch ty x) := (hg18 (g + 5) (nx_M_type_1 )).trans e8
        have hf20 : ∀ k, k ≠ (g + 5) → k ≠ g → w13 k = w0 k := fun k g0 g1 => (hg18 k g1).trans (hf12 k g0)
        refine zv_iconst hx hb d_M_type_43 ?_
        rw [hQ]
        exact z_zret hx hb hr hlk hH16 (⟨⟨(ty + 1), (up ch ty x), e17, e19, bd10, Or.inr ⟨rfl, by omega, by omega, by omega, rfl, rfl⟩⟩, (fun k g0 g1 => hf20 k g1 g0)⟩) (by exact nar_z (by omega)) d_M_type_44
      · refine zv_iconst hx hb d_M_type_21 ?_
        rw [hQ]
        exact z_zret hx hb hr hlk hH (⟨⟨ty, ch, c0, c1, bch, Or.inl ⟨rfl, by omega, rfl, rfl⟩⟩, (fun k _ _ => rfl)⟩) (by exact nar_z (by omega)) d_M_type_22
def rm_M_isLetter : Room := { frames := 0, cells := 0, slots := 0, locals := 0 }
set_option maxHeartbeats 4000000 in
set_option maxRecDepth 100000 in
theorem c_M_isLetter (l : Launch) (E : zE) (w0 : zW) (g : Nat) (ty xm ym ne : Int) (ch : Int → Int) (i sm : Int) (q0lt : g < zn E) (q1lt : g + 5 < zn E) (c0 : w0 g = .inr (6, [.ref (ad E (g + 1)), .ref (ad E (g + 2)), .ref (ad E (g + 3)), .ref (ad E (g + 4)), .int (iI ty), .ref (ad E (g + 5)), .ref (ad E (g + 6)), .ref (ad E (g + 7)), .ref (ad E (g + 8)), .ref (ad E (g + 9)), .ref (ad E (g + 10)), .int (iI xm), .int (iI ym), .ref (ad E (g + 11)), .int (iI ne), .ref (ad E (g + 12)), .ref (ad E (g + 13))])) (c1 : w0 (g + 5) = zar E 80 ch) (bch : bd ch 80 0 126) (hty : 0 ≤ ty ∧ ty ≤ 80) (hi0 : 0 ≤ i ∧ i < 1000) (hsm : 97 ≤ sm ∧ sm ≤ 122) : zM l y_M_isLetter ws_M_isLetter rm_M_isLetter E [.ref (ad E g), .int (iI i), .int (iI sm)] w0 (zQi E w0 (fun z w' => w' = w0 ∧ ((z = 1 ∧ i < ty ∧ lw (ch i) = sm) ∨ (z = 0 ∧ ¬ (i < ty ∧ lw (ch i) = sm))))) := by
  refine z_met (cc := b_M_isLetter) (maxL := 3) (ret := (some .boolean)) (by decide +kernel) rfl (Nat.le_of_ble_eq_true rfl) ?_
  intro p e s m below meth cd ls a Qf hQ hC hl hH
  obtain ⟨hF, hr, hlk, hK, hG, hn⟩ := hC
  obtain ⟨hx, hb, hml, hown, hts⟩ := hF
  have hg : ∀ w ∈ GW, w.before a s = true := fun w h => hts w (List.mem_cons_of_mem _ h)
  have hA : ∀ q, s.heap.size ≤ q → va_A (wl E w0) s.heap.size q := fun q h => Or.inr h
  have hl : lv_has ls 3 [(0, .ref (ad E g)), (1, .int (iI i)), (2, .int (iI sm))] := hl
  refine lv_iload_n hx hb d_M_isLetter_0 rfl (lv_at hl 1 rfl) ?_
  refine lv_aload_n hx hb d_M_isLetter_1 rfl (lv_at hl 0 rfl) ?_
  refine zv_get (C := "ScaledNumeralDeskModel") (T := TM) (N := 17) hx hb hg uM_in hown hK hH q0lt c0 rfl 4 (by decide) (hg _ wm_686) (fun _ h9 => h9) rfl d_M_isLetter_2 ?_
  refine zv_icmp_ge (tgt := 25) hx hb d_M_isLetter_5 rfl (by omega) (by omega) (fun h1 => ?_) (fun h1 => ?_)
  · refine zv_iconst hx hb d_M_isLetter_25 ?_
    rw [hQ]
    exact z_zret hx hb hr hlk hH (⟨rfl, by omega⟩) (by exact nar_z (by omega)) d_M_isLetter_26
  · refine lv_aload_n hx hb d_M_isLetter_8 rfl (lv_at hl 0 rfl) ?_
    refine zv_get (C := "ScaledNumeralDeskModel") (T := TM) (N := 17) hx hb hg uM_in hown hK hH q0lt c0 rfl 5 (by decide) (hg _ wm_687) (fun _ h9 => h9) rfl d_M_isLetter_9 ?_
    refine lv_iload_n hx hb d_M_isLetter_12 rfl (lv_at hl 1 rfl) ?_
    refine zv_iald hx hb hK hH q1lt c1 (by omega) (by omega) (by omega) d_M_isLetter_13 ?_
    have b2 := bch i (by omega) (by omega)
    refine zv_bipush hx hb d_M_isLetter_14 rfl ?_
    have bci := bch i (by omega) (by omega)
    have o32 := or32_in (x := ch i) (by omega)
    have olw := or32_lw (x := ch i) (by omega) hsm
    refine zv_ior32 hx hb (by omega) d_M_isLetter_16 ?_
    refine lv_iload_n hx hb d_M_isLetter_17 rfl (lv_at hl 2 rfl) ?_
    refine zv_icmp_ne (tgt := 25) hx hb d_M_isLetter_18 rfl (by omega) (by omega) (fun h3 => ?_) (fun h3 => ?_)
    · refine zv_iconst hx hb d_M_isLetter_25 ?_
      rw [hQ]
      exact z_zret hx hb hr hlk hH (⟨rfl, by omega⟩) (by exact nar_z (by omega)) d_M_isLetter_26
    · refine zv_iconst hx hb d_M_isLetter_21 ?_
      refine lv_goto (tgt := 26) hx hb d_M_isLetter_22 rfl ?_
      rw [hQ]
      exact z_zret hx hb hr hlk hH (⟨rfl, by omega⟩) (by exact nar_z (by omega)) d_M_isLetter_26
def rm_M_isSign : Room := { frames := 0, cells := 0, slots := 0, locals := 0 }
set_option maxHeartbeats 4000000 in
set_option maxRecDepth 100000 in
theorem c_M_isSign (l : Launch) (E : zE) (w0 : zW) (g : Nat) (ty xm ym ne : Int) (ch : Int → Int) (i : Int) (q0lt : g < zn E) (q1lt : g + 5 < zn E) (c0 : w0 g = .inr (6, [.ref (ad E (g + 1)), .ref (ad E (g + 2)), .ref (ad E (g + 3)), .ref (ad E (g + 4)), .int (iI ty), .ref (ad E (g + 5)), .ref (ad E (g + 6)), .ref (ad E (g + 7)), .ref (ad E (g + 8)), .ref (ad E (g + 9)), .ref (ad E (g + 10)), .int (iI xm), .int (iI ym), .ref (ad E (g + 11)), .int (iI ne), .ref (ad E (g + 12)), .ref (ad E (g + 13))])) (c1 : w0 (g + 5) = zar E 80 ch) (bch : bd ch 80 0 126) (hty : 0 ≤ ty ∧ ty ≤ 80) (hi0 : 0 ≤ i ∧ i < 1000) : zM l y_M_isSign ws_M_isSign rm_M_isSign E [.ref (ad E g), .int (iI i)] w0 (zQi E w0 (fun z w' => w' = w0 ∧ ((z = 1 ∧ i < ty ∧ (ch i = 43 ∨ ch i = 45)) ∨ (z = 0 ∧ ¬ (i < ty ∧ (ch i = 43 ∨ ch i = 45)))))) := by
  refine z_met (cc := b_M_isSign) (maxL := 2) (ret := (some .boolean)) (by decide +kernel) rfl (Nat.le_of_ble_eq_true rfl) ?_
  intro p e s m below meth cd ls a Qf hQ hC hl hH
  obtain ⟨hF, hr, hlk, hK, hG, hn⟩ := hC
  obtain ⟨hx, hb, hml, hown, hts⟩ := hF
  have hg : ∀ w ∈ GW, w.before a s = true := fun w h => hts w (List.mem_cons_of_mem _ h)
  have hA : ∀ q, s.heap.size ≤ q → va_A (wl E w0) s.heap.size q := fun q h => Or.inr h
  have hl : lv_has ls 2 [(0, .ref (ad E g)), (1, .int (iI i))] := hl
  refine lv_iload_n hx hb d_M_isSign_0 rfl (lv_at hl 1 rfl) ?_
  refine lv_aload_n hx hb d_M_isSign_1 rfl (lv_at hl 0 rfl) ?_
  refine zv_get (C := "ScaledNumeralDeskModel") (T := TM) (N := 17) hx hb hg uM_in hown hK hH q0lt c0 rfl 4 (by decide) (hg _ wm_686) (fun _ h9 => h9) rfl d_M_isSign_2 ?_
  refine zv_icmp_ge (tgt := 34) hx hb d_M_isSign_5 rfl (by omega) (by omega) (fun h1 => ?_) (fun h1 => ?_)
  · refine zv_iconst hx hb d_M_isSign_34 ?_
    rw [hQ]
    exact z_zret hx hb hr hlk hH (⟨rfl, by omega⟩) (by exact nar_z (by omega)) d_M_isSign_35
  · refine lv_aload_n hx hb d_M_isSign_8 rfl (lv_at hl 0 rfl) ?_
    refine zv_get (C := "ScaledNumeralDeskModel") (T := TM) (N := 17) hx hb hg uM_in hown hK hH q0lt c0 rfl 5 (by decide) (hg _ wm_687) (fun _ h9 => h9) rfl d_M_isSign_9 ?_
    refine lv_iload_n hx hb d_M_isSign_12 rfl (lv_at hl 1 rfl) ?_
    refine zv_iald hx hb hK hH q1lt c1 (by omega) (by omega) (by omega) d_M_isSign_13 ?_
    have b2 := bch i (by omega) (by omega)
    refine zv_bipush hx hb d_M_isSign_14 rfl ?_
    refine zv_icmp_eq (tgt := 30) hx hb d_M_isSign_16 rfl (by omega) (by omega) (fun h3 => ?_) (fun h3 => ?_)
    · refine zv_iconst hx hb d_M_isSign_30 ?_
      refine lv_goto (tgt := 35) hx hb d_M_isSign_31 rfl ?_
      rw [hQ]
      exact z_zret hx hb hr hlk hH (⟨rfl, by omega⟩) (by exact nar_z (by omega)) d_M_isSign_35
    · refine lv_aload_n hx hb d_M_isSign_19 rfl (lv_at hl 0 rfl) ?_
      refine zv_get (C := "ScaledNumeralDeskModel") (T := TM) (N := 17) hx hb hg uM_in hown hK hH q0lt c0 rfl 5 (by decide) (hg _ wm_687) (fun _ h9 => h9) rfl d_M_isSign_20 ?_
      refine lv_iload_n hx hb d_M_isSign_23 rfl (lv_at hl 1 rfl) ?_
      refine zv_iald hx hb hK hH q1lt c1 (by omega) (by omega) (by omega) d_M_isSign_24 ?_
      have b4 := bch i (by omega) (by omega)
      refine zv_bipush hx hb d_M_isSign_25 rfl ?_
      refine zv_icmp_ne (tgt := 34) hx hb d_M_isSign_27 rfl (by omega) (by omega) (fun h5 => ?_) (fun h5 => ?_)
      · refine zv_iconst hx hb d_M_isSign_34 ?_
        rw [hQ]
        exact z_zret hx hb hr hlk hH (⟨rfl, by omega⟩) (by exact nar_z (by omega)) d_M_isSign_35
      · refine zv_iconst hx hb d_M_isSign_30 ?_
        refine lv_goto (tgt := 35) hx hb d_M_isSign_31 rfl ?_
        rw [hQ]
        exact z_zret hx hb hr hlk hH (⟨rfl, by omega⟩) (by exact nar_z (by omega)) d_M_isSign_35
def rm_M_isDigit : Room := { frames := 0, cells := 0, slots := 0, locals := 0 }
set_option maxHeartbeats 4000000 in
set_option maxRecDepth 100000 in
theorem c_M_isDigit (l : Launch) (E : zE) (w0 : zW) (g : Nat) (ty xm ym ne : Int) (ch : Int → Int) (i : Int) (q0lt : g < zn E) (q1lt : g + 5 < zn E) (c0 : w0 g = .inr (6, [.ref (ad E (g + 1)), .ref (ad E (g + 2)), .ref (ad E (g + 3)), .ref (ad E (g + 4)), .int (iI ty), .ref (ad E (g + 5)), .ref (ad E (g + 6)), .ref (ad E (g + 7)), .ref (ad E (g + 8)), .ref (ad E (g + 9)), .ref (ad E (g + 10)), .int (iI xm), .int (iI ym), .ref (ad E (g + 11)), .int (iI ne), .ref (ad E (g + 12)), .ref (ad E (g + 13))])) (c1 : w0 (g + 5) = zar E 80 ch) (bch : bd ch 80 0 126) (hty : 0 ≤ ty ∧ ty ≤ 80) (hi0 : 0 ≤ i ∧ i < 1000) : zM l y_M_isDigit ws_M_isDigit rm_M_isDigit E [.ref (ad E g), .int (iI i)] w0 (zQi E w0 (fun z w' => w' = w0 ∧ ((z = 1 ∧ i < ty ∧ 48 ≤ ch i ∧ ch i ≤ 57) ∨ (z = 0 ∧ ¬ (i < ty ∧ 48 ≤ ch i ∧ ch i ≤ 57))))) := by
  refine z_met (cc := b_M_isDigit) (maxL := 2) (ret := (some .boolean)) (by decide +kernel) rfl (Nat.le_of_ble_eq_true rfl) ?_
  intro p e s m below meth cd ls a Qf hQ hC hl hH
  obtain ⟨hF, hr, hlk, hK, hG, hn⟩ := hC
  obtain ⟨hx, hb, hml, hown, hts⟩ := hF
  have hg : ∀ w ∈ GW, w.before a s = true := fun w h => hts w (List.mem_cons_of_mem _ h)
  have hA : ∀ q, s.heap.size ≤ q → va_A (wl E w0) s.heap.size q := fun q h => Or.inr h
  have hl : lv_has ls 2 [(0, .ref (ad E g)), (1, .int (iI i))] := hl
  refine lv_iload_n hx hb d_M_isDigit_0 rfl (lv_at hl 1 rfl) ?_
  refine lv_aload_n hx hb d_M_isDigit_1 rfl (lv_at hl 0 rfl) ?_
  refine zv_get (C := "ScaledNumeralDeskModel") (T := TM) (N := 17) hx hb hg uM_in hown hK hH q0lt c0 rfl 4 (by decide) (hg _ wm_686) (fun _ h9 => h9) rfl d_M_isDigit_2 ?_
  refine zv_icmp_ge (tgt := 34) hx hb d_M_isDigit_5 rfl (by omega) (by omega) (fun h1 => ?_) (fun h1 => ?_)
  · refine zv_iconst hx hb d_M_isDigit_34 ?_
    rw [hQ]
    exact z_zret hx hb hr hlk hH (⟨rfl, by omega⟩) (by exact nar_z (by omega)) d_M_isDigit_35
  · refine lv_aload_n hx hb d_M_isDigit_8 rfl (lv_at hl 0 rfl) ?_
    refine zv_get (C := "ScaledNumeralDeskModel") (T := TM) (N := 17) hx hb hg uM_in hown hK hH q0lt c0 rfl 5 (by decide) (hg _ wm_687) (fun _ h9 => h9) rfl d_M_isDigit_9 ?_
    refine lv_iload_n hx hb d_M_isDigit_12 rfl (lv_at hl 1 rfl) ?_
    refine zv_iald hx hb hK hH q1lt c1 (by omega) (by omega) (by omega) d_M_isDigit_13 ?_
    have b2 := bch i (by omega) (by omega)
    refine zv_bipush hx hb d_M_isDigit_14 rfl ?_
    refine zv_icmp_lt (tgt := 34) hx hb d_M_isDigit_16 rfl (by omega) (by omega) (fun h3 => ?_) (fun h3 => ?_)
    · refine zv_iconst hx hb d_M_isDigit_34 ?_
      rw [hQ]
      exact z_zret hx hb hr hlk hH (⟨rfl, by omega⟩) (by exact nar_z (by omega)) d_M_isDigit_35
    · refine lv_aload_n hx hb d_M_isDigit_19 rfl (lv_at hl 0 rfl) ?_
      refine zv_get (C := "ScaledNumeralDeskModel") (T := TM) (N := 17) hx hb hg uM_in hown hK hH q0lt c0 rfl 5 (by decide) (hg _ wm_687) (fun _ h9 => h9) rfl d_M_isDigit_20 ?_
      refine lv_iload_n hx hb d_M_isDigit_23 rfl (lv_at hl 1 rfl) ?_
      refine zv_iald hx hb hK hH q1lt c1 (by omega) (by omega) (by omega) d_M_isDigit_24 ?_
      have b4 := bch i (by omega) (by omega)
      refine zv_bipush hx hb d_M_isDigit_25 rfl ?_
      refine zv_icmp_gt (tgt := 34) hx hb d_M_isDigit_27 rfl (by omega) (by omega) (fun h5 => ?_) (fun h5 => ?_)
      · refine zv_iconst hx hb d_M_isDigit_34 ?_
        rw [hQ]
        exact z_zret hx hb hr hlk hH (⟨rfl, by omega⟩) (by exact nar_z (by omega)) d_M_isDigit_35
      · refine zv_iconst hx hb d_M_isDigit_30 ?_
        refine lv_goto (tgt := 35) hx hb d_M_isDigit_31 rfl ?_
        rw [hQ]
        exact z_zret hx hb hr hlk hH (⟨rfl, by omega⟩) (by exact nar_z (by omega)) d_M_isDigit_35
def rm_M_letter : Room := { frames := 0, cells := 0, slots := 0, locals := 0 }
set_option maxHeartbeats 4000000 in
set_option maxRecDepth 100000 in
theorem c_M_letter (l : Launch) (E : zE) (w0 : zW) (g : Nat) (ty xm ym ne : Int) (k : Int) (q0lt : g < zn E) (c0 : w0 g = .inr (6, [.ref (ad E (g + 1)), .ref (ad E (g + 2)), .ref (ad E (g + 3)), .ref (ad E (g + 4)), .int (iI ty), .ref (ad E (g + 5)), .ref (ad E (g + 6)), .ref (ad E (g + 7)), .ref (ad E (g + 8)), .ref (ad E (g + 9)), .ref (ad E (g + 10)), .int (iI xm), .int (iI ym), .ref (ad E (g + 11)), .int (iI ne), .ref (ad E (g + 12)), .ref (ad E (g + 13))])) (hk7 : 0 ≤ k ∧ k ≤ 7) : zM l y_M_letter ws_M_letter rm_M_letter E [.ref (ad E g), .int (iI k)] w0 (zQi E w0 (fun z w' => w' = w0 ∧ (z = chZ 5 k ∧ 97 ≤ z ∧ z ≤ 122))) := by
  refine z_met (cc := b_M_letter) (maxL := 2) (ret := (some .int)) (by decide +kernel) rfl (Nat.le_of_ble_eq_true rfl) ?_
  intro p e s m below meth cd ls a Qf hQ hC hl hH
  obtain ⟨hF, hr, hlk, hK, hG, hn⟩ := hC
  obtain ⟨hx, hb, hml, hown, hts⟩ := hF
  have hg : ∀ w ∈ GW, w.before a s = true := fun w h => hts w (List.mem_cons_of_mem _ h)
  have hA : ∀ q, s.heap.size ≤ q → va_A (wl E w0) s.heap.size q := fun q h => Or.inr h
  have hl : lv_has ls 2 [(0, .ref (ad E g)), (1, .int (iI k))] := hl
  refine lv_iload_n hx hb d_M_letter_0 rfl (lv_at hl 1 rfl) ?_
  rcases (show k = 0 ∨ k = 1 ∨ k = 2 ∨ k = 3 ∨ k = 4 ∨ k = 5 ∨ k = 6 ∨ k = 7 by omega) with rfl | rfl | rfl | rfl | rfl | rfl | rfl | rfl
  · refine lv_tableIn (x := iI 0) (off := 43) (tgt := 44) hx hb d_M_letter_1 (by decide) (by decide) (by decide) (by decide) ?_
    refine zv_bipush hx hb d_M_letter_44 rfl ?_
    rw [hQ]
    exact z_iret hx hb hr hlk hH (⟨rfl, ⟨by decide, by decide, by decide⟩⟩) d_M_letter_46
  · refine lv_tableIn (x := iI 1) (off := 46) (tgt := 47) hx hb d_M_letter_1 (by decide) (by decide) (by decide) (by decide) ?_
    refine zv_bipush hx hb d_M_letter_47 rfl ?_
    rw [hQ]
    exact z_iret hx hb hr hlk hH (⟨rfl, ⟨by decide, by decide, by decide⟩⟩) d_M_letter_49
  · refine lv_tableIn (x := iI 2) (off := 49) (tgt := 50) hx hb d_M_letter_1 (by decide) (by decide) (by decide) (by decide) ?_
    refine zv_bipush hx hb d_M_letter_50 rfl ?_
    rw [hQ]
    exact z_iret hx hb hr hlk hH (⟨rfl, ⟨by decide, by decide, by decide⟩⟩) d_M_letter_52
  · refine lv_tableIn (x := iI 3) (off := 43) (tgt := 44) hx hb d_M_letter_1 (by decide) (by decide) (by decide) (by decide) ?_
    refine zv_bipush hx hb d_M_letter_44 rfl ?_
    rw [hQ]
    exact z_iret hx hb hr hlk hH (⟨rfl, ⟨by decide, by decide, by decide⟩⟩) d_M_letter_46
  · refine lv_tableIn (x := iI 4) (off := 46) (tgt := 47) hx hb d_M_letter_1 (by decide) (by decide) (by decide) (by decide) ?_
    refine zv_bipush hx hb d_M_letter_47 rfl ?_
    rw [hQ]
    exact z_iret hx hb hr hlk hH (⟨rfl, ⟨by decide, by decide, by decide⟩⟩) d_M_letter_49
  · refine lv_tableIn (x := iI 5) (off := 43) (tgt := 44) hx hb d_M_letter_1 (by decide) (by decide) (by decide) (by decide) ?_
    refine zv_bipush hx hb d_M_letter_44 rfl ?_
    rw [hQ]
    exact z_iret hx hb hr hlk hH (⟨rfl, ⟨by decide, by decide, by decide⟩⟩) d_M_letter_46
  · refine lv_tableIn (x := iI 6) (off := 52) (tgt := 53) hx hb d_M_letter_1 (by decide) (by decide) (by decide) (by decide) ?_
    refine zv_bipush hx hb d_M_letter_53 rfl ?_
    rw [hQ]
    exact z_iret hx hb hr hlk hH (⟨rfl, ⟨by decide, by decide, by decide⟩⟩) d_M_letter_55
  · refine lv_tableOut (x := iI 7) (tgt := 56) hx hb d_M_letter_1 (by decide) (by decide) ?_
    refine zv_bipush hx hb d_M_letter_56 rfl ?_
    rw [hQ]
    exact z_iret hx hb hr hlk hH (⟨rfl, ⟨by decide, by decide, by decide⟩⟩) d_M_letter_58
def rm_M_infinity : Room := { frames := 1, cells := 0, slots := 0, locals := 22 }
set_option maxHeartbeats 4000000 in
set_option maxRecDepth 100000 in
theorem c_M_infinity (l : Launch) (E : zE) (w0 : zW) (g : Nat) (ty xm ym ne : Int) (ch : Int → Int) (i : Int) (q0lt : g < zn E) (q1lt : g + 5 < zn E) (c0 : w0 g = .inr (6, [.ref (ad E (g + 1)), .ref (ad E (g + 2)), .ref (ad E (g + 3)), .ref (ad E (g + 4)), .int (iI ty), .ref (ad E (g + 5)), .ref (ad E (g + 6)), .ref (ad E (g + 7)), .ref (ad E (g + 8)), .ref (ad E (g + 9)), .ref (ad E (g + 10)), .int (iI xm), .int (iI ym), .ref (ad E (g + 11)), .int (iI ne), .ref (ad E (g + 12)), .ref (ad E (g + 13))])) (c1 : w0 (g + 5) = zar E 80 ch) (bch : bd ch 80 0 126) (hty : 0 ≤ ty ∧ ty ≤ 80) (hi0 : 0 ≤ i ∧ i ≤ ty ∧ i ≤ 1) : zM l y_M_infinity ws_M_infinity rm_M_infinity E [.ref (ad E g), .int (iI i)] w0 (zQi E w0 (fun z w' => w' = w0 ∧ ((z = 1 ∧ (WdR ch ty i 5 ∨ WdR ch ty i 6)) ∨ (z = 0 ∧ ¬ (WdR ch ty i 5 ∨ WdR ch ty i 6))))) := by
  refine z_met (cc := b_M_infinity) (maxL := 5) (ret := (some .boolean)) (by decide +kernel) rfl (Nat.le_of_ble_eq_true rfl) ?_
  intro p e s m below meth cd ls a Qf hQ hC hl hH
  obtain ⟨hF, hr, hlk, hK, hG, hn⟩ := hC
  obtain ⟨hx, hb, hml, hown, hts⟩ := hF
  have hg : ∀ w ∈ GW, w.before a s = true := fun w h => hts w (List.mem_cons_of_mem _ h)
  have hA : ∀ q, s.heap.size ≤ q → va_A (wl E w0) s.heap.size q := fun q h => Or.inr h
  have hl : lv_has ls 5 [(0, .ref (ad E g)), (1, .int (iI i))] := hl
  refine lv_aload_n hx hb d_M_infinity_0 rfl (lv_at hl 0 rfl) ?_
  refine zv_get (C := "ScaledNumeralDeskModel") (T := TM) (N := 17) hx hb hg uM_in hown hK hH q0lt c0 rfl 4 (by decide) (hg _ wm_686) (fun _ h9 => h9) rfl d_M_infinity_1 ?_
  refine lv_iload_n hx hb d_M_infinity_4 rfl (lv_at hl 1 rfl) ?_
  refine zv_isub hx hb d_M_infinity_5 ?_
  refine lv_istore_n (lv' := [(2, .int (iI (ty - i))), (0, .ref (ad E g)), (1, .int (iI i))]) hx hb d_M_infinity_6 rfl hl (by decide) rfl (fun ls hl => ?_)
  have L23 : ∀ (ok : Int) (ls : Array Slot) (H1 : Heap) (lc2 : List Loc), (lv_has ls 5 [(2, .int (iI (ty - i))), (0, .ref (ad E g)), (1, .int (iI i))]) → (zH E w0 (va_A (wl E w0) s.heap.size) s.heap H1 lc2) → ((ok = 1 ∧ (ty - i = 3 ∨ ty - i = 8)) ∨ (ok = 0 ∧ ¬ (ty - i = 3 ∨ ty - i = 8))) → W p l e rm_M_infinity s m a below meth cd H1 lc2 0 0 Qf (F0 m 23 ls [.int (iI ok)]) := by
    intro ok ls H1 lc2 hl hH hok
    refine lv_istore_n (lv' := [(3, .int (iI ok)), (2, .int (iI (ty - i))), (0, .ref (ad E g)), (1, .int (iI i))]) hx hb d_M_infinity_23 rfl hl (by decide) rfl (fun ls hl => ?_)
    refine zv_iconst hx hb d_M_infinity_24 ?_
    refine lv_istore (lv' := [(4, .int (iI 0)), (3, .int (iI ok)), (2, .int (iI (ty - i))), (0, .ref (ad E g)), (1, .int (iI i))]) hx hb d_M_infinity_25 hl (by decide) rfl (fun ls hl => ?_)
    have L27 : ∀ (fu : Nat) (k : Int) (o2 : Int) (ls : Array Slot) (H3 : Heap) (lc4 : List Loc), (lv_has ls 5 [(4, .int (iI k)), (3, .int (iI o2)), (2, .int (iI (ty - i))), (0, .ref (ad E g)), (1, .int (iI i))]) → (zH E w0 (va_A (wl E w0) s.heap.size) s.heap H3 lc4) → (0 ≤ k ∧ (k ≤ ty - i ∨ k = 0)) → ((o2 = 1 ∧ (ty - i = 3 ∨ ty - i = 8) ∧ ∀ j : Int, 0 ≤ j → j < k → lw (ch (i + j)) = chZ 5 j) ∨ (o2 = 0 ∧ ¬ (WdR ch ty i 5 ∨ WdR ch ty i 6))) → (ty - i - k < (fu : Int)) → W p l e rm_M_infinity s m a below meth cd H3 lc4 0 0 Qf (F0 m 27 ls []) := by
      intro fu
      induction fu with
      | zero => intro k o2 ls H3 lc4 hl hH hk ho hm; exact absurd hm (by omega)
      | succ fu ih =>
        intro k o2 ls H3 lc4 hl hH hk ho hm
        refine lv_iload hx hb d_M_infinity_27 (lv_at hl 0 rfl) ?_
        refine lv_iload_n hx hb d_M_infinity_29 rfl (lv_at hl 2 rfl) ?_
        refine zv_icmp_ge (tgt := 58) hx hb d_M_infinity_30 rfl (by omega) (by omega) (fun h5 => ?_) (fun h5 => ?_)
        · refine lv_iload_n hx hb d_M_infinity_58 rfl (lv_at hl 1 rfl) ?_
          rw [hQ]
          exact z_zret hx hb hr hlk hH (⟨rfl, by rcases ho with h8 | h8; exact Or.inl ⟨h8.1, wd_5 h8.2.1 (fun j g1 g2 => h8.2.2 j g1 (by omega))⟩; exact Or.inr h8⟩) (by exact nar_z (by omega)) d_M_infinity_59
        · refine lv_iload_n hx hb d_M_infinity_33 rfl (lv_at hl 1 rfl) ?_
          refine zv_if_eq (tgt := 58) hx hb d_M_infinity_34 rfl (by omega) (fun h6 => ?_) (fun h6 => ?_)
          · refine lv_iload_n hx hb d_M_infinity_58 rfl (lv_at hl 1 rfl) ?_
            rw [hQ]
            exact z_zret hx hb hr hlk hH (⟨rfl, by rcases ho with h8 | h8; exact Or.inl ⟨h8.1, wd_5 h8.2.1 (fun j g1 g2 => h8.2.2 j g1 (by omega))⟩; exact Or.inr h8⟩) (by exact nar_z (by omega)) d_M_infinity_59
          · have h38 : ty - i = 3 ∨ ty - i = 8 := by rcases ho with h8 | h8; exact h8.2.1; exact absurd h8.1 (by omega)
            refine lv_aload_n hx hb d_M_infinity_37 rfl (lv_at hl 3 rfl) ?_
            refine lv_iload_n hx hb d_M_infinity_38 rfl (lv_at hl 4 rfl) ?_
            refine lv_iload hx hb d_M_infinity_39 (lv_at hl 0 rfl) ?_
            refine zv_iadd hx hb d_M_infinity_41 ?_
            refine lv_aload_n hx hb d_M_infinity_42 rfl (lv_at hl 3 rfl) ?_
            refine lv_iload hx hb d_M_infinity_43 (lv_at hl 0 rfl) ?_
            refine z_calli (va_runV (As := [.int (iI k)]) (rest := [.int (iI (i + k)), .ref (ad E g)]) ⟨hx, hb, hml, hown, hts⟩ (c_M_letter (l := l) (E := E) (w0 := w0) (g := g) (ty := ty) (xm := xm) (ym := ym) (ne := ne) (k := k) (q0lt := q0lt) (c0 := c0) (hk7 := by omega) H3.size) (z_cwV (C := "ScaledNumeralDeskModel") 1 hg wm_766 wm_763 wm_9 wm_765 wm_s34 (by decide +kernel) ⟨Nat.le_of_ble_eq_true rfl, Nat.le_of_ble_eq_true rfl⟩) (z_preV (r := ("ScaledNumeralDeskModel", TM, 17)) hK hG hn hH hA q0lt c0 rfl) rfl rfl hl.1 rfl (lv_room (Nat.le_of_ble_eq_true rfl)) d_M_infinity_45 ⟨Nat.zero_le _, Nat.zero_le _⟩) hH hA (fun l45 w9 H7 lc8 hH10 p45 => ?_)
            obtain ⟨ew11, p45⟩ := p45
            rw [ew11] at hH10
            replace p45 : l45 = chZ 5 k ∧ 97 ≤ l45 ∧ l45 ≤ 122 := p45
            refine z_calli (va_runV (As := [.int (iI (i + k)), .int (iI l45)]) (rest := []) ⟨hx, hb, hml, hown, hts⟩ (c_M_isLetter (l := l) (E := E) (w0 := w0) (g := g) (ty := ty) (xm := xm) (ym := ym) (ne := ne) (ch := ch) (i := i + k) (sm := l45) (q0lt := q0lt) (q1lt := q1lt) (c0 := c0) (c1 := c1) (bch := bch) (hty := by omega) (hi0 := by omega) (hsm := by omega) H7.size) (z_cwV (C := "ScaledNumeralDeskModel") 2 hg wm_750 wm_747 wm_9 wm_749 wm_s30 (by decide +kernel) ⟨Nat.le_of_ble_eq_true rfl, Nat.le_of_ble_eq_true rfl⟩) (z_preV (r := ("ScaledNumeralDeskModel", TM, 17)) hK hG hn hH10 hA q0lt c0 rfl) rfl rfl hl.1 rfl (lv_room (Nat.le_of_ble_eq_true rfl)) d_M_infinity_48 ⟨Nat.zero_le _, Nat.zero_le _⟩) hH10 hA (fun o48 w14 H12 lc13 hH15 p48 => ?_)
            obtain ⟨ew16, p48⟩ := p48
            rw [ew16] at hH15
            replace p48 : (o48 = 1 ∧ (i + k) < ty ∧ lw (ch (i + k)) = l45) ∨ (o48 = 0 ∧ ¬ ((i + k) < ty ∧ lw (ch (i + k)) = l45)) := p48
            have ho9 : (o48 = 1 ∧ (ty - i = 3 ∨ ty - i = 8) ∧ ∀ j : Int, 0 ≤ j → j < k + 1 → lw (ch (i + j)) = chZ 5 j) ∨ (o48 = 0 ∧ ¬ (WdR ch ty i 5 ∨ WdR ch ty i 6)) := by
              rcases ho with h8 | h8
              · rcases p48 with h7 | h7
                · refine Or.inl ⟨h7.1, h8.2.1, fun j g1 g2 => ?_⟩
                  by_cases e8 : j = k
                  · rw [e8, h7.2.2]; exact p45.1
                  · exact h8.2.2 j g1 (by omega)
                · exact Or.inr ⟨h7.1, wd_n (k := k) ⟨by omega, by omega⟩ (fun hh => h7.2 ⟨by omega, by rw [hh]; exact p45.1.symm⟩)⟩
              · exact absurd h8.1 (by omega)
            refine lv_istore_n (lv' := [(3, .int (iI o48)), (4, .int (iI k)), (2, .int (iI (ty - i))), (0, .ref (ad E g)), (1, .int (iI i))]) hx hb d_M_infinity_51 rfl hl (by decide) rfl (fun ls hl => ?_)
            refine zv_iinc (k := 1) (lv' := [(4, .int (iI (k + 1))), (3, .int (iI o48)), (2, .int (iI (ty - i))), (0, .ref (ad E g)), (1, .int (iI i))]) hx hb d_M_infinity_52 hl rfl (by decide) rfl (fun ls hl => ?_)
            refine lv_goto (tgt := 27) hx hb d_M_infinity_55 rfl ?_
            exact ih  (k + 1) o48 _ H12 lc13 (lv_sub hl [0, 1, 2, 3, 4] rfl) hH15 (by omega) (by exact ho9) (by omega)
    exact L27 ((ty - i - 0 : Int).toNat + 1) 0 ok _ H1 lc2 (lv_sub hl [0, 1, 2, 3, 4] rfl) hH (by omega) (by rcases hok with h8 | h8; exact Or.inl ⟨h8.1, h8.2, fun j g1 g2 => by omega⟩; exact Or.inr ⟨h8.1, wd_m h8.2⟩) (by omega)
  refine lv_iload_n hx hb d_M_infinity_7 rfl (lv_at hl 0 rfl) ?_
  refine zv_iconst hx hb d_M_infinity_8 ?_
  refine zv_icmp_eq (tgt := 18) hx hb d_M_infinity_9 rfl (by omega) (by omega) (fun h17 => ?_) (fun h17 => ?_)
  · refine zv_iconst hx hb d_M_infinity_18 ?_
    refine lv_goto (tgt := 23) hx hb d_M_infinity_19 rfl ?_
    exact L23 1 _ s.heap ([]) (lv_sub hl [0, 1, 2] rfl) hH (by omega)
  · refine lv_iload_n hx hb d_M_infinity_12 rfl (lv_at hl 0 rfl) ?_
    refine zv_bipush hx hb d_M_infinity_13 rfl ?_
    refine zv_icmp_ne (tgt := 22) hx hb d_M_infinity_15 rfl (by omega) (by omega) (fun h18 => ?_) (fun h18 => ?_)
    · refine zv_iconst hx hb d_M_infinity_22 ?_
      exact L23 0 _ s.heap ([]) (lv_sub hl [0, 1, 2] rfl) hH (by omega)
    · refine zv_iconst hx hb d_M_infinity_18 ?_
      refine lv_goto (tgt := 23) hx hb d_M_infinity_19 rfl ?_
      exact L23 1 _ s.heap ([]) (lv_sub hl [0, 1, 2] rfl) hH (by omega)
