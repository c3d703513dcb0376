def rm_U_end : Room := { frames := 1, cells := 0, slots := 0, locals := 21 }
set_option maxHeartbeats 4000000 in
set_option maxRecDepth 100000 in
theorem c_U_end (l : Launch) (E : zE) (w0 : zW) (y : Nat) (us : Int) (ch : Int → Int) (st1 : Int) (q0lt : y < zn E) (q1lt : y + 1 < zn E) (c0 : w0 y = .inr (3, [.ref (ad E (y + 1)), .int (iI us)])) (c1 : w0 (y + 1) = zac E 80 ch) (bch : bd ch 80 0 126) (hus : 0 ≤ us ∧ us ≤ 80) (hse : 0 ≤ st1 ∧ st1 ≤ us) : zM l y_U_endOfDigits ws_U_endOfDigits rm_U_end E [.ref (ad E y), .int (iI st1)] w0 (zQi E w0 (fun z w' => w' = w0 ∧ (st1 ≤ z ∧ z ≤ us ∧ ∃ pt : Int, NumR ch us st1 z pt))) := by
  refine z_met (cc := b_U_endOfDigits) (maxL := 4) (ret := (some .int)) (by decide +kernel) rfl (Nat.le_of_ble_eq_true rfl) ?_
  intro p e s m below meth cd ls a Qf hQ hC hl hH
  obtain ⟨hF, hr, hlk, hK, hG, hn⟩ := hC
  obtain ⟨hx, hb, hml, hown, hts⟩ := hF
  have hg : ∀ w ∈ GW, w.before a s = true := fun w h => hts w (List.mem_cons_of_mem _ h)
  have hA : ∀ q, s.heap.size ≤ q → va_A (wl E w0) s.heap.size q := fun q h => Or.inr h
  have hl : lv_has ls 4 [(0, .ref (ad E y)), (1, .int (iI st1))] := hl
  refine lv_iload_n hx hb d_U_endOfDigits_0 rfl (lv_at hl 1 rfl) ?_
  refine lv_istore_n (lv' := [(2, .int (iI st1)), (0, .ref (ad E y)), (1, .int (iI st1))]) hx hb d_U_endOfDigits_1 rfl hl (by decide) rfl (fun ls hl => ?_)
  refine zv_iconst hx hb d_U_endOfDigits_2 ?_
  refine lv_istore_n (lv' := [(3, .int (iI 0)), (2, .int (iI st1)), (0, .ref (ad E y)), (1, .int (iI st1))]) hx hb d_U_endOfDigits_3 rfl hl (by decide) rfl (fun ls hl => ?_)
  have L4 : ∀ (fu : Nat) (x : Int) (ps : Int) (ls : Array Slot) (H1 : Heap) (lc2 : List Loc), (lv_has ls 4 [(3, .int (iI ps)), (2, .int (iI x)), (0, .ref (ad E y)), (1, .int (iI st1))]) → (zH E w0 (va_A (wl E w0) s.heap.size) s.heap H1 lc2) → (st1 ≤ x ∧ x ≤ us) → (ps = 0 ∨ ps = 1) → (EDI ch st1 x ps) → (us - x < (fu : Int)) → W p l e rm_U_end s m a below meth cd H1 lc2 0 0 Qf (F0 m 4 ls []) := by
    intro fu
    induction fu with
    | zero => intro x ps ls H1 lc2 hl hH hx0 hps hE hm; exact absurd hm (by omega)
    | succ fu ih =>
      intro x ps ls H1 lc2 hl hH hx0 hps hE hm
      refine lv_iload_n hx hb d_U_endOfDigits_4 rfl (lv_at hl 1 rfl) ?_
      refine lv_aload_n hx hb d_U_endOfDigits_5 rfl (lv_at hl 2 rfl) ?_
      refine zv_get (C := "ScaledNumeralDesk$Buffer") (T := TU) (N := 2) hx hb hg uU_in hown hK hH q0lt c0 rfl 1 (by decide) (hg _ wm_102) (fun _ h9 => h9) rfl d_U_endOfDigits_6 ?_
      refine zv_icmp_ge (tgt := 62) hx hb d_U_endOfDigits_9 rfl (by omega) (by omega) (fun h3 => ?_) (fun h3 => ?_)
      · refine lv_iload_n hx hb d_U_endOfDigits_62 rfl (lv_at hl 1 rfl) ?_
        rw [hQ]
        exact z_iret hx hb hr hlk hH (⟨rfl, ⟨hx0.1, hx0.2, EDI_e hE hx0.1 hx0.2 (by omega)⟩⟩) d_U_endOfDigits_63
      · have L35 : ∀  (ls : Array Slot) (H4 : Heap) (lc5 : List Loc), (lv_has ls 4 [(3, .int (iI ps)), (2, .int (iI x)), (0, .ref (ad E y)), (1, .int (iI st1))]) → (zH E w0 (va_A (wl E w0) s.heap.size) s.heap H4 lc5) → ((48 ≤ ch x ∧ ch x ≤ 57) ∨ (ch x = 46 ∧ ps = 0)) → (x < us) → W p l e rm_U_end s m a below meth cd H4 lc5 0 0 Qf (F0 m 35 ls []) := by
          intro ls H4 lc5 hl hH h35 h35u
          refine lv_iload_n hx hb d_U_endOfDigits_35 rfl (lv_at hl 0 rfl) ?_
          refine zv_if_ne (tgt := 50) hx hb d_U_endOfDigits_36 rfl (by omega) (fun h6 => ?_) (fun h6 => ?_)
          · refine zv_iconst hx hb d_U_endOfDigits_50 ?_
            refine lv_goto (tgt := 55) hx hb d_U_endOfDigits_51 rfl ?_
            refine lv_istore_n (lv' := [(3, .int (iI 1)), (2, .int (iI x)), (0, .ref (ad E y)), (1, .int (iI st1))]) hx hb d_U_endOfDigits_55 rfl hl (by decide) rfl (fun ls hl => ?_)
            refine zv_iinc (k := 1) (lv' := [(2, .int (iI (x + 1))), (3, .int (iI 1)), (0, .ref (ad E y)), (1, .int (iI st1))]) hx hb d_U_endOfDigits_56 hl rfl (by decide) rfl (fun ls hl => ?_)
            refine lv_goto (tgt := 4) hx hb d_U_endOfDigits_59 rfl ?_
            exact ih  (x + 1) 1 _ H4 lc5 (lv_sub hl [1, 0, 2, 3] rfl) hH (by omega) (by omega) (by first | exact EDI_p hE (by omega) (by omega) (by assumption) | (rw [show ps = 1 by omega] at hE; exact EDI_d hE (by omega)) | (rw [show ps = 0 by omega] at hE; exact EDI_d hE (by omega))) (by omega)
          · refine lv_aload_n hx hb d_U_endOfDigits_39 rfl (lv_at hl 2 rfl) ?_
            refine zv_get (C := "ScaledNumeralDesk$Buffer") (T := TU) (N := 2) hx hb hg uU_in hown hK hH q0lt c0 rfl 0 (by decide) (hg _ wm_101) (fun _ h9 => h9) rfl d_U_endOfDigits_40 ?_
            refine lv_iload_n hx hb d_U_endOfDigits_43 rfl (lv_at hl 1 rfl) ?_
            refine zv_cald hx hb hK hH q1lt c1 (by omega) (by omega) (by omega) d_U_endOfDigits_44 ?_
            have b7 := bch x (by omega) (by omega)
            refine zv_bipush hx hb d_U_endOfDigits_45 rfl ?_
            refine zv_icmp_ne (tgt := 54) hx hb d_U_endOfDigits_47 rfl (by omega) (by omega) (fun h8 => ?_) (fun h8 => ?_)
            · refine zv_iconst hx hb d_U_endOfDigits_54 ?_
              refine lv_istore_n (lv' := [(3, .int (iI 0)), (2, .int (iI x)), (0, .ref (ad E y)), (1, .int (iI st1))]) hx hb d_U_endOfDigits_55 rfl hl (by decide) rfl (fun ls hl => ?_)
              refine zv_iinc (k := 1) (lv' := [(2, .int (iI (x + 1))), (3, .int (iI 0)), (0, .ref (ad E y)), (1, .int (iI st1))]) hx hb d_U_endOfDigits_56 hl rfl (by decide) rfl (fun ls hl => ?_)
              refine lv_goto (tgt := 4) hx hb d_U_endOfDigits_59 rfl ?_
              exact ih  (x + 1) 0 _ H4 lc5 (lv_sub hl [1, 0, 2, 3] rfl) hH (by omega) (by omega) (by first | exact EDI_p hE (by omega) (by omega) (by assumption) | (rw [show ps = 1 by omega] at hE; exact EDI_d hE (by omega)) | (rw [show ps = 0 by omega] at hE; exact EDI_d hE (by omega))) (by omega)
            · refine zv_iconst hx hb d_U_endOfDigits_50 ?_
              refine lv_goto (tgt := 55) hx hb d_U_endOfDigits_51 rfl ?_
              refine lv_istore_n (lv' := [(3, .int (iI 1)), (2, .int (iI x)), (0, .ref (ad E y)), (1, .int (iI st1))]) hx hb d_U_endOfDigits_55 rfl hl (by decide) rfl (fun ls hl => ?_)
              refine zv_iinc (k := 1) (lv' := [(2, .int (iI (x + 1))), (3, .int (iI 1)), (0, .ref (ad E y)), (1, .int (iI st1))]) hx hb d_U_endOfDigits_56 hl rfl (by decide) rfl (fun ls hl => ?_)
              refine lv_goto (tgt := 4) hx hb d_U_endOfDigits_59 rfl ?_
              exact ih  (x + 1) 1 _ H4 lc5 (lv_sub hl [1, 0, 2, 3] rfl) hH (by omega) (by omega) (by first | exact EDI_p hE (by omega) (by omega) (by assumption) | (rw [show ps = 1 by omega] at hE; exact EDI_d hE (by omega)) | (rw [show ps = 0 by omega] at hE; exact EDI_d hE (by omega))) (by omega)
        refine lv_aload_n hx hb d_U_endOfDigits_12 rfl (lv_at hl 2 rfl) ?_
        refine lv_iload_n hx hb d_U_endOfDigits_13 rfl (lv_at hl 1 rfl) ?_
        refine z_calli (va_runV (As := [.int (iI x)]) (rest := []) ⟨hx, hb, hml, hown, hts⟩ (c_U_isDigit (l := l) (E := E) (w0 := w0) (y := y) (us := us) (ch := ch) (i := x) (q0lt := q0lt) (q1lt := q1lt) (c0 := c0) (c1 := c1) (bch := bch) (hus := by omega) (hi0 := by omega) H1.size) (z_cwV (C := "ScaledNumeralDesk$Buffer") 1 hg wm_264 wm_261 wm_7 wm_263 wm_s4 (by decide +kernel) ⟨Nat.le_of_ble_eq_true rfl, Nat.le_of_ble_eq_true rfl⟩) (z_preV (r := ("ScaledNumeralDesk$Buffer", TU, 2)) hK hG hn hH hA q0lt c0 rfl) rfl rfl hl.1 rfl (lv_room (Nat.le_of_ble_eq_true rfl)) d_U_endOfDigits_14 ⟨Nat.zero_le _, Nat.zero_le _⟩) hH hA (fun z13 w11 H9 lc10 hH12 p14 => ?_)
        obtain ⟨ew14, p14⟩ := p14
        rw [ew14] at hH12
        replace p14 : (z13 = 1 ∧ x < us ∧ 48 ≤ ch x ∧ ch x ≤ 57) ∨ (z13 = 0 ∧ ¬ (x < us ∧ 48 ≤ ch x ∧ ch x ≤ 57)) := p14
        refine zv_if_ne (tgt := 35) hx hb d_U_endOfDigits_17 rfl (by omega) (fun h15 => ?_) (fun h15 => ?_)
        · exact L35 _ H9 lc10 (lv_sub hl [0, 1, 2, 3] rfl) hH12 (by omega) (by omega)
        · refine lv_aload_n hx hb d_U_endOfDigits_20 rfl (lv_at hl 2 rfl) ?_
          refine zv_get (C := "ScaledNumeralDesk$Buffer") (T := TU) (N := 2) hx hb hg uU_in hown hK hH12 q0lt c0 rfl 0 (by decide) (hg _ wm_101) (fun _ h9 => h9) rfl d_U_endOfDigits_21 ?_
          refine lv_iload_n hx hb d_U_endOfDigits_24 rfl (lv_at hl 1 rfl) ?_
          refine zv_cald hx hb hK hH12 q1lt c1 (by omega) (by omega) (by omega) d_U_endOfDigits_25 ?_
          have b16 := bch x (by omega) (by omega)
          refine zv_bipush hx hb d_U_endOfDigits_26 rfl ?_
          refine zv_icmp_ne (tgt := 62) hx hb d_U_endOfDigits_28 rfl (by omega) (by omega) (fun h17 => ?_) (fun h17 => ?_)
          · refine lv_iload_n hx hb d_U_endOfDigits_62 rfl (lv_at hl 1 rfl) ?_
            rw [hQ]
            exact z_iret hx hb hr hlk hH12 (⟨rfl, ⟨hx0.1, hx0.2, EDI_e hE hx0.1 hx0.2 (by omega)⟩⟩) d_U_endOfDigits_63
          · refine lv_iload_n hx hb d_U_endOfDigits_31 rfl (lv_at hl 0 rfl) ?_
            refine zv_if_ne (tgt := 62) hx hb d_U_endOfDigits_32 rfl (by omega) (fun h18 => ?_) (fun h18 => ?_)
            · refine lv_iload_n hx hb d_U_endOfDigits_62 rfl (lv_at hl 1 rfl) ?_
              rw [hQ]
              exact z_iret hx hb hr hlk hH12 (⟨rfl, ⟨hx0.1, hx0.2, EDI_e hE hx0.1 hx0.2 (by omega)⟩⟩) d_U_endOfDigits_63
            · exact L35 _ H9 lc10 (lv_sub hl [0, 1, 2, 3] rfl) hH12 (by omega) (by omega)
  exact L4 ((us - st1 : Int).toNat + 1) st1 0 _ s.heap ([]) (lv_sub hl [0, 1, 2, 3] rfl) hH (by omega) (by omega) (by exact EDI_0 ch st1) (by omega)
def rm_U_exp : Room := { frames := 1, cells := 0, slots := 0, locals := 21 }
set_option maxHeartbeats 4000000 in
set_option maxRecDepth 100000 in
theorem c_U_exp (l : Launch) (E : zE) (w0 : zW) (y : Nat) (us : Int) (ch : Int → Int) (e1 : Int) (q0lt : y < zn E) (q1lt : y + 1 < zn E) (c0 : w0 y = .inr (3, [.ref (ad E (y + 1)), .int (iI us)])) (c1 : w0 (y + 1) = zac E 80 ch) (bch : bd ch 80 0 126) (hus : 0 ≤ us ∧ us ≤ 80) (he1 : 0 ≤ e1 ∧ e1 ≤ us) : zM l y_U_exponentFrom ws_U_exponentFrom rm_U_exp E [.ref (ad E y), .int (iI e1)] w0 (zQi E w0 (fun z w' => w' = w0 ∧ (ExpR ch us e1 z ∧ -999 ≤ z ∧ z ≤ 1000))) := by
  refine z_met (cc := b_U_exponentFrom) (maxL := 5) (ret := (some .int)) (by decide +kernel) rfl (Nat.le_of_ble_eq_true rfl) ?_
  intro p e s m below meth cd ls a Qf hQ hC hl hH
  obtain ⟨hF, hr, hlk, hK, hG, hn⟩ := hC
  obtain ⟨hx, hb, hml, hown, hts⟩ := hF
  have hg : ∀ w ∈ GW, w.before a s = true := fun w h => hts w (List.mem_cons_of_mem _ h)
  have hA : ∀ q, s.heap.size ≤ q → va_A (wl E w0) s.heap.size q := fun q h => Or.inr h
  have hl : lv_has ls 5 [(0, .ref (ad E y)), (1, .int (iI e1))] := hl
  refine lv_iload_n hx hb d_U_exponentFrom_0 rfl (lv_at hl 1 rfl) ?_
  refine lv_aload_n hx hb d_U_exponentFrom_1 rfl (lv_at hl 0 rfl) ?_
  refine zv_get (C := "ScaledNumeralDesk$Buffer") (T := TU) (N := 2) hx hb hg uU_in hown hK hH q0lt c0 rfl 1 (by decide) (hg _ wm_102) (fun _ h9 => h9) rfl d_U_exponentFrom_2 ?_
  refine zv_icmp_ne (tgt := 10) hx hb d_U_exponentFrom_5 rfl (by omega) (by omega) (fun h1 => ?_) (fun h1 => ?_)
  · refine lv_aload_n hx hb d_U_exponentFrom_10 rfl (lv_at hl 0 rfl) ?_
    refine zv_get (C := "ScaledNumeralDesk$Buffer") (T := TU) (N := 2) hx hb hg uU_in hown hK hH q0lt c0 rfl 0 (by decide) (hg _ wm_101) (fun _ h9 => h9) rfl d_U_exponentFrom_11 ?_
    refine lv_iload_n hx hb d_U_exponentFrom_14 rfl (lv_at hl 1 rfl) ?_
    refine zv_cald hx hb hK hH q1lt c1 (by omega) (by omega) (by omega) d_U_exponentFrom_15 ?_
    have b2 := bch e1 (by omega) (by omega)
    refine z_calli (va_runS (As := [.int (iI (ch e1))]) (rest := []) ⟨hx, hb, hml, hown, hts⟩ (c_U_lower (l := l) (E := E) (w0 := w0) (x := ch e1) (hx0 := by omega) s.heap.size) (z_cwS 1 hg wm_186 wm_184 wm_7 wm_185 (by decide +kernel) ⟨Nat.le_of_ble_eq_true rfl, Nat.le_of_ble_eq_true rfl⟩) (z_preS hK hG hn hH hA) rfl rfl hl.1 rfl (lv_room (Nat.le_of_ble_eq_true rfl)) d_U_exponentFrom_16 ⟨Nat.zero_le _, Nat.zero_le _⟩) hH hA (fun z7 w5 H3 lc4 hH6 p16 => ?_)
    obtain ⟨ew8, p16⟩ := p16
    rw [ew8] at hH6
    replace p16 : (65 ≤ (ch e1) ∧ (ch e1) ≤ 90 ∧ z7 = (ch e1) + 32) ∨ (¬ (65 ≤ (ch e1) ∧ (ch e1) ≤ 90) ∧ z7 = (ch e1)) := p16
    refine zv_bipush hx hb d_U_exponentFrom_19 rfl ?_
    refine zv_icmp_eq (tgt := 28) hx hb d_U_exponentFrom_21 rfl (by omega) (by omega) (fun h9 => ?_) (fun h9 => ?_)
    · have L47 : ∀ (f1 : Int) (ls : Array Slot) (H10 : Heap) (lc11 : List Loc), (lv_has ls 5 [(0, .ref (ad E y)), (1, .int (iI e1))]) → (zH E w0 (va_A (wl E w0) s.heap.size) s.heap H10 lc11) → ((f1 = e1 + 2 ∧ e1 + 1 < us ∧ (ch (e1 + 1) = 43 ∨ ch (e1 + 1) = 45)) ∨ (f1 = e1 + 1 ∧ ¬ (e1 + 1 < us ∧ (ch (e1 + 1) = 43 ∨ ch (e1 + 1) = 45)))) → W p l e rm_U_exp s m a below meth cd H10 lc11 0 0 Qf (F0 m 47 ls [.int (iI f1)]) := by
        intro f1 ls H10 lc11 hl hH hf1
        refine lv_istore_n (lv' := [(2, .int (iI f1)), (0, .ref (ad E y)), (1, .int (iI e1))]) hx hb d_U_exponentFrom_47 rfl hl (by decide) rfl (fun ls hl => ?_)
        have L66 : ∀  (ls : Array Slot) (H12 : Heap) (lc13 : List Loc), (lv_has ls 5 [(2, .int (iI f1)), (0, .ref (ad E y)), (1, .int (iI e1))]) → (zH E w0 (va_A (wl E w0) s.heap.size) s.heap H12 lc13) → (¬ (f1 < us ∧ us - f1 ≤ 3)) → W p l e rm_U_exp s m a below meth cd H12 lc13 0 0 Qf (F0 m 66 ls []) := by
          intro ls H12 lc13 hl hH h66
          refine zv_sipush hx hb d_U_exponentFrom_66 rfl ?_
          rw [hQ]
          exact z_iret hx hb hr hlk hH (⟨rfl, ⟨Or.inr (Or.inr ⟨by omega, by omega, f1, hf1, Or.inl ⟨fun h0 => h66 ⟨h0.1, h0.2.1⟩, rfl⟩⟩), by omega, by omega⟩⟩) d_U_exponentFrom_69
        refine lv_iload_n hx hb d_U_exponentFrom_48 rfl (lv_at hl 0 rfl) ?_
        refine lv_aload_n hx hb d_U_exponentFrom_49 rfl (lv_at hl 1 rfl) ?_
        refine zv_get (C := "ScaledNumeralDesk$Buffer") (T := TU) (N := 2) hx hb hg uU_in hown hK hH q0lt c0 rfl 1 (by decide) (hg _ wm_102) (fun _ h9 => h9) rfl d_U_exponentFrom_50 ?_
        refine zv_icmp_ge (tgt := 66) hx hb d_U_exponentFrom_53 rfl (by omega) (by omega) (fun h14 => ?_) (fun h14 => ?_)
        · exact L66 _ H10 lc11 (lv_sub hl [0, 1, 2] rfl) hH (by omega)
        · refine lv_aload_n hx hb d_U_exponentFrom_56 rfl (lv_at hl 1 rfl) ?_
          refine zv_get (C := "ScaledNumeralDesk$Buffer") (T := TU) (N := 2) hx hb hg uU_in hown hK hH q0lt c0 rfl 1 (by decide) (hg _ wm_102) (fun _ h9 => h9) rfl d_U_exponentFrom_57 ?_
          refine lv_iload_n hx hb d_U_exponentFrom_60 rfl (lv_at hl 0 rfl) ?_
          refine zv_isub hx hb d_U_exponentFrom_61 ?_
          refine zv_iconst hx hb d_U_exponentFrom_62 ?_
          refine zv_icmp_le (tgt := 70) hx hb d_U_exponentFrom_63 rfl (by omega) (by omega) (fun h15 => ?_) (fun h15 => ?_)
          · refine zv_iconst hx hb d_U_exponentFrom_70 ?_
            refine lv_istore_n (lv' := [(3, .int (iI 0)), (2, .int (iI f1)), (0, .ref (ad E y)), (1, .int (iI e1))]) hx hb d_U_exponentFrom_71 rfl hl (by decide) rfl (fun ls hl => ?_)
            refine lv_iload_n hx hb d_U_exponentFrom_72 rfl (lv_at hl 1 rfl) ?_
            refine lv_istore (lv' := [(4, .int (iI f1)), (3, .int (iI 0)), (2, .int (iI f1)), (0, .ref (ad E y)), (1, .int (iI e1))]) hx hb d_U_exponentFrom_73 hl (by decide) rfl (fun ls hl => ?_)
            have L75 : ∀ (fu : Nat) (i : Int) (x : Int) (ls : Array Slot) (H16 : Heap) (lc17 : List Loc), (lv_has ls 5 [(4, .int (iI i)), (3, .int (iI x)), (2, .int (iI f1)), (0, .ref (ad E y)), (1, .int (iI e1))]) → (zH E w0 (va_A (wl E w0) s.heap.size) s.heap H16 lc17) → (f1 ≤ i ∧ i ≤ us) → (∀ j : Int, f1 ≤ j → j < i → dgc (ch j)) → (x = Hz ch f1 i) → (0 ≤ x ∧ ((i = f1 ∧ x = 0) ∨ (i = f1 + 1 ∧ x ≤ 9) ∨ (i = f1 + 2 ∧ x ≤ 99) ∨ (i = f1 + 3 ∧ x ≤ 999))) → (us - i < (fu : Int)) → W p l e rm_U_exp s m a below meth cd H16 lc17 0 0 Qf (F0 m 75 ls []) := by
              intro fu
              induction fu with
              | zero => intro i x ls H16 lc17 hl hH hi hz hx9 hx8 hm; exact absurd hm (by omega)
              | succ fu ih =>
                intro i x ls H16 lc17 hl hH hi hz hx9 hx8 hm
                refine lv_iload hx hb d_U_exponentFrom_75 (lv_at hl 0 rfl) ?_
                refine lv_aload_n hx hb d_U_exponentFrom_77 rfl (lv_at hl 3 rfl) ?_
                refine zv_get (C := "ScaledNumeralDesk$Buffer") (T := TU) (N := 2) hx hb hg uU_in hown hK hH q0lt c0 rfl 1 (by decide) (hg _ wm_102) (fun _ h9 => h9) rfl d_U_exponentFrom_78 ?_
                refine zv_icmp_ge (tgt := 119) hx hb d_U_exponentFrom_81 rfl (by omega) (by omega) (fun h18 => ?_) (fun h18 => ?_)
                · refine lv_aload_n hx hb d_U_exponentFrom_119 rfl (lv_at hl 3 rfl) ?_
                  refine zv_get (C := "ScaledNumeralDesk$Buffer") (T := TU) (N := 2) hx hb hg uU_in hown hK hH q0lt c0 rfl 0 (by decide) (hg _ wm_101) (fun _ h9 => h9) rfl d_U_exponentFrom_120 ?_
                  refine lv_iload_n hx hb d_U_exponentFrom_123 rfl (lv_at hl 4 rfl) ?_
                  refine zv_iconst hx hb d_U_exponentFrom_124 ?_
                  refine zv_iadd hx hb d_U_exponentFrom_125 ?_
                  refine zv_cald hx hb hK hH q1lt c1 (by omega) (by omega) (by omega) d_U_exponentFrom_126 ?_
                  have b19 := bch (e1 + 1) (by omega) (by omega)
                  refine zv_bipush hx hb d_U_exponentFrom_127 rfl ?_
                  refine zv_icmp_ne (tgt := 137) hx hb d_U_exponentFrom_129 rfl (by omega) (by omega) (fun h20 => ?_) (fun h20 => ?_)
                  · refine lv_iload_n hx hb d_U_exponentFrom_137 rfl (lv_at hl 1 rfl) ?_
                    have i9 : i = us := by omega
                    subst i9
                    rw [hQ]
                    exact z_iret hx hb hr hlk hH (⟨rfl, ⟨Or.inr (Or.inr ⟨by omega, by omega, f1, hf1, Or.inr ⟨by omega, by omega, hz, by omega, by omega, by omega⟩⟩), by omega, by omega⟩⟩) d_U_exponentFrom_138
                  · refine lv_iload_n hx hb d_U_exponentFrom_132 rfl (lv_at hl 1 rfl) ?_
                    refine zv_ineg hx hb d_U_exponentFrom_133 ?_
                    refine lv_goto (tgt := 138) hx hb d_U_exponentFrom_134 rfl ?_
                    have i9 : i = us := by omega
                    subst i9
                    rw [hQ]
                    exact z_iret hx hb hr hlk hH (⟨rfl, ⟨Or.inr (Or.inr ⟨by omega, by omega, f1, hf1, Or.inr ⟨by omega, by omega, hz, by omega, by omega, by omega⟩⟩), by omega, by omega⟩⟩) d_U_exponentFrom_138
                · refine lv_aload_n hx hb d_U_exponentFrom_84 rfl (lv_at hl 3 rfl) ?_
                  refine lv_iload hx hb d_U_exponentFrom_85 (lv_at hl 0 rfl) ?_
                  refine z_calli (va_runV (As := [.int (iI i)]) (rest := []) ⟨hx, hb, hml, hown, hts⟩ (c_U_isDigit (l := l) (E := E) (w0 := w0) (y := y) (us := us) (ch := ch) (i := i) (q0lt := q0lt) (q1lt := q1lt) (c0 := c0) (c1 := c1) (bch := bch) (hus := by omega) (hi0 := by omega) H16.size) (z_cwV (C := "ScaledNumeralDesk$Buffer") 1 hg wm_264 wm_261 wm_7 wm_263 wm_s4 (by decide +kernel) ⟨Nat.le_of_ble_eq_true rfl, Nat.le_of_ble_eq_true rfl⟩) (z_preV (r := ("ScaledNumeralDesk$Buffer", TU, 2)) hK hG hn hH hA q0lt c0 rfl) rfl rfl hl.1 rfl (lv_room (Nat.le_of_ble_eq_true rfl)) d_U_exponentFrom_87 ⟨Nat.zero_le _, Nat.zero_le _⟩) hH hA (fun z25 w23 H21 lc22 hH24 p87 => ?_)
                  obtain ⟨ew26, p87⟩ := p87
                  rw [ew26] at hH24
                  replace p87 : (z25 = 1 ∧ i < us ∧ 48 ≤ ch i ∧ ch i ≤ 57) ∨ (z25 = 0 ∧ ¬ (i < us ∧ 48 ≤ ch i ∧ ch i ≤ 57)) := p87
                  refine zv_if_ne (tgt := 97) hx hb d_U_exponentFrom_90 rfl (by omega) (fun h27 => ?_) (fun h27 => ?_)
                  · refine lv_iload_n hx hb d_U_exponentFrom_97 rfl (lv_at hl 1 rfl) ?_
                    refine zv_bipush hx hb d_U_exponentFrom_98 rfl ?_
                    refine zv_imul hx hb d_U_exponentFrom_100 ?_
                    refine lv_aload_n hx hb d_U_exponentFrom_101 rfl (lv_at hl 3 rfl) ?_
                    refine zv_get (C := "ScaledNumeralDesk$Buffer") (T := TU) (N := 2) hx hb hg uU_in hown hK hH24 q0lt c0 rfl 0 (by decide) (hg _ wm_101) (fun _ h9 => h9) rfl d_U_exponentFrom_102 ?_
                    refine lv_iload hx hb d_U_exponentFrom_105 (lv_at hl 0 rfl) ?_
                    refine zv_cald hx hb hK hH24 q1lt c1 (by omega) (by omega) (by omega) d_U_exponentFrom_107 ?_
                    have b28 := bch i (by omega) (by omega)
                    refine zv_iadd hx hb d_U_exponentFrom_108 ?_
                    refine zv_bipush hx hb d_U_exponentFrom_109 rfl ?_
                    refine zv_isub hx hb d_U_exponentFrom_111 ?_
                    refine lv_istore_n (lv' := [(3, .int (iI (((x * 10) + (ch i)) - 48))), (4, .int (iI i)), (2, .int (iI f1)), (0, .ref (ad E y)), (1, .int (iI e1))]) hx hb d_U_exponentFrom_112 rfl hl (by decide) rfl (fun ls hl => ?_)
                    refine zv_iinc (k := 1) (lv' := [(4, .int (iI (i + 1))), (3, .int (iI (((x * 10) + (ch i)) - 48))), (2, .int (iI f1)), (0, .ref (ad E y)), (1, .int (iI e1))]) hx hb d_U_exponentFrom_113 hl rfl (by decide) rfl (fun ls hl => ?_)
                    refine lv_goto (tgt := 75) hx hb d_U_exponentFrom_116 rfl ?_
                    exact ih  (i + 1) (((x * 10) + (ch i)) - 48) _ H21 lc22 (lv_sub hl [0, 1, 2, 3, 4] rfl) hH24 (by omega) (by intro j g1 g2; by_cases e9 : j = i; rw [e9]; omega; exact hz j g1 (by omega)) (by rw [Hz_s ch hi.1, hx9]; omega) (by omega) (by omega)
                  · refine zv_sipush hx hb d_U_exponentFrom_93 rfl ?_
                    rw [hQ]
                    exact z_iret hx hb hr hlk hH24 (⟨rfl, ⟨Or.inr (Or.inr ⟨by omega, by omega, f1, hf1, Or.inl ⟨fun h0 => absurd (h0.2.2 i hi.1 (by omega)) (by omega), rfl⟩⟩), by omega, by omega⟩⟩) d_U_exponentFrom_96
            exact L75 ((us - f1 : Int).toNat + 1) f1 0 _ H10 lc11 (lv_sub hl [0, 1, 2, 3, 4] rfl) hH (by omega) (by intro j g1 g2; omega) (by exact (Hz_0 ch f1).symm) (by omega) (by omega)
          · exact L66 _ H10 lc11 (lv_sub hl [0, 1, 2] rfl) hH (by omega)
      refine lv_aload_n hx hb d_U_exponentFrom_28 rfl (lv_at hl 0 rfl) ?_
      refine lv_iload_n hx hb d_U_exponentFrom_29 rfl (lv_at hl 1 rfl) ?_
      refine zv_iconst hx hb d_U_exponentFrom_30 ?_
      refine zv_iadd hx hb d_U_exponentFrom_31 ?_
      refine z_calli (va_runV (As := [.int (iI (e1 + 1))]) (rest := []) ⟨hx, hb, hml, hown, hts⟩ (c_U_isSign (l := l) (E := E) (w0 := w0) (y := y) (us := us) (ch := ch) (i := e1 + 1) (q0lt := q0lt) (q1lt := q1lt) (c0 := c0) (c1 := c1) (bch := bch) (hus := by omega) (hi0 := by omega) H3.size) (z_cwV (C := "ScaledNumeralDesk$Buffer") 1 hg wm_241 wm_238 wm_7 wm_240 wm_s1 (by decide +kernel) ⟨Nat.le_of_ble_eq_true rfl, Nat.le_of_ble_eq_true rfl⟩) (z_preV (r := ("ScaledNumeralDesk$Buffer", TU, 2)) hK hG hn hH6 hA q0lt c0 rfl) rfl rfl hl.1 rfl (lv_room (Nat.le_of_ble_eq_true rfl)) d_U_exponentFrom_32 ⟨Nat.zero_le _, Nat.zero_le _⟩) hH6 hA (fun z33 w31 H29 lc30 hH32 p32 => ?_)
      obtain ⟨ew34, p32⟩ := p32
      rw [ew34] at hH32
      replace p32 : (z33 = 1 ∧ (e1 + 1) < us ∧ (ch (e1 + 1) = 43 ∨ ch (e1 + 1) = 45)) ∨ (z33 = 0 ∧ ¬ ((e1 + 1) < us ∧ (ch (e1 + 1) = 43 ∨ ch (e1 + 1) = 45))) := p32
      refine zv_if_eq (tgt := 44) hx hb d_U_exponentFrom_35 rfl (by omega) (fun h35 => ?_) (fun h35 => ?_)
      · refine lv_iload_n hx hb d_U_exponentFrom_44 rfl (lv_at hl 1 rfl) ?_
        refine zv_iconst hx hb d_U_exponentFrom_45 ?_
        refine zv_iadd hx hb d_U_exponentFrom_46 ?_
        exact L47 (e1 + 1) _ H29 lc30 (lv_sub hl [0, 1] rfl) hH32 (by omega)
      · refine lv_iload_n hx hb d_U_exponentFrom_38 rfl (lv_at hl 1 rfl) ?_
        refine zv_iconst hx hb d_U_exponentFrom_39 ?_
        refine zv_iadd hx hb d_U_exponentFrom_40 ?_
        refine lv_goto (tgt := 47) hx hb d_U_exponentFrom_41 rfl ?_
        exact L47 (e1 + 2) _ H29 lc30 (lv_sub hl [0, 1] rfl) hH32 (by omega)
    · refine zv_sipush hx hb d_U_exponentFrom_24 rfl ?_
      rw [hQ]
      exact z_iret hx hb hr hlk hH6 (⟨rfl, ⟨Or.inr (Or.inl ⟨by omega, by omega, rfl⟩), by omega, by omega⟩⟩) d_U_exponentFrom_27
  · refine zv_iconst hx hb d_U_exponentFrom_8 ?_
    rw [hQ]
    exact z_iret hx hb hr hlk hH (⟨rfl, ⟨Or.inl ⟨by omega, rfl⟩, by omega, by omega⟩⟩) d_U_exponentFrom_9
def rm_U_word : Room := { frames := 4, cells := 0, slots := 0, locals := 85 }
set_option maxHeartbeats 4000000 in
set_option maxRecDepth 100000 in
theorem c_U_word (l : Launch) (E : zE) (w0 : zW) (y : Nat) (us : Int) (ch : Int → Int) (st1 : Int) (wi : Nat) (q0lt : y < zn E) (q1lt : y + 1 < zn E) (c0 : w0 y = .inr (3, [.ref (ad E (y + 1)), .int (iI us)])) (c1 : w0 (y + 1) = zac E 80 ch) (bch : bd ch 80 0 126) (hus : 0 ≤ us ∧ us ≤ 80) (hse : 0 ≤ st1 ∧ st1 ≤ 1000) (hwi : wi < 7) : zM l y_U_isWordFrom ws_U_isWordFrom rm_U_word E [.ref (ad E y), .int (iI st1), .ref (zg E (5 + wi))] w0 (zQi E w0 (fun z w' => w' = w0 ∧ ((z = 1 ∧ WdR ch us st1 wi) ∨ (z = 0 ∧ ¬ WdR ch us st1 wi)))) := by
  refine z_met (cc := b_U_isWordFrom) (maxL := 4) (ret := (some .boolean)) (by decide +kernel) rfl (Nat.le_of_ble_eq_true rfl) ?_
  intro p e s m below meth cd ls a Qf hQ hC hl hH
  obtain ⟨hF, hr, hlk, hK, hG, hn⟩ := hC
  obtain ⟨hx, hb, hml, hown, hts⟩ := hF
  have hg : ∀ w ∈ GW, w.before a s = true := fun w h => hts w (List.mem_cons_of_mem _ h)
  have hA : ∀ q, s.heap.size ≤ q → va_A (wl E w0) s.heap.size q := fun q h => Or.inr h
  have hl : lv_has ls 4 [(0, .ref (ad E y)), (1, .int (iI st1)), (2, .ref (zg E (5 + wi)))] := hl
  refine lv_aload_n hx hb d_U_isWordFrom_0 rfl (lv_at hl 0 rfl) ?_
  refine zv_get (C := "ScaledNumeralDesk$Buffer") (T := TU) (N := 2) hx hb hg uU_in hown hK hH q0lt c0 rfl 1 (by decide) (hg _ wm_102) (fun _ h9 => h9) rfl d_U_isWordFrom_1 ?_
  refine lv_iload_n hx hb d_U_isWordFrom_4 rfl (lv_at hl 1 rfl) ?_
  refine zv_isub hx hb d_U_isWordFrom_5 ?_
  refine lv_aload_n hx hb d_U_isWordFrom_6 rfl (lv_at hl 2 rfl) ?_
  refine z_calli (va_runV (As := []) (rest := [.int (iI (us - st1))]) ⟨hx, hb, hml, hown, hts⟩ (c_strlen (l := l) (E := E) (w0 := w0) (i := wi) (hi := by omega) s.heap.size) (z_cwV (C := "java/lang/String") 0 hg wm_177 wm_174 wm_10 wm_175 wm_176 (by decide +kernel) ⟨Nat.le_of_ble_eq_true rfl, Nat.le_of_ble_eq_true rfl⟩) (z_preVs (i := wi) (by omega) hK hG hn hH hA) rfl rfl hl.1 rfl (lv_room (Nat.le_of_ble_eq_true rfl)) d_U_isWordFrom_7 ⟨Nat.zero_le _, Nat.zero_le _⟩) hH hA (fun n7 w3 H1 lc2 hH4 p7 => ?_)
  obtain ⟨ew5, p7⟩ := p7
  rw [ew5] at hH4
  replace p7 : n7 = lenZ wi := p7
  have b7 := lenZ_in hwi
  subst p7
  refine zv_icmp_eq (tgt := 15) hx hb d_U_isWordFrom_10 rfl (by omega) (by omega) (fun h6 => ?_) (fun h6 => ?_)
  · refine zv_iconst hx hb d_U_isWordFrom_15 ?_
    refine lv_istore_n (lv' := [(3, .int (iI 0)), (0, .ref (ad E y)), (1, .int (iI st1)), (2, .ref (zg E (5 + wi)))]) hx hb d_U_isWordFrom_16 rfl hl (by decide) rfl (fun ls hl => ?_)
    have L17 : ∀ (fu : Nat) (k : Int) (ls : Array Slot) (H7 : Heap) (lc8 : List Loc), (lv_has ls 4 [(3, .int (iI k)), (0, .ref (ad E y)), (1, .int (iI st1)), (2, .ref (zg E (5 + wi)))]) → (zH E w0 (va_A (wl E w0) s.heap.size) s.heap H7 lc8) → (0 ≤ k ∧ k ≤ lenZ wi) → (∀ j : Int, 0 ≤ j → j < k → lw (ch (st1 + j)) = chZ wi j) → (lenZ wi - k < (fu : Int)) → W p l e rm_U_word s m a below meth cd H7 lc8 0 0 Qf (F0 m 17 ls []) := by
      intro fu
      induction fu with
      | zero => intro k ls H7 lc8 hl hH hk0 hz hm; exact absurd hm (by omega)
      | succ fu ih =>
        intro k ls H7 lc8 hl hH hk0 hz hm
        refine lv_iload_n hx hb d_U_isWordFrom_17 rfl (lv_at hl 0 rfl) ?_
        refine lv_aload_n hx hb d_U_isWordFrom_18 rfl (lv_at hl 3 rfl) ?_
        refine z_calli (va_runV (As := []) (rest := [.int (iI k)]) ⟨hx, hb, hml, hown, hts⟩ (c_strlen (l := l) (E := E) (w0 := w0) (i := wi) (hi := by omega) H7.size) (z_cwV (C := "java/lang/String") 0 hg wm_177 wm_174 wm_10 wm_175 wm_176 (by decide +kernel) ⟨Nat.le_of_ble_eq_true rfl, Nat.le_of_ble_eq_true rfl⟩) (z_preVs (i := wi) (by omega) hK hG hn hH hA) rfl rfl hl.1 rfl (lv_room (Nat.le_of_ble_eq_true rfl)) d_U_isWordFrom_19 ⟨Nat.zero_le _, Nat.zero_le _⟩) hH hA (fun n19 w11 H9 lc10 hH12 p19 => ?_)
        obtain ⟨ew13, p19⟩ := p19
        rw [ew13] at hH12
        replace p19 : n19 = lenZ wi := p19
        subst p19
        refine zv_icmp_ge (tgt := 52) hx hb d_U_isWordFrom_22 rfl (by omega) (by omega) (fun h14 => ?_) (fun h14 => ?_)
        · refine zv_iconst hx hb d_U_isWordFrom_52 ?_
          rw [hQ]
          exact z_zret hx hb hr hlk hH12 (⟨rfl, Or.inl ⟨rfl, by omega, fun j g1 g2 => hz j g1 (by omega)⟩⟩) (by exact nar_z (by omega)) d_U_isWordFrom_53
        · refine lv_aload_n hx hb d_U_isWordFrom_25 rfl (lv_at hl 1 rfl) ?_
          refine zv_get (C := "ScaledNumeralDesk$Buffer") (T := TU) (N := 2) hx hb hg uU_in hown hK hH12 q0lt c0 rfl 0 (by decide) (hg _ wm_101) (fun _ h9 => h9) rfl d_U_isWordFrom_26 ?_
          refine lv_iload_n hx hb d_U_isWordFrom_29 rfl (lv_at hl 2 rfl) ?_
          refine lv_iload_n hx hb d_U_isWordFrom_30 rfl (lv_at hl 0 rfl) ?_
          refine zv_iadd hx hb d_U_isWordFrom_31 ?_
          refine zv_cald hx hb hK hH12 q1lt c1 (by omega) (by omega) (by omega) d_U_isWordFrom_32 ?_
          have b15 := bch (st1 + k) (by omega) (by omega)
          refine z_calli (va_runS (As := [.int (iI (ch (st1 + k)))]) (rest := []) ⟨hx, hb, hml, hown, hts⟩ (c_U_lower (l := l) (E := E) (w0 := w0) (x := ch (st1 + k)) (hx0 := by omega) H9.size) (z_cwS 1 hg wm_186 wm_184 wm_7 wm_185 (by decide +kernel) ⟨Nat.le_of_ble_eq_true rfl, Nat.le_of_ble_eq_true rfl⟩) (z_preS hK hG hn hH12 hA) rfl rfl hl.1 rfl (lv_room (Nat.le_of_ble_eq_true rfl)) d_U_isWordFrom_33 ⟨Nat.zero_le _, Nat.zero_le _⟩) hH12 hA (fun l33 w18 H16 lc17 hH19 p33 => ?_)
          obtain ⟨ew20, p33⟩ := p33
          rw [ew20] at hH19
          replace p33 : (65 ≤ (ch (st1 + k)) ∧ (ch (st1 + k)) ≤ 90 ∧ l33 = (ch (st1 + k)) + 32) ∨ (¬ (65 ≤ (ch (st1 + k)) ∧ (ch (st1 + k)) ≤ 90) ∧ l33 = (ch (st1 + k))) := p33
          have q33 := lw_of p33
          refine lv_aload_n hx hb d_U_isWordFrom_36 rfl (lv_at hl 3 rfl) ?_
          refine lv_iload_n hx hb d_U_isWordFrom_37 rfl (lv_at hl 0 rfl) ?_
          refine z_calli (va_runV (As := [.int (iI k)]) (rest := [.int (iI l33)]) ⟨hx, hb, hml, hown, hts⟩ (c_charAt (l := l) (E := E) (w0 := w0) (i := wi) (k := k) (hi := by omega) (hk := by omega) H16.size) (z_cwV (C := "java/lang/String") 1 hg wm_190 wm_187 wm_10 wm_188 wm_189 (by decide +kernel) ⟨Nat.le_of_ble_eq_true rfl, Nat.le_of_ble_eq_true rfl⟩) (z_preVs (i := wi) (by omega) hK hG hn hH19 hA) rfl rfl hl.1 rfl (lv_room (Nat.le_of_ble_eq_true rfl)) d_U_isWordFrom_38 ⟨Nat.zero_le _, Nat.zero_le _⟩) hH19 hA (fun c38 w23 H21 lc22 hH24 p38 => ?_)
          obtain ⟨ew25, p38⟩ := p38
          rw [ew25] at hH24
          replace p38 : c38 = chZ wi k := p38
          have q38 := chZ_in wi k
          rw [← p38] at q38
          refine zv_icmp_eq (tgt := 46) hx hb d_U_isWordFrom_41 rfl (by omega) (by omega) (fun h26 => ?_) (fun h26 => ?_)
          · refine zv_iinc (k := 0) (lv' := [(3, .int (iI (k + 1))), (0, .ref (ad E y)), (1, .int (iI st1)), (2, .ref (zg E (5 + wi)))]) hx hb d_U_isWordFrom_46 hl rfl (by decide) rfl (fun ls hl => ?_)
            refine lv_goto (tgt := 17) hx hb d_U_isWordFrom_49 rfl ?_
            exact ih  (k + 1) _ H21 lc22 (lv_sub hl [0, 1, 2, 3] rfl) hH24 (by omega) (by intro j g1 g2; by_cases e9 : j = k; rw [e9, ← q33, ← p38]; omega; exact hz j g1 (by omega)) (by omega)
          · refine zv_iconst hx hb d_U_isWordFrom_44 ?_
            rw [hQ]
            exact z_zret hx hb hr hlk hH24 (⟨rfl, Or.inr ⟨rfl, fun h0 => absurd (h0.2 k hk0.1 (by omega)) (by rw [← q33, ← p38]; omega)⟩⟩) (by exact nar_z (by omega)) d_U_isWordFrom_45
    exact L17 ((lenZ wi - 0 : Int).toNat + 1) 0 _ H1 lc2 (lv_sub hl [0, 1, 2, 3] rfl) hH4 (by omega) (by intro j g1 g2; omega) (by omega)
  · refine zv_iconst hx hb d_U_isWordFrom_13 ?_
    rw [hQ]
    exact z_zret hx hb hr hlk hH4 (⟨rfl, Or.inr ⟨rfl, fun h0 => absurd h0.1 (by omega)⟩⟩) (by exact nar_z (by omega)) d_U_isWordFrom_14
