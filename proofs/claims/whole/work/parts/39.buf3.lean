theorem nx_U_place_0 {lq y : Nat} (hly : y + 1 < lq) : y ≠ lq := by omega
theorem nx_U_place_1 {lq y : Nat} (hly : y + 1 < lq) : y + 1 ≠ lq := by omega
def rm_U_place : Room := { frames := 1, cells := 0, slots := 0, locals := 24 }
set_option maxHeartbeats 4000000 in
set_option maxRecDepth 100000 in
theorem c_U_place (l : Launch) (E : zE) (w0 : zW) (y : Nat) (us : Int) (ch : Int → Int) (lq : Nat) (st1 en fi pt : Int) (f : Int → Int) (q0lt : y < zn E) (q1lt : y + 1 < zn E) (q2lt : lq < zn E) (c0 : w0 y = .inr (3, [.ref (ad E (y + 1)), .int (iI us)])) (c1 : w0 (y + 1) = zac E 80 ch) (c2 : w0 lq = zar E 15 f) (bch : bd ch 80 0 126) (hus : 0 ≤ us ∧ us ≤ 80) (bf : bd f 15 0 9999) (hly : y + 1 < lq) (hN : NumR ch us st1 en pt) (h0 : 0 ≤ st1) (hfi : -10000 ≤ fi ∧ fi ≤ 10000) (hf0 : V f 15 = 0) : zM l y_U_placeDigits ws_U_placeDigits rm_U_place E [.ref (ad E y), .int (iI st1), .int (iI en), .int (iI fi), .ref (ad E lq)] w0 (zQi E w0 (fun z w' => (∃ (f' : Int → Int), w' lq = zar E 15 f' ∧ bd f' 15 0 9999 ∧ ((z = 0 ∧ BigR (Dg ch pt st1 en) (fi + 1 - Cn pt st1 en)) ∨ (z = 1 ∧ V f' 15 = PdV (Dg ch pt st1 en) (fi + 1 - Cn pt st1 en) ∧ V f' 15 ≤ Tp 56))) ∧ ∀ k, k ≠ lq → w' k = w0 k)) := by
  refine z_met (cc := b_U_placeDigits) (maxL := 9) (ret := (some .boolean)) (by decide +kernel) rfl (Nat.le_of_ble_eq_true rfl) ?_
  intro p e s m below meth cd ls a Qf hQ hC hl hH
  obtain ⟨hF, hr, hlk, hK, hG, hn⟩ := hC
  obtain ⟨hx, hb, hml, hown, hts⟩ := hF
  have hg : ∀ w ∈ GW, w.before a s = true := fun w h => hts w (List.mem_cons_of_mem _ h)
  have hA : ∀ q, s.heap.size ≤ q → va_A (wl E w0) s.heap.size q := fun q h => Or.inr h
  have hl : lv_has ls 9 [(0, .ref (ad E y)), (1, .int (iI st1)), (2, .int (iI en)), (3, .int (iI fi)), (4, .ref (ad E lq))] := hl
  have n1 := hN.1
  have n2 := hN.2.1
  have n3 := hN.2.2.1
  have t56 : Tp 56 = Bp 14 := (Bp_Tp (i := 14) (by decide)).symm
  have b15 : Bp 15 = 10000 * Bp 14 := Bp_s (i := 14) (by decide)
  have p14 := Bp_pos 14
  refine lv_iload_n hx hb d_U_placeDigits_0 rfl (lv_at hl 3 rfl) ?_
  refine lv_istore (lv' := [(5, .int (iI fi)), (0, .ref (ad E y)), (1, .int (iI st1)), (2, .int (iI en)), (3, .int (iI fi)), (4, .ref (ad E lq))]) hx hb d_U_placeDigits_1 hl (by decide) rfl (fun ls hl => ?_)
  refine zv_iconst hx hb d_U_placeDigits_3 ?_
  refine lv_istore (lv' := [(6, .int (iI 0)), (5, .int (iI fi)), (0, .ref (ad E y)), (1, .int (iI st1)), (2, .int (iI en)), (3, .int (iI fi)), (4, .ref (ad E lq))]) hx hb d_U_placeDigits_4 hl (by decide) rfl (fun ls hl => ?_)
  refine lv_iload_n hx hb d_U_placeDigits_6 rfl (lv_at hl 3 rfl) ?_
  refine lv_istore (lv' := [(7, .int (iI st1)), (6, .int (iI 0)), (5, .int (iI fi)), (0, .ref (ad E y)), (1, .int (iI st1)), (2, .int (iI en)), (3, .int (iI fi)), (4, .ref (ad E lq))]) hx hb d_U_placeDigits_7 hl (by decide) rfl (fun ls hl => ?_)
  have L9 : ∀ (fu : Nat) (i : Int) (x : Int) (u : Int) (h : Int → Int) (ls : Array Slot) (H1 : Heap) (lc2 : List Loc) (w3 : zW), (lv_has ls 9 [(0, .ref (ad E y)), (1, .int (iI st1)), (2, .int (iI en)), (3, .int (iI fi)), (4, .ref (ad E lq)), (5, .int (iI x)), (6, .int (iI u)), (7, .int (iI i))]) → (zH E w3 (va_A (wl E w0) s.heap.size) s.heap H1 lc2) → (w3 y = .inr (3, [.ref (ad E (y + 1)), .int (iI us)])) → (w3 (y + 1) = zac E 80 ch) → (w3 lq = zar E 15 h) → (∀ k, k ≠ lq → w3 k = w0 k) → (bd h 15 0 9999) → (st1 ≤ i ∧ i ≤ en) → (u = 0 ∨ u = 1) → (x = fi - Cn pt st1 i ∧ -10100 ≤ x ∧ x ≤ 10000 ∧ fi - (i - st1) ≤ x) → (PDr (Dg ch pt st1 i) (x + 1) (V h 15) u) → (V h 15 < Tp 56) → (en - i < (fu : Int)) → W p l e rm_U_place s m a below meth cd H1 lc2 0 0 Qf (F0 m 9 ls []) := by
    intro fu
    induction fu with
    | zero => intro i x u h ls H1 lc2 w3 hl hH e4 e5 e6 hf7 bh hi hu hx0 hP hb9 hm; exact absurd hm (by omega)
    | succ fu ih =>
      intro i x u h ls H1 lc2 w3 hl hH e4 e5 e6 hf7 bh hi hu hx0 hP hb9 hm
      refine lv_iload hx hb d_U_placeDigits_9 (lv_at hl 7 rfl) ?_
      refine lv_iload_n hx hb d_U_placeDigits_11 rfl (lv_at hl 2 rfl) ?_
      refine zv_icmp_ge (tgt := 122) hx hb d_U_placeDigits_12 rfl (by omega) (by omega) (fun h8 => ?_) (fun h8 => ?_)
      · refine lv_iload hx hb d_U_placeDigits_122 (lv_at hl 6 rfl) ?_
        refine zv_if_eq (tgt := 133) hx hb d_U_placeDigits_124 rfl (by omega) (fun h9 => ?_) (fun h9 => ?_)
        · refine zv_iconst hx hb d_U_placeDigits_133 ?_
          have i9 : i = en := by omega
          rw [i9] at hP
          rw [i9] at hx0
          rw [show x + 1 = fi + 1 - Cn pt st1 en by omega] at hP
          have u0 : u = 0 := by omega
          rw [u0] at hP
          rw [hQ]
          exact z_zret hx hb hr hlk hH (⟨⟨h, e6, bh, Or.inr ⟨rfl, (PdV_0 hP).symm, by omega⟩⟩, (fun k g0 => hf7 k g0)⟩) (by exact nar_z (by omega)) d_U_placeDigits_134
        · refine lv_aload hx hb d_U_placeDigits_127 (lv_at hl 4 rfl) ?_
          refine zv_iconst hx hb d_U_placeDigits_129 ?_
          refine z_callv (va_runS (As := [.ref (ad E lq), .int (iI 0)]) (rest := []) ⟨hx, hb, hml, hown, hts⟩ (c_addOneAt (l := l) (E := E) (w0 := w3) (q := lq) (N := 15) (f := h) (x := 0) (q0lt := q2lt) (c0 := e6) (hN := by omega) (bf := bh) (hp := by omega) H1.size) (z_cwS 2 hg wm_288 wm_286 wm_16 wm_287 (by decide +kernel) ⟨Nat.le_of_ble_eq_true rfl, Nat.le_of_ble_eq_true rfl⟩) (z_preS hK hG hn hH hA) rfl rfl hl.1 rfl (lv_room (Nat.le_of_ble_eq_true rfl)) d_U_placeDigits_130 ⟨Nat.zero_le _, Nat.zero_le _⟩) hH hA (fun  w12 H10 lc11 hH13 p130 => ?_)
          obtain ⟨⟨f_14, e15, bd16, p130⟩, hg17⟩ := p130
          replace bd16 : bd f_14 15 0 9999 := bd16
          replace p130 : V f_14 15 = (if (0 : Int) < 0 then V h 15 else (V h 15 + Tp (0 : Int)) % Bp 15) := p130
          have e18 : w12 y = .inr (3, [.ref (ad E (y + 1)), .int (iI us)]) := (hg17 y (nx_U_place_0 hly)).trans e4
          have e19 : w12 (y + 1) = zac E 80 ch := (hg17 (y + 1) (nx_U_place_1 hly)).trans e5
          have hf20 : ∀ k, k ≠ lq → w12 k = w0 k := fun k g0 => (hg17 k g0).trans (hf7 k g0)
          refine zv_iconst hx hb d_U_placeDigits_133 ?_
          have i9 : i = en := by omega
          rw [i9] at hP
          rw [i9] at hx0
          rw [show x + 1 = fi + 1 - Cn pt st1 en by omega] at hP
          have u1 : u = 1 := by omega
          rw [u1] at hP
          have vh := V_in bh (show (0 : Int) ≤ 15 by decide) (Int.le_refl 15)
          have p9 := p130.trans (if_neg (by decide))
          rw [Tp_0, Int.emod_eq_of_lt (by omega) (by omega)] at p9
          rw [hQ]
          exact z_zret hx hb hr hlk hH13 (⟨⟨f_14, e15, bd16, Or.inr ⟨rfl, by rw [p9, PdV_1 hP], by omega⟩⟩, (fun k g0 => hf20 k g0)⟩) (by exact nar_z (by omega)) d_U_placeDigits_134
      · refine lv_aload_n hx hb d_U_placeDigits_15 rfl (lv_at hl 0 rfl) ?_
        refine zv_get (C := "ScaledNumeralDesk$Buffer") (T := TU) (N := 2) hx hb hg uU_in hown hK hH q0lt e4 rfl 0 (by decide) (hg _ wm_101) (fun _ h9 => h9) rfl d_U_placeDigits_16 ?_
        refine lv_iload hx hb d_U_placeDigits_19 (lv_at hl 7 rfl) ?_
        refine zv_cald hx hb hK hH q1lt e5 (by omega) (by omega) (by omega) d_U_placeDigits_21 ?_
        have b21 := bch i (by omega) (by omega)
        refine zv_bipush hx hb d_U_placeDigits_22 rfl ?_
        refine zv_icmp_ne (tgt := 30) hx hb d_U_placeDigits_24 rfl (by omega) (by omega) (fun h22 => ?_) (fun h22 => ?_)
        · have hnp : i ≠ pt := fun hh => by
            have h46 := hN.2.2.2.2.1 (by omega)
            rw [← hh] at h46
            omega
          have hdg := hN.2.2.2.1 i hi.1 (by omega) hnp
          refine lv_aload_n hx hb d_U_placeDigits_30 rfl (lv_at hl 0 rfl) ?_
          refine zv_get (C := "ScaledNumeralDesk$Buffer") (T := TU) (N := 2) hx hb hg uU_in hown hK hH q0lt e4 rfl 0 (by decide) (hg _ wm_101) (fun _ h9 => h9) rfl d_U_placeDigits_31 ?_
          refine lv_iload hx hb d_U_placeDigits_34 (lv_at hl 7 rfl) ?_
          refine zv_cald hx hb hK hH q1lt e5 (by omega) (by omega) (by omega) d_U_placeDigits_36 ?_
          have b23 := bch i (by omega) (by omega)
          refine zv_bipush hx hb d_U_placeDigits_37 rfl ?_
          refine zv_isub hx hb d_U_placeDigits_39 ?_
          refine lv_istore (lv' := [(8, .int (iI ((ch i) - 48))), (0, .ref (ad E y)), (1, .int (iI st1)), (2, .int (iI en)), (3, .int (iI fi)), (4, .ref (ad E lq)), (5, .int (iI x)), (6, .int (iI u)), (7, .int (iI i))]) hx hb d_U_placeDigits_40 hl (by decide) rfl (fun ls hl => ?_)
          have L56 : ∀  (ls : Array Slot) (H24 : Heap) (lc25 : List Loc), (lv_has ls 9 [(8, .int (iI ((ch i) - 48))), (0, .ref (ad E y)), (1, .int (iI st1)), (2, .int (iI en)), (3, .int (iI fi)), (4, .ref (ad E lq)), (5, .int (iI x)), (6, .int (iI u)), (7, .int (iI i))]) → (zH E w3 (va_A (wl E w0) s.heap.size) s.heap H24 lc25) → (x < 56 ∨ ch i - 48 = 0) → W p l e rm_U_place s m a below meth cd H24 lc25 0 0 Qf (F0 m 56 ls []) := by
            intro ls H24 lc25 hl hH h56
            have L89 : ∀ (h2 : Int → Int) (ls : Array Slot) (H26 : Heap) (lc27 : List Loc) (w28 : zW), (lv_has ls 9 [(8, .int (iI ((ch i) - 48))), (0, .ref (ad E y)), (1, .int (iI st1)), (2, .int (iI en)), (3, .int (iI fi)), (4, .ref (ad E lq)), (5, .int (iI x)), (6, .int (iI u)), (7, .int (iI i))]) → (zH E w28 (va_A (wl E w0) s.heap.size) s.heap H26 lc27) → (w28 y = .inr (3, [.ref (ad E (y + 1)), .int (iI us)])) → (w28 (y + 1) = zac E 80 ch) → (w28 lq = zar E 15 h2) → (∀ k, k ≠ lq → w28 k = w0 k) → (bd h2 15 0 9999) → ((0 ≤ x ∧ x < 56 ∧ V h2 15 = V h 15 + (ch i - 48) * Tp x) ∨ (¬ (0 ≤ x ∧ x < 56) ∧ V h2 15 = V h 15)) → W p l e rm_U_place s m a below meth cd H26 lc27 0 0 Qf (F0 m 89 ls []) := by
              intro h2 ls H26 lc27 w28 hl hH e29 e30 e31 hf32 bh2 hv2
              have L111 : ∀ (u2 : Int) (ls : Array Slot) (H33 : Heap) (lc34 : List Loc), (lv_has ls 9 [(8, .int (iI ((ch i) - 48))), (0, .ref (ad E y)), (1, .int (iI st1)), (2, .int (iI en)), (3, .int (iI fi)), (4, .ref (ad E lq)), (5, .int (iI x)), (6, .int (iI u)), (7, .int (iI i))]) → (zH E w28 (va_A (wl E w0) s.heap.size) s.heap H33 lc34) → ((u2 = 1 ∧ (u = 1 ∨ (x = -1 ∧ 5 ≤ ch i - 48))) ∨ (u2 = 0 ∧ ¬ (u = 1 ∨ (x = -1 ∧ 5 ≤ ch i - 48)))) → W p l e rm_U_place s m a below meth cd H33 lc34 0 0 Qf (F0 m 111 ls [.int (iI u2)]) := by
                intro u2 ls H33 lc34 hl hH hu2
                have stp := PDr_step hP (Dg_n0 hN hi.1 hi.2) ⟨by omega, by omega⟩ hb9 h56 hv2 hu2
                refine lv_istore (lv' := [(6, .int (iI u2)), (8, .int (iI ((ch i) - 48))), (0, .ref (ad E y)), (1, .int (iI st1)), (2, .int (iI en)), (3, .int (iI fi)), (4, .ref (ad E lq)), (5, .int (iI x)), (7, .int (iI i))]) hx hb d_U_placeDigits_111 hl (by decide) rfl (fun ls hl => ?_)
                refine zv_iinc (k := 7) (lv' := [(5, .int (iI (x + (-1)))), (6, .int (iI u2)), (8, .int (iI ((ch i) - 48))), (0, .ref (ad E y)), (1, .int (iI st1)), (2, .int (iI en)), (3, .int (iI fi)), (4, .ref (ad E lq)), (7, .int (iI i))]) hx hb d_U_placeDigits_113 hl rfl (by decide) rfl (fun ls hl => ?_)
                refine zv_iinc (k := 8) (lv' := [(7, .int (iI (i + 1))), (5, .int (iI (x + (-1)))), (6, .int (iI u2)), (8, .int (iI ((ch i) - 48))), (0, .ref (ad E y)), (1, .int (iI st1)), (2, .int (iI en)), (3, .int (iI fi)), (4, .ref (ad E lq))]) hx hb d_U_placeDigits_116 hl rfl (by decide) rfl (fun ls hl => ?_)
                refine lv_goto (tgt := 9) hx hb d_U_placeDigits_119 rfl ?_
                exact ih  (i + 1) (x + (-1)) u2 h2 _ H33 lc34 w28 (lv_sub hl [4, 5, 6, 7, 8, 1, 2, 0] rfl) hH e29 e30 e31 (fun k g0 => hf32 k g0) (by assumption) (by omega) (by omega) (by first | (rw [Cn_p hpt]; omega) | (rw [Cn_d hnp]; omega)) (by first | (rw [Dg_p ch hi.1 hpt]; exact hP) | (rw [Dg_d ch hi.1 hnp, show x + (-1) + 1 = x by omega]; exact stp.1)) (by first | exact stp.2 | assumption) (by omega)
              refine lv_iload hx hb d_U_placeDigits_89 (lv_at hl 7 rfl) ?_
              refine zv_if_ne (tgt := 106) hx hb d_U_placeDigits_91 rfl (by omega) (fun h35 => ?_) (fun h35 => ?_)
              · refine zv_iconst hx hb d_U_placeDigits_106 ?_
                refine lv_goto (tgt := 111) hx hb d_U_placeDigits_107 rfl ?_
                exact L111 1 _ H26 lc27 (lv_sub hl [0, 1, 2, 3, 4, 5, 6, 7, 8] rfl) hH (by omega)
              · refine lv_iload hx hb d_U_placeDigits_94 (lv_at hl 6 rfl) ?_
                refine zv_iconst hx hb d_U_placeDigits_96 ?_
                refine zv_icmp_ne (tgt := 110) hx hb d_U_placeDigits_97 rfl (by omega) (by omega) (fun h36 => ?_) (fun h36 => ?_)
                · refine zv_iconst hx hb d_U_placeDigits_110 ?_
                  exact L111 0 _ H26 lc27 (lv_sub hl [0, 1, 2, 3, 4, 5, 6, 7, 8] rfl) hH (by omega)
                · refine lv_iload hx hb d_U_placeDigits_100 (lv_at hl 0 rfl) ?_
                  refine zv_iconst hx hb d_U_placeDigits_102 ?_
                  refine zv_icmp_lt (tgt := 110) hx hb d_U_placeDigits_103 rfl (by omega) (by omega) (fun h37 => ?_) (fun h37 => ?_)
                  · refine zv_iconst hx hb d_U_placeDigits_110 ?_
                    exact L111 0 _ H26 lc27 (lv_sub hl [0, 1, 2, 3, 4, 5, 6, 7, 8] rfl) hH (by omega)
                  · refine zv_iconst hx hb d_U_placeDigits_106 ?_
                    refine lv_goto (tgt := 111) hx hb d_U_placeDigits_107 rfl ?_
                    exact L111 1 _ H26 lc27 (lv_sub hl [0, 1, 2, 3, 4, 5, 6, 7, 8] rfl) hH (by omega)
            refine lv_iload hx hb d_U_placeDigits_56 (lv_at hl 6 rfl) ?_
            refine zv_if_lt (tgt := 89) hx hb d_U_placeDigits_58 rfl (by omega) (fun h38 => ?_) (fun h38 => ?_)
            · exact L89 h _ H24 lc25 w3 (lv_sub hl [0, 1, 2, 3, 4, 5, 6, 7, 8] rfl) hH e4 e5 e6 (fun k g0 => hf7 k g0) (by first | assumption | exact bh) (by first | exact Or.inl ⟨by omega, by omega, lbi.2.2⟩ | exact Or.inr ⟨by omega, rfl⟩)
            · refine lv_iload hx hb d_U_placeDigits_61 (lv_at hl 6 rfl) ?_
              refine zv_bipush hx hb d_U_placeDigits_63 rfl ?_
              refine zv_icmp_ge (tgt := 89) hx hb d_U_placeDigits_65 rfl (by omega) (by omega) (fun h39 => ?_) (fun h39 => ?_)
              · exact L89 h _ H24 lc25 w3 (lv_sub hl [0, 1, 2, 3, 4, 5, 6, 7, 8] rfl) hH e4 e5 e6 (fun k g0 => hf7 k g0) (by first | assumption | exact bh) (by first | exact Or.inl ⟨by omega, by omega, lbi.2.2⟩ | exact Or.inr ⟨by omega, rfl⟩)
              · have lbi := lb_in (d := ch i - 48) bh ⟨by omega, by omega⟩ ⟨by omega, by omega⟩ (PDr_mod hP (by omega))
                have dti := dT_in (d := ch i - 48) (r := x % 4) ⟨by omega, by omega⟩ ⟨by omega, by omega⟩
                refine lv_aload hx hb d_U_placeDigits_68 (lv_at hl 5 rfl) ?_
                refine lv_iload hx hb d_U_placeDigits_70 (lv_at hl 6 rfl) ?_
                refine zv_iconst hx hb d_U_placeDigits_72 ?_
                refine zv_idiv hx hb (by omega) (by omega) (by omega) (by omega) d_U_placeDigits_73 ?_
                refine lv_dup2_11 hx hb d_U_placeDigits_74 rfl rfl ?_
                refine zv_iald hx hb hK hH q2lt e6 (by omega) (by omega) (by omega) d_U_placeDigits_75 ?_
                have b40 := bh (x / 4) (by omega) (by omega)
                refine lv_iload hx hb d_U_placeDigits_76 (lv_at hl 0 rfl) ?_
                refine zv_tens hx hb hG hH hown (hn.2.1.use rfl) (fun _ h9 => h9) d_U_placeDigits_78 ?_
                refine lv_iload hx hb d_U_placeDigits_81 (lv_at hl 6 rfl) ?_
                refine zv_iconst hx hb d_U_placeDigits_83 ?_
                refine zv_irem hx hb (by omega) (by omega) (by omega) (by omega) d_U_placeDigits_84 ?_
                refine zv_tenld hx hb hG hH (by omega) (by omega) d_U_placeDigits_85 ?_
                have b41 := Tp_in (i := x % 4) (by omega) (by omega)
                refine zv_imul hx hb d_U_placeDigits_86 ?_
                refine zv_iadd hx hb d_U_placeDigits_87 ?_
                refine zv_iast hx hb hK hH q2lt e6 (by omega) (by omega) (by omega) d_U_placeDigits_88 (fun H43 lc44 w42 hH45 e46 hg47 => ?_)
                have bd48 := bd_up bh (x / 4) ((h (x / 4)) + (((ch i) - 48) * (Tp (x % 4)))) (by omega)
                have e49 : w42 y = .inr (3, [.ref (ad E (y + 1)), .int (iI us)]) := (hg47 y (nx_U_place_0 hly)).trans e4
                have e50 : w42 (y + 1) = zac E 80 ch := (hg47 (y + 1) (nx_U_place_1 hly)).trans e5
                have hf51 : ∀ k, k ≠ lq → w42 k = w0 k := fun k g0 => (hg47 k g0).trans (hf7 k g0)
                exact L89 (up h (x / 4) ((h (x / 4)) + (((ch i) - 48) * (Tp (x % 4))))) _ H43 lc44 w42 (lv_sub hl [0, 1, 2, 3, 4, 5, 6, 7, 8] rfl) hH45 e49 e50 e46 (fun k g0 => hf51 k g0) (by first | assumption | exact bh) (by first | exact Or.inl ⟨by omega, by omega, lbi.2.2⟩ | exact Or.inr ⟨by omega, rfl⟩)
          refine lv_iload hx hb d_U_placeDigits_42 (lv_at hl 6 rfl) ?_
          refine zv_bipush hx hb d_U_placeDigits_44 rfl ?_
          refine zv_icmp_lt (tgt := 56) hx hb d_U_placeDigits_46 rfl (by omega) (by omega) (fun h52 => ?_) (fun h52 => ?_)
          · exact L56 _ H1 lc2 (lv_sub hl [0, 1, 2, 3, 4, 5, 6, 7, 8] rfl) hH (by omega)
          · refine lv_iload hx hb d_U_placeDigits_49 (lv_at hl 0 rfl) ?_
            refine zv_if_eq (tgt := 56) hx hb d_U_placeDigits_51 rfl (by omega) (fun h53 => ?_) (fun h53 => ?_)
            · exact L56 _ H1 lc2 (lv_sub hl [0, 1, 2, 3, 4, 5, 6, 7, 8] rfl) hH (by omega)
            · refine zv_iconst hx hb d_U_placeDigits_54 ?_
              rw [hQ]
              exact z_zret hx hb hr hlk hH (⟨⟨h, e6, bh, Or.inl ⟨rfl, Big_all hN (by omega : st1 ≤ i + 1) (by omega) (by rw [Dg_d ch hi.1 hnp, Cn_d hnp, show fi + 1 - (Cn pt st1 i + 1) = x by omega]; exact Big_new (Dg_n0 hN hi.1 hi.2) (by omega) (by omega))⟩⟩, (fun k g0 => hf7 k g0)⟩) (by exact nar_z (by omega)) d_U_placeDigits_55
        · have hpt : i = pt := by
            refine Classical.byContradiction (fun hh => ?_)
            have := hN.2.2.2.1 i hi.1 (by omega) hh
            omega
          refine lv_goto (tgt := 116) hx hb d_U_placeDigits_27 rfl ?_
          refine zv_iinc (k := 7) (lv' := [(7, .int (iI (i + 1))), (0, .ref (ad E y)), (1, .int (iI st1)), (2, .int (iI en)), (3, .int (iI fi)), (4, .ref (ad E lq)), (5, .int (iI x)), (6, .int (iI u))]) hx hb d_U_placeDigits_116 hl rfl (by decide) rfl (fun ls hl => ?_)
          refine lv_goto (tgt := 9) hx hb d_U_placeDigits_119 rfl ?_
          exact ih  (i + 1) x u h _ H1 lc2 w3 (lv_sub hl [1, 2, 3, 4, 5, 6, 7, 0] rfl) hH e4 e5 e6 (fun k g0 => hf7 k g0) (by assumption) (by omega) (by omega) (by first | (rw [Cn_p hpt]; omega) | (rw [Cn_d hnp]; omega)) (by first | (rw [Dg_p ch hi.1 hpt]; exact hP) | (rw [Dg_d ch hi.1 hnp, show x + (-1) + 1 = x by omega]; exact stp.1)) (by first | exact stp.2 | assumption) (by omega)
  exact L9 ((en - st1 : Int).toNat + 1) st1 fi 0 f _ s.heap ([]) w0 (lv_sub hl [3, 4, 5, 6, 7, 2, 1, 0] rfl) hH c0 c1 c2 (fun k _ => rfl) (by exact bf) (by omega) (by omega) (by rw [Cn_0 n1]; omega) (by rw [Dg_0, hf0]; by_cases g9 : 0 ≤ fi + 1; exact Or.inl ⟨g9, by omega, rfl⟩; exact Or.inr ⟨by omega, by rw [Int.zero_ediv], Or.inr ⟨rfl, by rw [Int.zero_ediv]; decide⟩⟩) (by rw [hf0]; exact Tp_pos 56) (by omega)
