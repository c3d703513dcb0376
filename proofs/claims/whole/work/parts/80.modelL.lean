theorem nx_M_writeDown_0 {g : Nat}  : g ≠ g + 11 := by omega
theorem nx_M_writeDown_1 {g : Nat}  : g + 5 ≠ g + 11 := by omega
def rm_M_writeDown : Room := { frames := 1, cells := 0, slots := 0, locals := 21 }
set_option maxHeartbeats 4000000 in
set_option maxRecDepth 100000 in
theorem c_M_writeDown (l : Launch) (E : zE) (w0 : zW) (g : Nat) (ty xm ym ne : Int) (ch f : Int → Int) (st en wh pt : Int) (q0lt : g < zn E) (q1lt : g + 5 < zn E) (q2lt : g + 11 < zn E) (c0 : w0 g = .inr (6, [.ref (ad E (g + 1)), .ref (ad E (g + 2)), .ref (ad E (g + 3)), .ref (ad E (g + 4)), .int (iI ty), .ref (ad E (g + 5)), .ref (ad E (g + 6)), .ref (ad E (g + 7)), .ref (ad E (g + 8)), .ref (ad E (g + 9)), .ref (ad E (g + 10)), .int (iI xm), .int (iI ym), .ref (ad E (g + 11)), .int (iI ne), .ref (ad E (g + 12)), .ref (ad E (g + 13))])) (c1 : w0 (g + 5) = zar E 80 ch) (c2 : w0 (g + 11) = zar E 140 f) (bch : bd ch 80 0 126) (hty : 0 ≤ ty ∧ ty ≤ 80) (hN : NumR ch ty st en pt) (h0 : 0 ≤ st) (hwh : -10000 ≤ wh ∧ wh ≤ 10000) (hf0 : ∀ j : Int, 0 ≤ j → j < 140 → f j = 0) : zM l y_M_writeDown ws_M_writeDown rm_M_writeDown E [.ref (ad E g), .int (iI st), .int (iI en), .int (iI wh)] w0 (zQi E w0 (fun z w' => (∃ (f' : Int → Int), w' (g + 11) = zar E 140 f' ∧ bd f' 140 0 9 ∧ ((z = 1 ∧ BigR (Dg ch pt st en) (24 + wh - Cn pt st en)) ∨ (z = 0 ∧ Vt f' 140 = PdX (Dg ch pt st en) (48 + wh - Cn pt st en) ∧ Vt f' 140 < Tp 80))) ∧ ∀ k, k ≠ (g + 11) → w' k = w0 k)) := by
  refine z_met (cc := b_M_writeDown) (maxL := 8) (ret := (some .boolean)) (by decide +kernel) rfl (Nat.le_of_ble_eq_true rfl) ?_
  intro p e s m below meth cd ls a Qf hQ hC hl hH
  obtain ⟨hF, hr, hlk, hK, hG, hn⟩ := hC
  obtain ⟨hx, hb, hml, hown, hts⟩ := hF
  have hg : ∀ w ∈ GW, w.before a s = true := fun w h => hts w (List.mem_cons_of_mem _ h)
  have hA : ∀ q, s.heap.size ≤ q → va_A (wl E w0) s.heap.size q := fun q h => Or.inr h
  have hl : lv_has ls 8 [(0, .ref (ad E g)), (1, .int (iI st)), (2, .int (iI en)), (3, .int (iI wh))] := hl
  have n1 := hN.1
  have n2 := hN.2.1
  have n3 := hN.2.2.1
  refine zv_iconst hx hb d_M_writeDown_0 ?_
  refine lv_istore (lv' := [(4, .int (iI 0)), (0, .ref (ad E g)), (1, .int (iI st)), (2, .int (iI en)), (3, .int (iI wh))]) hx hb d_M_writeDown_1 hl (by decide) rfl (fun ls hl => ?_)
  refine zv_bipush hx hb d_M_writeDown_3 rfl ?_
  refine lv_iload_n hx hb d_M_writeDown_5 rfl (lv_at hl 4 rfl) ?_
  refine zv_iadd hx hb d_M_writeDown_6 ?_
  refine lv_istore (lv' := [(5, .int (iI (47 + wh))), (4, .int (iI 0)), (0, .ref (ad E g)), (1, .int (iI st)), (2, .int (iI en)), (3, .int (iI wh))]) hx hb d_M_writeDown_7 hl (by decide) rfl (fun ls hl => ?_)
  refine lv_iload_n hx hb d_M_writeDown_9 rfl (lv_at hl 3 rfl) ?_
  refine lv_istore (lv' := [(6, .int (iI st)), (5, .int (iI (47 + wh))), (4, .int (iI 0)), (0, .ref (ad E g)), (1, .int (iI st)), (2, .int (iI en)), (3, .int (iI wh))]) hx hb d_M_writeDown_10 hl (by decide) rfl (fun ls hl => ?_)
  have L12 : ∀ (fu : Nat) (i : Int) (x : Int) (la : Int) (h : Int → Int) (ls : Array Slot) (H1 : Heap) (lc2 : List Loc) (w3 : zW), (lv_has ls 8 [(0, .ref (ad E g)), (1, .int (iI st)), (2, .int (iI en)), (3, .int (iI wh)), (4, .int (iI la)), (5, .int (iI x)), (6, .int (iI i))]) → (zH E w3 (va_A (wl E w0) s.heap.size) s.heap H1 lc2) → (w3 g = .inr (6, [.ref (ad E (g + 1)), .ref (ad E (g + 2)), .ref (ad E (g + 3)), .ref (ad E (g + 4)), .int (iI ty), .ref (ad E (g + 5)), .ref (ad E (g + 6)), .ref (ad E (g + 7)), .ref (ad E (g + 8)), .ref (ad E (g + 9)), .ref (ad E (g + 10)), .int (iI xm), .int (iI ym), .ref (ad E (g + 11)), .int (iI ne), .ref (ad E (g + 12)), .ref (ad E (g + 13))])) → (w3 (g + 5) = zar E 80 ch) → (w3 (g + 11) = zar E 140 h) → (∀ k, k ≠ (g + 11) → w3 k = w0 k) → (bd h 140 0 9) → (st ≤ i ∧ i ≤ en) → (la = 0 ∨ la = 1) → (x = 47 + wh - Cn pt st i ∧ -10100 ≤ x ∧ x ≤ 10100 ∧ 47 + wh - (i - st) ≤ x) → ((la = 1 ∧ BigR (Dg ch pt st i) (x + 1 - 24)) ∨ (la = 0 ∧ Vt h 140 = PdX (Dg ch pt st i) (x + 1) ∧ Vt h 140 < Tp 80)) → (∀ j : Int, 0 ≤ j → j ≤ x → j < 140 → h j = 0) → (en - i < (fu : Int)) → W p l e rm_M_writeDown s m a below meth cd H1 lc2 0 0 Qf (F0 m 12 ls []) := by
    intro fu
    induction fu with
    | zero => intro i x la h ls H1 lc2 w3 hl hH e4 e5 e6 hf7 bh hi hla hx0 hP hz hm; exact absurd hm (by omega)
    | succ fu ih =>
      intro i x la h ls H1 lc2 w3 hl hH e4 e5 e6 hf7 bh hi hla hx0 hP hz hm
      refine lv_iload hx hb d_M_writeDown_12 (lv_at hl 6 rfl) ?_
      refine lv_iload_n hx hb d_M_writeDown_14 rfl (lv_at hl 2 rfl) ?_
      refine zv_icmp_ge (tgt := 93) hx hb d_M_writeDown_15 rfl (by omega) (by omega) (fun h8 => ?_) (fun h8 => ?_)
      · refine lv_iload hx hb d_M_writeDown_93 (lv_at hl 4 rfl) ?_
        have i9 : i = en := by omega
        rw [i9] at hP hx0
        rw [show x + 1 - 24 = 24 + wh - Cn pt st en by omega, show x + 1 = 48 + wh - Cn pt st en by omega] at hP
        rw [hQ]
        exact z_zret hx hb hr hlk hH (⟨⟨h, e6, bh, hP⟩, (fun k g0 => hf7 k g0)⟩) (by exact nar_z (by omega)) d_M_writeDown_95
      · refine lv_aload_n hx hb d_M_writeDown_18 rfl (lv_at hl 0 rfl) ?_
        refine lv_iload hx hb d_M_writeDown_19 (lv_at hl 6 rfl) ?_
        refine z_calli (va_runV (As := [.int (iI i)]) (rest := []) ⟨hx, hb, hml, hown, hts⟩ (c_M_isDigit (l := l) (E := E) (w0 := w3) (g := g) (ty := ty) (xm := xm) (ym := ym) (ne := ne) (ch := ch) (i := i) (q0lt := q0lt) (q1lt := q1lt) (c0 := e4) (c1 := e5) (bch := bch) (hty := by omega) (hi0 := by omega) H1.size) (z_cwV (C := "ScaledNumeralDeskModel") 1 hg wm_774 wm_771 wm_9 wm_773 wm_s36 (by decide +kernel) ⟨Nat.le_of_ble_eq_true rfl, Nat.le_of_ble_eq_true rfl⟩) (z_preV (r := ("ScaledNumeralDeskModel", TM, 17)) hK hG hn hH hA q0lt e4 rfl) rfl rfl hl.1 rfl (lv_room (Nat.le_of_ble_eq_true rfl)) d_M_writeDown_21 ⟨Nat.zero_le _, Nat.zero_le _⟩) hH hA (fun z13 w11 H9 lc10 hH12 p21 => ?_)
        obtain ⟨ew14, p21⟩ := p21
        rw [ew14] at hH12
        replace p21 : (z13 = 1 ∧ i < ty ∧ 48 ≤ ch i ∧ ch i ≤ 57) ∨ (z13 = 0 ∧ ¬ (i < ty ∧ 48 ≤ ch i ∧ ch i ≤ 57)) := p21
        refine zv_if_eq (tgt := 87) hx hb d_M_writeDown_24 rfl (by omega) (fun h15 => ?_) (fun h15 => ?_)
        · have hpt : i = pt := by
            refine Classical.byContradiction (fun hh => ?_)
            have := hN.2.2.2.1 i hi.1 (by omega) hh
            omega
          refine zv_iinc (k := 6) (lv' := [(6, .int (iI (i + 1))), (0, .ref (ad E g)), (1, .int (iI st)), (2, .int (iI en)), (3, .int (iI wh)), (4, .int (iI la)), (5, .int (iI x))]) hx hb d_M_writeDown_87 hl rfl (by decide) rfl (fun ls hl => ?_)
          refine lv_goto (tgt := 12) hx hb d_M_writeDown_90 rfl ?_
          exact ih  (i + 1) x la h _ H9 lc10 w3 (lv_sub hl [1, 2, 3, 4, 5, 6, 0] rfl) hH12 e4 e5 e6 (fun k g0 => hf7 k g0) (by first | assumption | exact bh) (by omega) (by omega) (by first | (rw [Cn_p hpt]; omega) | (rw [Cn_d hnp]; omega)) (by first | (rw [Dg_p ch hi.1 hpt]; exact hP) | (rw [Dg_d ch hi.1 hnp, show x + (-1) + 1 = x by omega]; exact stp)) (by first | exact hz | exact (fun j g1 g2 g3 => hz2 j g1 (by omega) g3)) (by omega)
        · have hnp : i ≠ pt := fun hh => by
            have h46 := hN.2.2.2.2.1 (by omega)
            rw [← hh] at h46
            omega
          have hdg := hN.2.2.2.1 i hi.1 (by omega) hnp
          refine lv_aload_n hx hb d_M_writeDown_27 rfl (lv_at hl 0 rfl) ?_
          refine zv_get (C := "ScaledNumeralDeskModel") (T := TM) (N := 17) hx hb hg uM_in hown hK hH12 q0lt e4 rfl 5 (by decide) (hg _ wm_687) (fun _ h9 => h9) rfl d_M_writeDown_28 ?_
          refine lv_iload hx hb d_M_writeDown_31 (lv_at hl 6 rfl) ?_
          refine zv_iald hx hb hK hH12 q1lt e5 (by omega) (by omega) (by omega) d_M_writeDown_33 ?_
          have b16 := bch i (by omega) (by omega)
          refine zv_bipush hx hb d_M_writeDown_34 rfl ?_
          refine zv_isub hx hb d_M_writeDown_36 ?_
          refine lv_istore (lv' := [(7, .int (iI ((ch i) - 48))), (0, .ref (ad E g)), (1, .int (iI st)), (2, .int (iI en)), (3, .int (iI wh)), (4, .int (iI la)), (5, .int (iI x)), (6, .int (iI i))]) hx hb d_M_writeDown_37 hl (by decide) rfl (fun ls hl => ?_)
          have L61 : ∀ (l2 : Int) (ls : Array Slot) (H17 : Heap) (lc18 : List Loc), (lv_has ls 8 [(7, .int (iI ((ch i) - 48))), (0, .ref (ad E g)), (1, .int (iI st)), (2, .int (iI en)), (3, .int (iI wh)), (4, .int (iI la)), (5, .int (iI x)), (6, .int (iI i))]) → (zH E w3 (va_A (wl E w0) s.heap.size) s.heap H17 lc18) → ((l2 = 1 ∧ (la = 1 ∨ (0 < ch i - 48 ∧ 80 ≤ x))) ∨ (l2 = 0 ∧ ¬ (la = 1 ∨ (0 < ch i - 48 ∧ 80 ≤ x)))) → W p l e rm_M_writeDown s m a below meth cd H17 lc18 0 0 Qf (F0 m 61 ls [.int (iI l2)]) := by
            intro l2 ls H17 lc18 hl hH hl2
            refine lv_istore (lv' := [(4, .int (iI l2)), (7, .int (iI ((ch i) - 48))), (0, .ref (ad E g)), (1, .int (iI st)), (2, .int (iI en)), (3, .int (iI wh)), (5, .int (iI x)), (6, .int (iI i))]) hx hb d_M_writeDown_61 hl (by decide) rfl (fun ls hl => ?_)
            have L84 : ∀ (h2 : Int → Int) (ls : Array Slot) (H19 : Heap) (lc20 : List Loc) (w21 : zW), (lv_has ls 8 [(4, .int (iI l2)), (7, .int (iI ((ch i) - 48))), (0, .ref (ad E g)), (1, .int (iI st)), (2, .int (iI en)), (3, .int (iI wh)), (5, .int (iI x)), (6, .int (iI i))]) → (zH E w21 (va_A (wl E w0) s.heap.size) s.heap H19 lc20) → (w21 g = .inr (6, [.ref (ad E (g + 1)), .ref (ad E (g + 2)), .ref (ad E (g + 3)), .ref (ad E (g + 4)), .int (iI ty), .ref (ad E (g + 5)), .ref (ad E (g + 6)), .ref (ad E (g + 7)), .ref (ad E (g + 8)), .ref (ad E (g + 9)), .ref (ad E (g + 10)), .int (iI xm), .int (iI ym), .ref (ad E (g + 11)), .int (iI ne), .ref (ad E (g + 12)), .ref (ad E (g + 13))])) → (w21 (g + 5) = zar E 80 ch) → (w21 (g + 11) = zar E 140 h2) → (∀ k, k ≠ (g + 11) → w21 k = w0 k) → (bd h2 140 0 9) → ((0 ≤ x ∧ x < 80 ∧ Vt h2 140 = Vt h 140 + (ch i - 48) * Tp x) ∨ (¬ (0 ≤ x ∧ x < 80) ∧ Vt h2 140 = Vt h 140)) → (∀ j : Int, 0 ≤ j → j < x → j < 140 → h2 j = 0) → W p l e rm_M_writeDown s m a below meth cd H19 lc20 0 0 Qf (F0 m 84 ls []) := by
              intro h2 ls H19 lc20 w21 hl hH e22 e23 e24 hf25 bh2 hv2 hz2
              have stp := wdn_step (v := Vt h 140) (v2 := Vt h2 140) (Dg_n0 hN hi.1 hi.2) ⟨by omega, by omega⟩ hP hl2 hv2
              refine zv_iinc (k := 6) (lv' := [(5, .int (iI (x + (-1)))), (4, .int (iI l2)), (7, .int (iI ((ch i) - 48))), (0, .ref (ad E g)), (1, .int (iI st)), (2, .int (iI en)), (3, .int (iI wh)), (6, .int (iI i))]) hx hb d_M_writeDown_84 hl rfl (by decide) rfl (fun ls hl => ?_)
              refine zv_iinc (k := 7) (lv' := [(6, .int (iI (i + 1))), (5, .int (iI (x + (-1)))), (4, .int (iI l2)), (7, .int (iI ((ch i) - 48))), (0, .ref (ad E g)), (1, .int (iI st)), (2, .int (iI en)), (3, .int (iI wh))]) hx hb d_M_writeDown_87 hl rfl (by decide) rfl (fun ls hl => ?_)
              refine lv_goto (tgt := 12) hx hb d_M_writeDown_90 rfl ?_
              exact ih  (i + 1) (x + (-1)) l2 h2 _ H19 lc20 w21 (lv_sub hl [4, 5, 6, 7, 2, 1, 0] rfl) hH e22 e23 e24 (fun k g0 => hf25 k g0) (by first | assumption | exact bh) (by omega) (by omega) (by first | (rw [Cn_p hpt]; omega) | (rw [Cn_d hnp]; omega)) (by first | (rw [Dg_p ch hi.1 hpt]; exact hP) | (rw [Dg_d ch hi.1 hnp, show x + (-1) + 1 = x by omega]; exact stp)) (by first | exact hz | exact (fun j g1 g2 g3 => hz2 j g1 (by omega) g3)) (by omega)
            refine lv_iload hx hb d_M_writeDown_63 (lv_at hl 6 rfl) ?_
            refine zv_if_lt (tgt := 84) hx hb d_M_writeDown_65 rfl (by omega) (fun h26 => ?_) (fun h26 => ?_)
            · exact L84 h _ H17 lc18 w3 (lv_sub hl [0, 1, 2, 3, 4, 5, 6, 7] rfl) hH e4 e5 e6 (fun k g0 => hf7 k g0) (by first | assumption | exact bh) (by first | exact Or.inr ⟨by omega, rfl⟩ | exact Or.inl ⟨by omega, by omega, by rw [Vt_set h (by omega) (by omega), hz x (by omega) (Int.le_refl x) (by omega)]; omega⟩) (by first | exact (fun j g1 g2 g3 => hz j g1 (by omega) g3) | exact (fun j g1 g2 g3 => by rw [up_ne (by omega)]; exact hz j g1 (by omega) g3))
            · refine lv_iload hx hb d_M_writeDown_68 (lv_at hl 6 rfl) ?_
              refine zv_bipush hx hb d_M_writeDown_70 rfl ?_
              refine zv_icmp_ge (tgt := 84) hx hb d_M_writeDown_72 rfl (by omega) (by omega) (fun h27 => ?_) (fun h27 => ?_)
              · exact L84 h _ H17 lc18 w3 (lv_sub hl [0, 1, 2, 3, 4, 5, 6, 7] rfl) hH e4 e5 e6 (fun k g0 => hf7 k g0) (by first | assumption | exact bh) (by first | exact Or.inr ⟨by omega, rfl⟩ | exact Or.inl ⟨by omega, by omega, by rw [Vt_set h (by omega) (by omega), hz x (by omega) (Int.le_refl x) (by omega)]; omega⟩) (by first | exact (fun j g1 g2 g3 => hz j g1 (by omega) g3) | exact (fun j g1 g2 g3 => by rw [up_ne (by omega)]; exact hz j g1 (by omega) g3))
              · refine lv_aload_n hx hb d_M_writeDown_75 rfl (lv_at hl 2 rfl) ?_
                refine zv_get (C := "ScaledNumeralDeskModel") (T := TM) (N := 17) hx hb hg uM_in hown hK hH q0lt e4 rfl 13 (by decide) (hg _ wm_695) (fun _ h9 => h9) rfl d_M_writeDown_76 ?_
                refine lv_iload hx hb d_M_writeDown_79 (lv_at hl 6 rfl) ?_
                refine lv_iload hx hb d_M_writeDown_81 (lv_at hl 1 rfl) ?_
                refine zv_iast hx hb hK hH q2lt e6 (by omega) (by omega) (by omega) d_M_writeDown_83 (fun H29 lc30 w28 hH31 e32 hg33 => ?_)
                have bd34 := bd_up bh x ((ch i) - 48) (by omega)
                have e35 : w28 g = .inr (6, [.ref (ad E (g + 1)), .ref (ad E (g + 2)), .ref (ad E (g + 3)), .ref (ad E (g + 4)), .int (iI ty), .ref (ad E (g + 5)), .ref (ad E (g + 6)), .ref (ad E (g + 7)), .ref (ad E (g + 8)), .ref (ad E (g + 9)), .ref (ad E (g + 10)), .int (iI xm), .int (iI ym), .ref (ad E (g + 11)), .int (iI ne), .ref (ad E (g + 12)), .ref (ad E (g + 13))]) := (hg33 g (nx_M_writeDown_0 )).trans e4
                have e36 : w28 (g + 5) = zar E 80 ch := (hg33 (g + 5) (nx_M_writeDown_1 )).trans e5
                have hf37 : ∀ k, k ≠ (g + 11) → w28 k = w0 k := fun k g0 => (hg33 k g0).trans (hf7 k g0)
                exact L84 (up h x ((ch i) - 48)) _ H29 lc30 w28 (lv_sub hl [0, 1, 2, 3, 4, 5, 6, 7] rfl) hH31 e35 e36 e32 (fun k g0 => hf37 k g0) (by first | assumption | exact bh) (by first | exact Or.inr ⟨by omega, rfl⟩ | exact Or.inl ⟨by omega, by omega, by rw [Vt_set h (by omega) (by omega), hz x (by omega) (Int.le_refl x) (by omega)]; omega⟩) (by first | exact (fun j g1 g2 g3 => hz j g1 (by omega) g3) | exact (fun j g1 g2 g3 => by rw [up_ne (by omega)]; exact hz j g1 (by omega) g3))
          refine lv_iload hx hb d_M_writeDown_39 (lv_at hl 5 rfl) ?_
          refine zv_if_ne (tgt := 56) hx hb d_M_writeDown_41 rfl (by omega) (fun h38 => ?_) (fun h38 => ?_)
          · refine zv_iconst hx hb d_M_writeDown_56 ?_
            refine lv_goto (tgt := 61) hx hb d_M_writeDown_57 rfl ?_
            exact L61 1 _ H9 lc10 (lv_sub hl [0, 1, 2, 3, 4, 5, 6, 7] rfl) hH12 (by omega)
          · refine lv_iload hx hb d_M_writeDown_44 (lv_at hl 0 rfl) ?_
            refine zv_if_le (tgt := 60) hx hb d_M_writeDown_46 rfl (by omega) (fun h39 => ?_) (fun h39 => ?_)
            · refine zv_iconst hx hb d_M_writeDown_60 ?_
              exact L61 0 _ H9 lc10 (lv_sub hl [0, 1, 2, 3, 4, 5, 6, 7] rfl) hH12 (by omega)
            · refine lv_iload hx hb d_M_writeDown_49 (lv_at hl 6 rfl) ?_
              refine zv_bipush hx hb d_M_writeDown_51 rfl ?_
              refine zv_icmp_lt (tgt := 60) hx hb d_M_writeDown_53 rfl (by omega) (by omega) (fun h40 => ?_) (fun h40 => ?_)
              · refine zv_iconst hx hb d_M_writeDown_60 ?_
                exact L61 0 _ H9 lc10 (lv_sub hl [0, 1, 2, 3, 4, 5, 6, 7] rfl) hH12 (by omega)
              · refine zv_iconst hx hb d_M_writeDown_56 ?_
                refine lv_goto (tgt := 61) hx hb d_M_writeDown_57 rfl ?_
                exact L61 1 _ H9 lc10 (lv_sub hl [0, 1, 2, 3, 4, 5, 6, 7] rfl) hH12 (by omega)
  exact L12 ((en - st : Int).toNat + 1) st (47 + wh) 0 f _ s.heap ([]) w0 (lv_sub hl [3, 4, 5, 6, 2, 1, 0] rfl) hH c0 c1 c2 (fun k _ => rfl) (by intro j g1 g2; rw [hf0 j g1 g2]; decide) (by omega) (by omega) (by rw [Cn_0 n1]; omega) (by exact Or.inr ⟨rfl, by rw [Dg_0, PdX_0, Vt_zero (by decide) hf0], by rw [Vt_zero (by decide) hf0]; exact Tp_pos 80⟩) (by exact (fun j g1 _ g3 => hf0 j g1 g3)) (by omega)
