def rm_M_out : Room := { frames := 0, cells := 0, slots := 0, locals := 0 }
set_option maxHeartbeats 4000000 in
set_option maxRecDepth 100000 in
theorem c_M_out (l : Launch) (E : zE) (w0 : zW) (g : Nat) (ty xm ym ne : Int) (v mo : Int) (q0lt : g < zn E) (c0 : w0 g = .inr (6, [.ref (ad E (g + 1)), .ref (ad E (g + 2)), .ref (ad E (g + 3)), .ref (ad E (g + 4)), .int (iI ty), .ref (ad E (g + 5)), .ref (ad E (g + 6)), .ref (ad E (g + 7)), .ref (ad E (g + 8)), .ref (ad E (g + 9)), .ref (ad E (g + 10)), .int (iI xm), .int (iI ym), .ref (ad E (g + 11)), .int (iI ne), .ref (ad E (g + 12)), .ref (ad E (g + 13))])) (hv : zr v) (hmo : zr mo) : zM l y_M_out ws_M_out rm_M_out E [.ref (ad E g), .int (iI v), .int (iI mo)] w0 (zQi E w0 (fun z w' => w' = w0 ∧ ((z = 1 ∧ (v < 0 ∨ mo < v)) ∨ (z = 0 ∧ 0 ≤ v ∧ v ≤ mo)))) := by
  refine z_met (cc := b_M_out) (maxL := 3) (ret := (some .boolean)) (by decide +kernel) rfl (Nat.le_of_ble_eq_true rfl) ?_
  intro p e s m below meth cd ls a Qf hQ hC hl hH
  obtain ⟨hF, hr, hlk, hK, hG, hn⟩ := hC
  obtain ⟨hx, hb, hml, hown, hts⟩ := hF
  have hg : ∀ w ∈ GW, w.before a s = true := fun w h => hts w (List.mem_cons_of_mem _ h)
  have hA : ∀ q, s.heap.size ≤ q → va_A (wl E w0) s.heap.size q := fun q h => Or.inr h
  have hl : lv_has ls 3 [(0, .ref (ad E g)), (1, .int (iI v)), (2, .int (iI mo))] := hl
  refine lv_iload_n hx hb d_M_out_0 rfl (lv_at hl 1 rfl) ?_
  refine zv_if_lt (tgt := 9) hx hb d_M_out_1 rfl (by omega) (fun h1 => ?_) (fun h1 => ?_)
  · refine zv_iconst hx hb d_M_out_9 ?_
    refine lv_goto (tgt := 14) hx hb d_M_out_10 rfl ?_
    rw [hQ]
    exact z_zret hx hb hr hlk hH (⟨rfl, by omega⟩) (by exact nar_z (by omega)) d_M_out_14
  · refine lv_iload_n hx hb d_M_out_4 rfl (lv_at hl 1 rfl) ?_
    refine lv_iload_n hx hb d_M_out_5 rfl (lv_at hl 2 rfl) ?_
    refine zv_icmp_le (tgt := 13) hx hb d_M_out_6 rfl (by omega) (by omega) (fun h2 => ?_) (fun h2 => ?_)
    · refine zv_iconst hx hb d_M_out_13 ?_
      rw [hQ]
      exact z_zret hx hb hr hlk hH (⟨rfl, by omega⟩) (by exact nar_z (by omega)) d_M_out_14
    · refine zv_iconst hx hb d_M_out_9 ?_
      refine lv_goto (tgt := 14) hx hb d_M_out_10 rfl ?_
      rw [hQ]
      exact z_zret hx hb hr hlk hH (⟨rfl, by omega⟩) (by exact nar_z (by omega)) d_M_out_14
def rm_M_clear : Room := { frames := 0, cells := 0, slots := 0, locals := 0 }
set_option maxHeartbeats 4000000 in
set_option maxRecDepth 100000 in
theorem c_M_clear (l : Launch) (E : zE) (w0 : zW) (g : Nat) (ty xm ym ne : Int) (f : Int → Int) (q0lt : g < zn E) (q1lt : g + 11 < zn E) (c0 : w0 g = .inr (6, [.ref (ad E (g + 1)), .ref (ad E (g + 2)), .ref (ad E (g + 3)), .ref (ad E (g + 4)), .int (iI ty), .ref (ad E (g + 5)), .ref (ad E (g + 6)), .ref (ad E (g + 7)), .ref (ad E (g + 8)), .ref (ad E (g + 9)), .ref (ad E (g + 10)), .int (iI xm), .int (iI ym), .ref (ad E (g + 11)), .int (iI ne), .ref (ad E (g + 12)), .ref (ad E (g + 13))])) (c1 : w0 (g + 11) = zar E 140 f)  : zM l y_M_clear ws_M_clear rm_M_clear E [.ref (ad E g)] w0 (zQv E w0 (fun w' => (∃ (f' : Int → Int), w' g = .inr (6, [.ref (ad E (g + 1)), .ref (ad E (g + 2)), .ref (ad E (g + 3)), .ref (ad E (g + 4)), .int (iI ty), .ref (ad E (g + 5)), .ref (ad E (g + 6)), .ref (ad E (g + 7)), .ref (ad E (g + 8)), .ref (ad E (g + 9)), .ref (ad E (g + 10)), .int (iI xm), .int (iI ym), .ref (ad E (g + 11)), .int (iI 0), .ref (ad E (g + 12)), .ref (ad E (g + 13))]) ∧ w' (g + 11) = zar E 140 f' ∧ (∀ j : Int, 0 ≤ j → j < 140 → f' j = 0)) ∧ ∀ k, k ≠ g → k ≠ (g + 11) → w' k = w0 k)) := by
  refine z_met (cc := b_M_clear) (maxL := 2) (ret := none) (by decide +kernel) rfl (Nat.le_of_ble_eq_true rfl) ?_
  intro p e s m below meth cd ls a Qf hQ hC hl hH
  obtain ⟨hF, hr, hlk, hK, hG, hn⟩ := hC
  obtain ⟨hx, hb, hml, hown, hts⟩ := hF
  have hg : ∀ w ∈ GW, w.before a s = true := fun w h => hts w (List.mem_cons_of_mem _ h)
  have hA : ∀ q, s.heap.size ≤ q → va_A (wl E w0) s.heap.size q := fun q h => Or.inr h
  have hl : lv_has ls 2 [(0, .ref (ad E g))] := hl
  refine zv_iconst hx hb d_M_clear_0 ?_
  refine lv_istore_n (lv' := [(1, .int (iI 0)), (0, .ref (ad E g))]) hx hb d_M_clear_1 rfl hl (by decide) rfl (fun ls hl => ?_)
  have L2 : ∀ (fu : Nat) (i : Int) (h : Int → Int) (ls : Array Slot) (H1 : Heap) (lc2 : List Loc) (w3 : zW), (lv_has ls 2 [(1, .int (iI i)), (0, .ref (ad E g))]) → (zH E w3 (va_A (wl E w0) s.heap.size) s.heap H1 lc2) → (w3 g = .inr (6, [.ref (ad E (g + 1)), .ref (ad E (g + 2)), .ref (ad E (g + 3)), .ref (ad E (g + 4)), .int (iI ty), .ref (ad E (g + 5)), .ref (ad E (g + 6)), .ref (ad E (g + 7)), .ref (ad E (g + 8)), .ref (ad E (g + 9)), .ref (ad E (g + 10)), .int (iI xm), .int (iI ym), .ref (ad E (g + 11)), .int (iI ne), .ref (ad E (g + 12)), .ref (ad E (g + 13))])) → (w3 (g + 11) = zar E 140 h) → (∀ k, k ≠ (g + 11) → w3 k = w0 k) → (0 ≤ i ∧ i ≤ 140) → (∀ j : Int, 0 ≤ j → j < i → h j = 0) → (140 - i < (fu : Int)) → W p l e rm_M_clear s m a below meth cd H1 lc2 0 0 Qf (F0 m 2 ls []) := by
    intro fu
    induction fu with
    | zero => intro i h ls H1 lc2 w3 hl hH e4 e5 hf6 hi hz hm; exact absurd hm (by omega)
    | succ fu ih =>
      intro i h ls H1 lc2 w3 hl hH e4 e5 hf6 hi hz hm
      refine lv_iload_n hx hb d_M_clear_2 rfl (lv_at hl 0 rfl) ?_
      refine zv_sipush hx hb d_M_clear_3 rfl ?_
      refine zv_icmp_ge (tgt := 22) hx hb d_M_clear_6 rfl (by omega) (by omega) (fun h7 => ?_) (fun h7 => ?_)
      · refine lv_aload_n hx hb d_M_clear_22 rfl (lv_at hl 1 rfl) ?_
        refine zv_iconst hx hb d_M_clear_23 ?_
        refine zv_put (C := "ScaledNumeralDeskModel") (T := TM) (N := 17) (fs' := [.ref (ad E (g + 1)), .ref (ad E (g + 2)), .ref (ad E (g + 3)), .ref (ad E (g + 4)), .int (iI ty), .ref (ad E (g + 5)), .ref (ad E (g + 6)), .ref (ad E (g + 7)), .ref (ad E (g + 8)), .ref (ad E (g + 9)), .ref (ad E (g + 10)), .int (iI xm), .int (iI ym), .ref (ad E (g + 11)), .int (iI 0), .ref (ad E (g + 12)), .ref (ad E (g + 13))]) hx hb hg uM_in tyM tyM_ok nmM hown hK hH q0lt e4 rfl 14 (by decide) (hg _ wm_696) (fun _ h9 => h9) rfl (ty := tyM 14) (by decide +kernel) (by exact nar_z (by omega)) (by exact fit_z (by omega)) (Nat.le_of_ble_eq_true rfl) d_M_clear_24 rfl (fun H9 lc10 w8 hH11 e12 hg13 => ?_)
        have e14 : w8 (g + 11) = zar E 140 h := (hg13 (g + 11) (by omega)).trans e5
        have hf15 : ∀ k, k ≠ (g + 11) → k ≠ g → w8 k = w0 k := fun k g0 g1 => (hg13 k g1).trans (hf6 k g0)
        rw [hQ]
        exact z_vret hx hb hr hlk hH11 (⟨⟨h, e12, e14, fun j g1 g2 => hz j g1 (by omega)⟩, (fun k g0 g1 => hf15 k g1 g0)⟩) d_M_clear_27
      · refine lv_aload_n hx hb d_M_clear_9 rfl (lv_at hl 1 rfl) ?_
        refine zv_get (C := "ScaledNumeralDeskModel") (T := TM) (N := 17) hx hb hg uM_in hown hK hH q0lt e4 rfl 13 (by decide) (hg _ wm_695) (fun _ h9 => h9) rfl d_M_clear_10 ?_
        refine lv_iload_n hx hb d_M_clear_13 rfl (lv_at hl 0 rfl) ?_
        refine zv_iconst hx hb d_M_clear_14 ?_
        refine zv_iast hx hb hK hH q1lt e5 (by omega) (by omega) (by omega) d_M_clear_15 (fun H17 lc18 w16 hH19 e20 hg21 => ?_)
        have e22 : w16 g = .inr (6, [.ref (ad E (g + 1)), .ref (ad E (g + 2)), .ref (ad E (g + 3)), .ref (ad E (g + 4)), .int (iI ty), .ref (ad E (g + 5)), .ref (ad E (g + 6)), .ref (ad E (g + 7)), .ref (ad E (g + 8)), .ref (ad E (g + 9)), .ref (ad E (g + 10)), .int (iI xm), .int (iI ym), .ref (ad E (g + 11)), .int (iI ne), .ref (ad E (g + 12)), .ref (ad E (g + 13))]) := (hg21 g (by omega)).trans e4
        have hf23 : ∀ k, k ≠ (g + 11) → w16 k = w0 k := fun k g0 => (hg21 k g0).trans (hf6 k g0)
        refine zv_iinc (k := 0) (lv' := [(1, .int (iI (i + 1))), (0, .ref (ad E g))]) hx hb d_M_clear_16 hl rfl (by decide) rfl (fun ls hl => ?_)
        refine lv_goto (tgt := 2) hx hb d_M_clear_19 rfl ?_
        exact ih  (i + 1) (up h i 0) _ H17 lc18 w16 (lv_sub hl [0, 1] rfl) hH19 e22 e20 (fun k g0 => hf23 k g0) (by omega) (v_step hz) (by omega)
  exact L2 ((140 - 0 : Int).toNat + 1) 0 f _ s.heap ([]) w0 (lv_sub hl [0, 1] rfl) hH c0 c1 (fun k _ => rfl) (by omega) (by intro j g1 g2; omega) (by omega)
def rm_M_carry : Room := { frames := 0, cells := 0, slots := 0, locals := 0 }
set_option maxHeartbeats 4000000 in
set_option maxRecDepth 100000 in
theorem c_M_carry (l : Launch) (E : zE) (w0 : zW) (g : Nat) (ty xm ym ne : Int) (f : Int → Int) (q0lt : g < zn E) (q1lt : g + 11 < zn E) (c0 : w0 g = .inr (6, [.ref (ad E (g + 1)), .ref (ad E (g + 2)), .ref (ad E (g + 3)), .ref (ad E (g + 4)), .int (iI ty), .ref (ad E (g + 5)), .ref (ad E (g + 6)), .ref (ad E (g + 7)), .ref (ad E (g + 8)), .ref (ad E (g + 9)), .ref (ad E (g + 10)), .int (iI xm), .int (iI ym), .ref (ad E (g + 11)), .int (iI ne), .ref (ad E (g + 12)), .ref (ad E (g + 13))])) (c1 : w0 (g + 11) = zar E 140 f) (bf : bd f 140 (-1000000) 1000000) : zM l y_M_carry ws_M_carry rm_M_carry E [.ref (ad E g)] w0 (zQi E w0 (fun z w' => (∃ (f' : Int → Int), w' (g + 11) = zar E 140 f' ∧ bd f' 140 0 9 ∧ (Vt f' 140 + z * Tp 140 = Vt f 140 ∧ -1000000 ≤ z ∧ z ≤ 1000000)) ∧ ∀ k, k ≠ (g + 11) → w' k = w0 k)) := by
  refine z_met (cc := b_M_carry) (maxL := 4) (ret := (some .int)) (by decide +kernel) rfl (Nat.le_of_ble_eq_true rfl) ?_
  intro p e s m below meth cd ls a Qf hQ hC hl hH
  obtain ⟨hF, hr, hlk, hK, hG, hn⟩ := hC
  obtain ⟨hx, hb, hml, hown, hts⟩ := hF
  have hg : ∀ w ∈ GW, w.before a s = true := fun w h => hts w (List.mem_cons_of_mem _ h)
  have hA : ∀ q, s.heap.size ≤ q → va_A (wl E w0) s.heap.size q := fun q h => Or.inr h
  have hl : lv_has ls 4 [(0, .ref (ad E g))] := hl
  refine zv_iconst hx hb d_M_carry_0 ?_
  refine lv_istore_n (lv' := [(1, .int (iI 0)), (0, .ref (ad E g))]) hx hb d_M_carry_1 rfl hl (by decide) rfl (fun ls hl => ?_)
  refine zv_iconst hx hb d_M_carry_2 ?_
  refine lv_istore_n (lv' := [(2, .int (iI 0)), (1, .int (iI 0)), (0, .ref (ad E g))]) hx hb d_M_carry_3 rfl hl (by decide) rfl (fun ls hl => ?_)
  have L4 : ∀ (fu : Nat) (i : Int) (c : Int) (h : Int → Int) (ls : Array Slot) (H1 : Heap) (lc2 : List Loc) (w3 : zW), (lv_has ls 4 [(0, .ref (ad E g)), (1, .int (iI c)), (2, .int (iI i))]) → (zH E w3 (va_A (wl E w0) s.heap.size) s.heap H1 lc2) → (w3 g = .inr (6, [.ref (ad E (g + 1)), .ref (ad E (g + 2)), .ref (ad E (g + 3)), .ref (ad E (g + 4)), .int (iI ty), .ref (ad E (g + 5)), .ref (ad E (g + 6)), .ref (ad E (g + 7)), .ref (ad E (g + 8)), .ref (ad E (g + 9)), .ref (ad E (g + 10)), .int (iI xm), .int (iI ym), .ref (ad E (g + 11)), .int (iI ne), .ref (ad E (g + 12)), .ref (ad E (g + 13))])) → (w3 (g + 11) = zar E 140 h) → (∀ k, k ≠ (g + 11) → w3 k = w0 k) → (0 ≤ i ∧ i ≤ 140) → (-1000000 ≤ c ∧ c ≤ 1000000) → (∀ j : Int, 0 ≤ j → j < i → 0 ≤ h j ∧ h j ≤ 9) → (∀ j, i ≤ j → h j = f j) → (Vt h i + c * Tp i = Vt f i) → (140 - i < (fu : Int)) → W p l e rm_M_carry s m a below meth cd H1 lc2 0 0 Qf (F0 m 4 ls []) := by
    intro fu
    induction fu with
    | zero => intro i c h ls H1 lc2 w3 hl hH e4 e5 hf6 hi hc hb3 hs hv hm; exact absurd hm (by omega)
    | succ fu ih =>
      intro i c h ls H1 lc2 w3 hl hH e4 e5 hf6 hi hc hb3 hs hv hm
      refine lv_iload_n hx hb d_M_carry_4 rfl (lv_at hl 2 rfl) ?_
      refine zv_sipush hx hb d_M_carry_5 rfl ?_
      refine zv_icmp_ge (tgt := 58) hx hb d_M_carry_8 rfl (by omega) (by omega) (fun h7 => ?_) (fun h7 => ?_)
      · refine lv_iload_n hx hb d_M_carry_58 rfl (lv_at hl 1 rfl) ?_
        have i9 : i = 140 := by omega
        subst i9
        have bh9 : bd h 140 0 9 := fun j g1 g2 => hb3 j g1 g2
        rw [hQ]
        exact z_iret hx hb hr hlk hH (⟨⟨h, e5, (by assumption), ⟨hv, hc.1, hc.2⟩⟩, (fun k g0 => hf6 k g0)⟩) d_M_carry_59
      · refine lv_aload_n hx hb d_M_carry_11 rfl (lv_at hl 0 rfl) ?_
        refine zv_get (C := "ScaledNumeralDeskModel") (T := TM) (N := 17) hx hb hg uM_in hown hK hH q0lt e4 rfl 13 (by decide) (hg _ wm_695) (fun _ h9 => h9) rfl d_M_carry_12 ?_
        refine lv_iload_n hx hb d_M_carry_15 rfl (lv_at hl 2 rfl) ?_
        refine zv_iald hx hb hK hH q1lt e5 (by omega) (by omega) (by omega) d_M_carry_16 ?_
        have hsi := hs i (Int.le_refl i)
        have bfi := bf i (by omega) (by omega)
        refine lv_iload_n hx hb d_M_carry_17 rfl (lv_at hl 1 rfl) ?_
        refine zv_iadd hx hb d_M_carry_18 ?_
        refine lv_istore_n (lv' := [(3, .int (iI ((h i) + c))), (0, .ref (ad E g)), (1, .int (iI c)), (2, .int (iI i))]) hx hb d_M_carry_19 rfl hl (by decide) rfl (fun ls hl => ?_)
        have L39 : ∀ (q1 : Int) (ls : Array Slot) (H8 : Heap) (lc9 : List Loc), (lv_has ls 4 [(3, .int (iI ((h i) + c))), (0, .ref (ad E g)), (1, .int (iI c)), (2, .int (iI i))]) → (zH E w3 (va_A (wl E w0) s.heap.size) s.heap H8 lc9) → (q1 = (h i + c) / 10) → W p l e rm_M_carry s m a below meth cd H8 lc9 0 0 Qf (F0 m 39 ls [.int (iI q1)]) := by
          intro q1 ls H8 lc9 hl hH hq1
          refine lv_istore_n (lv' := [(1, .int (iI q1)), (3, .int (iI ((h i) + c))), (0, .ref (ad E g)), (2, .int (iI i))]) hx hb d_M_carry_39 rfl hl (by decide) rfl (fun ls hl => ?_)
          refine lv_aload_n hx hb d_M_carry_40 rfl (lv_at hl 2 rfl) ?_
          refine zv_get (C := "ScaledNumeralDeskModel") (T := TM) (N := 17) hx hb hg uM_in hown hK hH q0lt e4 rfl 13 (by decide) (hg _ wm_695) (fun _ h9 => h9) rfl d_M_carry_41 ?_
          refine lv_iload_n hx hb d_M_carry_44 rfl (lv_at hl 3 rfl) ?_
          refine lv_iload_n hx hb d_M_carry_45 rfl (lv_at hl 1 rfl) ?_
          refine zv_bipush hx hb d_M_carry_46 rfl ?_
          refine lv_iload_n hx hb d_M_carry_48 rfl (lv_at hl 0 rfl) ?_
          refine zv_imul hx hb d_M_carry_49 ?_
          refine zv_isub hx hb d_M_carry_50 ?_
          refine zv_iast hx hb hK hH q1lt e5 (by omega) (by omega) (by omega) d_M_carry_51 (fun H11 lc12 w10 hH13 e14 hg15 => ?_)
          have e16 : w10 g = .inr (6, [.ref (ad E (g + 1)), .ref (ad E (g + 2)), .ref (ad E (g + 3)), .ref (ad E (g + 4)), .int (iI ty), .ref (ad E (g + 5)), .ref (ad E (g + 6)), .ref (ad E (g + 7)), .ref (ad E (g + 8)), .ref (ad E (g + 9)), .ref (ad E (g + 10)), .int (iI xm), .int (iI ym), .ref (ad E (g + 11)), .int (iI ne), .ref (ad E (g + 12)), .ref (ad E (g + 13))]) := (hg15 g (by omega)).trans e4
          have hf17 : ∀ k, k ≠ (g + 11) → w10 k = w0 k := fun k g0 => (hg15 k g0).trans (hf6 k g0)
          refine zv_iinc (k := 3) (lv' := [(2, .int (iI (i + 1))), (1, .int (iI q1)), (3, .int (iI ((h i) + c))), (0, .ref (ad E g))]) hx hb d_M_carry_52 hl rfl (by decide) rfl (fun ls hl => ?_)
          refine lv_goto (tgt := 4) hx hb d_M_carry_55 rfl ?_
          exact ih  (i + 1) q1 (up h i (((h i) + c) - (10 * q1))) _ H11 lc12 w10 (lv_sub hl [3, 1, 0] rfl) hH13 e16 e14 (fun k g0 => hf17 k g0) (by omega) (by omega) (by intro j g1 g2; by_cases e9 : j = i; rw [e9, up_at]; omega; rw [up_ne e9]; exact hb3 j g1 (by omega)) (ks_step hs) (by rw [hq1]; exact ca_step hi.1 (by rw [hsi]) hv) (by omega)
        refine lv_iload_n hx hb d_M_carry_20 rfl (lv_at hl 0 rfl) ?_
        refine zv_if_lt (tgt := 31) hx hb d_M_carry_21 rfl (by omega) (fun h18 => ?_) (fun h18 => ?_)
        · refine zv_bipush hx hb d_M_carry_31 rfl ?_
          refine lv_iload_n hx hb d_M_carry_33 rfl (lv_at hl 0 rfl) ?_
          refine zv_isub hx hb d_M_carry_34 ?_
          refine zv_bipush hx hb d_M_carry_35 rfl ?_
          refine zv_idiv hx hb (by omega) (by omega) (by omega) (by omega) d_M_carry_37 ?_
          refine zv_ineg hx hb d_M_carry_38 ?_
          exact L39 (-((9 - ((h i) + c)) / 10)) _ H1 lc2 (lv_sub hl [0, 1, 2, 3] rfl) hH (by omega)
        · refine lv_iload_n hx hb d_M_carry_24 rfl (lv_at hl 0 rfl) ?_
          refine zv_bipush hx hb d_M_carry_25 rfl ?_
          refine zv_idiv hx hb (by omega) (by omega) (by omega) (by omega) d_M_carry_27 ?_
          refine lv_goto (tgt := 39) hx hb d_M_carry_28 rfl ?_
          exact L39 (((h i) + c) / 10) _ H1 lc2 (lv_sub hl [0, 1, 2, 3] rfl) hH (by omega)
  exact L4 ((140 - 0 : Int).toNat + 1) 0 0 f _ s.heap ([]) w0 (lv_sub hl [2, 1, 0] rfl) hH c0 c1 (fun k _ => rfl) (by omega) (by omega) (by intro j g1 g2; omega) (by intro j _; rfl) (by rfl) (by omega)
def rm_M_settle : Room := { frames := 1, cells := 0, slots := 0, locals := 23 }
set_option maxHeartbeats 4000000 in
set_option maxRecDepth 100000 in
theorem c_M_settle (l : Launch) (E : zE) (w0 : zW) (g : Nat) (ty xm ym ne : Int) (f : Int → Int) (q0lt : g < zn E) (q1lt : g + 11 < zn E) (c0 : w0 g = .inr (6, [.ref (ad E (g + 1)), .ref (ad E (g + 2)), .ref (ad E (g + 3)), .ref (ad E (g + 4)), .int (iI ty), .ref (ad E (g + 5)), .ref (ad E (g + 6)), .ref (ad E (g + 7)), .ref (ad E (g + 8)), .ref (ad E (g + 9)), .ref (ad E (g + 10)), .int (iI xm), .int (iI ym), .ref (ad E (g + 11)), .int (iI ne), .ref (ad E (g + 12)), .ref (ad E (g + 13))])) (c1 : w0 (g + 11) = zar E 140 f) (bf : bd f 140 (-1000000) 1000000) (hne : ne = 0 ∨ ne = 1) (hV : -Tp 140 < Vt f 140 ∧ Vt f 140 < Tp 140) : zM l y_M_settle ws_M_settle rm_M_settle E [.ref (ad E g)] w0 (zQv E w0 (fun w' => (∃ (n' : Int) (f' : Int → Int), w' g = .inr (6, [.ref (ad E (g + 1)), .ref (ad E (g + 2)), .ref (ad E (g + 3)), .ref (ad E (g + 4)), .int (iI ty), .ref (ad E (g + 5)), .ref (ad E (g + 6)), .ref (ad E (g + 7)), .ref (ad E (g + 8)), .ref (ad E (g + 9)), .ref (ad E (g + 10)), .int (iI xm), .int (iI ym), .ref (ad E (g + 11)), .int (iI n'), .ref (ad E (g + 12)), .ref (ad E (g + 13))]) ∧ w' (g + 11) = zar E 140 f' ∧ bd f' 140 0 9 ∧ ((n' = 0 ∨ n' = 1) ∧ ((0 ≤ Vt f 140 ∧ Vt f' 140 = Vt f 140 ∧ n' = ne) ∨ (Vt f 140 < 0 ∧ Vt f' 140 = -Vt f 140 ∧ n' = 1 - ne)))) ∧ ∀ k, k ≠ g → k ≠ (g + 11) → w' k = w0 k)) := by
  refine z_met (cc := b_M_settle) (maxL := 3) (ret := none) (by decide +kernel) rfl (Nat.le_of_ble_eq_true rfl) ?_
  intro p e s m below meth cd ls a Qf hQ hC hl hH
  obtain ⟨hF, hr, hlk, hK, hG, hn⟩ := hC
  obtain ⟨hx, hb, hml, hown, hts⟩ := hF
  have hg : ∀ w ∈ GW, w.before a s = true := fun w h => hts w (List.mem_cons_of_mem _ h)
  have hA : ∀ q, s.heap.size ≤ q → va_A (wl E w0) s.heap.size q := fun q h => Or.inr h
  have hl : lv_has ls 3 [(0, .ref (ad E g))] := hl
  refine lv_aload_n hx hb d_M_settle_0 rfl (lv_at hl 0 rfl) ?_
  refine z_calli (va_runV (As := []) (rest := []) ⟨hx, hb, hml, hown, hts⟩ (c_M_carry (l := l) (E := E) (w0 := w0) (g := g) (ty := ty) (xm := xm) (ym := ym) (ne := ne) (f := f) (q0lt := q0lt) (q1lt := q1lt) (c0 := c0) (c1 := c1) (bf := bf) s.heap.size) (z_cwV (C := "ScaledNumeralDeskModel") 0 hg wm_798 wm_795 wm_9 wm_797 wm_s42 (by decide +kernel) ⟨Nat.le_of_ble_eq_true rfl, Nat.le_of_ble_eq_true rfl⟩) (z_preV (r := ("ScaledNumeralDeskModel", TM, 17)) hK hG hn hH hA q0lt c0 rfl) rfl rfl hl.1 rfl (lv_room (Nat.le_of_ble_eq_true rfl)) d_M_settle_1 ⟨Nat.zero_le _, Nat.zero_le _⟩) hH hA (fun c1 w3 H1 lc2 hH4 p1 => ?_)
  obtain ⟨⟨f1, e5, bd6, p1⟩, hg7⟩ := p1
  replace bd6 : bd f1 140 0 9 := bd6
  replace p1 : Vt f1 140 + c1 * Tp 140 = Vt f 140 ∧ -1000000 ≤ c1 ∧ c1 ≤ 1000000 := p1
  have e8 : w3 g = .inr (6, [.ref (ad E (g + 1)), .ref (ad E (g + 2)), .ref (ad E (g + 3)), .ref (ad E (g + 4)), .int (iI ty), .ref (ad E (g + 5)), .ref (ad E (g + 6)), .ref (ad E (g + 7)), .ref (ad E (g + 8)), .ref (ad E (g + 9)), .ref (ad E (g + 10)), .int (iI xm), .int (iI ym), .ref (ad E (g + 11)), .int (iI ne), .ref (ad E (g + 12)), .ref (ad E (g + 13))]) := (hg7 g (by omega)).trans c0
  have hf9 : ∀ k, k ≠ (g + 11) → w3 k = w0 k := fun k g0 => hg7 k g0
  have bf1 : bd f1 140 0 9 := by assumption
  have cp := ca_pos bf1 (by decide) p1.1
  refine lv_istore_n (lv' := [(1, .int (iI c1)), (0, .ref (ad E g))]) hx hb d_M_settle_4 rfl hl (by decide) rfl (fun ls hl => ?_)
  refine lv_iload_n hx hb d_M_settle_5 rfl (lv_at hl 0 rfl) ?_
  refine zv_if_ge (tgt := 58) hx hb d_M_settle_6 rfl (by omega) (fun h10 => ?_) (fun h10 => ?_)
  · have g0 : 0 ≤ Vt f 140 := Int.not_lt.mp (fun hh => absurd (cp.2.1 hh) (by omega))
    rw [hQ]
    exact z_vret hx hb hr hlk hH4 (⟨⟨ne, f1, e8, e5, bf1, ⟨hne, Or.inl ⟨g0, (cp.1 g0 hV.2).2, rfl⟩⟩⟩, (fun k g0 g1 => hf9 k g1)⟩) d_M_settle_58
  · have L22 : ∀ (yy : Int) (ls : Array Slot) (H11 : Heap) (lc12 : List Loc), (lv_has ls 3 [(1, .int (iI c1)), (0, .ref (ad E g))]) → (zH E w3 (va_A (wl E w0) s.heap.size) s.heap H11 lc12) → (yy = 1 - ne) → W p l e rm_M_settle s m a below meth cd H11 lc12 0 0 Qf (F0 m 22 ls [.int (iI yy), .ref (ad E g)]) := by
      intro yy ls H11 lc12 hl hH hyy
      refine zv_put (C := "ScaledNumeralDeskModel") (T := TM) (N := 17) (fs' := [.ref (ad E (g + 1)), .ref (ad E (g + 2)), .ref (ad E (g + 3)), .ref (ad E (g + 4)), .int (iI ty), .ref (ad E (g + 5)), .ref (ad E (g + 6)), .ref (ad E (g + 7)), .ref (ad E (g + 8)), .ref (ad E (g + 9)), .ref (ad E (g + 10)), .int (iI xm), .int (iI ym), .ref (ad E (g + 11)), .int (iI yy), .ref (ad E (g + 12)), .ref (ad E (g + 13))]) hx hb hg uM_in tyM tyM_ok nmM hown hK hH q0lt e8 rfl 14 (by decide) (hg _ wm_696) (fun _ h9 => h9) rfl (ty := tyM 14) (by decide +kernel) (by exact nar_z (by omega)) (by exact fit_z (by omega)) (Nat.le_of_ble_eq_true rfl) d_M_settle_22 rfl (fun H14 lc15 w13 hH16 e17 hg18 => ?_)
      have e19 : w13 (g + 11) = zar E 140 f1 := (hg18 (g + 11) (by omega)).trans e5
      have hf20 : ∀ k, k ≠ (g + 11) → k ≠ g → w13 k = w0 k := fun k g0 g1 => (hg18 k g1).trans (hf9 k g0)
      refine zv_iconst hx hb d_M_settle_25 ?_
      refine lv_istore_n (lv' := [(2, .int (iI 0)), (1, .int (iI c1)), (0, .ref (ad E g))]) hx hb d_M_settle_26 rfl hl (by decide) rfl (fun ls hl => ?_)
      have L27 : ∀ (fu : Nat) (i : Int) (h : Int → Int) (ls : Array Slot) (H21 : Heap) (lc22 : List Loc) (w23 : zW), (lv_has ls 3 [(2, .int (iI i)), (1, .int (iI c1)), (0, .ref (ad E g))]) → (zH E w23 (va_A (wl E w0) s.heap.size) s.heap H21 lc22) → (w23 g = .inr (6, [.ref (ad E (g + 1)), .ref (ad E (g + 2)), .ref (ad E (g + 3)), .ref (ad E (g + 4)), .int (iI ty), .ref (ad E (g + 5)), .ref (ad E (g + 6)), .ref (ad E (g + 7)), .ref (ad E (g + 8)), .ref (ad E (g + 9)), .ref (ad E (g + 10)), .int (iI xm), .int (iI ym), .ref (ad E (g + 11)), .int (iI yy), .ref (ad E (g + 12)), .ref (ad E (g + 13))])) → (w23 (g + 11) = zar E 140 h) → (∀ k, k ≠ (g + 11) → k ≠ g → w23 k = w0 k) → (bd h 140 (-9) 9) → (0 ≤ i ∧ i ≤ 140) → (∀ j : Int, 0 ≤ j → j < i → h j = -f1 j) → (∀ j, i ≤ j → h j = f1 j) → (140 - i < (fu : Int)) → W p l e rm_M_settle s m a below meth cd H21 lc22 0 0 Qf (F0 m 27 ls []) := by
        intro fu
        induction fu with
        | zero => intro i h ls H21 lc22 w23 hl hH e24 e25 hf26 bh hi hd hk hm; exact absurd hm (by omega)
        | succ fu ih =>
          intro i h ls H21 lc22 w23 hl hH e24 e25 hf26 bh hi hd hk hm
          refine lv_iload_n hx hb d_M_settle_27 rfl (lv_at hl 0 rfl) ?_
          refine zv_sipush hx hb d_M_settle_28 rfl ?_
          refine zv_icmp_ge (tgt := 53) hx hb d_M_settle_31 rfl (by omega) (by omega) (fun h27 => ?_) (fun h27 => ?_)
          · refine lv_aload_n hx hb d_M_settle_53 rfl (lv_at hl 2 rfl) ?_
            refine z_calli (va_runV (As := []) (rest := []) ⟨hx, hb, hml, hown, hts⟩ (c_M_carry (l := l) (E := E) (w0 := w23) (g := g) (ty := ty) (xm := xm) (ym := ym) (ne := yy) (f := h) (q0lt := q0lt) (q1lt := q1lt) (c0 := e24) (c1 := e25) (bf := (fun j g1 g2 => by have := bh j g1 g2; omega)) H21.size) (z_cwV (C := "ScaledNumeralDeskModel") 0 hg wm_798 wm_795 wm_9 wm_797 wm_s42 (by decide +kernel) ⟨Nat.le_of_ble_eq_true rfl, Nat.le_of_ble_eq_true rfl⟩) (z_preV (r := ("ScaledNumeralDeskModel", TM, 17)) hK hG hn hH hA q0lt e24 rfl) rfl rfl hl.1 rfl (lv_room (Nat.le_of_ble_eq_true rfl)) d_M_settle_54 ⟨Nat.zero_le _, Nat.zero_le _⟩) hH hA (fun c2 w30 H28 lc29 hH31 p54 => ?_)
            obtain ⟨⟨f2, e32, bd33, p54⟩, hg34⟩ := p54
            replace bd33 : bd f2 140 0 9 := bd33
            replace p54 : Vt f2 140 + c2 * Tp 140 = Vt h 140 ∧ -1000000 ≤ c2 ∧ c2 ≤ 1000000 := p54
            have e35 : w30 g = .inr (6, [.ref (ad E (g + 1)), .ref (ad E (g + 2)), .ref (ad E (g + 3)), .ref (ad E (g + 4)), .int (iI ty), .ref (ad E (g + 5)), .ref (ad E (g + 6)), .ref (ad E (g + 7)), .ref (ad E (g + 8)), .ref (ad E (g + 9)), .ref (ad E (g + 10)), .int (iI xm), .int (iI ym), .ref (ad E (g + 11)), .int (iI yy), .ref (ad E (g + 12)), .ref (ad E (g + 13))]) := (hg34 g (by omega)).trans e24
            have hf36 : ∀ k, k ≠ (g + 11) → k ≠ g → w30 k = w0 k := fun k g0 g1 => (hg34 k g0).trans (hf26 k g0 g1)
            refine lv_istore_n (lv' := [(1, .int (iI c2)), (2, .int (iI i)), (0, .ref (ad E g))]) hx hb d_M_settle_57 rfl hl (by decide) rfl (fun ls hl => ?_)
            have g0 : Vt f 140 < 0 := Int.not_le.mp (fun hh => absurd (cp.2.2 hh) (by omega))
            have nx9 := Vt_nx (f := f1) (fun j g1 g2 => hd j g1 (by omega))
            have b2 := Vt_in (f := f2) (N := 140) (by assumption) (by decide) (Int.le_refl 140)
            rw [hQ]
            exact z_vret hx hb hr hlk hH31 (⟨⟨yy, f2, e35, e32, bd33, ⟨by omega, Or.inr ⟨g0, se_neg p1.1 (by rw [← nx9]; exact p54.1) b2.1 b2.2 g0 hV.1, hyy⟩⟩⟩, (fun k g0 g1 => hf36 k g1 g0)⟩) d_M_settle_58
          · refine lv_aload_n hx hb d_M_settle_34 rfl (lv_at hl 2 rfl) ?_
            refine zv_get (C := "ScaledNumeralDeskModel") (T := TM) (N := 17) hx hb hg uM_in hown hK hH q0lt e24 rfl 13 (by decide) (hg _ wm_695) (fun _ h9 => h9) rfl d_M_settle_35 ?_
            refine lv_iload_n hx hb d_M_settle_38 rfl (lv_at hl 0 rfl) ?_
            refine lv_aload_n hx hb d_M_settle_39 rfl (lv_at hl 2 rfl) ?_
            refine zv_get (C := "ScaledNumeralDeskModel") (T := TM) (N := 17) hx hb hg uM_in hown hK hH q0lt e24 rfl 13 (by decide) (hg _ wm_695) (fun _ h9 => h9) rfl d_M_settle_40 ?_
            refine lv_iload_n hx hb d_M_settle_43 rfl (lv_at hl 0 rfl) ?_
            refine zv_iald hx hb hK hH q1lt e25 (by omega) (by omega) (by omega) d_M_settle_44 ?_
            have b37 := bh i (by omega) (by omega)
            refine zv_ineg hx hb d_M_settle_45 ?_
            refine zv_iast hx hb hK hH q1lt e25 (by omega) (by omega) (by omega) d_M_settle_46 (fun H39 lc40 w38 hH41 e42 hg43 => ?_)
            have bd44 := bd_up bh i (-(h i)) (by omega)
            have e45 : w38 g = .inr (6, [.ref (ad E (g + 1)), .ref (ad E (g + 2)), .ref (ad E (g + 3)), .ref (ad E (g + 4)), .int (iI ty), .ref (ad E (g + 5)), .ref (ad E (g + 6)), .ref (ad E (g + 7)), .ref (ad E (g + 8)), .ref (ad E (g + 9)), .ref (ad E (g + 10)), .int (iI xm), .int (iI ym), .ref (ad E (g + 11)), .int (iI yy), .ref (ad E (g + 12)), .ref (ad E (g + 13))]) := (hg43 g (by omega)).trans e24
            have hf46 : ∀ k, k ≠ (g + 11) → k ≠ g → w38 k = w0 k := fun k g0 g1 => (hg43 k g0).trans (hf26 k g0 g1)
            refine zv_iinc (k := 0) (lv' := [(2, .int (iI (i + 1))), (1, .int (iI c1)), (0, .ref (ad E g))]) hx hb d_M_settle_47 hl rfl (by decide) rfl (fun ls hl => ?_)
            refine lv_goto (tgt := 27) hx hb d_M_settle_50 rfl ?_
            exact ih  (i + 1) (up h i (-(h i))) _ H39 lc40 w38 (lv_sub hl [0, 1, 2] rfl) hH41 e45 e42 (fun k g0 g1 => hf46 k g0 g1) (by assumption) (by omega) (by intro j g1 g2; by_cases e9 : j = i; rw [e9, up_at, hk i (Int.le_refl i)]; rw [up_ne e9]; exact hd j g1 (by omega)) (ks_step hk) (by omega)
      exact L27 ((140 - 0 : Int).toNat + 1) 0 f1 _ H14 lc15 w13 (lv_sub hl [0, 1, 2] rfl) hH16 e17 e19 (fun k g0 g1 => hf20 k g0 g1) (by intro j g1 g2; have := bf1 j g1 g2; omega) (by omega) (by intro j g1 g2; omega) (by intro j _; rfl) (by omega)
    refine lv_aload_n hx hb d_M_settle_9 rfl (lv_at hl 1 rfl) ?_
    refine lv_aload_n hx hb d_M_settle_10 rfl (lv_at hl 1 rfl) ?_
    refine zv_get (C := "ScaledNumeralDeskModel") (T := TM) (N := 17) hx hb hg uM_in hown hK hH4 q0lt e8 rfl 14 (by decide) (hg _ wm_696) (fun _ h9 => h9) rfl d_M_settle_11 ?_
    refine zv_if_ne (tgt := 21) hx hb d_M_settle_14 rfl (by omega) (fun h47 => ?_) (fun h47 => ?_)
    · refine zv_iconst hx hb d_M_settle_21 ?_
      exact L22 0 _ H1 lc2 (lv_sub hl [0, 1] rfl) hH4 (by omega)
    · refine zv_iconst hx hb d_M_settle_17 ?_
      refine lv_goto (tgt := 22) hx hb d_M_settle_18 rfl ?_
      exact L22 1 _ H1 lc2 (lv_sub hl [0, 1] rfl) hH4 (by omega)
def rm_M_cut : Room := { frames := 0, cells := 0, slots := 0, locals := 0 }
set_option maxHeartbeats 4000000 in
set_option maxRecDepth 100000 in
theorem c_M_cut (l : Launch) (E : zE) (w0 : zW) (g : Nat) (ty xm ym ne : Int) (f : Int → Int) (x : Int) (q0lt : g < zn E) (q1lt : g + 11 < zn E) (c0 : w0 g = .inr (6, [.ref (ad E (g + 1)), .ref (ad E (g + 2)), .ref (ad E (g + 3)), .ref (ad E (g + 4)), .int (iI ty), .ref (ad E (g + 5)), .ref (ad E (g + 6)), .ref (ad E (g + 7)), .ref (ad E (g + 8)), .ref (ad E (g + 9)), .ref (ad E (g + 10)), .int (iI xm), .int (iI ym), .ref (ad E (g + 11)), .int (iI ne), .ref (ad E (g + 12)), .ref (ad E (g + 13))])) (c1 : w0 (g + 11) = zar E 140 f) (bf : bd f 140 0 9) (hx0 : 0 ≤ x ∧ x ≤ 140) : zM l y_M_cut ws_M_cut rm_M_cut E [.ref (ad E g), .int (iI x)] w0 (zQv E w0 (fun w' => (∃ (f' : Int → Int), w' (g + 11) = zar E 140 f' ∧ bd f' 140 0 9 ∧ (Vt f' 140 = Vt f 140 / Tp x * Tp x ∧ (x < 140 → f' x = f x))) ∧ ∀ k, k ≠ (g + 11) → w' k = w0 k)) := by
  refine z_met (cc := b_M_cut) (maxL := 3) (ret := none) (by decide +kernel) rfl (Nat.le_of_ble_eq_true rfl) ?_
  intro p e s m below meth cd ls a Qf hQ hC hl hH
  obtain ⟨hF, hr, hlk, hK, hG, hn⟩ := hC
  obtain ⟨hx, hb, hml, hown, hts⟩ := hF
  have hg : ∀ w ∈ GW, w.before a s = true := fun w h => hts w (List.mem_cons_of_mem _ h)
  have hA : ∀ q, s.heap.size ≤ q → va_A (wl E w0) s.heap.size q := fun q h => Or.inr h
  have hl : lv_has ls 3 [(0, .ref (ad E g)), (1, .int (iI x))] := hl
  refine zv_iconst hx hb d_M_cut_0 ?_
  refine lv_istore_n (lv' := [(2, .int (iI 0)), (0, .ref (ad E g)), (1, .int (iI x))]) hx hb d_M_cut_1 rfl hl (by decide) rfl (fun ls hl => ?_)
  have L2 : ∀ (fu : Nat) (i : Int) (h : Int → Int) (ls : Array Slot) (H1 : Heap) (lc2 : List Loc) (w3 : zW), (lv_has ls 3 [(2, .int (iI i)), (0, .ref (ad E g)), (1, .int (iI x))]) → (zH E w3 (va_A (wl E w0) s.heap.size) s.heap H1 lc2) → (w3 g = .inr (6, [.ref (ad E (g + 1)), .ref (ad E (g + 2)), .ref (ad E (g + 3)), .ref (ad E (g + 4)), .int (iI ty), .ref (ad E (g + 5)), .ref (ad E (g + 6)), .ref (ad E (g + 7)), .ref (ad E (g + 8)), .ref (ad E (g + 9)), .ref (ad E (g + 10)), .int (iI xm), .int (iI ym), .ref (ad E (g + 11)), .int (iI ne), .ref (ad E (g + 12)), .ref (ad E (g + 13))])) → (w3 (g + 11) = zar E 140 h) → (∀ k, k ≠ (g + 11) → w3 k = w0 k) → (bd h 140 0 9) → (0 ≤ i ∧ i ≤ x) → (∀ j : Int, 0 ≤ j → j < i → h j = 0) → (∀ j, i ≤ j → h j = f j) → (x - i < (fu : Int)) → W p l e rm_M_cut s m a below meth cd H1 lc2 0 0 Qf (F0 m 2 ls []) := by
    intro fu
    induction fu with
    | zero => intro i h ls H1 lc2 w3 hl hH e4 e5 hf6 bh hi hz hs hm; exact absurd hm (by omega)
    | succ fu ih =>
      intro i h ls H1 lc2 w3 hl hH e4 e5 hf6 bh hi hz hs hm
      refine lv_iload_n hx hb d_M_cut_2 rfl (lv_at hl 0 rfl) ?_
      refine lv_iload_n hx hb d_M_cut_3 rfl (lv_at hl 2 rfl) ?_
      refine zv_icmp_ge (tgt := 20) hx hb d_M_cut_4 rfl (by omega) (by omega) (fun h7 => ?_) (fun h7 => ?_)
      · have i9 : i = x := by omega
        subst i9
        rw [hQ]
        exact z_vret hx hb hr hlk hH (⟨⟨h, e5, bh, ⟨Vt_cut bf hx0.1 hx0.2 hz hs, fun _ => hs i (Int.le_refl i)⟩⟩, (fun k g0 => hf6 k g0)⟩) d_M_cut_20
      · refine lv_aload_n hx hb d_M_cut_7 rfl (lv_at hl 1 rfl) ?_
        refine zv_get (C := "ScaledNumeralDeskModel") (T := TM) (N := 17) hx hb hg uM_in hown hK hH q0lt e4 rfl 13 (by decide) (hg _ wm_695) (fun _ h9 => h9) rfl d_M_cut_8 ?_
        refine lv_iload_n hx hb d_M_cut_11 rfl (lv_at hl 0 rfl) ?_
        refine zv_iconst hx hb d_M_cut_12 ?_
        refine zv_iast hx hb hK hH q1lt e5 (by omega) (by omega) (by omega) d_M_cut_13 (fun H9 lc10 w8 hH11 e12 hg13 => ?_)
        have bd14 := bd_up bh i 0 (by omega)
        have e15 : w8 g = .inr (6, [.ref (ad E (g + 1)), .ref (ad E (g + 2)), .ref (ad E (g + 3)), .ref (ad E (g + 4)), .int (iI ty), .ref (ad E (g + 5)), .ref (ad E (g + 6)), .ref (ad E (g + 7)), .ref (ad E (g + 8)), .ref (ad E (g + 9)), .ref (ad E (g + 10)), .int (iI xm), .int (iI ym), .ref (ad E (g + 11)), .int (iI ne), .ref (ad E (g + 12)), .ref (ad E (g + 13))]) := (hg13 g (by omega)).trans e4
        have hf16 : ∀ k, k ≠ (g + 11) → w8 k = w0 k := fun k g0 => (hg13 k g0).trans (hf6 k g0)
        refine zv_iinc (k := 0) (lv' := [(2, .int (iI (i + 1))), (0, .ref (ad E g)), (1, .int (iI x))]) hx hb d_M_cut_14 hl rfl (by decide) rfl (fun ls hl => ?_)
        refine lv_goto (tgt := 2) hx hb d_M_cut_17 rfl ?_
        exact ih  (i + 1) (up h i 0) _ H9 lc10 w8 (lv_sub hl [0, 1, 2] rfl) hH11 e15 e12 (fun k g0 => hf16 k g0) (by assumption) (by omega) (v_step hz) (ks_step hs) (by omega)
  exact L2 ((x - 0 : Int).toNat + 1) 0 f _ s.heap ([]) w0 (lv_sub hl [0, 1, 2] rfl) hH c0 c1 (fun k _ => rfl) (by exact bf) (by omega) (by intro j g1 g2; omega) (by intro j _; rfl) (by omega)
def rm_M_reaches : Room := { frames := 0, cells := 0, slots := 0, locals := 0 }
set_option maxHeartbeats 4000000 in
set_option maxRecDepth 100000 in
theorem c_M_reaches (l : Launch) (E : zE) (w0 : zW) (g : Nat) (ty xm ym ne : Int) (f : Int → Int) (x : Int) (q0lt : g < zn E) (q1lt : g + 11 < zn E) (c0 : w0 g = .inr (6, [.ref (ad E (g + 1)), .ref (ad E (g + 2)), .ref (ad E (g + 3)), .ref (ad E (g + 4)), .int (iI ty), .ref (ad E (g + 5)), .ref (ad E (g + 6)), .ref (ad E (g + 7)), .ref (ad E (g + 8)), .ref (ad E (g + 9)), .ref (ad E (g + 10)), .int (iI xm), .int (iI ym), .ref (ad E (g + 11)), .int (iI ne), .ref (ad E (g + 12)), .ref (ad E (g + 13))])) (c1 : w0 (g + 11) = zar E 140 f) (bf : bd f 140 0 9) (hx0 : 0 ≤ x ∧ x ≤ 140) : zM l y_M_reaches ws_M_reaches rm_M_reaches E [.ref (ad E g), .int (iI x)] w0 (zQi E w0 (fun z w' => w' = w0 ∧ ((z = 1 ∧ Tp x ≤ Vt f 140) ∨ (z = 0 ∧ Vt f 140 < Tp x)))) := by
  refine z_met (cc := b_M_reaches) (maxL := 3) (ret := (some .boolean)) (by decide +kernel) rfl (Nat.le_of_ble_eq_true rfl) ?_
  intro p e s m below meth cd ls a Qf hQ hC hl hH
  obtain ⟨hF, hr, hlk, hK, hG, hn⟩ := hC
  obtain ⟨hx, hb, hml, hown, hts⟩ := hF
  have hg : ∀ w ∈ GW, w.before a s = true := fun w h => hts w (List.mem_cons_of_mem _ h)
  have hA : ∀ q, s.heap.size ≤ q → va_A (wl E w0) s.heap.size q := fun q h => Or.inr h
  have hl : lv_has ls 3 [(0, .ref (ad E g)), (1, .int (iI x))] := hl
  refine lv_iload_n hx hb d_M_reaches_0 rfl (lv_at hl 1 rfl) ?_
  refine lv_istore_n (lv' := [(2, .int (iI x)), (0, .ref (ad E g)), (1, .int (iI x))]) hx hb d_M_reaches_1 rfl hl (by decide) rfl (fun ls hl => ?_)
  have L2 : ∀ (fu : Nat) (i : Int) (ls : Array Slot) (H1 : Heap) (lc2 : List Loc), (lv_has ls 3 [(2, .int (iI i)), (0, .ref (ad E g)), (1, .int (iI x))]) → (zH E w0 (va_A (wl E w0) s.heap.size) s.heap H1 lc2) → (x ≤ i ∧ i ≤ 140) → (∀ j : Int, x ≤ j → j < i → f j = 0) → (140 - i < (fu : Int)) → W p l e rm_M_reaches s m a below meth cd H1 lc2 0 0 Qf (F0 m 2 ls []) := by
    intro fu
    induction fu with
    | zero => intro i ls H1 lc2 hl hH hi hz hm; exact absurd hm (by omega)
    | succ fu ih =>
      intro i ls H1 lc2 hl hH hi hz hm
      refine lv_iload_n hx hb d_M_reaches_2 rfl (lv_at hl 0 rfl) ?_
      refine zv_sipush hx hb d_M_reaches_3 rfl ?_
      refine zv_icmp_ge (tgt := 26) hx hb d_M_reaches_6 rfl (by omega) (by omega) (fun h3 => ?_) (fun h3 => ?_)
      · refine zv_iconst hx hb d_M_reaches_26 ?_
        rw [hQ]
        exact z_zret hx hb hr hlk hH (⟨rfl, Or.inr ⟨rfl, re_lt bf hx0.1 hx0.2 (fun j g1 g2 => hz j g1 (by omega))⟩⟩) (by exact nar_z (by omega)) d_M_reaches_27
      · refine lv_aload_n hx hb d_M_reaches_9 rfl (lv_at hl 1 rfl) ?_
        refine zv_get (C := "ScaledNumeralDeskModel") (T := TM) (N := 17) hx hb hg uM_in hown hK hH q0lt c0 rfl 13 (by decide) (hg _ wm_695) (fun _ h9 => h9) rfl d_M_reaches_10 ?_
        refine lv_iload_n hx hb d_M_reaches_13 rfl (lv_at hl 0 rfl) ?_
        refine zv_iald hx hb hK hH q1lt c1 (by omega) (by omega) (by omega) d_M_reaches_14 ?_
        have b4 := bf i (by omega) (by omega)
        refine zv_if_eq (tgt := 20) hx hb d_M_reaches_15 rfl (by omega) (fun h5 => ?_) (fun h5 => ?_)
        · refine zv_iinc (k := 0) (lv' := [(2, .int (iI (i + 1))), (0, .ref (ad E g)), (1, .int (iI x))]) hx hb d_M_reaches_20 hl rfl (by decide) rfl (fun ls hl => ?_)
          refine lv_goto (tgt := 2) hx hb d_M_reaches_23 rfl ?_
          exact ih  (i + 1) _ H1 lc2 (lv_sub hl [0, 1, 2] rfl) hH (by omega) (by intro j g1 g2; by_cases e9 : j = i; rw [e9]; assumption; exact hz j g1 (by omega)) (by omega)
        · refine zv_iconst hx hb d_M_reaches_18 ?_
          rw [hQ]
          exact z_zret hx hb hr hlk hH (⟨rfl, Or.inl ⟨rfl, Int.not_lt.mp (fun hh => absurd (Vt_small bf hx0.1 hh i (by omega) (by omega)) (by assumption))⟩⟩) (by exact nar_z (by omega)) d_M_reaches_19
  exact L2 ((140 - x : Int).toNat + 1) x _ s.heap ([]) (lv_sub hl [0, 1, 2] rfl) hH (by omega) (by intro j g1 g2; omega) (by omega)
def rm_M_special : Room := { frames := 0, cells := 0, slots := 0, locals := 0 }
set_option maxHeartbeats 4000000 in
set_option maxRecDepth 100000 in
theorem c_M_special (l : Launch) (E : zE) (w0 : zW) (g : Nat) (ty xm ym ne : Int) (f : Int → Int) (d k : Int) (q0lt : g < zn E) (q1lt : g + 1 < zn E) (c0 : w0 g = .inr (6, [.ref (ad E (g + 1)), .ref (ad E (g + 2)), .ref (ad E (g + 3)), .ref (ad E (g + 4)), .int (iI ty), .ref (ad E (g + 5)), .ref (ad E (g + 6)), .ref (ad E (g + 7)), .ref (ad E (g + 8)), .ref (ad E (g + 9)), .ref (ad E (g + 10)), .int (iI xm), .int (iI ym), .ref (ad E (g + 11)), .int (iI ne), .ref (ad E (g + 12)), .ref (ad E (g + 13))])) (c1 : w0 (g + 1) = zar E 8 f) (hd0 : 0 ≤ d ∧ d < 8) : zM l y_M_special ws_M_special rm_M_special E [.ref (ad E g), .int (iI d), .int (iI k)] w0 (zQi E w0 (fun z w' => (w' (g + 1) = zar E 8 (up f d k) ∧ (z = 0)) ∧ ∀ k, k ≠ (g + 1) → w' k = w0 k)) := by
  refine z_met (cc := b_M_special) (maxL := 3) (ret := (some .int)) (by decide +kernel) rfl (Nat.le_of_ble_eq_true rfl) ?_
  intro p e s m below meth cd ls a Qf hQ hC hl hH
  obtain ⟨hF, hr, hlk, hK, hG, hn⟩ := hC
  obtain ⟨hx, hb, hml, hown, hts⟩ := hF
  have hg : ∀ w ∈ GW, w.before a s = true := fun w h => hts w (List.mem_cons_of_mem _ h)
  have hA : ∀ q, s.heap.size ≤ q → va_A (wl E w0) s.heap.size q := fun q h => Or.inr h
  have hl : lv_has ls 3 [(0, .ref (ad E g)), (1, .int (iI d)), (2, .int (iI k))] := hl
  refine lv_aload_n hx hb d_M_special_0 rfl (lv_at hl 0 rfl) ?_
  refine zv_get (C := "ScaledNumeralDeskModel") (T := TM) (N := 17) hx hb hg uM_in hown hK hH q0lt c0 rfl 0 (by decide) (hg _ wm_682) (fun _ h9 => h9) rfl d_M_special_1 ?_
  refine lv_iload_n hx hb d_M_special_4 rfl (lv_at hl 1 rfl) ?_
  refine lv_iload_n hx hb d_M_special_5 rfl (lv_at hl 2 rfl) ?_
  refine zv_iast hx hb hK hH q1lt c1 (by omega) (by omega) (by omega) d_M_special_6 (fun H2 lc3 w1 hH4 e5 hg6 => ?_)
  have e7 : w1 g = .inr (6, [.ref (ad E (g + 1)), .ref (ad E (g + 2)), .ref (ad E (g + 3)), .ref (ad E (g + 4)), .int (iI ty), .ref (ad E (g + 5)), .ref (ad E (g + 6)), .ref (ad E (g + 7)), .ref (ad E (g + 8)), .ref (ad E (g + 9)), .ref (ad E (g + 10)), .int (iI xm), .int (iI ym), .ref (ad E (g + 11)), .int (iI ne), .ref (ad E (g + 12)), .ref (ad E (g + 13))]) := (hg6 g (by omega)).trans c0
  have hf8 : ∀ k, k ≠ (g + 1) → w1 k = w0 k := fun k g0 => hg6 k g0
  refine zv_iconst hx hb d_M_special_7 ?_
  rw [hQ]
  exact z_iret hx hb hr hlk hH4 (⟨⟨e5, rfl⟩, (fun k g0 => hf8 k g0)⟩) d_M_special_8
