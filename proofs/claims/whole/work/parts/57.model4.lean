theorem nx_M_noRest_0 {g : Nat}  : g ≠ g + 12 := by omega
def rm_M_noRest : Room := { frames := 0, cells := 0, slots := 0, locals := 0 }
set_option maxHeartbeats 4000000 in
set_option maxRecDepth 100000 in
theorem c_M_noRest (l : Launch) (E : zE) (w0 : zW) (g : Nat) (ty xm ym ne : Int) (rf : Int → Int) (q0lt : g < zn E) (q1lt : g + 12 < zn E) (c0 : w0 g = .inr (6, [.ref (ad E (g + 1)), .ref (ad E (g + 2)), .ref (ad E (g + 3)), .ref (ad E (g + 4)), .int (iI ty), .ref (ad E (g + 5)), .ref (ad E (g + 6)), .ref (ad E (g + 7)), .ref (ad E (g + 8)), .ref (ad E (g + 9)), .ref (ad E (g + 10)), .int (iI xm), .int (iI ym), .ref (ad E (g + 11)), .int (iI ne), .ref (ad E (g + 12)), .ref (ad E (g + 13))])) (c1 : w0 (g + 12) = zar E 58 rf)  : zM l y_M_noRest ws_M_noRest rm_M_noRest E [.ref (ad E g)] w0 (zQv E w0 (fun w' => (∃ (r' : Int → Int), w' (g + 12) = zar E 58 r' ∧ bd r' 58 0 9 ∧ (Vt r' 58 = 0)) ∧ ∀ k, k ≠ (g + 12) → w' k = w0 k)) := by
  refine z_met (cc := b_M_noRest) (maxL := 2) (ret := none) (by decide +kernel) rfl (Nat.le_of_ble_eq_true rfl) ?_
  intro p e s m below meth cd ls a Qf hQ hC hl hH
  obtain ⟨hF, hr, hlk, hK, hG, hn⟩ := hC
  obtain ⟨hx, hb, hml, hown, hts⟩ := hF
  have hg : ∀ w ∈ GW, w.before a s = true := fun w h => hts w (List.mem_cons_of_mem _ h)
  have hA : ∀ q, s.heap.size ≤ q → va_A (wl E w0) s.heap.size q := fun q h => Or.inr h
  have hl : lv_has ls 2 [(0, .ref (ad E g))] := hl
  refine zv_iconst hx hb d_M_noRest_0 ?_
  refine lv_istore_n (lv' := [(1, .int (iI 0)), (0, .ref (ad E g))]) hx hb d_M_noRest_1 rfl hl (by decide) rfl (fun ls hl => ?_)
  have L2 : ∀ (fu : Nat) (i : Int) (h : Int → Int) (ls : Array Slot) (H1 : Heap) (lc2 : List Loc) (w3 : zW), (lv_has ls 2 [(1, .int (iI i)), (0, .ref (ad E g))]) → (zH E w3 (va_A (wl E w0) s.heap.size) s.heap H1 lc2) → (w3 g = .inr (6, [.ref (ad E (g + 1)), .ref (ad E (g + 2)), .ref (ad E (g + 3)), .ref (ad E (g + 4)), .int (iI ty), .ref (ad E (g + 5)), .ref (ad E (g + 6)), .ref (ad E (g + 7)), .ref (ad E (g + 8)), .ref (ad E (g + 9)), .ref (ad E (g + 10)), .int (iI xm), .int (iI ym), .ref (ad E (g + 11)), .int (iI ne), .ref (ad E (g + 12)), .ref (ad E (g + 13))])) → (w3 (g + 12) = zar E 58 h) → (∀ k, k ≠ (g + 12) → w3 k = w0 k) → (0 ≤ i ∧ i ≤ 58) → (∀ j : Int, 0 ≤ j → j < i → h j = 0) → (58 - i < (fu : Int)) → W p l e rm_M_noRest s m a below meth cd H1 lc2 0 0 Qf (F0 m 2 ls []) := by
    intro fu
    induction fu with
    | zero => intro i h ls H1 lc2 w3 hl hH e4 e5 hf6 hi hz hm; exact absurd hm (by omega)
    | succ fu ih =>
      intro i h ls H1 lc2 w3 hl hH e4 e5 hf6 hi hz hm
      refine lv_iload_n hx hb d_M_noRest_2 rfl (lv_at hl 0 rfl) ?_
      refine zv_bipush hx hb d_M_noRest_3 rfl ?_
      refine zv_icmp_ge (tgt := 21) hx hb d_M_noRest_5 rfl (by omega) (by omega) (fun h7 => ?_) (fun h7 => ?_)
      · have bh9 : bd h 58 0 9 := fun j g1 g2 => by rw [hz j g1 (by omega)]; decide
        rw [hQ]
        exact z_vret hx hb hr hlk hH (⟨⟨h, e5, (by assumption), Vt_zero (by decide) (fun j g1 g2 => hz j g1 (by omega))⟩, (fun k g0 => hf6 k g0)⟩) d_M_noRest_21
      · refine lv_aload_n hx hb d_M_noRest_8 rfl (lv_at hl 1 rfl) ?_
        refine zv_get (C := "ScaledNumeralDeskModel") (T := TM) (N := 17) hx hb hg uM_in hown hK hH q0lt e4 rfl 15 (by decide) (hg _ wm_697) (fun _ h9 => h9) rfl d_M_noRest_9 ?_
        refine lv_iload_n hx hb d_M_noRest_12 rfl (lv_at hl 0 rfl) ?_
        refine zv_iconst hx hb d_M_noRest_13 ?_
        refine zv_iast hx hb hK hH q1lt e5 (by omega) (by omega) (by omega) d_M_noRest_14 (fun H9 lc10 w8 hH11 e12 hg13 => ?_)
        have e14 : w8 g = .inr (6, [.ref (ad E (g + 1)), .ref (ad E (g + 2)), .ref (ad E (g + 3)), .ref (ad E (g + 4)), .int (iI ty), .ref (ad E (g + 5)), .ref (ad E (g + 6)), .ref (ad E (g + 7)), .ref (ad E (g + 8)), .ref (ad E (g + 9)), .ref (ad E (g + 10)), .int (iI xm), .int (iI ym), .ref (ad E (g + 11)), .int (iI ne), .ref (ad E (g + 12)), .ref (ad E (g + 13))]) := (hg13 g (nx_M_noRest_0 )).trans e4
        have hf15 : ∀ k, k ≠ (g + 12) → w8 k = w0 k := fun k g0 => (hg13 k g0).trans (hf6 k g0)
        refine zv_iinc (k := 0) (lv' := [(1, .int (iI (i + 1))), (0, .ref (ad E g))]) hx hb d_M_noRest_15 hl rfl (by decide) rfl (fun ls hl => ?_)
        refine lv_goto (tgt := 2) hx hb d_M_noRest_18 rfl ?_
        exact ih  (i + 1) (up h i 0) _ H9 lc10 w8 (lv_sub hl [0, 1] rfl) hH11 e14 e12 (fun k g0 => hf15 k g0) (by omega) (v_step hz) (by omega)
  exact L2 ((58 - 0 : Int).toNat + 1) 0 rf _ s.heap ([]) w0 (lv_sub hl [0, 1] rfl) hH c0 c1 (fun k _ => rfl) (by omega) (by intro j g1 g2; omega) (by omega)
theorem nx_M_bring_0 {g : Nat}  : g ≠ g + 12 := by omega
def rm_M_bring : Room := { frames := 0, cells := 0, slots := 0, locals := 0 }
set_option maxHeartbeats 4000000 in
set_option maxRecDepth 100000 in
theorem c_M_bring (l : Launch) (E : zE) (w0 : zW) (g : Nat) (ty xm ym ne : Int) (rf : Int → Int) (dg : Int) (q0lt : g < zn E) (q1lt : g + 12 < zn E) (c0 : w0 g = .inr (6, [.ref (ad E (g + 1)), .ref (ad E (g + 2)), .ref (ad E (g + 3)), .ref (ad E (g + 4)), .int (iI ty), .ref (ad E (g + 5)), .ref (ad E (g + 6)), .ref (ad E (g + 7)), .ref (ad E (g + 8)), .ref (ad E (g + 9)), .ref (ad E (g + 10)), .int (iI xm), .int (iI ym), .ref (ad E (g + 11)), .int (iI ne), .ref (ad E (g + 12)), .ref (ad E (g + 13))])) (c1 : w0 (g + 12) = zar E 58 rf) (br : bd rf 58 0 9) (hdg : 0 ≤ dg ∧ dg ≤ 9) (h57 : Vt rf 58 < Tp 57) : zM l y_M_bring ws_M_bring rm_M_bring E [.ref (ad E g), .int (iI dg)] w0 (zQv E w0 (fun w' => (∃ (r' : Int → Int), w' (g + 12) = zar E 58 r' ∧ bd r' 58 0 9 ∧ (Vt r' 58 = 10 * Vt rf 58 + dg)) ∧ ∀ k, k ≠ (g + 12) → w' k = w0 k)) := by
  refine z_met (cc := b_M_bring) (maxL := 3) (ret := none) (by decide +kernel) rfl (Nat.le_of_ble_eq_true rfl) ?_
  intro p e s m below meth cd ls a Qf hQ hC hl hH
  obtain ⟨hF, hr, hlk, hK, hG, hn⟩ := hC
  obtain ⟨hx, hb, hml, hown, hts⟩ := hF
  have hg : ∀ w ∈ GW, w.before a s = true := fun w h => hts w (List.mem_cons_of_mem _ h)
  have hA : ∀ q, s.heap.size ≤ q → va_A (wl E w0) s.heap.size q := fun q h => Or.inr h
  have hl : lv_has ls 3 [(0, .ref (ad E g)), (1, .int (iI dg))] := hl
  refine zv_bipush hx hb d_M_bring_0 rfl ?_
  refine lv_istore_n (lv' := [(2, .int (iI 57)), (0, .ref (ad E g)), (1, .int (iI dg))]) hx hb d_M_bring_2 rfl hl (by decide) rfl (fun ls hl => ?_)
  have L3 : ∀ (fu : Nat) (i : Int) (h : Int → Int) (ls : Array Slot) (H1 : Heap) (lc2 : List Loc) (w3 : zW), (lv_has ls 3 [(2, .int (iI i)), (0, .ref (ad E g)), (1, .int (iI dg))]) → (zH E w3 (va_A (wl E w0) s.heap.size) s.heap H1 lc2) → (w3 g = .inr (6, [.ref (ad E (g + 1)), .ref (ad E (g + 2)), .ref (ad E (g + 3)), .ref (ad E (g + 4)), .int (iI ty), .ref (ad E (g + 5)), .ref (ad E (g + 6)), .ref (ad E (g + 7)), .ref (ad E (g + 8)), .ref (ad E (g + 9)), .ref (ad E (g + 10)), .int (iI xm), .int (iI ym), .ref (ad E (g + 11)), .int (iI ne), .ref (ad E (g + 12)), .ref (ad E (g + 13))])) → (w3 (g + 12) = zar E 58 h) → (∀ k, k ≠ (g + 12) → w3 k = w0 k) → (bd h 58 0 9) → (0 ≤ i ∧ i ≤ 57) → (∀ j : Int, i < j → j < 58 → h j = rf (j - 1)) → (∀ j : Int, 0 ≤ j → j ≤ i → h j = rf j) → (i < (fu : Int)) → W p l e rm_M_bring s m a below meth cd H1 lc2 0 0 Qf (F0 m 3 ls []) := by
    intro fu
    induction fu with
    | zero => intro i h ls H1 lc2 w3 hl hH e4 e5 hf6 bh hi hk hu hm; exact absurd hm (by omega)
    | succ fu ih =>
      intro i h ls H1 lc2 w3 hl hH e4 e5 hf6 bh hi hk hu hm
      refine lv_iload_n hx hb d_M_bring_3 rfl (lv_at hl 0 rfl) ?_
      refine zv_if_le (tgt := 27) hx hb d_M_bring_4 rfl (by omega) (fun h7 => ?_) (fun h7 => ?_)
      · refine lv_aload_n hx hb d_M_bring_27 rfl (lv_at hl 1 rfl) ?_
        refine zv_get (C := "ScaledNumeralDeskModel") (T := TM) (N := 17) hx hb hg uM_in hown hK hH q0lt e4 rfl 15 (by decide) (hg _ wm_697) (fun _ h9 => h9) rfl d_M_bring_28 ?_
        refine zv_iconst hx hb d_M_bring_31 ?_
        refine lv_iload_n hx hb d_M_bring_32 rfl (lv_at hl 2 rfl) ?_
        refine zv_iast hx hb hK hH q1lt e5 (by omega) (by omega) (by omega) d_M_bring_33 (fun H9 lc10 w8 hH11 e12 hg13 => ?_)
        have bd14 := bd_up bh 0 dg (by omega)
        have e15 : w8 g = .inr (6, [.ref (ad E (g + 1)), .ref (ad E (g + 2)), .ref (ad E (g + 3)), .ref (ad E (g + 4)), .int (iI ty), .ref (ad E (g + 5)), .ref (ad E (g + 6)), .ref (ad E (g + 7)), .ref (ad E (g + 8)), .ref (ad E (g + 9)), .ref (ad E (g + 10)), .int (iI xm), .int (iI ym), .ref (ad E (g + 11)), .int (iI ne), .ref (ad E (g + 12)), .ref (ad E (g + 13))]) := (hg13 g (nx_M_bring_0 )).trans e4
        have hf16 : ∀ k, k ≠ (g + 12) → w8 k = w0 k := fun k g0 => (hg13 k g0).trans (hf6 k g0)
        have i0 : i = 0 := by omega
        subst i0
        rw [hQ]
        exact z_vret hx hb hr hlk hH11 (⟨⟨(up h 0 dg), e12, bd14, br_V br h57 hk⟩, (fun k g0 => hf16 k g0)⟩) d_M_bring_34
      · refine lv_aload_n hx hb d_M_bring_7 rfl (lv_at hl 1 rfl) ?_
        refine zv_get (C := "ScaledNumeralDeskModel") (T := TM) (N := 17) hx hb hg uM_in hown hK hH q0lt e4 rfl 15 (by decide) (hg _ wm_697) (fun _ h9 => h9) rfl d_M_bring_8 ?_
        refine lv_iload_n hx hb d_M_bring_11 rfl (lv_at hl 0 rfl) ?_
        refine lv_aload_n hx hb d_M_bring_12 rfl (lv_at hl 1 rfl) ?_
        refine zv_get (C := "ScaledNumeralDeskModel") (T := TM) (N := 17) hx hb hg uM_in hown hK hH q0lt e4 rfl 15 (by decide) (hg _ wm_697) (fun _ h9 => h9) rfl d_M_bring_13 ?_
        refine lv_iload_n hx hb d_M_bring_16 rfl (lv_at hl 0 rfl) ?_
        refine zv_iconst hx hb d_M_bring_17 ?_
        refine zv_isub hx hb d_M_bring_18 ?_
        refine zv_iald hx hb hK hH q1lt e5 (by omega) (by omega) (by omega) d_M_bring_19 ?_
        have b17 := bh (i - 1) (by omega) (by omega)
        refine zv_iast hx hb hK hH q1lt e5 (by omega) (by omega) (by omega) d_M_bring_20 (fun H19 lc20 w18 hH21 e22 hg23 => ?_)
        have bd24 := bd_up bh i (h (i - 1)) (by omega)
        have e25 : w18 g = .inr (6, [.ref (ad E (g + 1)), .ref (ad E (g + 2)), .ref (ad E (g + 3)), .ref (ad E (g + 4)), .int (iI ty), .ref (ad E (g + 5)), .ref (ad E (g + 6)), .ref (ad E (g + 7)), .ref (ad E (g + 8)), .ref (ad E (g + 9)), .ref (ad E (g + 10)), .int (iI xm), .int (iI ym), .ref (ad E (g + 11)), .int (iI ne), .ref (ad E (g + 12)), .ref (ad E (g + 13))]) := (hg23 g (nx_M_bring_0 )).trans e4
        have hf26 : ∀ k, k ≠ (g + 12) → w18 k = w0 k := fun k g0 => (hg23 k g0).trans (hf6 k g0)
        refine zv_iinc (k := 0) (lv' := [(2, .int (iI (i + (-1)))), (0, .ref (ad E g)), (1, .int (iI dg))]) hx hb d_M_bring_21 hl rfl (by decide) rfl (fun ls hl => ?_)
        refine lv_goto (tgt := 3) hx hb d_M_bring_24 rfl ?_
        exact ih  (i + (-1)) (up h i (h (i - 1))) _ H19 lc20 w18 (lv_sub hl [0, 1, 2] rfl) hH21 e25 e22 (fun k g0 => hf26 k g0) (by assumption) (by omega) (by intro j g1 g2; by_cases e8 : j = i; rw [e8, up_at]; exact hu (i - 1) (by omega) (by omega); rw [up_ne e8]; exact hk j (by omega) g2) (by intro j g1 g2; rw [up_ne (by omega)]; exact hu j g1 (by omega)) (by omega)
  exact L3 ((57 : Int).toNat + 1) 57 rf _ s.heap ([]) w0 (lv_sub hl [0, 1, 2] rfl) hH c0 c1 (fun k _ => rfl) (by exact br) (by omega) (by intro j g1 g2; omega) (by intro j _ _; rfl) (by omega)
def rm_M_holdsY : Room := { frames := 0, cells := 0, slots := 0, locals := 0 }
set_option maxHeartbeats 4000000 in
set_option maxRecDepth 100000 in
theorem c_M_holdsY (l : Launch) (E : zE) (w0 : zW) (g : Nat) (ty xm ym ne : Int) (rf yf : Int → Int) (q0lt : g < zn E) (q1lt : g + 12 < zn E) (q2lt : g + 10 < zn E) (c0 : w0 g = .inr (6, [.ref (ad E (g + 1)), .ref (ad E (g + 2)), .ref (ad E (g + 3)), .ref (ad E (g + 4)), .int (iI ty), .ref (ad E (g + 5)), .ref (ad E (g + 6)), .ref (ad E (g + 7)), .ref (ad E (g + 8)), .ref (ad E (g + 9)), .ref (ad E (g + 10)), .int (iI xm), .int (iI ym), .ref (ad E (g + 11)), .int (iI ne), .ref (ad E (g + 12)), .ref (ad E (g + 13))])) (c1 : w0 (g + 12) = zar E 58 rf) (c2 : w0 (g + 10) = zar E 56 yf) (br : bd rf 58 0 9) (by1 : bd yf 56 0 9) : zM l y_M_holdsY ws_M_holdsY rm_M_holdsY E [.ref (ad E g)] w0 (zQi E w0 (fun z w' => w' = w0 ∧ ((z = 1 ∧ Vt yf 56 ≤ Vt rf 58) ∨ (z = 0 ∧ Vt rf 58 < Vt yf 56)))) := by
  refine z_met (cc := b_M_holdsY) (maxL := 3) (ret := (some .boolean)) (by decide +kernel) rfl (Nat.le_of_ble_eq_true rfl) ?_
  intro p e s m below meth cd ls a Qf hQ hC hl hH
  obtain ⟨hF, hr, hlk, hK, hG, hn⟩ := hC
  obtain ⟨hx, hb, hml, hown, hts⟩ := hF
  have hg : ∀ w ∈ GW, w.before a s = true := fun w h => hts w (List.mem_cons_of_mem _ h)
  have hA : ∀ q, s.heap.size ≤ q → va_A (wl E w0) s.heap.size q := fun q h => Or.inr h
  have hl : lv_has ls 3 [(0, .ref (ad E g))] := hl
  have bye := ex_bd9 by1
  have vye := Vt_exM (g := yf)
  refine zv_bipush hx hb d_M_holdsY_0 rfl ?_
  refine lv_istore_n (lv' := [(1, .int (iI 57)), (0, .ref (ad E g))]) hx hb d_M_holdsY_2 rfl hl (by decide) rfl (fun ls hl => ?_)
  have L3 : ∀ (fu : Nat) (i : Int) (ls : Array Slot) (H1 : Heap) (lc2 : List Loc), (lv_has ls 3 [(0, .ref (ad E g)), (1, .int (iI i))]) → (zH E w0 (va_A (wl E w0) s.heap.size) s.heap H1 lc2) → (-1 ≤ i ∧ i ≤ 57) → (∀ j : Int, i < j → j < 58 → rf j = ex yf 56 j) → (i + 1 < (fu : Int)) → W p l e rm_M_holdsY s m a below meth cd H1 lc2 0 0 Qf (F0 m 3 ls []) := by
    intro fu
    induction fu with
    | zero => intro i ls H1 lc2 hl hH hi hk hm; exact absurd hm (by omega)
    | succ fu ih =>
      intro i ls H1 lc2 hl hH hi hk hm
      refine lv_iload_n hx hb d_M_holdsY_3 rfl (lv_at hl 1 rfl) ?_
      refine zv_if_lt (tgt := 56) hx hb d_M_holdsY_4 rfl (by omega) (fun h3 => ?_) (fun h3 => ?_)
      · refine zv_iconst hx hb d_M_holdsY_56 ?_
        rw [hQ]
        exact z_zret hx hb hr hlk hH (⟨rfl, Or.inl ⟨rfl, by rw [← vye, Vt_eqv (f := rf) (g := ex yf 56) (fun j g1 g2 => hk j (by omega) g2)]; exact Int.le_refl _⟩⟩) (by exact nar_z (by omega)) d_M_holdsY_57
      · have L23 : ∀ (dd : Int) (ls : Array Slot) (H4 : Heap) (lc5 : List Loc), (lv_has ls 3 [(0, .ref (ad E g)), (1, .int (iI i))]) → (zH E w0 (va_A (wl E w0) s.heap.size) s.heap H4 lc5) → (dd = ex yf 56 i) → (0 ≤ dd ∧ dd ≤ 9) → W p l e rm_M_holdsY s m a below meth cd H4 lc5 0 0 Qf (F0 m 23 ls [.int (iI dd)]) := by
          intro dd ls H4 lc5 hl hH hdd hdr
          refine lv_istore_n (lv' := [(2, .int (iI dd)), (0, .ref (ad E g)), (1, .int (iI i))]) hx hb d_M_holdsY_23 rfl hl (by decide) rfl (fun ls hl => ?_)
          refine lv_aload_n hx hb d_M_holdsY_24 rfl (lv_at hl 1 rfl) ?_
          refine zv_get (C := "ScaledNumeralDeskModel") (T := TM) (N := 17) hx hb hg uM_in hown hK hH q0lt c0 rfl 15 (by decide) (hg _ wm_697) (fun _ h9 => h9) rfl d_M_holdsY_25 ?_
          refine lv_iload_n hx hb d_M_holdsY_28 rfl (lv_at hl 2 rfl) ?_
          refine zv_iald hx hb hK hH q1lt c1 (by omega) (by omega) (by omega) d_M_holdsY_29 ?_
          have b6 := br i (by omega) (by omega)
          refine lv_iload_n hx hb d_M_holdsY_30 rfl (lv_at hl 0 rfl) ?_
          refine zv_icmp_eq (tgt := 50) hx hb d_M_holdsY_31 rfl (by omega) (by omega) (fun h7 => ?_) (fun h7 => ?_)
          · refine zv_iinc (k := 2) (lv' := [(1, .int (iI (i + (-1)))), (2, .int (iI dd)), (0, .ref (ad E g))]) hx hb d_M_holdsY_50 hl rfl (by decide) rfl (fun ls hl => ?_)
            refine lv_goto (tgt := 3) hx hb d_M_holdsY_53 rfl ?_
            exact ih  (i + (-1)) _ H4 lc5 (lv_sub hl [2, 0] rfl) hH (by omega) (by exact eq_step hk (by omega)) (by omega)
          · refine lv_aload_n hx hb d_M_holdsY_34 rfl (lv_at hl 1 rfl) ?_
            refine zv_get (C := "ScaledNumeralDeskModel") (T := TM) (N := 17) hx hb hg uM_in hown hK hH q0lt c0 rfl 15 (by decide) (hg _ wm_697) (fun _ h9 => h9) rfl d_M_holdsY_35 ?_
            refine lv_iload_n hx hb d_M_holdsY_38 rfl (lv_at hl 2 rfl) ?_
            refine zv_iald hx hb hK hH q1lt c1 (by omega) (by omega) (by omega) d_M_holdsY_39 ?_
            have b8 := br i (by omega) (by omega)
            refine lv_iload_n hx hb d_M_holdsY_40 rfl (lv_at hl 0 rfl) ?_
            refine zv_icmp_le (tgt := 48) hx hb d_M_holdsY_41 rfl (by omega) (by omega) (fun h9 => ?_) (fun h9 => ?_)
            · refine zv_iconst hx hb d_M_holdsY_48 ?_
              rw [hQ]
              exact z_zret hx hb hr hlk hH (⟨rfl, Or.inr ⟨rfl, by rw [← vye]; exact Vt_lt br bye (by omega) (by omega) hk (by omega)⟩⟩) (by exact nar_z (by omega)) d_M_holdsY_49
            · refine zv_iconst hx hb d_M_holdsY_44 ?_
              refine lv_goto (tgt := 49) hx hb d_M_holdsY_45 rfl ?_
              rw [hQ]
              exact z_zret hx hb hr hlk hH (⟨rfl, Or.inl ⟨rfl, by rw [← vye]; exact Int.le_of_lt (Vt_lt bye br (by omega) (by omega) (fun j g1 g2 => (hk j g1 g2).symm) (by omega))⟩⟩) (by exact nar_z (by omega)) d_M_holdsY_49
        refine lv_iload_n hx hb d_M_holdsY_7 rfl (lv_at hl 1 rfl) ?_
        refine zv_bipush hx hb d_M_holdsY_8 rfl ?_
        refine zv_icmp_ge (tgt := 22) hx hb d_M_holdsY_10 rfl (by omega) (by omega) (fun h10 => ?_) (fun h10 => ?_)
        · refine zv_iconst hx hb d_M_holdsY_22 ?_
          exact L23 0 _ H1 lc2 (lv_sub hl [0, 1] rfl) hH (by first | exact (ex_lt (by omega)).symm | exact (ex_ge (by omega)).symm) (by omega)
        · refine lv_aload_n hx hb d_M_holdsY_13 rfl (lv_at hl 0 rfl) ?_
          refine zv_get (C := "ScaledNumeralDeskModel") (T := TM) (N := 17) hx hb hg uM_in hown hK hH q0lt c0 rfl 10 (by decide) (hg _ wm_692) (fun _ h9 => h9) rfl d_M_holdsY_14 ?_
          refine lv_iload_n hx hb d_M_holdsY_17 rfl (lv_at hl 1 rfl) ?_
          refine zv_iald hx hb hK hH q2lt c2 (by omega) (by omega) (by omega) d_M_holdsY_18 ?_
          have b11 := by1 i (by omega) (by omega)
          refine lv_goto (tgt := 23) hx hb d_M_holdsY_19 rfl ?_
          exact L23 (yf i) _ H1 lc2 (lv_sub hl [0, 1] rfl) hH (by first | exact (ex_lt (by omega)).symm | exact (ex_ge (by omega)).symm) (by omega)
  exact L3 ((57 + 1 : Int).toNat + 1) 57 _ s.heap ([]) (lv_sub hl [1, 0] rfl) hH (by omega) (by intro j g1 g2; omega) (by omega)
theorem nx_M_subtractY_0 {g : Nat}  : g ≠ g + 12 := by omega
theorem nx_M_subtractY_1 {g : Nat}  : g + 10 ≠ g + 12 := by omega
def rm_M_subtractY : Room := { frames := 0, cells := 0, slots := 0, locals := 0 }
set_option maxHeartbeats 4000000 in
set_option maxRecDepth 100000 in
theorem c_M_subtractY (l : Launch) (E : zE) (w0 : zW) (g : Nat) (ty xm ym ne : Int) (rf yf : Int → Int) (q0lt : g < zn E) (q1lt : g + 12 < zn E) (q2lt : g + 10 < zn E) (c0 : w0 g = .inr (6, [.ref (ad E (g + 1)), .ref (ad E (g + 2)), .ref (ad E (g + 3)), .ref (ad E (g + 4)), .int (iI ty), .ref (ad E (g + 5)), .ref (ad E (g + 6)), .ref (ad E (g + 7)), .ref (ad E (g + 8)), .ref (ad E (g + 9)), .ref (ad E (g + 10)), .int (iI xm), .int (iI ym), .ref (ad E (g + 11)), .int (iI ne), .ref (ad E (g + 12)), .ref (ad E (g + 13))])) (c1 : w0 (g + 12) = zar E 58 rf) (c2 : w0 (g + 10) = zar E 56 yf) (br : bd rf 58 0 9) (by1 : bd yf 56 0 9) (hle : Vt yf 56 ≤ Vt rf 58) : zM l y_M_subtractY ws_M_subtractY rm_M_subtractY E [.ref (ad E g)] w0 (zQv E w0 (fun w' => (∃ (r' : Int → Int), w' (g + 12) = zar E 58 r' ∧ bd r' 58 0 9 ∧ (Vt r' 58 = Vt rf 58 - Vt yf 56)) ∧ ∀ k, k ≠ (g + 12) → w' k = w0 k)) := by
  refine z_met (cc := b_M_subtractY) (maxL := 4) (ret := none) (by decide +kernel) rfl (Nat.le_of_ble_eq_true rfl) ?_
  intro p e s m below meth cd ls a Qf hQ hC hl hH
  obtain ⟨hF, hr, hlk, hK, hG, hn⟩ := hC
  obtain ⟨hx, hb, hml, hown, hts⟩ := hF
  have hg : ∀ w ∈ GW, w.before a s = true := fun w h => hts w (List.mem_cons_of_mem _ h)
  have hA : ∀ q, s.heap.size ≤ q → va_A (wl E w0) s.heap.size q := fun q h => Or.inr h
  have hl : lv_has ls 4 [(0, .ref (ad E g))] := hl
  have bye := ex_bd9 by1
  have vye := Vt_exM (g := yf)
  refine zv_iconst hx hb d_M_subtractY_0 ?_
  refine lv_istore_n (lv' := [(1, .int (iI 0)), (0, .ref (ad E g))]) hx hb d_M_subtractY_1 rfl hl (by decide) rfl (fun ls hl => ?_)
  refine zv_iconst hx hb d_M_subtractY_2 ?_
  refine lv_istore_n (lv' := [(2, .int (iI 0)), (1, .int (iI 0)), (0, .ref (ad E g))]) hx hb d_M_subtractY_3 rfl hl (by decide) rfl (fun ls hl => ?_)
  have L4 : ∀ (fu : Nat) (i : Int) (c : Int) (h : Int → Int) (ls : Array Slot) (H1 : Heap) (lc2 : List Loc) (w3 : zW), (lv_has ls 4 [(0, .ref (ad E g)), (1, .int (iI c)), (2, .int (iI i))]) → (zH E w3 (va_A (wl E w0) s.heap.size) s.heap H1 lc2) → (w3 g = .inr (6, [.ref (ad E (g + 1)), .ref (ad E (g + 2)), .ref (ad E (g + 3)), .ref (ad E (g + 4)), .int (iI ty), .ref (ad E (g + 5)), .ref (ad E (g + 6)), .ref (ad E (g + 7)), .ref (ad E (g + 8)), .ref (ad E (g + 9)), .ref (ad E (g + 10)), .int (iI xm), .int (iI ym), .ref (ad E (g + 11)), .int (iI ne), .ref (ad E (g + 12)), .ref (ad E (g + 13))])) → (w3 (g + 12) = zar E 58 h) → (w3 (g + 10) = zar E 56 yf) → (∀ k, k ≠ (g + 12) → w3 k = w0 k) → (bd h 58 0 9) → (0 ≤ i ∧ i ≤ 58) → (0 ≤ c ∧ c ≤ 1) → (∀ j : Int, i ≤ j → h j = rf j) → (Vt h i - c * Tp i = Vt rf i - Vt (ex yf 56) i) → (58 - i < (fu : Int)) → W p l e rm_M_subtractY s m a below meth cd H1 lc2 0 0 Qf (F0 m 4 ls []) := by
    intro fu
    induction fu with
    | zero => intro i c h ls H1 lc2 w3 hl hH e4 e5 e6 hf7 bh hi hc hs hv hm; exact absurd hm (by omega)
    | succ fu ih =>
      intro i c h ls H1 lc2 w3 hl hH e4 e5 e6 hf7 bh hi hc hs hv hm
      refine lv_iload_n hx hb d_M_subtractY_4 rfl (lv_at hl 2 rfl) ?_
      refine zv_bipush hx hb d_M_subtractY_5 rfl ?_
      refine zv_icmp_ge (tgt := 64) hx hb d_M_subtractY_7 rfl (by omega) (by omega) (fun h8 => ?_) (fun h8 => ?_)
      · have i9 : i = 58 := by omega
        subst i9
        rw [vye] at hv
        have vh := Vt_in bh (show (0 : Int) ≤ 58 by decide) (Int.le_refl 58)
        have vr := Vt_in br (show (0 : Int) ≤ 58 by decide) (Int.le_refl 58)
        have vy := Vt_in by1 (show (0 : Int) ≤ 56 by decide) (Int.le_refl 56)
        rw [hQ]
        exact z_vret hx hb hr hlk hH (⟨⟨h, e5, bh, sb_end hv vh.1 vh.2 hle vr.2 vy.1⟩, (fun k g0 => hf7 k g0)⟩) d_M_subtractY_64
      · refine lv_aload_n hx hb d_M_subtractY_10 rfl (lv_at hl 0 rfl) ?_
        refine zv_get (C := "ScaledNumeralDeskModel") (T := TM) (N := 17) hx hb hg uM_in hown hK hH q0lt e4 rfl 15 (by decide) (hg _ wm_697) (fun _ h9 => h9) rfl d_M_subtractY_11 ?_
        refine lv_iload_n hx hb d_M_subtractY_14 rfl (lv_at hl 2 rfl) ?_
        refine zv_iald hx hb hK hH q1lt e5 (by omega) (by omega) (by omega) d_M_subtractY_15 ?_
        have b9 := bh i (by omega) (by omega)
        have L32 : ∀ (dd : Int) (ls : Array Slot) (H10 : Heap) (lc11 : List Loc), (lv_has ls 4 [(0, .ref (ad E g)), (1, .int (iI c)), (2, .int (iI i))]) → (zH E w3 (va_A (wl E w0) s.heap.size) s.heap H10 lc11) → (dd = ex yf 56 i) → (0 ≤ dd ∧ dd ≤ 9) → W p l e rm_M_subtractY s m a below meth cd H10 lc11 0 0 Qf (F0 m 32 ls [.int (iI dd), .int (iI (h i))]) := by
          intro dd ls H10 lc11 hl hH hdd hdr
          have hsi := hs i (Int.le_refl i)
          refine zv_isub hx hb d_M_subtractY_32 ?_
          refine lv_iload_n hx hb d_M_subtractY_33 rfl (lv_at hl 1 rfl) ?_
          refine zv_isub hx hb d_M_subtractY_34 ?_
          refine lv_istore_n (lv' := [(3, .int (iI (((h i) - dd) - c))), (0, .ref (ad E g)), (1, .int (iI c)), (2, .int (iI i))]) hx hb d_M_subtractY_35 rfl hl (by decide) rfl (fun ls hl => ?_)
          have L45 : ∀ (c2 : Int) (ls : Array Slot) (H12 : Heap) (lc13 : List Loc), (lv_has ls 4 [(3, .int (iI (((h i) - dd) - c))), (0, .ref (ad E g)), (1, .int (iI c)), (2, .int (iI i))]) → (zH E w3 (va_A (wl E w0) s.heap.size) s.heap H12 lc13) → ((c2 = 1 ∧ h i - dd - c < 0) ∨ (c2 = 0 ∧ ¬ h i - dd - c < 0)) → W p l e rm_M_subtractY s m a below meth cd H12 lc13 0 0 Qf (F0 m 45 ls [.int (iI c2)]) := by
            intro c2 ls H12 lc13 hl hH hc2
            refine lv_istore_n (lv' := [(1, .int (iI c2)), (3, .int (iI (((h i) - dd) - c))), (0, .ref (ad E g)), (2, .int (iI i))]) hx hb d_M_subtractY_45 rfl hl (by decide) rfl (fun ls hl => ?_)
            refine lv_aload_n hx hb d_M_subtractY_46 rfl (lv_at hl 2 rfl) ?_
            refine zv_get (C := "ScaledNumeralDeskModel") (T := TM) (N := 17) hx hb hg uM_in hown hK hH q0lt e4 rfl 15 (by decide) (hg _ wm_697) (fun _ h9 => h9) rfl d_M_subtractY_47 ?_
            refine lv_iload_n hx hb d_M_subtractY_50 rfl (lv_at hl 3 rfl) ?_
            refine lv_iload_n hx hb d_M_subtractY_51 rfl (lv_at hl 1 rfl) ?_
            refine zv_bipush hx hb d_M_subtractY_52 rfl ?_
            refine lv_iload_n hx hb d_M_subtractY_54 rfl (lv_at hl 0 rfl) ?_
            refine zv_imul hx hb d_M_subtractY_55 ?_
            refine zv_iadd hx hb d_M_subtractY_56 ?_
            refine zv_iast hx hb hK hH q1lt e5 (by omega) (by omega) (by omega) d_M_subtractY_57 (fun H15 lc16 w14 hH17 e18 hg19 => ?_)
            have bd20 := bd_up bh i ((((h i) - dd) - c) + (10 * c2)) (by omega)
            have e21 : w14 g = .inr (6, [.ref (ad E (g + 1)), .ref (ad E (g + 2)), .ref (ad E (g + 3)), .ref (ad E (g + 4)), .int (iI ty), .ref (ad E (g + 5)), .ref (ad E (g + 6)), .ref (ad E (g + 7)), .ref (ad E (g + 8)), .ref (ad E (g + 9)), .ref (ad E (g + 10)), .int (iI xm), .int (iI ym), .ref (ad E (g + 11)), .int (iI ne), .ref (ad E (g + 12)), .ref (ad E (g + 13))]) := (hg19 g (nx_M_subtractY_0 )).trans e4
            have e22 : w14 (g + 10) = zar E 56 yf := (hg19 (g + 10) (nx_M_subtractY_1 )).trans e6
            have hf23 : ∀ k, k ≠ (g + 12) → w14 k = w0 k := fun k g0 => (hg19 k g0).trans (hf7 k g0)
            refine zv_iinc (k := 3) (lv' := [(2, .int (iI (i + 1))), (1, .int (iI c2)), (3, .int (iI (((h i) - dd) - c))), (0, .ref (ad E g))]) hx hb d_M_subtractY_58 hl rfl (by decide) rfl (fun ls hl => ?_)
            refine lv_goto (tgt := 4) hx hb d_M_subtractY_61 rfl ?_
            exact ih  (i + 1) c2 (up h i ((((h i) - dd) - c) + (10 * c2))) _ H15 lc16 w14 (lv_sub hl [3, 1, 0] rfl) hH17 e21 e18 e22 (fun k g0 => hf23 k g0) (by assumption) (by omega) (by omega) (ks_step hs) (by exact sb_step hi.1 (by rw [hsi, hdd]) hv) (by omega)
          refine lv_iload_n hx hb d_M_subtractY_36 rfl (lv_at hl 0 rfl) ?_
          refine zv_if_ge (tgt := 44) hx hb d_M_subtractY_37 rfl (by omega) (fun h24 => ?_) (fun h24 => ?_)
          · refine zv_iconst hx hb d_M_subtractY_44 ?_
            exact L45 0 _ H10 lc11 (lv_sub hl [0, 1, 2, 3] rfl) hH (by omega)
          · refine zv_iconst hx hb d_M_subtractY_40 ?_
            refine lv_goto (tgt := 45) hx hb d_M_subtractY_41 rfl ?_
            exact L45 1 _ H10 lc11 (lv_sub hl [0, 1, 2, 3] rfl) hH (by omega)
        refine lv_iload_n hx hb d_M_subtractY_16 rfl (lv_at hl 2 rfl) ?_
        refine zv_bipush hx hb d_M_subtractY_17 rfl ?_
        refine zv_icmp_ge (tgt := 31) hx hb d_M_subtractY_19 rfl (by omega) (by omega) (fun h25 => ?_) (fun h25 => ?_)
        · refine zv_iconst hx hb d_M_subtractY_31 ?_
          exact L32 0 _ H1 lc2 (lv_sub hl [0, 1, 2] rfl) hH (by first | exact (ex_lt (by omega)).symm | exact (ex_ge (by omega)).symm) (by omega)
        · refine lv_aload_n hx hb d_M_subtractY_22 rfl (lv_at hl 0 rfl) ?_
          refine zv_get (C := "ScaledNumeralDeskModel") (T := TM) (N := 17) hx hb hg uM_in hown hK hH q0lt e4 rfl 10 (by decide) (hg _ wm_692) (fun _ h9 => h9) rfl d_M_subtractY_23 ?_
          refine lv_iload_n hx hb d_M_subtractY_26 rfl (lv_at hl 2 rfl) ?_
          refine zv_iald hx hb hK hH q2lt e6 (by omega) (by omega) (by omega) d_M_subtractY_27 ?_
          have b26 := by1 i (by omega) (by omega)
          refine lv_goto (tgt := 32) hx hb d_M_subtractY_28 rfl ?_
          exact L32 (yf i) _ H1 lc2 (lv_sub hl [0, 1, 2] rfl) hH (by first | exact (ex_lt (by omega)).symm | exact (ex_ge (by omega)).symm) (by omega)
  exact L4 ((58 - 0 : Int).toNat + 1) 0 0 rf _ s.heap ([]) w0 (lv_sub hl [2, 1, 0] rfl) hH c0 c1 c2 (fun k _ => rfl) (by exact br) (by omega) (by omega) (by intro j _; rfl) (by rfl) (by omega)
theorem nx_M_quotient_0 {g : Nat}  : g + 9 ≠ g := by omega
theorem nx_M_quotient_1 {g : Nat}  : g + 9 ≠ g + 11 := by omega
theorem nx_M_quotient_2 {g : Nat}  : g + 10 ≠ g := by omega
theorem nx_M_quotient_3 {g : Nat}  : g + 10 ≠ g + 11 := by omega
theorem nx_M_quotient_4 {g : Nat}  : g + 12 ≠ g := by omega
theorem nx_M_quotient_5 {g : Nat}  : g + 12 ≠ g + 11 := by omega
theorem nx_M_quotient_6 {g : Nat}  : g + 11 ≠ g := by omega
theorem nx_M_quotient_7 {g : Nat}  : g ≠ g + 12 := by omega
theorem nx_M_quotient_8 {g : Nat}  : g + 9 ≠ g + 12 := by omega
theorem nx_M_quotient_9 {g : Nat}  : g + 10 ≠ g + 12 := by omega
theorem nx_M_quotient_10 {g : Nat}  : g + 11 ≠ g + 12 := by omega
theorem nx_M_quotient_11 {g : Nat}  : g ≠ g + 11 := by omega
def rm_M_quotient : Room := { frames := 1, cells := 0, slots := 0, locals := 23 }
set_option maxHeartbeats 4000000 in
set_option maxRecDepth 100000 in
theorem c_M_quotient (l : Launch) (E : zE) (w0 : zW) (g : Nat) (ty xm ym ne : Int) (xf yf f rf : Int → Int) (n : Int) (q0lt : g < zn E) (q1lt : g + 9 < zn E) (q2lt : g + 10 < zn E) (q3lt : g + 11 < zn E) (q4lt : g + 12 < zn E) (c0 : w0 g = .inr (6, [.ref (ad E (g + 1)), .ref (ad E (g + 2)), .ref (ad E (g + 3)), .ref (ad E (g + 4)), .int (iI ty), .ref (ad E (g + 5)), .ref (ad E (g + 6)), .ref (ad E (g + 7)), .ref (ad E (g + 8)), .ref (ad E (g + 9)), .ref (ad E (g + 10)), .int (iI xm), .int (iI ym), .ref (ad E (g + 11)), .int (iI ne), .ref (ad E (g + 12)), .ref (ad E (g + 13))])) (c1 : w0 (g + 9) = zar E 56 xf) (c2 : w0 (g + 10) = zar E 56 yf) (c3 : w0 (g + 11) = zar E 140 f) (c4 : w0 (g + 12) = zar E 58 rf) (bx : bd xf 56 0 9) (by1 : bd yf 56 0 9) (hxm : xm = 0 ∨ xm = 1) (hym : ym = 0 ∨ ym = 1) (hn0 : 0 ≤ n ∧ n ≤ 25) (hD : 0 < Vt yf 56) : zM l y_M_quotient ws_M_quotient rm_M_quotient E [.ref (ad E g), .int (iI n)] w0 (zQv E w0 (fun w' => (∃ (n' : Int) (f' : Int → Int) (r' : Int → Int), w' g = .inr (6, [.ref (ad E (g + 1)), .ref (ad E (g + 2)), .ref (ad E (g + 3)), .ref (ad E (g + 4)), .int (iI ty), .ref (ad E (g + 5)), .ref (ad E (g + 6)), .ref (ad E (g + 7)), .ref (ad E (g + 8)), .ref (ad E (g + 9)), .ref (ad E (g + 10)), .int (iI xm), .int (iI ym), .ref (ad E (g + 11)), .int (iI n'), .ref (ad E (g + 12)), .ref (ad E (g + 13))]) ∧ w' (g + 11) = zar E 140 f' ∧ w' (g + 12) = zar E 58 r' ∧ bd f' 140 0 9 ∧ bd r' 58 0 9 ∧ (n' = dif xm ym ∧ (n' = 0 ∨ n' = 1) ∧ Vt f' 140 = Vt xf 56 * Tp n / Vt yf 56 * Tp (48 - n) ∧ Vt r' 58 = Vt xf 56 * Tp n % Vt yf 56)) ∧ ∀ k, k ≠ g → k ≠ (g + 11) → k ≠ (g + 12) → w' k = w0 k)) := by
  refine z_met (cc := b_M_quotient) (maxL := 5) (ret := none) (by decide +kernel) rfl (Nat.le_of_ble_eq_true rfl) ?_
  intro p e s m below meth cd ls a Qf hQ hC hl hH
  obtain ⟨hF, hr, hlk, hK, hG, hn⟩ := hC
  obtain ⟨hx, hb, hml, hown, hts⟩ := hF
  have hg : ∀ w ∈ GW, w.before a s = true := fun w h => hts w (List.mem_cons_of_mem _ h)
  have hA : ∀ q, s.heap.size ≤ q → va_A (wl E w0) s.heap.size q := fun q h => Or.inr h
  have hl : lv_has ls 5 [(0, .ref (ad E g)), (1, .int (iI n))] := hl
  have vx := Vt_in bx (show (0 : Int) ≤ 56 by decide) (Int.le_refl 56)
  have vy := Vt_in by1 (show (0 : Int) ≤ 56 by decide) (Int.le_refl 56)
  have t57 : Tp 57 = 10 * Tp 56 := Tp_s (i := 56) (by decide)
  have t56 := Tp_pos 56
  refine lv_aload_n hx hb d_M_quotient_0 rfl (lv_at hl 0 rfl) ?_
  refine z_callv (va_runV (As := []) (rest := []) ⟨hx, hb, hml, hown, hts⟩ (c_M_clear (l := l) (E := E) (w0 := w0) (g := g) (ty := ty) (xm := xm) (ym := ym) (ne := ne) (f := f) (q0lt := q0lt) (q1lt := q3lt) (c0 := c0) (c1 := c3) s.heap.size) (z_cwV (C := "ScaledNumeralDeskModel") 0 hg wm_778 wm_775 wm_9 wm_777 wm_s37 (by decide +kernel) ⟨Nat.le_of_ble_eq_true rfl, Nat.le_of_ble_eq_true rfl⟩) (z_preV (r := ("ScaledNumeralDeskModel", TM, 17)) hK hG hn hH hA q0lt c0 rfl) rfl rfl hl.1 rfl (lv_room (Nat.le_of_ble_eq_true rfl)) d_M_quotient_1 ⟨Nat.zero_le _, Nat.zero_le _⟩) hH hA (fun  w3 H1 lc2 hH4 p1 => ?_)
  obtain ⟨⟨f1, e5, e6, p1⟩, hg7⟩ := p1
  replace p1 : ∀ j : Int, 0 ≤ j → j < 140 → f1 j = 0 := p1
  have e8 : w3 (g + 9) = zar E 56 xf := (hg7 (g + 9) (nx_M_quotient_0 ) (nx_M_quotient_1 )).trans c1
  have e9 : w3 (g + 10) = zar E 56 yf := (hg7 (g + 10) (nx_M_quotient_2 ) (nx_M_quotient_3 )).trans c2
  have e10 : w3 (g + 12) = zar E 58 rf := (hg7 (g + 12) (nx_M_quotient_4 ) (nx_M_quotient_5 )).trans c4
  have hf11 : ∀ k, k ≠ g → k ≠ (g + 11) → w3 k = w0 k := fun k g0 g1 => hg7 k g0 g1
  refine lv_aload_n hx hb d_M_quotient_4 rfl (lv_at hl 0 rfl) ?_
  have L21 : ∀ (nn : Int) (ls : Array Slot) (H12 : Heap) (lc13 : List Loc), (lv_has ls 5 [(0, .ref (ad E g)), (1, .int (iI n))]) → (zH E w3 (va_A (wl E w0) s.heap.size) s.heap H12 lc13) → (nn = dif xm ym) → (nn = 0 ∨ nn = 1) → W p l e rm_M_quotient s m a below meth cd H12 lc13 0 0 Qf (F0 m 21 ls [.int (iI nn), .ref (ad E g)]) := by
    intro nn ls H12 lc13 hl hH hnn9 hnn
    refine zv_put (C := "ScaledNumeralDeskModel") (T := TM) (N := 17) (fs' := [.ref (ad E (g + 1)), .ref (ad E (g + 2)), .ref (ad E (g + 3)), .ref (ad E (g + 4)), .int (iI ty), .ref (ad E (g + 5)), .ref (ad E (g + 6)), .ref (ad E (g + 7)), .ref (ad E (g + 8)), .ref (ad E (g + 9)), .ref (ad E (g + 10)), .int (iI xm), .int (iI ym), .ref (ad E (g + 11)), .int (iI nn), .ref (ad E (g + 12)), .ref (ad E (g + 13))]) hx hb hg uM_in tyM tyM_ok nmM hown hK hH q0lt e5 rfl 14 (by decide) (hg _ wm_696) (fun _ h9 => h9) rfl (ty := tyM 14) (by decide +kernel) (by exact nar_z hnn) (by exact fit_z hnn) (Nat.le_of_ble_eq_true rfl) d_M_quotient_21 rfl (fun H15 lc16 w14 hH17 e18 hg19 => ?_)
    have e20 : w14 (g + 9) = zar E 56 xf := (hg19 (g + 9) (nx_M_quotient_0 )).trans e8
    have e21 : w14 (g + 10) = zar E 56 yf := (hg19 (g + 10) (nx_M_quotient_2 )).trans e9
    have e22 : w14 (g + 11) = zar E 140 f1 := (hg19 (g + 11) (nx_M_quotient_6 )).trans e6
    have e23 : w14 (g + 12) = zar E 58 rf := (hg19 (g + 12) (nx_M_quotient_4 )).trans e10
    have hf24 : ∀ k, k ≠ g → k ≠ (g + 11) → w14 k = w0 k := fun k g0 g1 => (hg19 k g0).trans (hf11 k g0 g1)
    refine lv_aload_n hx hb d_M_quotient_24 rfl (lv_at hl 0 rfl) ?_
    refine z_callv (va_runV (As := []) (rest := []) ⟨hx, hb, hml, hown, hts⟩ (c_M_noRest (l := l) (E := E) (w0 := w14) (g := g) (ty := ty) (xm := xm) (ym := ym) (ne := nn) (rf := rf) (q0lt := q0lt) (q1lt := q4lt) (c0 := e18) (c1 := e23) H15.size) (z_cwV (C := "ScaledNumeralDeskModel") 0 hg wm_895 wm_892 wm_9 wm_894 wm_s62 (by decide +kernel) ⟨Nat.le_of_ble_eq_true rfl, Nat.le_of_ble_eq_true rfl⟩) (z_preV (r := ("ScaledNumeralDeskModel", TM, 17)) hK hG hn hH17 hA q0lt e18 rfl) rfl rfl hl.1 rfl (lv_room (Nat.le_of_ble_eq_true rfl)) d_M_quotient_25 ⟨Nat.zero_le _, Nat.zero_le _⟩) hH17 hA (fun  w27 H25 lc26 hH28 p25 => ?_)
    obtain ⟨⟨r1, e29, bd30, p25⟩, hg31⟩ := p25
    replace bd30 : bd r1 58 0 9 := bd30
    replace p25 : Vt r1 58 = 0 := p25
    have e32 : w27 g = .inr (6, [.ref (ad E (g + 1)), .ref (ad E (g + 2)), .ref (ad E (g + 3)), .ref (ad E (g + 4)), .int (iI ty), .ref (ad E (g + 5)), .ref (ad E (g + 6)), .ref (ad E (g + 7)), .ref (ad E (g + 8)), .ref (ad E (g + 9)), .ref (ad E (g + 10)), .int (iI xm), .int (iI ym), .ref (ad E (g + 11)), .int (iI nn), .ref (ad E (g + 12)), .ref (ad E (g + 13))]) := (hg31 g (nx_M_quotient_7 )).trans e18
    have e33 : w27 (g + 9) = zar E 56 xf := (hg31 (g + 9) (nx_M_quotient_8 )).trans e20
    have e34 : w27 (g + 10) = zar E 56 yf := (hg31 (g + 10) (nx_M_quotient_9 )).trans e21
    have e35 : w27 (g + 11) = zar E 140 f1 := (hg31 (g + 11) (nx_M_quotient_10 )).trans e22
    have hf36 : ∀ k, k ≠ g → k ≠ (g + 11) → k ≠ (g + 12) → w27 k = w0 k := fun k g0 g1 g2 => (hg31 k g2).trans (hf24 k g0 g1)
    refine zv_bipush hx hb d_M_quotient_28 rfl ?_
    refine lv_iload_n hx hb d_M_quotient_30 rfl (lv_at hl 1 rfl) ?_
    refine zv_iadd hx hb d_M_quotient_31 ?_
    refine lv_istore_n (lv' := [(2, .int (iI (55 + n))), (0, .ref (ad E g)), (1, .int (iI n))]) hx hb d_M_quotient_32 rfl hl (by decide) rfl (fun ls hl => ?_)
    have L33 : ∀ (fu : Nat) (i : Int) (Q : Int) (h : Int → Int) (r9 : Int → Int) (ls : Array Slot) (H37 : Heap) (lc38 : List Loc) (w39 : zW), (lv_has ls 5 [(0, .ref (ad E g)), (1, .int (iI n)), (2, .int (iI i))]) → (zH E w39 (va_A (wl E w0) s.heap.size) s.heap H37 lc38) → (w39 g = .inr (6, [.ref (ad E (g + 1)), .ref (ad E (g + 2)), .ref (ad E (g + 3)), .ref (ad E (g + 4)), .int (iI ty), .ref (ad E (g + 5)), .ref (ad E (g + 6)), .ref (ad E (g + 7)), .ref (ad E (g + 8)), .ref (ad E (g + 9)), .ref (ad E (g + 10)), .int (iI xm), .int (iI ym), .ref (ad E (g + 11)), .int (iI nn), .ref (ad E (g + 12)), .ref (ad E (g + 13))])) → (w39 (g + 9) = zar E 56 xf) → (w39 (g + 10) = zar E 56 yf) → (w39 (g + 11) = zar E 140 h) → (w39 (g + 12) = zar E 58 r9) → (∀ k, k ≠ g → k ≠ (g + 11) → k ≠ (g + 12) → w39 k = w0 k) → (bd h 140 0 9) → (bd r9 58 0 9) → (-1 ≤ i ∧ i ≤ 55 + n) → (Vt xf 56 * Tp n / Tp (i + 1) = Q * Vt yf 56 + Vt r9 58) → (0 ≤ Vt r9 58 ∧ Vt r9 58 < Vt yf 56) → (Vt h 140 = Q * Tp (48 - n + i + 1)) → (∀ j : Int, 0 ≤ j → j < 48 - n + i + 1 → h j = 0) → (i + 1 < (fu : Int)) → W p l e rm_M_quotient s m a below meth cd H37 lc38 0 0 Qf (F0 m 33 ls []) := by
      intro fu
      induction fu with
      | zero => intro i Q h r9 ls H37 lc38 w39 hl hH e40 e41 e42 e43 e44 hf45 bh br9 hi hAA hR hP hz hm; exact absurd hm (by omega)
      | succ fu ih =>
        intro i Q h r9 ls H37 lc38 w39 hl hH e40 e41 e42 e43 e44 hf45 bh br9 hi hAA hR hP hz hm
        refine lv_iload_n hx hb d_M_quotient_33 rfl (lv_at hl 2 rfl) ?_
        refine zv_if_lt (tgt := 108) hx hb d_M_quotient_34 rfl (by omega) (fun h46 => ?_) (fun h46 => ?_)
        · have i9 : i = -1 := by omega
          subst i9
          rw [show (-1 : Int) + 1 = 0 by decide, Tp_0, Int.ediv_one] at hAA
          have qe := q_end hAA hR.1 hR.2
          rw [hQ]
          exact z_vret hx hb hr hlk hH (⟨⟨nn, h, r9, e40, e43, e44, bh, br9, ⟨hnn9, hnn, by rw [← qe.1, hP]; exact congrArg (Q * Tp ·) (by omega), qe.2⟩⟩, (fun k g0 g1 g2 => hf45 k g0 g1 g2)⟩) d_M_quotient_108
        · refine lv_aload_n hx hb d_M_quotient_37 rfl (lv_at hl 0 rfl) ?_
          have L55 : ∀ (dx : Int) (ls : Array Slot) (H47 : Heap) (lc48 : List Loc), (lv_has ls 5 [(0, .ref (ad E g)), (1, .int (iI n)), (2, .int (iI i))]) → (zH E w39 (va_A (wl E w0) s.heap.size) s.heap H47 lc48) → (Vt xf 56 * Tp n / Tp i = 10 * (Vt xf 56 * Tp n / Tp (i + 1)) + dx) → (0 ≤ dx ∧ dx ≤ 9) → W p l e rm_M_quotient s m a below meth cd H47 lc48 0 0 Qf (F0 m 55 ls [.int (iI dx), .ref (ad E g)]) := by
            intro dx ls H47 lc48 hl hH hdx hdr
            refine z_callv (va_runV (As := [.int (iI dx)]) (rest := []) ⟨hx, hb, hml, hown, hts⟩ (c_M_bring (l := l) (E := E) (w0 := w39) (g := g) (ty := ty) (xm := xm) (ym := ym) (ne := nn) (rf := r9) (dg := dx) (q0lt := q0lt) (q1lt := q4lt) (c0 := e40) (c1 := e44) (br := br9) (hdg := by omega) (h57 := (by omega)) H47.size) (z_cwV (C := "ScaledNumeralDeskModel") 1 hg wm_899 wm_896 wm_9 wm_898 wm_s63 (by decide +kernel) ⟨Nat.le_of_ble_eq_true rfl, Nat.le_of_ble_eq_true rfl⟩) (z_preV (r := ("ScaledNumeralDeskModel", TM, 17)) hK hG hn hH hA q0lt e40 rfl) rfl rfl hl.1 rfl (lv_room (Nat.le_of_ble_eq_true rfl)) d_M_quotient_55 ⟨Nat.zero_le _, Nat.zero_le _⟩) hH hA (fun  w51 H49 lc50 hH52 p55 => ?_)
            obtain ⟨⟨r2, e53, bd54, p55⟩, hg55⟩ := p55
            replace bd54 : bd r2 58 0 9 := bd54
            replace p55 : Vt r2 58 = 10 * Vt r9 58 + dx := p55
            have e56 : w51 g = .inr (6, [.ref (ad E (g + 1)), .ref (ad E (g + 2)), .ref (ad E (g + 3)), .ref (ad E (g + 4)), .int (iI ty), .ref (ad E (g + 5)), .ref (ad E (g + 6)), .ref (ad E (g + 7)), .ref (ad E (g + 8)), .ref (ad E (g + 9)), .ref (ad E (g + 10)), .int (iI xm), .int (iI ym), .ref (ad E (g + 11)), .int (iI nn), .ref (ad E (g + 12)), .ref (ad E (g + 13))]) := (hg55 g (nx_M_quotient_7 )).trans e40
            have e57 : w51 (g + 9) = zar E 56 xf := (hg55 (g + 9) (nx_M_quotient_8 )).trans e41
            have e58 : w51 (g + 10) = zar E 56 yf := (hg55 (g + 10) (nx_M_quotient_9 )).trans e42
            have e59 : w51 (g + 11) = zar E 140 h := (hg55 (g + 11) (nx_M_quotient_10 )).trans e43
            have hf60 : ∀ k, k ≠ g → k ≠ (g + 11) → k ≠ (g + 12) → w51 k = w0 k := fun k g0 g1 g2 => (hg55 k g2).trans (hf45 k g0 g1 g2)
            refine zv_iconst hx hb d_M_quotient_58 ?_
            refine lv_istore_n (lv' := [(3, .int (iI 0)), (0, .ref (ad E g)), (1, .int (iI n)), (2, .int (iI i))]) hx hb d_M_quotient_59 rfl hl (by decide) rfl (fun ls hl => ?_)
            refine zv_iconst hx hb d_M_quotient_60 ?_
            refine lv_istore (lv' := [(4, .int (iI 0)), (3, .int (iI 0)), (0, .ref (ad E g)), (1, .int (iI n)), (2, .int (iI i))]) hx hb d_M_quotient_61 hl (by decide) rfl (fun ls hl => ?_)
            have L63 : ∀ (fu : Nat) (k : Int) (r3 : Int → Int) (ls : Array Slot) (H61 : Heap) (lc62 : List Loc) (w63 : zW), (lv_has ls 5 [(4, .int (iI k)), (3, .int (iI k)), (0, .ref (ad E g)), (1, .int (iI n)), (2, .int (iI i))]) → (zH E w63 (va_A (wl E w0) s.heap.size) s.heap H61 lc62) → (w63 g = .inr (6, [.ref (ad E (g + 1)), .ref (ad E (g + 2)), .ref (ad E (g + 3)), .ref (ad E (g + 4)), .int (iI ty), .ref (ad E (g + 5)), .ref (ad E (g + 6)), .ref (ad E (g + 7)), .ref (ad E (g + 8)), .ref (ad E (g + 9)), .ref (ad E (g + 10)), .int (iI xm), .int (iI ym), .ref (ad E (g + 11)), .int (iI nn), .ref (ad E (g + 12)), .ref (ad E (g + 13))])) → (w63 (g + 9) = zar E 56 xf) → (w63 (g + 10) = zar E 56 yf) → (w63 (g + 11) = zar E 140 h) → (w63 (g + 12) = zar E 58 r3) → (∀ k, k ≠ g → k ≠ (g + 11) → k ≠ (g + 12) → w63 k = w0 k) → (bd r3 58 0 9) → (0 ≤ k ∧ k ≤ 9) → (Vt r3 58 = 10 * Vt r9 58 + dx - k * Vt yf 56) → (0 ≤ Vt r3 58) → (9 - k < (fu : Int)) → W p l e rm_M_quotient s m a below meth cd H61 lc62 0 0 Qf (F0 m 63 ls []) := by
              intro fu
              induction fu with
              | zero => intro k r3 ls H61 lc62 w63 hl hH e64 e65 e66 e67 e68 hf69 br3 hk hv3 h30 hm; exact absurd hm (by omega)
              | succ fu ih63 =>
                intro k r3 ls H61 lc62 w63 hl hH e64 e65 e66 e67 e68 hf69 br3 hk hv3 h30 hm
                refine lv_iload hx hb d_M_quotient_63 (lv_at hl 0 rfl) ?_
                refine zv_bipush hx hb d_M_quotient_65 rfl ?_
                refine zv_icmp_ge (tgt := 90) hx hb d_M_quotient_67 rfl (by omega) (by omega) (fun h70 => ?_) (fun h70 => ?_)
                · have hlt : Vt r3 58 < Vt yf 56 := by
                    have k9 : k = 9 := by omega
                    rw [k9] at hv3
                    omega
                  refine lv_aload_n hx hb d_M_quotient_90 rfl (lv_at hl 2 rfl) ?_
                  refine zv_get (C := "ScaledNumeralDeskModel") (T := TM) (N := 17) hx hb hg uM_in hown hK hH q0lt e64 rfl 13 (by decide) (hg _ wm_695) (fun _ h9 => h9) rfl d_M_quotient_91 ?_
                  refine zv_bipush hx hb d_M_quotient_94 rfl ?_
                  refine lv_iload_n hx hb d_M_quotient_96 rfl (lv_at hl 3 rfl) ?_
                  refine zv_isub hx hb d_M_quotient_97 ?_
                  refine lv_iload_n hx hb d_M_quotient_98 rfl (lv_at hl 4 rfl) ?_
                  refine zv_iadd hx hb d_M_quotient_99 ?_
                  refine lv_iload_n hx hb d_M_quotient_100 rfl (lv_at hl 1 rfl) ?_
                  refine zv_iast hx hb hK hH q3lt e67 (by omega) (by omega) (by omega) d_M_quotient_101 (fun H72 lc73 w71 hH74 e75 hg76 => ?_)
                  have bd77 := bd_up bh ((48 - n) + i) k (by omega)
                  have e78 : w71 g = .inr (6, [.ref (ad E (g + 1)), .ref (ad E (g + 2)), .ref (ad E (g + 3)), .ref (ad E (g + 4)), .int (iI ty), .ref (ad E (g + 5)), .ref (ad E (g + 6)), .ref (ad E (g + 7)), .ref (ad E (g + 8)), .ref (ad E (g + 9)), .ref (ad E (g + 10)), .int (iI xm), .int (iI ym), .ref (ad E (g + 11)), .int (iI nn), .ref (ad E (g + 12)), .ref (ad E (g + 13))]) := (hg76 g (nx_M_quotient_11 )).trans e64
                  have e79 : w71 (g + 9) = zar E 56 xf := (hg76 (g + 9) (nx_M_quotient_1 )).trans e65
                  have e80 : w71 (g + 10) = zar E 56 yf := (hg76 (g + 10) (nx_M_quotient_3 )).trans e66
                  have e81 : w71 (g + 12) = zar E 58 r3 := (hg76 (g + 12) (nx_M_quotient_5 )).trans e68
                  have hf82 : ∀ k, k ≠ g → k ≠ (g + 11) → k ≠ (g + 12) → w71 k = w0 k := fun k g0 g1 g2 => (hg76 k g1).trans (hf69 k g0 g1 g2)
                  refine zv_iinc (k := 4) (lv' := [(2, .int (iI (i + (-1)))), (4, .int (iI k)), (3, .int (iI k)), (0, .ref (ad E g)), (1, .int (iI n))]) hx hb d_M_quotient_102 hl rfl (by decide) rfl (fun ls hl => ?_)
                  refine lv_goto (tgt := 33) hx hb d_M_quotient_105 rfl ?_
                  exact ih  (i + (-1)) (10 * Q + k) (up h ((48 - n) + i) k) r3 _ H72 lc73 w71 (lv_sub hl [3, 4, 0] rfl) hH74 e78 e79 e80 e75 e81 (fun k g0 g1 g2 => hf82 k g0 g1 g2) (by assumption) (by exact br3) (by omega) (by rw [show i + (-1) + 1 = i by omega, hv3]; exact q_step hdx hAA) (by exact ⟨h30, hlt⟩) (by rw [show 48 - n + (i + (-1)) + 1 = 48 - n + i by omega]; exact q_pap ⟨by omega, by omega⟩ hP (hz _ (by omega) (by omega))) (by intro j g1 g2; rw [up_ne (by omega)]; exact hz j g1 (by omega)) (by omega)
                · refine lv_aload_n hx hb d_M_quotient_70 rfl (lv_at hl 2 rfl) ?_
                  refine z_calli (va_runV (As := []) (rest := []) ⟨hx, hb, hml, hown, hts⟩ (c_M_holdsY (l := l) (E := E) (w0 := w63) (g := g) (ty := ty) (xm := xm) (ym := ym) (ne := nn) (rf := r3) (yf := yf) (q0lt := q0lt) (q1lt := q4lt) (q2lt := q2lt) (c0 := e64) (c1 := e68) (c2 := e66) (br := br3) (by1 := by1) H61.size) (z_cwV (C := "ScaledNumeralDeskModel") 0 hg wm_903 wm_900 wm_9 wm_902 wm_s64 (by decide +kernel) ⟨Nat.le_of_ble_eq_true rfl, Nat.le_of_ble_eq_true rfl⟩) (z_preV (r := ("ScaledNumeralDeskModel", TM, 17)) hK hG hn hH hA q0lt e64 rfl) rfl rfl hl.1 rfl (lv_room (Nat.le_of_ble_eq_true rfl)) d_M_quotient_71 ⟨Nat.zero_le _, Nat.zero_le _⟩) hH hA (fun z87 w85 H83 lc84 hH86 p71 => ?_)
                  obtain ⟨ew88, p71⟩ := p71
                  rw [ew88] at hH86
                  replace p71 : (z87 = 1 ∧ Vt yf 56 ≤ Vt r3 58) ∨ (z87 = 0 ∧ Vt r3 58 < Vt yf 56) := p71
                  refine zv_if_eq (tgt := 90) hx hb d_M_quotient_74 rfl (by omega) (fun h89 => ?_) (fun h89 => ?_)
                  · have hlt : Vt r3 58 < Vt yf 56 := by omega
                    refine lv_aload_n hx hb d_M_quotient_90 rfl (lv_at hl 2 rfl) ?_
                    refine zv_get (C := "ScaledNumeralDeskModel") (T := TM) (N := 17) hx hb hg uM_in hown hK hH86 q0lt e64 rfl 13 (by decide) (hg _ wm_695) (fun _ h9 => h9) rfl d_M_quotient_91 ?_
                    refine zv_bipush hx hb d_M_quotient_94 rfl ?_
                    refine lv_iload_n hx hb d_M_quotient_96 rfl (lv_at hl 3 rfl) ?_
                    refine zv_isub hx hb d_M_quotient_97 ?_
                    refine lv_iload_n hx hb d_M_quotient_98 rfl (lv_at hl 4 rfl) ?_
                    refine zv_iadd hx hb d_M_quotient_99 ?_
                    refine lv_iload_n hx hb d_M_quotient_100 rfl (lv_at hl 1 rfl) ?_
                    refine zv_iast hx hb hK hH86 q3lt e67 (by omega) (by omega) (by omega) d_M_quotient_101 (fun H91 lc92 w90 hH93 e94 hg95 => ?_)
                    have bd96 := bd_up bh ((48 - n) + i) k (by omega)
                    have e97 : w90 g = .inr (6, [.ref (ad E (g + 1)), .ref (ad E (g + 2)), .ref (ad E (g + 3)), .ref (ad E (g + 4)), .int (iI ty), .ref (ad E (g + 5)), .ref (ad E (g + 6)), .ref (ad E (g + 7)), .ref (ad E (g + 8)), .ref (ad E (g + 9)), .ref (ad E (g + 10)), .int (iI xm), .int (iI ym), .ref (ad E (g + 11)), .int (iI nn), .ref (ad E (g + 12)), .ref (ad E (g + 13))]) := (hg95 g (nx_M_quotient_11 )).trans e64
                    have e98 : w90 (g + 9) = zar E 56 xf := (hg95 (g + 9) (nx_M_quotient_1 )).trans e65
                    have e99 : w90 (g + 10) = zar E 56 yf := (hg95 (g + 10) (nx_M_quotient_3 )).trans e66
                    have e100 : w90 (g + 12) = zar E 58 r3 := (hg95 (g + 12) (nx_M_quotient_5 )).trans e68
                    have hf101 : ∀ k, k ≠ g → k ≠ (g + 11) → k ≠ (g + 12) → w90 k = w0 k := fun k g0 g1 g2 => (hg95 k g1).trans (hf69 k g0 g1 g2)
                    refine zv_iinc (k := 4) (lv' := [(2, .int (iI (i + (-1)))), (4, .int (iI k)), (3, .int (iI k)), (0, .ref (ad E g)), (1, .int (iI n))]) hx hb d_M_quotient_102 hl rfl (by decide) rfl (fun ls hl => ?_)
                    refine lv_goto (tgt := 33) hx hb d_M_quotient_105 rfl ?_
                    exact ih  (i + (-1)) (10 * Q + k) (up h ((48 - n) + i) k) r3 _ H91 lc92 w90 (lv_sub hl [3, 4, 0] rfl) hH93 e97 e98 e99 e94 e100 (fun k g0 g1 g2 => hf101 k g0 g1 g2) (by assumption) (by exact br3) (by omega) (by rw [show i + (-1) + 1 = i by omega, hv3]; exact q_step hdx hAA) (by exact ⟨h30, hlt⟩) (by rw [show 48 - n + (i + (-1)) + 1 = 48 - n + i by omega]; exact q_pap ⟨by omega, by omega⟩ hP (hz _ (by omega) (by omega))) (by intro j g1 g2; rw [up_ne (by omega)]; exact hz j g1 (by omega)) (by omega)
                  · have hle9 : Vt yf 56 ≤ Vt r3 58 := by omega
                    refine lv_aload_n hx hb d_M_quotient_77 rfl (lv_at hl 2 rfl) ?_
                    refine z_callv (va_runV (As := []) (rest := []) ⟨hx, hb, hml, hown, hts⟩ (c_M_subtractY (l := l) (E := E) (w0 := w63) (g := g) (ty := ty) (xm := xm) (ym := ym) (ne := nn) (rf := r3) (yf := yf) (q0lt := q0lt) (q1lt := q4lt) (q2lt := q2lt) (c0 := e64) (c1 := e68) (c2 := e66) (br := br3) (by1 := by1) (hle := hle9) H83.size) (z_cwV (C := "ScaledNumeralDeskModel") 0 hg wm_907 wm_904 wm_9 wm_906 wm_s65 (by decide +kernel) ⟨Nat.le_of_ble_eq_true rfl, Nat.le_of_ble_eq_true rfl⟩) (z_preV (r := ("ScaledNumeralDeskModel", TM, 17)) hK hG hn hH86 hA q0lt e64 rfl) rfl rfl hl.1 rfl (lv_room (Nat.le_of_ble_eq_true rfl)) d_M_quotient_78 ⟨Nat.zero_le _, Nat.zero_le _⟩) hH86 hA (fun  w104 H102 lc103 hH105 p78 => ?_)
                    obtain ⟨⟨r4, e106, bd107, p78⟩, hg108⟩ := p78
                    replace bd107 : bd r4 58 0 9 := bd107
                    replace p78 : Vt r4 58 = Vt r3 58 - Vt yf 56 := p78
                    have e109 : w104 g = .inr (6, [.ref (ad E (g + 1)), .ref (ad E (g + 2)), .ref (ad E (g + 3)), .ref (ad E (g + 4)), .int (iI ty), .ref (ad E (g + 5)), .ref (ad E (g + 6)), .ref (ad E (g + 7)), .ref (ad E (g + 8)), .ref (ad E (g + 9)), .ref (ad E (g + 10)), .int (iI xm), .int (iI ym), .ref (ad E (g + 11)), .int (iI nn), .ref (ad E (g + 12)), .ref (ad E (g + 13))]) := (hg108 g (nx_M_quotient_7 )).trans e64
                    have e110 : w104 (g + 9) = zar E 56 xf := (hg108 (g + 9) (nx_M_quotient_8 )).trans e65
                    have e111 : w104 (g + 10) = zar E 56 yf := (hg108 (g + 10) (nx_M_quotient_9 )).trans e66
                    have e112 : w104 (g + 11) = zar E 140 h := (hg108 (g + 11) (nx_M_quotient_10 )).trans e67
                    have hf113 : ∀ k, k ≠ g → k ≠ (g + 11) → k ≠ (g + 12) → w104 k = w0 k := fun k g0 g1 g2 => (hg108 k g2).trans (hf69 k g0 g1 g2)
                    refine zv_iinc (k := 1) (lv' := [(3, .int (iI (k + 1))), (4, .int (iI k)), (0, .ref (ad E g)), (1, .int (iI n)), (2, .int (iI i))]) hx hb d_M_quotient_81 hl rfl (by decide) rfl (fun ls hl => ?_)
                    refine zv_iinc (k := 1) (lv' := [(4, .int (iI (k + 1))), (3, .int (iI (k + 1))), (0, .ref (ad E g)), (1, .int (iI n)), (2, .int (iI i))]) hx hb d_M_quotient_84 hl rfl (by decide) rfl (fun ls hl => ?_)
                    refine lv_goto (tgt := 63) hx hb d_M_quotient_87 rfl ?_
                    exact ih63  (k + 1) r4 _ H102 lc103 w104 (lv_sub hl [0, 1, 2, 3, 4] rfl) hH105 e109 e110 e111 e112 e106 (fun k g0 g1 g2 => hf113 k g0 g1 g2) (by assumption) (by omega) (by rw [p78, hv3, Int.add_mul]; omega) (by rw [p78]; omega) (by omega)
            exact L63 ((9 - 0 : Int).toNat + 1) 0 r2 _ H49 lc50 w51 (lv_sub hl [0, 1, 2, 3, 4] rfl) hH52 e56 e57 e58 e59 e53 (fun k g0 g1 g2 => hf60 k g0 g1 g2) (by assumption) (by omega) (by rw [p55]; omega) (by rw [p55]; omega) (by omega)
          refine lv_iload_n hx hb d_M_quotient_38 rfl (lv_at hl 2 rfl) ?_
          refine lv_iload_n hx hb d_M_quotient_39 rfl (lv_at hl 1 rfl) ?_
          refine zv_icmp_lt (tgt := 54) hx hb d_M_quotient_40 rfl (by omega) (by omega) (fun h114 => ?_) (fun h114 => ?_)
          · refine zv_iconst hx hb d_M_quotient_54 ?_
            have qd9 := qd_dig bx hn0.1 (i := i) (by omega) (by omega)
            exact L55 0 _ H37 lc38 (lv_sub hl [0, 1, 2] rfl) hH (by first | exact qd9.1 (by omega) | (rw [qd9.2 (by omega)]; omega)) (by omega)
          · refine lv_aload_n hx hb d_M_quotient_43 rfl (lv_at hl 0 rfl) ?_
            refine zv_get (C := "ScaledNumeralDeskModel") (T := TM) (N := 17) hx hb hg uM_in hown hK hH q0lt e40 rfl 9 (by decide) (hg _ wm_691) (fun _ h9 => h9) rfl d_M_quotient_44 ?_
            refine lv_iload_n hx hb d_M_quotient_47 rfl (lv_at hl 2 rfl) ?_
            refine lv_iload_n hx hb d_M_quotient_48 rfl (lv_at hl 1 rfl) ?_
            refine zv_isub hx hb d_M_quotient_49 ?_
            refine zv_iald hx hb hK hH q1lt e41 (by omega) (by omega) (by omega) d_M_quotient_50 ?_
            have b115 := bx (i - n) (by omega) (by omega)
            refine lv_goto (tgt := 55) hx hb d_M_quotient_51 rfl ?_
            have qd9 := qd_dig bx hn0.1 (i := i) (by omega) (by omega)
            exact L55 (xf (i - n)) _ H37 lc38 (lv_sub hl [0, 1, 2] rfl) hH (by first | exact qd9.1 (by omega) | (rw [qd9.2 (by omega)]; omega)) (by omega)
    exact L33 (((55 + n) + 1 : Int).toNat + 1) (55 + n) 0 f1 r1 _ H25 lc26 w27 (lv_sub hl [1, 2, 0] rfl) hH28 e32 e33 e34 e35 e29 (fun k g0 g1 g2 => hf36 k g0 g1 g2) (by intro j g1 g2; rw [p1 j g1 g2]; decide) (by assumption) (by omega) (by rw [q_start bx hn0.1, p25]; omega) (by rw [p25]; omega) (by rw [Vt_zero (by decide) p1]; omega) (by intro j g1 g2; exact p1 j g1 (by omega)) (by omega)
  refine lv_aload_n hx hb d_M_quotient_5 rfl (lv_at hl 0 rfl) ?_
  refine zv_get (C := "ScaledNumeralDeskModel") (T := TM) (N := 17) hx hb hg uM_in hown hK hH4 q0lt e5 rfl 11 (by decide) (hg _ wm_693) (fun _ h9 => h9) rfl d_M_quotient_6 ?_
  refine lv_aload_n hx hb d_M_quotient_9 rfl (lv_at hl 0 rfl) ?_
  refine zv_get (C := "ScaledNumeralDeskModel") (T := TM) (N := 17) hx hb hg uM_in hown hK hH4 q0lt e5 rfl 12 (by decide) (hg _ wm_694) (fun _ h9 => h9) rfl d_M_quotient_10 ?_
  refine zv_icmp_eq (tgt := 20) hx hb d_M_quotient_13 rfl (by omega) (by omega) (fun h116 => ?_) (fun h116 => ?_)
  · refine zv_iconst hx hb d_M_quotient_20 ?_
    exact L21 0 _ H1 lc2 (lv_sub hl [0, 1] rfl) hH4 (by first | exact (dif_e (by omega)).symm | exact (dif_n (by omega)).symm) (by omega)
  · refine zv_iconst hx hb d_M_quotient_16 ?_
    refine lv_goto (tgt := 21) hx hb d_M_quotient_17 rfl ?_
    exact L21 1 _ H1 lc2 (lv_sub hl [0, 1] rfl) hH4 (by first | exact (dif_e (by omega)).symm | exact (dif_n (by omega)).symm) (by omega)
