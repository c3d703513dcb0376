theorem nx_M_twentyfold_0 {g : Nat}  : g ≠ g + 10 := by omega
theorem nx_M_twentyfold_1 {g : Nat}  : g + 13 ≠ g + 10 := by omega
def rm_M_twentyfold : Room := { frames := 0, cells := 0, slots := 0, locals := 0 }
set_option maxHeartbeats 4000000 in
set_option maxRecDepth 100000 in
theorem c_M_twentyfold (l : Launch) (E : zE) (w0 : zW) (g : Nat) (ty xm ym ne : Int) (yf tf : Int → Int) (q0lt : g < zn E) (q1lt : g + 10 < zn E) (q2lt : g + 13 < zn E) (c0 : w0 g = .inr (6, [.ref (ad E (g + 1)), .ref (ad E (g + 2)), .ref (ad E (g + 3)), .ref (ad E (g + 4)), .int (iI ty), .ref (ad E (g + 5)), .ref (ad E (g + 6)), .ref (ad E (g + 7)), .ref (ad E (g + 8)), .ref (ad E (g + 9)), .ref (ad E (g + 10)), .int (iI xm), .int (iI ym), .ref (ad E (g + 11)), .int (iI ne), .ref (ad E (g + 12)), .ref (ad E (g + 13))])) (c1 : w0 (g + 10) = zar E 56 yf) (c2 : w0 (g + 13) = zar E 46 tf) (by1 : bd yf 56 0 9) (bt : bd tf 46 0 9) (hR : Vt tf 46 < Tp 45) : zM l y_M_twentyfold ws_M_twentyfold rm_M_twentyfold E [.ref (ad E g)] w0 (zQv E w0 (fun w' => (∃ (y' : Int → Int), w' (g + 10) = zar E 56 y' ∧ bd y' 56 0 9 ∧ (Vt y' 56 = 20 * Vt tf 46 + 1)) ∧ ∀ k, k ≠ (g + 10) → w' k = w0 k)) := by
  refine z_met (cc := b_M_twentyfold) (maxL := 4) (ret := none) (by decide +kernel) rfl (Nat.le_of_ble_eq_true rfl) ?_
  intro p e s m below meth cd ls a Qf hQ hC hl hH
  obtain ⟨hF, hr, hlk, hK, hG, hn⟩ := hC
  obtain ⟨hx, hb, hml, hown, hts⟩ := hF
  have hg : ∀ w ∈ GW, w.before a s = true := fun w h => hts w (List.mem_cons_of_mem _ h)
  have hA : ∀ q, s.heap.size ≤ q → va_A (wl E w0) s.heap.size q := fun q h => Or.inr h
  have hl : lv_has ls 4 [(0, .ref (ad E g))] := hl
  refine zv_iconst hx hb d_M_twentyfold_0 ?_
  refine lv_istore_n (lv' := [(1, .int (iI 0)), (0, .ref (ad E g))]) hx hb d_M_twentyfold_1 rfl hl (by decide) rfl (fun ls hl => ?_)
  refine lv_aload_n hx hb d_M_twentyfold_2 rfl (lv_at hl 1 rfl) ?_
  refine zv_get (C := "ScaledNumeralDeskModel") (T := TM) (N := 17) hx hb hg uM_in hown hK hH q0lt c0 rfl 10 (by decide) (hg _ wm_692) (fun _ h9 => h9) rfl d_M_twentyfold_3 ?_
  refine zv_iconst hx hb d_M_twentyfold_6 ?_
  refine zv_iconst hx hb d_M_twentyfold_7 ?_
  refine zv_iast hx hb hK hH q1lt c1 (by omega) (by omega) (by omega) d_M_twentyfold_8 (fun H2 lc3 w1 hH4 e5 hg6 => ?_)
  have bd7 := bd_up by1 0 1 (by omega)
  have e8 : w1 g = .inr (6, [.ref (ad E (g + 1)), .ref (ad E (g + 2)), .ref (ad E (g + 3)), .ref (ad E (g + 4)), .int (iI ty), .ref (ad E (g + 5)), .ref (ad E (g + 6)), .ref (ad E (g + 7)), .ref (ad E (g + 8)), .ref (ad E (g + 9)), .ref (ad E (g + 10)), .int (iI xm), .int (iI ym), .ref (ad E (g + 11)), .int (iI ne), .ref (ad E (g + 12)), .ref (ad E (g + 13))]) := (hg6 g (nx_M_twentyfold_0 )).trans c0
  have e9 : w1 (g + 13) = zar E 46 tf := (hg6 (g + 13) (nx_M_twentyfold_1 )).trans c2
  have hf10 : ∀ k, k ≠ (g + 10) → w1 k = w0 k := fun k g0 => hg6 k g0
  refine zv_iconst hx hb d_M_twentyfold_9 ?_
  refine lv_istore_n (lv' := [(2, .int (iI 0)), (1, .int (iI 0)), (0, .ref (ad E g))]) hx hb d_M_twentyfold_10 rfl hl (by decide) rfl (fun ls hl => ?_)
  have L11 : ∀ (fu : Nat) (i : Int) (c : Int) (h : Int → Int) (ls : Array Slot) (H11 : Heap) (lc12 : List Loc) (w13 : zW), (lv_has ls 4 [(0, .ref (ad E g)), (1, .int (iI c)), (2, .int (iI i))]) → (zH E w13 (va_A (wl E w0) s.heap.size) s.heap H11 lc12) → (w13 g = .inr (6, [.ref (ad E (g + 1)), .ref (ad E (g + 2)), .ref (ad E (g + 3)), .ref (ad E (g + 4)), .int (iI ty), .ref (ad E (g + 5)), .ref (ad E (g + 6)), .ref (ad E (g + 7)), .ref (ad E (g + 8)), .ref (ad E (g + 9)), .ref (ad E (g + 10)), .int (iI xm), .int (iI ym), .ref (ad E (g + 11)), .int (iI ne), .ref (ad E (g + 12)), .ref (ad E (g + 13))])) → (w13 (g + 10) = zar E 56 h) → (w13 (g + 13) = zar E 46 tf) → (∀ k, k ≠ (g + 10) → w13 k = w0 k) → (bd h 56 0 9) → (0 ≤ i ∧ i ≤ 46) → (0 ≤ c ∧ c ≤ 1) → (Vt h (i + 1) + c * Tp (i + 1) = 1 + 20 * Vt tf i) → (46 - i < (fu : Int)) → W p l e rm_M_twentyfold s m a below meth cd H11 lc12 0 0 Qf (F0 m 11 ls []) := by
    intro fu
    induction fu with
    | zero => intro i c h ls H11 lc12 w13 hl hH e14 e15 e16 hf17 bh hi hc hv hm; exact absurd hm (by omega)
    | succ fu ih =>
      intro i c h ls H11 lc12 w13 hl hH e14 e15 e16 hf17 bh hi hc hv hm
      refine lv_iload_n hx hb d_M_twentyfold_11 rfl (lv_at hl 2 rfl) ?_
      refine zv_bipush hx hb d_M_twentyfold_12 rfl ?_
      refine zv_icmp_ge (tgt := 51) hx hb d_M_twentyfold_14 rfl (by omega) (by omega) (fun h18 => ?_) (fun h18 => ?_)
      · refine zv_bipush hx hb d_M_twentyfold_51 rfl ?_
        refine lv_istore_n (lv' := [(2, .int (iI 47)), (0, .ref (ad E g)), (1, .int (iI c))]) hx hb d_M_twentyfold_53 rfl hl (by decide) rfl (fun ls hl => ?_)
        have L54 : ∀ (fu : Nat) (i2 : Int) (h2 : Int → Int) (ls : Array Slot) (H19 : Heap) (lc20 : List Loc) (w21 : zW), (lv_has ls 4 [(0, .ref (ad E g)), (2, .int (iI i2))]) → (zH E w21 (va_A (wl E w0) s.heap.size) s.heap H19 lc20) → (w21 g = .inr (6, [.ref (ad E (g + 1)), .ref (ad E (g + 2)), .ref (ad E (g + 3)), .ref (ad E (g + 4)), .int (iI ty), .ref (ad E (g + 5)), .ref (ad E (g + 6)), .ref (ad E (g + 7)), .ref (ad E (g + 8)), .ref (ad E (g + 9)), .ref (ad E (g + 10)), .int (iI xm), .int (iI ym), .ref (ad E (g + 11)), .int (iI ne), .ref (ad E (g + 12)), .ref (ad E (g + 13))])) → (w21 (g + 10) = zar E 56 h2) → (w21 (g + 13) = zar E 46 tf) → (∀ k, k ≠ (g + 10) → w21 k = w0 k) → (bd h2 56 0 9) → (47 ≤ i2 ∧ i2 ≤ 56) → (∀ j : Int, 47 ≤ j → j < i2 → h2 j = 0) → (∀ j : Int, j < 47 → h2 j = h j) → (56 - i2 < (fu : Int)) → W p l e rm_M_twentyfold s m a below meth cd H19 lc20 0 0 Qf (F0 m 54 ls []) := by
          intro fu
          induction fu with
          | zero => intro i2 h2 ls H19 lc20 w21 hl hH e22 e23 e24 hf25 bh2 hi2 hz he hm; exact absurd hm (by omega)
          | succ fu ih54 =>
            intro i2 h2 ls H19 lc20 w21 hl hH e22 e23 e24 hf25 bh2 hi2 hz he hm
            refine lv_iload_n hx hb d_M_twentyfold_54 rfl (lv_at hl 1 rfl) ?_
            refine zv_bipush hx hb d_M_twentyfold_55 rfl ?_
            refine zv_icmp_ge (tgt := 73) hx hb d_M_twentyfold_57 rfl (by omega) (by omega) (fun h26 => ?_) (fun h26 => ?_)
            · have i9 : i = 46 := by omega
              rw [i9, show (46 : Int) + 1 = 47 by decide] at hv
              rw [hQ]
              exact z_vret hx hb hr hlk hH (⟨⟨h2, e23, bh2, tf_end bh2 bt hR (by rw [Vt_ext (g := h) (fun j _ g2 => he j g2)]; exact hv) (fun j g1 g2 => hz j g1 (by omega))⟩, (fun k g0 => hf25 k g0)⟩) d_M_twentyfold_73
            · refine lv_aload_n hx hb d_M_twentyfold_60 rfl (lv_at hl 0 rfl) ?_
              refine zv_get (C := "ScaledNumeralDeskModel") (T := TM) (N := 17) hx hb hg uM_in hown hK hH q0lt e22 rfl 10 (by decide) (hg _ wm_692) (fun _ h9 => h9) rfl d_M_twentyfold_61 ?_
              refine lv_iload_n hx hb d_M_twentyfold_64 rfl (lv_at hl 1 rfl) ?_
              refine zv_iconst hx hb d_M_twentyfold_65 ?_
              refine zv_iast hx hb hK hH q1lt e23 (by omega) (by omega) (by omega) d_M_twentyfold_66 (fun H28 lc29 w27 hH30 e31 hg32 => ?_)
              have bd33 := bd_up bh2 i2 0 (by omega)
              have e34 : w27 g = .inr (6, [.ref (ad E (g + 1)), .ref (ad E (g + 2)), .ref (ad E (g + 3)), .ref (ad E (g + 4)), .int (iI ty), .ref (ad E (g + 5)), .ref (ad E (g + 6)), .ref (ad E (g + 7)), .ref (ad E (g + 8)), .ref (ad E (g + 9)), .ref (ad E (g + 10)), .int (iI xm), .int (iI ym), .ref (ad E (g + 11)), .int (iI ne), .ref (ad E (g + 12)), .ref (ad E (g + 13))]) := (hg32 g (nx_M_twentyfold_0 )).trans e22
              have e35 : w27 (g + 13) = zar E 46 tf := (hg32 (g + 13) (nx_M_twentyfold_1 )).trans e24
              have hf36 : ∀ k, k ≠ (g + 10) → w27 k = w0 k := fun k g0 => (hg32 k g0).trans (hf25 k g0)
              refine zv_iinc (k := 1) (lv' := [(2, .int (iI (i2 + 1))), (0, .ref (ad E g))]) hx hb d_M_twentyfold_67 hl rfl (by decide) rfl (fun ls hl => ?_)
              refine lv_goto (tgt := 54) hx hb d_M_twentyfold_70 rfl ?_
              exact ih54  (i2 + 1) (up h2 i2 0) _ H28 lc29 w27 (lv_sub hl [1, 0] rfl) hH30 e34 e31 e35 (fun k g0 => hf36 k g0) (by assumption) (by omega) (by intro j g1 g2; by_cases e8 : j = i2; rw [e8, up_at]; rw [up_ne e8]; exact hz j g1 (by omega)) (by intro j g1; rw [up_ne (by omega)]; exact he j g1) (by omega)
        exact L54 ((56 - 47 : Int).toNat + 1) 47 h _ H11 lc12 w13 (lv_sub hl [1, 0] rfl) hH e14 e15 e16 (fun k g0 => hf17 k g0) (by exact bh) (by omega) (by intro j g1 g2; omega) (by intro j _; rfl) (by omega)
      · refine zv_iconst hx hb d_M_twentyfold_17 ?_
        refine lv_aload_n hx hb d_M_twentyfold_18 rfl (lv_at hl 0 rfl) ?_
        refine zv_get (C := "ScaledNumeralDeskModel") (T := TM) (N := 17) hx hb hg uM_in hown hK hH q0lt e14 rfl 16 (by decide) (hg _ wm_698) (fun _ h9 => h9) rfl d_M_twentyfold_19 ?_
        refine lv_iload_n hx hb d_M_twentyfold_22 rfl (lv_at hl 2 rfl) ?_
        refine zv_iald hx hb hK hH q2lt e16 (by omega) (by omega) (by omega) d_M_twentyfold_23 ?_
        have b37 := bt i (by omega) (by omega)
        refine zv_imul hx hb d_M_twentyfold_24 ?_
        refine lv_iload_n hx hb d_M_twentyfold_25 rfl (lv_at hl 1 rfl) ?_
        refine zv_iadd hx hb d_M_twentyfold_26 ?_
        refine lv_istore_n (lv' := [(3, .int (iI ((2 * (tf i)) + c))), (0, .ref (ad E g)), (1, .int (iI c)), (2, .int (iI i))]) hx hb d_M_twentyfold_27 rfl hl (by decide) rfl (fun ls hl => ?_)
        refine lv_iload_n hx hb d_M_twentyfold_28 rfl (lv_at hl 0 rfl) ?_
        refine zv_bipush hx hb d_M_twentyfold_29 rfl ?_
        refine zv_idiv hx hb (by omega) (by omega) (by omega) (by omega) d_M_twentyfold_31 ?_
        refine lv_istore_n (lv' := [(1, .int (iI (((2 * (tf i)) + c) / 10))), (3, .int (iI ((2 * (tf i)) + c))), (0, .ref (ad E g)), (2, .int (iI i))]) hx hb d_M_twentyfold_32 rfl hl (by decide) rfl (fun ls hl => ?_)
        refine lv_aload_n hx hb d_M_twentyfold_33 rfl (lv_at hl 2 rfl) ?_
        refine zv_get (C := "ScaledNumeralDeskModel") (T := TM) (N := 17) hx hb hg uM_in hown hK hH q0lt e14 rfl 10 (by decide) (hg _ wm_692) (fun _ h9 => h9) rfl d_M_twentyfold_34 ?_
        refine lv_iload_n hx hb d_M_twentyfold_37 rfl (lv_at hl 3 rfl) ?_
        refine zv_iconst hx hb d_M_twentyfold_38 ?_
        refine zv_iadd hx hb d_M_twentyfold_39 ?_
        refine lv_iload_n hx hb d_M_twentyfold_40 rfl (lv_at hl 1 rfl) ?_
        refine zv_bipush hx hb d_M_twentyfold_41 rfl ?_
        refine zv_irem hx hb (by omega) (by omega) (by omega) (by omega) d_M_twentyfold_43 ?_
        refine zv_iast hx hb hK hH q1lt e15 (by omega) (by omega) (by omega) d_M_twentyfold_44 (fun H39 lc40 w38 hH41 e42 hg43 => ?_)
        have bd44 := bd_up bh (i + 1) (((2 * (tf i)) + c) % 10) (by omega)
        have e45 : w38 g = .inr (6, [.ref (ad E (g + 1)), .ref (ad E (g + 2)), .ref (ad E (g + 3)), .ref (ad E (g + 4)), .int (iI ty), .ref (ad E (g + 5)), .ref (ad E (g + 6)), .ref (ad E (g + 7)), .ref (ad E (g + 8)), .ref (ad E (g + 9)), .ref (ad E (g + 10)), .int (iI xm), .int (iI ym), .ref (ad E (g + 11)), .int (iI ne), .ref (ad E (g + 12)), .ref (ad E (g + 13))]) := (hg43 g (nx_M_twentyfold_0 )).trans e14
        have e46 : w38 (g + 13) = zar E 46 tf := (hg43 (g + 13) (nx_M_twentyfold_1 )).trans e16
        have hf47 : ∀ k, k ≠ (g + 10) → w38 k = w0 k := fun k g0 => (hg43 k g0).trans (hf17 k g0)
        refine zv_iinc (k := 3) (lv' := [(2, .int (iI (i + 1))), (1, .int (iI (((2 * (tf i)) + c) / 10))), (3, .int (iI ((2 * (tf i)) + c))), (0, .ref (ad E g))]) hx hb d_M_twentyfold_45 hl rfl (by decide) rfl (fun ls hl => ?_)
        refine lv_goto (tgt := 11) hx hb d_M_twentyfold_48 rfl ?_
        exact ih  (i + 1) (((2 * (tf i)) + c) / 10) (up h (i + 1) (((2 * (tf i)) + c) % 10)) _ H39 lc40 w38 (lv_sub hl [3, 1, 0] rfl) hH41 e45 e42 e46 (fun k g0 => hf47 k g0) (by assumption) (by omega) (by omega) (by exact tf_step hi.1 rfl hv) (by omega)
  exact L11 ((46 - 0 : Int).toNat + 1) 0 0 (up yf 0 1) _ H2 lc3 w1 (lv_sub hl [2, 1, 0] rfl) hH4 e8 e5 e9 (fun k g0 => hf10 k g0) (by assumption) (by omega) (by omega) (by rw [Vt_put yf (by decide), Vt_0, Vt_0, Tp_0]; omega) (by omega)
theorem nx_M_twoMore_0 {g : Nat}  : g ≠ g + 10 := by omega
def rm_M_twoMore : Room := { frames := 0, cells := 0, slots := 0, locals := 0 }
set_option maxHeartbeats 4000000 in
set_option maxRecDepth 100000 in
theorem c_M_twoMore (l : Launch) (E : zE) (w0 : zW) (g : Nat) (ty xm ym ne : Int) (yf : Int → Int) (q0lt : g < zn E) (q1lt : g + 10 < zn E) (c0 : w0 g = .inr (6, [.ref (ad E (g + 1)), .ref (ad E (g + 2)), .ref (ad E (g + 3)), .ref (ad E (g + 4)), .int (iI ty), .ref (ad E (g + 5)), .ref (ad E (g + 6)), .ref (ad E (g + 7)), .ref (ad E (g + 8)), .ref (ad E (g + 9)), .ref (ad E (g + 10)), .int (iI xm), .int (iI ym), .ref (ad E (g + 11)), .int (iI ne), .ref (ad E (g + 12)), .ref (ad E (g + 13))])) (c1 : w0 (g + 10) = zar E 56 yf) (by1 : bd yf 56 0 9) (hY : Vt yf 56 + 2 < Tp 56) : zM l y_M_twoMore ws_M_twoMore rm_M_twoMore E [.ref (ad E g)] w0 (zQv E w0 (fun w' => (∃ (y' : Int → Int), w' (g + 10) = zar E 56 y' ∧ bd y' 56 0 9 ∧ (Vt y' 56 = Vt yf 56 + 2)) ∧ ∀ k, k ≠ (g + 10) → w' k = w0 k)) := by
  refine z_met (cc := b_M_twoMore) (maxL := 2) (ret := none) (by decide +kernel) rfl (Nat.le_of_ble_eq_true rfl) ?_
  intro p e s m below meth cd ls a Qf hQ hC hl hH
  obtain ⟨hF, hr, hlk, hK, hG, hn⟩ := hC
  obtain ⟨hx, hb, hml, hown, hts⟩ := hF
  have hg : ∀ w ∈ GW, w.before a s = true := fun w h => hts w (List.mem_cons_of_mem _ h)
  have hA : ∀ q, s.heap.size ≤ q → va_A (wl E w0) s.heap.size q := fun q h => Or.inr h
  have hl : lv_has ls 2 [(0, .ref (ad E g))] := hl
  have by9 := by1
  refine lv_aload_n hx hb d_M_twoMore_0 rfl (lv_at hl 0 rfl) ?_
  refine zv_get (C := "ScaledNumeralDeskModel") (T := TM) (N := 17) hx hb hg uM_in hown hK hH q0lt c0 rfl 10 (by decide) (hg _ wm_692) (fun _ h9 => h9) rfl d_M_twoMore_1 ?_
  refine zv_iconst hx hb d_M_twoMore_4 ?_
  refine lv_dup2_11 hx hb d_M_twoMore_5 rfl rfl ?_
  refine zv_iald hx hb hK hH q1lt c1 (by omega) (by omega) (by omega) d_M_twoMore_6 ?_
  have by0 := by9 0 (by decide) (by decide)
  refine zv_iconst hx hb d_M_twoMore_7 ?_
  refine zv_iadd hx hb d_M_twoMore_8 ?_
  refine zv_iast hx hb hK hH q1lt c1 (by omega) (by omega) (by omega) d_M_twoMore_9 (fun H2 lc3 w1 hH4 e5 hg6 => ?_)
  have e7 : w1 g = .inr (6, [.ref (ad E (g + 1)), .ref (ad E (g + 2)), .ref (ad E (g + 3)), .ref (ad E (g + 4)), .int (iI ty), .ref (ad E (g + 5)), .ref (ad E (g + 6)), .ref (ad E (g + 7)), .ref (ad E (g + 8)), .ref (ad E (g + 9)), .ref (ad E (g + 10)), .int (iI xm), .int (iI ym), .ref (ad E (g + 11)), .int (iI ne), .ref (ad E (g + 12)), .ref (ad E (g + 13))]) := (hg6 g (nx_M_twoMore_0 )).trans c0
  have hf8 : ∀ k, k ≠ (g + 10) → w1 k = w0 k := fun k g0 => hg6 k g0
  refine zv_iconst hx hb d_M_twoMore_10 ?_
  refine lv_istore_n (lv' := [(1, .int (iI 0)), (0, .ref (ad E g))]) hx hb d_M_twoMore_11 rfl hl (by decide) rfl (fun ls hl => ?_)
  have L12 : ∀ (fu : Nat) (i : Int) (h : Int → Int) (ls : Array Slot) (H9 : Heap) (lc10 : List Loc) (w11 : zW), (lv_has ls 2 [(1, .int (iI i)), (0, .ref (ad E g))]) → (zH E w11 (va_A (wl E w0) s.heap.size) s.heap H9 lc10) → (w11 g = .inr (6, [.ref (ad E (g + 1)), .ref (ad E (g + 2)), .ref (ad E (g + 3)), .ref (ad E (g + 4)), .int (iI ty), .ref (ad E (g + 5)), .ref (ad E (g + 6)), .ref (ad E (g + 7)), .ref (ad E (g + 8)), .ref (ad E (g + 9)), .ref (ad E (g + 10)), .int (iI xm), .int (iI ym), .ref (ad E (g + 11)), .int (iI ne), .ref (ad E (g + 12)), .ref (ad E (g + 13))])) → (w11 (g + 10) = zar E 56 h) → (∀ k, k ≠ (g + 10) → w11 k = w0 k) → (0 ≤ i ∧ i ≤ 55) → (Vt h 56 = Vt yf 56 + 2) → (∀ j : Int, 0 ≤ j → j < 56 → 0 ≤ h j ∧ h j ≤ 11 ∧ (j ≠ i → h j ≤ 9)) → (55 - i < (fu : Int)) → W p l e rm_M_twoMore s m a below meth cd H9 lc10 0 0 Qf (F0 m 12 ls []) := by
    intro fu
    induction fu with
    | zero => intro i h ls H9 lc10 w11 hl hH e12 e13 hf14 hi hv hj hm; exact absurd hm (by omega)
    | succ fu ih =>
      intro i h ls H9 lc10 w11 hl hH e12 e13 hf14 hi hv hj hm
      refine lv_iload_n hx hb d_M_twoMore_12 rfl (lv_at hl 0 rfl) ?_
      refine zv_bipush hx hb d_M_twoMore_13 rfl ?_
      refine zv_icmp_ge (tgt := 58) hx hb d_M_twoMore_15 rfl (by omega) (by omega) (fun h15 => ?_) (fun h15 => ?_)
      · have i9 : i = 55 := by omega
        subst i9
        have bh9 : bd h 56 0 9 := tmo_end (fun j g1 g2 g3 => ⟨(hj j g1 g2).1, (hj j g1 g2).2.2 g3⟩) (hj 55 (by decide) (by decide)).1 (by omega)
        rw [hQ]
        exact z_vret hx hb hr hlk hH (⟨⟨h, e13, (by assumption), hv⟩, (fun k g0 => hf14 k g0)⟩) d_M_twoMore_58
      · refine lv_aload_n hx hb d_M_twoMore_18 rfl (lv_at hl 1 rfl) ?_
        refine zv_get (C := "ScaledNumeralDeskModel") (T := TM) (N := 17) hx hb hg uM_in hown hK hH q0lt e12 rfl 10 (by decide) (hg _ wm_692) (fun _ h9 => h9) rfl d_M_twoMore_19 ?_
        have hh1 := hj i (by omega) (by omega)
        refine lv_iload_n hx hb d_M_twoMore_22 rfl (lv_at hl 0 rfl) ?_
        refine zv_iald hx hb hK hH q1lt e13 (by omega) (by omega) (by omega) d_M_twoMore_23 ?_
        refine zv_bipush hx hb d_M_twoMore_24 rfl ?_
        refine zv_icmp_le (tgt := 52) hx hb d_M_twoMore_26 rfl (by omega) (by omega) (fun h16 => ?_) (fun h16 => ?_)
        · have hjc : ∀ j : Int, 0 ≤ j → j < 56 → 0 ≤ h j ∧ h j ≤ 11 ∧ (j ≠ i + 1 → h j ≤ 9) := by
            intro j g1 g2
            have a1 := hj j g1 g2
            by_cases e8 : j = i
            · subst e8; omega
            · have := a1.2.2 e8; omega
          refine zv_iinc (k := 0) (lv' := [(1, .int (iI (i + 1))), (0, .ref (ad E g))]) hx hb d_M_twoMore_52 hl rfl (by decide) rfl (fun ls hl => ?_)
          refine lv_goto (tgt := 12) hx hb d_M_twoMore_55 rfl ?_
          exact ih  (i + 1) h _ H9 lc10 w11 (lv_sub hl [0, 1] rfl) hH e12 e13 (fun k g0 => hf14 k g0) (by omega) (by first | (rw [tmo_step (by omega) (by omega)]; exact hv) | exact hv) (by first | exact hjc | exact hjd) (by omega)
        · have hjd : ∀ j : Int, 0 ≤ j → j < 56 → 0 ≤ (up (up h i (h i - 10)) (i + 1) ((up h i (h i - 10)) (i + 1) + 1)) j ∧ (up (up h i (h i - 10)) (i + 1) ((up h i (h i - 10)) (i + 1) + 1)) j ≤ 11 ∧ (j ≠ i + 1 → (up (up h i (h i - 10)) (i + 1) ((up h i (h i - 10)) (i + 1) + 1)) j ≤ 9) := by
            intro j g1 g2
            have a1 := hj j g1 g2
            by_cases e8 : j = i + 1
            · rw [e8, up_at, up_ne (by omega)]
              have a2 := hj (i + 1) (by omega) (by omega)
              have a3 := a2.2.2 (by omega)
              omega
            · rw [up_ne e8]
              by_cases e7 : j = i
              · rw [e7, up_at]; have a4 := hj i (by omega) (by omega); omega
              · rw [up_ne e7]; have := a1.2.2 e7; omega
          refine lv_aload_n hx hb d_M_twoMore_29 rfl (lv_at hl 1 rfl) ?_
          refine zv_get (C := "ScaledNumeralDeskModel") (T := TM) (N := 17) hx hb hg uM_in hown hK hH q0lt e12 rfl 10 (by decide) (hg _ wm_692) (fun _ h9 => h9) rfl d_M_twoMore_30 ?_
          have hn8 := hj (i + 1) (by omega) (by omega)
          have hn7 : (up h i (h i - 10)) (i + 1) = h (i + 1) := up_ne (by omega)
          refine lv_iload_n hx hb d_M_twoMore_33 rfl (lv_at hl 0 rfl) ?_
          refine lv_dup2_11 hx hb d_M_twoMore_34 rfl rfl ?_
          refine zv_iald hx hb hK hH q1lt e13 (by omega) (by omega) (by omega) d_M_twoMore_35 ?_
          refine zv_bipush hx hb d_M_twoMore_36 rfl ?_
          refine zv_isub hx hb d_M_twoMore_38 ?_
          refine zv_iast hx hb hK hH q1lt e13 (by omega) (by omega) (by omega) d_M_twoMore_39 (fun H18 lc19 w17 hH20 e21 hg22 => ?_)
          have e23 : w17 g = .inr (6, [.ref (ad E (g + 1)), .ref (ad E (g + 2)), .ref (ad E (g + 3)), .ref (ad E (g + 4)), .int (iI ty), .ref (ad E (g + 5)), .ref (ad E (g + 6)), .ref (ad E (g + 7)), .ref (ad E (g + 8)), .ref (ad E (g + 9)), .ref (ad E (g + 10)), .int (iI xm), .int (iI ym), .ref (ad E (g + 11)), .int (iI ne), .ref (ad E (g + 12)), .ref (ad E (g + 13))]) := (hg22 g (nx_M_twoMore_0 )).trans e12
          have hf24 : ∀ k, k ≠ (g + 10) → w17 k = w0 k := fun k g0 => (hg22 k g0).trans (hf14 k g0)
          refine lv_aload_n hx hb d_M_twoMore_40 rfl (lv_at hl 1 rfl) ?_
          refine zv_get (C := "ScaledNumeralDeskModel") (T := TM) (N := 17) hx hb hg uM_in hown hK hH20 q0lt e23 rfl 10 (by decide) (hg _ wm_692) (fun _ h9 => h9) rfl d_M_twoMore_41 ?_
          refine lv_iload_n hx hb d_M_twoMore_44 rfl (lv_at hl 0 rfl) ?_
          refine zv_iconst hx hb d_M_twoMore_45 ?_
          refine zv_iadd hx hb d_M_twoMore_46 ?_
          refine lv_dup2_11 hx hb d_M_twoMore_47 rfl rfl ?_
          refine zv_iald hx hb hK hH20 q1lt e21 (by omega) (by omega) (by omega) d_M_twoMore_48 ?_
          refine zv_iconst hx hb d_M_twoMore_49 ?_
          refine zv_iadd hx hb d_M_twoMore_50 ?_
          refine zv_iast hx hb hK hH20 q1lt e21 (by omega) (by omega) (by omega) d_M_twoMore_51 (fun H26 lc27 w25 hH28 e29 hg30 => ?_)
          have e31 : w25 g = .inr (6, [.ref (ad E (g + 1)), .ref (ad E (g + 2)), .ref (ad E (g + 3)), .ref (ad E (g + 4)), .int (iI ty), .ref (ad E (g + 5)), .ref (ad E (g + 6)), .ref (ad E (g + 7)), .ref (ad E (g + 8)), .ref (ad E (g + 9)), .ref (ad E (g + 10)), .int (iI xm), .int (iI ym), .ref (ad E (g + 11)), .int (iI ne), .ref (ad E (g + 12)), .ref (ad E (g + 13))]) := (hg30 g (nx_M_twoMore_0 )).trans e23
          have hf32 : ∀ k, k ≠ (g + 10) → w25 k = w0 k := fun k g0 => (hg30 k g0).trans (hf24 k g0)
          refine zv_iinc (k := 0) (lv' := [(1, .int (iI (i + 1))), (0, .ref (ad E g))]) hx hb d_M_twoMore_52 hl rfl (by decide) rfl (fun ls hl => ?_)
          refine lv_goto (tgt := 12) hx hb d_M_twoMore_55 rfl ?_
          exact ih  (i + 1) (up (up h i ((h i) - 10)) (i + 1) (((up h i ((h i) - 10)) (i + 1)) + 1)) _ H26 lc27 w25 (lv_sub hl [0, 1] rfl) hH28 e31 e29 (fun k g0 => hf32 k g0) (by omega) (by first | (rw [tmo_step (by omega) (by omega)]; exact hv) | exact hv) (by first | exact hjc | exact hjd) (by omega)
  exact L12 ((55 - 0 : Int).toNat + 1) 0 (up yf 0 ((yf 0) + 2)) _ H2 lc3 w1 (lv_sub hl [0, 1] rfl) hH4 e7 e5 (fun k g0 => hf8 k g0) (by omega) (by rw [Vt_set yf (by decide) (by decide), Int.add_mul, Tp_0]; omega) (by intro j g1 g2; by_cases e8 : j = 0; rw [e8, up_at]; have := by9 0 (by decide) (by decide); omega; rw [up_ne e8]; have := by9 j g1 g2; omega) (by omega)
