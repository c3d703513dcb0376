def rm_M_topX : Room := { frames := 0, cells := 0, slots := 0, locals := 0 }
set_option maxHeartbeats 4000000 in
set_option maxRecDepth 100000 in
theorem c_M_topX (l : Launch) (E : zE) (w0 : zW) (g : Nat) (ty xm ym ne : Int) (xf yf : Int → Int) (q0lt : g < zn E) (q1lt : g + 9 < zn E) (q2lt : g + 10 < zn E) (c0 : w0 g = .inr (6, [.ref (ad E (g + 1)), .ref (ad E (g + 2)), .ref (ad E (g + 3)), .ref (ad E (g + 4)), .int (iI ty), .ref (ad E (g + 5)), .ref (ad E (g + 6)), .ref (ad E (g + 7)), .ref (ad E (g + 8)), .ref (ad E (g + 9)), .ref (ad E (g + 10)), .int (iI xm), .int (iI ym), .ref (ad E (g + 11)), .int (iI ne), .ref (ad E (g + 12)), .ref (ad E (g + 13))])) (c1 : w0 (g + 9) = zar E 56 xf) (c2 : w0 (g + 10) = zar E 56 yf) (bx : bd xf 56 0 9) (by1 : bd yf 56 0 9) : zM l y_M_top ws_M_top rm_M_topX E [.ref (ad E g), .int (iI 0)] w0 (zQi E w0 (fun z w' => w' = w0 ∧ (TpR xf z))) := by
  refine z_met (cc := b_M_top) (maxL := 5) (ret := (some .int)) (by decide +kernel) rfl (Nat.le_of_ble_eq_true rfl) ?_
  intro p e s m below meth cd ls a Qf hQ hC hl hH
  obtain ⟨hF, hr, hlk, hK, hG, hn⟩ := hC
  obtain ⟨hx, hb, hml, hown, hts⟩ := hF
  have hg : ∀ w ∈ GW, w.before a s = true := fun w h => hts w (List.mem_cons_of_mem _ h)
  have hA : ∀ q, s.heap.size ≤ q → va_A (wl E w0) s.heap.size q := fun q h => Or.inr h
  have hl : lv_has ls 5 [(0, .ref (ad E g)), (1, .int (iI 0))] := hl
  refine zv_iconst hx hb d_M_top_0 ?_
  refine lv_istore_n (lv' := [(2, .int (iI (-1))), (0, .ref (ad E g)), (1, .int (iI 0))]) hx hb d_M_top_1 rfl hl (by decide) rfl (fun ls hl => ?_)
  refine zv_iconst hx hb d_M_top_2 ?_
  refine lv_istore_n (lv' := [(3, .int (iI 0)), (2, .int (iI (-1))), (0, .ref (ad E g)), (1, .int (iI 0))]) hx hb d_M_top_3 rfl hl (by decide) rfl (fun ls hl => ?_)
  have L4 : ∀ (fu : Nat) (i : Int) (t : Int) (ls : Array Slot) (H1 : Heap) (lc2 : List Loc), (lv_has ls 5 [(0, .ref (ad E g)), (1, .int (iI 0)), (2, .int (iI t)), (3, .int (iI i))]) → (zH E w0 (va_A (wl E w0) s.heap.size) s.heap H1 lc2) → (0 ≤ i ∧ i ≤ 56) → ((t = -1 ∧ ∀ j : Int, 0 ≤ j → j < i → xf j = 0) ∨ (0 ≤ t ∧ t < i ∧ xf t ≠ 0 ∧ ∀ j : Int, t < j → j < i → xf j = 0)) → (56 - i < (fu : Int)) → W p l e rm_M_topX s m a below meth cd H1 lc2 0 0 Qf (F0 m 4 ls []) := by
    intro fu
    induction fu with
    | zero => intro i t ls H1 lc2 hl hH hi ht hm; exact absurd hm (by omega)
    | succ fu ih =>
      intro i t ls H1 lc2 hl hH hi ht hm
      refine lv_iload_n hx hb d_M_top_4 rfl (lv_at hl 3 rfl) ?_
      refine zv_bipush hx hb d_M_top_5 rfl ?_
      refine zv_icmp_ge (tgt := 48) hx hb d_M_top_7 rfl (by omega) (by omega) (fun h3 => ?_) (fun h3 => ?_)
      · refine lv_iload_n hx hb d_M_top_48 rfl (lv_at hl 2 rfl) ?_
        have i9 : i = 56 := by omega
        subst i9
        rw [hQ]
        exact z_iret hx hb hr hlk hH (⟨rfl, by rcases ht with h8 | h8; exact Or.inl ⟨h8.1, Vt_zero (by decide) h8.2⟩; exact Or.inr ⟨h8.1, h8.2.1, tw_V bx ⟨h8.1, h8.2.1⟩ h8.2.2.1 h8.2.2.2⟩⟩) d_M_top_49
      · refine lv_iload_n hx hb d_M_top_10 rfl (lv_at hl 1 rfl) ?_
        refine zv_if_eq (tgt := 23) hx hb d_M_top_11 rfl (by omega) (fun h4 => ?_) (fun h4 => absurd h4 (by omega))
        refine lv_aload_n hx hb d_M_top_23 rfl (lv_at hl 0 rfl) ?_
        refine zv_get (C := "ScaledNumeralDeskModel") (T := TM) (N := 17) hx hb hg uM_in hown hK hH q0lt c0 rfl 9 (by decide) (hg _ wm_691) (fun _ h9 => h9) rfl d_M_top_24 ?_
        refine lv_iload_n hx hb d_M_top_27 rfl (lv_at hl 3 rfl) ?_
        refine zv_iald hx hb hK hH q1lt c1 (by omega) (by omega) (by omega) d_M_top_28 ?_
        have b5 := bx i (by omega) (by omega)
        have L41 : ∀ (t2 : Int) (ls : Array Slot) (H6 : Heap) (lc7 : List Loc), (lv_has ls 5 [(0, .ref (ad E g)), (1, .int (iI 0)), (2, .int (iI t)), (3, .int (iI i))]) → (zH E w0 (va_A (wl E w0) s.heap.size) s.heap H6 lc7) → ((t2 = -1 ∧ ∀ j : Int, 0 ≤ j → j < i + 1 → xf j = 0) ∨ (0 ≤ t2 ∧ t2 < i + 1 ∧ xf t2 ≠ 0 ∧ ∀ j : Int, t2 < j → j < i + 1 → xf j = 0)) → (zr t2) → W p l e rm_M_topX s m a below meth cd H6 lc7 0 0 Qf (F0 m 41 ls [.int (iI t2)]) := by
          intro t2 ls H6 lc7 hl hH ht2 hw
          refine lv_istore_n (lv' := [(2, .int (iI t2)), (0, .ref (ad E g)), (1, .int (iI 0)), (3, .int (iI i))]) hx hb d_M_top_41 rfl hl (by decide) rfl (fun ls hl => ?_)
          refine zv_iinc (k := 3) (lv' := [(3, .int (iI (i + 1))), (2, .int (iI t2)), (0, .ref (ad E g)), (1, .int (iI 0))]) hx hb d_M_top_42 hl rfl (by decide) rfl (fun ls hl => ?_)
          refine lv_goto (tgt := 4) hx hb d_M_top_45 rfl ?_
          exact ih  (i + 1) t2 _ H6 lc7 (lv_sub hl [2, 3, 1, 0] rfl) hH (by omega) (by exact ht2) (by omega)
        refine lv_istore (lv' := [(4, .int (iI (xf i))), (0, .ref (ad E g)), (1, .int (iI 0)), (2, .int (iI t)), (3, .int (iI i))]) hx hb d_M_top_29 hl (by decide) rfl (fun ls hl => ?_)
        refine lv_iload hx hb d_M_top_31 (lv_at hl 0 rfl) ?_
        refine zv_if_eq (tgt := 40) hx hb d_M_top_33 rfl (by omega) (fun h8 => ?_) (fun h8 => ?_)
        · refine lv_iload_n hx hb d_M_top_40 rfl (lv_at hl 3 rfl) ?_
          exact L41 t _ H1 lc2 (lv_sub hl [1, 2, 3, 4] rfl) hH (by first | exact Or.inr ⟨by omega, by omega, by assumption, fun j g1 g2 => by omega⟩ | (rcases ht with h8 | h8; exact Or.inl ⟨h8.1, fun j g1 g2 => by by_cases e8 : j = i; rw [e8]; omega; exact h8.2 j g1 (by omega)⟩; exact Or.inr ⟨h8.1, by omega, h8.2.2.1, fun j g1 g2 => by by_cases e8 : j = i; rw [e8]; omega; exact h8.2.2.2 j g1 (by omega)⟩)) (by omega)
        · refine lv_iload_n hx hb d_M_top_36 rfl (lv_at hl 4 rfl) ?_
          refine lv_goto (tgt := 41) hx hb d_M_top_37 rfl ?_
          exact L41 i _ H1 lc2 (lv_sub hl [1, 2, 3, 4] rfl) hH (by first | exact Or.inr ⟨by omega, by omega, by assumption, fun j g1 g2 => by omega⟩ | (rcases ht with h8 | h8; exact Or.inl ⟨h8.1, fun j g1 g2 => by by_cases e8 : j = i; rw [e8]; omega; exact h8.2 j g1 (by omega)⟩; exact Or.inr ⟨h8.1, by omega, h8.2.2.1, fun j g1 g2 => by by_cases e8 : j = i; rw [e8]; omega; exact h8.2.2.2 j g1 (by omega)⟩)) (by omega)
  exact L4 ((56 - 0 : Int).toNat + 1) 0 (-1) _ s.heap ([]) (lv_sub hl [2, 3, 1, 0] rfl) hH (by omega) (by exact Or.inl ⟨rfl, fun j g1 g2 => by omega⟩) (by omega)
def rm_M_topY : Room := { frames := 0, cells := 0, slots := 0, locals := 0 }
set_option maxHeartbeats 4000000 in
set_option maxRecDepth 100000 in
theorem c_M_topY (l : Launch) (E : zE) (w0 : zW) (g : Nat) (ty xm ym ne : Int) (xf yf : Int → Int) (q0lt : g < zn E) (q1lt : g + 9 < zn E) (q2lt : g + 10 < zn E) (c0 : w0 g = .inr (6, [.ref (ad E (g + 1)), .ref (ad E (g + 2)), .ref (ad E (g + 3)), .ref (ad E (g + 4)), .int (iI ty), .ref (ad E (g + 5)), .ref (ad E (g + 6)), .ref (ad E (g + 7)), .ref (ad E (g + 8)), .ref (ad E (g + 9)), .ref (ad E (g + 10)), .int (iI xm), .int (iI ym), .ref (ad E (g + 11)), .int (iI ne), .ref (ad E (g + 12)), .ref (ad E (g + 13))])) (c1 : w0 (g + 9) = zar E 56 xf) (c2 : w0 (g + 10) = zar E 56 yf) (bx : bd xf 56 0 9) (by1 : bd yf 56 0 9) : zM l y_M_top ws_M_top rm_M_topY E [.ref (ad E g), .int (iI 1)] w0 (zQi E w0 (fun z w' => w' = w0 ∧ (TpR yf z))) := by
  refine z_met (cc := b_M_top) (maxL := 5) (ret := (some .int)) (by decide +kernel) rfl (Nat.le_of_ble_eq_true rfl) ?_
  intro p e s m below meth cd ls a Qf hQ hC hl hH
  obtain ⟨hF, hr, hlk, hK, hG, hn⟩ := hC
  obtain ⟨hx, hb, hml, hown, hts⟩ := hF
  have hg : ∀ w ∈ GW, w.before a s = true := fun w h => hts w (List.mem_cons_of_mem _ h)
  have hA : ∀ q, s.heap.size ≤ q → va_A (wl E w0) s.heap.size q := fun q h => Or.inr h
  have hl : lv_has ls 5 [(0, .ref (ad E g)), (1, .int (iI 1))] := hl
  refine zv_iconst hx hb d_M_top_0 ?_
  refine lv_istore_n (lv' := [(2, .int (iI (-1))), (0, .ref (ad E g)), (1, .int (iI 1))]) hx hb d_M_top_1 rfl hl (by decide) rfl (fun ls hl => ?_)
  refine zv_iconst hx hb d_M_top_2 ?_
  refine lv_istore_n (lv' := [(3, .int (iI 0)), (2, .int (iI (-1))), (0, .ref (ad E g)), (1, .int (iI 1))]) hx hb d_M_top_3 rfl hl (by decide) rfl (fun ls hl => ?_)
  have L4 : ∀ (fu : Nat) (i : Int) (t : Int) (ls : Array Slot) (H1 : Heap) (lc2 : List Loc), (lv_has ls 5 [(0, .ref (ad E g)), (1, .int (iI 1)), (2, .int (iI t)), (3, .int (iI i))]) → (zH E w0 (va_A (wl E w0) s.heap.size) s.heap H1 lc2) → (0 ≤ i ∧ i ≤ 56) → ((t = -1 ∧ ∀ j : Int, 0 ≤ j → j < i → yf j = 0) ∨ (0 ≤ t ∧ t < i ∧ yf t ≠ 0 ∧ ∀ j : Int, t < j → j < i → yf j = 0)) → (56 - i < (fu : Int)) → W p l e rm_M_topY s m a below meth cd H1 lc2 0 0 Qf (F0 m 4 ls []) := by
    intro fu
    induction fu with
    | zero => intro i t ls H1 lc2 hl hH hi ht hm; exact absurd hm (by omega)
    | succ fu ih =>
      intro i t ls H1 lc2 hl hH hi ht hm
      refine lv_iload_n hx hb d_M_top_4 rfl (lv_at hl 3 rfl) ?_
      refine zv_bipush hx hb d_M_top_5 rfl ?_
      refine zv_icmp_ge (tgt := 48) hx hb d_M_top_7 rfl (by omega) (by omega) (fun h3 => ?_) (fun h3 => ?_)
      · refine lv_iload_n hx hb d_M_top_48 rfl (lv_at hl 2 rfl) ?_
        have i9 : i = 56 := by omega
        subst i9
        rw [hQ]
        exact z_iret hx hb hr hlk hH (⟨rfl, by rcases ht with h8 | h8; exact Or.inl ⟨h8.1, Vt_zero (by decide) h8.2⟩; exact Or.inr ⟨h8.1, h8.2.1, tw_V by1 ⟨h8.1, h8.2.1⟩ h8.2.2.1 h8.2.2.2⟩⟩) d_M_top_49
      · refine lv_iload_n hx hb d_M_top_10 rfl (lv_at hl 1 rfl) ?_
        refine zv_if_eq (tgt := 23) hx hb d_M_top_11 rfl (by omega) (fun h4 => absurd h4 (by omega)) (fun h4 => ?_)
        refine lv_aload_n hx hb d_M_top_14 rfl (lv_at hl 0 rfl) ?_
        refine zv_get (C := "ScaledNumeralDeskModel") (T := TM) (N := 17) hx hb hg uM_in hown hK hH q0lt c0 rfl 10 (by decide) (hg _ wm_692) (fun _ h9 => h9) rfl d_M_top_15 ?_
        refine lv_iload_n hx hb d_M_top_18 rfl (lv_at hl 3 rfl) ?_
        refine zv_iald hx hb hK hH q2lt c2 (by omega) (by omega) (by omega) d_M_top_19 ?_
        have b5 := by1 i (by omega) (by omega)
        refine lv_goto (tgt := 29) hx hb d_M_top_20 rfl ?_
        have L41 : ∀ (t2 : Int) (ls : Array Slot) (H6 : Heap) (lc7 : List Loc), (lv_has ls 5 [(0, .ref (ad E g)), (1, .int (iI 1)), (2, .int (iI t)), (3, .int (iI i))]) → (zH E w0 (va_A (wl E w0) s.heap.size) s.heap H6 lc7) → ((t2 = -1 ∧ ∀ j : Int, 0 ≤ j → j < i + 1 → yf j = 0) ∨ (0 ≤ t2 ∧ t2 < i + 1 ∧ yf t2 ≠ 0 ∧ ∀ j : Int, t2 < j → j < i + 1 → yf j = 0)) → (zr t2) → W p l e rm_M_topY s m a below meth cd H6 lc7 0 0 Qf (F0 m 41 ls [.int (iI t2)]) := by
          intro t2 ls H6 lc7 hl hH ht2 hw
          refine lv_istore_n (lv' := [(2, .int (iI t2)), (0, .ref (ad E g)), (1, .int (iI 1)), (3, .int (iI i))]) hx hb d_M_top_41 rfl hl (by decide) rfl (fun ls hl => ?_)
          refine zv_iinc (k := 3) (lv' := [(3, .int (iI (i + 1))), (2, .int (iI t2)), (0, .ref (ad E g)), (1, .int (iI 1))]) hx hb d_M_top_42 hl rfl (by decide) rfl (fun ls hl => ?_)
          refine lv_goto (tgt := 4) hx hb d_M_top_45 rfl ?_
          exact ih  (i + 1) t2 _ H6 lc7 (lv_sub hl [2, 3, 1, 0] rfl) hH (by omega) (by exact ht2) (by omega)
        refine lv_istore (lv' := [(4, .int (iI (yf i))), (0, .ref (ad E g)), (1, .int (iI 1)), (2, .int (iI t)), (3, .int (iI i))]) hx hb d_M_top_29 hl (by decide) rfl (fun ls hl => ?_)
        refine lv_iload hx hb d_M_top_31 (lv_at hl 0 rfl) ?_
        refine zv_if_eq (tgt := 40) hx hb d_M_top_33 rfl (by omega) (fun h8 => ?_) (fun h8 => ?_)
        · refine lv_iload_n hx hb d_M_top_40 rfl (lv_at hl 3 rfl) ?_
          exact L41 t _ H1 lc2 (lv_sub hl [1, 2, 3, 4] rfl) hH (by first | exact Or.inr ⟨by omega, by omega, by assumption, fun j g1 g2 => by omega⟩ | (rcases ht with h8 | h8; exact Or.inl ⟨h8.1, fun j g1 g2 => by by_cases e8 : j = i; rw [e8]; omega; exact h8.2 j g1 (by omega)⟩; exact Or.inr ⟨h8.1, by omega, h8.2.2.1, fun j g1 g2 => by by_cases e8 : j = i; rw [e8]; omega; exact h8.2.2.2 j g1 (by omega)⟩)) (by omega)
        · refine lv_iload_n hx hb d_M_top_36 rfl (lv_at hl 4 rfl) ?_
          refine lv_goto (tgt := 41) hx hb d_M_top_37 rfl ?_
          exact L41 i _ H1 lc2 (lv_sub hl [1, 2, 3, 4] rfl) hH (by first | exact Or.inr ⟨by omega, by omega, by assumption, fun j g1 g2 => by omega⟩ | (rcases ht with h8 | h8; exact Or.inl ⟨h8.1, fun j g1 g2 => by by_cases e8 : j = i; rw [e8]; omega; exact h8.2 j g1 (by omega)⟩; exact Or.inr ⟨h8.1, by omega, h8.2.2.1, fun j g1 g2 => by by_cases e8 : j = i; rw [e8]; omega; exact h8.2.2.2 j g1 (by omega)⟩)) (by omega)
  exact L4 ((56 - 0 : Int).toNat + 1) 0 (-1) _ s.heap ([]) (lv_sub hl [2, 3, 1, 0] rfl) hH (by omega) (by exact Or.inl ⟨rfl, fun j g1 g2 => by omega⟩) (by omega)
def rm_M_weightX : Room := { frames := 1, cells := 0, slots := 0, locals := 24 }
set_option maxHeartbeats 4000000 in
set_option maxRecDepth 100000 in
theorem c_M_weightX (l : Launch) (E : zE) (w0 : zW) (g : Nat) (ty xm ym ne : Int) (xf yf : Int → Int) (q0lt : g < zn E) (q1lt : g + 9 < zn E) (q2lt : g + 10 < zn E) (c0 : w0 g = .inr (6, [.ref (ad E (g + 1)), .ref (ad E (g + 2)), .ref (ad E (g + 3)), .ref (ad E (g + 4)), .int (iI ty), .ref (ad E (g + 5)), .ref (ad E (g + 6)), .ref (ad E (g + 7)), .ref (ad E (g + 8)), .ref (ad E (g + 9)), .ref (ad E (g + 10)), .int (iI xm), .int (iI ym), .ref (ad E (g + 11)), .int (iI ne), .ref (ad E (g + 12)), .ref (ad E (g + 13))])) (c1 : w0 (g + 9) = zar E 56 xf) (c2 : w0 (g + 10) = zar E 56 yf) (bx : bd xf 56 0 9) (by1 : bd yf 56 0 9) : zM l y_M_weight ws_M_weight rm_M_weightX E [.ref (ad E g), .int (iI 0)] w0 (zQi E w0 (fun z w' => w' = w0 ∧ (Wt (Vt xf 56) z))) := by
  refine z_met (cc := b_M_weight) (maxL := 3) (ret := (some .int)) (by decide +kernel) rfl (Nat.le_of_ble_eq_true rfl) ?_
  intro p e s m below meth cd ls a Qf hQ hC hl hH
  obtain ⟨hF, hr, hlk, hK, hG, hn⟩ := hC
  obtain ⟨hx, hb, hml, hown, hts⟩ := hF
  have hg : ∀ w ∈ GW, w.before a s = true := fun w h => hts w (List.mem_cons_of_mem _ h)
  have hA : ∀ q, s.heap.size ≤ q → va_A (wl E w0) s.heap.size q := fun q h => Or.inr h
  have hl : lv_has ls 3 [(0, .ref (ad E g)), (1, .int (iI 0))] := hl
  refine lv_aload_n hx hb d_M_weight_0 rfl (lv_at hl 0 rfl) ?_
  refine lv_iload_n hx hb d_M_weight_1 rfl (lv_at hl 1 rfl) ?_
  refine z_calli (va_runV (As := [.int (iI 0)]) (rest := []) ⟨hx, hb, hml, hown, hts⟩ (c_M_topX (l := l) (E := E) (w0 := w0) (g := g) (ty := ty) (xm := xm) (ym := ym) (ne := ne) (xf := xf) (yf := yf) (q0lt := q0lt) (q1lt := q1lt) (q2lt := q2lt) (c0 := c0) (c1 := c1) (c2 := c2) (bx := bx) (by1 := by1) s.heap.size) (z_cwV (C := "ScaledNumeralDeskModel") 1 hg wm_863 wm_860 wm_9 wm_862 wm_s54 (by decide +kernel) ⟨Nat.le_of_ble_eq_true rfl, Nat.le_of_ble_eq_true rfl⟩) (z_preV (r := ("ScaledNumeralDeskModel", TM, 17)) hK hG hn hH hA q0lt c0 rfl) rfl rfl hl.1 rfl (lv_room (Nat.le_of_ble_eq_true rfl)) d_M_weight_2 ⟨Nat.zero_le _, Nat.zero_le _⟩) hH hA (fun t w3 H1 lc2 hH4 p2 => ?_)
  obtain ⟨ew5, p2⟩ := p2
  rw [ew5] at hH4
  replace p2 : TpR xf t := p2
  have tr : -1 ≤ t ∧ t < 56 := by unfold TpR at p2; omega
  refine lv_istore_n (lv' := [(2, .int (iI t)), (0, .ref (ad E g)), (1, .int (iI 0))]) hx hb d_M_weight_5 rfl hl (by decide) rfl (fun ls hl => ?_)
  refine lv_iload_n hx hb d_M_weight_6 rfl (lv_at hl 0 rfl) ?_
  refine zv_if_ge (tgt := 14) hx hb d_M_weight_7 rfl (by omega) (fun h6 => ?_) (fun h6 => ?_)
  · refine lv_iload_n hx hb d_M_weight_14 rfl (lv_at hl 0 rfl) ?_
    refine zv_iconst hx hb d_M_weight_15 ?_
    refine zv_idiv hx hb (by omega) (by omega) (by omega) (by omega) d_M_weight_16 ?_
    refine zv_bipush hx hb d_M_weight_17 rfl ?_
    refine zv_isub hx hb d_M_weight_19 ?_
    rw [hQ]
    exact z_iret hx hb hr hlk hH4 (⟨rfl, wt_of p2 (by omega)⟩) d_M_weight_20
  · refine zv_iconst hx hb d_M_weight_10 ?_
    refine lv_goto (tgt := 20) hx hb d_M_weight_11 rfl ?_
    rw [hQ]
    exact z_iret hx hb hr hlk hH4 (⟨rfl, by unfold TpR at p2; exact Or.inl ⟨rfl, by omega⟩⟩) d_M_weight_20
def rm_M_weightY : Room := { frames := 1, cells := 0, slots := 0, locals := 24 }
set_option maxHeartbeats 4000000 in
set_option maxRecDepth 100000 in
theorem c_M_weightY (l : Launch) (E : zE) (w0 : zW) (g : Nat) (ty xm ym ne : Int) (xf yf : Int → Int) (q0lt : g < zn E) (q1lt : g + 9 < zn E) (q2lt : g + 10 < zn E) (c0 : w0 g = .inr (6, [.ref (ad E (g + 1)), .ref (ad E (g + 2)), .ref (ad E (g + 3)), .ref (ad E (g + 4)), .int (iI ty), .ref (ad E (g + 5)), .ref (ad E (g + 6)), .ref (ad E (g + 7)), .ref (ad E (g + 8)), .ref (ad E (g + 9)), .ref (ad E (g + 10)), .int (iI xm), .int (iI ym), .ref (ad E (g + 11)), .int (iI ne), .ref (ad E (g + 12)), .ref (ad E (g + 13))])) (c1 : w0 (g + 9) = zar E 56 xf) (c2 : w0 (g + 10) = zar E 56 yf) (bx : bd xf 56 0 9) (by1 : bd yf 56 0 9) : zM l y_M_weight ws_M_weight rm_M_weightY E [.ref (ad E g), .int (iI 1)] w0 (zQi E w0 (fun z w' => w' = w0 ∧ (Wt (Vt yf 56) z))) := by
  refine z_met (cc := b_M_weight) (maxL := 3) (ret := (some .int)) (by decide +kernel) rfl (Nat.le_of_ble_eq_true rfl) ?_
  intro p e s m below meth cd ls a Qf hQ hC hl hH
  obtain ⟨hF, hr, hlk, hK, hG, hn⟩ := hC
  obtain ⟨hx, hb, hml, hown, hts⟩ := hF
  have hg : ∀ w ∈ GW, w.before a s = true := fun w h => hts w (List.mem_cons_of_mem _ h)
  have hA : ∀ q, s.heap.size ≤ q → va_A (wl E w0) s.heap.size q := fun q h => Or.inr h
  have hl : lv_has ls 3 [(0, .ref (ad E g)), (1, .int (iI 1))] := hl
  refine lv_aload_n hx hb d_M_weight_0 rfl (lv_at hl 0 rfl) ?_
  refine lv_iload_n hx hb d_M_weight_1 rfl (lv_at hl 1 rfl) ?_
  refine z_calli (va_runV (As := [.int (iI 1)]) (rest := []) ⟨hx, hb, hml, hown, hts⟩ (c_M_topY (l := l) (E := E) (w0 := w0) (g := g) (ty := ty) (xm := xm) (ym := ym) (ne := ne) (xf := xf) (yf := yf) (q0lt := q0lt) (q1lt := q1lt) (q2lt := q2lt) (c0 := c0) (c1 := c1) (c2 := c2) (bx := bx) (by1 := by1) s.heap.size) (z_cwV (C := "ScaledNumeralDeskModel") 1 hg wm_863 wm_860 wm_9 wm_862 wm_s54 (by decide +kernel) ⟨Nat.le_of_ble_eq_true rfl, Nat.le_of_ble_eq_true rfl⟩) (z_preV (r := ("ScaledNumeralDeskModel", TM, 17)) hK hG hn hH hA q0lt c0 rfl) rfl rfl hl.1 rfl (lv_room (Nat.le_of_ble_eq_true rfl)) d_M_weight_2 ⟨Nat.zero_le _, Nat.zero_le _⟩) hH hA (fun t w3 H1 lc2 hH4 p2 => ?_)
  obtain ⟨ew5, p2⟩ := p2
  rw [ew5] at hH4
  replace p2 : TpR yf t := p2
  have tr : -1 ≤ t ∧ t < 56 := by unfold TpR at p2; omega
  refine lv_istore_n (lv' := [(2, .int (iI t)), (0, .ref (ad E g)), (1, .int (iI 1))]) hx hb d_M_weight_5 rfl hl (by decide) rfl (fun ls hl => ?_)
  refine lv_iload_n hx hb d_M_weight_6 rfl (lv_at hl 0 rfl) ?_
  refine zv_if_ge (tgt := 14) hx hb d_M_weight_7 rfl (by omega) (fun h6 => ?_) (fun h6 => ?_)
  · refine lv_iload_n hx hb d_M_weight_14 rfl (lv_at hl 0 rfl) ?_
    refine zv_iconst hx hb d_M_weight_15 ?_
    refine zv_idiv hx hb (by omega) (by omega) (by omega) (by omega) d_M_weight_16 ?_
    refine zv_bipush hx hb d_M_weight_17 rfl ?_
    refine zv_isub hx hb d_M_weight_19 ?_
    rw [hQ]
    exact z_iret hx hb hr hlk hH4 (⟨rfl, wt_of p2 (by omega)⟩) d_M_weight_20
  · refine zv_iconst hx hb d_M_weight_10 ?_
    refine lv_goto (tgt := 20) hx hb d_M_weight_11 rfl ?_
    rw [hQ]
    exact z_iret hx hb hr hlk hH4 (⟨rfl, by unfold TpR at p2; exact Or.inl ⟨rfl, by omega⟩⟩) d_M_weight_20
def rm_M_leadX : Room := { frames := 1, cells := 0, slots := 0, locals := 24 }
set_option maxHeartbeats 4000000 in
set_option maxRecDepth 100000 in
theorem c_M_leadX (l : Launch) (E : zE) (w0 : zW) (g : Nat) (ty xm ym ne : Int) (xf yf : Int → Int) (q0lt : g < zn E) (q1lt : g + 9 < zn E) (q2lt : g + 10 < zn E) (c0 : w0 g = .inr (6, [.ref (ad E (g + 1)), .ref (ad E (g + 2)), .ref (ad E (g + 3)), .ref (ad E (g + 4)), .int (iI ty), .ref (ad E (g + 5)), .ref (ad E (g + 6)), .ref (ad E (g + 7)), .ref (ad E (g + 8)), .ref (ad E (g + 9)), .ref (ad E (g + 10)), .int (iI xm), .int (iI ym), .ref (ad E (g + 11)), .int (iI ne), .ref (ad E (g + 12)), .ref (ad E (g + 13))])) (c1 : w0 (g + 9) = zar E 56 xf) (c2 : w0 (g + 10) = zar E 56 yf) (bx : bd xf 56 0 9) (by1 : bd yf 56 0 9) : zM l y_M_lead ws_M_lead rm_M_leadX E [.ref (ad E g), .int (iI 0)] w0 (zQi E w0 (fun z w' => w' = w0 ∧ (Ld (Vt xf 56) z ∧ 0 ≤ z ∧ z ≤ 9999))) := by
  refine z_met (cc := b_M_lead) (maxL := 5) (ret := (some .int)) (by decide +kernel) rfl (Nat.le_of_ble_eq_true rfl) ?_
  intro p e s m below meth cd ls a Qf hQ hC hl hH
  obtain ⟨hF, hr, hlk, hK, hG, hn⟩ := hC
  obtain ⟨hx, hb, hml, hown, hts⟩ := hF
  have hg : ∀ w ∈ GW, w.before a s = true := fun w h => hts w (List.mem_cons_of_mem _ h)
  have hA : ∀ q, s.heap.size ≤ q → va_A (wl E w0) s.heap.size q := fun q h => Or.inr h
  have hl : lv_has ls 5 [(0, .ref (ad E g)), (1, .int (iI 0))] := hl
  refine lv_aload_n hx hb d_M_lead_0 rfl (lv_at hl 0 rfl) ?_
  refine lv_iload_n hx hb d_M_lead_1 rfl (lv_at hl 1 rfl) ?_
  refine z_calli (va_runV (As := [.int (iI 0)]) (rest := []) ⟨hx, hb, hml, hown, hts⟩ (c_M_topX (l := l) (E := E) (w0 := w0) (g := g) (ty := ty) (xm := xm) (ym := ym) (ne := ne) (xf := xf) (yf := yf) (q0lt := q0lt) (q1lt := q1lt) (q2lt := q2lt) (c0 := c0) (c1 := c1) (c2 := c2) (bx := bx) (by1 := by1) s.heap.size) (z_cwV (C := "ScaledNumeralDeskModel") 1 hg wm_863 wm_860 wm_9 wm_862 wm_s54 (by decide +kernel) ⟨Nat.le_of_ble_eq_true rfl, Nat.le_of_ble_eq_true rfl⟩) (z_preV (r := ("ScaledNumeralDeskModel", TM, 17)) hK hG hn hH hA q0lt c0 rfl) rfl rfl hl.1 rfl (lv_room (Nat.le_of_ble_eq_true rfl)) d_M_lead_2 ⟨Nat.zero_le _, Nat.zero_le _⟩) hH hA (fun t w3 H1 lc2 hH4 p2 => ?_)
  obtain ⟨ew5, p2⟩ := p2
  rw [ew5] at hH4
  replace p2 : TpR xf t := p2
  have tr : -1 ≤ t ∧ t < 56 := by unfold TpR at p2; omega
  refine lv_istore_n (lv' := [(2, .int (iI t)), (0, .ref (ad E g)), (1, .int (iI 0))]) hx hb d_M_lead_5 rfl hl (by decide) rfl (fun ls hl => ?_)
  refine zv_iconst hx hb d_M_lead_6 ?_
  refine lv_istore_n (lv' := [(3, .int (iI 0)), (2, .int (iI t)), (0, .ref (ad E g)), (1, .int (iI 0))]) hx hb d_M_lead_7 rfl hl (by decide) rfl (fun ls hl => ?_)
  refine lv_iload_n hx hb d_M_lead_8 rfl (lv_at hl 1 rfl) ?_
  refine lv_istore (lv' := [(4, .int (iI t)), (3, .int (iI 0)), (2, .int (iI t)), (0, .ref (ad E g)), (1, .int (iI 0))]) hx hb d_M_lead_9 hl (by decide) rfl (fun ls hl => ?_)
  have L11 : ∀ (fu : Nat) (i : Int) (v : Int) (ls : Array Slot) (H6 : Heap) (lc7 : List Loc), (lv_has ls 5 [(4, .int (iI i)), (3, .int (iI v)), (2, .int (iI t)), (0, .ref (ad E g)), (1, .int (iI 0))]) → (zH E w0 (va_A (wl E w0) s.heap.size) s.heap H6 lc7) → (i ≤ t ∧ -1 ≤ i ∧ (0 ≤ t → t / 4 * 4 - 1 ≤ i)) → (v = Vt xf 56 / Tp (i + 1)) → (0 ≤ v ∧ v < 10000) → (i + 1 < (fu : Int)) → W p l e rm_M_leadX s m a below meth cd H6 lc7 0 0 Qf (F0 m 11 ls []) := by
    intro fu
    induction fu with
    | zero => intro i v ls H6 lc7 hl hH hi hv hv2 hm; exact absurd hm (by omega)
    | succ fu ih =>
      intro i v ls H6 lc7 hl hH hi hv hv2 hm
      refine lv_iload hx hb d_M_lead_11 (lv_at hl 0 rfl) ?_
      refine zv_if_lt (tgt := 59) hx hb d_M_lead_13 rfl (by omega) (fun h8 => ?_) (fun h8 => ?_)
      · refine lv_iload_n hx hb d_M_lead_59 rfl (lv_at hl 1 rfl) ?_
        rw [hQ]
        exact z_iret hx hb hr hlk hH (⟨rfl, by
            by_cases t0 : 0 ≤ t
            · have e8 : i + 1 = t / 4 * 4 := by have := hi.2.2 t0; omega
              rw [e8] at hv
              exact ⟨ld_of p2 t0 hv, by omega, by omega⟩
            · have v0 : Vt xf 56 = 0 := by unfold TpR at p2; omega
              rw [v0, Int.zero_ediv] at hv
              exact ⟨Or.inl ⟨hv, v0⟩, by omega, by omega⟩⟩) d_M_lead_60
      · refine lv_iload hx hb d_M_lead_16 (lv_at hl 0 rfl) ?_
        refine lv_iload_n hx hb d_M_lead_18 rfl (lv_at hl 2 rfl) ?_
        refine zv_iconst hx hb d_M_lead_19 ?_
        refine zv_idiv hx hb (by omega) (by omega) (by omega) (by omega) d_M_lead_20 ?_
        refine zv_iconst hx hb d_M_lead_21 ?_
        refine zv_imul hx hb d_M_lead_22 ?_
        refine zv_icmp_lt (tgt := 59) hx hb d_M_lead_23 rfl (by omega) (by omega) (fun h9 => ?_) (fun h9 => ?_)
        · refine lv_iload_n hx hb d_M_lead_59 rfl (lv_at hl 1 rfl) ?_
          rw [hQ]
          exact z_iret hx hb hr hlk hH (⟨rfl, by
              by_cases t0 : 0 ≤ t
              · have e8 : i + 1 = t / 4 * 4 := by have := hi.2.2 t0; omega
                rw [e8] at hv
                exact ⟨ld_of p2 t0 hv, by omega, by omega⟩
              · have v0 : Vt xf 56 = 0 := by unfold TpR at p2; omega
                rw [v0, Int.zero_ediv] at hv
                exact ⟨Or.inl ⟨hv, v0⟩, by omega, by omega⟩⟩) d_M_lead_60
        · refine zv_bipush hx hb d_M_lead_26 rfl ?_
          refine lv_iload_n hx hb d_M_lead_28 rfl (lv_at hl 1 rfl) ?_
          refine zv_imul hx hb d_M_lead_29 ?_
          refine lv_iload_n hx hb d_M_lead_30 rfl (lv_at hl 4 rfl) ?_
          refine zv_if_eq (tgt := 44) hx hb d_M_lead_31 rfl (by omega) (fun h10 => ?_) (fun h10 => absurd h10 (by omega))
          refine lv_aload_n hx hb d_M_lead_44 rfl (lv_at hl 3 rfl) ?_
          refine zv_get (C := "ScaledNumeralDeskModel") (T := TM) (N := 17) hx hb hg uM_in hown hK hH q0lt c0 rfl 9 (by decide) (hg _ wm_691) (fun _ h9 => h9) rfl d_M_lead_45 ?_
          refine lv_iload hx hb d_M_lead_48 (lv_at hl 0 rfl) ?_
          refine zv_iald hx hb hK hH q1lt c1 (by omega) (by omega) (by omega) d_M_lead_50 ?_
          have b11 := bx i (by omega) (by omega)
          refine zv_iadd hx hb d_M_lead_51 ?_
          refine lv_istore_n (lv' := [(3, .int (iI ((10 * v) + (xf i)))), (4, .int (iI i)), (2, .int (iI t)), (0, .ref (ad E g)), (1, .int (iI 0))]) hx hb d_M_lead_52 rfl hl (by decide) rfl (fun ls hl => ?_)
          refine zv_iinc (k := 1) (lv' := [(4, .int (iI (i + (-1)))), (3, .int (iI ((10 * v) + (xf i)))), (2, .int (iI t)), (0, .ref (ad E g)), (1, .int (iI 0))]) hx hb d_M_lead_53 hl rfl (by decide) rfl (fun ls hl => ?_)
          refine lv_goto (tgt := 11) hx hb d_M_lead_56 rfl ?_
          have ls9 := ld_step bx ⟨by omega, by omega⟩ hv
          have li9 := ld_in (i := i - 1) bx t p2 (by omega) (by omega) (by omega) (by omega)
          rw [show i - 1 + 1 = i by omega, ← ls9] at li9
          exact ih  (i + (-1)) ((10 * v) + (xf i)) _ H6 lc7 (lv_sub hl [0, 1, 2, 3, 4] rfl) hH (by omega) (by rw [show i + (-1) + 1 = i by omega]; exact ls9) (by omega) (by omega)
  exact L11 ((t + 1 : Int).toNat + 1) t 0 _ H1 lc2 (lv_sub hl [0, 1, 2, 3, 4] rfl) hH4 (by exact ⟨Int.le_refl _, by omega, fun _ => by omega⟩) (by unfold TpR at p2; have := Vt_in bx (show (0 : Int) ≤ 56 by decide) (Int.le_refl 56); exact (Int.ediv_eq_zero_of_lt this.1 (by rcases p2 with h8 | h8; rw [h8.2]; exact Tp_pos _; exact h8.2.2.2)).symm) (by omega) (by omega)
def rm_M_leadY : Room := { frames := 1, cells := 0, slots := 0, locals := 24 }
set_option maxHeartbeats 4000000 in
set_option maxRecDepth 100000 in
theorem c_M_leadY (l : Launch) (E : zE) (w0 : zW) (g : Nat) (ty xm ym ne : Int) (xf yf : Int → Int) (q0lt : g < zn E) (q1lt : g + 9 < zn E) (q2lt : g + 10 < zn E) (c0 : w0 g = .inr (6, [.ref (ad E (g + 1)), .ref (ad E (g + 2)), .ref (ad E (g + 3)), .ref (ad E (g + 4)), .int (iI ty), .ref (ad E (g + 5)), .ref (ad E (g + 6)), .ref (ad E (g + 7)), .ref (ad E (g + 8)), .ref (ad E (g + 9)), .ref (ad E (g + 10)), .int (iI xm), .int (iI ym), .ref (ad E (g + 11)), .int (iI ne), .ref (ad E (g + 12)), .ref (ad E (g + 13))])) (c1 : w0 (g + 9) = zar E 56 xf) (c2 : w0 (g + 10) = zar E 56 yf) (bx : bd xf 56 0 9) (by1 : bd yf 56 0 9) : zM l y_M_lead ws_M_lead rm_M_leadY E [.ref (ad E g), .int (iI 1)] w0 (zQi E w0 (fun z w' => w' = w0 ∧ (Ld (Vt yf 56) z ∧ 0 ≤ z ∧ z ≤ 9999))) := by
  refine z_met (cc := b_M_lead) (maxL := 5) (ret := (some .int)) (by decide +kernel) rfl (Nat.le_of_ble_eq_true rfl) ?_
  intro p e s m below meth cd ls a Qf hQ hC hl hH
  obtain ⟨hF, hr, hlk, hK, hG, hn⟩ := hC
  obtain ⟨hx, hb, hml, hown, hts⟩ := hF
  have hg : ∀ w ∈ GW, w.before a s = true := fun w h => hts w (List.mem_cons_of_mem _ h)
  have hA : ∀ q, s.heap.size ≤ q → va_A (wl E w0) s.heap.size q := fun q h => Or.inr h
  have hl : lv_has ls 5 [(0, .ref (ad E g)), (1, .int (iI 1))] := hl
  refine lv_aload_n hx hb d_M_lead_0 rfl (lv_at hl 0 rfl) ?_
  refine lv_iload_n hx hb d_M_lead_1 rfl (lv_at hl 1 rfl) ?_
  refine z_calli (va_runV (As := [.int (iI 1)]) (rest := []) ⟨hx, hb, hml, hown, hts⟩ (c_M_topY (l := l) (E := E) (w0 := w0) (g := g) (ty := ty) (xm := xm) (ym := ym) (ne := ne) (xf := xf) (yf := yf) (q0lt := q0lt) (q1lt := q1lt) (q2lt := q2lt) (c0 := c0) (c1 := c1) (c2 := c2) (bx := bx) (by1 := by1) s.heap.size) (z_cwV (C := "ScaledNumeralDeskModel") 1 hg wm_863 wm_860 wm_9 wm_862 wm_s54 (by decide +kernel) ⟨Nat.le_of_ble_eq_true rfl, Nat.le_of_ble_eq_true rfl⟩) (z_preV (r := ("ScaledNumeralDeskModel", TM, 17)) hK hG hn hH hA q0lt c0 rfl) rfl rfl hl.1 rfl (lv_room (Nat.le_of_ble_eq_true rfl)) d_M_lead_2 ⟨Nat.zero_le _, Nat.zero_le _⟩) hH hA (fun t w3 H1 lc2 hH4 p2 => ?_)
  obtain ⟨ew5, p2⟩ := p2
  rw [ew5] at hH4
  replace p2 : TpR yf t := p2
  have tr : -1 ≤ t ∧ t < 56 := by unfold TpR at p2; omega
  refine lv_istore_n (lv' := [(2, .int (iI t)), (0, .ref (ad E g)), (1, .int (iI 1))]) hx hb d_M_lead_5 rfl hl (by decide) rfl (fun ls hl => ?_)
  refine zv_iconst hx hb d_M_lead_6 ?_
  refine lv_istore_n (lv' := [(3, .int (iI 0)), (2, .int (iI t)), (0, .ref (ad E g)), (1, .int (iI 1))]) hx hb d_M_lead_7 rfl hl (by decide) rfl (fun ls hl => ?_)
  refine lv_iload_n hx hb d_M_lead_8 rfl (lv_at hl 1 rfl) ?_
  refine lv_istore (lv' := [(4, .int (iI t)), (3, .int (iI 0)), (2, .int (iI t)), (0, .ref (ad E g)), (1, .int (iI 1))]) hx hb d_M_lead_9 hl (by decide) rfl (fun ls hl => ?_)
  have L11 : ∀ (fu : Nat) (i : Int) (v : Int) (ls : Array Slot) (H6 : Heap) (lc7 : List Loc), (lv_has ls 5 [(4, .int (iI i)), (3, .int (iI v)), (2, .int (iI t)), (0, .ref (ad E g)), (1, .int (iI 1))]) → (zH E w0 (va_A (wl E w0) s.heap.size) s.heap H6 lc7) → (i ≤ t ∧ -1 ≤ i ∧ (0 ≤ t → t / 4 * 4 - 1 ≤ i)) → (v = Vt yf 56 / Tp (i + 1)) → (0 ≤ v ∧ v < 10000) → (i + 1 < (fu : Int)) → W p l e rm_M_leadY s m a below meth cd H6 lc7 0 0 Qf (F0 m 11 ls []) := by
    intro fu
    induction fu with
    | zero => intro i v ls H6 lc7 hl hH hi hv hv2 hm; exact absurd hm (by omega)
    | succ fu ih =>
      intro i v ls H6 lc7 hl hH hi hv hv2 hm
      refine lv_iload hx hb d_M_lead_11 (lv_at hl 0 rfl) ?_
      refine zv_if_lt (tgt := 59) hx hb d_M_lead_13 rfl (by omega) (fun h8 => ?_) (fun h8 => ?_)
      · refine lv_iload_n hx hb d_M_lead_59 rfl (lv_at hl 1 rfl) ?_
        rw [hQ]
        exact z_iret hx hb hr hlk hH (⟨rfl, by
            by_cases t0 : 0 ≤ t
            · have e8 : i + 1 = t / 4 * 4 := by have := hi.2.2 t0; omega
              rw [e8] at hv
              exact ⟨ld_of p2 t0 hv, by omega, by omega⟩
            · have v0 : Vt yf 56 = 0 := by unfold TpR at p2; omega
              rw [v0, Int.zero_ediv] at hv
              exact ⟨Or.inl ⟨hv, v0⟩, by omega, by omega⟩⟩) d_M_lead_60
      · refine lv_iload hx hb d_M_lead_16 (lv_at hl 0 rfl) ?_
        refine lv_iload_n hx hb d_M_lead_18 rfl (lv_at hl 2 rfl) ?_
        refine zv_iconst hx hb d_M_lead_19 ?_
        refine zv_idiv hx hb (by omega) (by omega) (by omega) (by omega) d_M_lead_20 ?_
        refine zv_iconst hx hb d_M_lead_21 ?_
        refine zv_imul hx hb d_M_lead_22 ?_
        refine zv_icmp_lt (tgt := 59) hx hb d_M_lead_23 rfl (by omega) (by omega) (fun h9 => ?_) (fun h9 => ?_)
        · refine lv_iload_n hx hb d_M_lead_59 rfl (lv_at hl 1 rfl) ?_
          rw [hQ]
          exact z_iret hx hb hr hlk hH (⟨rfl, by
              by_cases t0 : 0 ≤ t
              · have e8 : i + 1 = t / 4 * 4 := by have := hi.2.2 t0; omega
                rw [e8] at hv
                exact ⟨ld_of p2 t0 hv, by omega, by omega⟩
              · have v0 : Vt yf 56 = 0 := by unfold TpR at p2; omega
                rw [v0, Int.zero_ediv] at hv
                exact ⟨Or.inl ⟨hv, v0⟩, by omega, by omega⟩⟩) d_M_lead_60
        · refine zv_bipush hx hb d_M_lead_26 rfl ?_
          refine lv_iload_n hx hb d_M_lead_28 rfl (lv_at hl 1 rfl) ?_
          refine zv_imul hx hb d_M_lead_29 ?_
          refine lv_iload_n hx hb d_M_lead_30 rfl (lv_at hl 4 rfl) ?_
          refine zv_if_eq (tgt := 44) hx hb d_M_lead_31 rfl (by omega) (fun h10 => absurd h10 (by omega)) (fun h10 => ?_)
          refine lv_aload_n hx hb d_M_lead_34 rfl (lv_at hl 3 rfl) ?_
          refine zv_get (C := "ScaledNumeralDeskModel") (T := TM) (N := 17) hx hb hg uM_in hown hK hH q0lt c0 rfl 10 (by decide) (hg _ wm_692) (fun _ h9 => h9) rfl d_M_lead_35 ?_
          refine lv_iload hx hb d_M_lead_38 (lv_at hl 0 rfl) ?_
          refine zv_iald hx hb hK hH q2lt c2 (by omega) (by omega) (by omega) d_M_lead_40 ?_
          have b11 := by1 i (by omega) (by omega)
          refine lv_goto (tgt := 51) hx hb d_M_lead_41 rfl ?_
          refine zv_iadd hx hb d_M_lead_51 ?_
          refine lv_istore_n (lv' := [(3, .int (iI ((10 * v) + (yf i)))), (4, .int (iI i)), (2, .int (iI t)), (0, .ref (ad E g)), (1, .int (iI 1))]) hx hb d_M_lead_52 rfl hl (by decide) rfl (fun ls hl => ?_)
          refine zv_iinc (k := 1) (lv' := [(4, .int (iI (i + (-1)))), (3, .int (iI ((10 * v) + (yf i)))), (2, .int (iI t)), (0, .ref (ad E g)), (1, .int (iI 1))]) hx hb d_M_lead_53 hl rfl (by decide) rfl (fun ls hl => ?_)
          refine lv_goto (tgt := 11) hx hb d_M_lead_56 rfl ?_
          have ls9 := ld_step by1 ⟨by omega, by omega⟩ hv
          have li9 := ld_in (i := i - 1) by1 t p2 (by omega) (by omega) (by omega) (by omega)
          rw [show i - 1 + 1 = i by omega, ← ls9] at li9
          exact ih  (i + (-1)) ((10 * v) + (yf i)) _ H6 lc7 (lv_sub hl [0, 1, 2, 3, 4] rfl) hH (by omega) (by rw [show i + (-1) + 1 = i by omega]; exact ls9) (by omega) (by omega)
  exact L11 ((t + 1 : Int).toNat + 1) t 0 _ H1 lc2 (lv_sub hl [0, 1, 2, 3, 4] rfl) hH4 (by exact ⟨Int.le_refl _, by omega, fun _ => by omega⟩) (by unfold TpR at p2; have := Vt_in by1 (show (0 : Int) ≤ 56 by decide) (Int.le_refl 56); exact (Int.ediv_eq_zero_of_lt this.1 (by rcases p2 with h8 | h8; rw [h8.2]; exact Tp_pos _; exact h8.2.2.2)).symm) (by omega) (by omega)
def rm_M_sign : Room := { frames := 0, cells := 0, slots := 0, locals := 0 }
set_option maxHeartbeats 4000000 in
set_option maxRecDepth 100000 in
theorem c_M_sign (l : Launch) (E : zE) (w0 : zW) (g : Nat) (ty xm ym ne : Int) (kf mf G : Int → Int) (r : Int) (q0lt : g < zn E) (q1lt : g + 1 < zn E) (q2lt : g + 2 < zn E) (q3lt : g + 4 < zn E) (c0 : w0 g = .inr (6, [.ref (ad E (g + 1)), .ref (ad E (g + 2)), .ref (ad E (g + 3)), .ref (ad E (g + 4)), .int (iI ty), .ref (ad E (g + 5)), .ref (ad E (g + 6)), .ref (ad E (g + 7)), .ref (ad E (g + 8)), .ref (ad E (g + 9)), .ref (ad E (g + 10)), .int (iI xm), .int (iI ym), .ref (ad E (g + 11)), .int (iI ne), .ref (ad E (g + 12)), .ref (ad E (g + 13))])) (c1 : w0 (g + 1) = zar E 8 kf) (c2 : w0 (g + 2) = zaz E 8 mf) (c3 : w0 (g + 4) = zar E 448 G) (bk : bd kf 8 0 3) (bm : bd mf 8 0 1) (bG : bd G 448 0 9) (hr0 : 0 ≤ r ∧ r < 8) : zM l y_M_sign ws_M_sign rm_M_sign E [.ref (ad E g), .int (iI r)] w0 (zQi E w0 (fun z w' => w' = w0 ∧ ((kf r = 2 ∧ z = 1) ∨ (kf r = 3 ∧ z = -1) ∨ (kf r ≤ 1 ∧ ((z = 0 ∧ Gt G r = 0) ∨ (0 < Gt G r ∧ ((mf r = 1 ∧ z = -1) ∨ (mf r = 0 ∧ z = 1)))))))) := by
  refine z_met (cc := b_M_sign) (maxL := 4) (ret := (some .int)) (by decide +kernel) rfl (Nat.le_of_ble_eq_true rfl) ?_
  intro p e s m below meth cd ls a Qf hQ hC hl hH
  obtain ⟨hF, hr, hlk, hK, hG, hn⟩ := hC
  obtain ⟨hx, hb, hml, hown, hts⟩ := hF
  have hg : ∀ w ∈ GW, w.before a s = true := fun w h => hts w (List.mem_cons_of_mem _ h)
  have hA : ∀ q, s.heap.size ≤ q → va_A (wl E w0) s.heap.size q := fun q h => Or.inr h
  have hl : lv_has ls 4 [(0, .ref (ad E g)), (1, .int (iI r))] := hl
  have bk8 := bk r hr0.1 hr0.2
  have bm8 := bm r hr0.1 hr0.2
  refine lv_aload_n hx hb d_M_sign_0 rfl (lv_at hl 0 rfl) ?_
  refine zv_get (C := "ScaledNumeralDeskModel") (T := TM) (N := 17) hx hb hg uM_in hown hK hH q0lt c0 rfl 0 (by decide) (hg _ wm_682) (fun _ h9 => h9) rfl d_M_sign_1 ?_
  refine lv_iload_n hx hb d_M_sign_4 rfl (lv_at hl 1 rfl) ?_
  refine zv_iald hx hb hK hH q1lt c1 (by omega) (by omega) (by omega) d_M_sign_5 ?_
  have b1 := bk r (by omega) (by omega)
  refine zv_iconst hx hb d_M_sign_6 ?_
  refine zv_icmp_le (tgt := 26) hx hb d_M_sign_7 rfl (by omega) (by omega) (fun h2 => ?_) (fun h2 => ?_)
  · refine zv_iconst hx hb d_M_sign_26 ?_
    refine lv_istore_n (lv' := [(2, .int (iI 0)), (0, .ref (ad E g)), (1, .int (iI r))]) hx hb d_M_sign_27 rfl hl (by decide) rfl (fun ls hl => ?_)
    refine zv_iconst hx hb d_M_sign_28 ?_
    refine lv_istore_n (lv' := [(3, .int (iI 0)), (2, .int (iI 0)), (0, .ref (ad E g)), (1, .int (iI r))]) hx hb d_M_sign_29 rfl hl (by decide) rfl (fun ls hl => ?_)
    have L30 : ∀ (fu : Nat) (i : Int) (n : Int) (ls : Array Slot) (H3 : Heap) (lc4 : List Loc), (lv_has ls 4 [(3, .int (iI i)), (2, .int (iI n)), (0, .ref (ad E g)), (1, .int (iI r))]) → (zH E w0 (va_A (wl E w0) s.heap.size) s.heap H3 lc4) → (0 ≤ i ∧ i ≤ 56) → ((n = 0 ∧ ∀ j : Int, 0 ≤ j → j < i → G (56 * r + j) = 0) ∨ (n = 1 ∧ 0 < Gt G r)) → (56 - i < (fu : Int)) → W p l e rm_M_sign s m a below meth cd H3 lc4 0 0 Qf (F0 m 30 ls []) := by
      intro fu
      induction fu with
      | zero => intro i n ls H3 lc4 hl hH hi hn9 hm; exact absurd hm (by omega)
      | succ fu ih =>
        intro i n ls H3 lc4 hl hH hi hn9 hm
        refine lv_iload_n hx hb d_M_sign_30 rfl (lv_at hl 0 rfl) ?_
        refine zv_bipush hx hb d_M_sign_31 rfl ?_
        refine zv_icmp_ge (tgt := 62) hx hb d_M_sign_33 rfl (by omega) (by omega) (fun h5 => ?_) (fun h5 => ?_)
        · refine lv_aload_n hx hb d_M_sign_62 rfl (lv_at hl 2 rfl) ?_
          refine zv_get (C := "ScaledNumeralDeskModel") (T := TM) (N := 17) hx hb hg uM_in hown hK hH q0lt c0 rfl 1 (by decide) (hg _ wm_683) (fun _ h9 => h9) rfl d_M_sign_63 ?_
          refine lv_iload_n hx hb d_M_sign_66 rfl (lv_at hl 3 rfl) ?_
          refine zv_zald hx hb hK hH q2lt c2 (by omega) (by omega) (by omega) d_M_sign_67 ?_
          have b6 := bm r (by omega) (by omega)
          refine zv_if_eq (tgt := 76) hx hb d_M_sign_68 rfl (by omega) (fun h7 => ?_) (fun h7 => ?_)
          · refine lv_iload_n hx hb d_M_sign_76 rfl (lv_at hl 1 rfl) ?_
            rw [hQ]
            exact z_iret hx hb hr hlk hH (⟨rfl, Or.inr (Or.inr ⟨by omega, by rcases hn9 with h8 | h8; exact Or.inl ⟨by omega, Vt_zero (by decide) (fun j g1 g2 => h8.2 j g1 (by omega))⟩; exact Or.inr ⟨h8.2, by omega⟩⟩)⟩) d_M_sign_77
          · refine lv_iload_n hx hb d_M_sign_71 rfl (lv_at hl 1 rfl) ?_
            refine zv_ineg hx hb d_M_sign_72 ?_
            refine lv_goto (tgt := 77) hx hb d_M_sign_73 rfl ?_
            rw [hQ]
            exact z_iret hx hb hr hlk hH (⟨rfl, Or.inr (Or.inr ⟨by omega, by rcases hn9 with h8 | h8; exact Or.inl ⟨by omega, Vt_zero (by decide) (fun j g1 g2 => h8.2 j g1 (by omega))⟩; exact Or.inr ⟨h8.2, by omega⟩⟩)⟩) d_M_sign_77
        · have L55 : ∀ (n2 : Int) (ls : Array Slot) (H8 : Heap) (lc9 : List Loc), (lv_has ls 4 [(3, .int (iI i)), (2, .int (iI n)), (0, .ref (ad E g)), (1, .int (iI r))]) → (zH E w0 (va_A (wl E w0) s.heap.size) s.heap H8 lc9) → ((n2 = 0 ∧ ∀ j : Int, 0 ≤ j → j < i + 1 → G (56 * r + j) = 0) ∨ (n2 = 1 ∧ 0 < Gt G r)) → (0 ≤ n2 ∧ n2 ≤ 1) → W p l e rm_M_sign s m a below meth cd H8 lc9 0 0 Qf (F0 m 55 ls [.int (iI n2)]) := by
            intro n2 ls H8 lc9 hl hH hn8 hn7
            refine lv_istore_n (lv' := [(2, .int (iI n2)), (3, .int (iI i)), (0, .ref (ad E g)), (1, .int (iI r))]) hx hb d_M_sign_55 rfl hl (by decide) rfl (fun ls hl => ?_)
            refine zv_iinc (k := 1) (lv' := [(3, .int (iI (i + 1))), (2, .int (iI n2)), (0, .ref (ad E g)), (1, .int (iI r))]) hx hb d_M_sign_56 hl rfl (by decide) rfl (fun ls hl => ?_)
            refine lv_goto (tgt := 30) hx hb d_M_sign_59 rfl ?_
            exact ih  (i + 1) n2 _ H8 lc9 (lv_sub hl [0, 1, 2, 3] rfl) hH (by omega) (by exact hn8) (by omega)
          refine lv_aload_n hx hb d_M_sign_36 rfl (lv_at hl 2 rfl) ?_
          refine zv_get (C := "ScaledNumeralDeskModel") (T := TM) (N := 17) hx hb hg uM_in hown hK hH q0lt c0 rfl 3 (by decide) (hg _ wm_685) (fun _ h9 => h9) rfl d_M_sign_37 ?_
          refine zv_bipush hx hb d_M_sign_40 rfl ?_
          refine lv_iload_n hx hb d_M_sign_42 rfl (lv_at hl 3 rfl) ?_
          refine zv_imul hx hb d_M_sign_43 ?_
          refine lv_iload_n hx hb d_M_sign_44 rfl (lv_at hl 0 rfl) ?_
          refine zv_iadd hx hb d_M_sign_45 ?_
          refine zv_iald hx hb hK hH q3lt c3 (by omega) (by omega) (by omega) d_M_sign_46 ?_
          have b10 := bG ((56 * r) + i) (by omega) (by omega)
          refine zv_if_eq (tgt := 54) hx hb d_M_sign_47 rfl (by omega) (fun h11 => ?_) (fun h11 => ?_)
          · refine lv_iload_n hx hb d_M_sign_54 rfl (lv_at hl 1 rfl) ?_
            exact L55 n _ H3 lc4 (lv_sub hl [0, 1, 2, 3] rfl) hH (by first | exact Or.inr ⟨rfl, Vt_pos (g_bd bG hr0) hi.1 (by omega) (by assumption)⟩ | (rcases hn9 with h8 | h8; exact Or.inl ⟨h8.1, fun j g1 g2 => by by_cases e8 : j = i; rw [e8]; omega; exact h8.2 j g1 (by omega)⟩; exact Or.inr h8)) (by omega)
          · refine zv_iconst hx hb d_M_sign_50 ?_
            refine lv_goto (tgt := 55) hx hb d_M_sign_51 rfl ?_
            exact L55 1 _ H3 lc4 (lv_sub hl [0, 1, 2, 3] rfl) hH (by first | exact Or.inr ⟨rfl, Vt_pos (g_bd bG hr0) hi.1 (by omega) (by assumption)⟩ | (rcases hn9 with h8 | h8; exact Or.inl ⟨h8.1, fun j g1 g2 => by by_cases e8 : j = i; rw [e8]; omega; exact h8.2 j g1 (by omega)⟩; exact Or.inr h8)) (by omega)
    exact L30 ((56 - 0 : Int).toNat + 1) 0 0 _ s.heap ([]) (lv_sub hl [0, 1, 2, 3] rfl) hH (by omega) (by exact Or.inl ⟨rfl, fun j g1 g2 => by omega⟩) (by omega)
  · refine lv_aload_n hx hb d_M_sign_10 rfl (lv_at hl 0 rfl) ?_
    refine zv_get (C := "ScaledNumeralDeskModel") (T := TM) (N := 17) hx hb hg uM_in hown hK hH q0lt c0 rfl 0 (by decide) (hg _ wm_682) (fun _ h9 => h9) rfl d_M_sign_11 ?_
    refine lv_iload_n hx hb d_M_sign_14 rfl (lv_at hl 1 rfl) ?_
    refine zv_iald hx hb hK hH q1lt c1 (by omega) (by omega) (by omega) d_M_sign_15 ?_
    have b12 := bk r (by omega) (by omega)
    refine zv_iconst hx hb d_M_sign_16 ?_
    refine zv_icmp_ne (tgt := 24) hx hb d_M_sign_17 rfl (by omega) (by omega) (fun h13 => ?_) (fun h13 => ?_)
    · refine zv_iconst hx hb d_M_sign_24 ?_
      rw [hQ]
      exact z_iret hx hb hr hlk hH (⟨rfl, Or.inr (Or.inl ⟨by omega, rfl⟩)⟩) d_M_sign_25
    · refine zv_iconst hx hb d_M_sign_20 ?_
      refine lv_goto (tgt := 25) hx hb d_M_sign_21 rfl ?_
      rw [hQ]
      exact z_iret hx hb hr hlk hH (⟨rfl, Or.inl ⟨by omega, rfl⟩⟩) d_M_sign_25
