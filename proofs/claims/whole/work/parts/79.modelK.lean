def rm_M_whole : Room := { frames := 0, cells := 0, slots := 0, locals := 0 }
set_option maxHeartbeats 4000000 in
set_option maxRecDepth 100000 in
theorem c_M_whole (l : Launch) (E : zE) (w0 : zW) (g : Nat) (ty xm ym ne : Int) (G : Int → Int) (r : Int) (q0lt : g < zn E) (q1lt : g + 4 < zn E) (c0 : w0 g = .inr (6, [.ref (ad E (g + 1)), .ref (ad E (g + 2)), .ref (ad E (g + 3)), .ref (ad E (g + 4)), .int (iI ty), .ref (ad E (g + 5)), .ref (ad E (g + 6)), .ref (ad E (g + 7)), .ref (ad E (g + 8)), .ref (ad E (g + 9)), .ref (ad E (g + 10)), .int (iI xm), .int (iI ym), .ref (ad E (g + 11)), .int (iI ne), .ref (ad E (g + 12)), .ref (ad E (g + 13))])) (c1 : w0 (g + 4) = zar E 448 G) (bG : bd G 448 0 9) (hr0 : 0 ≤ r ∧ r < 8) : zM l y_M_whole ws_M_whole rm_M_whole E [.ref (ad E g), .int (iI r)] w0 (zQi E w0 (fun z w' => w' = w0 ∧ (Wh (Gt G r) z ∧ 1 ≤ z ∧ z ≤ 32))) := by
  refine z_met (cc := b_M_whole) (maxL := 4) (ret := (some .int)) (by decide +kernel) rfl (Nat.le_of_ble_eq_true rfl) ?_
  intro p e s m below meth cd ls a Qf hQ hC hl hH
  obtain ⟨hF, hr, hlk, hK, hG, hn⟩ := hC
  obtain ⟨hx, hb, hml, hown, hts⟩ := hF
  have hg : ∀ w ∈ GW, w.before a s = true := fun w h => hts w (List.mem_cons_of_mem _ h)
  have hA : ∀ q, s.heap.size ≤ q → va_A (wl E w0) s.heap.size q := fun q h => Or.inr h
  have hl : lv_has ls 4 [(0, .ref (ad E g)), (1, .int (iI r))] := hl
  refine zv_iconst hx hb d_M_whole_0 ?_
  refine lv_istore_n (lv' := [(2, .int (iI 1)), (0, .ref (ad E g)), (1, .int (iI r))]) hx hb d_M_whole_1 rfl hl (by decide) rfl (fun ls hl => ?_)
  refine zv_bipush hx hb d_M_whole_2 rfl ?_
  refine lv_istore_n (lv' := [(3, .int (iI 24)), (2, .int (iI 1)), (0, .ref (ad E g)), (1, .int (iI r))]) hx hb d_M_whole_4 rfl hl (by decide) rfl (fun ls hl => ?_)
  have L5 : ∀ (fu : Nat) (i : Int) (n : Int) (ls : Array Slot) (H1 : Heap) (lc2 : List Loc), (lv_has ls 4 [(3, .int (iI i)), (2, .int (iI n)), (0, .ref (ad E g)), (1, .int (iI r))]) → (zH E w0 (va_A (wl E w0) s.heap.size) s.heap H1 lc2) → (24 ≤ i ∧ i ≤ 56) → ((n = 1 ∧ ∀ j : Int, 24 ≤ j → j < i → G (56 * r + j) = 0) ∨ (1 ≤ n ∧ n + 23 < i ∧ G (56 * r + (n + 23)) ≠ 0 ∧ ∀ j : Int, n + 23 < j → j < i → G (56 * r + j) = 0)) → (1 ≤ n ∧ n ≤ 32) → (56 - i < (fu : Int)) → W p l e rm_M_whole s m a below meth cd H1 lc2 0 0 Qf (F0 m 5 ls []) := by
    intro fu
    induction fu with
    | zero => intro i n ls H1 lc2 hl hH hi hn9 hn7 hm; exact absurd hm (by omega)
    | succ fu ih =>
      intro i n ls H1 lc2 hl hH hi hn9 hn7 hm
      refine lv_iload_n hx hb d_M_whole_5 rfl (lv_at hl 0 rfl) ?_
      refine zv_bipush hx hb d_M_whole_6 rfl ?_
      refine zv_icmp_ge (tgt := 40) hx hb d_M_whole_8 rfl (by omega) (by omega) (fun h3 => ?_) (fun h3 => ?_)
      · refine lv_iload_n hx hb d_M_whole_40 rfl (lv_at hl 1 rfl) ?_
        have i9 : i = 56 := by omega
        subst i9
        rw [hQ]
        exact z_iret hx hb hr hlk hH (⟨rfl, ⟨wh_of (g_bd bG hr0) (by rcases hn9 with h8 | h8; exact Or.inl h8; exact Or.inr ⟨n + 23, by omega, by omega, by omega, h8.2.2.1, h8.2.2.2⟩), hn7.1, hn7.2⟩⟩) d_M_whole_41
      · refine lv_aload_n hx hb d_M_whole_11 rfl (lv_at hl 2 rfl) ?_
        refine zv_get (C := "ScaledNumeralDeskModel") (T := TM) (N := 17) hx hb hg uM_in hown hK hH q0lt c0 rfl 3 (by decide) (hg _ wm_685) (fun _ h9 => h9) rfl d_M_whole_12 ?_
        refine zv_bipush hx hb d_M_whole_15 rfl ?_
        refine lv_iload_n hx hb d_M_whole_17 rfl (lv_at hl 3 rfl) ?_
        refine zv_imul hx hb d_M_whole_18 ?_
        refine lv_iload_n hx hb d_M_whole_19 rfl (lv_at hl 0 rfl) ?_
        refine zv_iadd hx hb d_M_whole_20 ?_
        refine zv_iald hx hb hK hH q1lt c1 (by omega) (by omega) (by omega) d_M_whole_21 ?_
        have b4 := bG ((56 * r) + i) (by omega) (by omega)
        have L33 : ∀ (n2 : Int) (ls : Array Slot) (H5 : Heap) (lc6 : List Loc), (lv_has ls 4 [(3, .int (iI i)), (2, .int (iI n)), (0, .ref (ad E g)), (1, .int (iI r))]) → (zH E w0 (va_A (wl E w0) s.heap.size) s.heap H5 lc6) → ((n2 = 1 ∧ ∀ j : Int, 24 ≤ j → j < (i + 1) → G (56 * r + j) = 0) ∨ (1 ≤ n2 ∧ n2 + 23 < (i + 1) ∧ G (56 * r + (n2 + 23)) ≠ 0 ∧ ∀ j : Int, n2 + 23 < j → j < (i + 1) → G (56 * r + j) = 0)) → (1 ≤ n2 ∧ n2 ≤ 32) → W p l e rm_M_whole s m a below meth cd H5 lc6 0 0 Qf (F0 m 33 ls [.int (iI n2)]) := by
          intro n2 ls H5 lc6 hl hH hn8 hn6
          refine lv_istore_n (lv' := [(2, .int (iI n2)), (3, .int (iI i)), (0, .ref (ad E g)), (1, .int (iI r))]) hx hb d_M_whole_33 rfl hl (by decide) rfl (fun ls hl => ?_)
          refine zv_iinc (k := 1) (lv' := [(3, .int (iI (i + 1))), (2, .int (iI n2)), (0, .ref (ad E g)), (1, .int (iI r))]) hx hb d_M_whole_34 hl rfl (by decide) rfl (fun ls hl => ?_)
          refine lv_goto (tgt := 5) hx hb d_M_whole_37 rfl ?_
          exact ih  (i + 1) n2 _ H5 lc6 (lv_sub hl [0, 1, 2, 3] rfl) hH (by omega) (by exact hn8) (by omega) (by omega)
        refine zv_if_eq (tgt := 32) hx hb d_M_whole_22 rfl (by omega) (fun h7 => ?_) (fun h7 => ?_)
        · refine lv_iload_n hx hb d_M_whole_32 rfl (lv_at hl 1 rfl) ?_
          exact L33 n _ H1 lc2 (lv_sub hl [0, 1, 2, 3] rfl) hH (by first | exact Or.inr ⟨by omega, by omega, by rw [show i - 23 + 23 = i by omega]; assumption, fun j g1 g2 => by omega⟩ | (rcases hn9 with h8 | h8; exact Or.inl ⟨h8.1, fun j g1 g2 => by by_cases e8 : j = i; rw [e8]; omega; exact h8.2 j g1 (by omega)⟩; exact Or.inr ⟨h8.1, by omega, h8.2.2.1, fun j g1 g2 => by by_cases e8 : j = i; rw [e8]; omega; exact h8.2.2.2 j g1 (by omega)⟩)) (by omega)
        · refine lv_iload_n hx hb d_M_whole_25 rfl (lv_at hl 0 rfl) ?_
          refine zv_bipush hx hb d_M_whole_26 rfl ?_
          refine zv_isub hx hb d_M_whole_28 ?_
          refine lv_goto (tgt := 33) hx hb d_M_whole_29 rfl ?_
          exact L33 (i - 23) _ H1 lc2 (lv_sub hl [0, 1, 2, 3] rfl) hH (by first | exact Or.inr ⟨by omega, by omega, by rw [show i - 23 + 23 = i by omega]; assumption, fun j g1 g2 => by omega⟩ | (rcases hn9 with h8 | h8; exact Or.inl ⟨h8.1, fun j g1 g2 => by by_cases e8 : j = i; rw [e8]; omega; exact h8.2 j g1 (by omega)⟩; exact Or.inr ⟨h8.1, by omega, h8.2.2.1, fun j g1 g2 => by by_cases e8 : j = i; rw [e8]; omega; exact h8.2.2.2 j g1 (by omega)⟩)) (by omega)
  exact L5 ((56 - 24 : Int).toNat + 1) 24 1 _ s.heap ([]) (lv_sub hl [0, 1, 2, 3] rfl) hH (by omega) (by exact Or.inl ⟨rfl, fun j g1 g2 => by omega⟩) (by omega) (by omega)
def rm_M_length : Room := { frames := 1, cells := 0, slots := 0, locals := 23 }
set_option maxHeartbeats 4000000 in
set_option maxRecDepth 100000 in
theorem c_M_length (l : Launch) (E : zE) (w0 : zW) (g : Nat) (ty xm ym ne : Int) (kf mf sf G : Int → Int) (r : Int) (q0lt : g < zn E) (q1lt : g + 1 < zn E) (q2lt : g + 2 < zn E) (q3lt : g + 3 < zn E) (q4lt : g + 4 < zn E) (c0 : w0 g = .inr (6, [.ref (ad E (g + 1)), .ref (ad E (g + 2)), .ref (ad E (g + 3)), .ref (ad E (g + 4)), .int (iI ty), .ref (ad E (g + 5)), .ref (ad E (g + 6)), .ref (ad E (g + 7)), .ref (ad E (g + 8)), .ref (ad E (g + 9)), .ref (ad E (g + 10)), .int (iI xm), .int (iI ym), .ref (ad E (g + 11)), .int (iI ne), .ref (ad E (g + 12)), .ref (ad E (g + 13))])) (c1 : w0 (g + 1) = zar E 8 kf) (c2 : w0 (g + 2) = zaz E 8 mf) (c3 : w0 (g + 3) = zar E 8 sf) (c4 : w0 (g + 4) = zar E 448 G) (bk : bd kf 8 0 3) (bm : bd mf 8 0 1) (bs : bd sf 8 0 24) (bG : bd G 448 0 9) (hr0 : 0 ≤ r ∧ r < 8) : zM l y_M_length ws_M_length rm_M_length E [.ref (ad E g), .int (iI r)] w0 (zQi E w0 (fun z w' => w' = w0 ∧ (LnR (kf r) (sf r) (mf r) (Gt G r) z))) := by
  refine z_met (cc := b_M_length) (maxL := 2) (ret := (some .int)) (by decide +kernel) rfl (Nat.le_of_ble_eq_true rfl) ?_
  intro p e s m below meth cd ls a Qf hQ hC hl hH
  obtain ⟨hF, hr, hlk, hK, hG, hn⟩ := hC
  obtain ⟨hx, hb, hml, hown, hts⟩ := hF
  have hg : ∀ w ∈ GW, w.before a s = true := fun w h => hts w (List.mem_cons_of_mem _ h)
  have hA : ∀ q, s.heap.size ≤ q → va_A (wl E w0) s.heap.size q := fun q h => Or.inr h
  have hl : lv_has ls 2 [(0, .ref (ad E g)), (1, .int (iI r))] := hl
  have bk8 := bk r hr0.1 hr0.2
  have bm8 := bm r hr0.1 hr0.2
  have bs8 := bs r hr0.1 hr0.2
  refine lv_aload_n hx hb d_M_length_0 rfl (lv_at hl 0 rfl) ?_
  refine lv_iload_n hx hb d_M_length_1 rfl (lv_at hl 1 rfl) ?_
  refine zv_bipush hx hb d_M_length_2 rfl ?_
  refine z_calli (va_runV (As := [.int (iI r), .int (iI 7)]) (rest := []) ⟨hx, hb, hml, hown, hts⟩ (c_M_out (l := l) (E := E) (w0 := w0) (g := g) (ty := ty) (xm := xm) (ym := ym) (ne := ne) (v := r) (mo := 7) (q0lt := q0lt) (c0 := c0) (hv := by omega) (hmo := by omega) s.heap.size) (z_cwV (C := "ScaledNumeralDeskModel") 2 hg wm_746 wm_743 wm_9 wm_745 wm_s29 (by decide +kernel) ⟨Nat.le_of_ble_eq_true rfl, Nat.le_of_ble_eq_true rfl⟩) (z_preV (r := ("ScaledNumeralDeskModel", TM, 17)) hK hG hn hH hA q0lt c0 rfl) rfl rfl hl.1 rfl (lv_room (Nat.le_of_ble_eq_true rfl)) d_M_length_4 ⟨Nat.zero_le _, Nat.zero_le _⟩) hH hA (fun z5 w3 H1 lc2 hH4 q4 => ?_)
  obtain ⟨ew6, q4⟩ := q4
  rw [ew6] at hH4
  replace q4 : (z5 = 1 ∧ (r < 0 ∨ (7 : Int) < r)) ∨ (z5 = 0 ∧ 0 ≤ r ∧ r ≤ (7 : Int)) := q4
  refine zv_if_eq (tgt := 12) hx hb d_M_length_7 rfl (by omega) (fun h7 => ?_) (fun h7 => absurd h7 (by omega))
  refine lv_aload_n hx hb d_M_length_12 rfl (lv_at hl 0 rfl) ?_
  refine zv_get (C := "ScaledNumeralDeskModel") (T := TM) (N := 17) hx hb hg uM_in hown hK hH4 q0lt c0 rfl 0 (by decide) (hg _ wm_682) (fun _ h9 => h9) rfl d_M_length_13 ?_
  refine lv_iload_n hx hb d_M_length_16 rfl (lv_at hl 1 rfl) ?_
  refine zv_iald hx hb hK hH4 q1lt c1 (by omega) (by omega) (by omega) d_M_length_17 ?_
  have b8 := bk r (by omega) (by omega)
  refine zv_if_eq (tgt := 53) hx hb d_M_length_18 rfl (by omega) (fun h9 => ?_) (fun h9 => ?_)
  · refine lv_aload_n hx hb d_M_length_53 rfl (lv_at hl 0 rfl) ?_
    refine zv_get (C := "ScaledNumeralDeskModel") (T := TM) (N := 17) hx hb hg uM_in hown hK hH4 q0lt c0 rfl 1 (by decide) (hg _ wm_683) (fun _ h9 => h9) rfl d_M_length_54 ?_
    refine lv_iload_n hx hb d_M_length_57 rfl (lv_at hl 1 rfl) ?_
    refine zv_zald hx hb hK hH4 q2lt c2 (by omega) (by omega) (by omega) d_M_length_58 ?_
    have b10 := bm r (by omega) (by omega)
    refine zv_if_eq (tgt := 66) hx hb d_M_length_59 rfl (by omega) (fun h11 => ?_) (fun h11 => ?_)
    · refine zv_iconst hx hb d_M_length_66 ?_
      refine lv_aload_n hx hb d_M_length_67 rfl (lv_at hl 0 rfl) ?_
      refine lv_iload_n hx hb d_M_length_68 rfl (lv_at hl 1 rfl) ?_
      refine z_calli (va_runV (As := [.int (iI r)]) (rest := [.int (iI 0)]) ⟨hx, hb, hml, hown, hts⟩ (c_M_whole (l := l) (E := E) (w0 := w0) (g := g) (ty := ty) (xm := xm) (ym := ym) (ne := ne) (G := G) (r := r) (q0lt := q0lt) (q1lt := q4lt) (c0 := c0) (c1 := c4) (bG := bG) (hr0 := by omega) H1.size) (z_cwV (C := "ScaledNumeralDeskModel") 1 hg wm_818 wm_815 wm_9 wm_817 wm_s46 (by decide +kernel) ⟨Nat.le_of_ble_eq_true rfl, Nat.le_of_ble_eq_true rfl⟩) (z_preV (r := ("ScaledNumeralDeskModel", TM, 17)) hK hG hn hH4 hA q0lt c0 rfl) rfl rfl hl.1 rfl (lv_room (Nat.le_of_ble_eq_true rfl)) d_M_length_69 ⟨Nat.zero_le _, Nat.zero_le _⟩) hH4 hA (fun n9 w14 H12 lc13 hH15 p69 => ?_)
      obtain ⟨ew16, p69⟩ := p69
      rw [ew16] at hH15
      replace p69 : Wh (Gt G r) n9 ∧ 1 ≤ n9 ∧ n9 ≤ 32 := p69
      refine zv_iadd hx hb d_M_length_72 ?_
      refine lv_aload_n hx hb d_M_length_73 rfl (lv_at hl 0 rfl) ?_
      refine zv_get (C := "ScaledNumeralDeskModel") (T := TM) (N := 17) hx hb hg uM_in hown hK hH15 q0lt c0 rfl 2 (by decide) (hg _ wm_684) (fun _ h9 => h9) rfl d_M_length_74 ?_
      refine lv_iload_n hx hb d_M_length_77 rfl (lv_at hl 1 rfl) ?_
      refine zv_iald hx hb hK hH15 q3lt c3 (by omega) (by omega) (by omega) d_M_length_78 ?_
      have b17 := bs r (by omega) (by omega)
      refine zv_if_le (tgt := 93) hx hb d_M_length_79 rfl (by omega) (fun h18 => ?_) (fun h18 => ?_)
      · refine zv_iconst hx hb d_M_length_93 ?_
        refine zv_iadd hx hb d_M_length_94 ?_
        rw [hQ]
        exact z_iret hx hb hr hlk hH15 (⟨rfl, Or.inr ⟨by omega, n9, p69.1, p69.2.1, by omega, by rw [ptl_0 (by omega)]; omega⟩⟩) d_M_length_95
      · refine lv_aload_n hx hb d_M_length_82 rfl (lv_at hl 0 rfl) ?_
        refine zv_get (C := "ScaledNumeralDeskModel") (T := TM) (N := 17) hx hb hg uM_in hown hK hH15 q0lt c0 rfl 2 (by decide) (hg _ wm_684) (fun _ h9 => h9) rfl d_M_length_83 ?_
        refine lv_iload_n hx hb d_M_length_86 rfl (lv_at hl 1 rfl) ?_
        refine zv_iald hx hb hK hH15 q3lt c3 (by omega) (by omega) (by omega) d_M_length_87 ?_
        have b19 := bs r (by omega) (by omega)
        refine zv_iconst hx hb d_M_length_88 ?_
        refine zv_iadd hx hb d_M_length_89 ?_
        refine lv_goto (tgt := 94) hx hb d_M_length_90 rfl ?_
        refine zv_iadd hx hb d_M_length_94 ?_
        rw [hQ]
        exact z_iret hx hb hr hlk hH15 (⟨rfl, Or.inr ⟨by omega, n9, p69.1, p69.2.1, by omega, by rw [ptl_p (by omega)]; omega⟩⟩) d_M_length_95
    · refine zv_iconst hx hb d_M_length_62 ?_
      refine lv_goto (tgt := 67) hx hb d_M_length_63 rfl ?_
      refine lv_aload_n hx hb d_M_length_67 rfl (lv_at hl 0 rfl) ?_
      refine lv_iload_n hx hb d_M_length_68 rfl (lv_at hl 1 rfl) ?_
      refine z_calli (va_runV (As := [.int (iI r)]) (rest := [.int (iI 1)]) ⟨hx, hb, hml, hown, hts⟩ (c_M_whole (l := l) (E := E) (w0 := w0) (g := g) (ty := ty) (xm := xm) (ym := ym) (ne := ne) (G := G) (r := r) (q0lt := q0lt) (q1lt := q4lt) (c0 := c0) (c1 := c4) (bG := bG) (hr0 := by omega) H1.size) (z_cwV (C := "ScaledNumeralDeskModel") 1 hg wm_818 wm_815 wm_9 wm_817 wm_s46 (by decide +kernel) ⟨Nat.le_of_ble_eq_true rfl, Nat.le_of_ble_eq_true rfl⟩) (z_preV (r := ("ScaledNumeralDeskModel", TM, 17)) hK hG hn hH4 hA q0lt c0 rfl) rfl rfl hl.1 rfl (lv_room (Nat.le_of_ble_eq_true rfl)) d_M_length_69 ⟨Nat.zero_le _, Nat.zero_le _⟩) hH4 hA (fun n9 w22 H20 lc21 hH23 p69 => ?_)
      obtain ⟨ew24, p69⟩ := p69
      rw [ew24] at hH23
      replace p69 : Wh (Gt G r) n9 ∧ 1 ≤ n9 ∧ n9 ≤ 32 := p69
      refine zv_iadd hx hb d_M_length_72 ?_
      refine lv_aload_n hx hb d_M_length_73 rfl (lv_at hl 0 rfl) ?_
      refine zv_get (C := "ScaledNumeralDeskModel") (T := TM) (N := 17) hx hb hg uM_in hown hK hH23 q0lt c0 rfl 2 (by decide) (hg _ wm_684) (fun _ h9 => h9) rfl d_M_length_74 ?_
      refine lv_iload_n hx hb d_M_length_77 rfl (lv_at hl 1 rfl) ?_
      refine zv_iald hx hb hK hH23 q3lt c3 (by omega) (by omega) (by omega) d_M_length_78 ?_
      have b25 := bs r (by omega) (by omega)
      refine zv_if_le (tgt := 93) hx hb d_M_length_79 rfl (by omega) (fun h26 => ?_) (fun h26 => ?_)
      · refine zv_iconst hx hb d_M_length_93 ?_
        refine zv_iadd hx hb d_M_length_94 ?_
        rw [hQ]
        exact z_iret hx hb hr hlk hH23 (⟨rfl, Or.inr ⟨by omega, n9, p69.1, p69.2.1, by omega, by rw [ptl_0 (by omega)]; omega⟩⟩) d_M_length_95
      · refine lv_aload_n hx hb d_M_length_82 rfl (lv_at hl 0 rfl) ?_
        refine zv_get (C := "ScaledNumeralDeskModel") (T := TM) (N := 17) hx hb hg uM_in hown hK hH23 q0lt c0 rfl 2 (by decide) (hg _ wm_684) (fun _ h9 => h9) rfl d_M_length_83 ?_
        refine lv_iload_n hx hb d_M_length_86 rfl (lv_at hl 1 rfl) ?_
        refine zv_iald hx hb hK hH23 q3lt c3 (by omega) (by omega) (by omega) d_M_length_87 ?_
        have b27 := bs r (by omega) (by omega)
        refine zv_iconst hx hb d_M_length_88 ?_
        refine zv_iadd hx hb d_M_length_89 ?_
        refine lv_goto (tgt := 94) hx hb d_M_length_90 rfl ?_
        refine zv_iadd hx hb d_M_length_94 ?_
        rw [hQ]
        exact z_iret hx hb hr hlk hH23 (⟨rfl, Or.inr ⟨by omega, n9, p69.1, p69.2.1, by omega, by rw [ptl_p (by omega)]; omega⟩⟩) d_M_length_95
  · refine lv_aload_n hx hb d_M_length_21 rfl (lv_at hl 0 rfl) ?_
    refine zv_get (C := "ScaledNumeralDeskModel") (T := TM) (N := 17) hx hb hg uM_in hown hK hH4 q0lt c0 rfl 0 (by decide) (hg _ wm_682) (fun _ h9 => h9) rfl d_M_length_22 ?_
    refine lv_iload_n hx hb d_M_length_25 rfl (lv_at hl 1 rfl) ?_
    refine zv_iald hx hb hK hH4 q1lt c1 (by omega) (by omega) (by omega) d_M_length_26 ?_
    have b28 := bk r (by omega) (by omega)
    refine zv_iconst hx hb d_M_length_27 ?_
    refine zv_icmp_ne (tgt := 35) hx hb d_M_length_28 rfl (by omega) (by omega) (fun h29 => ?_) (fun h29 => ?_)
    · refine lv_aload_n hx hb d_M_length_35 rfl (lv_at hl 0 rfl) ?_
      refine zv_get (C := "ScaledNumeralDeskModel") (T := TM) (N := 17) hx hb hg uM_in hown hK hH4 q0lt c0 rfl 0 (by decide) (hg _ wm_682) (fun _ h9 => h9) rfl d_M_length_36 ?_
      refine lv_iload_n hx hb d_M_length_39 rfl (lv_at hl 1 rfl) ?_
      refine zv_iald hx hb hK hH4 q1lt c1 (by omega) (by omega) (by omega) d_M_length_40 ?_
      have b30 := bk r (by omega) (by omega)
      refine zv_iconst hx hb d_M_length_41 ?_
      refine zv_icmp_ne (tgt := 50) hx hb d_M_length_42 rfl (by omega) (by omega) (fun h31 => ?_) (fun h31 => ?_)
      · refine zv_bipush hx hb d_M_length_50 rfl ?_
        rw [hQ]
        exact z_iret hx hb hr hlk hH4 (⟨rfl, Or.inl ⟨by omega, by rw [show kf r = 3 by omega]; decide⟩⟩) d_M_length_52
      · refine zv_bipush hx hb d_M_length_45 rfl ?_
        refine lv_goto (tgt := 52) hx hb d_M_length_47 rfl ?_
        rw [hQ]
        exact z_iret hx hb hr hlk hH4 (⟨rfl, Or.inl ⟨by omega, by rw [show kf r = 2 by omega]; decide⟩⟩) d_M_length_52
    · refine zv_iconst hx hb d_M_length_31 ?_
      refine lv_goto (tgt := 52) hx hb d_M_length_32 rfl ?_
      rw [hQ]
      exact z_iret hx hb hr hlk hH4 (⟨rfl, Or.inl ⟨by omega, by rw [show kf r = 1 by omega]; decide⟩⟩) d_M_length_52
def rm_M_character : Room := { frames := 2, cells := 0, slots := 0, locals := 44 }
set_option maxHeartbeats 4000000 in
set_option maxRecDepth 100000 in
theorem c_M_character (l : Launch) (E : zE) (w0 : zW) (g : Nat) (ty xm ym ne : Int) (kf mf sf G : Int → Int) (r i : Int) (q0lt : g < zn E) (q1lt : g + 1 < zn E) (q2lt : g + 2 < zn E) (q3lt : g + 3 < zn E) (q4lt : g + 4 < zn E) (c0 : w0 g = .inr (6, [.ref (ad E (g + 1)), .ref (ad E (g + 2)), .ref (ad E (g + 3)), .ref (ad E (g + 4)), .int (iI ty), .ref (ad E (g + 5)), .ref (ad E (g + 6)), .ref (ad E (g + 7)), .ref (ad E (g + 8)), .ref (ad E (g + 9)), .ref (ad E (g + 10)), .int (iI xm), .int (iI ym), .ref (ad E (g + 11)), .int (iI ne), .ref (ad E (g + 12)), .ref (ad E (g + 13))])) (c1 : w0 (g + 1) = zar E 8 kf) (c2 : w0 (g + 2) = zaz E 8 mf) (c3 : w0 (g + 3) = zar E 8 sf) (c4 : w0 (g + 4) = zar E 448 G) (bk : bd kf 8 0 3) (bm : bd mf 8 0 1) (bs : bd sf 8 0 24) (bG : bd G 448 0 9) (hr0 : 0 ≤ r ∧ r < 8) (hi0 : zr i) : zM l y_M_character ws_M_character rm_M_character E [.ref (ad E g), .int (iI r), .int (iI i)] w0 (zQi E w0 (fun z w' => w' = w0 ∧ (∃ L : Int, LnR (kf r) (sf r) (mf r) (Gt G r) L ∧ ((z = -1 ∧ (i < 0 ∨ L ≤ i)) ∨ (0 ≤ i ∧ i < L ∧ ChR (kf r) (mf r) (Gt G r) i z))))) := by
  refine z_met (cc := b_M_character) (maxL := 5) (ret := (some .int)) (by decide +kernel) rfl (Nat.le_of_ble_eq_true rfl) ?_
  intro p e s m below meth cd ls a Qf hQ hC hl hH
  obtain ⟨hF, hr, hlk, hK, hG, hn⟩ := hC
  obtain ⟨hx, hb, hml, hown, hts⟩ := hF
  have hg : ∀ w ∈ GW, w.before a s = true := fun w h => hts w (List.mem_cons_of_mem _ h)
  have hA : ∀ q, s.heap.size ≤ q → va_A (wl E w0) s.heap.size q := fun q h => Or.inr h
  have hl : lv_has ls 5 [(0, .ref (ad E g)), (1, .int (iI r)), (2, .int (iI i))] := hl
  have bk8 := bk r hr0.1 hr0.2
  have bm8 := bm r hr0.1 hr0.2
  have bs8 := bs r hr0.1 hr0.2
  have pt8 := ptl_in bs8
  refine lv_aload_n hx hb d_M_character_0 rfl (lv_at hl 0 rfl) ?_
  refine lv_iload_n hx hb d_M_character_1 rfl (lv_at hl 1 rfl) ?_
  refine zv_bipush hx hb d_M_character_2 rfl ?_
  refine z_calli (va_runV (As := [.int (iI r), .int (iI 7)]) (rest := []) ⟨hx, hb, hml, hown, hts⟩ (c_M_out (l := l) (E := E) (w0 := w0) (g := g) (ty := ty) (xm := xm) (ym := ym) (ne := ne) (v := r) (mo := 7) (q0lt := q0lt) (c0 := c0) (hv := by omega) (hmo := by omega) s.heap.size) (z_cwV (C := "ScaledNumeralDeskModel") 2 hg wm_746 wm_743 wm_9 wm_745 wm_s29 (by decide +kernel) ⟨Nat.le_of_ble_eq_true rfl, Nat.le_of_ble_eq_true rfl⟩) (z_preV (r := ("ScaledNumeralDeskModel", TM, 17)) hK hG hn hH hA q0lt c0 rfl) rfl rfl hl.1 rfl (lv_room (Nat.le_of_ble_eq_true rfl)) d_M_character_4 ⟨Nat.zero_le _, Nat.zero_le _⟩) hH hA (fun z5 w3 H1 lc2 hH4 q4 => ?_)
  obtain ⟨ew6, q4⟩ := q4
  rw [ew6] at hH4
  replace q4 : (z5 = 1 ∧ (r < 0 ∨ (7 : Int) < r)) ∨ (z5 = 0 ∧ 0 ≤ r ∧ r ≤ (7 : Int)) := q4
  refine zv_if_ne (tgt := 25) hx hb d_M_character_7 rfl (by omega) (fun h7 => absurd h7 (by omega)) (fun h7 => ?_)
  refine lv_aload_n hx hb d_M_character_10 rfl (lv_at hl 0 rfl) ?_
  refine lv_iload_n hx hb d_M_character_11 rfl (lv_at hl 2 rfl) ?_
  refine lv_aload_n hx hb d_M_character_12 rfl (lv_at hl 0 rfl) ?_
  refine lv_iload_n hx hb d_M_character_13 rfl (lv_at hl 1 rfl) ?_
  refine z_calli (va_runV (As := [.int (iI r)]) (rest := [.int (iI i), .ref (ad E g)]) ⟨hx, hb, hml, hown, hts⟩ (c_M_length (l := l) (E := E) (w0 := w0) (g := g) (ty := ty) (xm := xm) (ym := ym) (ne := ne) (kf := kf) (mf := mf) (sf := sf) (G := G) (r := r) (q0lt := q0lt) (q1lt := q1lt) (q2lt := q2lt) (q3lt := q3lt) (q4lt := q4lt) (c0 := c0) (c1 := c1) (c2 := c2) (c3 := c3) (c4 := c4) (bk := bk) (bm := bm) (bs := bs) (bG := bG) (hr0 := by omega) H1.size) (z_cwV (C := "ScaledNumeralDeskModel") 1 hg wm_814 wm_823 wm_9 wm_812 wm_813 (by decide +kernel) ⟨Nat.le_of_ble_eq_true rfl, Nat.le_of_ble_eq_true rfl⟩) (z_preV (r := ("ScaledNumeralDeskModel", TM, 17)) hK hG hn hH4 hA q0lt c0 rfl) rfl rfl hl.1 rfl (lv_room (Nat.le_of_ble_eq_true rfl)) d_M_character_14 ⟨Nat.zero_le _, Nat.zero_le _⟩) hH4 hA (fun lg w10 H8 lc9 hH11 p14 => ?_)
  obtain ⟨ew12, p14⟩ := p14
  rw [ew12] at hH11
  replace p14 : LnR (kf r) (sf r) (mf r) (Gt G r) lg := p14
  have lgi := LnR_in p14 bk8 bs8 bm8
  refine zv_iconst hx hb d_M_character_17 ?_
  refine zv_isub hx hb d_M_character_18 ?_
  refine z_calli (va_runV (As := [.int (iI i), .int (iI (lg - 1))]) (rest := []) ⟨hx, hb, hml, hown, hts⟩ (c_M_out (l := l) (E := E) (w0 := w0) (g := g) (ty := ty) (xm := xm) (ym := ym) (ne := ne) (v := i) (mo := lg - 1) (q0lt := q0lt) (c0 := c0) (hv := by omega) (hmo := by omega) H8.size) (z_cwV (C := "ScaledNumeralDeskModel") 2 hg wm_746 wm_743 wm_9 wm_745 wm_s29 (by decide +kernel) ⟨Nat.le_of_ble_eq_true rfl, Nat.le_of_ble_eq_true rfl⟩) (z_preV (r := ("ScaledNumeralDeskModel", TM, 17)) hK hG hn hH11 hA q0lt c0 rfl) rfl rfl hl.1 rfl (lv_room (Nat.le_of_ble_eq_true rfl)) d_M_character_19 ⟨Nat.zero_le _, Nat.zero_le _⟩) hH11 hA (fun z17 w15 H13 lc14 hH16 p19 => ?_)
  obtain ⟨ew18, p19⟩ := p19
  rw [ew18] at hH16
  replace p19 : (z17 = 1 ∧ (i < 0 ∨ (lg - 1) < i)) ∨ (z17 = 0 ∧ 0 ≤ i ∧ i ≤ (lg - 1)) := p19
  refine zv_if_eq (tgt := 27) hx hb d_M_character_22 rfl (by omega) (fun h19 => ?_) (fun h19 => ?_)
  · refine lv_aload_n hx hb d_M_character_27 rfl (lv_at hl 0 rfl) ?_
    refine zv_get (C := "ScaledNumeralDeskModel") (T := TM) (N := 17) hx hb hg uM_in hown hK hH16 q0lt c0 rfl 0 (by decide) (hg _ wm_682) (fun _ h9 => h9) rfl d_M_character_28 ?_
    refine lv_iload_n hx hb d_M_character_31 rfl (lv_at hl 1 rfl) ?_
    refine zv_iald hx hb hK hH16 q1lt c1 (by omega) (by omega) (by omega) d_M_character_32 ?_
    have b20 := bk r (by omega) (by omega)
    refine zv_iconst hx hb d_M_character_33 ?_
    refine zv_icmp_ne (tgt := 50) hx hb d_M_character_34 rfl (by omega) (by omega) (fun h21 => ?_) (fun h21 => ?_)
    · have L84 : ∀ (b : Int) (ls : Array Slot) (H22 : Heap) (lc23 : List Loc), (lv_has ls 5 [(0, .ref (ad E g)), (1, .int (iI r)), (2, .int (iI i))]) → (zH E w0 (va_A (wl E w0) s.heap.size) s.heap H22 lc23) → ((b = 1 ∧ (kf r = 3 ∨ (kf r = 0 ∧ mf r = 1))) ∨ (b = 0 ∧ ¬ (kf r = 3 ∨ (kf r = 0 ∧ mf r = 1)))) → W p l e rm_M_character s m a below meth cd H22 lc23 0 0 Qf (F0 m 84 ls [.int (iI b), .int (iI i)]) := by
        intro b ls H22 lc23 hl hH hb9
        refine zv_isub hx hb d_M_character_84 ?_
        refine lv_istore_n (lv' := [(3, .int (iI (i - b))), (0, .ref (ad E g)), (1, .int (iI r)), (2, .int (iI i))]) hx hb d_M_character_85 rfl hl (by decide) rfl (fun ls hl => ?_)
        refine lv_iload_n hx hb d_M_character_86 rfl (lv_at hl 0 rfl) ?_
        refine zv_if_ge (tgt := 93) hx hb d_M_character_87 rfl (by omega) (fun h24 => ?_) (fun h24 => ?_)
        · refine lv_aload_n hx hb d_M_character_93 rfl (lv_at hl 1 rfl) ?_
          refine zv_get (C := "ScaledNumeralDeskModel") (T := TM) (N := 17) hx hb hg uM_in hown hK hH q0lt c0 rfl 0 (by decide) (hg _ wm_682) (fun _ h9 => h9) rfl d_M_character_94 ?_
          refine lv_iload_n hx hb d_M_character_97 rfl (lv_at hl 2 rfl) ?_
          refine zv_iald hx hb hK hH q1lt c1 (by omega) (by omega) (by omega) d_M_character_98 ?_
          have b25 := bk r (by omega) (by omega)
          refine zv_if_eq (tgt := 117) hx hb d_M_character_99 rfl (by omega) (fun h26 => ?_) (fun h26 => ?_)
          · refine lv_aload_n hx hb d_M_character_117 rfl (lv_at hl 1 rfl) ?_
            refine lv_iload_n hx hb d_M_character_118 rfl (lv_at hl 2 rfl) ?_
            refine z_calli (va_runV (As := [.int (iI r)]) (rest := []) ⟨hx, hb, hml, hown, hts⟩ (c_M_whole (l := l) (E := E) (w0 := w0) (g := g) (ty := ty) (xm := xm) (ym := ym) (ne := ne) (G := G) (r := r) (q0lt := q0lt) (q1lt := q4lt) (c0 := c0) (c1 := c4) (bG := bG) (hr0 := by omega) H22.size) (z_cwV (C := "ScaledNumeralDeskModel") 1 hg wm_818 wm_815 wm_9 wm_817 wm_s46 (by decide +kernel) ⟨Nat.le_of_ble_eq_true rfl, Nat.le_of_ble_eq_true rfl⟩) (z_preV (r := ("ScaledNumeralDeskModel", TM, 17)) hK hG hn hH hA q0lt c0 rfl) rfl rfl hl.1 rfl (lv_room (Nat.le_of_ble_eq_true rfl)) d_M_character_119 ⟨Nat.zero_le _, Nat.zero_le _⟩) hH hA (fun n9 w29 H27 lc28 hH30 p119 => ?_)
            obtain ⟨ew31, p119⟩ := p119
            rw [ew31] at hH30
            replace p119 : Wh (Gt G r) n9 ∧ 1 ≤ n9 ∧ n9 ≤ 32 := p119
            have k0 : kf r = 0 := by omega
            have lgf := LnR_f (by rw [k0] at p14; exact p14) p119.1
            refine lv_istore (lv' := [(4, .int (iI n9)), (3, .int (iI (i - b))), (0, .ref (ad E g)), (1, .int (iI r)), (2, .int (iI i))]) hx hb d_M_character_122 hl (by decide) rfl (fun ls hl => ?_)
            refine lv_iload_n hx hb d_M_character_124 rfl (lv_at hl 1 rfl) ?_
            refine lv_iload hx hb d_M_character_125 (lv_at hl 0 rfl) ?_
            refine zv_icmp_ne (tgt := 133) hx hb d_M_character_127 rfl (by omega) (by omega) (fun h32 => ?_) (fun h32 => ?_)
            · refine zv_bipush hx hb d_M_character_133 rfl ?_
              refine lv_aload_n hx hb d_M_character_135 rfl (lv_at hl 2 rfl) ?_
              refine zv_get (C := "ScaledNumeralDeskModel") (T := TM) (N := 17) hx hb hg uM_in hown hK hH30 q0lt c0 rfl 3 (by decide) (hg _ wm_685) (fun _ h9 => h9) rfl d_M_character_136 ?_
              refine zv_bipush hx hb d_M_character_139 rfl ?_
              refine lv_iload_n hx hb d_M_character_141 rfl (lv_at hl 3 rfl) ?_
              refine zv_imul hx hb d_M_character_142 ?_
              refine lv_iload_n hx hb d_M_character_143 rfl (lv_at hl 1 rfl) ?_
              refine lv_iload hx hb d_M_character_144 (lv_at hl 0 rfl) ?_
              refine zv_icmp_ge (tgt := 159) hx hb d_M_character_146 rfl (by omega) (by omega) (fun h33 => ?_) (fun h33 => ?_)
              · refine zv_bipush hx hb d_M_character_159 rfl ?_
                refine lv_iload_n hx hb d_M_character_161 rfl (lv_at hl 1 rfl) ?_
                refine lv_iload hx hb d_M_character_162 (lv_at hl 0 rfl) ?_
                refine zv_isub hx hb d_M_character_164 ?_
                refine zv_isub hx hb d_M_character_165 ?_
                refine zv_iadd hx hb d_M_character_166 ?_
                have hdg := Vt_dig (g_bd bG hr0) (p := if i - b < n9 then 23 + n9 - (i - b) else 24 - (i - b - n9)) (by split <;> omega) (by split <;> omega)
                refine zv_iald hx hb hK hH30 q4lt c4 (by omega) (by omega) (by omega) d_M_character_167 ?_
                have b34 := bG ((56 * r) + (24 - ((i - b) - n9))) (by omega) (by omega)
                refine zv_iadd hx hb d_M_character_168 ?_
                have bz : b = mf r := by omega
                rw [hQ]
                exact z_iret hx hb hr hlk hH30 (⟨rfl, ⟨lg, p14, Or.inr ⟨by omega, by omega, chr_0 k0 p119.1 (Or.inr ⟨by omega, Or.inr (Or.inr ⟨by omega, by rw [if_neg (by omega)] at hdg; rw [hdg, bz, show (24 : Int) - (i - mf r - n9) = 24 + (n9 - (i - mf r)) by omega]; rfl⟩)⟩)⟩⟩⟩) d_M_character_169
              · refine zv_bipush hx hb d_M_character_149 rfl ?_
                refine lv_iload hx hb d_M_character_151 (lv_at hl 0 rfl) ?_
                refine zv_iadd hx hb d_M_character_153 ?_
                refine lv_iload_n hx hb d_M_character_154 rfl (lv_at hl 1 rfl) ?_
                refine zv_isub hx hb d_M_character_155 ?_
                refine lv_goto (tgt := 166) hx hb d_M_character_156 rfl ?_
                refine zv_iadd hx hb d_M_character_166 ?_
                have hdg := Vt_dig (g_bd bG hr0) (p := if i - b < n9 then 23 + n9 - (i - b) else 24 - (i - b - n9)) (by split <;> omega) (by split <;> omega)
                refine zv_iald hx hb hK hH30 q4lt c4 (by omega) (by omega) (by omega) d_M_character_167 ?_
                have b35 := bG ((56 * r) + ((23 + n9) - (i - b))) (by omega) (by omega)
                refine zv_iadd hx hb d_M_character_168 ?_
                have bz : b = mf r := by omega
                rw [hQ]
                exact z_iret hx hb hr hlk hH30 (⟨rfl, ⟨lg, p14, Or.inr ⟨by omega, by omega, chr_0 k0 p119.1 (Or.inr ⟨by omega, Or.inr (Or.inl ⟨by omega, by rw [if_pos (by omega)] at hdg; rw [hdg, bz, show 23 + n9 - (i - mf r) = 24 + (n9 - (i - mf r) - 1) by omega]; rfl⟩)⟩)⟩⟩⟩) d_M_character_169
            · refine zv_bipush hx hb d_M_character_130 rfl ?_
              rw [hQ]
              exact z_iret hx hb hr hlk hH30 (⟨rfl, ⟨lg, p14, Or.inr ⟨by omega, by omega, chr_0 k0 p119.1 (Or.inr ⟨by omega, Or.inl ⟨by omega, rfl⟩⟩)⟩⟩⟩) d_M_character_132
          · have k23 : (kf r = 2 ∧ b = 0 ∧ lg = 8) ∨ (kf r = 3 ∧ b = 1 ∧ lg = 9) := by
              have c : kf r = 2 ∨ kf r = 3 := by omega
              have l8 := LnR_k p14 (by omega)
              rcases c with c | c
              · rw [c, km_2] at l8; exact Or.inl ⟨c, by omega, l8⟩
              · rw [c, km_3] at l8; exact Or.inr ⟨c, by omega, l8⟩
            refine lv_iload_n hx hb d_M_character_102 rfl (lv_at hl 0 rfl) ?_
            refine zv_if_ne (tgt := 111) hx hb d_M_character_103 rfl (by omega) (fun h36 => ?_) (fun h36 => ?_)
            · refine lv_aload_n hx hb d_M_character_111 rfl (lv_at hl 1 rfl) ?_
              refine lv_iload_n hx hb d_M_character_112 rfl (lv_at hl 0 rfl) ?_
              refine z_calli (va_runV (As := [.int (iI (i - b))]) (rest := []) ⟨hx, hb, hml, hown, hts⟩ (c_M_letter (l := l) (E := E) (w0 := w0) (g := g) (ty := ty) (xm := xm) (ym := ym) (ne := ne) (k := i - b) (q0lt := q0lt) (c0 := c0) (hk7 := by omega) H22.size) (z_cwV (C := "ScaledNumeralDeskModel") 1 hg wm_766 wm_763 wm_9 wm_765 wm_s34 (by decide +kernel) ⟨Nat.le_of_ble_eq_true rfl, Nat.le_of_ble_eq_true rfl⟩) (z_preV (r := ("ScaledNumeralDeskModel", TM, 17)) hK hG hn hH hA q0lt c0 rfl) rfl rfl hl.1 rfl (lv_room (Nat.le_of_ble_eq_true rfl)) d_M_character_113 ⟨Nat.zero_le _, Nat.zero_le _⟩) hH hA (fun z113 w39 H37 lc38 hH40 p113 => ?_)
              obtain ⟨ew41, p113⟩ := p113
              rw [ew41] at hH40
              replace p113 : z113 = chZ 5 (i - b) ∧ 97 ≤ z113 ∧ z113 ≤ 122 := p113
              rw [hQ]
              exact z_iret hx hb hr hlk hH40 (⟨rfl, ⟨lg, p14, Or.inr ⟨by omega, by omega, chr_1 (by omega) (by rcases k23 with h8 | h8; rw [h8.1, p113.1, show i - b = i by omega]; exact ch_i2 ⟨by omega, by omega⟩; rw [h8.1, p113.1]; exact ch_i3 ⟨by omega, by omega⟩ (by omega))⟩⟩⟩) d_M_character_116
            · refine zv_bipush hx hb d_M_character_106 rfl ?_
              refine lv_goto (tgt := 116) hx hb d_M_character_108 rfl ?_
              rw [hQ]
              exact z_iret hx hb hr hlk hH (⟨rfl, ⟨lg, p14, Or.inr ⟨by omega, by omega, chr_1 (by omega) (by rcases k23 with h8 | h8; rw [h8.1, show i = 0 by omega]; decide; rw [h8.1, show i = 1 by omega]; decide)⟩⟩⟩) d_M_character_116
        · refine zv_bipush hx hb d_M_character_90 rfl ?_
          rw [hQ]
          exact z_iret hx hb hr hlk hH (⟨rfl, ⟨lg, p14, Or.inr ⟨by omega, by omega, by rcases hb9 with h8 | h8; by_cases c : kf r = 3; exact chr_1 (by omega) (by rw [c, show i = 0 by omega]; decide); obtain ⟨n, hn⟩ : ∃ n : Int, Wh (Gt G r) n := (by rcases p14 with h7 | h7; omega; obtain ⟨n, h6, _⟩ := h7.2; exact ⟨n, h6⟩); exact chr_0 (by omega) hn (Or.inl ⟨by omega, by omega, rfl⟩); omega⟩⟩⟩) d_M_character_92
      refine lv_iload_n hx hb d_M_character_50 rfl (lv_at hl 2 rfl) ?_
      refine lv_aload_n hx hb d_M_character_51 rfl (lv_at hl 0 rfl) ?_
      refine zv_get (C := "ScaledNumeralDeskModel") (T := TM) (N := 17) hx hb hg uM_in hown hK hH16 q0lt c0 rfl 0 (by decide) (hg _ wm_682) (fun _ h9 => h9) rfl d_M_character_52 ?_
      refine lv_iload_n hx hb d_M_character_55 rfl (lv_at hl 1 rfl) ?_
      refine zv_iald hx hb hK hH16 q1lt c1 (by omega) (by omega) (by omega) d_M_character_56 ?_
      have b42 := bk r (by omega) (by omega)
      refine zv_iconst hx hb d_M_character_57 ?_
      refine zv_icmp_eq (tgt := 79) hx hb d_M_character_58 rfl (by omega) (by omega) (fun h43 => ?_) (fun h43 => ?_)
      · refine zv_iconst hx hb d_M_character_79 ?_
        refine lv_goto (tgt := 84) hx hb d_M_character_80 rfl ?_
        exact L84 1 _ H13 lc14 (lv_sub hl [0, 1, 2] rfl) hH16 (by omega)
      · refine lv_aload_n hx hb d_M_character_61 rfl (lv_at hl 0 rfl) ?_
        refine zv_get (C := "ScaledNumeralDeskModel") (T := TM) (N := 17) hx hb hg uM_in hown hK hH16 q0lt c0 rfl 0 (by decide) (hg _ wm_682) (fun _ h9 => h9) rfl d_M_character_62 ?_
        refine lv_iload_n hx hb d_M_character_65 rfl (lv_at hl 1 rfl) ?_
        refine zv_iald hx hb hK hH16 q1lt c1 (by omega) (by omega) (by omega) d_M_character_66 ?_
        have b44 := bk r (by omega) (by omega)
        refine zv_if_ne (tgt := 83) hx hb d_M_character_67 rfl (by omega) (fun h45 => ?_) (fun h45 => ?_)
        · refine zv_iconst hx hb d_M_character_83 ?_
          exact L84 0 _ H13 lc14 (lv_sub hl [0, 1, 2] rfl) hH16 (by omega)
        · refine lv_aload_n hx hb d_M_character_70 rfl (lv_at hl 0 rfl) ?_
          refine zv_get (C := "ScaledNumeralDeskModel") (T := TM) (N := 17) hx hb hg uM_in hown hK hH16 q0lt c0 rfl 1 (by decide) (hg _ wm_683) (fun _ h9 => h9) rfl d_M_character_71 ?_
          refine lv_iload_n hx hb d_M_character_74 rfl (lv_at hl 1 rfl) ?_
          refine zv_zald hx hb hK hH16 q2lt c2 (by omega) (by omega) (by omega) d_M_character_75 ?_
          have b46 := bm r (by omega) (by omega)
          refine zv_if_eq (tgt := 83) hx hb d_M_character_76 rfl (by omega) (fun h47 => ?_) (fun h47 => ?_)
          · refine zv_iconst hx hb d_M_character_83 ?_
            exact L84 0 _ H13 lc14 (lv_sub hl [0, 1, 2] rfl) hH16 (by omega)
          · refine zv_iconst hx hb d_M_character_79 ?_
            refine lv_goto (tgt := 84) hx hb d_M_character_80 rfl ?_
            exact L84 1 _ H13 lc14 (lv_sub hl [0, 1, 2] rfl) hH16 (by omega)
    · have k1 : kf r = 1 := by omega
      have lg3 := LnR_k p14 (by omega)
      rw [k1, km_1] at lg3
      refine lv_iload_n hx hb d_M_character_37 rfl (lv_at hl 2 rfl) ?_
      refine zv_iconst hx hb d_M_character_38 ?_
      refine zv_icmp_ne (tgt := 47) hx hb d_M_character_39 rfl (by omega) (by omega) (fun h48 => ?_) (fun h48 => ?_)
      · refine zv_bipush hx hb d_M_character_47 rfl ?_
        rw [hQ]
        exact z_iret hx hb hr hlk hH16 (⟨rfl, ⟨lg, p14, Or.inr ⟨by omega, by omega, chr_1 (by omega) (by rw [k1]; exact ch_na ⟨by omega, by omega⟩ (by omega))⟩⟩⟩) d_M_character_49
      · refine zv_bipush hx hb d_M_character_42 rfl ?_
        refine lv_goto (tgt := 49) hx hb d_M_character_44 rfl ?_
        rw [hQ]
        exact z_iret hx hb hr hlk hH16 (⟨rfl, ⟨lg, p14, Or.inr ⟨by omega, by omega, chr_1 (by omega) (by rw [k1]; exact (by decide : (97 : Int) = chZ (km 1) 1) ▸ (by rw [show i = 1 by omega]))⟩⟩⟩) d_M_character_49
  · refine zv_iconst hx hb d_M_character_25 ?_
    rw [hQ]
    exact z_iret hx hb hr hlk hH16 (⟨rfl, ⟨lg, p14, Or.inl ⟨rfl, by omega⟩⟩⟩) d_M_character_26
def rm_M_scale : Room := { frames := 1, cells := 0, slots := 0, locals := 22 }
set_option maxHeartbeats 4000000 in
set_option maxRecDepth 100000 in
theorem c_M_scale (l : Launch) (E : zE) (w0 : zW) (g : Nat) (ty xm ym ne : Int) (kf sf : Int → Int) (r : Int) (q0lt : g < zn E) (q1lt : g + 1 < zn E) (q2lt : g + 3 < zn E) (c0 : w0 g = .inr (6, [.ref (ad E (g + 1)), .ref (ad E (g + 2)), .ref (ad E (g + 3)), .ref (ad E (g + 4)), .int (iI ty), .ref (ad E (g + 5)), .ref (ad E (g + 6)), .ref (ad E (g + 7)), .ref (ad E (g + 8)), .ref (ad E (g + 9)), .ref (ad E (g + 10)), .int (iI xm), .int (iI ym), .ref (ad E (g + 11)), .int (iI ne), .ref (ad E (g + 12)), .ref (ad E (g + 13))])) (c1 : w0 (g + 1) = zar E 8 kf) (c2 : w0 (g + 3) = zar E 8 sf) (bk : bd kf 8 0 3) (bs : bd sf 8 0 24) (hr0 : 0 ≤ r ∧ r < 8) : zM l y_M_scale ws_M_scale rm_M_scale E [.ref (ad E g), .int (iI r)] w0 (zQi E w0 (fun z w' => w' = w0 ∧ ((kf r ≠ 0 ∧ z = -1) ∨ (kf r = 0 ∧ z = sf r)))) := by
  refine z_met (cc := b_M_scale) (maxL := 2) (ret := (some .int)) (by decide +kernel) rfl (Nat.le_of_ble_eq_true rfl) ?_
  intro p e s m below meth cd ls a Qf hQ hC hl hH
  obtain ⟨hF, hr, hlk, hK, hG, hn⟩ := hC
  obtain ⟨hx, hb, hml, hown, hts⟩ := hF
  have hg : ∀ w ∈ GW, w.before a s = true := fun w h => hts w (List.mem_cons_of_mem _ h)
  have hA : ∀ q, s.heap.size ≤ q → va_A (wl E w0) s.heap.size q := fun q h => Or.inr h
  have hl : lv_has ls 2 [(0, .ref (ad E g)), (1, .int (iI r))] := hl
  have bk8 := bk r hr0.1 hr0.2
  have bs8 := bs r hr0.1 hr0.2
  refine lv_aload_n hx hb d_M_scale_0 rfl (lv_at hl 0 rfl) ?_
  refine lv_iload_n hx hb d_M_scale_1 rfl (lv_at hl 1 rfl) ?_
  refine zv_bipush hx hb d_M_scale_2 rfl ?_
  refine z_calli (va_runV (As := [.int (iI r), .int (iI 7)]) (rest := []) ⟨hx, hb, hml, hown, hts⟩ (c_M_out (l := l) (E := E) (w0 := w0) (g := g) (ty := ty) (xm := xm) (ym := ym) (ne := ne) (v := r) (mo := 7) (q0lt := q0lt) (c0 := c0) (hv := by omega) (hmo := by omega) s.heap.size) (z_cwV (C := "ScaledNumeralDeskModel") 2 hg wm_746 wm_743 wm_9 wm_745 wm_s29 (by decide +kernel) ⟨Nat.le_of_ble_eq_true rfl, Nat.le_of_ble_eq_true rfl⟩) (z_preV (r := ("ScaledNumeralDeskModel", TM, 17)) hK hG hn hH hA q0lt c0 rfl) rfl rfl hl.1 rfl (lv_room (Nat.le_of_ble_eq_true rfl)) d_M_scale_4 ⟨Nat.zero_le _, Nat.zero_le _⟩) hH hA (fun z5 w3 H1 lc2 hH4 q4 => ?_)
  obtain ⟨ew6, q4⟩ := q4
  rw [ew6] at hH4
  replace q4 : (z5 = 1 ∧ (r < 0 ∨ (7 : Int) < r)) ∨ (z5 = 0 ∧ 0 ≤ r ∧ r ≤ (7 : Int)) := q4
  refine zv_if_ne (tgt := 19) hx hb d_M_scale_7 rfl (by omega) (fun h7 => absurd h7 (by omega)) (fun h7 => ?_)
  refine lv_aload_n hx hb d_M_scale_10 rfl (lv_at hl 0 rfl) ?_
  refine zv_get (C := "ScaledNumeralDeskModel") (T := TM) (N := 17) hx hb hg uM_in hown hK hH4 q0lt c0 rfl 0 (by decide) (hg _ wm_682) (fun _ h9 => h9) rfl d_M_scale_11 ?_
  refine lv_iload_n hx hb d_M_scale_14 rfl (lv_at hl 1 rfl) ?_
  refine zv_iald hx hb hK hH4 q1lt c1 (by omega) (by omega) (by omega) d_M_scale_15 ?_
  have b8 := bk r (by omega) (by omega)
  refine zv_if_eq (tgt := 23) hx hb d_M_scale_16 rfl (by omega) (fun h9 => ?_) (fun h9 => ?_)
  · refine lv_aload_n hx hb d_M_scale_23 rfl (lv_at hl 0 rfl) ?_
    refine zv_get (C := "ScaledNumeralDeskModel") (T := TM) (N := 17) hx hb hg uM_in hown hK hH4 q0lt c0 rfl 2 (by decide) (hg _ wm_684) (fun _ h9 => h9) rfl d_M_scale_24 ?_
    refine lv_iload_n hx hb d_M_scale_27 rfl (lv_at hl 1 rfl) ?_
    refine zv_iald hx hb hK hH4 q2lt c2 (by omega) (by omega) (by omega) d_M_scale_28 ?_
    have b10 := bs r (by omega) (by omega)
    rw [hQ]
    exact z_iret hx hb hr hlk hH4 (⟨rfl, by omega⟩) d_M_scale_29
  · refine zv_iconst hx hb d_M_scale_19 ?_
    refine lv_goto (tgt := 29) hx hb d_M_scale_20 rfl ?_
    rw [hQ]
    exact z_iret hx hb hr hlk hH4 (⟨rfl, by omega⟩) d_M_scale_29
