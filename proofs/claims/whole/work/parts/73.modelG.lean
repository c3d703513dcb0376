theorem nx_M_merge_0 {g : Nat}  : g ≠ g + 7 := by omega
theorem nx_M_merge_1 {g : Nat}  : g + 6 ≠ g + 7 := by omega
theorem nx_M_merge_2 {g : Nat}  : g + 8 ≠ g + 7 := by omega
theorem nx_M_merge_3 {g : Nat}  : g ≠ g + 8 := by omega
theorem nx_M_merge_4 {g : Nat}  : g + 6 ≠ g + 8 := by omega
theorem nx_M_merge_5 {g : Nat}  : g + 7 ≠ g + 8 := by omega
theorem nx_M_merge_6 {g : Nat}  : g ≠ g + 6 := by omega
theorem nx_M_merge_7 {g : Nat}  : g + 7 ≠ g + 6 := by omega
theorem nx_M_merge_8 {g : Nat}  : g + 8 ≠ g + 6 := by omega
def rm_M_merge : Room := { frames := 1, cells := 0, slots := 0, locals := 22 }
set_option maxHeartbeats 4000000 in
set_option maxRecDepth 100000 in
theorem c_M_merge (l : Launch) (E : zE) (w0 : zW) (g : Nat) (ty xm ym ne : Int) (su sz cn : Int → Int) (k l1 : Int) (q0lt : g < zn E) (q1lt : g + 6 < zn E) (q2lt : g + 7 < zn E) (q3lt : g + 8 < zn E) (c0 : w0 g = .inr (6, [.ref (ad E (g + 1)), .ref (ad E (g + 2)), .ref (ad E (g + 3)), .ref (ad E (g + 4)), .int (iI ty), .ref (ad E (g + 5)), .ref (ad E (g + 6)), .ref (ad E (g + 7)), .ref (ad E (g + 8)), .ref (ad E (g + 9)), .ref (ad E (g + 10)), .int (iI xm), .int (iI ym), .ref (ad E (g + 11)), .int (iI ne), .ref (ad E (g + 12)), .ref (ad E (g + 13))])) (c1 : w0 (g + 6) = zar E 224 su) (c2 : w0 (g + 7) = zar E 4 sz) (c3 : w0 (g + 8) = zar E 112 cn) (hB : SuB su sz) (bsz : bd sz 4 0 1000) (bcn : bd cn 112 0 1000) (hk0 : 0 ≤ k ∧ k < 4) (hl1 : 0 ≤ l1 ∧ l1 < 4) : zM l y_M_merge ws_M_merge rm_M_merge E [.ref (ad E g), .int (iI k), .int (iI l1)] w0 (zQi E w0 (fun z w' => (∃ (su' : Int → Int) (sz' : Int → Int) (cn' : Int → Int), w' (g + 6) = zar E 224 su' ∧ w' (g + 7) = zar E 4 sz' ∧ w' (g + 8) = zar E 112 cn' ∧ ((z = -2 ∧ 1000 < sz k + sz l1 ∧ su' = su ∧ sz' = sz ∧ cn' = cn) ∨ (z = 0 ∧ sz k + sz l1 ≤ 1000 ∧ Gt su' k = Gt su k + Gt su l1 ∧ (∀ j : Int, ¬ (56 * k ≤ j ∧ j < 56 * k + 56) → su' j = su j) ∧ SuB su' sz' ∧ sz' = up sz k (sz k + sz l1) ∧ (∀ j : Int, 0 ≤ j → j < 28 → cn' (28 * k + j) = cn (28 * k + j) + cn (28 * l1 + j)) ∧ (∀ j : Int, ¬ (28 * k ≤ j ∧ j < 28 * k + 28) → cn' j = cn j)))) ∧ ∀ k, k ≠ (g + 6) → k ≠ (g + 7) → k ≠ (g + 8) → w' k = w0 k)) := by
  refine z_met (cc := b_M_merge) (maxL := 4) (ret := (some .int)) (by decide +kernel) rfl (Nat.le_of_ble_eq_true rfl) ?_
  intro p e s m below meth cd ls a Qf hQ hC hl hH
  obtain ⟨hF, hr, hlk, hK, hG, hn⟩ := hC
  obtain ⟨hx, hb, hml, hown, hts⟩ := hF
  have hg : ∀ w ∈ GW, w.before a s = true := fun w h => hts w (List.mem_cons_of_mem _ h)
  have hA : ∀ q, s.heap.size ≤ q → va_A (wl E w0) s.heap.size q := fun q h => Or.inr h
  have hl : lv_has ls 4 [(0, .ref (ad E g)), (1, .int (iI k)), (2, .int (iI l1))] := hl
  have bszk := bsz k hk0.1 hk0.2
  have bszl := bsz l1 hl1.1 hl1.2
  refine lv_aload_n hx hb d_M_merge_0 rfl (lv_at hl 0 rfl) ?_
  refine lv_iload_n hx hb d_M_merge_1 rfl (lv_at hl 1 rfl) ?_
  refine zv_iconst hx hb d_M_merge_2 ?_
  refine z_calli (va_runV (As := [.int (iI k), .int (iI 3)]) (rest := []) ⟨hx, hb, hml, hown, hts⟩ (c_M_out (l := l) (E := E) (w0 := w0) (g := g) (ty := ty) (xm := xm) (ym := ym) (ne := ne) (v := k) (mo := 3) (q0lt := q0lt) (c0 := c0) (hv := by omega) (hmo := by omega) s.heap.size) (z_cwV (C := "ScaledNumeralDeskModel") 2 hg wm_746 wm_743 wm_9 wm_745 wm_s29 (by decide +kernel) ⟨Nat.le_of_ble_eq_true rfl, Nat.le_of_ble_eq_true rfl⟩) (z_preV (r := ("ScaledNumeralDeskModel", TM, 17)) hK hG hn hH hA q0lt c0 rfl) rfl rfl hl.1 rfl (lv_room (Nat.le_of_ble_eq_true rfl)) d_M_merge_3 ⟨Nat.zero_le _, Nat.zero_le _⟩) hH hA (fun z5 w3 H1 lc2 hH4 q3 => ?_)
  obtain ⟨ew6, q3⟩ := q3
  rw [ew6] at hH4
  replace q3 : (z5 = 1 ∧ (k < 0 ∨ (3 : Int) < k)) ∨ (z5 = 0 ∧ 0 ≤ k ∧ k ≤ (3 : Int)) := q3
  refine zv_if_ne (tgt := 18) hx hb d_M_merge_6 rfl (by omega) (fun h7 => absurd h7 (by omega)) (fun h7 => ?_)
  refine lv_aload_n hx hb d_M_merge_9 rfl (lv_at hl 0 rfl) ?_
  refine lv_iload_n hx hb d_M_merge_10 rfl (lv_at hl 2 rfl) ?_
  refine zv_iconst hx hb d_M_merge_11 ?_
  refine z_calli (va_runV (As := [.int (iI l1), .int (iI 3)]) (rest := []) ⟨hx, hb, hml, hown, hts⟩ (c_M_out (l := l) (E := E) (w0 := w0) (g := g) (ty := ty) (xm := xm) (ym := ym) (ne := ne) (v := l1) (mo := 3) (q0lt := q0lt) (c0 := c0) (hv := by omega) (hmo := by omega) H1.size) (z_cwV (C := "ScaledNumeralDeskModel") 2 hg wm_746 wm_743 wm_9 wm_745 wm_s29 (by decide +kernel) ⟨Nat.le_of_ble_eq_true rfl, Nat.le_of_ble_eq_true rfl⟩) (z_preV (r := ("ScaledNumeralDeskModel", TM, 17)) hK hG hn hH4 hA q0lt c0 rfl) rfl rfl hl.1 rfl (lv_room (Nat.le_of_ble_eq_true rfl)) d_M_merge_12 ⟨Nat.zero_le _, Nat.zero_le _⟩) hH4 hA (fun z12 w10 H8 lc9 hH11 q12 => ?_)
  obtain ⟨ew13, q12⟩ := q12
  rw [ew13] at hH11
  replace q12 : (z12 = 1 ∧ (l1 < 0 ∨ (3 : Int) < l1)) ∨ (z12 = 0 ∧ 0 ≤ l1 ∧ l1 ≤ (3 : Int)) := q12
  refine zv_if_eq (tgt := 20) hx hb d_M_merge_15 rfl (by omega) (fun h14 => ?_) (fun h14 => absurd h14 (by omega))
  refine lv_aload_n hx hb d_M_merge_20 rfl (lv_at hl 0 rfl) ?_
  refine zv_get (C := "ScaledNumeralDeskModel") (T := TM) (N := 17) hx hb hg uM_in hown hK hH11 q0lt c0 rfl 7 (by decide) (hg _ wm_689) (fun _ h9 => h9) rfl d_M_merge_21 ?_
  refine lv_iload_n hx hb d_M_merge_24 rfl (lv_at hl 1 rfl) ?_
  refine zv_iald hx hb hK hH11 q2lt c2 (by omega) (by omega) (by omega) d_M_merge_25 ?_
  refine lv_aload_n hx hb d_M_merge_26 rfl (lv_at hl 0 rfl) ?_
  refine zv_get (C := "ScaledNumeralDeskModel") (T := TM) (N := 17) hx hb hg uM_in hown hK hH11 q0lt c0 rfl 7 (by decide) (hg _ wm_689) (fun _ h9 => h9) rfl d_M_merge_27 ?_
  refine lv_iload_n hx hb d_M_merge_30 rfl (lv_at hl 2 rfl) ?_
  refine zv_iald hx hb hK hH11 q2lt c2 (by omega) (by omega) (by omega) d_M_merge_31 ?_
  refine zv_iadd hx hb d_M_merge_32 ?_
  refine zv_sipush hx hb d_M_merge_33 rfl ?_
  refine zv_icmp_le (tgt := 42) hx hb d_M_merge_36 rfl (by omega) (by omega) (fun h15 => ?_) (fun h15 => ?_)
  · refine zv_iconst hx hb d_M_merge_42 ?_
    refine lv_istore_n (lv' := [(3, .int (iI 0)), (0, .ref (ad E g)), (1, .int (iI k)), (2, .int (iI l1))]) hx hb d_M_merge_43 rfl hl (by decide) rfl (fun ls hl => ?_)
    have L44 : ∀ (fu : Nat) (i : Int) (h : Int → Int) (ls : Array Slot) (H16 : Heap) (lc17 : List Loc) (w18 : zW), (lv_has ls 4 [(0, .ref (ad E g)), (1, .int (iI k)), (2, .int (iI l1)), (3, .int (iI i))]) → (zH E w18 (va_A (wl E w0) s.heap.size) s.heap H16 lc17) → (w18 g = .inr (6, [.ref (ad E (g + 1)), .ref (ad E (g + 2)), .ref (ad E (g + 3)), .ref (ad E (g + 4)), .int (iI ty), .ref (ad E (g + 5)), .ref (ad E (g + 6)), .ref (ad E (g + 7)), .ref (ad E (g + 8)), .ref (ad E (g + 9)), .ref (ad E (g + 10)), .int (iI xm), .int (iI ym), .ref (ad E (g + 11)), .int (iI ne), .ref (ad E (g + 12)), .ref (ad E (g + 13))])) → (w18 (g + 6) = zar E 224 h) → (w18 (g + 7) = zar E 4 sz) → (w18 (g + 8) = zar E 112 cn) → (∀ k, k ≠ (g + 6) → w18 k = w0 k) → (0 ≤ i ∧ i ≤ 56) → (∀ j : Int, 0 ≤ j → j < i → h (56 * k + j) = su (56 * k + j) + su (56 * l1 + j)) → (∀ j : Int, ¬ (56 * k ≤ j ∧ j < 56 * k + i) → h j = su j) → (56 - i < (fu : Int)) → W p l e rm_M_merge s m a below meth cd H16 lc17 0 0 Qf (F0 m 44 ls []) := by
      intro fu
      induction fu with
      | zero => intro i h ls H16 lc17 w18 hl hH e19 e20 e21 e22 hf23 hi hk ho hm; exact absurd hm (by omega)
      | succ fu ih =>
        intro i h ls H16 lc17 w18 hl hH e19 e20 e21 e22 hf23 hi hk ho hm
        refine lv_iload_n hx hb d_M_merge_44 rfl (lv_at hl 3 rfl) ?_
        refine zv_bipush hx hb d_M_merge_45 rfl ?_
        refine zv_icmp_ge (tgt := 81) hx hb d_M_merge_47 rfl (by omega) (by omega) (fun h24 => ?_) (fun h24 => ?_)
        · refine zv_iconst hx hb d_M_merge_81 ?_
          refine lv_istore_n (lv' := [(3, .int (iI 0)), (0, .ref (ad E g)), (1, .int (iI k)), (2, .int (iI l1))]) hx hb d_M_merge_82 rfl hl (by decide) rfl (fun ls hl => ?_)
          have L83 : ∀ (fu : Nat) (i2 : Int) (c2 : Int → Int) (ls : Array Slot) (H25 : Heap) (lc26 : List Loc) (w27 : zW), (lv_has ls 4 [(0, .ref (ad E g)), (1, .int (iI k)), (2, .int (iI l1)), (3, .int (iI i2))]) → (zH E w27 (va_A (wl E w0) s.heap.size) s.heap H25 lc26) → (w27 g = .inr (6, [.ref (ad E (g + 1)), .ref (ad E (g + 2)), .ref (ad E (g + 3)), .ref (ad E (g + 4)), .int (iI ty), .ref (ad E (g + 5)), .ref (ad E (g + 6)), .ref (ad E (g + 7)), .ref (ad E (g + 8)), .ref (ad E (g + 9)), .ref (ad E (g + 10)), .int (iI xm), .int (iI ym), .ref (ad E (g + 11)), .int (iI ne), .ref (ad E (g + 12)), .ref (ad E (g + 13))])) → (w27 (g + 6) = zar E 224 h) → (w27 (g + 7) = zar E 4 sz) → (w27 (g + 8) = zar E 112 c2) → (∀ k, k ≠ (g + 6) → k ≠ (g + 8) → w27 k = w0 k) → (0 ≤ i2 ∧ i2 ≤ 28) → (∀ j : Int, 0 ≤ j → j < i2 → c2 (28 * k + j) = cn (28 * k + j) + cn (28 * l1 + j)) → (∀ j : Int, ¬ (28 * k ≤ j ∧ j < 28 * k + i2) → c2 j = cn j) → (28 - i2 < (fu : Int)) → W p l e rm_M_merge s m a below meth cd H25 lc26 0 0 Qf (F0 m 83 ls []) := by
            intro fu
            induction fu with
            | zero => intro i2 c2 ls H25 lc26 w27 hl hH e28 e29 e30 e31 hf32 hi2 hk2 ho2 hm; exact absurd hm (by omega)
            | succ fu ih83 =>
              intro i2 c2 ls H25 lc26 w27 hl hH e28 e29 e30 e31 hf32 hi2 hk2 ho2 hm
              refine lv_iload_n hx hb d_M_merge_83 rfl (lv_at hl 3 rfl) ?_
              refine zv_bipush hx hb d_M_merge_84 rfl ?_
              refine zv_icmp_ge (tgt := 120) hx hb d_M_merge_86 rfl (by omega) (by omega) (fun h33 => ?_) (fun h33 => ?_)
              · refine lv_aload_n hx hb d_M_merge_120 rfl (lv_at hl 0 rfl) ?_
                refine zv_get (C := "ScaledNumeralDeskModel") (T := TM) (N := 17) hx hb hg uM_in hown hK hH q0lt e28 rfl 7 (by decide) (hg _ wm_689) (fun _ h9 => h9) rfl d_M_merge_121 ?_
                refine lv_iload_n hx hb d_M_merge_124 rfl (lv_at hl 1 rfl) ?_
                refine lv_dup2_11 hx hb d_M_merge_125 rfl rfl ?_
                refine zv_iald hx hb hK hH q2lt e30 (by omega) (by omega) (by omega) d_M_merge_126 ?_
                refine lv_aload_n hx hb d_M_merge_127 rfl (lv_at hl 0 rfl) ?_
                refine zv_get (C := "ScaledNumeralDeskModel") (T := TM) (N := 17) hx hb hg uM_in hown hK hH q0lt e28 rfl 7 (by decide) (hg _ wm_689) (fun _ h9 => h9) rfl d_M_merge_128 ?_
                refine lv_iload_n hx hb d_M_merge_131 rfl (lv_at hl 2 rfl) ?_
                refine zv_iald hx hb hK hH q2lt e30 (by omega) (by omega) (by omega) d_M_merge_132 ?_
                refine zv_iadd hx hb d_M_merge_133 ?_
                refine zv_iast hx hb hK hH q2lt e30 (by omega) (by omega) (by omega) d_M_merge_134 (fun H35 lc36 w34 hH37 e38 hg39 => ?_)
                have e40 : w34 g = .inr (6, [.ref (ad E (g + 1)), .ref (ad E (g + 2)), .ref (ad E (g + 3)), .ref (ad E (g + 4)), .int (iI ty), .ref (ad E (g + 5)), .ref (ad E (g + 6)), .ref (ad E (g + 7)), .ref (ad E (g + 8)), .ref (ad E (g + 9)), .ref (ad E (g + 10)), .int (iI xm), .int (iI ym), .ref (ad E (g + 11)), .int (iI ne), .ref (ad E (g + 12)), .ref (ad E (g + 13))]) := (hg39 g (nx_M_merge_0 )).trans e28
                have e41 : w34 (g + 6) = zar E 224 h := (hg39 (g + 6) (nx_M_merge_1 )).trans e29
                have e42 : w34 (g + 8) = zar E 112 c2 := (hg39 (g + 8) (nx_M_merge_2 )).trans e31
                have hf43 : ∀ k, k ≠ (g + 6) → k ≠ (g + 8) → k ≠ (g + 7) → w34 k = w0 k := fun k g0 g1 g2 => (hg39 k g2).trans (hf32 k g0 g1)
                refine zv_iconst hx hb d_M_merge_135 ?_
                have ho9 : ∀ j : Int, ¬ (56 * k ≤ j ∧ j < 56 * k + 56) → h j = su j := fun j g1 => ho j (by omega)
                have hk9 : ∀ j : Int, 0 ≤ j → j < 56 → h (56 * k + j) = su (56 * k + j) + su (56 * l1 + j) := fun j g1 g2 => hk j g1 (by omega)
                rw [hQ]
                exact z_iret hx hb hr hlk hH37 (⟨⟨h, (up sz k ((sz k) + (sz l1))), c2, e41, e38, e42, Or.inr ⟨rfl, by omega, mg_V hk9, ho9, mg_B hB hk0 hl1 hk9 ho9, rfl, fun j g1 g2 => hk2 j g1 (by omega), fun j g1 => ho2 j (by omega)⟩⟩, (fun k g0 g1 g2 => hf43 k g0 g2 g1)⟩) d_M_merge_136
              · refine lv_aload_n hx hb d_M_merge_89 rfl (lv_at hl 0 rfl) ?_
                refine zv_get (C := "ScaledNumeralDeskModel") (T := TM) (N := 17) hx hb hg uM_in hown hK hH q0lt e28 rfl 8 (by decide) (hg _ wm_690) (fun _ h9 => h9) rfl d_M_merge_90 ?_
                refine zv_bipush hx hb d_M_merge_93 rfl ?_
                refine lv_iload_n hx hb d_M_merge_95 rfl (lv_at hl 1 rfl) ?_
                refine zv_imul hx hb d_M_merge_96 ?_
                refine lv_iload_n hx hb d_M_merge_97 rfl (lv_at hl 3 rfl) ?_
                refine zv_iadd hx hb d_M_merge_98 ?_
                refine lv_dup2_11 hx hb d_M_merge_99 rfl rfl ?_
                refine zv_iald hx hb hK hH q3lt e31 (by omega) (by omega) (by omega) d_M_merge_100 ?_
                refine lv_aload_n hx hb d_M_merge_101 rfl (lv_at hl 0 rfl) ?_
                refine zv_get (C := "ScaledNumeralDeskModel") (T := TM) (N := 17) hx hb hg uM_in hown hK hH q0lt e28 rfl 8 (by decide) (hg _ wm_690) (fun _ h9 => h9) rfl d_M_merge_102 ?_
                refine zv_bipush hx hb d_M_merge_105 rfl ?_
                refine lv_iload_n hx hb d_M_merge_107 rfl (lv_at hl 2 rfl) ?_
                refine zv_imul hx hb d_M_merge_108 ?_
                refine lv_iload_n hx hb d_M_merge_109 rfl (lv_at hl 3 rfl) ?_
                refine zv_iadd hx hb d_M_merge_110 ?_
                refine zv_iald hx hb hK hH q3lt e31 (by omega) (by omega) (by omega) d_M_merge_111 ?_
                refine zv_iadd hx hb d_M_merge_112 ?_
                refine zv_iast hx hb hK hH q3lt e31 (by omega) (by omega) (by omega) d_M_merge_113 (fun H45 lc46 w44 hH47 e48 hg49 => ?_)
                have e50 : w44 g = .inr (6, [.ref (ad E (g + 1)), .ref (ad E (g + 2)), .ref (ad E (g + 3)), .ref (ad E (g + 4)), .int (iI ty), .ref (ad E (g + 5)), .ref (ad E (g + 6)), .ref (ad E (g + 7)), .ref (ad E (g + 8)), .ref (ad E (g + 9)), .ref (ad E (g + 10)), .int (iI xm), .int (iI ym), .ref (ad E (g + 11)), .int (iI ne), .ref (ad E (g + 12)), .ref (ad E (g + 13))]) := (hg49 g (nx_M_merge_3 )).trans e28
                have e51 : w44 (g + 6) = zar E 224 h := (hg49 (g + 6) (nx_M_merge_4 )).trans e29
                have e52 : w44 (g + 7) = zar E 4 sz := (hg49 (g + 7) (nx_M_merge_5 )).trans e30
                have hf53 : ∀ k, k ≠ (g + 6) → k ≠ (g + 8) → w44 k = w0 k := fun k g0 g1 => (hg49 k g1).trans (hf32 k g0 g1)
                refine zv_iinc (k := 3) (lv' := [(3, .int (iI (i2 + 1))), (0, .ref (ad E g)), (1, .int (iI k)), (2, .int (iI l1))]) hx hb d_M_merge_114 hl rfl (by decide) rfl (fun ls hl => ?_)
                refine lv_goto (tgt := 83) hx hb d_M_merge_117 rfl ?_
                exact ih83  (i2 + 1) (up c2 ((28 * k) + i2) ((c2 ((28 * k) + i2)) + (c2 ((28 * l1) + i2)))) _ H45 lc46 w44 (lv_sub hl [1, 2, 3, 0] rfl) hH47 e50 e51 e52 e48 (fun k g0 g1 => hf53 k g0 g1) (by omega) (by intro j g1 g2; by_cases e8 : j = i2; rw [e8, up_at, ho2 (28 * k + i2) (by omega), ho2 (28 * l1 + i2) (by omega)]; rw [up_ne (by omega)]; exact hk2 j g1 (by omega)) (by intro j g1; rw [up_ne (by omega)]; exact ho2 j (by omega)) (by omega)
          exact L83 ((28 - 0 : Int).toNat + 1) 0 cn _ H16 lc17 w18 (lv_sub hl [1, 2, 3, 0] rfl) hH e19 e20 e21 e22 (fun k g0 g1 => hf23 k g0) (by omega) (by intro j g1 g2; omega) (by intro j _; rfl) (by omega)
        · refine lv_aload_n hx hb d_M_merge_50 rfl (lv_at hl 0 rfl) ?_
          refine zv_get (C := "ScaledNumeralDeskModel") (T := TM) (N := 17) hx hb hg uM_in hown hK hH q0lt e19 rfl 6 (by decide) (hg _ wm_688) (fun _ h9 => h9) rfl d_M_merge_51 ?_
          refine zv_bipush hx hb d_M_merge_54 rfl ?_
          refine lv_iload_n hx hb d_M_merge_56 rfl (lv_at hl 1 rfl) ?_
          refine zv_imul hx hb d_M_merge_57 ?_
          refine lv_iload_n hx hb d_M_merge_58 rfl (lv_at hl 3 rfl) ?_
          refine zv_iadd hx hb d_M_merge_59 ?_
          refine lv_dup2_11 hx hb d_M_merge_60 rfl rfl ?_
          refine zv_iald hx hb hK hH q1lt e20 (by omega) (by omega) (by omega) d_M_merge_61 ?_
          refine lv_aload_n hx hb d_M_merge_62 rfl (lv_at hl 0 rfl) ?_
          refine zv_get (C := "ScaledNumeralDeskModel") (T := TM) (N := 17) hx hb hg uM_in hown hK hH q0lt e19 rfl 6 (by decide) (hg _ wm_688) (fun _ h9 => h9) rfl d_M_merge_63 ?_
          refine zv_bipush hx hb d_M_merge_66 rfl ?_
          refine lv_iload_n hx hb d_M_merge_68 rfl (lv_at hl 2 rfl) ?_
          refine zv_imul hx hb d_M_merge_69 ?_
          refine lv_iload_n hx hb d_M_merge_70 rfl (lv_at hl 3 rfl) ?_
          refine zv_iadd hx hb d_M_merge_71 ?_
          refine zv_iald hx hb hK hH q1lt e20 (by omega) (by omega) (by omega) d_M_merge_72 ?_
          refine zv_iadd hx hb d_M_merge_73 ?_
          refine zv_iast hx hb hK hH q1lt e20 (by omega) (by omega) (by omega) d_M_merge_74 (fun H55 lc56 w54 hH57 e58 hg59 => ?_)
          have e60 : w54 g = .inr (6, [.ref (ad E (g + 1)), .ref (ad E (g + 2)), .ref (ad E (g + 3)), .ref (ad E (g + 4)), .int (iI ty), .ref (ad E (g + 5)), .ref (ad E (g + 6)), .ref (ad E (g + 7)), .ref (ad E (g + 8)), .ref (ad E (g + 9)), .ref (ad E (g + 10)), .int (iI xm), .int (iI ym), .ref (ad E (g + 11)), .int (iI ne), .ref (ad E (g + 12)), .ref (ad E (g + 13))]) := (hg59 g (nx_M_merge_6 )).trans e19
          have e61 : w54 (g + 7) = zar E 4 sz := (hg59 (g + 7) (nx_M_merge_7 )).trans e21
          have e62 : w54 (g + 8) = zar E 112 cn := (hg59 (g + 8) (nx_M_merge_8 )).trans e22
          have hf63 : ∀ k, k ≠ (g + 6) → w54 k = w0 k := fun k g0 => (hg59 k g0).trans (hf23 k g0)
          refine zv_iinc (k := 3) (lv' := [(3, .int (iI (i + 1))), (0, .ref (ad E g)), (1, .int (iI k)), (2, .int (iI l1))]) hx hb d_M_merge_75 hl rfl (by decide) rfl (fun ls hl => ?_)
          refine lv_goto (tgt := 44) hx hb d_M_merge_78 rfl ?_
          exact ih  (i + 1) (up h ((56 * k) + i) ((h ((56 * k) + i)) + (h ((56 * l1) + i)))) _ H55 lc56 w54 (lv_sub hl [1, 2, 3, 0] rfl) hH57 e60 e58 e61 e62 (fun k g0 => hf63 k g0) (by omega) (by intro j g1 g2; by_cases e8 : j = i; rw [e8, up_at, ho (56 * k + i) (by omega), ho (56 * l1 + i) (by omega)]; rw [up_ne (by omega)]; exact hk j g1 (by omega)) (by intro j g1; rw [up_ne (by omega)]; exact ho j (by omega)) (by omega)
    exact L44 ((56 - 0 : Int).toNat + 1) 0 su _ H8 lc9 w0 (lv_sub hl [1, 2, 3, 0] rfl) hH11 c0 c1 c2 c3 (fun k _ => rfl) (by omega) (by intro j g1 g2; omega) (by intro j _; rfl) (by omega)
  · refine zv_bipush hx hb d_M_merge_39 rfl ?_
    rw [hQ]
    exact z_iret hx hb hr hlk hH11 (⟨⟨su, sz, cn, c1, c2, c3, Or.inl ⟨rfl, by omega, rfl, rfl, rfl⟩⟩, (fun k _ _ _ => rfl)⟩) d_M_merge_41
theorem nx_M_reset_0 {g : Nat}  : g ≠ g + 7 := by omega
theorem nx_M_reset_1 {g : Nat}  : g + 6 ≠ g + 7 := by omega
theorem nx_M_reset_2 {g : Nat}  : g + 8 ≠ g + 7 := by omega
theorem nx_M_reset_3 {g : Nat}  : g ≠ g + 8 := by omega
theorem nx_M_reset_4 {g : Nat}  : g + 6 ≠ g + 8 := by omega
theorem nx_M_reset_5 {g : Nat}  : g + 7 ≠ g + 8 := by omega
theorem nx_M_reset_6 {g : Nat}  : g ≠ g + 6 := by omega
theorem nx_M_reset_7 {g : Nat}  : g + 7 ≠ g + 6 := by omega
theorem nx_M_reset_8 {g : Nat}  : g + 8 ≠ g + 6 := by omega
def rm_M_reset : Room := { frames := 1, cells := 0, slots := 0, locals := 22 }
set_option maxHeartbeats 4000000 in
set_option maxRecDepth 100000 in
theorem c_M_reset (l : Launch) (E : zE) (w0 : zW) (g : Nat) (ty xm ym ne : Int) (su sz cn : Int → Int) (k : Int) (q0lt : g < zn E) (q1lt : g + 6 < zn E) (q2lt : g + 7 < zn E) (q3lt : g + 8 < zn E) (c0 : w0 g = .inr (6, [.ref (ad E (g + 1)), .ref (ad E (g + 2)), .ref (ad E (g + 3)), .ref (ad E (g + 4)), .int (iI ty), .ref (ad E (g + 5)), .ref (ad E (g + 6)), .ref (ad E (g + 7)), .ref (ad E (g + 8)), .ref (ad E (g + 9)), .ref (ad E (g + 10)), .int (iI xm), .int (iI ym), .ref (ad E (g + 11)), .int (iI ne), .ref (ad E (g + 12)), .ref (ad E (g + 13))])) (c1 : w0 (g + 6) = zar E 224 su) (c2 : w0 (g + 7) = zar E 4 sz) (c3 : w0 (g + 8) = zar E 112 cn) (hB : SuB su sz) (bsz : bd sz 4 0 1000) (bcn : bd cn 112 0 1000) (hk0 : 0 ≤ k ∧ k < 4) : zM l y_M_reset ws_M_reset rm_M_reset E [.ref (ad E g), .int (iI k)] w0 (zQi E w0 (fun z w' => (∃ (su' : Int → Int) (sz' : Int → Int) (cn' : Int → Int), w' (g + 6) = zar E 224 su' ∧ w' (g + 7) = zar E 4 sz' ∧ w' (g + 8) = zar E 112 cn' ∧ (z = 1 ∧ Gt su' k = 0 ∧ (∀ j : Int, ¬ (56 * k ≤ j ∧ j < 56 * k + 56) → su' j = su j) ∧ SuB su' sz' ∧ sz' = up sz k 0 ∧ (∀ j : Int, 0 ≤ j → j < 28 → cn' (28 * k + j) = 0) ∧ (∀ j : Int, ¬ (28 * k ≤ j ∧ j < 28 * k + 28) → cn' j = cn j))) ∧ ∀ k, k ≠ (g + 6) → k ≠ (g + 7) → k ≠ (g + 8) → w' k = w0 k)) := by
  refine z_met (cc := b_M_reset) (maxL := 3) (ret := (some .boolean)) (by decide +kernel) rfl (Nat.le_of_ble_eq_true rfl) ?_
  intro p e s m below meth cd ls a Qf hQ hC hl hH
  obtain ⟨hF, hr, hlk, hK, hG, hn⟩ := hC
  obtain ⟨hx, hb, hml, hown, hts⟩ := hF
  have hg : ∀ w ∈ GW, w.before a s = true := fun w h => hts w (List.mem_cons_of_mem _ h)
  have hA : ∀ q, s.heap.size ≤ q → va_A (wl E w0) s.heap.size q := fun q h => Or.inr h
  have hl : lv_has ls 3 [(0, .ref (ad E g)), (1, .int (iI k))] := hl
  refine lv_aload_n hx hb d_M_reset_0 rfl (lv_at hl 0 rfl) ?_
  refine lv_iload_n hx hb d_M_reset_1 rfl (lv_at hl 1 rfl) ?_
  refine zv_iconst hx hb d_M_reset_2 ?_
  refine z_calli (va_runV (As := [.int (iI k), .int (iI 3)]) (rest := []) ⟨hx, hb, hml, hown, hts⟩ (c_M_out (l := l) (E := E) (w0 := w0) (g := g) (ty := ty) (xm := xm) (ym := ym) (ne := ne) (v := k) (mo := 3) (q0lt := q0lt) (c0 := c0) (hv := by omega) (hmo := by omega) s.heap.size) (z_cwV (C := "ScaledNumeralDeskModel") 2 hg wm_746 wm_743 wm_9 wm_745 wm_s29 (by decide +kernel) ⟨Nat.le_of_ble_eq_true rfl, Nat.le_of_ble_eq_true rfl⟩) (z_preV (r := ("ScaledNumeralDeskModel", TM, 17)) hK hG hn hH hA q0lt c0 rfl) rfl rfl hl.1 rfl (lv_room (Nat.le_of_ble_eq_true rfl)) d_M_reset_3 ⟨Nat.zero_le _, Nat.zero_le _⟩) hH hA (fun z5 w3 H1 lc2 hH4 q3 => ?_)
  obtain ⟨ew6, q3⟩ := q3
  rw [ew6] at hH4
  replace q3 : (z5 = 1 ∧ (k < 0 ∨ (3 : Int) < k)) ∨ (z5 = 0 ∧ 0 ≤ k ∧ k ≤ (3 : Int)) := q3
  refine zv_if_eq (tgt := 11) hx hb d_M_reset_6 rfl (by omega) (fun h7 => ?_) (fun h7 => absurd h7 (by omega))
  refine zv_iconst hx hb d_M_reset_11 ?_
  refine lv_istore_n (lv' := [(2, .int (iI 0)), (0, .ref (ad E g)), (1, .int (iI k))]) hx hb d_M_reset_12 rfl hl (by decide) rfl (fun ls hl => ?_)
  have L13 : ∀ (fu : Nat) (i : Int) (h : Int → Int) (ls : Array Slot) (H8 : Heap) (lc9 : List Loc) (w10 : zW), (lv_has ls 3 [(0, .ref (ad E g)), (1, .int (iI k)), (2, .int (iI i))]) → (zH E w10 (va_A (wl E w0) s.heap.size) s.heap H8 lc9) → (w10 g = .inr (6, [.ref (ad E (g + 1)), .ref (ad E (g + 2)), .ref (ad E (g + 3)), .ref (ad E (g + 4)), .int (iI ty), .ref (ad E (g + 5)), .ref (ad E (g + 6)), .ref (ad E (g + 7)), .ref (ad E (g + 8)), .ref (ad E (g + 9)), .ref (ad E (g + 10)), .int (iI xm), .int (iI ym), .ref (ad E (g + 11)), .int (iI ne), .ref (ad E (g + 12)), .ref (ad E (g + 13))])) → (w10 (g + 6) = zar E 224 h) → (w10 (g + 7) = zar E 4 sz) → (w10 (g + 8) = zar E 112 cn) → (∀ k, k ≠ (g + 6) → w10 k = w0 k) → (0 ≤ i ∧ i ≤ 56) → (∀ j : Int, 0 ≤ j → j < i → h (56 * k + j) = 0) → (∀ j : Int, ¬ (56 * k ≤ j ∧ j < 56 * k + i) → h j = su j) → (56 - i < (fu : Int)) → W p l e rm_M_reset s m a below meth cd H8 lc9 0 0 Qf (F0 m 13 ls []) := by
    intro fu
    induction fu with
    | zero => intro i h ls H8 lc9 w10 hl hH e11 e12 e13 e14 hf15 hi hk ho hm; exact absurd hm (by omega)
    | succ fu ih =>
      intro i h ls H8 lc9 w10 hl hH e11 e12 e13 e14 hf15 hi hk ho hm
      refine lv_iload_n hx hb d_M_reset_13 rfl (lv_at hl 2 rfl) ?_
      refine zv_bipush hx hb d_M_reset_14 rfl ?_
      refine zv_icmp_ge (tgt := 37) hx hb d_M_reset_16 rfl (by omega) (by omega) (fun h16 => ?_) (fun h16 => ?_)
      · refine zv_iconst hx hb d_M_reset_37 ?_
        refine lv_istore_n (lv' := [(2, .int (iI 0)), (0, .ref (ad E g)), (1, .int (iI k))]) hx hb d_M_reset_38 rfl hl (by decide) rfl (fun ls hl => ?_)
        have L39 : ∀ (fu : Nat) (i2 : Int) (c2 : Int → Int) (ls : Array Slot) (H17 : Heap) (lc18 : List Loc) (w19 : zW), (lv_has ls 3 [(0, .ref (ad E g)), (1, .int (iI k)), (2, .int (iI i2))]) → (zH E w19 (va_A (wl E w0) s.heap.size) s.heap H17 lc18) → (w19 g = .inr (6, [.ref (ad E (g + 1)), .ref (ad E (g + 2)), .ref (ad E (g + 3)), .ref (ad E (g + 4)), .int (iI ty), .ref (ad E (g + 5)), .ref (ad E (g + 6)), .ref (ad E (g + 7)), .ref (ad E (g + 8)), .ref (ad E (g + 9)), .ref (ad E (g + 10)), .int (iI xm), .int (iI ym), .ref (ad E (g + 11)), .int (iI ne), .ref (ad E (g + 12)), .ref (ad E (g + 13))])) → (w19 (g + 6) = zar E 224 h) → (w19 (g + 7) = zar E 4 sz) → (w19 (g + 8) = zar E 112 c2) → (∀ k, k ≠ (g + 6) → k ≠ (g + 8) → w19 k = w0 k) → (0 ≤ i2 ∧ i2 ≤ 28) → (∀ j : Int, 0 ≤ j → j < i2 → c2 (28 * k + j) = 0) → (∀ j : Int, ¬ (28 * k ≤ j ∧ j < 28 * k + i2) → c2 j = cn j) → (28 - i2 < (fu : Int)) → W p l e rm_M_reset s m a below meth cd H17 lc18 0 0 Qf (F0 m 39 ls []) := by
          intro fu
          induction fu with
          | zero => intro i2 c2 ls H17 lc18 w19 hl hH e20 e21 e22 e23 hf24 hi2 hk2 ho2 hm; exact absurd hm (by omega)
          | succ fu ih39 =>
            intro i2 c2 ls H17 lc18 w19 hl hH e20 e21 e22 e23 hf24 hi2 hk2 ho2 hm
            refine lv_iload_n hx hb d_M_reset_39 rfl (lv_at hl 2 rfl) ?_
            refine zv_bipush hx hb d_M_reset_40 rfl ?_
            refine zv_icmp_ge (tgt := 63) hx hb d_M_reset_42 rfl (by omega) (by omega) (fun h25 => ?_) (fun h25 => ?_)
            · refine lv_aload_n hx hb d_M_reset_63 rfl (lv_at hl 0 rfl) ?_
              refine zv_get (C := "ScaledNumeralDeskModel") (T := TM) (N := 17) hx hb hg uM_in hown hK hH q0lt e20 rfl 7 (by decide) (hg _ wm_689) (fun _ h9 => h9) rfl d_M_reset_64 ?_
              refine lv_iload_n hx hb d_M_reset_67 rfl (lv_at hl 1 rfl) ?_
              refine zv_iconst hx hb d_M_reset_68 ?_
              refine zv_iast hx hb hK hH q2lt e22 (by omega) (by omega) (by omega) d_M_reset_69 (fun H27 lc28 w26 hH29 e30 hg31 => ?_)
              have e32 : w26 g = .inr (6, [.ref (ad E (g + 1)), .ref (ad E (g + 2)), .ref (ad E (g + 3)), .ref (ad E (g + 4)), .int (iI ty), .ref (ad E (g + 5)), .ref (ad E (g + 6)), .ref (ad E (g + 7)), .ref (ad E (g + 8)), .ref (ad E (g + 9)), .ref (ad E (g + 10)), .int (iI xm), .int (iI ym), .ref (ad E (g + 11)), .int (iI ne), .ref (ad E (g + 12)), .ref (ad E (g + 13))]) := (hg31 g (nx_M_reset_0 )).trans e20
              have e33 : w26 (g + 6) = zar E 224 h := (hg31 (g + 6) (nx_M_reset_1 )).trans e21
              have e34 : w26 (g + 8) = zar E 112 c2 := (hg31 (g + 8) (nx_M_reset_2 )).trans e23
              have hf35 : ∀ k, k ≠ (g + 6) → k ≠ (g + 8) → k ≠ (g + 7) → w26 k = w0 k := fun k g0 g1 g2 => (hg31 k g2).trans (hf24 k g0 g1)
              refine zv_iconst hx hb d_M_reset_70 ?_
              have ho9 : ∀ j : Int, ¬ (56 * k ≤ j ∧ j < 56 * k + 56) → h j = su j := fun j g1 => ho j (by omega)
              have hk9 : ∀ j : Int, 0 ≤ j → j < 56 → h (56 * k + j) = 0 := fun j g1 g2 => hk j g1 (by omega)
              rw [hQ]
              exact z_zret hx hb hr hlk hH29 (⟨⟨h, (up sz k 0), c2, e33, e30, e34, ⟨rfl, Vt_zero (by decide) hk9, ho9, rs_B hB hk9 ho9, rfl, fun j g1 g2 => hk2 j g1 (by omega), fun j g1 => ho2 j (by omega)⟩⟩, (fun k g0 g1 g2 => hf35 k g0 g2 g1)⟩) (by exact nar_z (by omega)) d_M_reset_71
            · refine lv_aload_n hx hb d_M_reset_45 rfl (lv_at hl 0 rfl) ?_
              refine zv_get (C := "ScaledNumeralDeskModel") (T := TM) (N := 17) hx hb hg uM_in hown hK hH q0lt e20 rfl 8 (by decide) (hg _ wm_690) (fun _ h9 => h9) rfl d_M_reset_46 ?_
              refine zv_bipush hx hb d_M_reset_49 rfl ?_
              refine lv_iload_n hx hb d_M_reset_51 rfl (lv_at hl 1 rfl) ?_
              refine zv_imul hx hb d_M_reset_52 ?_
              refine lv_iload_n hx hb d_M_reset_53 rfl (lv_at hl 2 rfl) ?_
              refine zv_iadd hx hb d_M_reset_54 ?_
              refine zv_iconst hx hb d_M_reset_55 ?_
              refine zv_iast hx hb hK hH q3lt e23 (by omega) (by omega) (by omega) d_M_reset_56 (fun H37 lc38 w36 hH39 e40 hg41 => ?_)
              have e42 : w36 g = .inr (6, [.ref (ad E (g + 1)), .ref (ad E (g + 2)), .ref (ad E (g + 3)), .ref (ad E (g + 4)), .int (iI ty), .ref (ad E (g + 5)), .ref (ad E (g + 6)), .ref (ad E (g + 7)), .ref (ad E (g + 8)), .ref (ad E (g + 9)), .ref (ad E (g + 10)), .int (iI xm), .int (iI ym), .ref (ad E (g + 11)), .int (iI ne), .ref (ad E (g + 12)), .ref (ad E (g + 13))]) := (hg41 g (nx_M_reset_3 )).trans e20
              have e43 : w36 (g + 6) = zar E 224 h := (hg41 (g + 6) (nx_M_reset_4 )).trans e21
              have e44 : w36 (g + 7) = zar E 4 sz := (hg41 (g + 7) (nx_M_reset_5 )).trans e22
              have hf45 : ∀ k, k ≠ (g + 6) → k ≠ (g + 8) → w36 k = w0 k := fun k g0 g1 => (hg41 k g1).trans (hf24 k g0 g1)
              refine zv_iinc (k := 2) (lv' := [(2, .int (iI (i2 + 1))), (0, .ref (ad E g)), (1, .int (iI k))]) hx hb d_M_reset_57 hl rfl (by decide) rfl (fun ls hl => ?_)
              refine lv_goto (tgt := 39) hx hb d_M_reset_60 rfl ?_
              exact ih39  (i2 + 1) (up c2 ((28 * k) + i2) 0) _ H37 lc38 w36 (lv_sub hl [1, 2, 0] rfl) hH39 e42 e43 e44 e40 (fun k g0 g1 => hf45 k g0 g1) (by omega) (by intro j g1 g2; by_cases e8 : j = i2; rw [e8, up_at]; rw [up_ne (by omega)]; exact hk2 j g1 (by omega)) (by intro j g1; rw [up_ne (by omega)]; exact ho2 j (by omega)) (by omega)
        exact L39 ((28 - 0 : Int).toNat + 1) 0 cn _ H8 lc9 w10 (lv_sub hl [1, 2, 0] rfl) hH e11 e12 e13 e14 (fun k g0 g1 => hf15 k g0) (by omega) (by intro j g1 g2; omega) (by intro j _; rfl) (by omega)
      · refine lv_aload_n hx hb d_M_reset_19 rfl (lv_at hl 0 rfl) ?_
        refine zv_get (C := "ScaledNumeralDeskModel") (T := TM) (N := 17) hx hb hg uM_in hown hK hH q0lt e11 rfl 6 (by decide) (hg _ wm_688) (fun _ h9 => h9) rfl d_M_reset_20 ?_
        refine zv_bipush hx hb d_M_reset_23 rfl ?_
        refine lv_iload_n hx hb d_M_reset_25 rfl (lv_at hl 1 rfl) ?_
        refine zv_imul hx hb d_M_reset_26 ?_
        refine lv_iload_n hx hb d_M_reset_27 rfl (lv_at hl 2 rfl) ?_
        refine zv_iadd hx hb d_M_reset_28 ?_
        refine zv_iconst hx hb d_M_reset_29 ?_
        refine zv_iast hx hb hK hH q1lt e12 (by omega) (by omega) (by omega) d_M_reset_30 (fun H47 lc48 w46 hH49 e50 hg51 => ?_)
        have e52 : w46 g = .inr (6, [.ref (ad E (g + 1)), .ref (ad E (g + 2)), .ref (ad E (g + 3)), .ref (ad E (g + 4)), .int (iI ty), .ref (ad E (g + 5)), .ref (ad E (g + 6)), .ref (ad E (g + 7)), .ref (ad E (g + 8)), .ref (ad E (g + 9)), .ref (ad E (g + 10)), .int (iI xm), .int (iI ym), .ref (ad E (g + 11)), .int (iI ne), .ref (ad E (g + 12)), .ref (ad E (g + 13))]) := (hg51 g (nx_M_reset_6 )).trans e11
        have e53 : w46 (g + 7) = zar E 4 sz := (hg51 (g + 7) (nx_M_reset_7 )).trans e13
        have e54 : w46 (g + 8) = zar E 112 cn := (hg51 (g + 8) (nx_M_reset_8 )).trans e14
        have hf55 : ∀ k, k ≠ (g + 6) → w46 k = w0 k := fun k g0 => (hg51 k g0).trans (hf15 k g0)
        refine zv_iinc (k := 2) (lv' := [(2, .int (iI (i + 1))), (0, .ref (ad E g)), (1, .int (iI k))]) hx hb d_M_reset_31 hl rfl (by decide) rfl (fun ls hl => ?_)
        refine lv_goto (tgt := 13) hx hb d_M_reset_34 rfl ?_
        exact ih  (i + 1) (up h ((56 * k) + i) 0) _ H47 lc48 w46 (lv_sub hl [1, 2, 0] rfl) hH49 e52 e50 e53 e54 (fun k g0 => hf55 k g0) (by omega) (by intro j g1 g2; by_cases e8 : j = i; rw [e8, up_at]; rw [up_ne (by omega)]; exact hk j g1 (by omega)) (by intro j g1; rw [up_ne (by omega)]; exact ho j (by omega)) (by omega)
  exact L13 ((56 - 0 : Int).toNat + 1) 0 su _ H1 lc2 w0 (lv_sub hl [1, 2, 0] rfl) hH4 c0 c1 c2 c3 (fun k _ => rfl) (by omega) (by intro j g1 g2; omega) (by intro j _; rfl) (by omega)
def rm_M_count : Room := { frames := 1, cells := 0, slots := 0, locals := 22 }
set_option maxHeartbeats 4000000 in
set_option maxRecDepth 100000 in
theorem c_M_count (l : Launch) (E : zE) (w0 : zW) (g : Nat) (ty xm ym ne : Int) (cn : Int → Int) (k : Int) (q0lt : g < zn E) (q1lt : g + 8 < zn E) (c0 : w0 g = .inr (6, [.ref (ad E (g + 1)), .ref (ad E (g + 2)), .ref (ad E (g + 3)), .ref (ad E (g + 4)), .int (iI ty), .ref (ad E (g + 5)), .ref (ad E (g + 6)), .ref (ad E (g + 7)), .ref (ad E (g + 8)), .ref (ad E (g + 9)), .ref (ad E (g + 10)), .int (iI xm), .int (iI ym), .ref (ad E (g + 11)), .int (iI ne), .ref (ad E (g + 12)), .ref (ad E (g + 13))])) (c1 : w0 (g + 8) = zar E 112 cn) (bcn : bd cn 112 0 1000) (hk0 : 0 ≤ k ∧ k < 4) : zM l y_M_count ws_M_count rm_M_count E [.ref (ad E g), .int (iI k)] w0 (zQi E w0 (fun z w' => w' = w0 ∧ (z = Sm (fun j => cn (28 * k + j)) 28 ∧ 0 ≤ z ∧ z ≤ 28000))) := by
  refine z_met (cc := b_M_count) (maxL := 4) (ret := (some .int)) (by decide +kernel) rfl (Nat.le_of_ble_eq_true rfl) ?_
  intro p e s m below meth cd ls a Qf hQ hC hl hH
  obtain ⟨hF, hr, hlk, hK, hG, hn⟩ := hC
  obtain ⟨hx, hb, hml, hown, hts⟩ := hF
  have hg : ∀ w ∈ GW, w.before a s = true := fun w h => hts w (List.mem_cons_of_mem _ h)
  have hA : ∀ q, s.heap.size ≤ q → va_A (wl E w0) s.heap.size q := fun q h => Or.inr h
  have hl : lv_has ls 4 [(0, .ref (ad E g)), (1, .int (iI k))] := hl
  refine lv_aload_n hx hb d_M_count_0 rfl (lv_at hl 0 rfl) ?_
  refine lv_iload_n hx hb d_M_count_1 rfl (lv_at hl 1 rfl) ?_
  refine zv_iconst hx hb d_M_count_2 ?_
  refine z_calli (va_runV (As := [.int (iI k), .int (iI 3)]) (rest := []) ⟨hx, hb, hml, hown, hts⟩ (c_M_out (l := l) (E := E) (w0 := w0) (g := g) (ty := ty) (xm := xm) (ym := ym) (ne := ne) (v := k) (mo := 3) (q0lt := q0lt) (c0 := c0) (hv := by omega) (hmo := by omega) s.heap.size) (z_cwV (C := "ScaledNumeralDeskModel") 2 hg wm_746 wm_743 wm_9 wm_745 wm_s29 (by decide +kernel) ⟨Nat.le_of_ble_eq_true rfl, Nat.le_of_ble_eq_true rfl⟩) (z_preV (r := ("ScaledNumeralDeskModel", TM, 17)) hK hG hn hH hA q0lt c0 rfl) rfl rfl hl.1 rfl (lv_room (Nat.le_of_ble_eq_true rfl)) d_M_count_3 ⟨Nat.zero_le _, Nat.zero_le _⟩) hH hA (fun z5 w3 H1 lc2 hH4 q3 => ?_)
  obtain ⟨ew6, q3⟩ := q3
  rw [ew6] at hH4
  replace q3 : (z5 = 1 ∧ (k < 0 ∨ (3 : Int) < k)) ∨ (z5 = 0 ∧ 0 ≤ k ∧ k ≤ (3 : Int)) := q3
  refine zv_if_eq (tgt := 11) hx hb d_M_count_6 rfl (by omega) (fun h7 => ?_) (fun h7 => absurd h7 (by omega))
  refine zv_iconst hx hb d_M_count_11 ?_
  refine lv_istore_n (lv' := [(2, .int (iI 0)), (0, .ref (ad E g)), (1, .int (iI k))]) hx hb d_M_count_12 rfl hl (by decide) rfl (fun ls hl => ?_)
  refine zv_iconst hx hb d_M_count_13 ?_
  refine lv_istore_n (lv' := [(3, .int (iI 0)), (2, .int (iI 0)), (0, .ref (ad E g)), (1, .int (iI k))]) hx hb d_M_count_14 rfl hl (by decide) rfl (fun ls hl => ?_)
  have L15 : ∀ (fu : Nat) (i : Int) (u : Int) (ls : Array Slot) (H8 : Heap) (lc9 : List Loc), (lv_has ls 4 [(3, .int (iI i)), (2, .int (iI u)), (0, .ref (ad E g)), (1, .int (iI k))]) → (zH E w0 (va_A (wl E w0) s.heap.size) s.heap H8 lc9) → (0 ≤ i ∧ i ≤ 28) → (u = Sm (fun j => cn (28 * k + j)) i) → (0 ≤ u ∧ u ≤ i * 1000) → (28 - i < (fu : Int)) → W p l e rm_M_count s m a below meth cd H8 lc9 0 0 Qf (F0 m 15 ls []) := by
    intro fu
    induction fu with
    | zero => intro i u ls H8 lc9 hl hH hi hu hb9 hm; exact absurd hm (by omega)
    | succ fu ih =>
      intro i u ls H8 lc9 hl hH hi hu hb9 hm
      refine lv_iload_n hx hb d_M_count_15 rfl (lv_at hl 0 rfl) ?_
      refine zv_bipush hx hb d_M_count_16 rfl ?_
      refine zv_icmp_ge (tgt := 41) hx hb d_M_count_18 rfl (by omega) (by omega) (fun h10 => ?_) (fun h10 => ?_)
      · refine lv_iload_n hx hb d_M_count_41 rfl (lv_at hl 1 rfl) ?_
        rw [hQ]
        exact z_iret hx hb hr hlk hH (⟨rfl, ⟨by rw [hu, show i = 28 by omega], by omega, by omega⟩⟩) d_M_count_42
      · refine lv_iload_n hx hb d_M_count_21 rfl (lv_at hl 1 rfl) ?_
        refine lv_aload_n hx hb d_M_count_22 rfl (lv_at hl 2 rfl) ?_
        refine zv_get (C := "ScaledNumeralDeskModel") (T := TM) (N := 17) hx hb hg uM_in hown hK hH q0lt c0 rfl 8 (by decide) (hg _ wm_690) (fun _ h9 => h9) rfl d_M_count_23 ?_
        refine zv_bipush hx hb d_M_count_26 rfl ?_
        refine lv_iload_n hx hb d_M_count_28 rfl (lv_at hl 3 rfl) ?_
        refine zv_imul hx hb d_M_count_29 ?_
        refine lv_iload_n hx hb d_M_count_30 rfl (lv_at hl 0 rfl) ?_
        refine zv_iadd hx hb d_M_count_31 ?_
        refine zv_iald hx hb hK hH q1lt c1 (by omega) (by omega) (by omega) d_M_count_32 ?_
        have b11 := bcn ((28 * k) + i) (by omega) (by omega)
        refine zv_iadd hx hb d_M_count_33 ?_
        refine lv_istore_n (lv' := [(2, .int (iI (u + (cn ((28 * k) + i))))), (3, .int (iI i)), (0, .ref (ad E g)), (1, .int (iI k))]) hx hb d_M_count_34 rfl hl (by decide) rfl (fun ls hl => ?_)
        refine zv_iinc (k := 1) (lv' := [(3, .int (iI (i + 1))), (2, .int (iI (u + (cn ((28 * k) + i))))), (0, .ref (ad E g)), (1, .int (iI k))]) hx hb d_M_count_35 hl rfl (by decide) rfl (fun ls hl => ?_)
        refine lv_goto (tgt := 15) hx hb d_M_count_38 rfl ?_
        exact ih  (i + 1) (u + (cn ((28 * k) + i))) _ H8 lc9 (lv_sub hl [0, 1, 2, 3] rfl) hH (by omega) (by rw [Sm_s _ hi.1, hu]) (by omega) (by omega)
  exact L15 ((28 - 0 : Int).toNat + 1) 0 0 _ H1 lc2 (lv_sub hl [0, 1, 2, 3] rfl) hH4 (by omega) (by rfl) (by omega) (by omega)
