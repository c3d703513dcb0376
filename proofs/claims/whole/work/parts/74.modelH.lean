theorem nx_M_result_0 {g : Nat}  : g ≠ g + 1 := by omega
theorem nx_M_result_1 {g : Nat}  : g + 11 ≠ g + 1 := by omega
theorem nx_M_result_2 {g : Nat}  : g + 6 ≠ g + 1 := by omega
theorem nx_M_result_3 {g : Nat}  : g + 8 ≠ g + 1 := by omega
theorem nx_M_result_4 {g : Nat}  : g + 2 ≠ g + 1 := by omega
theorem nx_M_result_5 {g : Nat}  : g + 3 ≠ g + 1 := by omega
theorem nx_M_result_6 {g : Nat}  : g + 4 ≠ g + 1 := by omega
theorem nx_M_result_7 {g : Nat}  : g + 6 ≠ g := by omega
theorem nx_M_result_8 {g : Nat}  : g + 6 ≠ g + 11 := by omega
theorem nx_M_result_9 {g : Nat}  : g + 8 ≠ g := by omega
theorem nx_M_result_10 {g : Nat}  : g + 8 ≠ g + 11 := by omega
theorem nx_M_result_11 {g : Nat}  : g + 1 ≠ g := by omega
theorem nx_M_result_12 {g : Nat}  : g + 1 ≠ g + 11 := by omega
theorem nx_M_result_13 {g : Nat}  : g + 2 ≠ g := by omega
theorem nx_M_result_14 {g : Nat}  : g + 2 ≠ g + 11 := by omega
theorem nx_M_result_15 {g : Nat}  : g + 3 ≠ g := by omega
theorem nx_M_result_16 {g : Nat}  : g + 3 ≠ g + 11 := by omega
theorem nx_M_result_17 {g : Nat}  : g + 4 ≠ g := by omega
theorem nx_M_result_18 {g : Nat}  : g + 4 ≠ g + 11 := by omega
theorem nx_M_result_19 {g : Nat}  : g + 6 ≠ g + 2 := by omega
theorem nx_M_result_20 {g : Nat}  : g + 6 ≠ g + 3 := by omega
theorem nx_M_result_21 {g : Nat}  : g + 6 ≠ g + 4 := by omega
theorem nx_M_result_22 {g : Nat}  : g + 8 ≠ g + 2 := by omega
theorem nx_M_result_23 {g : Nat}  : g + 8 ≠ g + 3 := by omega
theorem nx_M_result_24 {g : Nat}  : g + 8 ≠ g + 4 := by omega
theorem nx_M_result_25 {g : Nat}  : g ≠ g + 11 := by omega
def rm_M_result : Room := { frames := 4, cells := 0, slots := 0, locals := 90 }
set_option maxHeartbeats 4000000 in
set_option maxRecDepth 100000 in
theorem c_M_result (l : Launch) (E : zE) (w0 : zW) (g : Nat) (ty xm ym ne : Int) (f su cn kf mf sf G : Int → Int) (sz : Int → Int) (d k : Int) (q0lt : g < zn E) (q1lt : g + 11 < zn E) (q2lt : g + 6 < zn E) (q3lt : g + 8 < zn E) (q4lt : g + 1 < zn E) (q5lt : g + 2 < zn E) (q6lt : g + 3 < zn E) (q7lt : g + 4 < zn E) (c0 : w0 g = .inr (6, [.ref (ad E (g + 1)), .ref (ad E (g + 2)), .ref (ad E (g + 3)), .ref (ad E (g + 4)), .int (iI ty), .ref (ad E (g + 5)), .ref (ad E (g + 6)), .ref (ad E (g + 7)), .ref (ad E (g + 8)), .ref (ad E (g + 9)), .ref (ad E (g + 10)), .int (iI xm), .int (iI ym), .ref (ad E (g + 11)), .int (iI ne), .ref (ad E (g + 12)), .ref (ad E (g + 13))])) (c1 : w0 (g + 11) = zar E 140 f) (c2 : w0 (g + 6) = zar E 224 su) (c3 : w0 (g + 8) = zar E 112 cn) (c4 : w0 (g + 1) = zar E 8 kf) (c5 : w0 (g + 2) = zaz E 8 mf) (c6 : w0 (g + 3) = zar E 8 sf) (c7 : w0 (g + 4) = zar E 448 G) (bk : bd kf 8 0 3) (bm : bd mf 8 0 1) (bs : bd sf 8 0 24) (bG : bd G 448 0 9) (hB : SuB su sz) (bsz : bd sz 4 0 1000) (bcn : bd cn 112 0 1000) (hne : ne = 0 ∨ ne = 1) (hd : 0 ≤ d ∧ d < 8) (hk0 : 0 ≤ k ∧ k < 4) (bf : bd f 140 0 9) : zM l y_M_result ws_M_result rm_M_result E [.ref (ad E g), .int (iI d), .int (iI k)] w0 (zQi E w0 (fun z w' => (∃ (n' : Int) (f' : Int → Int) (k' : Int → Int) (m' : Int → Int) (s' : Int → Int) (G' : Int → Int), w' g = .inr (6, [.ref (ad E (g + 1)), .ref (ad E (g + 2)), .ref (ad E (g + 3)), .ref (ad E (g + 4)), .int (iI ty), .ref (ad E (g + 5)), .ref (ad E (g + 6)), .ref (ad E (g + 7)), .ref (ad E (g + 8)), .ref (ad E (g + 9)), .ref (ad E (g + 10)), .int (iI xm), .int (iI ym), .ref (ad E (g + 11)), .int (iI n'), .ref (ad E (g + 12)), .ref (ad E (g + 13))]) ∧ w' (g + 11) = zar E 140 f' ∧ w' (g + 1) = zar E 8 k' ∧ w' (g + 2) = zaz E 8 m' ∧ w' (g + 3) = zar E 8 s' ∧ w' (g + 4) = zar E 448 G' ∧ bd f' 140 0 9 ∧ bd k' 8 0 3 ∧ bd m' 8 0 1 ∧ bd s' 8 0 24 ∧ bd G' 448 0 9 ∧ ((n' = 0 ∨ n' = 1) ∧ RsR z d (cn (28 * k + 25)) (cn (28 * k + 26)) (cn (28 * k + 27)) (Gt su k) (fun j => cn (28 * k + j)) kf sf mf G k' s' m' G')) ∧ ∀ k, k ≠ g → k ≠ (g + 11) → k ≠ (g + 1) → k ≠ (g + 2) → k ≠ (g + 3) → k ≠ (g + 4) → w' k = w0 k)) := by
  refine z_met (cc := b_M_result) (maxL := 8) (ret := (some .int)) (by decide +kernel) rfl (Nat.le_of_ble_eq_true rfl) ?_
  intro p e s m below meth cd ls a Qf hQ hC hl hH
  obtain ⟨hF, hr, hlk, hK, hG, hn⟩ := hC
  obtain ⟨hx, hb, hml, hown, hts⟩ := hF
  have hg : ∀ w ∈ GW, w.before a s = true := fun w h => hts w (List.mem_cons_of_mem _ h)
  have hA : ∀ q, s.heap.size ≤ q → va_A (wl E w0) s.heap.size q := fun q h => Or.inr h
  have hl : lv_has ls 8 [(0, .ref (ad E g)), (1, .int (iI d)), (2, .int (iI k))] := hl
  have bszk := bsz k hk0.1 hk0.2
  have gsi := Gs_lt (Gs_in bszk.1 hB hk0) (by omega)
  refine zv_bipush hx hb d_M_result_0 rfl ?_
  refine lv_iload_n hx hb d_M_result_2 rfl (lv_at hl 2 rfl) ?_
  refine zv_imul hx hb d_M_result_3 ?_
  refine lv_istore_n (lv' := [(3, .int (iI (28 * k))), (0, .ref (ad E g)), (1, .int (iI d)), (2, .int (iI k))]) hx hb d_M_result_4 rfl hl (by decide) rfl (fun ls hl => ?_)
  refine lv_aload_n hx hb d_M_result_5 rfl (lv_at hl 1 rfl) ?_
  refine zv_get (C := "ScaledNumeralDeskModel") (T := TM) (N := 17) hx hb hg uM_in hown hK hH q0lt c0 rfl 8 (by decide) (hg _ wm_690) (fun _ h9 => h9) rfl d_M_result_6 ?_
  refine lv_iload_n hx hb d_M_result_9 rfl (lv_at hl 0 rfl) ?_
  refine zv_bipush hx hb d_M_result_10 rfl ?_
  refine zv_iadd hx hb d_M_result_12 ?_
  refine zv_iald hx hb hK hH q3lt c3 (by omega) (by omega) (by omega) d_M_result_13 ?_
  have b1 := bcn ((28 * k) + 26) (by omega) (by omega)
  have L22 : ∀ (u : Int) (ls : Array Slot) (H2 : Heap) (lc3 : List Loc), (lv_has ls 8 [(3, .int (iI (28 * k))), (0, .ref (ad E g)), (1, .int (iI d)), (2, .int (iI k))]) → (zH E w0 (va_A (wl E w0) s.heap.size) s.heap H2 lc3) → ((u = 1 ∧ 0 < cn (28 * k + 26)) ∨ (u = 0 ∧ ¬ 0 < cn (28 * k + 26))) → W p l e rm_M_result s m a below meth cd H2 lc3 0 0 Qf (F0 m 22 ls [.int (iI u)]) := by
    intro u ls H2 lc3 hl hH hu
    refine lv_istore (lv' := [(4, .int (iI u)), (3, .int (iI (28 * k))), (0, .ref (ad E g)), (1, .int (iI d)), (2, .int (iI k))]) hx hb d_M_result_22 hl (by decide) rfl (fun ls hl => ?_)
    refine lv_aload_n hx hb d_M_result_24 rfl (lv_at hl 2 rfl) ?_
    refine zv_get (C := "ScaledNumeralDeskModel") (T := TM) (N := 17) hx hb hg uM_in hown hK hH q0lt c0 rfl 8 (by decide) (hg _ wm_690) (fun _ h9 => h9) rfl d_M_result_25 ?_
    refine lv_iload_n hx hb d_M_result_28 rfl (lv_at hl 1 rfl) ?_
    refine zv_bipush hx hb d_M_result_29 rfl ?_
    refine zv_iadd hx hb d_M_result_31 ?_
    refine zv_iald hx hb hK hH q3lt c3 (by omega) (by omega) (by omega) d_M_result_32 ?_
    have b4 := bcn ((28 * k) + 27) (by omega) (by omega)
    have L41 : ∀ (v : Int) (ls : Array Slot) (H5 : Heap) (lc6 : List Loc), (lv_has ls 8 [(4, .int (iI u)), (3, .int (iI (28 * k))), (0, .ref (ad E g)), (1, .int (iI d)), (2, .int (iI k))]) → (zH E w0 (va_A (wl E w0) s.heap.size) s.heap H5 lc6) → ((v = 1 ∧ 0 < cn (28 * k + 27)) ∨ (v = 0 ∧ ¬ 0 < cn (28 * k + 27))) → W p l e rm_M_result s m a below meth cd H5 lc6 0 0 Qf (F0 m 41 ls [.int (iI v)]) := by
      intro v ls H5 lc6 hl hH hv
      refine lv_istore (lv' := [(5, .int (iI v)), (4, .int (iI u)), (3, .int (iI (28 * k))), (0, .ref (ad E g)), (1, .int (iI d)), (2, .int (iI k))]) hx hb d_M_result_41 hl (by decide) rfl (fun ls hl => ?_)
      have L65 : ∀  (ls : Array Slot) (H7 : Heap) (lc8 : List Loc), (lv_has ls 8 [(5, .int (iI v)), (4, .int (iI u)), (3, .int (iI (28 * k))), (0, .ref (ad E g)), (1, .int (iI d)), (2, .int (iI k))]) → (zH E w0 (va_A (wl E w0) s.heap.size) s.heap H7 lc8) → (0 < cn (28 * k + 25) ∨ 0 < cn (28 * k + 26) ∨ 0 < cn (28 * k + 27)) → W p l e rm_M_result s m a below meth cd H7 lc8 0 0 Qf (F0 m 65 ls []) := by
        intro ls H7 lc8 hl hH h65
        refine lv_aload_n hx hb d_M_result_65 rfl (lv_at hl 3 rfl) ?_
        refine lv_iload_n hx hb d_M_result_66 rfl (lv_at hl 4 rfl) ?_
        have L89 : ∀  (ls : Array Slot) (H9 : Heap) (lc10 : List Loc), (lv_has ls 8 [(5, .int (iI v)), (4, .int (iI u)), (3, .int (iI (28 * k))), (0, .ref (ad E g)), (1, .int (iI d)), (2, .int (iI k))]) → (zH E w0 (va_A (wl E w0) s.heap.size) s.heap H9 lc10) → (0 < cn (28 * k + 25) ∨ (0 < cn (28 * k + 26) ∧ 0 < cn (28 * k + 27))) → W p l e rm_M_result s m a below meth cd H9 lc10 0 0 Qf (F0 m 89 ls [.int (iI d), .ref (ad E g)]) := by
          intro ls H9 lc10 hl hH h89
          refine zv_iconst hx hb d_M_result_89 ?_
          refine lv_goto (tgt := 103) hx hb d_M_result_90 rfl ?_
          have L103 : ∀ (kc : Int) (ls : Array Slot) (H11 : Heap) (lc12 : List Loc), (lv_has ls 8 [(5, .int (iI v)), (4, .int (iI u)), (3, .int (iI (28 * k))), (0, .ref (ad E g)), (1, .int (iI d)), (2, .int (iI k))]) → (zH E w0 (va_A (wl E w0) s.heap.size) s.heap H11 lc12) → (((0 < cn (28 * k + 25) ∨ (0 < cn (28 * k + 26) ∧ 0 < cn (28 * k + 27))) ∧ kc = 1) ∨ (¬ (0 < cn (28 * k + 25) ∨ (0 < cn (28 * k + 26) ∧ 0 < cn (28 * k + 27))) ∧ ((0 < cn (28 * k + 26) ∧ kc = 2) ∨ (¬ 0 < cn (28 * k + 26) ∧ 0 < cn (28 * k + 27) ∧ kc = 3)))) → W p l e rm_M_result s m a below meth cd H11 lc12 0 0 Qf (F0 m 103 ls [.int (iI kc), .int (iI d), .ref (ad E g)]) := by
            intro kc ls H11 lc12 hl hH hkc
            refine z_calli (va_runV (As := [.int (iI d), .int (iI kc)]) (rest := []) ⟨hx, hb, hml, hown, hts⟩ (c_M_special (l := l) (E := E) (w0 := w0) (g := g) (ty := ty) (xm := xm) (ym := ym) (ne := ne) (f := kf) (d := d) (k := kc) (q0lt := q0lt) (q1lt := q4lt) (c0 := c0) (c1 := c4) (hd0 := by omega) H11.size) (z_cwV (C := "ScaledNumeralDeskModel") 2 hg wm_754 wm_751 wm_9 wm_753 wm_s31 (by decide +kernel) ⟨Nat.le_of_ble_eq_true rfl, Nat.le_of_ble_eq_true rfl⟩) (z_preV (r := ("ScaledNumeralDeskModel", TM, 17)) hK hG hn hH hA q0lt c0 rfl) rfl rfl hl.1 rfl (lv_room (Nat.le_of_ble_eq_true rfl)) d_M_result_103 ⟨Nat.zero_le _, Nat.zero_le _⟩) hH hA (fun z17 w15 H13 lc14 hH16 p103 => ?_)
            obtain ⟨⟨e18, p103⟩, hg19⟩ := p103
            replace p103 : z17 = 0 := p103
            have e20 : w15 g = .inr (6, [.ref (ad E (g + 1)), .ref (ad E (g + 2)), .ref (ad E (g + 3)), .ref (ad E (g + 4)), .int (iI ty), .ref (ad E (g + 5)), .ref (ad E (g + 6)), .ref (ad E (g + 7)), .ref (ad E (g + 8)), .ref (ad E (g + 9)), .ref (ad E (g + 10)), .int (iI xm), .int (iI ym), .ref (ad E (g + 11)), .int (iI ne), .ref (ad E (g + 12)), .ref (ad E (g + 13))]) := (hg19 g (nx_M_result_0 )).trans c0
            have e21 : w15 (g + 11) = zar E 140 f := (hg19 (g + 11) (nx_M_result_1 )).trans c1
            have e22 : w15 (g + 6) = zar E 224 su := (hg19 (g + 6) (nx_M_result_2 )).trans c2
            have e23 : w15 (g + 8) = zar E 112 cn := (hg19 (g + 8) (nx_M_result_3 )).trans c3
            have e24 : w15 (g + 2) = zaz E 8 mf := (hg19 (g + 2) (nx_M_result_4 )).trans c5
            have e25 : w15 (g + 3) = zar E 8 sf := (hg19 (g + 3) (nx_M_result_5 )).trans c6
            have e26 : w15 (g + 4) = zar E 448 G := (hg19 (g + 4) (nx_M_result_6 )).trans c7
            have hf27 : ∀ k, k ≠ (g + 1) → w15 k = w0 k := fun k g0 => hg19 k g0
            have bk9 := bd_up bk d kc (by omega)
            rw [hQ]
            exact z_iret hx hb hr hlk hH16 (⟨⟨ne, f, (up kf d kc), mf, sf, G, e20, e21, e18, e24, e25, e26, (by assumption), (by assumption), bm, bs, bG, ⟨hne, by rcases hkc with h8 | ⟨h7, h8 | h8⟩; exact Or.inl ⟨h8.1, p103, by rw [h8.2], rfl, rfl, rfl⟩; exact Or.inr (Or.inl ⟨h7, h8.1, p103, by rw [h8.2], rfl, rfl, rfl⟩); exact Or.inr (Or.inr (Or.inl ⟨h7, h8.1, h8.2.1, p103, by rw [h8.2.2], rfl, rfl, rfl⟩))⟩⟩, (fun k g0 g1 g2 g3 g4 g5 => hf27 k g2)⟩) d_M_result_106
          exact L103 1 _ H9 lc10 (lv_sub hl [0, 1, 2, 3, 4, 5] rfl) hH (by omega)
        have L103 : ∀ (kc : Int) (ls : Array Slot) (H28 : Heap) (lc29 : List Loc), (lv_has ls 8 [(5, .int (iI v)), (4, .int (iI u)), (3, .int (iI (28 * k))), (0, .ref (ad E g)), (1, .int (iI d)), (2, .int (iI k))]) → (zH E w0 (va_A (wl E w0) s.heap.size) s.heap H28 lc29) → (((0 < cn (28 * k + 25) ∨ (0 < cn (28 * k + 26) ∧ 0 < cn (28 * k + 27))) ∧ kc = 1) ∨ (¬ (0 < cn (28 * k + 25) ∨ (0 < cn (28 * k + 26) ∧ 0 < cn (28 * k + 27))) ∧ ((0 < cn (28 * k + 26) ∧ kc = 2) ∨ (¬ 0 < cn (28 * k + 26) ∧ 0 < cn (28 * k + 27) ∧ kc = 3)))) → W p l e rm_M_result s m a below meth cd H28 lc29 0 0 Qf (F0 m 103 ls [.int (iI kc), .int (iI d), .ref (ad E g)]) := by
          intro kc ls H28 lc29 hl hH hkc
          refine z_calli (va_runV (As := [.int (iI d), .int (iI kc)]) (rest := []) ⟨hx, hb, hml, hown, hts⟩ (c_M_special (l := l) (E := E) (w0 := w0) (g := g) (ty := ty) (xm := xm) (ym := ym) (ne := ne) (f := kf) (d := d) (k := kc) (q0lt := q0lt) (q1lt := q4lt) (c0 := c0) (c1 := c4) (hd0 := by omega) H28.size) (z_cwV (C := "ScaledNumeralDeskModel") 2 hg wm_754 wm_751 wm_9 wm_753 wm_s31 (by decide +kernel) ⟨Nat.le_of_ble_eq_true rfl, Nat.le_of_ble_eq_true rfl⟩) (z_preV (r := ("ScaledNumeralDeskModel", TM, 17)) hK hG hn hH hA q0lt c0 rfl) rfl rfl hl.1 rfl (lv_room (Nat.le_of_ble_eq_true rfl)) d_M_result_103 ⟨Nat.zero_le _, Nat.zero_le _⟩) hH hA (fun z34 w32 H30 lc31 hH33 p103 => ?_)
          obtain ⟨⟨e35, p103⟩, hg36⟩ := p103
          replace p103 : z34 = 0 := p103
          have e37 : w32 g = .inr (6, [.ref (ad E (g + 1)), .ref (ad E (g + 2)), .ref (ad E (g + 3)), .ref (ad E (g + 4)), .int (iI ty), .ref (ad E (g + 5)), .ref (ad E (g + 6)), .ref (ad E (g + 7)), .ref (ad E (g + 8)), .ref (ad E (g + 9)), .ref (ad E (g + 10)), .int (iI xm), .int (iI ym), .ref (ad E (g + 11)), .int (iI ne), .ref (ad E (g + 12)), .ref (ad E (g + 13))]) := (hg36 g (nx_M_result_0 )).trans c0
          have e38 : w32 (g + 11) = zar E 140 f := (hg36 (g + 11) (nx_M_result_1 )).trans c1
          have e39 : w32 (g + 6) = zar E 224 su := (hg36 (g + 6) (nx_M_result_2 )).trans c2
          have e40 : w32 (g + 8) = zar E 112 cn := (hg36 (g + 8) (nx_M_result_3 )).trans c3
          have e41 : w32 (g + 2) = zaz E 8 mf := (hg36 (g + 2) (nx_M_result_4 )).trans c5
          have e42 : w32 (g + 3) = zar E 8 sf := (hg36 (g + 3) (nx_M_result_5 )).trans c6
          have e43 : w32 (g + 4) = zar E 448 G := (hg36 (g + 4) (nx_M_result_6 )).trans c7
          have hf44 : ∀ k, k ≠ (g + 1) → w32 k = w0 k := fun k g0 => hg36 k g0
          have bk9 := bd_up bk d kc (by omega)
          rw [hQ]
          exact z_iret hx hb hr hlk hH33 (⟨⟨ne, f, (up kf d kc), mf, sf, G, e37, e38, e35, e41, e42, e43, (by assumption), (by assumption), bm, bs, bG, ⟨hne, by rcases hkc with h8 | ⟨h7, h8 | h8⟩; exact Or.inl ⟨h8.1, p103, by rw [h8.2], rfl, rfl, rfl⟩; exact Or.inr (Or.inl ⟨h7, h8.1, p103, by rw [h8.2], rfl, rfl, rfl⟩); exact Or.inr (Or.inr (Or.inl ⟨h7, h8.1, h8.2.1, p103, by rw [h8.2.2], rfl, rfl, rfl⟩))⟩⟩, (fun k g0 g1 g2 g3 g4 g5 => hf44 k g2)⟩) d_M_result_106
        refine lv_aload_n hx hb d_M_result_67 rfl (lv_at hl 3 rfl) ?_
        refine zv_get (C := "ScaledNumeralDeskModel") (T := TM) (N := 17) hx hb hg uM_in hown hK hH q0lt c0 rfl 8 (by decide) (hg _ wm_690) (fun _ h9 => h9) rfl d_M_result_68 ?_
        refine lv_iload_n hx hb d_M_result_71 rfl (lv_at hl 2 rfl) ?_
        refine zv_bipush hx hb d_M_result_72 rfl ?_
        refine zv_iadd hx hb d_M_result_74 ?_
        refine zv_iald hx hb hK hH q3lt c3 (by omega) (by omega) (by omega) d_M_result_75 ?_
        have b45 := bcn ((28 * k) + 25) (by omega) (by omega)
        refine zv_if_gt (tgt := 89) hx hb d_M_result_76 rfl (by omega) (fun h46 => ?_) (fun h46 => ?_)
        · exact L89 _ H7 lc8 (lv_sub hl [0, 1, 2, 3, 4, 5] rfl) hH (by omega)
        · refine lv_iload hx hb d_M_result_79 (lv_at hl 1 rfl) ?_
          refine zv_if_eq (tgt := 93) hx hb d_M_result_81 rfl (by omega) (fun h47 => ?_) (fun h47 => ?_)
          · refine lv_iload hx hb d_M_result_93 (lv_at hl 1 rfl) ?_
            refine zv_if_eq (tgt := 102) hx hb d_M_result_95 rfl (by omega) (fun h48 => ?_) (fun h48 => ?_)
            · refine zv_iconst hx hb d_M_result_102 ?_
              exact L103 3 _ H7 lc8 (lv_sub hl [0, 1, 2, 3, 4, 5] rfl) hH (by omega)
            · refine zv_iconst hx hb d_M_result_98 ?_
              refine lv_goto (tgt := 103) hx hb d_M_result_99 rfl ?_
              exact L103 2 _ H7 lc8 (lv_sub hl [0, 1, 2, 3, 4, 5] rfl) hH (by omega)
          · refine lv_iload hx hb d_M_result_84 (lv_at hl 0 rfl) ?_
            refine zv_if_eq (tgt := 93) hx hb d_M_result_86 rfl (by omega) (fun h49 => ?_) (fun h49 => ?_)
            · refine lv_iload hx hb d_M_result_93 (lv_at hl 1 rfl) ?_
              refine zv_if_eq (tgt := 102) hx hb d_M_result_95 rfl (by omega) (fun h50 => ?_) (fun h50 => ?_)
              · refine zv_iconst hx hb d_M_result_102 ?_
                exact L103 3 _ H7 lc8 (lv_sub hl [0, 1, 2, 3, 4, 5] rfl) hH (by omega)
              · refine zv_iconst hx hb d_M_result_98 ?_
                refine lv_goto (tgt := 103) hx hb d_M_result_99 rfl ?_
                exact L103 2 _ H7 lc8 (lv_sub hl [0, 1, 2, 3, 4, 5] rfl) hH (by omega)
            · exact L89 _ H7 lc8 (lv_sub hl [0, 1, 2, 3, 4, 5] rfl) hH (by omega)
      refine lv_aload_n hx hb d_M_result_43 rfl (lv_at hl 3 rfl) ?_
      refine zv_get (C := "ScaledNumeralDeskModel") (T := TM) (N := 17) hx hb hg uM_in hown hK hH q0lt c0 rfl 8 (by decide) (hg _ wm_690) (fun _ h9 => h9) rfl d_M_result_44 ?_
      refine lv_iload_n hx hb d_M_result_47 rfl (lv_at hl 2 rfl) ?_
      refine zv_bipush hx hb d_M_result_48 rfl ?_
      refine zv_iadd hx hb d_M_result_50 ?_
      refine zv_iald hx hb hK hH q3lt c3 (by omega) (by omega) (by omega) d_M_result_51 ?_
      have b51 := bcn ((28 * k) + 25) (by omega) (by omega)
      refine zv_if_gt (tgt := 65) hx hb d_M_result_52 rfl (by omega) (fun h52 => ?_) (fun h52 => ?_)
      · exact L65 _ H5 lc6 (lv_sub hl [0, 1, 2, 3, 4, 5] rfl) hH (by omega)
      · refine lv_iload hx hb d_M_result_55 (lv_at hl 1 rfl) ?_
        refine zv_if_ne (tgt := 65) hx hb d_M_result_57 rfl (by omega) (fun h53 => ?_) (fun h53 => ?_)
        · exact L65 _ H5 lc6 (lv_sub hl [0, 1, 2, 3, 4, 5] rfl) hH (by omega)
        · refine lv_iload hx hb d_M_result_60 (lv_at hl 0 rfl) ?_
          refine zv_if_eq (tgt := 107) hx hb d_M_result_62 rfl (by omega) (fun h54 => ?_) (fun h54 => ?_)
          · refine zv_iconst hx hb d_M_result_107 ?_
            refine lv_istore (lv' := [(6, .int (iI 0)), (5, .int (iI v)), (4, .int (iI u)), (3, .int (iI (28 * k))), (0, .ref (ad E g)), (1, .int (iI d)), (2, .int (iI k))]) hx hb d_M_result_108 hl (by decide) rfl (fun ls hl => ?_)
            refine zv_iconst hx hb d_M_result_110 ?_
            refine lv_istore (lv' := [(7, .int (iI 0)), (6, .int (iI 0)), (5, .int (iI v)), (4, .int (iI u)), (3, .int (iI (28 * k))), (0, .ref (ad E g)), (1, .int (iI d)), (2, .int (iI k))]) hx hb d_M_result_111 hl (by decide) rfl (fun ls hl => ?_)
            have L113 : ∀ (fu : Nat) (i : Int) (n : Int) (ls : Array Slot) (H55 : Heap) (lc56 : List Loc), (lv_has ls 8 [(0, .ref (ad E g)), (1, .int (iI d)), (2, .int (iI k)), (3, .int (iI (28 * k))), (6, .int (iI n)), (7, .int (iI i))]) → (zH E w0 (va_A (wl E w0) s.heap.size) s.heap H55 lc56) → (0 ≤ i ∧ i ≤ 25) → (0 ≤ n ∧ n ≤ 24 ∧ (n = 0 ∨ (n < i ∧ 0 < cn (28 * k + n)))) → (∀ j : Int, n < j → j < i → ¬ 0 < cn (28 * k + j)) → (25 - i < (fu : Int)) → W p l e rm_M_result s m a below meth cd H55 lc56 0 0 Qf (F0 m 113 ls []) := by
              intro fu
              induction fu with
              | zero => intro i n ls H55 lc56 hl hH hi hn9 hz hm; exact absurd hm (by omega)
              | succ fu ih =>
                intro i n ls H55 lc56 hl hH hi hn9 hz hm
                refine lv_iload hx hb d_M_result_113 (lv_at hl 5 rfl) ?_
                refine zv_bipush hx hb d_M_result_115 rfl ?_
                refine zv_icmp_ge (tgt := 147) hx hb d_M_result_117 rfl (by omega) (by omega) (fun h57 => ?_) (fun h57 => ?_)
                · refine lv_aload_n hx hb d_M_result_147 rfl (lv_at hl 0 rfl) ?_
                  refine z_callv (va_runV (As := []) (rest := []) ⟨hx, hb, hml, hown, hts⟩ (c_M_clear (l := l) (E := E) (w0 := w0) (g := g) (ty := ty) (xm := xm) (ym := ym) (ne := ne) (f := f) (q0lt := q0lt) (q1lt := q1lt) (c0 := c0) (c1 := c1) H55.size) (z_cwV (C := "ScaledNumeralDeskModel") 0 hg wm_778 wm_775 wm_9 wm_777 wm_s37 (by decide +kernel) ⟨Nat.le_of_ble_eq_true rfl, Nat.le_of_ble_eq_true rfl⟩) (z_preV (r := ("ScaledNumeralDeskModel", TM, 17)) hK hG hn hH hA q0lt c0 rfl) rfl rfl hl.1 rfl (lv_room (Nat.le_of_ble_eq_true rfl)) d_M_result_148 ⟨Nat.zero_le _, Nat.zero_le _⟩) hH hA (fun  w60 H58 lc59 hH61 p148 => ?_)
                  obtain ⟨⟨f1, e62, e63, p148⟩, hg64⟩ := p148
                  replace p148 : ∀ j : Int, 0 ≤ j → j < 140 → f1 j = 0 := p148
                  have e65 : w60 (g + 6) = zar E 224 su := (hg64 (g + 6) (nx_M_result_7 ) (nx_M_result_8 )).trans c2
                  have e66 : w60 (g + 8) = zar E 112 cn := (hg64 (g + 8) (nx_M_result_9 ) (nx_M_result_10 )).trans c3
                  have e67 : w60 (g + 1) = zar E 8 kf := (hg64 (g + 1) (nx_M_result_11 ) (nx_M_result_12 )).trans c4
                  have e68 : w60 (g + 2) = zaz E 8 mf := (hg64 (g + 2) (nx_M_result_13 ) (nx_M_result_14 )).trans c5
                  have e69 : w60 (g + 3) = zar E 8 sf := (hg64 (g + 3) (nx_M_result_15 ) (nx_M_result_16 )).trans c6
                  have e70 : w60 (g + 4) = zar E 448 G := (hg64 (g + 4) (nx_M_result_17 ) (nx_M_result_18 )).trans c7
                  have hf71 : ∀ k, k ≠ g → k ≠ (g + 11) → w60 k = w0 k := fun k g0 g1 => hg64 k g0 g1
                  refine zv_iconst hx hb d_M_result_151 ?_
                  refine lv_istore (lv' := [(7, .int (iI 0)), (0, .ref (ad E g)), (1, .int (iI d)), (2, .int (iI k)), (3, .int (iI (28 * k))), (6, .int (iI n))]) hx hb d_M_result_152 hl (by decide) rfl (fun ls hl => ?_)
                  have L154 : ∀ (fu : Nat) (i3 : Int) (h : Int → Int) (ls : Array Slot) (H72 : Heap) (lc73 : List Loc) (w74 : zW), (lv_has ls 8 [(0, .ref (ad E g)), (1, .int (iI d)), (2, .int (iI k)), (6, .int (iI n)), (7, .int (iI i3))]) → (zH E w74 (va_A (wl E w0) s.heap.size) s.heap H72 lc73) → (w74 g = .inr (6, [.ref (ad E (g + 1)), .ref (ad E (g + 2)), .ref (ad E (g + 3)), .ref (ad E (g + 4)), .int (iI ty), .ref (ad E (g + 5)), .ref (ad E (g + 6)), .ref (ad E (g + 7)), .ref (ad E (g + 8)), .ref (ad E (g + 9)), .ref (ad E (g + 10)), .int (iI xm), .int (iI ym), .ref (ad E (g + 11)), .int (iI 0), .ref (ad E (g + 12)), .ref (ad E (g + 13))])) → (w74 (g + 11) = zar E 140 h) → (w74 (g + 6) = zar E 224 su) → (w74 (g + 8) = zar E 112 cn) → (w74 (g + 1) = zar E 8 kf) → (w74 (g + 2) = zaz E 8 mf) → (w74 (g + 3) = zar E 8 sf) → (w74 (g + 4) = zar E 448 G) → (∀ k, k ≠ g → k ≠ (g + 11) → w74 k = w0 k) → (0 ≤ i3 ∧ i3 ≤ 56) → (∀ j : Int, 0 ≤ j → j < i3 → h (24 + j) = su (56 * k + j)) → (∀ j : Int, 0 ≤ j → j < 140 → ¬ (24 ≤ j ∧ j < 80) → h j = 0) → (56 - i3 < (fu : Int)) → W p l e rm_M_result s m a below meth cd H72 lc73 0 0 Qf (F0 m 154 ls []) := by
                    intro fu
                    induction fu with
                    | zero => intro i3 h ls H72 lc73 w74 hl hH e75 e76 e77 e78 e79 e80 e81 e82 hf83 hi3 hk hz3 hm; exact absurd hm (by omega)
                    | succ fu ih154 =>
                      intro i3 h ls H72 lc73 w74 hl hH e75 e76 e77 e78 e79 e80 e81 e82 hf83 hi3 hk hz3 hm
                      refine lv_iload hx hb d_M_result_154 (lv_at hl 4 rfl) ?_
                      refine zv_bipush hx hb d_M_result_156 rfl ?_
                      refine zv_icmp_ge (tgt := 189) hx hb d_M_result_158 rfl (by omega) (by omega) (fun h84 => ?_) (fun h84 => ?_)
                      · have bh9 : bd h 140 (-1000000) 1000000 := fun j g1 g2 => by
                          by_cases e8 : 24 ≤ j ∧ j < 80
                          · have e7 := hk (j - 24) (by omega) (by omega)
                            rw [show 24 + (j - 24) = j by omega] at e7
                            have b7 := hB k (j - 24) hk0.1 hk0.2 (by omega) (by omega)
                            rw [e7]; omega
                          · rw [hz3 j g1 g2 e8]; decide
                        have hX : Vt h 140 = Gt su k * Tp 24 := sp_V (f := fun j => su (56 * k + j)) (n := 56) (x := 24) (by decide) (by decide) (fun j g1 g2 => hz3 j g1 (by omega) (by omega)) (fun j g1 g2 => hz3 j (by omega) g2 (by omega)) (fun j g1 g2 => hk j g1 (by omega))
                        refine lv_aload_n hx hb d_M_result_189 rfl (lv_at hl 0 rfl) ?_
                        refine lv_iload_n hx hb d_M_result_190 rfl (lv_at hl 1 rfl) ?_
                        refine lv_iload hx hb d_M_result_191 (lv_at hl 3 rfl) ?_
                        refine z_calli (va_runV (As := [.int (iI d), .int (iI n)]) (rest := []) ⟨hx, hb, hml, hown, hts⟩ (c_M_finish (l := l) (E := E) (w0 := w74) (g := g) (ty := ty) (xm := xm) (ym := ym) (ne := 0) (f := h) (kf := kf) (mf := mf) (sf := sf) (G := G) (d := d) (n := n) (q0lt := q0lt) (q1lt := q1lt) (q2lt := q4lt) (q3lt := q5lt) (q4lt := q6lt) (q5lt := q7lt) (c0 := e75) (c1 := e76) (c2 := e79) (c3 := e80) (c4 := e81) (c5 := e82) (bf := bh9) (bk := bk) (bm := bm) (bs := bs) (bG := bG) (hne := (Or.inl rfl)) (hV := (by rw [hX]; exact gsi)) (hd := by omega) (hn := by omega) H72.size) (z_cwV (C := "ScaledNumeralDeskModel") 2 hg wm_786 wm_783 wm_9 wm_785 wm_s39 (by decide +kernel) ⟨Nat.le_of_ble_eq_true rfl, Nat.le_of_ble_eq_true rfl⟩) (z_preV (r := ("ScaledNumeralDeskModel", TM, 17)) hK hG hn hH hA q0lt e75 rfl) rfl rfl hl.1 rfl (lv_room (Nat.le_of_ble_eq_true rfl)) d_M_result_193 ⟨Nat.zero_le _, Nat.zero_le _⟩) hH hA (fun z89 w87 H85 lc86 hH88 p193 => ?_)
                        obtain ⟨⟨n_90, f_91, k_92, m_93, s_94, x_95, e96, e97, e98, e99, e100, e101, bd102, bd103, bd104, bd105, bd106, p193⟩, hg107⟩ := p193
                        replace bd102 : bd f_91 140 0 9 := bd102
                        replace bd103 : bd k_92 8 0 3 := bd103
                        replace bd104 : bd m_93 8 0 1 := bd104
                        replace bd105 : bd s_94 8 0 24 := bd105
                        replace bd106 : bd x_95 448 0 9 := bd106
                        replace p193 : (n_90 = 0 ∨ n_90 = 1) ∧ ∃ X : Int, AbR (Vt h 140) (0 : Int) X n_90 ∧ KpR z89 d (mx0 n) n_90 (Rn X (48 - n)) kf sf mf G k_92 s_94 m_93 x_95 := p193
                        have e108 : w87 (g + 6) = zar E 224 su := (hg107 (g + 6) (nx_M_result_7 ) (nx_M_result_8 ) (nx_M_result_2 ) (nx_M_result_19 ) (nx_M_result_20 ) (nx_M_result_21 )).trans e77
                        have e109 : w87 (g + 8) = zar E 112 cn := (hg107 (g + 8) (nx_M_result_9 ) (nx_M_result_10 ) (nx_M_result_3 ) (nx_M_result_22 ) (nx_M_result_23 ) (nx_M_result_24 )).trans e78
                        have hf110 : ∀ k, k ≠ g → k ≠ (g + 11) → k ≠ (g + 1) → k ≠ (g + 2) → k ≠ (g + 3) → k ≠ (g + 4) → w87 k = w0 k := fun k g0 g1 g2 g3 g4 g5 => (hg107 k g0 g1 g2 g3 g4 g5).trans (hf83 k g0 g1)
                        obtain ⟨p193a, X, p193b, p193c⟩ := p193
                        rw [hX] at p193b
                        rw [mx0_p hn9.1] at p193c
                        rw [hQ]
                        exact z_iret hx hb hr hlk hH88 (⟨⟨n_90, f_91, k_92, m_93, s_94, x_95, e96, e97, e98, e99, e100, e101, bd102, bd103, bd104, bd105, bd106, ⟨p193a, Or.inr (Or.inr (Or.inr ⟨by omega, by omega, by omega, n, _, X, hn9.1, hn9.2.1, by rcases hn9.2.2 with h8 | h8; exact Or.inl h8; exact Or.inr h8.2, fun j g1 g2 => hz j g1 (by omega), p193a, p193b, p193c⟩))⟩⟩, (fun k g0 g1 g2 g3 g4 g5 => hf110 k g0 g1 g2 g3 g4 g5)⟩) d_M_result_196
                      · refine lv_aload_n hx hb d_M_result_161 rfl (lv_at hl 0 rfl) ?_
                        refine zv_get (C := "ScaledNumeralDeskModel") (T := TM) (N := 17) hx hb hg uM_in hown hK hH q0lt e75 rfl 13 (by decide) (hg _ wm_695) (fun _ h9 => h9) rfl d_M_result_162 ?_
                        refine zv_bipush hx hb d_M_result_165 rfl ?_
                        refine lv_iload hx hb d_M_result_167 (lv_at hl 4 rfl) ?_
                        refine zv_iadd hx hb d_M_result_169 ?_
                        refine lv_aload_n hx hb d_M_result_170 rfl (lv_at hl 0 rfl) ?_
                        refine zv_get (C := "ScaledNumeralDeskModel") (T := TM) (N := 17) hx hb hg uM_in hown hK hH q0lt e75 rfl 6 (by decide) (hg _ wm_688) (fun _ h9 => h9) rfl d_M_result_171 ?_
                        refine zv_bipush hx hb d_M_result_174 rfl ?_
                        refine lv_iload_n hx hb d_M_result_176 rfl (lv_at hl 2 rfl) ?_
                        refine zv_imul hx hb d_M_result_177 ?_
                        refine lv_iload hx hb d_M_result_178 (lv_at hl 4 rfl) ?_
                        refine zv_iadd hx hb d_M_result_180 ?_
                        refine zv_iald hx hb hK hH q2lt e77 (by omega) (by omega) (by omega) d_M_result_181 ?_
                        refine zv_iast hx hb hK hH q1lt e76 (by omega) (by omega) (by omega) d_M_result_182 (fun H112 lc113 w111 hH114 e115 hg116 => ?_)
                        have e117 : w111 g = .inr (6, [.ref (ad E (g + 1)), .ref (ad E (g + 2)), .ref (ad E (g + 3)), .ref (ad E (g + 4)), .int (iI ty), .ref (ad E (g + 5)), .ref (ad E (g + 6)), .ref (ad E (g + 7)), .ref (ad E (g + 8)), .ref (ad E (g + 9)), .ref (ad E (g + 10)), .int (iI xm), .int (iI ym), .ref (ad E (g + 11)), .int (iI 0), .ref (ad E (g + 12)), .ref (ad E (g + 13))]) := (hg116 g (nx_M_result_25 )).trans e75
                        have e118 : w111 (g + 6) = zar E 224 su := (hg116 (g + 6) (nx_M_result_8 )).trans e77
                        have e119 : w111 (g + 8) = zar E 112 cn := (hg116 (g + 8) (nx_M_result_10 )).trans e78
                        have e120 : w111 (g + 1) = zar E 8 kf := (hg116 (g + 1) (nx_M_result_12 )).trans e79
                        have e121 : w111 (g + 2) = zaz E 8 mf := (hg116 (g + 2) (nx_M_result_14 )).trans e80
                        have e122 : w111 (g + 3) = zar E 8 sf := (hg116 (g + 3) (nx_M_result_16 )).trans e81
                        have e123 : w111 (g + 4) = zar E 448 G := (hg116 (g + 4) (nx_M_result_18 )).trans e82
                        have hf124 : ∀ k, k ≠ g → k ≠ (g + 11) → w111 k = w0 k := fun k g0 g1 => (hg116 k g1).trans (hf83 k g0 g1)
                        refine zv_iinc (k := 4) (lv' := [(7, .int (iI (i3 + 1))), (0, .ref (ad E g)), (1, .int (iI d)), (2, .int (iI k)), (6, .int (iI n))]) hx hb d_M_result_183 hl rfl (by decide) rfl (fun ls hl => ?_)
                        refine lv_goto (tgt := 154) hx hb d_M_result_186 rfl ?_
                        exact ih154  (i3 + 1) (up h (24 + i3) (su ((56 * k) + i3))) _ H112 lc113 w111 (lv_sub hl [1, 2, 3, 4, 0] rfl) hH114 e117 e115 e118 e119 e120 e121 e122 e123 (fun k g0 g1 => hf124 k g0 g1) (by omega) (by intro j g1 g2; by_cases e8 : j = i3; rw [e8, up_at]; rw [up_ne (by omega)]; exact hk j g1 (by omega)) (by intro j g1 g2 g3; rw [up_ne (by omega)]; exact hz3 j g1 g2 g3) (by omega)
                  exact L154 ((56 - 0 : Int).toNat + 1) 0 f1 _ H58 lc59 w60 (lv_sub hl [1, 2, 3, 5, 0] rfl) hH61 e62 e63 e65 e66 e67 e68 e69 e70 (fun k g0 g1 => hf71 k g0 g1) (by omega) (by intro j g1 g2; omega) (by intro j g1 g2 _; exact p148 j g1 g2) (by omega)
                · have L139 : ∀ (n2 : Int) (ls : Array Slot) (H125 : Heap) (lc126 : List Loc), (lv_has ls 8 [(0, .ref (ad E g)), (1, .int (iI d)), (2, .int (iI k)), (3, .int (iI (28 * k))), (6, .int (iI n)), (7, .int (iI i))]) → (zH E w0 (va_A (wl E w0) s.heap.size) s.heap H125 lc126) → (0 ≤ n2 ∧ n2 ≤ 24 ∧ (n2 = 0 ∨ (n2 < i + 1 ∧ 0 < cn (28 * k + n2)))) → (∀ j : Int, n2 < j → j < i + 1 → ¬ 0 < cn (28 * k + j)) → W p l e rm_M_result s m a below meth cd H125 lc126 0 0 Qf (F0 m 139 ls [.int (iI n2)]) := by
                    intro n2 ls H125 lc126 hl hH hn8 hz8
                    refine lv_istore (lv' := [(6, .int (iI n2)), (0, .ref (ad E g)), (1, .int (iI d)), (2, .int (iI k)), (3, .int (iI (28 * k))), (7, .int (iI i))]) hx hb d_M_result_139 hl (by decide) rfl (fun ls hl => ?_)
                    refine zv_iinc (k := 5) (lv' := [(7, .int (iI (i + 1))), (6, .int (iI n2)), (0, .ref (ad E g)), (1, .int (iI d)), (2, .int (iI k)), (3, .int (iI (28 * k)))]) hx hb d_M_result_141 hl rfl (by decide) rfl (fun ls hl => ?_)
                    refine lv_goto (tgt := 113) hx hb d_M_result_144 rfl ?_
                    exact ih  (i + 1) n2 _ H125 lc126 (lv_sub hl [2, 3, 4, 5, 1, 0] rfl) hH (by omega) (by exact hn8) (by exact hz8) (by omega)
                  refine lv_aload_n hx hb d_M_result_120 rfl (lv_at hl 0 rfl) ?_
                  refine zv_get (C := "ScaledNumeralDeskModel") (T := TM) (N := 17) hx hb hg uM_in hown hK hH q0lt c0 rfl 8 (by decide) (hg _ wm_690) (fun _ h9 => h9) rfl d_M_result_121 ?_
                  refine lv_iload_n hx hb d_M_result_124 rfl (lv_at hl 3 rfl) ?_
                  refine lv_iload hx hb d_M_result_125 (lv_at hl 5 rfl) ?_
                  refine zv_iadd hx hb d_M_result_127 ?_
                  refine zv_iald hx hb hK hH q3lt c3 (by omega) (by omega) (by omega) d_M_result_128 ?_
                  have b127 := bcn ((28 * k) + i) (by omega) (by omega)
                  refine zv_if_le (tgt := 137) hx hb d_M_result_129 rfl (by omega) (fun h128 => ?_) (fun h128 => ?_)
                  · refine lv_iload hx hb d_M_result_137 (lv_at hl 4 rfl) ?_
                    exact L139 n _ H55 lc56 (lv_sub hl [0, 1, 2, 3, 4, 5] rfl) hH (by first | exact ⟨by omega, by omega, Or.inr ⟨by omega, by omega⟩⟩ | exact ⟨by omega, by omega, by omega⟩) (by intro j g1 g2; first | omega | (by_cases e8 : j = i; rw [e8]; omega; exact hz j g1 (by omega)))
                  · refine lv_iload hx hb d_M_result_132 (lv_at hl 5 rfl) ?_
                    refine lv_goto (tgt := 139) hx hb d_M_result_134 rfl ?_
                    exact L139 i _ H55 lc56 (lv_sub hl [0, 1, 2, 3, 4, 5] rfl) hH (by first | exact ⟨by omega, by omega, Or.inr ⟨by omega, by omega⟩⟩ | exact ⟨by omega, by omega, by omega⟩) (by intro j g1 g2; first | omega | (by_cases e8 : j = i; rw [e8]; omega; exact hz j g1 (by omega)))
            exact L113 ((25 - 0 : Int).toNat + 1) 0 0 _ H5 lc6 (lv_sub hl [5, 6, 7, 4, 1, 0] rfl) hH (by omega) (by omega) (by intro j g1 g2; omega) (by omega)
          · exact L65 _ H5 lc6 (lv_sub hl [0, 1, 2, 3, 4, 5] rfl) hH (by omega)
    refine zv_if_le (tgt := 40) hx hb d_M_result_33 rfl (by omega) (fun h129 => ?_) (fun h129 => ?_)
    · refine zv_iconst hx hb d_M_result_40 ?_
      exact L41 0 _ H2 lc3 (lv_sub hl [0, 1, 2, 3, 4] rfl) hH (by omega)
    · refine zv_iconst hx hb d_M_result_36 ?_
      refine lv_goto (tgt := 41) hx hb d_M_result_37 rfl ?_
      exact L41 1 _ H2 lc3 (lv_sub hl [0, 1, 2, 3, 4] rfl) hH (by omega)
  refine zv_if_le (tgt := 21) hx hb d_M_result_14 rfl (by omega) (fun h130 => ?_) (fun h130 => ?_)
  · refine zv_iconst hx hb d_M_result_21 ?_
    exact L22 0 _ s.heap ([]) (lv_sub hl [0, 1, 2, 3] rfl) hH (by omega)
  · refine zv_iconst hx hb d_M_result_17 ?_
    refine lv_goto (tgt := 22) hx hb d_M_result_18 rfl ?_
    exact L22 1 _ s.heap ([]) (lv_sub hl [0, 1, 2, 3] rfl) hH (by omega)
theorem nx_M_total_0 {g : Nat}  : g + 6 ≠ g := by omega
theorem nx_M_total_1 {g : Nat}  : g + 6 ≠ g + 11 := by omega
theorem nx_M_total_2 {g : Nat}  : g + 6 ≠ g + 1 := by omega
theorem nx_M_total_3 {g : Nat}  : g + 6 ≠ g + 2 := by omega
theorem nx_M_total_4 {g : Nat}  : g + 6 ≠ g + 3 := by omega
theorem nx_M_total_5 {g : Nat}  : g + 6 ≠ g + 4 := by omega
theorem nx_M_total_6 {g : Nat}  : g + 8 ≠ g := by omega
theorem nx_M_total_7 {g : Nat}  : g + 8 ≠ g + 11 := by omega
theorem nx_M_total_8 {g : Nat}  : g + 8 ≠ g + 1 := by omega
theorem nx_M_total_9 {g : Nat}  : g + 8 ≠ g + 2 := by omega
theorem nx_M_total_10 {g : Nat}  : g + 8 ≠ g + 3 := by omega
theorem nx_M_total_11 {g : Nat}  : g + 8 ≠ g + 4 := by omega
def rm_M_total : Room := { frames := 5, cells := 0, slots := 0, locals := 117 }
set_option maxHeartbeats 4000000 in
set_option maxRecDepth 100000 in
theorem c_M_total (l : Launch) (E : zE) (w0 : zW) (g : Nat) (ty xm ym ne : Int) (f su cn kf mf sf G : Int → Int) (sz : Int → Int) (d k : Int) (q0lt : g < zn E) (q1lt : g + 11 < zn E) (q2lt : g + 6 < zn E) (q3lt : g + 8 < zn E) (q4lt : g + 1 < zn E) (q5lt : g + 2 < zn E) (q6lt : g + 3 < zn E) (q7lt : g + 4 < zn E) (c0 : w0 g = .inr (6, [.ref (ad E (g + 1)), .ref (ad E (g + 2)), .ref (ad E (g + 3)), .ref (ad E (g + 4)), .int (iI ty), .ref (ad E (g + 5)), .ref (ad E (g + 6)), .ref (ad E (g + 7)), .ref (ad E (g + 8)), .ref (ad E (g + 9)), .ref (ad E (g + 10)), .int (iI xm), .int (iI ym), .ref (ad E (g + 11)), .int (iI ne), .ref (ad E (g + 12)), .ref (ad E (g + 13))])) (c1 : w0 (g + 11) = zar E 140 f) (c2 : w0 (g + 6) = zar E 224 su) (c3 : w0 (g + 8) = zar E 112 cn) (c4 : w0 (g + 1) = zar E 8 kf) (c5 : w0 (g + 2) = zaz E 8 mf) (c6 : w0 (g + 3) = zar E 8 sf) (c7 : w0 (g + 4) = zar E 448 G) (bk : bd kf 8 0 3) (bm : bd mf 8 0 1) (bs : bd sf 8 0 24) (bG : bd G 448 0 9) (hB : SuB su sz) (bsz : bd sz 4 0 1000) (bcn : bd cn 112 0 1000) (hne : ne = 0 ∨ ne = 1) (hd : 0 ≤ d ∧ d < 8) (hk0 : 0 ≤ k ∧ k < 4) (bf : bd f 140 0 9) : zM l y_M_total ws_M_total rm_M_total E [.ref (ad E g), .int (iI d), .int (iI k)] w0 (zQi E w0 (fun z w' => (∃ (n' : Int) (f' : Int → Int) (k' : Int → Int) (m' : Int → Int) (s' : Int → Int) (G' : Int → Int), w' g = .inr (6, [.ref (ad E (g + 1)), .ref (ad E (g + 2)), .ref (ad E (g + 3)), .ref (ad E (g + 4)), .int (iI ty), .ref (ad E (g + 5)), .ref (ad E (g + 6)), .ref (ad E (g + 7)), .ref (ad E (g + 8)), .ref (ad E (g + 9)), .ref (ad E (g + 10)), .int (iI xm), .int (iI ym), .ref (ad E (g + 11)), .int (iI n'), .ref (ad E (g + 12)), .ref (ad E (g + 13))]) ∧ w' (g + 11) = zar E 140 f' ∧ w' (g + 1) = zar E 8 k' ∧ w' (g + 2) = zaz E 8 m' ∧ w' (g + 3) = zar E 8 s' ∧ w' (g + 4) = zar E 448 G' ∧ bd f' 140 0 9 ∧ bd k' 8 0 3 ∧ bd m' 8 0 1 ∧ bd s' 8 0 24 ∧ bd G' 448 0 9 ∧ ((n' = 0 ∨ n' = 1) ∧ ((z = -6 ∧ Sm (fun j => cn (28 * k + j)) 28 = 0 ∧ NoR kf sf mf G k' s' m' G') ∨ (Sm (fun j => cn (28 * k + j)) 28 ≠ 0 ∧ RsR z d (cn (28 * k + 25)) (cn (28 * k + 26)) (cn (28 * k + 27)) (Gt su k) (fun j => cn (28 * k + j)) kf sf mf G k' s' m' G')))) ∧ ∀ k, k ≠ g → k ≠ (g + 11) → k ≠ (g + 1) → k ≠ (g + 2) → k ≠ (g + 3) → k ≠ (g + 4) → w' k = w0 k)) := by
  refine z_met (cc := b_M_total) (maxL := 3) (ret := (some .int)) (by decide +kernel) rfl (Nat.le_of_ble_eq_true rfl) ?_
  intro p e s m below meth cd ls a Qf hQ hC hl hH
  obtain ⟨hF, hr, hlk, hK, hG, hn⟩ := hC
  obtain ⟨hx, hb, hml, hown, hts⟩ := hF
  have hg : ∀ w ∈ GW, w.before a s = true := fun w h => hts w (List.mem_cons_of_mem _ h)
  have hA : ∀ q, s.heap.size ≤ q → va_A (wl E w0) s.heap.size q := fun q h => Or.inr h
  have hl : lv_has ls 3 [(0, .ref (ad E g)), (1, .int (iI d)), (2, .int (iI k))] := hl
  refine lv_aload_n hx hb d_M_total_0 rfl (lv_at hl 0 rfl) ?_
  refine lv_iload_n hx hb d_M_total_1 rfl (lv_at hl 1 rfl) ?_
  refine zv_bipush hx hb d_M_total_2 rfl ?_
  refine z_calli (va_runV (As := [.int (iI d), .int (iI 7)]) (rest := []) ⟨hx, hb, hml, hown, hts⟩ (c_M_out (l := l) (E := E) (w0 := w0) (g := g) (ty := ty) (xm := xm) (ym := ym) (ne := ne) (v := d) (mo := 7) (q0lt := q0lt) (c0 := c0) (hv := by omega) (hmo := by omega) s.heap.size) (z_cwV (C := "ScaledNumeralDeskModel") 2 hg wm_746 wm_743 wm_9 wm_745 wm_s29 (by decide +kernel) ⟨Nat.le_of_ble_eq_true rfl, Nat.le_of_ble_eq_true rfl⟩) (z_preV (r := ("ScaledNumeralDeskModel", TM, 17)) hK hG hn hH hA q0lt c0 rfl) rfl rfl hl.1 rfl (lv_room (Nat.le_of_ble_eq_true rfl)) d_M_total_4 ⟨Nat.zero_le _, Nat.zero_le _⟩) hH hA (fun z5 w3 H1 lc2 hH4 q4 => ?_)
  obtain ⟨ew6, q4⟩ := q4
  rw [ew6] at hH4
  replace q4 : (z5 = 1 ∧ (d < 0 ∨ (7 : Int) < d)) ∨ (z5 = 0 ∧ 0 ≤ d ∧ d ≤ (7 : Int)) := q4
  refine zv_if_ne (tgt := 19) hx hb d_M_total_7 rfl (by omega) (fun h7 => absurd h7 (by omega)) (fun h7 => ?_)
  refine lv_aload_n hx hb d_M_total_10 rfl (lv_at hl 0 rfl) ?_
  refine lv_iload_n hx hb d_M_total_11 rfl (lv_at hl 2 rfl) ?_
  refine zv_iconst hx hb d_M_total_12 ?_
  refine z_calli (va_runV (As := [.int (iI k), .int (iI 3)]) (rest := []) ⟨hx, hb, hml, hown, hts⟩ (c_M_out (l := l) (E := E) (w0 := w0) (g := g) (ty := ty) (xm := xm) (ym := ym) (ne := ne) (v := k) (mo := 3) (q0lt := q0lt) (c0 := c0) (hv := by omega) (hmo := by omega) H1.size) (z_cwV (C := "ScaledNumeralDeskModel") 2 hg wm_746 wm_743 wm_9 wm_745 wm_s29 (by decide +kernel) ⟨Nat.le_of_ble_eq_true rfl, Nat.le_of_ble_eq_true rfl⟩) (z_preV (r := ("ScaledNumeralDeskModel", TM, 17)) hK hG hn hH4 hA q0lt c0 rfl) rfl rfl hl.1 rfl (lv_room (Nat.le_of_ble_eq_true rfl)) d_M_total_13 ⟨Nat.zero_le _, Nat.zero_le _⟩) hH4 hA (fun z12 w10 H8 lc9 hH11 q13 => ?_)
  obtain ⟨ew13, q13⟩ := q13
  rw [ew13] at hH11
  replace q13 : (z12 = 1 ∧ (k < 0 ∨ (3 : Int) < k)) ∨ (z12 = 0 ∧ 0 ≤ k ∧ k ≤ (3 : Int)) := q13
  refine zv_if_eq (tgt := 21) hx hb d_M_total_16 rfl (by omega) (fun h14 => ?_) (fun h14 => absurd h14 (by omega))
  refine lv_aload_n hx hb d_M_total_21 rfl (lv_at hl 0 rfl) ?_
  refine lv_iload_n hx hb d_M_total_22 rfl (lv_at hl 2 rfl) ?_
  refine z_calli (va_runV (As := [.int (iI k)]) (rest := []) ⟨hx, hb, hml, hown, hts⟩ (c_M_count (l := l) (E := E) (w0 := w0) (g := g) (ty := ty) (xm := xm) (ym := ym) (ne := ne) (cn := cn) (k := k) (q0lt := q0lt) (q1lt := q3lt) (c0 := c0) (c1 := c3) (bcn := bcn) (hk0 := by omega) H8.size) (z_cwV (C := "ScaledNumeralDeskModel") 1 hg wm_975 wm_980 wm_9 wm_973 wm_974 (by decide +kernel) ⟨Nat.le_of_ble_eq_true rfl, Nat.le_of_ble_eq_true rfl⟩) (z_preV (r := ("ScaledNumeralDeskModel", TM, 17)) hK hG hn hH11 hA q0lt c0 rfl) rfl rfl hl.1 rfl (lv_room (Nat.le_of_ble_eq_true rfl)) d_M_total_23 ⟨Nat.zero_le _, Nat.zero_le _⟩) hH11 hA (fun z19 w17 H15 lc16 hH18 p23 => ?_)
  obtain ⟨ew20, p23⟩ := p23
  rw [ew20] at hH18
  replace p23 : z19 = Sm (fun j => cn (28 * k + j)) 28 ∧ 0 ≤ z19 ∧ z19 ≤ 28000 := p23
  refine zv_if_ne (tgt := 34) hx hb d_M_total_26 rfl (by omega) (fun h21 => ?_) (fun h21 => ?_)
  · refine lv_aload_n hx hb d_M_total_34 rfl (lv_at hl 0 rfl) ?_
    refine lv_iload_n hx hb d_M_total_35 rfl (lv_at hl 1 rfl) ?_
    refine lv_iload_n hx hb d_M_total_36 rfl (lv_at hl 2 rfl) ?_
    refine z_calli (va_runV (As := [.int (iI d), .int (iI k)]) (rest := []) ⟨hx, hb, hml, hown, hts⟩ (c_M_result (l := l) (E := E) (w0 := w0) (g := g) (ty := ty) (xm := xm) (ym := ym) (ne := ne) (f := f) (su := su) (cn := cn) (kf := kf) (mf := mf) (sf := sf) (G := G) (sz := sz) (d := d) (k := k) (q0lt := q0lt) (q1lt := q1lt) (q2lt := q2lt) (q3lt := q3lt) (q4lt := q4lt) (q5lt := q5lt) (q6lt := q6lt) (q7lt := q7lt) (c0 := c0) (c1 := c1) (c2 := c2) (c3 := c3) (c4 := c4) (c5 := c5) (c6 := c6) (c7 := c7) (bk := bk) (bm := bm) (bs := bs) (bG := bG) (hB := by omega) (bsz := by omega) (bcn := bcn) (hne := by omega) (hd := by omega) (hk0 := by omega) (bf := by omega) H15.size) (z_cwV (C := "ScaledNumeralDeskModel") 2 hg wm_984 wm_981 wm_9 wm_983 wm_s75 (by decide +kernel) ⟨Nat.le_of_ble_eq_true rfl, Nat.le_of_ble_eq_true rfl⟩) (z_preV (r := ("ScaledNumeralDeskModel", TM, 17)) hK hG hn hH18 hA q0lt c0 rfl) rfl rfl hl.1 rfl (lv_room (Nat.le_of_ble_eq_true rfl)) d_M_total_37 ⟨Nat.zero_le _, Nat.zero_le _⟩) hH18 hA (fun z26 w24 H22 lc23 hH25 p37 => ?_)
    obtain ⟨⟨n_27, f_28, k_29, m_30, s_31, x_32, e33, e34, e35, e36, e37, e38, bd39, bd40, bd41, bd42, bd43, p37⟩, hg44⟩ := p37
    replace bd39 : bd f_28 140 0 9 := bd39
    replace bd40 : bd k_29 8 0 3 := bd40
    replace bd41 : bd m_30 8 0 1 := bd41
    replace bd42 : bd s_31 8 0 24 := bd42
    replace bd43 : bd x_32 448 0 9 := bd43
    replace p37 : (n_27 = 0 ∨ n_27 = 1) ∧ RsR z26 d (cn (28 * k + 25)) (cn (28 * k + 26)) (cn (28 * k + 27)) (Gt su k) (fun j => cn (28 * k + j)) kf sf mf G k_29 s_31 m_30 x_32 := p37
    have e45 : w24 (g + 6) = zar E 224 su := (hg44 (g + 6) (nx_M_total_0 ) (nx_M_total_1 ) (nx_M_total_2 ) (nx_M_total_3 ) (nx_M_total_4 ) (nx_M_total_5 )).trans c2
    have e46 : w24 (g + 8) = zar E 112 cn := (hg44 (g + 8) (nx_M_total_6 ) (nx_M_total_7 ) (nx_M_total_8 ) (nx_M_total_9 ) (nx_M_total_10 ) (nx_M_total_11 )).trans c3
    have hf47 : ∀ k, k ≠ g → k ≠ (g + 11) → k ≠ (g + 1) → k ≠ (g + 2) → k ≠ (g + 3) → k ≠ (g + 4) → w24 k = w0 k := fun k g0 g1 g2 g3 g4 g5 => hg44 k g0 g1 g2 g3 g4 g5
    rw [hQ]
    exact z_iret hx hb hr hlk hH25 (⟨⟨n_27, f_28, k_29, m_30, s_31, x_32, e33, e34, e35, e36, e37, e38, bd39, bd40, bd41, bd42, bd43, ⟨p37.1, Or.inr ⟨by omega, p37.2⟩⟩⟩, (fun k g0 g1 g2 g3 g4 g5 => hf47 k g0 g1 g2 g3 g4 g5)⟩) d_M_total_40
  · refine zv_bipush hx hb d_M_total_29 rfl ?_
    refine lv_goto (tgt := 40) hx hb d_M_total_31 rfl ?_
    rw [hQ]
    exact z_iret hx hb hr hlk hH18 (⟨⟨ne, f, kf, mf, sf, G, c0, c1, c4, c5, c6, c7, (by assumption), bk, bm, bs, bG, ⟨hne, Or.inl ⟨rfl, by omega, rfl, rfl, rfl, rfl⟩⟩⟩, (fun k _ _ _ _ _ _ => rfl)⟩) d_M_total_40
