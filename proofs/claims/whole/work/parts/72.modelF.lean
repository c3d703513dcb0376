def rm_M_place : Room := { frames := 0, cells := 0, slots := 0, locals := 0 }
set_option maxHeartbeats 4000000 in
set_option maxRecDepth 100000 in
theorem c_M_place (l : Launch) (E : zE) (w0 : zW) (g : Nat) (ty xm ym ne : Int) (kf sf : Int → Int) (k ra : Int) (q0lt : g < zn E) (q1lt : g + 1 < zn E) (q2lt : g + 3 < zn E) (c0 : w0 g = .inr (6, [.ref (ad E (g + 1)), .ref (ad E (g + 2)), .ref (ad E (g + 3)), .ref (ad E (g + 4)), .int (iI ty), .ref (ad E (g + 5)), .ref (ad E (g + 6)), .ref (ad E (g + 7)), .ref (ad E (g + 8)), .ref (ad E (g + 9)), .ref (ad E (g + 10)), .int (iI xm), .int (iI ym), .ref (ad E (g + 11)), .int (iI ne), .ref (ad E (g + 12)), .ref (ad E (g + 13))])) (c1 : w0 (g + 1) = zar E 8 kf) (c2 : w0 (g + 3) = zar E 8 sf) (bk : bd kf 8 0 3) (bs : bd sf 8 0 24) (hk0 : 0 ≤ k ∧ k < 4) (hra : 0 ≤ ra ∧ ra < 8) : zM l y_M_place ws_M_place rm_M_place E [.ref (ad E g), .int (iI k), .int (iI ra)] w0 (zQi E w0 (fun z w' => w' = w0 ∧ (z = 28 * k + midx (kf ra) (sf ra) ∧ 0 ≤ midx (kf ra) (sf ra) ∧ midx (kf ra) (sf ra) < 28))) := by
  refine z_met (cc := b_M_place) (maxL := 3) (ret := (some .int)) (by decide +kernel) rfl (Nat.le_of_ble_eq_true rfl) ?_
  intro p e s m below meth cd ls a Qf hQ hC hl hH
  obtain ⟨hF, hr, hlk, hK, hG, hn⟩ := hC
  obtain ⟨hx, hb, hml, hown, hts⟩ := hF
  have hg : ∀ w ∈ GW, w.before a s = true := fun w h => hts w (List.mem_cons_of_mem _ h)
  have hA : ∀ q, s.heap.size ≤ q → va_A (wl E w0) s.heap.size q := fun q h => Or.inr h
  have hl : lv_has ls 3 [(0, .ref (ad E g)), (1, .int (iI k)), (2, .int (iI ra))] := hl
  have bka := bk ra hra.1 hra.2
  have bsa := bs ra hra.1 hra.2
  have mi := midx_in bka bsa
  refine zv_bipush hx hb d_M_place_0 rfl ?_
  refine lv_iload_n hx hb d_M_place_2 rfl (lv_at hl 1 rfl) ?_
  refine zv_imul hx hb d_M_place_3 ?_
  refine lv_aload_n hx hb d_M_place_4 rfl (lv_at hl 0 rfl) ?_
  refine zv_get (C := "ScaledNumeralDeskModel") (T := TM) (N := 17) hx hb hg uM_in hown hK hH q0lt c0 rfl 0 (by decide) (hg _ wm_682) (fun _ h9 => h9) rfl d_M_place_5 ?_
  refine lv_iload_n hx hb d_M_place_8 rfl (lv_at hl 2 rfl) ?_
  refine zv_iald hx hb hK hH q1lt c1 (by omega) (by omega) (by omega) d_M_place_9 ?_
  have b1 := bk ra (by omega) (by omega)
  refine zv_if_ne (tgt := 22) hx hb d_M_place_10 rfl (by omega) (fun h2 => ?_) (fun h2 => ?_)
  · refine zv_bipush hx hb d_M_place_22 rfl ?_
    refine lv_aload_n hx hb d_M_place_24 rfl (lv_at hl 0 rfl) ?_
    refine zv_get (C := "ScaledNumeralDeskModel") (T := TM) (N := 17) hx hb hg uM_in hown hK hH q0lt c0 rfl 0 (by decide) (hg _ wm_682) (fun _ h9 => h9) rfl d_M_place_25 ?_
    refine lv_iload_n hx hb d_M_place_28 rfl (lv_at hl 2 rfl) ?_
    refine zv_iald hx hb hK hH q1lt c1 (by omega) (by omega) (by omega) d_M_place_29 ?_
    have b3 := bk ra (by omega) (by omega)
    refine zv_iadd hx hb d_M_place_30 ?_
    refine zv_iadd hx hb d_M_place_31 ?_
    rw [hQ]
    exact z_iret hx hb hr hlk hH (⟨rfl, ⟨by rw [midx_n (by omega)], mi.1, mi.2⟩⟩) d_M_place_32
  · refine lv_aload_n hx hb d_M_place_13 rfl (lv_at hl 0 rfl) ?_
    refine zv_get (C := "ScaledNumeralDeskModel") (T := TM) (N := 17) hx hb hg uM_in hown hK hH q0lt c0 rfl 2 (by decide) (hg _ wm_684) (fun _ h9 => h9) rfl d_M_place_14 ?_
    refine lv_iload_n hx hb d_M_place_17 rfl (lv_at hl 2 rfl) ?_
    refine zv_iald hx hb hK hH q2lt c2 (by omega) (by omega) (by omega) d_M_place_18 ?_
    have b4 := bs ra (by omega) (by omega)
    refine lv_goto (tgt := 31) hx hb d_M_place_19 rfl ?_
    refine zv_iadd hx hb d_M_place_31 ?_
    rw [hQ]
    exact z_iret hx hb hr hlk hH (⟨rfl, ⟨by rw [midx_0 (by omega)], mi.1, mi.2⟩⟩) d_M_place_32
theorem nx_M_gather_0 {g : Nat}  : g ≠ g + 8 := by omega
theorem nx_M_gather_1 {g : Nat}  : g + 1 ≠ g + 8 := by omega
theorem nx_M_gather_2 {g : Nat}  : g + 2 ≠ g + 8 := by omega
theorem nx_M_gather_3 {g : Nat}  : g + 3 ≠ g + 8 := by omega
theorem nx_M_gather_4 {g : Nat}  : g + 4 ≠ g + 8 := by omega
theorem nx_M_gather_5 {g : Nat}  : g + 6 ≠ g + 8 := by omega
theorem nx_M_gather_6 {g : Nat}  : g + 7 ≠ g + 8 := by omega
theorem nx_M_gather_7 {g : Nat}  : g ≠ g + 7 := by omega
theorem nx_M_gather_8 {g : Nat}  : g + 1 ≠ g + 7 := by omega
theorem nx_M_gather_9 {g : Nat}  : g + 2 ≠ g + 7 := by omega
theorem nx_M_gather_10 {g : Nat}  : g + 3 ≠ g + 7 := by omega
theorem nx_M_gather_11 {g : Nat}  : g + 4 ≠ g + 7 := by omega
theorem nx_M_gather_12 {g : Nat}  : g + 6 ≠ g + 7 := by omega
theorem nx_M_gather_13 {g : Nat}  : g + 8 ≠ g + 7 := by omega
theorem nx_M_gather_14 {g : Nat}  : g ≠ g + 6 := by omega
theorem nx_M_gather_15 {g : Nat}  : g + 1 ≠ g + 6 := by omega
theorem nx_M_gather_16 {g : Nat}  : g + 2 ≠ g + 6 := by omega
theorem nx_M_gather_17 {g : Nat}  : g + 3 ≠ g + 6 := by omega
theorem nx_M_gather_18 {g : Nat}  : g + 4 ≠ g + 6 := by omega
theorem nx_M_gather_19 {g : Nat}  : g + 7 ≠ g + 6 := by omega
theorem nx_M_gather_20 {g : Nat}  : g + 8 ≠ g + 6 := by omega
def rm_M_gather : Room := { frames := 1, cells := 0, slots := 0, locals := 22 }
set_option maxHeartbeats 4000000 in
set_option maxRecDepth 100000 in
theorem c_M_gather (l : Launch) (E : zE) (w0 : zW) (g : Nat) (ty xm ym ne : Int) (kf mf sf G su sz cn : Int → Int) (k ra aw : Int) (q0lt : g < zn E) (q1lt : g + 1 < zn E) (q2lt : g + 2 < zn E) (q3lt : g + 3 < zn E) (q4lt : g + 4 < zn E) (q5lt : g + 6 < zn E) (q6lt : g + 7 < zn E) (q7lt : g + 8 < zn E) (c0 : w0 g = .inr (6, [.ref (ad E (g + 1)), .ref (ad E (g + 2)), .ref (ad E (g + 3)), .ref (ad E (g + 4)), .int (iI ty), .ref (ad E (g + 5)), .ref (ad E (g + 6)), .ref (ad E (g + 7)), .ref (ad E (g + 8)), .ref (ad E (g + 9)), .ref (ad E (g + 10)), .int (iI xm), .int (iI ym), .ref (ad E (g + 11)), .int (iI ne), .ref (ad E (g + 12)), .ref (ad E (g + 13))])) (c1 : w0 (g + 1) = zar E 8 kf) (c2 : w0 (g + 2) = zaz E 8 mf) (c3 : w0 (g + 3) = zar E 8 sf) (c4 : w0 (g + 4) = zar E 448 G) (c5 : w0 (g + 6) = zar E 224 su) (c6 : w0 (g + 7) = zar E 4 sz) (c7 : w0 (g + 8) = zar E 112 cn) (bk : bd kf 8 0 3) (bm : bd mf 8 0 1) (bs : bd sf 8 0 24) (bG : bd G 448 0 9) (hB : SuB su sz) (bsz : bd sz 4 0 1000) (bcn : bd cn 112 0 1000) (hk0 : 0 ≤ k ∧ k < 4) (hra : 0 ≤ ra ∧ ra < 8) (haw : aw = 0 ∨ aw = 1) (hszk : sz k < 1000) : zM l y_M_gather ws_M_gather rm_M_gather E [.ref (ad E g), .int (iI k), .int (iI ra), .int (iI aw)] w0 (zQv E w0 (fun w' => (∃ (su' : Int → Int) (sz' : Int → Int) (cn' : Int → Int), w' (g + 6) = zar E 224 su' ∧ w' (g + 7) = zar E 4 sz' ∧ w' (g + 8) = zar E 112 cn' ∧ (GaR k aw (kf ra) (mf ra) (Gt G ra) su su' ∧ SuB su' sz' ∧ sz' = up sz k (sz k + 1) ∧ cn' = up cn (28 * k + midx (kf ra) (sf ra)) (cn (28 * k + midx (kf ra) (sf ra)) + (1 - 2 * aw)))) ∧ ∀ k, k ≠ (g + 6) → k ≠ (g + 7) → k ≠ (g + 8) → w' k = w0 k)) := by
  refine z_met (cc := b_M_gather) (maxL := 6) (ret := none) (by decide +kernel) rfl (Nat.le_of_ble_eq_true rfl) ?_
  intro p e s m below meth cd ls a Qf hQ hC hl hH
  obtain ⟨hF, hr, hlk, hK, hG, hn⟩ := hC
  obtain ⟨hx, hb, hml, hown, hts⟩ := hF
  have hg : ∀ w ∈ GW, w.before a s = true := fun w h => hts w (List.mem_cons_of_mem _ h)
  have hA : ∀ q, s.heap.size ≤ q → va_A (wl E w0) s.heap.size q := fun q h => Or.inr h
  have hl : lv_has ls 6 [(0, .ref (ad E g)), (1, .int (iI k)), (2, .int (iI ra)), (3, .int (iI aw))] := hl
  have bka := bk ra hra.1 hra.2
  have bma := bm ra hra.1 hra.2
  have bsa := bs ra hra.1 hra.2
  have vga := Gt_in bG hra
  have bszk := bsz k hk0.1 hk0.2
  refine zv_iconst hx hb d_M_gather_0 ?_
  refine lv_istore (lv' := [(4, .int (iI 0)), (0, .ref (ad E g)), (1, .int (iI k)), (2, .int (iI ra)), (3, .int (iI aw))]) hx hb d_M_gather_1 hl (by decide) rfl (fun ls hl => ?_)
  have L3 : ∀ (fu : Nat) (i : Int) (h : Int → Int) (ls : Array Slot) (H1 : Heap) (lc2 : List Loc) (w3 : zW), (lv_has ls 6 [(0, .ref (ad E g)), (1, .int (iI k)), (2, .int (iI ra)), (3, .int (iI aw)), (4, .int (iI i))]) → (zH E w3 (va_A (wl E w0) s.heap.size) s.heap H1 lc2) → (w3 g = .inr (6, [.ref (ad E (g + 1)), .ref (ad E (g + 2)), .ref (ad E (g + 3)), .ref (ad E (g + 4)), .int (iI ty), .ref (ad E (g + 5)), .ref (ad E (g + 6)), .ref (ad E (g + 7)), .ref (ad E (g + 8)), .ref (ad E (g + 9)), .ref (ad E (g + 10)), .int (iI xm), .int (iI ym), .ref (ad E (g + 11)), .int (iI ne), .ref (ad E (g + 12)), .ref (ad E (g + 13))])) → (w3 (g + 1) = zar E 8 kf) → (w3 (g + 2) = zaz E 8 mf) → (w3 (g + 3) = zar E 8 sf) → (w3 (g + 4) = zar E 448 G) → (w3 (g + 6) = zar E 224 h) → (w3 (g + 7) = zar E 4 sz) → (w3 (g + 8) = zar E 112 cn) → (∀ k, k ≠ (g + 6) → w3 k = w0 k) → (0 ≤ i ∧ i ≤ 56) → (kf ra ≠ 0 → i = 0) → (∀ j : Int, 0 ≤ j → j < i → h (56 * k + j) = su (56 * k + j) + sv (dif (mf ra) aw) (G (56 * ra + j))) → (∀ j : Int, ¬ (56 * k ≤ j ∧ j < 56 * k + i) → h j = su j) → (56 - i < (fu : Int)) → W p l e rm_M_gather s m a below meth cd H1 lc2 0 0 Qf (F0 m 3 ls []) := by
    intro fu
    induction fu with
    | zero => intro i h ls H1 lc2 w3 hl hH e4 e5 e6 e7 e8 e9 e10 e11 hf12 hi hin hk ho hm; exact absurd hm (by omega)
    | succ fu ih =>
      intro i h ls H1 lc2 w3 hl hH e4 e5 e6 e7 e8 e9 e10 e11 hf12 hi hin hk ho hm
      have L72 : ∀  (ls : Array Slot) (H13 : Heap) (lc14 : List Loc), (lv_has ls 6 [(0, .ref (ad E g)), (1, .int (iI k)), (2, .int (iI ra)), (3, .int (iI aw)), (4, .int (iI i))]) → (zH E w3 (va_A (wl E w0) s.heap.size) s.heap H13 lc14) → ((kf ra = 0 ∧ i = 56) ∨ (kf ra ≠ 0 ∧ i = 0)) → W p l e rm_M_gather s m a below meth cd H13 lc14 0 0 Qf (F0 m 72 ls []) := by
        intro ls H13 lc14 hl hH h72
        refine lv_aload_n hx hb d_M_gather_72 rfl (lv_at hl 0 rfl) ?_
        refine zv_get (C := "ScaledNumeralDeskModel") (T := TM) (N := 17) hx hb hg uM_in hown hK hH q0lt e4 rfl 8 (by decide) (hg _ wm_690) (fun _ h9 => h9) rfl d_M_gather_73 ?_
        refine lv_aload_n hx hb d_M_gather_76 rfl (lv_at hl 0 rfl) ?_
        refine lv_iload_n hx hb d_M_gather_77 rfl (lv_at hl 1 rfl) ?_
        refine lv_iload_n hx hb d_M_gather_78 rfl (lv_at hl 2 rfl) ?_
        refine z_calli (va_runV (As := [.int (iI k), .int (iI ra)]) (rest := [.ref (ad E (g + 8))]) ⟨hx, hb, hml, hown, hts⟩ (c_M_place (l := l) (E := E) (w0 := w3) (g := g) (ty := ty) (xm := xm) (ym := ym) (ne := ne) (kf := kf) (sf := sf) (k := k) (ra := ra) (q0lt := q0lt) (q1lt := q1lt) (q2lt := q3lt) (c0 := e4) (c1 := e5) (c2 := e7) (bk := bk) (bs := bs) (hk0 := by omega) (hra := by omega) H13.size) (z_cwV (C := "ScaledNumeralDeskModel") 2 hg wm_959 wm_956 wm_9 wm_958 wm_s74 (by decide +kernel) ⟨Nat.le_of_ble_eq_true rfl, Nat.le_of_ble_eq_true rfl⟩) (z_preV (r := ("ScaledNumeralDeskModel", TM, 17)) hK hG hn hH hA q0lt e4 rfl) rfl rfl hl.1 rfl (lv_room (Nat.le_of_ble_eq_true rfl)) d_M_gather_79 ⟨Nat.zero_le _, Nat.zero_le _⟩) hH hA (fun ix w17 H15 lc16 hH18 p79 => ?_)
        obtain ⟨ew19, p79⟩ := p79
        rw [ew19] at hH18
        replace p79 : ix = 28 * k + midx (kf ra) (sf ra) ∧ 0 ≤ midx (kf ra) (sf ra) ∧ midx (kf ra) (sf ra) < 28 := p79
        have ixr : 0 ≤ ix ∧ ix < 112 := by omega
        have bci := bcn ix ixr.1 ixr.2
        refine lv_dup2_11 hx hb d_M_gather_82 rfl rfl ?_
        refine zv_iald hx hb hK hH18 q7lt e11 (by omega) (by omega) (by omega) d_M_gather_83 ?_
        have L93 : ∀ (b1 : Int) (ls : Array Slot) (H20 : Heap) (lc21 : List Loc), (lv_has ls 6 [(0, .ref (ad E g)), (1, .int (iI k)), (2, .int (iI ra)), (3, .int (iI aw)), (4, .int (iI i))]) → (zH E w3 (va_A (wl E w0) s.heap.size) s.heap H20 lc21) → (b1 = 1 - 2 * aw) → W p l e rm_M_gather s m a below meth cd H20 lc21 0 0 Qf (F0 m 93 ls [.int (iI b1), .int (iI (cn ix)), .int (iI ix), .ref (ad E (g + 8))]) := by
          intro b1 ls H20 lc21 hl hH hb1
          refine zv_iadd hx hb d_M_gather_93 ?_
          refine zv_iast hx hb hK hH q7lt e11 (by omega) (by omega) (by omega) d_M_gather_94 (fun H23 lc24 w22 hH25 e26 hg27 => ?_)
          have e28 : w22 g = .inr (6, [.ref (ad E (g + 1)), .ref (ad E (g + 2)), .ref (ad E (g + 3)), .ref (ad E (g + 4)), .int (iI ty), .ref (ad E (g + 5)), .ref (ad E (g + 6)), .ref (ad E (g + 7)), .ref (ad E (g + 8)), .ref (ad E (g + 9)), .ref (ad E (g + 10)), .int (iI xm), .int (iI ym), .ref (ad E (g + 11)), .int (iI ne), .ref (ad E (g + 12)), .ref (ad E (g + 13))]) := (hg27 g (nx_M_gather_0 )).trans e4
          have e29 : w22 (g + 1) = zar E 8 kf := (hg27 (g + 1) (nx_M_gather_1 )).trans e5
          have e30 : w22 (g + 2) = zaz E 8 mf := (hg27 (g + 2) (nx_M_gather_2 )).trans e6
          have e31 : w22 (g + 3) = zar E 8 sf := (hg27 (g + 3) (nx_M_gather_3 )).trans e7
          have e32 : w22 (g + 4) = zar E 448 G := (hg27 (g + 4) (nx_M_gather_4 )).trans e8
          have e33 : w22 (g + 6) = zar E 224 h := (hg27 (g + 6) (nx_M_gather_5 )).trans e9
          have e34 : w22 (g + 7) = zar E 4 sz := (hg27 (g + 7) (nx_M_gather_6 )).trans e10
          have hf35 : ∀ k, k ≠ (g + 6) → k ≠ (g + 8) → w22 k = w0 k := fun k g0 g1 => (hg27 k g1).trans (hf12 k g0)
          refine lv_aload_n hx hb d_M_gather_95 rfl (lv_at hl 0 rfl) ?_
          refine zv_get (C := "ScaledNumeralDeskModel") (T := TM) (N := 17) hx hb hg uM_in hown hK hH25 q0lt e28 rfl 7 (by decide) (hg _ wm_689) (fun _ h9 => h9) rfl d_M_gather_96 ?_
          refine lv_iload_n hx hb d_M_gather_99 rfl (lv_at hl 1 rfl) ?_
          refine lv_dup2_11 hx hb d_M_gather_100 rfl rfl ?_
          refine zv_iald hx hb hK hH25 q6lt e34 (by omega) (by omega) (by omega) d_M_gather_101 ?_
          refine zv_iconst hx hb d_M_gather_102 ?_
          refine zv_iadd hx hb d_M_gather_103 ?_
          refine zv_iast hx hb hK hH25 q6lt e34 (by omega) (by omega) (by omega) d_M_gather_104 (fun H37 lc38 w36 hH39 e40 hg41 => ?_)
          have e42 : w36 g = .inr (6, [.ref (ad E (g + 1)), .ref (ad E (g + 2)), .ref (ad E (g + 3)), .ref (ad E (g + 4)), .int (iI ty), .ref (ad E (g + 5)), .ref (ad E (g + 6)), .ref (ad E (g + 7)), .ref (ad E (g + 8)), .ref (ad E (g + 9)), .ref (ad E (g + 10)), .int (iI xm), .int (iI ym), .ref (ad E (g + 11)), .int (iI ne), .ref (ad E (g + 12)), .ref (ad E (g + 13))]) := (hg41 g (nx_M_gather_7 )).trans e28
          have e43 : w36 (g + 1) = zar E 8 kf := (hg41 (g + 1) (nx_M_gather_8 )).trans e29
          have e44 : w36 (g + 2) = zaz E 8 mf := (hg41 (g + 2) (nx_M_gather_9 )).trans e30
          have e45 : w36 (g + 3) = zar E 8 sf := (hg41 (g + 3) (nx_M_gather_10 )).trans e31
          have e46 : w36 (g + 4) = zar E 448 G := (hg41 (g + 4) (nx_M_gather_11 )).trans e32
          have e47 : w36 (g + 6) = zar E 224 h := (hg41 (g + 6) (nx_M_gather_12 )).trans e33
          have e48 : w36 (g + 8) = zar E 112 (up cn ix ((cn ix) + b1)) := (hg41 (g + 8) (nx_M_gather_13 )).trans e26
          have hf49 : ∀ k, k ≠ (g + 6) → k ≠ (g + 8) → k ≠ (g + 7) → w36 k = w0 k := fun k g0 g1 g2 => (hg41 k g2).trans (hf35 k g0 g1)
          have ga : GaR k aw (kf ra) (mf ra) (Gt G ra) su h ∧ SuB h (up sz k (sz k + 1)) := by
            rcases h72 with h8 | h8
            · have ho2 : ∀ j : Int, ¬ (56 * k ≤ j ∧ j < 56 * k + 56) → h j = su j := fun j g1 => ho j (by omega)
              have hk2 : ∀ j : Int, 0 ≤ j → j < 56 → h (56 * k + j) = su (56 * k + j) + sv (dif (mf ra) aw) (G (56 * ra + j)) := fun j g1 g2 => hk j g1 (by omega)
              refine ⟨Or.inl ⟨h8.1, ga_V (dif_01 _ _) hk2, ho2⟩, ga_B hB (fun j g1 g2 => ?_) ho2⟩
              have b8 := hB k j hk0.1 hk0.2 g1 g2
              have b9 := sv_9 (dif_01 (mf ra) aw) (bG (56 * ra + j) (by omega) (by omega))
              rw [hk2 j g1 g2]; omega
            · have he : h = su := funext (fun j => ho j (by omega))
              rw [he]
              refine ⟨Or.inr ⟨h8.1, rfl⟩, ga_B hB (fun j g1 g2 => ?_) (fun _ _ => rfl)⟩
              have b8 := hB k j hk0.1 hk0.2 g1 g2
              omega
          rw [hQ]
          exact z_vret hx hb hr hlk hH39 (⟨⟨h, (up sz k ((sz k) + 1)), (up cn ix ((cn ix) + b1)), e47, e40, e48, ⟨ga.1, ga.2, rfl, by rw [← p79.1, hb1]⟩⟩, (fun k g0 g1 g2 => hf49 k g0 g2 g1)⟩) d_M_gather_105
        refine lv_iload_n hx hb d_M_gather_84 rfl (lv_at hl 3 rfl) ?_
        refine zv_if_eq (tgt := 92) hx hb d_M_gather_85 rfl (by omega) (fun h50 => ?_) (fun h50 => ?_)
        · refine zv_iconst hx hb d_M_gather_92 ?_
          exact L93 1 _ H15 lc16 (lv_sub hl [0, 1, 2, 3, 4] rfl) hH18 (by omega)
        · refine zv_iconst hx hb d_M_gather_88 ?_
          refine lv_goto (tgt := 93) hx hb d_M_gather_89 rfl ?_
          exact L93 (-1) _ H15 lc16 (lv_sub hl [0, 1, 2, 3, 4] rfl) hH18 (by omega)
      refine lv_iload hx hb d_M_gather_3 (lv_at hl 4 rfl) ?_
      refine zv_bipush hx hb d_M_gather_5 rfl ?_
      refine zv_icmp_ge (tgt := 72) hx hb d_M_gather_7 rfl (by omega) (by omega) (fun h51 => ?_) (fun h51 => ?_)
      · exact L72 _ H1 lc2 (lv_sub hl [0, 1, 2, 3, 4] rfl) hH (by omega)
      · refine lv_aload_n hx hb d_M_gather_10 rfl (lv_at hl 0 rfl) ?_
        refine zv_get (C := "ScaledNumeralDeskModel") (T := TM) (N := 17) hx hb hg uM_in hown hK hH q0lt e4 rfl 0 (by decide) (hg _ wm_682) (fun _ h9 => h9) rfl d_M_gather_11 ?_
        refine lv_iload_n hx hb d_M_gather_14 rfl (lv_at hl 2 rfl) ?_
        refine zv_iald hx hb hK hH q1lt e5 (by omega) (by omega) (by omega) d_M_gather_15 ?_
        have b52 := bk ra (by omega) (by omega)
        refine zv_if_ne (tgt := 72) hx hb d_M_gather_16 rfl (by omega) (fun h53 => ?_) (fun h53 => ?_)
        · exact L72 _ H1 lc2 (lv_sub hl [0, 1, 2, 3, 4] rfl) hH (by omega)
        · refine lv_aload_n hx hb d_M_gather_19 rfl (lv_at hl 0 rfl) ?_
          refine zv_get (C := "ScaledNumeralDeskModel") (T := TM) (N := 17) hx hb hg uM_in hown hK hH q0lt e4 rfl 3 (by decide) (hg _ wm_685) (fun _ h9 => h9) rfl d_M_gather_20 ?_
          refine zv_bipush hx hb d_M_gather_23 rfl ?_
          refine lv_iload_n hx hb d_M_gather_25 rfl (lv_at hl 2 rfl) ?_
          refine zv_imul hx hb d_M_gather_26 ?_
          refine lv_iload hx hb d_M_gather_27 (lv_at hl 4 rfl) ?_
          refine zv_iadd hx hb d_M_gather_29 ?_
          refine zv_iald hx hb hK hH q4lt e8 (by omega) (by omega) (by omega) d_M_gather_30 ?_
          have b54 := bG ((56 * ra) + i) (by omega) (by omega)
          refine lv_istore (lv' := [(5, .int (iI (G ((56 * ra) + i)))), (0, .ref (ad E g)), (1, .int (iI k)), (2, .int (iI ra)), (3, .int (iI aw)), (4, .int (iI i))]) hx hb d_M_gather_31 hl (by decide) rfl (fun ls hl => ?_)
          refine lv_aload_n hx hb d_M_gather_33 rfl (lv_at hl 1 rfl) ?_
          refine zv_get (C := "ScaledNumeralDeskModel") (T := TM) (N := 17) hx hb hg uM_in hown hK hH q0lt e4 rfl 6 (by decide) (hg _ wm_688) (fun _ h9 => h9) rfl d_M_gather_34 ?_
          refine zv_bipush hx hb d_M_gather_37 rfl ?_
          refine lv_iload_n hx hb d_M_gather_39 rfl (lv_at hl 2 rfl) ?_
          refine zv_imul hx hb d_M_gather_40 ?_
          refine lv_iload hx hb d_M_gather_41 (lv_at hl 5 rfl) ?_
          refine zv_iadd hx hb d_M_gather_43 ?_
          refine lv_dup2_11 hx hb d_M_gather_44 rfl rfl ?_
          refine zv_iald hx hb hK hH q5lt e9 (by omega) (by omega) (by omega) d_M_gather_45 ?_
          have L64 : ∀ (v2 : Int) (ls : Array Slot) (H55 : Heap) (lc56 : List Loc), (lv_has ls 6 [(5, .int (iI (G ((56 * ra) + i)))), (0, .ref (ad E g)), (1, .int (iI k)), (2, .int (iI ra)), (3, .int (iI aw)), (4, .int (iI i))]) → (zH E w3 (va_A (wl E w0) s.heap.size) s.heap H55 lc56) → (v2 = sv (dif (mf ra) aw) (G (56 * ra + i))) → W p l e rm_M_gather s m a below meth cd H55 lc56 0 0 Qf (F0 m 64 ls [.int (iI v2), .int (iI (h (56 * k + i))), .int (iI (56 * k + i)), .ref (ad E (g + 6))]) := by
            intro v2 ls H55 lc56 hl hH hv2
            refine zv_iadd hx hb d_M_gather_64 ?_
            refine zv_iast hx hb hK hH q5lt e9 (by omega) (by omega) (by omega) d_M_gather_65 (fun H58 lc59 w57 hH60 e61 hg62 => ?_)
            have e63 : w57 g = .inr (6, [.ref (ad E (g + 1)), .ref (ad E (g + 2)), .ref (ad E (g + 3)), .ref (ad E (g + 4)), .int (iI ty), .ref (ad E (g + 5)), .ref (ad E (g + 6)), .ref (ad E (g + 7)), .ref (ad E (g + 8)), .ref (ad E (g + 9)), .ref (ad E (g + 10)), .int (iI xm), .int (iI ym), .ref (ad E (g + 11)), .int (iI ne), .ref (ad E (g + 12)), .ref (ad E (g + 13))]) := (hg62 g (nx_M_gather_14 )).trans e4
            have e64 : w57 (g + 1) = zar E 8 kf := (hg62 (g + 1) (nx_M_gather_15 )).trans e5
            have e65 : w57 (g + 2) = zaz E 8 mf := (hg62 (g + 2) (nx_M_gather_16 )).trans e6
            have e66 : w57 (g + 3) = zar E 8 sf := (hg62 (g + 3) (nx_M_gather_17 )).trans e7
            have e67 : w57 (g + 4) = zar E 448 G := (hg62 (g + 4) (nx_M_gather_18 )).trans e8
            have e68 : w57 (g + 7) = zar E 4 sz := (hg62 (g + 7) (nx_M_gather_19 )).trans e10
            have e69 : w57 (g + 8) = zar E 112 cn := (hg62 (g + 8) (nx_M_gather_20 )).trans e11
            have hf70 : ∀ k, k ≠ (g + 6) → w57 k = w0 k := fun k g0 => (hg62 k g0).trans (hf12 k g0)
            refine zv_iinc (k := 5) (lv' := [(4, .int (iI (i + 1))), (5, .int (iI (G ((56 * ra) + i)))), (0, .ref (ad E g)), (1, .int (iI k)), (2, .int (iI ra)), (3, .int (iI aw))]) hx hb d_M_gather_66 hl rfl (by decide) rfl (fun ls hl => ?_)
            refine lv_goto (tgt := 3) hx hb d_M_gather_69 rfl ?_
            exact ih  (i + 1) (up h (56 * k + i) ((h (56 * k + i)) + v2)) _ H58 lc59 w57 (lv_sub hl [2, 3, 4, 5, 0] rfl) hH60 e63 e64 e65 e66 e67 e61 e68 e69 (fun k g0 => hf70 k g0) (by omega) (by omega) (by intro j g1 g2; by_cases e8 : j = i; rw [e8, up_at, hv2, ho _ (by omega)]; rw [up_ne (by omega)]; exact hk j g1 (by omega)) (by intro j g1; rw [up_ne (by omega)]; exact ho j (by omega)) (by omega)
          refine lv_aload_n hx hb d_M_gather_46 rfl (lv_at hl 1 rfl) ?_
          refine zv_get (C := "ScaledNumeralDeskModel") (T := TM) (N := 17) hx hb hg uM_in hown hK hH q0lt e4 rfl 1 (by decide) (hg _ wm_683) (fun _ h9 => h9) rfl d_M_gather_47 ?_
          refine lv_iload_n hx hb d_M_gather_50 rfl (lv_at hl 3 rfl) ?_
          refine zv_zald hx hb hK hH q2lt e6 (by omega) (by omega) (by omega) d_M_gather_51 ?_
          have b71 := bm ra (by omega) (by omega)
          refine lv_iload_n hx hb d_M_gather_52 rfl (lv_at hl 4 rfl) ?_
          refine zv_icmp_eq (tgt := 62) hx hb d_M_gather_53 rfl (by omega) (by omega) (fun h72 => ?_) (fun h72 => ?_)
          · refine lv_iload hx hb d_M_gather_62 (lv_at hl 0 rfl) ?_
            exact L64 (G ((56 * ra) + i)) _ H1 lc2 (lv_sub hl [0, 1, 2, 3, 4, 5] rfl) hH (by first | (rw [dif_e (by omega), sv_0]; done) | (rw [dif_n (by omega), sv_1]; done))
          · refine lv_iload hx hb d_M_gather_56 (lv_at hl 0 rfl) ?_
            refine zv_ineg hx hb d_M_gather_58 ?_
            refine lv_goto (tgt := 64) hx hb d_M_gather_59 rfl ?_
            exact L64 (-(G ((56 * ra) + i))) _ H1 lc2 (lv_sub hl [0, 1, 2, 3, 4, 5] rfl) hH (by first | (rw [dif_e (by omega), sv_0]; done) | (rw [dif_n (by omega), sv_1]; done))
  exact L3 ((56 - 0 : Int).toNat + 1) 0 su _ s.heap ([]) w0 (lv_sub hl [1, 2, 3, 4, 0] rfl) hH c0 c1 c2 c3 c4 c5 c6 c7 (fun k _ => rfl) (by omega) (by omega) (by intro j g1 g2; omega) (by intro j _; rfl) (by omega)
theorem nx_M_accept_0 {g : Nat}  : g ≠ g + 6 := by omega
theorem nx_M_accept_1 {g : Nat}  : g ≠ g + 7 := by omega
theorem nx_M_accept_2 {g : Nat}  : g ≠ g + 8 := by omega
theorem nx_M_accept_3 {g : Nat}  : g + 1 ≠ g + 6 := by omega
theorem nx_M_accept_4 {g : Nat}  : g + 1 ≠ g + 7 := by omega
theorem nx_M_accept_5 {g : Nat}  : g + 1 ≠ g + 8 := by omega
theorem nx_M_accept_6 {g : Nat}  : g + 2 ≠ g + 6 := by omega
theorem nx_M_accept_7 {g : Nat}  : g + 2 ≠ g + 7 := by omega
theorem nx_M_accept_8 {g : Nat}  : g + 2 ≠ g + 8 := by omega
theorem nx_M_accept_9 {g : Nat}  : g + 3 ≠ g + 6 := by omega
theorem nx_M_accept_10 {g : Nat}  : g + 3 ≠ g + 7 := by omega
theorem nx_M_accept_11 {g : Nat}  : g + 3 ≠ g + 8 := by omega
theorem nx_M_accept_12 {g : Nat}  : g + 4 ≠ g + 6 := by omega
theorem nx_M_accept_13 {g : Nat}  : g + 4 ≠ g + 7 := by omega
theorem nx_M_accept_14 {g : Nat}  : g + 4 ≠ g + 8 := by omega
def rm_M_accept : Room := { frames := 2, cells := 0, slots := 0, locals := 47 }
set_option maxHeartbeats 4000000 in
set_option maxRecDepth 100000 in
theorem c_M_accept (l : Launch) (E : zE) (w0 : zW) (g : Nat) (ty xm ym ne : Int) (kf mf sf G su sz cn : Int → Int) (k ra : Int) (q0lt : g < zn E) (q1lt : g + 1 < zn E) (q2lt : g + 2 < zn E) (q3lt : g + 3 < zn E) (q4lt : g + 4 < zn E) (q5lt : g + 6 < zn E) (q6lt : g + 7 < zn E) (q7lt : g + 8 < zn E) (c0 : w0 g = .inr (6, [.ref (ad E (g + 1)), .ref (ad E (g + 2)), .ref (ad E (g + 3)), .ref (ad E (g + 4)), .int (iI ty), .ref (ad E (g + 5)), .ref (ad E (g + 6)), .ref (ad E (g + 7)), .ref (ad E (g + 8)), .ref (ad E (g + 9)), .ref (ad E (g + 10)), .int (iI xm), .int (iI ym), .ref (ad E (g + 11)), .int (iI ne), .ref (ad E (g + 12)), .ref (ad E (g + 13))])) (c1 : w0 (g + 1) = zar E 8 kf) (c2 : w0 (g + 2) = zaz E 8 mf) (c3 : w0 (g + 3) = zar E 8 sf) (c4 : w0 (g + 4) = zar E 448 G) (c5 : w0 (g + 6) = zar E 224 su) (c6 : w0 (g + 7) = zar E 4 sz) (c7 : w0 (g + 8) = zar E 112 cn) (bk : bd kf 8 0 3) (bm : bd mf 8 0 1) (bs : bd sf 8 0 24) (bG : bd G 448 0 9) (hB : SuB su sz) (bsz : bd sz 4 0 1000) (bcn : bd cn 112 0 1000) (hk0 : 0 ≤ k ∧ k < 4) (hra : 0 ≤ ra ∧ ra < 8) : zM l y_M_accept ws_M_accept rm_M_accept E [.ref (ad E g), .int (iI k), .int (iI ra)] w0 (zQi E w0 (fun z w' => (∃ (su' : Int → Int) (sz' : Int → Int) (cn' : Int → Int), w' (g + 6) = zar E 224 su' ∧ w' (g + 7) = zar E 4 sz' ∧ w' (g + 8) = zar E 112 cn' ∧ ((z = -2 ∧ sz k = 1000 ∧ su' = su ∧ sz' = sz ∧ cn' = cn) ∨ (z = 0 ∧ sz k < 1000 ∧ GaR k 0 (kf ra) (mf ra) (Gt G ra) su su' ∧ SuB su' sz' ∧ sz' = up sz k (sz k + 1) ∧ cn' = up cn (28 * k + midx (kf ra) (sf ra)) (cn (28 * k + midx (kf ra) (sf ra)) + 1)))) ∧ ∀ k, k ≠ (g + 6) → k ≠ (g + 7) → k ≠ (g + 8) → w' k = w0 k)) := by
  refine z_met (cc := b_M_accept) (maxL := 3) (ret := (some .int)) (by decide +kernel) rfl (Nat.le_of_ble_eq_true rfl) ?_
  intro p e s m below meth cd ls a Qf hQ hC hl hH
  obtain ⟨hF, hr, hlk, hK, hG, hn⟩ := hC
  obtain ⟨hx, hb, hml, hown, hts⟩ := hF
  have hg : ∀ w ∈ GW, w.before a s = true := fun w h => hts w (List.mem_cons_of_mem _ h)
  have hA : ∀ q, s.heap.size ≤ q → va_A (wl E w0) s.heap.size q := fun q h => Or.inr h
  have hl : lv_has ls 3 [(0, .ref (ad E g)), (1, .int (iI k)), (2, .int (iI ra))] := hl
  have bszk := bsz k hk0.1 hk0.2
  refine lv_aload_n hx hb d_M_accept_0 rfl (lv_at hl 0 rfl) ?_
  refine lv_iload_n hx hb d_M_accept_1 rfl (lv_at hl 1 rfl) ?_
  refine zv_iconst hx hb d_M_accept_2 ?_
  refine z_calli (va_runV (As := [.int (iI k), .int (iI 3)]) (rest := []) ⟨hx, hb, hml, hown, hts⟩ (c_M_out (l := l) (E := E) (w0 := w0) (g := g) (ty := ty) (xm := xm) (ym := ym) (ne := ne) (v := k) (mo := 3) (q0lt := q0lt) (c0 := c0) (hv := by omega) (hmo := by omega) s.heap.size) (z_cwV (C := "ScaledNumeralDeskModel") 2 hg wm_746 wm_743 wm_9 wm_745 wm_s29 (by decide +kernel) ⟨Nat.le_of_ble_eq_true rfl, Nat.le_of_ble_eq_true rfl⟩) (z_preV (r := ("ScaledNumeralDeskModel", TM, 17)) hK hG hn hH hA q0lt c0 rfl) rfl rfl hl.1 rfl (lv_room (Nat.le_of_ble_eq_true rfl)) d_M_accept_3 ⟨Nat.zero_le _, Nat.zero_le _⟩) hH hA (fun z5 w3 H1 lc2 hH4 q3 => ?_)
  obtain ⟨ew6, q3⟩ := q3
  rw [ew6] at hH4
  replace q3 : (z5 = 1 ∧ (k < 0 ∨ (3 : Int) < k)) ∨ (z5 = 0 ∧ 0 ≤ k ∧ k ≤ (3 : Int)) := q3
  refine zv_if_ne (tgt := 19) hx hb d_M_accept_6 rfl (by omega) (fun h7 => absurd h7 (by omega)) (fun h7 => ?_)
  refine lv_aload_n hx hb d_M_accept_9 rfl (lv_at hl 0 rfl) ?_
  refine lv_iload_n hx hb d_M_accept_10 rfl (lv_at hl 2 rfl) ?_
  refine zv_bipush hx hb d_M_accept_11 rfl ?_
  refine z_calli (va_runV (As := [.int (iI ra), .int (iI 7)]) (rest := []) ⟨hx, hb, hml, hown, hts⟩ (c_M_out (l := l) (E := E) (w0 := w0) (g := g) (ty := ty) (xm := xm) (ym := ym) (ne := ne) (v := ra) (mo := 7) (q0lt := q0lt) (c0 := c0) (hv := by omega) (hmo := by omega) H1.size) (z_cwV (C := "ScaledNumeralDeskModel") 2 hg wm_746 wm_743 wm_9 wm_745 wm_s29 (by decide +kernel) ⟨Nat.le_of_ble_eq_true rfl, Nat.le_of_ble_eq_true rfl⟩) (z_preV (r := ("ScaledNumeralDeskModel", TM, 17)) hK hG hn hH4 hA q0lt c0 rfl) rfl rfl hl.1 rfl (lv_room (Nat.le_of_ble_eq_true rfl)) d_M_accept_13 ⟨Nat.zero_le _, Nat.zero_le _⟩) hH4 hA (fun z12 w10 H8 lc9 hH11 q13 => ?_)
  obtain ⟨ew13, q13⟩ := q13
  rw [ew13] at hH11
  replace q13 : (z12 = 1 ∧ (ra < 0 ∨ (7 : Int) < ra)) ∨ (z12 = 0 ∧ 0 ≤ ra ∧ ra ≤ (7 : Int)) := q13
  refine zv_if_eq (tgt := 21) hx hb d_M_accept_16 rfl (by omega) (fun h14 => ?_) (fun h14 => absurd h14 (by omega))
  refine lv_aload_n hx hb d_M_accept_21 rfl (lv_at hl 0 rfl) ?_
  refine zv_get (C := "ScaledNumeralDeskModel") (T := TM) (N := 17) hx hb hg uM_in hown hK hH11 q0lt c0 rfl 7 (by decide) (hg _ wm_689) (fun _ h9 => h9) rfl d_M_accept_22 ?_
  refine lv_iload_n hx hb d_M_accept_25 rfl (lv_at hl 1 rfl) ?_
  refine zv_iald hx hb hK hH11 q6lt c6 (by omega) (by omega) (by omega) d_M_accept_26 ?_
  refine zv_sipush hx hb d_M_accept_27 rfl ?_
  refine zv_icmp_ne (tgt := 36) hx hb d_M_accept_30 rfl (by omega) (by omega) (fun h15 => ?_) (fun h15 => ?_)
  · refine lv_aload_n hx hb d_M_accept_36 rfl (lv_at hl 0 rfl) ?_
    refine lv_iload_n hx hb d_M_accept_37 rfl (lv_at hl 1 rfl) ?_
    refine lv_iload_n hx hb d_M_accept_38 rfl (lv_at hl 2 rfl) ?_
    refine zv_iconst hx hb d_M_accept_39 ?_
    refine z_callv (va_runV (As := [.int (iI k), .int (iI ra), .int (iI 0)]) (rest := []) ⟨hx, hb, hml, hown, hts⟩ (c_M_gather (l := l) (E := E) (w0 := w0) (g := g) (ty := ty) (xm := xm) (ym := ym) (ne := ne) (kf := kf) (mf := mf) (sf := sf) (G := G) (su := su) (sz := sz) (cn := cn) (k := k) (ra := ra) (aw := 0) (q0lt := q0lt) (q1lt := q1lt) (q2lt := q2lt) (q3lt := q3lt) (q4lt := q4lt) (q5lt := q5lt) (q6lt := q6lt) (q7lt := q7lt) (c0 := c0) (c1 := c1) (c2 := c2) (c3 := c3) (c4 := c4) (c5 := c5) (c6 := c6) (c7 := c7) (bk := bk) (bm := bm) (bs := bs) (bG := bG) (hB := by omega) (bsz := by omega) (bcn := by omega) (hk0 := by omega) (hra := by omega) (haw := by omega) (hszk := by omega) H8.size) (z_cwV (C := "ScaledNumeralDeskModel") 3 hg wm_955 wm_952 wm_9 wm_954 wm_s73 (by decide +kernel) ⟨Nat.le_of_ble_eq_true rfl, Nat.le_of_ble_eq_true rfl⟩) (z_preV (r := ("ScaledNumeralDeskModel", TM, 17)) hK hG hn hH11 hA q0lt c0 rfl) rfl rfl hl.1 rfl (lv_room (Nat.le_of_ble_eq_true rfl)) d_M_accept_40 ⟨Nat.zero_le _, Nat.zero_le _⟩) hH11 hA (fun  w18 H16 lc17 hH19 p40 => ?_)
    obtain ⟨⟨su_20, sz_21, cn_22, e23, e24, e25, p40⟩, hg26⟩ := p40
    replace p40 : GaR k (0 : Int) (kf ra) (mf ra) (Gt G ra) su su_20 ∧ SuB su_20 sz_21 ∧ sz_21 = up sz k (sz k + 1) ∧ cn_22 = up cn (28 * k + midx (kf ra) (sf ra)) (cn (28 * k + midx (kf ra) (sf ra)) + (1 - 2 * (0 : Int))) := p40
    have e27 : w18 g = .inr (6, [.ref (ad E (g + 1)), .ref (ad E (g + 2)), .ref (ad E (g + 3)), .ref (ad E (g + 4)), .int (iI ty), .ref (ad E (g + 5)), .ref (ad E (g + 6)), .ref (ad E (g + 7)), .ref (ad E (g + 8)), .ref (ad E (g + 9)), .ref (ad E (g + 10)), .int (iI xm), .int (iI ym), .ref (ad E (g + 11)), .int (iI ne), .ref (ad E (g + 12)), .ref (ad E (g + 13))]) := (hg26 g (nx_M_accept_0 ) (nx_M_accept_1 ) (nx_M_accept_2 )).trans c0
    have e28 : w18 (g + 1) = zar E 8 kf := (hg26 (g + 1) (nx_M_accept_3 ) (nx_M_accept_4 ) (nx_M_accept_5 )).trans c1
    have e29 : w18 (g + 2) = zaz E 8 mf := (hg26 (g + 2) (nx_M_accept_6 ) (nx_M_accept_7 ) (nx_M_accept_8 )).trans c2
    have e30 : w18 (g + 3) = zar E 8 sf := (hg26 (g + 3) (nx_M_accept_9 ) (nx_M_accept_10 ) (nx_M_accept_11 )).trans c3
    have e31 : w18 (g + 4) = zar E 448 G := (hg26 (g + 4) (nx_M_accept_12 ) (nx_M_accept_13 ) (nx_M_accept_14 )).trans c4
    have hf32 : ∀ k, k ≠ (g + 6) → k ≠ (g + 7) → k ≠ (g + 8) → w18 k = w0 k := fun k g0 g1 g2 => hg26 k g0 g1 g2
    refine zv_iconst hx hb d_M_accept_43 ?_
    rw [hQ]
    exact z_iret hx hb hr hlk hH19 (⟨⟨su_20, sz_21, cn_22, e23, e24, e25, Or.inr ⟨rfl, by omega, p40.1, p40.2.1, p40.2.2.1, p40.2.2.2⟩⟩, (fun k g0 g1 g2 => hf32 k g0 g1 g2)⟩) d_M_accept_44
  · refine zv_bipush hx hb d_M_accept_33 rfl ?_
    rw [hQ]
    exact z_iret hx hb hr hlk hH11 (⟨⟨su, sz, cn, c5, c6, c7, Or.inl ⟨rfl, by omega, rfl, rfl, rfl⟩⟩, (fun k _ _ _ => rfl)⟩) d_M_accept_35
theorem nx_M_discard_0 {g : Nat}  : g ≠ g + 6 := by omega
theorem nx_M_discard_1 {g : Nat}  : g ≠ g + 7 := by omega
theorem nx_M_discard_2 {g : Nat}  : g ≠ g + 8 := by omega
theorem nx_M_discard_3 {g : Nat}  : g + 1 ≠ g + 6 := by omega
theorem nx_M_discard_4 {g : Nat}  : g + 1 ≠ g + 7 := by omega
theorem nx_M_discard_5 {g : Nat}  : g + 1 ≠ g + 8 := by omega
theorem nx_M_discard_6 {g : Nat}  : g + 2 ≠ g + 6 := by omega
theorem nx_M_discard_7 {g : Nat}  : g + 2 ≠ g + 7 := by omega
theorem nx_M_discard_8 {g : Nat}  : g + 2 ≠ g + 8 := by omega
theorem nx_M_discard_9 {g : Nat}  : g + 3 ≠ g + 6 := by omega
theorem nx_M_discard_10 {g : Nat}  : g + 3 ≠ g + 7 := by omega
theorem nx_M_discard_11 {g : Nat}  : g + 3 ≠ g + 8 := by omega
theorem nx_M_discard_12 {g : Nat}  : g + 4 ≠ g + 6 := by omega
theorem nx_M_discard_13 {g : Nat}  : g + 4 ≠ g + 7 := by omega
theorem nx_M_discard_14 {g : Nat}  : g + 4 ≠ g + 8 := by omega
def rm_M_discard : Room := { frames := 2, cells := 0, slots := 0, locals := 47 }
set_option maxHeartbeats 4000000 in
set_option maxRecDepth 100000 in
theorem c_M_discard (l : Launch) (E : zE) (w0 : zW) (g : Nat) (ty xm ym ne : Int) (kf mf sf G su sz cn : Int → Int) (k ra : Int) (q0lt : g < zn E) (q1lt : g + 1 < zn E) (q2lt : g + 2 < zn E) (q3lt : g + 3 < zn E) (q4lt : g + 4 < zn E) (q5lt : g + 6 < zn E) (q6lt : g + 7 < zn E) (q7lt : g + 8 < zn E) (c0 : w0 g = .inr (6, [.ref (ad E (g + 1)), .ref (ad E (g + 2)), .ref (ad E (g + 3)), .ref (ad E (g + 4)), .int (iI ty), .ref (ad E (g + 5)), .ref (ad E (g + 6)), .ref (ad E (g + 7)), .ref (ad E (g + 8)), .ref (ad E (g + 9)), .ref (ad E (g + 10)), .int (iI xm), .int (iI ym), .ref (ad E (g + 11)), .int (iI ne), .ref (ad E (g + 12)), .ref (ad E (g + 13))])) (c1 : w0 (g + 1) = zar E 8 kf) (c2 : w0 (g + 2) = zaz E 8 mf) (c3 : w0 (g + 3) = zar E 8 sf) (c4 : w0 (g + 4) = zar E 448 G) (c5 : w0 (g + 6) = zar E 224 su) (c6 : w0 (g + 7) = zar E 4 sz) (c7 : w0 (g + 8) = zar E 112 cn) (bk : bd kf 8 0 3) (bm : bd mf 8 0 1) (bs : bd sf 8 0 24) (bG : bd G 448 0 9) (hB : SuB su sz) (bsz : bd sz 4 0 1000) (bcn : bd cn 112 0 1000) (hk0 : 0 ≤ k ∧ k < 4) (hra : 0 ≤ ra ∧ ra < 8) : zM l y_M_discard ws_M_discard rm_M_discard E [.ref (ad E g), .int (iI k), .int (iI ra)] w0 (zQi E w0 (fun z w' => (∃ (su' : Int → Int) (sz' : Int → Int) (cn' : Int → Int), w' (g + 6) = zar E 224 su' ∧ w' (g + 7) = zar E 4 sz' ∧ w' (g + 8) = zar E 112 cn' ∧ ((z = -2 ∧ sz k = 1000 ∧ su' = su ∧ sz' = sz ∧ cn' = cn) ∨ (z = -6 ∧ sz k < 1000 ∧ cn (28 * k + midx (kf ra) (sf ra)) = 0 ∧ su' = su ∧ sz' = sz ∧ cn' = cn) ∨ (z = 0 ∧ sz k < 1000 ∧ cn (28 * k + midx (kf ra) (sf ra)) ≠ 0 ∧ GaR k 1 (kf ra) (mf ra) (Gt G ra) su su' ∧ SuB su' sz' ∧ sz' = up sz k (sz k + 1) ∧ cn' = up cn (28 * k + midx (kf ra) (sf ra)) (cn (28 * k + midx (kf ra) (sf ra)) + (-1))))) ∧ ∀ k, k ≠ (g + 6) → k ≠ (g + 7) → k ≠ (g + 8) → w' k = w0 k)) := by
  refine z_met (cc := b_M_discard) (maxL := 3) (ret := (some .int)) (by decide +kernel) rfl (Nat.le_of_ble_eq_true rfl) ?_
  intro p e s m below meth cd ls a Qf hQ hC hl hH
  obtain ⟨hF, hr, hlk, hK, hG, hn⟩ := hC
  obtain ⟨hx, hb, hml, hown, hts⟩ := hF
  have hg : ∀ w ∈ GW, w.before a s = true := fun w h => hts w (List.mem_cons_of_mem _ h)
  have hA : ∀ q, s.heap.size ≤ q → va_A (wl E w0) s.heap.size q := fun q h => Or.inr h
  have hl : lv_has ls 3 [(0, .ref (ad E g)), (1, .int (iI k)), (2, .int (iI ra))] := hl
  have bszk := bsz k hk0.1 hk0.2
  refine lv_aload_n hx hb d_M_discard_0 rfl (lv_at hl 0 rfl) ?_
  refine lv_iload_n hx hb d_M_discard_1 rfl (lv_at hl 1 rfl) ?_
  refine zv_iconst hx hb d_M_discard_2 ?_
  refine z_calli (va_runV (As := [.int (iI k), .int (iI 3)]) (rest := []) ⟨hx, hb, hml, hown, hts⟩ (c_M_out (l := l) (E := E) (w0 := w0) (g := g) (ty := ty) (xm := xm) (ym := ym) (ne := ne) (v := k) (mo := 3) (q0lt := q0lt) (c0 := c0) (hv := by omega) (hmo := by omega) s.heap.size) (z_cwV (C := "ScaledNumeralDeskModel") 2 hg wm_746 wm_743 wm_9 wm_745 wm_s29 (by decide +kernel) ⟨Nat.le_of_ble_eq_true rfl, Nat.le_of_ble_eq_true rfl⟩) (z_preV (r := ("ScaledNumeralDeskModel", TM, 17)) hK hG hn hH hA q0lt c0 rfl) rfl rfl hl.1 rfl (lv_room (Nat.le_of_ble_eq_true rfl)) d_M_discard_3 ⟨Nat.zero_le _, Nat.zero_le _⟩) hH hA (fun z5 w3 H1 lc2 hH4 q3 => ?_)
  obtain ⟨ew6, q3⟩ := q3
  rw [ew6] at hH4
  replace q3 : (z5 = 1 ∧ (k < 0 ∨ (3 : Int) < k)) ∨ (z5 = 0 ∧ 0 ≤ k ∧ k ≤ (3 : Int)) := q3
  refine zv_if_ne (tgt := 19) hx hb d_M_discard_6 rfl (by omega) (fun h7 => absurd h7 (by omega)) (fun h7 => ?_)
  refine lv_aload_n hx hb d_M_discard_9 rfl (lv_at hl 0 rfl) ?_
  refine lv_iload_n hx hb d_M_discard_10 rfl (lv_at hl 2 rfl) ?_
  refine zv_bipush hx hb d_M_discard_11 rfl ?_
  refine z_calli (va_runV (As := [.int (iI ra), .int (iI 7)]) (rest := []) ⟨hx, hb, hml, hown, hts⟩ (c_M_out (l := l) (E := E) (w0 := w0) (g := g) (ty := ty) (xm := xm) (ym := ym) (ne := ne) (v := ra) (mo := 7) (q0lt := q0lt) (c0 := c0) (hv := by omega) (hmo := by omega) H1.size) (z_cwV (C := "ScaledNumeralDeskModel") 2 hg wm_746 wm_743 wm_9 wm_745 wm_s29 (by decide +kernel) ⟨Nat.le_of_ble_eq_true rfl, Nat.le_of_ble_eq_true rfl⟩) (z_preV (r := ("ScaledNumeralDeskModel", TM, 17)) hK hG hn hH4 hA q0lt c0 rfl) rfl rfl hl.1 rfl (lv_room (Nat.le_of_ble_eq_true rfl)) d_M_discard_13 ⟨Nat.zero_le _, Nat.zero_le _⟩) hH4 hA (fun z12 w10 H8 lc9 hH11 q13 => ?_)
  obtain ⟨ew13, q13⟩ := q13
  rw [ew13] at hH11
  replace q13 : (z12 = 1 ∧ (ra < 0 ∨ (7 : Int) < ra)) ∨ (z12 = 0 ∧ 0 ≤ ra ∧ ra ≤ (7 : Int)) := q13
  refine zv_if_eq (tgt := 21) hx hb d_M_discard_16 rfl (by omega) (fun h14 => ?_) (fun h14 => absurd h14 (by omega))
  refine lv_aload_n hx hb d_M_discard_21 rfl (lv_at hl 0 rfl) ?_
  refine zv_get (C := "ScaledNumeralDeskModel") (T := TM) (N := 17) hx hb hg uM_in hown hK hH11 q0lt c0 rfl 7 (by decide) (hg _ wm_689) (fun _ h9 => h9) rfl d_M_discard_22 ?_
  refine lv_iload_n hx hb d_M_discard_25 rfl (lv_at hl 1 rfl) ?_
  refine zv_iald hx hb hK hH11 q6lt c6 (by omega) (by omega) (by omega) d_M_discard_26 ?_
  refine zv_sipush hx hb d_M_discard_27 rfl ?_
  refine zv_icmp_ne (tgt := 36) hx hb d_M_discard_30 rfl (by omega) (by omega) (fun h15 => ?_) (fun h15 => ?_)
  · refine lv_aload_n hx hb d_M_discard_36 rfl (lv_at hl 0 rfl) ?_
    refine zv_get (C := "ScaledNumeralDeskModel") (T := TM) (N := 17) hx hb hg uM_in hown hK hH11 q0lt c0 rfl 8 (by decide) (hg _ wm_690) (fun _ h9 => h9) rfl d_M_discard_37 ?_
    refine lv_aload_n hx hb d_M_discard_40 rfl (lv_at hl 0 rfl) ?_
    refine lv_iload_n hx hb d_M_discard_41 rfl (lv_at hl 1 rfl) ?_
    refine lv_iload_n hx hb d_M_discard_42 rfl (lv_at hl 2 rfl) ?_
    refine z_calli (va_runV (As := [.int (iI k), .int (iI ra)]) (rest := [.ref (ad E (g + 8))]) ⟨hx, hb, hml, hown, hts⟩ (c_M_place (l := l) (E := E) (w0 := w0) (g := g) (ty := ty) (xm := xm) (ym := ym) (ne := ne) (kf := kf) (sf := sf) (k := k) (ra := ra) (q0lt := q0lt) (q1lt := q1lt) (q2lt := q3lt) (c0 := c0) (c1 := c1) (c2 := c3) (bk := bk) (bs := bs) (hk0 := by omega) (hra := by omega) H8.size) (z_cwV (C := "ScaledNumeralDeskModel") 2 hg wm_959 wm_956 wm_9 wm_958 wm_s74 (by decide +kernel) ⟨Nat.le_of_ble_eq_true rfl, Nat.le_of_ble_eq_true rfl⟩) (z_preV (r := ("ScaledNumeralDeskModel", TM, 17)) hK hG hn hH11 hA q0lt c0 rfl) rfl rfl hl.1 rfl (lv_room (Nat.le_of_ble_eq_true rfl)) d_M_discard_43 ⟨Nat.zero_le _, Nat.zero_le _⟩) hH11 hA (fun ix w18 H16 lc17 hH19 p43 => ?_)
    obtain ⟨ew20, p43⟩ := p43
    rw [ew20] at hH19
    replace p43 : ix = 28 * k + midx (kf ra) (sf ra) ∧ 0 ≤ midx (kf ra) (sf ra) ∧ midx (kf ra) (sf ra) < 28 := p43
    have ixr : 0 ≤ ix ∧ ix < 112 := by omega
    have bci := bcn ix ixr.1 ixr.2
    refine zv_iald hx hb hK hH19 q7lt c7 (by omega) (by omega) (by omega) d_M_discard_46 ?_
    refine zv_if_ne (tgt := 53) hx hb d_M_discard_47 rfl (by omega) (fun h21 => ?_) (fun h21 => ?_)
    · refine lv_aload_n hx hb d_M_discard_53 rfl (lv_at hl 0 rfl) ?_
      refine lv_iload_n hx hb d_M_discard_54 rfl (lv_at hl 1 rfl) ?_
      refine lv_iload_n hx hb d_M_discard_55 rfl (lv_at hl 2 rfl) ?_
      refine zv_iconst hx hb d_M_discard_56 ?_
      refine z_callv (va_runV (As := [.int (iI k), .int (iI ra), .int (iI 1)]) (rest := []) ⟨hx, hb, hml, hown, hts⟩ (c_M_gather (l := l) (E := E) (w0 := w0) (g := g) (ty := ty) (xm := xm) (ym := ym) (ne := ne) (kf := kf) (mf := mf) (sf := sf) (G := G) (su := su) (sz := sz) (cn := cn) (k := k) (ra := ra) (aw := 1) (q0lt := q0lt) (q1lt := q1lt) (q2lt := q2lt) (q3lt := q3lt) (q4lt := q4lt) (q5lt := q5lt) (q6lt := q6lt) (q7lt := q7lt) (c0 := c0) (c1 := c1) (c2 := c2) (c3 := c3) (c4 := c4) (c5 := c5) (c6 := c6) (c7 := c7) (bk := bk) (bm := bm) (bs := bs) (bG := bG) (hB := by omega) (bsz := by omega) (bcn := by omega) (hk0 := by omega) (hra := by omega) (haw := by omega) (hszk := by omega) H16.size) (z_cwV (C := "ScaledNumeralDeskModel") 3 hg wm_955 wm_952 wm_9 wm_954 wm_s73 (by decide +kernel) ⟨Nat.le_of_ble_eq_true rfl, Nat.le_of_ble_eq_true rfl⟩) (z_preV (r := ("ScaledNumeralDeskModel", TM, 17)) hK hG hn hH19 hA q0lt c0 rfl) rfl rfl hl.1 rfl (lv_room (Nat.le_of_ble_eq_true rfl)) d_M_discard_57 ⟨Nat.zero_le _, Nat.zero_le _⟩) hH19 hA (fun  w24 H22 lc23 hH25 p57 => ?_)
      obtain ⟨⟨su_26, sz_27, cn_28, e29, e30, e31, p57⟩, hg32⟩ := p57
      replace p57 : GaR k (1 : Int) (kf ra) (mf ra) (Gt G ra) su su_26 ∧ SuB su_26 sz_27 ∧ sz_27 = up sz k (sz k + 1) ∧ cn_28 = up cn (28 * k + midx (kf ra) (sf ra)) (cn (28 * k + midx (kf ra) (sf ra)) + (1 - 2 * (1 : Int))) := p57
      have e33 : w24 g = .inr (6, [.ref (ad E (g + 1)), .ref (ad E (g + 2)), .ref (ad E (g + 3)), .ref (ad E (g + 4)), .int (iI ty), .ref (ad E (g + 5)), .ref (ad E (g + 6)), .ref (ad E (g + 7)), .ref (ad E (g + 8)), .ref (ad E (g + 9)), .ref (ad E (g + 10)), .int (iI xm), .int (iI ym), .ref (ad E (g + 11)), .int (iI ne), .ref (ad E (g + 12)), .ref (ad E (g + 13))]) := (hg32 g (nx_M_discard_0 ) (nx_M_discard_1 ) (nx_M_discard_2 )).trans c0
      have e34 : w24 (g + 1) = zar E 8 kf := (hg32 (g + 1) (nx_M_discard_3 ) (nx_M_discard_4 ) (nx_M_discard_5 )).trans c1
      have e35 : w24 (g + 2) = zaz E 8 mf := (hg32 (g + 2) (nx_M_discard_6 ) (nx_M_discard_7 ) (nx_M_discard_8 )).trans c2
      have e36 : w24 (g + 3) = zar E 8 sf := (hg32 (g + 3) (nx_M_discard_9 ) (nx_M_discard_10 ) (nx_M_discard_11 )).trans c3
      have e37 : w24 (g + 4) = zar E 448 G := (hg32 (g + 4) (nx_M_discard_12 ) (nx_M_discard_13 ) (nx_M_discard_14 )).trans c4
      have hf38 : ∀ k, k ≠ (g + 6) → k ≠ (g + 7) → k ≠ (g + 8) → w24 k = w0 k := fun k g0 g1 g2 => hg32 k g0 g1 g2
      refine zv_iconst hx hb d_M_discard_60 ?_
      rw [hQ]
      exact z_iret hx hb hr hlk hH25 (⟨⟨su_26, sz_27, cn_28, e29, e30, e31, Or.inr (Or.inr ⟨rfl, by omega, by rw [← p43.1]; assumption, p57.1, p57.2.1, p57.2.2.1, p57.2.2.2⟩)⟩, (fun k g0 g1 g2 => hf38 k g0 g1 g2)⟩) d_M_discard_61
    · refine zv_bipush hx hb d_M_discard_50 rfl ?_
      rw [hQ]
      exact z_iret hx hb hr hlk hH19 (⟨⟨su, sz, cn, c5, c6, c7, Or.inr (Or.inl ⟨rfl, by omega, by rw [← p43.1]; assumption, rfl, rfl, rfl⟩)⟩, (fun k _ _ _ => rfl)⟩) d_M_discard_52
  · refine zv_bipush hx hb d_M_discard_33 rfl ?_
    rw [hQ]
    exact z_iret hx hb hr hlk hH11 (⟨⟨su, sz, cn, c5, c6, c7, Or.inl ⟨rfl, by omega, rfl, rfl, rfl⟩⟩, (fun k _ _ _ => rfl)⟩) d_M_discard_35
