theorem nx_M_add_0 {g : Nat}  : g + 9 ≠ g := by omega
theorem nx_M_add_1 {g : Nat}  : g + 9 ≠ g + 11 := by omega
theorem nx_M_add_2 {g : Nat}  : g + 10 ≠ g := by omega
theorem nx_M_add_3 {g : Nat}  : g + 10 ≠ g + 11 := by omega
theorem nx_M_add_4 {g : Nat}  : g + 1 ≠ g := by omega
theorem nx_M_add_5 {g : Nat}  : g + 1 ≠ g + 11 := by omega
theorem nx_M_add_6 {g : Nat}  : g + 2 ≠ g := by omega
theorem nx_M_add_7 {g : Nat}  : g + 2 ≠ g + 11 := by omega
theorem nx_M_add_8 {g : Nat}  : g + 3 ≠ g := by omega
theorem nx_M_add_9 {g : Nat}  : g + 3 ≠ g + 11 := by omega
theorem nx_M_add_10 {g : Nat}  : g + 4 ≠ g := by omega
theorem nx_M_add_11 {g : Nat}  : g + 4 ≠ g + 11 := by omega
theorem nx_M_add_12 {g : Nat}  : g + 9 ≠ g + 1 := by omega
theorem nx_M_add_13 {g : Nat}  : g + 9 ≠ g + 2 := by omega
theorem nx_M_add_14 {g : Nat}  : g + 9 ≠ g + 3 := by omega
theorem nx_M_add_15 {g : Nat}  : g + 9 ≠ g + 4 := by omega
theorem nx_M_add_16 {g : Nat}  : g + 10 ≠ g + 1 := by omega
theorem nx_M_add_17 {g : Nat}  : g + 10 ≠ g + 2 := by omega
theorem nx_M_add_18 {g : Nat}  : g + 10 ≠ g + 3 := by omega
theorem nx_M_add_19 {g : Nat}  : g + 10 ≠ g + 4 := by omega
theorem nx_M_add_20 {g : Nat}  : g ≠ g + 11 := by omega
def rm_M_add : Room := { frames := 4, cells := 0, slots := 0, locals := 90 }
set_option maxHeartbeats 4000000 in
set_option maxRecDepth 100000 in
theorem c_M_add (l : Launch) (E : zE) (w0 : zW) (g : Nat) (ty xm ym ne : Int) (xf yf f kf mf sf G : Int → Int) (d le sc : Int) (q0lt : g < zn E) (q1lt : g + 9 < zn E) (q2lt : g + 10 < zn E) (q3lt : g + 11 < zn E) (q4lt : g + 1 < zn E) (q5lt : g + 2 < zn E) (q6lt : g + 3 < zn E) (q7lt : g + 4 < zn E) (c0 : w0 g = .inr (6, [.ref (ad E (g + 1)), .ref (ad E (g + 2)), .ref (ad E (g + 3)), .ref (ad E (g + 4)), .int (iI ty), .ref (ad E (g + 5)), .ref (ad E (g + 6)), .ref (ad E (g + 7)), .ref (ad E (g + 8)), .ref (ad E (g + 9)), .ref (ad E (g + 10)), .int (iI xm), .int (iI ym), .ref (ad E (g + 11)), .int (iI ne), .ref (ad E (g + 12)), .ref (ad E (g + 13))])) (c1 : w0 (g + 9) = zar E 56 xf) (c2 : w0 (g + 10) = zar E 56 yf) (c3 : w0 (g + 11) = zar E 140 f) (c4 : w0 (g + 1) = zar E 8 kf) (c5 : w0 (g + 2) = zaz E 8 mf) (c6 : w0 (g + 3) = zar E 8 sf) (c7 : w0 (g + 4) = zar E 448 G) (bx : bd xf 56 0 9) (by1 : bd yf 56 0 9) (bk : bd kf 8 0 3) (bm : bd mf 8 0 1) (bs : bd sf 8 0 24) (bG : bd G 448 0 9) (hxm : xm = 0 ∨ xm = 1) (hym : ym = 0 ∨ ym = 1) (hd : 0 ≤ d ∧ d < 8) (hsc : 0 ≤ sc ∧ sc ≤ 24) (hle : le = 0 ∨ le = 1) : zM l y_M_add ws_M_add rm_M_add E [.ref (ad E g), .int (iI d), .int (iI le), .int (iI sc)] w0 (zQi E w0 (fun z w' => (∃ (n' : Int) (f' : Int → Int) (k' : Int → Int) (m' : Int → Int) (s' : Int → Int) (G' : Int → Int), w' g = .inr (6, [.ref (ad E (g + 1)), .ref (ad E (g + 2)), .ref (ad E (g + 3)), .ref (ad E (g + 4)), .int (iI ty), .ref (ad E (g + 5)), .ref (ad E (g + 6)), .ref (ad E (g + 7)), .ref (ad E (g + 8)), .ref (ad E (g + 9)), .ref (ad E (g + 10)), .int (iI xm), .int (iI ym), .ref (ad E (g + 11)), .int (iI n'), .ref (ad E (g + 12)), .ref (ad E (g + 13))]) ∧ w' (g + 11) = zar E 140 f' ∧ w' (g + 1) = zar E 8 k' ∧ w' (g + 2) = zaz E 8 m' ∧ w' (g + 3) = zar E 8 s' ∧ w' (g + 4) = zar E 448 G' ∧ bd f' 140 0 9 ∧ bd k' 8 0 3 ∧ bd m' 8 0 1 ∧ bd s' 8 0 24 ∧ bd G' 448 0 9 ∧ ((n' = 0 ∨ n' = 1) ∧ ∃ X : Int, AbR ((sv xm (Vt xf 56) + sv (dif ym le) (Vt yf 56)) * Tp 24) 0 X n' ∧ KpR z d sc n' (Rn X (48 - sc)) kf sf mf G k' s' m' G')) ∧ ∀ k, k ≠ g → k ≠ (g + 11) → k ≠ (g + 1) → k ≠ (g + 2) → k ≠ (g + 3) → k ≠ (g + 4) → w' k = w0 k)) := by
  refine z_met (cc := b_M_add) (maxL := 5) (ret := (some .int)) (by decide +kernel) rfl (Nat.le_of_ble_eq_true rfl) ?_
  intro p e s m below meth cd ls a Qf hQ hC hl hH
  obtain ⟨hF, hr, hlk, hK, hG, hn⟩ := hC
  obtain ⟨hx, hb, hml, hown, hts⟩ := hF
  have hg : ∀ w ∈ GW, w.before a s = true := fun w h => hts w (List.mem_cons_of_mem _ h)
  have hA : ∀ q, s.heap.size ≤ q → va_A (wl E w0) s.heap.size q := fun q h => Or.inr h
  have hl : lv_has ls 5 [(0, .ref (ad E g)), (1, .int (iI d)), (2, .int (iI le)), (3, .int (iI sc))] := hl
  have vx := Vt_in bx (show (0 : Int) ≤ 56 by decide) (Int.le_refl 56)
  have vy := Vt_in by1 (show (0 : Int) ≤ 56 by decide) (Int.le_refl 56)
  refine lv_aload_n hx hb d_M_add_0 rfl (lv_at hl 0 rfl) ?_
  refine z_callv (va_runV (As := []) (rest := []) ⟨hx, hb, hml, hown, hts⟩ (c_M_clear (l := l) (E := E) (w0 := w0) (g := g) (ty := ty) (xm := xm) (ym := ym) (ne := ne) (f := f) (q0lt := q0lt) (q1lt := q3lt) (c0 := c0) (c1 := c3) s.heap.size) (z_cwV (C := "ScaledNumeralDeskModel") 0 hg wm_778 wm_775 wm_9 wm_777 wm_s37 (by decide +kernel) ⟨Nat.le_of_ble_eq_true rfl, Nat.le_of_ble_eq_true rfl⟩) (z_preV (r := ("ScaledNumeralDeskModel", TM, 17)) hK hG hn hH hA q0lt c0 rfl) rfl rfl hl.1 rfl (lv_room (Nat.le_of_ble_eq_true rfl)) d_M_add_1 ⟨Nat.zero_le _, Nat.zero_le _⟩) hH hA (fun  w3 H1 lc2 hH4 p1 => ?_)
  obtain ⟨⟨f1, e5, e6, p1⟩, hg7⟩ := p1
  replace p1 : ∀ j : Int, 0 ≤ j → j < 140 → f1 j = 0 := p1
  have e8 : w3 (g + 9) = zar E 56 xf := (hg7 (g + 9) (nx_M_add_0 ) (nx_M_add_1 )).trans c1
  have e9 : w3 (g + 10) = zar E 56 yf := (hg7 (g + 10) (nx_M_add_2 ) (nx_M_add_3 )).trans c2
  have e10 : w3 (g + 1) = zar E 8 kf := (hg7 (g + 1) (nx_M_add_4 ) (nx_M_add_5 )).trans c4
  have e11 : w3 (g + 2) = zaz E 8 mf := (hg7 (g + 2) (nx_M_add_6 ) (nx_M_add_7 )).trans c5
  have e12 : w3 (g + 3) = zar E 8 sf := (hg7 (g + 3) (nx_M_add_8 ) (nx_M_add_9 )).trans c6
  have e13 : w3 (g + 4) = zar E 448 G := (hg7 (g + 4) (nx_M_add_10 ) (nx_M_add_11 )).trans c7
  have hf14 : ∀ k, k ≠ g → k ≠ (g + 11) → w3 k = w0 k := fun k g0 g1 => hg7 k g0 g1
  refine zv_iconst hx hb d_M_add_4 ?_
  refine lv_istore (lv' := [(4, .int (iI 0)), (0, .ref (ad E g)), (1, .int (iI d)), (2, .int (iI le)), (3, .int (iI sc))]) hx hb d_M_add_5 hl (by decide) rfl (fun ls hl => ?_)
  have L7 : ∀ (fu : Nat) (i : Int) (h : Int → Int) (ls : Array Slot) (H15 : Heap) (lc16 : List Loc) (w17 : zW), (lv_has ls 5 [(4, .int (iI i)), (0, .ref (ad E g)), (1, .int (iI d)), (2, .int (iI le)), (3, .int (iI sc))]) → (zH E w17 (va_A (wl E w0) s.heap.size) s.heap H15 lc16) → (w17 g = .inr (6, [.ref (ad E (g + 1)), .ref (ad E (g + 2)), .ref (ad E (g + 3)), .ref (ad E (g + 4)), .int (iI ty), .ref (ad E (g + 5)), .ref (ad E (g + 6)), .ref (ad E (g + 7)), .ref (ad E (g + 8)), .ref (ad E (g + 9)), .ref (ad E (g + 10)), .int (iI xm), .int (iI ym), .ref (ad E (g + 11)), .int (iI 0), .ref (ad E (g + 12)), .ref (ad E (g + 13))])) → (w17 (g + 9) = zar E 56 xf) → (w17 (g + 10) = zar E 56 yf) → (w17 (g + 11) = zar E 140 h) → (w17 (g + 1) = zar E 8 kf) → (w17 (g + 2) = zaz E 8 mf) → (w17 (g + 3) = zar E 8 sf) → (w17 (g + 4) = zar E 448 G) → (∀ k, k ≠ g → k ≠ (g + 11) → w17 k = w0 k) → (0 ≤ i ∧ i ≤ 56) → (∀ j : Int, 0 ≤ j → j < i → h (24 + j) = sv xm (xf j) + sv (dif ym le) (yf j)) → (∀ j : Int, 0 ≤ j → j < 140 → ¬ (24 ≤ j ∧ j < 80) → h j = 0) → (56 - i < (fu : Int)) → W p l e rm_M_add s m a below meth cd H15 lc16 0 0 Qf (F0 m 7 ls []) := by
    intro fu
    induction fu with
    | zero => intro i h ls H15 lc16 w17 hl hH e18 e19 e20 e21 e22 e23 e24 e25 hf26 hi hk hz hm; exact absurd hm (by omega)
    | succ fu ih =>
      intro i h ls H15 lc16 w17 hl hH e18 e19 e20 e21 e22 e23 e24 e25 hf26 hi hk hz hm
      refine lv_iload hx hb d_M_add_7 (lv_at hl 0 rfl) ?_
      refine zv_bipush hx hb d_M_add_9 rfl ?_
      refine zv_icmp_ge (tgt := 82) hx hb d_M_add_11 rfl (by omega) (by omega) (fun h27 => ?_) (fun h27 => ?_)
      · have bh9 : bd h 140 (-18) 18 := fun j g1 g2 => by
          by_cases e8 : 24 ≤ j ∧ j < 80
          · have e7 := hk (j - 24) (by omega) (by omega)
            rw [show 24 + (j - 24) = j by omega] at e7
            have s1 := sv_9 hxm (bx (j - 24) (by omega) (by omega))
            have s2 := sv_9 (dif_01 ym le) (by1 (j - 24) (by omega) (by omega))
            rw [e7]; omega
          · rw [hz j g1 g2 e8]; decide
        have hX := ad_V hxm (dif_01 ym le) (fun j g1 g2 => hk j g1 (by omega)) hz
        refine lv_aload_n hx hb d_M_add_82 rfl (lv_at hl 1 rfl) ?_
        refine lv_iload_n hx hb d_M_add_83 rfl (lv_at hl 2 rfl) ?_
        refine lv_iload_n hx hb d_M_add_84 rfl (lv_at hl 4 rfl) ?_
        refine z_calli (va_runV (As := [.int (iI d), .int (iI sc)]) (rest := []) ⟨hx, hb, hml, hown, hts⟩ (c_M_finish (l := l) (E := E) (w0 := w17) (g := g) (ty := ty) (xm := xm) (ym := ym) (ne := 0) (f := h) (kf := kf) (mf := mf) (sf := sf) (G := G) (d := d) (n := sc) (q0lt := q0lt) (q1lt := q3lt) (q2lt := q4lt) (q3lt := q5lt) (q4lt := q6lt) (q5lt := q7lt) (c0 := e18) (c1 := e21) (c2 := e22) (c3 := e23) (c4 := e24) (c5 := e25) (bf := (fun j g1 g2 => by have := bh9 j g1 g2; omega)) (bk := bk) (bm := bm) (bs := bs) (bG := bG) (hne := (Or.inl rfl)) (hV := (by rw [hX]; exact ad_lt (sv_lt hxm vx) (sv_lt (dif_01 ym le) vy))) (hd := by omega) (hn := by omega) H15.size) (z_cwV (C := "ScaledNumeralDeskModel") 2 hg wm_786 wm_783 wm_9 wm_785 wm_s39 (by decide +kernel) ⟨Nat.le_of_ble_eq_true rfl, Nat.le_of_ble_eq_true rfl⟩) (z_preV (r := ("ScaledNumeralDeskModel", TM, 17)) hK hG hn hH hA q0lt e18 rfl) rfl rfl hl.1 rfl (lv_room (Nat.le_of_ble_eq_true rfl)) d_M_add_85 ⟨Nat.zero_le _, Nat.zero_le _⟩) hH hA (fun z32 w30 H28 lc29 hH31 p85 => ?_)
        obtain ⟨⟨n_33, f_34, k_35, m_36, s_37, x_38, e39, e40, e41, e42, e43, e44, bd45, bd46, bd47, bd48, bd49, p85⟩, hg50⟩ := p85
        replace bd45 : bd f_34 140 0 9 := bd45
        replace bd46 : bd k_35 8 0 3 := bd46
        replace bd47 : bd m_36 8 0 1 := bd47
        replace bd48 : bd s_37 8 0 24 := bd48
        replace bd49 : bd x_38 448 0 9 := bd49
        replace p85 : (n_33 = 0 ∨ n_33 = 1) ∧ ∃ X : Int, AbR (Vt h 140) (0 : Int) X n_33 ∧ KpR z32 d (mx0 sc) n_33 (Rn X (48 - sc)) kf sf mf G k_35 s_37 m_36 x_38 := p85
        have e51 : w30 (g + 9) = zar E 56 xf := (hg50 (g + 9) (nx_M_add_0 ) (nx_M_add_1 ) (nx_M_add_12 ) (nx_M_add_13 ) (nx_M_add_14 ) (nx_M_add_15 )).trans e19
        have e52 : w30 (g + 10) = zar E 56 yf := (hg50 (g + 10) (nx_M_add_2 ) (nx_M_add_3 ) (nx_M_add_16 ) (nx_M_add_17 ) (nx_M_add_18 ) (nx_M_add_19 )).trans e20
        have hf53 : ∀ k, k ≠ g → k ≠ (g + 11) → k ≠ (g + 1) → k ≠ (g + 2) → k ≠ (g + 3) → k ≠ (g + 4) → w30 k = w0 k := fun k g0 g1 g2 g3 g4 g5 => (hg50 k g0 g1 g2 g3 g4 g5).trans (hf26 k g0 g1)
        obtain ⟨p85a, X, p85b, p85c⟩ := p85
        rw [hX] at p85b
        rw [mx0_p hsc.1] at p85c
        rw [hQ]
        exact z_iret hx hb hr hlk hH31 (⟨⟨n_33, f_34, k_35, m_36, s_37, x_38, e39, e40, e41, e42, e43, e44, bd45, bd46, bd47, bd48, bd49, ⟨p85a, X, p85b, p85c⟩⟩, (fun k g0 g1 g2 g3 g4 g5 => hf53 k g0 g1 g2 g3 g4 g5)⟩) d_M_add_88
      · refine lv_aload_n hx hb d_M_add_14 rfl (lv_at hl 1 rfl) ?_
        refine zv_get (C := "ScaledNumeralDeskModel") (T := TM) (N := 17) hx hb hg uM_in hown hK hH q0lt e18 rfl 13 (by decide) (hg _ wm_695) (fun _ h9 => h9) rfl d_M_add_15 ?_
        refine zv_bipush hx hb d_M_add_18 rfl ?_
        refine lv_iload hx hb d_M_add_20 (lv_at hl 0 rfl) ?_
        refine zv_iadd hx hb d_M_add_22 ?_
        have L48 : ∀ (u : Int) (ls : Array Slot) (H54 : Heap) (lc55 : List Loc), (lv_has ls 5 [(4, .int (iI i)), (0, .ref (ad E g)), (1, .int (iI d)), (2, .int (iI le)), (3, .int (iI sc))]) → (zH E w17 (va_A (wl E w0) s.heap.size) s.heap H54 lc55) → (u = sv xm (xf i)) → W p l e rm_M_add s m a below meth cd H54 lc55 0 0 Qf (F0 m 48 ls [.int (iI u), .int (iI (24 + i)), .ref (ad E (g + 11))]) := by
          intro u ls H54 lc55 hl hH hu
          have L74 : ∀ (v2 : Int) (ls : Array Slot) (H56 : Heap) (lc57 : List Loc), (lv_has ls 5 [(4, .int (iI i)), (0, .ref (ad E g)), (1, .int (iI d)), (2, .int (iI le)), (3, .int (iI sc))]) → (zH E w17 (va_A (wl E w0) s.heap.size) s.heap H56 lc57) → (v2 = sv (dif ym le) (yf i)) → W p l e rm_M_add s m a below meth cd H56 lc57 0 0 Qf (F0 m 74 ls [.int (iI v2), .int (iI u), .int (iI (24 + i)), .ref (ad E (g + 11))]) := by
            intro v2 ls H56 lc57 hl hH hv2
            refine zv_iadd hx hb d_M_add_74 ?_
            refine zv_iast hx hb hK hH q3lt e21 (by omega) (by omega) (by omega) d_M_add_75 (fun H59 lc60 w58 hH61 e62 hg63 => ?_)
            have e64 : w58 g = .inr (6, [.ref (ad E (g + 1)), .ref (ad E (g + 2)), .ref (ad E (g + 3)), .ref (ad E (g + 4)), .int (iI ty), .ref (ad E (g + 5)), .ref (ad E (g + 6)), .ref (ad E (g + 7)), .ref (ad E (g + 8)), .ref (ad E (g + 9)), .ref (ad E (g + 10)), .int (iI xm), .int (iI ym), .ref (ad E (g + 11)), .int (iI 0), .ref (ad E (g + 12)), .ref (ad E (g + 13))]) := (hg63 g (nx_M_add_20 )).trans e18
            have e65 : w58 (g + 9) = zar E 56 xf := (hg63 (g + 9) (nx_M_add_1 )).trans e19
            have e66 : w58 (g + 10) = zar E 56 yf := (hg63 (g + 10) (nx_M_add_3 )).trans e20
            have e67 : w58 (g + 1) = zar E 8 kf := (hg63 (g + 1) (nx_M_add_5 )).trans e22
            have e68 : w58 (g + 2) = zaz E 8 mf := (hg63 (g + 2) (nx_M_add_7 )).trans e23
            have e69 : w58 (g + 3) = zar E 8 sf := (hg63 (g + 3) (nx_M_add_9 )).trans e24
            have e70 : w58 (g + 4) = zar E 448 G := (hg63 (g + 4) (nx_M_add_11 )).trans e25
            have hf71 : ∀ k, k ≠ g → k ≠ (g + 11) → w58 k = w0 k := fun k g0 g1 => (hg63 k g1).trans (hf26 k g0 g1)
            refine zv_iinc (k := 0) (lv' := [(4, .int (iI (i + 1))), (0, .ref (ad E g)), (1, .int (iI d)), (2, .int (iI le)), (3, .int (iI sc))]) hx hb d_M_add_76 hl rfl (by decide) rfl (fun ls hl => ?_)
            refine lv_goto (tgt := 7) hx hb d_M_add_79 rfl ?_
            exact ih  (i + 1) (up h (24 + i) (u + v2)) _ H59 lc60 w58 (lv_sub hl [0, 1, 2, 3, 4] rfl) hH61 e64 e65 e66 e62 e67 e68 e69 e70 (fun k g0 g1 => hf71 k g0 g1) (by omega) (by intro j g1 g2; by_cases e8 : j = i; rw [e8, up_at, hu, hv2]; rw [up_ne (by omega)]; exact hk j g1 (by omega)) (by intro j g1 g2 g3; rw [up_ne (by omega)]; exact hz j g1 g2 g3) (by omega)
          refine lv_aload_n hx hb d_M_add_48 rfl (lv_at hl 1 rfl) ?_
          refine zv_get (C := "ScaledNumeralDeskModel") (T := TM) (N := 17) hx hb hg uM_in hown hK hH q0lt e18 rfl 12 (by decide) (hg _ wm_694) (fun _ h9 => h9) rfl d_M_add_49 ?_
          refine lv_iload_n hx hb d_M_add_52 rfl (lv_at hl 3 rfl) ?_
          refine zv_icmp_eq (tgt := 67) hx hb d_M_add_53 rfl (by omega) (by omega) (fun h72 => ?_) (fun h72 => ?_)
          · refine lv_aload_n hx hb d_M_add_67 rfl (lv_at hl 1 rfl) ?_
            refine zv_get (C := "ScaledNumeralDeskModel") (T := TM) (N := 17) hx hb hg uM_in hown hK hH q0lt e18 rfl 10 (by decide) (hg _ wm_692) (fun _ h9 => h9) rfl d_M_add_68 ?_
            refine lv_iload hx hb d_M_add_71 (lv_at hl 0 rfl) ?_
            refine zv_iald hx hb hK hH q2lt e20 (by omega) (by omega) (by omega) d_M_add_73 ?_
            have b73 := by1 i (by omega) (by omega)
            exact L74 (yf i) _ H54 lc55 (lv_sub hl [0, 1, 2, 3, 4] rfl) hH (by first | (rw [dif_e (by omega), sv_0]; done) | (rw [dif_n (by omega), sv_1]; done))
          · refine lv_aload_n hx hb d_M_add_56 rfl (lv_at hl 1 rfl) ?_
            refine zv_get (C := "ScaledNumeralDeskModel") (T := TM) (N := 17) hx hb hg uM_in hown hK hH q0lt e18 rfl 10 (by decide) (hg _ wm_692) (fun _ h9 => h9) rfl d_M_add_57 ?_
            refine lv_iload hx hb d_M_add_60 (lv_at hl 0 rfl) ?_
            refine zv_iald hx hb hK hH q2lt e20 (by omega) (by omega) (by omega) d_M_add_62 ?_
            have b74 := by1 i (by omega) (by omega)
            refine zv_ineg hx hb d_M_add_63 ?_
            refine lv_goto (tgt := 74) hx hb d_M_add_64 rfl ?_
            exact L74 (-(yf i)) _ H54 lc55 (lv_sub hl [0, 1, 2, 3, 4] rfl) hH (by first | (rw [dif_e (by omega), sv_0]; done) | (rw [dif_n (by omega), sv_1]; done))
        refine lv_aload_n hx hb d_M_add_23 rfl (lv_at hl 1 rfl) ?_
        refine zv_get (C := "ScaledNumeralDeskModel") (T := TM) (N := 17) hx hb hg uM_in hown hK hH q0lt e18 rfl 11 (by decide) (hg _ wm_693) (fun _ h9 => h9) rfl d_M_add_24 ?_
        refine zv_if_eq (tgt := 41) hx hb d_M_add_27 rfl (by omega) (fun h75 => ?_) (fun h75 => ?_)
        · refine lv_aload_n hx hb d_M_add_41 rfl (lv_at hl 1 rfl) ?_
          refine zv_get (C := "ScaledNumeralDeskModel") (T := TM) (N := 17) hx hb hg uM_in hown hK hH q0lt e18 rfl 9 (by decide) (hg _ wm_691) (fun _ h9 => h9) rfl d_M_add_42 ?_
          refine lv_iload hx hb d_M_add_45 (lv_at hl 0 rfl) ?_
          refine zv_iald hx hb hK hH q1lt e19 (by omega) (by omega) (by omega) d_M_add_47 ?_
          have b76 := bx i (by omega) (by omega)
          exact L48 (xf i) _ H15 lc16 (lv_sub hl [0, 1, 2, 3, 4] rfl) hH (by first | (rw [show xm = 1 by omega, sv_1]; done) | (rw [show xm = 0 by omega, sv_0]; done))
        · refine lv_aload_n hx hb d_M_add_30 rfl (lv_at hl 1 rfl) ?_
          refine zv_get (C := "ScaledNumeralDeskModel") (T := TM) (N := 17) hx hb hg uM_in hown hK hH q0lt e18 rfl 9 (by decide) (hg _ wm_691) (fun _ h9 => h9) rfl d_M_add_31 ?_
          refine lv_iload hx hb d_M_add_34 (lv_at hl 0 rfl) ?_
          refine zv_iald hx hb hK hH q1lt e19 (by omega) (by omega) (by omega) d_M_add_36 ?_
          have b77 := bx i (by omega) (by omega)
          refine zv_ineg hx hb d_M_add_37 ?_
          refine lv_goto (tgt := 48) hx hb d_M_add_38 rfl ?_
          exact L48 (-(xf i)) _ H15 lc16 (lv_sub hl [0, 1, 2, 3, 4] rfl) hH (by first | (rw [show xm = 1 by omega, sv_1]; done) | (rw [show xm = 0 by omega, sv_0]; done))
  exact L7 ((56 - 0 : Int).toNat + 1) 0 f1 _ H1 lc2 w3 (lv_sub hl [0, 1, 2, 3, 4] rfl) hH4 e5 e8 e9 e6 e10 e11 e12 e13 (fun k g0 g1 => hf14 k g0 g1) (by omega) (by intro j g1 g2; omega) (by intro j g1 g2 _; exact p1 j g1 g2) (by omega)
theorem nx_M_multiply_0 {g : Nat}  : g + 9 ≠ g := by omega
theorem nx_M_multiply_1 {g : Nat}  : g + 9 ≠ g + 11 := by omega
theorem nx_M_multiply_2 {g : Nat}  : g + 10 ≠ g := by omega
theorem nx_M_multiply_3 {g : Nat}  : g + 10 ≠ g + 11 := by omega
theorem nx_M_multiply_4 {g : Nat}  : g + 1 ≠ g := by omega
theorem nx_M_multiply_5 {g : Nat}  : g + 1 ≠ g + 11 := by omega
theorem nx_M_multiply_6 {g : Nat}  : g + 2 ≠ g := by omega
theorem nx_M_multiply_7 {g : Nat}  : g + 2 ≠ g + 11 := by omega
theorem nx_M_multiply_8 {g : Nat}  : g + 3 ≠ g := by omega
theorem nx_M_multiply_9 {g : Nat}  : g + 3 ≠ g + 11 := by omega
theorem nx_M_multiply_10 {g : Nat}  : g + 4 ≠ g := by omega
theorem nx_M_multiply_11 {g : Nat}  : g + 4 ≠ g + 11 := by omega
theorem nx_M_multiply_12 {g : Nat}  : g + 11 ≠ g := by omega
theorem nx_M_multiply_13 {g : Nat}  : g + 9 ≠ g + 1 := by omega
theorem nx_M_multiply_14 {g : Nat}  : g + 9 ≠ g + 2 := by omega
theorem nx_M_multiply_15 {g : Nat}  : g + 9 ≠ g + 3 := by omega
theorem nx_M_multiply_16 {g : Nat}  : g + 9 ≠ g + 4 := by omega
theorem nx_M_multiply_17 {g : Nat}  : g + 10 ≠ g + 1 := by omega
theorem nx_M_multiply_18 {g : Nat}  : g + 10 ≠ g + 2 := by omega
theorem nx_M_multiply_19 {g : Nat}  : g + 10 ≠ g + 3 := by omega
theorem nx_M_multiply_20 {g : Nat}  : g + 10 ≠ g + 4 := by omega
theorem nx_M_multiply_21 {g : Nat}  : g ≠ g + 11 := by omega
def rm_M_multiply : Room := { frames := 4, cells := 0, slots := 0, locals := 90 }
set_option maxHeartbeats 4000000 in
set_option maxRecDepth 100000 in
theorem c_M_multiply (l : Launch) (E : zE) (w0 : zW) (g : Nat) (ty xm ym ne : Int) (xf yf f kf mf sf G : Int → Int) (d sc : Int) (q0lt : g < zn E) (q1lt : g + 9 < zn E) (q2lt : g + 10 < zn E) (q3lt : g + 11 < zn E) (q4lt : g + 1 < zn E) (q5lt : g + 2 < zn E) (q6lt : g + 3 < zn E) (q7lt : g + 4 < zn E) (c0 : w0 g = .inr (6, [.ref (ad E (g + 1)), .ref (ad E (g + 2)), .ref (ad E (g + 3)), .ref (ad E (g + 4)), .int (iI ty), .ref (ad E (g + 5)), .ref (ad E (g + 6)), .ref (ad E (g + 7)), .ref (ad E (g + 8)), .ref (ad E (g + 9)), .ref (ad E (g + 10)), .int (iI xm), .int (iI ym), .ref (ad E (g + 11)), .int (iI ne), .ref (ad E (g + 12)), .ref (ad E (g + 13))])) (c1 : w0 (g + 9) = zar E 56 xf) (c2 : w0 (g + 10) = zar E 56 yf) (c3 : w0 (g + 11) = zar E 140 f) (c4 : w0 (g + 1) = zar E 8 kf) (c5 : w0 (g + 2) = zaz E 8 mf) (c6 : w0 (g + 3) = zar E 8 sf) (c7 : w0 (g + 4) = zar E 448 G) (bx : bd xf 56 0 9) (by1 : bd yf 56 0 9) (bk : bd kf 8 0 3) (bm : bd mf 8 0 1) (bs : bd sf 8 0 24) (bG : bd G 448 0 9) (hxm : xm = 0 ∨ xm = 1) (hym : ym = 0 ∨ ym = 1) (hd : 0 ≤ d ∧ d < 8) (hsc : 0 ≤ sc ∧ sc ≤ 24) : zM l y_M_multiply ws_M_multiply rm_M_multiply E [.ref (ad E g), .int (iI d), .int (iI sc)] w0 (zQi E w0 (fun z w' => (∃ (n' : Int) (f' : Int → Int) (k' : Int → Int) (m' : Int → Int) (s' : Int → Int) (G' : Int → Int), w' g = .inr (6, [.ref (ad E (g + 1)), .ref (ad E (g + 2)), .ref (ad E (g + 3)), .ref (ad E (g + 4)), .int (iI ty), .ref (ad E (g + 5)), .ref (ad E (g + 6)), .ref (ad E (g + 7)), .ref (ad E (g + 8)), .ref (ad E (g + 9)), .ref (ad E (g + 10)), .int (iI xm), .int (iI ym), .ref (ad E (g + 11)), .int (iI n'), .ref (ad E (g + 12)), .ref (ad E (g + 13))]) ∧ w' (g + 11) = zar E 140 f' ∧ w' (g + 1) = zar E 8 k' ∧ w' (g + 2) = zaz E 8 m' ∧ w' (g + 3) = zar E 8 s' ∧ w' (g + 4) = zar E 448 G' ∧ bd f' 140 0 9 ∧ bd k' 8 0 3 ∧ bd m' 8 0 1 ∧ bd s' 8 0 24 ∧ bd G' 448 0 9 ∧ ((n' = 0 ∨ n' = 1) ∧ KpR z d sc (dif xm ym) (Rn (Vt xf 56 * Vt yf 56) (48 - sc)) kf sf mf G k' s' m' G')) ∧ ∀ k, k ≠ g → k ≠ (g + 11) → k ≠ (g + 1) → k ≠ (g + 2) → k ≠ (g + 3) → k ≠ (g + 4) → w' k = w0 k)) := by
  refine z_met (cc := b_M_multiply) (maxL := 5) (ret := (some .int)) (by decide +kernel) rfl (Nat.le_of_ble_eq_true rfl) ?_
  intro p e s m below meth cd ls a Qf hQ hC hl hH
  obtain ⟨hF, hr, hlk, hK, hG, hn⟩ := hC
  obtain ⟨hx, hb, hml, hown, hts⟩ := hF
  have hg : ∀ w ∈ GW, w.before a s = true := fun w h => hts w (List.mem_cons_of_mem _ h)
  have hA : ∀ q, s.heap.size ≤ q → va_A (wl E w0) s.heap.size q := fun q h => Or.inr h
  have hl : lv_has ls 5 [(0, .ref (ad E g)), (1, .int (iI d)), (2, .int (iI sc))] := hl
  have vx := Vt_in bx (show (0 : Int) ≤ 56 by decide) (Int.le_refl 56)
  have vy := Vt_in by1 (show (0 : Int) ≤ 56 by decide) (Int.le_refl 56)
  refine lv_aload_n hx hb d_M_multiply_0 rfl (lv_at hl 0 rfl) ?_
  refine z_callv (va_runV (As := []) (rest := []) ⟨hx, hb, hml, hown, hts⟩ (c_M_clear (l := l) (E := E) (w0 := w0) (g := g) (ty := ty) (xm := xm) (ym := ym) (ne := ne) (f := f) (q0lt := q0lt) (q1lt := q3lt) (c0 := c0) (c1 := c3) s.heap.size) (z_cwV (C := "ScaledNumeralDeskModel") 0 hg wm_778 wm_775 wm_9 wm_777 wm_s37 (by decide +kernel) ⟨Nat.le_of_ble_eq_true rfl, Nat.le_of_ble_eq_true rfl⟩) (z_preV (r := ("ScaledNumeralDeskModel", TM, 17)) hK hG hn hH hA q0lt c0 rfl) rfl rfl hl.1 rfl (lv_room (Nat.le_of_ble_eq_true rfl)) d_M_multiply_1 ⟨Nat.zero_le _, Nat.zero_le _⟩) hH hA (fun  w3 H1 lc2 hH4 p1 => ?_)
  obtain ⟨⟨f1, e5, e6, p1⟩, hg7⟩ := p1
  replace p1 : ∀ j : Int, 0 ≤ j → j < 140 → f1 j = 0 := p1
  have e8 : w3 (g + 9) = zar E 56 xf := (hg7 (g + 9) (nx_M_multiply_0 ) (nx_M_multiply_1 )).trans c1
  have e9 : w3 (g + 10) = zar E 56 yf := (hg7 (g + 10) (nx_M_multiply_2 ) (nx_M_multiply_3 )).trans c2
  have e10 : w3 (g + 1) = zar E 8 kf := (hg7 (g + 1) (nx_M_multiply_4 ) (nx_M_multiply_5 )).trans c4
  have e11 : w3 (g + 2) = zaz E 8 mf := (hg7 (g + 2) (nx_M_multiply_6 ) (nx_M_multiply_7 )).trans c5
  have e12 : w3 (g + 3) = zar E 8 sf := (hg7 (g + 3) (nx_M_multiply_8 ) (nx_M_multiply_9 )).trans c6
  have e13 : w3 (g + 4) = zar E 448 G := (hg7 (g + 4) (nx_M_multiply_10 ) (nx_M_multiply_11 )).trans c7
  have hf14 : ∀ k, k ≠ g → k ≠ (g + 11) → w3 k = w0 k := fun k g0 g1 => hg7 k g0 g1
  refine lv_aload_n hx hb d_M_multiply_4 rfl (lv_at hl 0 rfl) ?_
  have L21 : ∀ (nn : Int) (ls : Array Slot) (H15 : Heap) (lc16 : List Loc), (lv_has ls 5 [(0, .ref (ad E g)), (1, .int (iI d)), (2, .int (iI sc))]) → (zH E w3 (va_A (wl E w0) s.heap.size) s.heap H15 lc16) → (nn = dif xm ym) → (nn = 0 ∨ nn = 1) → W p l e rm_M_multiply s m a below meth cd H15 lc16 0 0 Qf (F0 m 21 ls [.int (iI nn), .ref (ad E g)]) := by
    intro nn ls H15 lc16 hl hH hnn9 hnn
    refine zv_put (C := "ScaledNumeralDeskModel") (T := TM) (N := 17) (fs' := [.ref (ad E (g + 1)), .ref (ad E (g + 2)), .ref (ad E (g + 3)), .ref (ad E (g + 4)), .int (iI ty), .ref (ad E (g + 5)), .ref (ad E (g + 6)), .ref (ad E (g + 7)), .ref (ad E (g + 8)), .ref (ad E (g + 9)), .ref (ad E (g + 10)), .int (iI xm), .int (iI ym), .ref (ad E (g + 11)), .int (iI nn), .ref (ad E (g + 12)), .ref (ad E (g + 13))]) hx hb hg uM_in tyM tyM_ok nmM hown hK hH q0lt e5 rfl 14 (by decide) (hg _ wm_696) (fun _ h9 => h9) rfl (ty := tyM 14) (by decide +kernel) (by exact nar_z hnn) (by exact fit_z hnn) (Nat.le_of_ble_eq_true rfl) d_M_multiply_21 rfl (fun H18 lc19 w17 hH20 e21 hg22 => ?_)
    have e23 : w17 (g + 9) = zar E 56 xf := (hg22 (g + 9) (nx_M_multiply_0 )).trans e8
    have e24 : w17 (g + 10) = zar E 56 yf := (hg22 (g + 10) (nx_M_multiply_2 )).trans e9
    have e25 : w17 (g + 11) = zar E 140 f1 := (hg22 (g + 11) (nx_M_multiply_12 )).trans e6
    have e26 : w17 (g + 1) = zar E 8 kf := (hg22 (g + 1) (nx_M_multiply_4 )).trans e10
    have e27 : w17 (g + 2) = zaz E 8 mf := (hg22 (g + 2) (nx_M_multiply_6 )).trans e11
    have e28 : w17 (g + 3) = zar E 8 sf := (hg22 (g + 3) (nx_M_multiply_8 )).trans e12
    have e29 : w17 (g + 4) = zar E 448 G := (hg22 (g + 4) (nx_M_multiply_10 )).trans e13
    have hf30 : ∀ k, k ≠ g → k ≠ (g + 11) → w17 k = w0 k := fun k g0 g1 => (hg22 k g0).trans (hf14 k g0 g1)
    refine zv_iconst hx hb d_M_multiply_24 ?_
    refine lv_istore_n (lv' := [(3, .int (iI 0)), (0, .ref (ad E g)), (1, .int (iI d)), (2, .int (iI sc))]) hx hb d_M_multiply_25 rfl hl (by decide) rfl (fun ls hl => ?_)
    have L26 : ∀ (fu : Nat) (i : Int) (h : Int → Int) (ls : Array Slot) (H31 : Heap) (lc32 : List Loc) (w33 : zW), (lv_has ls 5 [(0, .ref (ad E g)), (1, .int (iI d)), (2, .int (iI sc)), (3, .int (iI i))]) → (zH E w33 (va_A (wl E w0) s.heap.size) s.heap H31 lc32) → (w33 g = .inr (6, [.ref (ad E (g + 1)), .ref (ad E (g + 2)), .ref (ad E (g + 3)), .ref (ad E (g + 4)), .int (iI ty), .ref (ad E (g + 5)), .ref (ad E (g + 6)), .ref (ad E (g + 7)), .ref (ad E (g + 8)), .ref (ad E (g + 9)), .ref (ad E (g + 10)), .int (iI xm), .int (iI ym), .ref (ad E (g + 11)), .int (iI nn), .ref (ad E (g + 12)), .ref (ad E (g + 13))])) → (w33 (g + 9) = zar E 56 xf) → (w33 (g + 10) = zar E 56 yf) → (w33 (g + 11) = zar E 140 h) → (w33 (g + 1) = zar E 8 kf) → (w33 (g + 2) = zaz E 8 mf) → (w33 (g + 3) = zar E 8 sf) → (w33 (g + 4) = zar E 448 G) → (∀ k, k ≠ g → k ≠ (g + 11) → w33 k = w0 k) → (bd h 140 0 (4536 * i)) → (0 ≤ i ∧ i ≤ 56) → (Vt h 140 = Vt xf i * Vt yf 56) → (56 - i < (fu : Int)) → W p l e rm_M_multiply s m a below meth cd H31 lc32 0 0 Qf (F0 m 26 ls []) := by
      intro fu
      induction fu with
      | zero => intro i h ls H31 lc32 w33 hl hH e34 e35 e36 e37 e38 e39 e40 e41 hf42 bh hi hv hm; exact absurd hm (by omega)
      | succ fu ih =>
        intro i h ls H31 lc32 w33 hl hH e34 e35 e36 e37 e38 e39 e40 e41 hf42 bh hi hv hm
        refine lv_iload_n hx hb d_M_multiply_26 rfl (lv_at hl 3 rfl) ?_
        refine zv_bipush hx hb d_M_multiply_27 rfl ?_
        refine zv_icmp_ge (tgt := 80) hx hb d_M_multiply_29 rfl (by omega) (by omega) (fun h43 => ?_) (fun h43 => ?_)
        · have i9 : i = 56 := by omega
          have hX : Vt h 140 = Vt xf 56 * Vt yf 56 := by rw [hv, i9]
          have ml := mu_lt vx vy
          refine lv_aload_n hx hb d_M_multiply_80 rfl (lv_at hl 0 rfl) ?_
          refine lv_iload_n hx hb d_M_multiply_81 rfl (lv_at hl 1 rfl) ?_
          refine lv_iload_n hx hb d_M_multiply_82 rfl (lv_at hl 2 rfl) ?_
          refine z_calli (va_runV (As := [.int (iI d), .int (iI sc)]) (rest := []) ⟨hx, hb, hml, hown, hts⟩ (c_M_finish (l := l) (E := E) (w0 := w33) (g := g) (ty := ty) (xm := xm) (ym := ym) (ne := nn) (f := h) (kf := kf) (mf := mf) (sf := sf) (G := G) (d := d) (n := sc) (q0lt := q0lt) (q1lt := q3lt) (q2lt := q4lt) (q3lt := q5lt) (q4lt := q6lt) (q5lt := q7lt) (c0 := e34) (c1 := e37) (c2 := e38) (c3 := e39) (c4 := e40) (c5 := e41) (bf := (fun j g1 g2 => by have := bh j g1 g2; omega)) (bk := bk) (bm := bm) (bs := bs) (bG := bG) (hne := by omega) (hV := (by rw [hX]; omega)) (hd := by omega) (hn := by omega) H31.size) (z_cwV (C := "ScaledNumeralDeskModel") 2 hg wm_786 wm_783 wm_9 wm_785 wm_s39 (by decide +kernel) ⟨Nat.le_of_ble_eq_true rfl, Nat.le_of_ble_eq_true rfl⟩) (z_preV (r := ("ScaledNumeralDeskModel", TM, 17)) hK hG hn hH hA q0lt e34 rfl) rfl rfl hl.1 rfl (lv_room (Nat.le_of_ble_eq_true rfl)) d_M_multiply_83 ⟨Nat.zero_le _, Nat.zero_le _⟩) hH hA (fun z48 w46 H44 lc45 hH47 p83 => ?_)
          obtain ⟨⟨n_49, f_50, k_51, m_52, s_53, x_54, e55, e56, e57, e58, e59, e60, bd61, bd62, bd63, bd64, bd65, p83⟩, hg66⟩ := p83
          replace bd61 : bd f_50 140 0 9 := bd61
          replace bd62 : bd k_51 8 0 3 := bd62
          replace bd63 : bd m_52 8 0 1 := bd63
          replace bd64 : bd s_53 8 0 24 := bd64
          replace bd65 : bd x_54 448 0 9 := bd65
          replace p83 : (n_49 = 0 ∨ n_49 = 1) ∧ ∃ X : Int, AbR (Vt h 140) nn X n_49 ∧ KpR z48 d (mx0 sc) n_49 (Rn X (48 - sc)) kf sf mf G k_51 s_53 m_52 x_54 := p83
          have e67 : w46 (g + 9) = zar E 56 xf := (hg66 (g + 9) (nx_M_multiply_0 ) (nx_M_multiply_1 ) (nx_M_multiply_13 ) (nx_M_multiply_14 ) (nx_M_multiply_15 ) (nx_M_multiply_16 )).trans e35
          have e68 : w46 (g + 10) = zar E 56 yf := (hg66 (g + 10) (nx_M_multiply_2 ) (nx_M_multiply_3 ) (nx_M_multiply_17 ) (nx_M_multiply_18 ) (nx_M_multiply_19 ) (nx_M_multiply_20 )).trans e36
          have hf69 : ∀ k, k ≠ g → k ≠ (g + 11) → k ≠ (g + 1) → k ≠ (g + 2) → k ≠ (g + 3) → k ≠ (g + 4) → w46 k = w0 k := fun k g0 g1 g2 g3 g4 g5 => (hg66 k g0 g1 g2 g3 g4 g5).trans (hf42 k g0 g1)
          obtain ⟨p83a, X, p83b, p83c⟩ := p83
          rw [hX] at p83b
          have ab := AbR_p p83b ml.1
          rw [ab.1, ab.2, hnn9, mx0_p hsc.1] at p83c
          rw [hQ]
          exact z_iret hx hb hr hlk hH47 (⟨⟨n_49, f_50, k_51, m_52, s_53, x_54, e55, e56, e57, e58, e59, e60, bd61, bd62, bd63, bd64, bd65, ⟨p83a, p83c⟩⟩, (fun k g0 g1 g2 g3 g4 g5 => hf69 k g0 g1 g2 g3 g4 g5)⟩) d_M_multiply_86
        · refine zv_iconst hx hb d_M_multiply_32 ?_
          refine lv_istore (lv' := [(4, .int (iI 0)), (0, .ref (ad E g)), (1, .int (iI d)), (2, .int (iI sc)), (3, .int (iI i))]) hx hb d_M_multiply_33 hl (by decide) rfl (fun ls hl => ?_)
          have L35 : ∀ (fu : Nat) (j : Int) (h2 : Int → Int) (ls : Array Slot) (H70 : Heap) (lc71 : List Loc) (w72 : zW), (lv_has ls 5 [(4, .int (iI j)), (0, .ref (ad E g)), (1, .int (iI d)), (2, .int (iI sc)), (3, .int (iI i))]) → (zH E w72 (va_A (wl E w0) s.heap.size) s.heap H70 lc71) → (w72 g = .inr (6, [.ref (ad E (g + 1)), .ref (ad E (g + 2)), .ref (ad E (g + 3)), .ref (ad E (g + 4)), .int (iI ty), .ref (ad E (g + 5)), .ref (ad E (g + 6)), .ref (ad E (g + 7)), .ref (ad E (g + 8)), .ref (ad E (g + 9)), .ref (ad E (g + 10)), .int (iI xm), .int (iI ym), .ref (ad E (g + 11)), .int (iI nn), .ref (ad E (g + 12)), .ref (ad E (g + 13))])) → (w72 (g + 9) = zar E 56 xf) → (w72 (g + 10) = zar E 56 yf) → (w72 (g + 11) = zar E 140 h2) → (w72 (g + 1) = zar E 8 kf) → (w72 (g + 2) = zaz E 8 mf) → (w72 (g + 3) = zar E 8 sf) → (w72 (g + 4) = zar E 448 G) → (∀ k, k ≠ g → k ≠ (g + 11) → w72 k = w0 k) → (bd h2 140 0 (4536 * i + 81 * j)) → (0 ≤ j ∧ j ≤ 56) → (Vt h2 140 = Vt xf i * Vt yf 56 + xf i * Vt yf j * Tp i) → (56 - j < (fu : Int)) → W p l e rm_M_multiply s m a below meth cd H70 lc71 0 0 Qf (F0 m 35 ls []) := by
            intro fu
            induction fu with
            | zero => intro j h2 ls H70 lc71 w72 hl hH e73 e74 e75 e76 e77 e78 e79 e80 hf81 bh2 hj hv2 hm; exact absurd hm (by omega)
            | succ fu ih35 =>
              intro j h2 ls H70 lc71 w72 hl hH e73 e74 e75 e76 e77 e78 e79 e80 hf81 bh2 hj hv2 hm
              refine lv_iload hx hb d_M_multiply_35 (lv_at hl 0 rfl) ?_
              refine zv_bipush hx hb d_M_multiply_37 rfl ?_
              refine zv_icmp_ge (tgt := 74) hx hb d_M_multiply_39 rfl (by omega) (by omega) (fun h82 => ?_) (fun h82 => ?_)
              · refine zv_iinc (k := 4) (lv' := [(3, .int (iI (i + 1))), (4, .int (iI j)), (0, .ref (ad E g)), (1, .int (iI d)), (2, .int (iI sc))]) hx hb d_M_multiply_74 hl rfl (by decide) rfl (fun ls hl => ?_)
                refine lv_goto (tgt := 26) hx hb d_M_multiply_77 rfl ?_
                exact ih  (i + 1) h2 _ H70 lc71 w72 (lv_sub hl [2, 3, 4, 0] rfl) hH e73 e74 e75 e76 e77 e78 e79 e80 (fun k g0 g1 => hf81 k g0 g1) (by exact bd_w bh2 (by omega)) (by omega) (by rw [hv2, show j = 56 by omega]; exact mud_next hi.1) (by omega)
              · refine lv_aload_n hx hb d_M_multiply_42 rfl (lv_at hl 1 rfl) ?_
                refine zv_get (C := "ScaledNumeralDeskModel") (T := TM) (N := 17) hx hb hg uM_in hown hK hH q0lt e73 rfl 13 (by decide) (hg _ wm_695) (fun _ h9 => h9) rfl d_M_multiply_43 ?_
                refine lv_iload_n hx hb d_M_multiply_46 rfl (lv_at hl 4 rfl) ?_
                refine lv_iload hx hb d_M_multiply_47 (lv_at hl 0 rfl) ?_
                refine zv_iadd hx hb d_M_multiply_49 ?_
                refine lv_dup2_11 hx hb d_M_multiply_50 rfl rfl ?_
                refine zv_iald hx hb hK hH q3lt e76 (by omega) (by omega) (by omega) d_M_multiply_51 ?_
                refine lv_aload_n hx hb d_M_multiply_52 rfl (lv_at hl 1 rfl) ?_
                refine zv_get (C := "ScaledNumeralDeskModel") (T := TM) (N := 17) hx hb hg uM_in hown hK hH q0lt e73 rfl 9 (by decide) (hg _ wm_691) (fun _ h9 => h9) rfl d_M_multiply_53 ?_
                refine lv_iload_n hx hb d_M_multiply_56 rfl (lv_at hl 4 rfl) ?_
                refine zv_iald hx hb hK hH q1lt e74 (by omega) (by omega) (by omega) d_M_multiply_57 ?_
                have b83 := bx i (by omega) (by omega)
                refine lv_aload_n hx hb d_M_multiply_58 rfl (lv_at hl 1 rfl) ?_
                refine zv_get (C := "ScaledNumeralDeskModel") (T := TM) (N := 17) hx hb hg uM_in hown hK hH q0lt e73 rfl 10 (by decide) (hg _ wm_692) (fun _ h9 => h9) rfl d_M_multiply_59 ?_
                refine lv_iload hx hb d_M_multiply_62 (lv_at hl 0 rfl) ?_
                refine zv_iald hx hb hK hH q2lt e75 (by omega) (by omega) (by omega) d_M_multiply_64 ?_
                have b84 := by1 j (by omega) (by omega)
                have m81 := mu_81 (bx i (by omega) (by omega)) (by1 j (by omega) (by omega))
                refine zv_imul hx hb d_M_multiply_65 ?_
                refine zv_iadd hx hb d_M_multiply_66 ?_
                refine zv_iast hx hb hK hH q3lt e76 (by omega) (by omega) (by omega) d_M_multiply_67 (fun H86 lc87 w85 hH88 e89 hg90 => ?_)
                have e91 : w85 g = .inr (6, [.ref (ad E (g + 1)), .ref (ad E (g + 2)), .ref (ad E (g + 3)), .ref (ad E (g + 4)), .int (iI ty), .ref (ad E (g + 5)), .ref (ad E (g + 6)), .ref (ad E (g + 7)), .ref (ad E (g + 8)), .ref (ad E (g + 9)), .ref (ad E (g + 10)), .int (iI xm), .int (iI ym), .ref (ad E (g + 11)), .int (iI nn), .ref (ad E (g + 12)), .ref (ad E (g + 13))]) := (hg90 g (nx_M_multiply_21 )).trans e73
                have e92 : w85 (g + 9) = zar E 56 xf := (hg90 (g + 9) (nx_M_multiply_1 )).trans e74
                have e93 : w85 (g + 10) = zar E 56 yf := (hg90 (g + 10) (nx_M_multiply_3 )).trans e75
                have e94 : w85 (g + 1) = zar E 8 kf := (hg90 (g + 1) (nx_M_multiply_5 )).trans e77
                have e95 : w85 (g + 2) = zaz E 8 mf := (hg90 (g + 2) (nx_M_multiply_7 )).trans e78
                have e96 : w85 (g + 3) = zar E 8 sf := (hg90 (g + 3) (nx_M_multiply_9 )).trans e79
                have e97 : w85 (g + 4) = zar E 448 G := (hg90 (g + 4) (nx_M_multiply_11 )).trans e80
                have hf98 : ∀ k, k ≠ g → k ≠ (g + 11) → w85 k = w0 k := fun k g0 g1 => (hg90 k g1).trans (hf81 k g0 g1)
                refine zv_iinc (k := 0) (lv' := [(4, .int (iI (j + 1))), (0, .ref (ad E g)), (1, .int (iI d)), (2, .int (iI sc)), (3, .int (iI i))]) hx hb d_M_multiply_68 hl rfl (by decide) rfl (fun ls hl => ?_)
                refine lv_goto (tgt := 35) hx hb d_M_multiply_71 rfl ?_
                exact ih35  (j + 1) (up h2 (i + j) ((h2 (i + j)) + ((xf i) * (yf j)))) _ H86 lc87 w85 (lv_sub hl [0, 1, 2, 3, 4] rfl) hH88 e91 e92 e93 e89 e94 e95 e96 e97 (fun k g0 g1 => hf98 k g0 g1) (by exact bd_up (bd_w bh2 (by omega)) _ _ (by have := bh2 (i + j) (by omega) (by omega); omega)) (by omega) (by exact mud_step ⟨hi.1, by omega⟩ ⟨hj.1, by omega⟩ hv2) (by omega)
          exact L35 ((56 - 0 : Int).toNat + 1) 0 h _ H31 lc32 w33 (lv_sub hl [0, 1, 2, 3, 4] rfl) hH e34 e35 e36 e37 e38 e39 e40 e41 (fun k g0 g1 => hf42 k g0 g1) (by exact bd_w bh (by omega)) (by omega) (by rw [hv, Vt_0, Int.mul_zero, Int.zero_mul]; omega) (by omega)
    exact L26 ((56 - 0 : Int).toNat + 1) 0 f1 _ H18 lc19 w17 (lv_sub hl [1, 2, 3, 0] rfl) hH20 e21 e23 e24 e25 e26 e27 e28 e29 (fun k g0 g1 => hf30 k g0 g1) (by intro j g1 g2; rw [p1 j g1 g2]; decide) (by omega) (by rw [Vt_zero (by decide) p1, Vt_0]; omega) (by omega)
  refine lv_aload_n hx hb d_M_multiply_5 rfl (lv_at hl 0 rfl) ?_
  refine zv_get (C := "ScaledNumeralDeskModel") (T := TM) (N := 17) hx hb hg uM_in hown hK hH4 q0lt e5 rfl 11 (by decide) (hg _ wm_693) (fun _ h9 => h9) rfl d_M_multiply_6 ?_
  refine lv_aload_n hx hb d_M_multiply_9 rfl (lv_at hl 0 rfl) ?_
  refine zv_get (C := "ScaledNumeralDeskModel") (T := TM) (N := 17) hx hb hg uM_in hown hK hH4 q0lt e5 rfl 12 (by decide) (hg _ wm_694) (fun _ h9 => h9) rfl d_M_multiply_10 ?_
  refine zv_icmp_eq (tgt := 20) hx hb d_M_multiply_13 rfl (by omega) (by omega) (fun h99 => ?_) (fun h99 => ?_)
  · refine zv_iconst hx hb d_M_multiply_20 ?_
    exact L21 0 _ H1 lc2 (lv_sub hl [0, 1, 2] rfl) hH4 (by first | exact (dif_e (by omega)).symm | exact (dif_n (by omega)).symm) (by omega)
  · refine zv_iconst hx hb d_M_multiply_16 ?_
    refine lv_goto (tgt := 21) hx hb d_M_multiply_17 rfl ?_
    exact L21 1 _ H1 lc2 (lv_sub hl [0, 1, 2] rfl) hH4 (by first | exact (dif_e (by omega)).symm | exact (dif_n (by omega)).symm) (by omega)
