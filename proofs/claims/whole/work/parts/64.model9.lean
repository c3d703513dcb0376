theorem nx_M_remainder_0 {g : Nat}  : g + 9 ≠ g := by omega
theorem nx_M_remainder_1 {g : Nat}  : g + 9 ≠ g + 11 := by omega
theorem nx_M_remainder_2 {g : Nat}  : g + 9 ≠ g + 12 := by omega
theorem nx_M_remainder_3 {g : Nat}  : g + 10 ≠ g := by omega
theorem nx_M_remainder_4 {g : Nat}  : g + 10 ≠ g + 11 := by omega
theorem nx_M_remainder_5 {g : Nat}  : g + 10 ≠ g + 12 := by omega
theorem nx_M_remainder_6 {g : Nat}  : g + 1 ≠ g := by omega
theorem nx_M_remainder_7 {g : Nat}  : g + 1 ≠ g + 11 := by omega
theorem nx_M_remainder_8 {g : Nat}  : g + 1 ≠ g + 12 := by omega
theorem nx_M_remainder_9 {g : Nat}  : g + 2 ≠ g := by omega
theorem nx_M_remainder_10 {g : Nat}  : g + 2 ≠ g + 11 := by omega
theorem nx_M_remainder_11 {g : Nat}  : g + 2 ≠ g + 12 := by omega
theorem nx_M_remainder_12 {g : Nat}  : g + 3 ≠ g := by omega
theorem nx_M_remainder_13 {g : Nat}  : g + 3 ≠ g + 11 := by omega
theorem nx_M_remainder_14 {g : Nat}  : g + 3 ≠ g + 12 := by omega
theorem nx_M_remainder_15 {g : Nat}  : g + 4 ≠ g := by omega
theorem nx_M_remainder_16 {g : Nat}  : g + 4 ≠ g + 11 := by omega
theorem nx_M_remainder_17 {g : Nat}  : g + 4 ≠ g + 12 := by omega
theorem nx_M_remainder_18 {g : Nat}  : g + 12 ≠ g := by omega
theorem nx_M_remainder_19 {g : Nat}  : g + 12 ≠ g + 11 := by omega
theorem nx_M_remainder_20 {g : Nat}  : g + 11 ≠ g := by omega
theorem nx_M_remainder_21 {g : Nat}  : g ≠ g + 1 := by omega
theorem nx_M_remainder_22 {g : Nat}  : g ≠ g + 2 := by omega
theorem nx_M_remainder_23 {g : Nat}  : g ≠ g + 3 := by omega
theorem nx_M_remainder_24 {g : Nat}  : g ≠ g + 4 := by omega
theorem nx_M_remainder_25 {g : Nat}  : g + 9 ≠ g + 1 := by omega
theorem nx_M_remainder_26 {g : Nat}  : g + 9 ≠ g + 2 := by omega
theorem nx_M_remainder_27 {g : Nat}  : g + 9 ≠ g + 3 := by omega
theorem nx_M_remainder_28 {g : Nat}  : g + 9 ≠ g + 4 := by omega
theorem nx_M_remainder_29 {g : Nat}  : g + 10 ≠ g + 1 := by omega
theorem nx_M_remainder_30 {g : Nat}  : g + 10 ≠ g + 2 := by omega
theorem nx_M_remainder_31 {g : Nat}  : g + 10 ≠ g + 3 := by omega
theorem nx_M_remainder_32 {g : Nat}  : g + 10 ≠ g + 4 := by omega
theorem nx_M_remainder_33 {g : Nat}  : g + 11 ≠ g + 1 := by omega
theorem nx_M_remainder_34 {g : Nat}  : g + 11 ≠ g + 2 := by omega
theorem nx_M_remainder_35 {g : Nat}  : g + 11 ≠ g + 3 := by omega
theorem nx_M_remainder_36 {g : Nat}  : g + 11 ≠ g + 4 := by omega
theorem nx_M_remainder_37 {g : Nat}  : g + 12 ≠ g + 1 := by omega
theorem nx_M_remainder_38 {g : Nat}  : g + 12 ≠ g + 2 := by omega
theorem nx_M_remainder_39 {g : Nat}  : g + 12 ≠ g + 3 := by omega
theorem nx_M_remainder_40 {g : Nat}  : g + 12 ≠ g + 4 := by omega
theorem nx_M_remainder_41 {g : Nat}  : g ≠ g + 11 := by omega
def rm_M_remainder : Room := { frames := 2, cells := 0, slots := 0, locals := 47 }
set_option maxHeartbeats 4000000 in
set_option maxRecDepth 100000 in
theorem c_M_remainder (l : Launch) (E : zE) (w0 : zW) (g : Nat) (ty xm ym ne : Int) (xf yf f rf kf mf sf G : Int → Int) (d sc : Int) (q0lt : g < zn E) (q1lt : g + 9 < zn E) (q2lt : g + 10 < zn E) (q3lt : g + 11 < zn E) (q4lt : g + 12 < zn E) (q5lt : g + 1 < zn E) (q6lt : g + 2 < zn E) (q7lt : g + 3 < zn E) (q8lt : g + 4 < zn E) (c0 : w0 g = .inr (6, [.ref (ad E (g + 1)), .ref (ad E (g + 2)), .ref (ad E (g + 3)), .ref (ad E (g + 4)), .int (iI ty), .ref (ad E (g + 5)), .ref (ad E (g + 6)), .ref (ad E (g + 7)), .ref (ad E (g + 8)), .ref (ad E (g + 9)), .ref (ad E (g + 10)), .int (iI xm), .int (iI ym), .ref (ad E (g + 11)), .int (iI ne), .ref (ad E (g + 12)), .ref (ad E (g + 13))])) (c1 : w0 (g + 9) = zar E 56 xf) (c2 : w0 (g + 10) = zar E 56 yf) (c3 : w0 (g + 11) = zar E 140 f) (c4 : w0 (g + 12) = zar E 58 rf) (c5 : w0 (g + 1) = zar E 8 kf) (c6 : w0 (g + 2) = zaz E 8 mf) (c7 : w0 (g + 3) = zar E 8 sf) (c8 : w0 (g + 4) = zar E 448 G) (bx : bd xf 56 0 9) (by1 : bd yf 56 0 9) (bk : bd kf 8 0 3) (bm : bd mf 8 0 1) (bs : bd sf 8 0 24) (bG : bd G 448 0 9) (hxm : xm = 0 ∨ xm = 1) (hym : ym = 0 ∨ ym = 1) (hd : 0 ≤ d ∧ d < 8) (hsc : 0 ≤ sc ∧ sc ≤ 24) (hD : 0 < Vt yf 56) : zM l y_M_remainder ws_M_remainder rm_M_remainder E [.ref (ad E g), .int (iI d), .int (iI sc)] w0 (zQi E w0 (fun z w' => (∃ (n' : Int) (f' : Int → Int) (r' : Int → Int) (k' : Int → Int) (m' : Int → Int) (s' : Int → Int) (G' : Int → Int), w' g = .inr (6, [.ref (ad E (g + 1)), .ref (ad E (g + 2)), .ref (ad E (g + 3)), .ref (ad E (g + 4)), .int (iI ty), .ref (ad E (g + 5)), .ref (ad E (g + 6)), .ref (ad E (g + 7)), .ref (ad E (g + 8)), .ref (ad E (g + 9)), .ref (ad E (g + 10)), .int (iI xm), .int (iI ym), .ref (ad E (g + 11)), .int (iI n'), .ref (ad E (g + 12)), .ref (ad E (g + 13))]) ∧ w' (g + 11) = zar E 140 f' ∧ w' (g + 12) = zar E 58 r' ∧ w' (g + 1) = zar E 8 k' ∧ w' (g + 2) = zaz E 8 m' ∧ w' (g + 3) = zar E 8 s' ∧ w' (g + 4) = zar E 448 G' ∧ bd f' 140 0 9 ∧ bd r' 58 0 9 ∧ bd k' 8 0 3 ∧ bd m' 8 0 1 ∧ bd s' 8 0 24 ∧ bd G' 448 0 9 ∧ ((n' = 0 ∨ n' = 1) ∧ KpR z d sc xm (Vt xf 56 % Vt yf 56 * Tp 24) kf sf mf G k' s' m' G')) ∧ ∀ k, k ≠ g → k ≠ (g + 11) → k ≠ (g + 12) → k ≠ (g + 1) → k ≠ (g + 2) → k ≠ (g + 3) → k ≠ (g + 4) → w' k = w0 k)) := by
  refine z_met (cc := b_M_remainder) (maxL := 4) (ret := (some .int)) (by decide +kernel) rfl (Nat.le_of_ble_eq_true rfl) ?_
  intro p e s m below meth cd ls a Qf hQ hC hl hH
  obtain ⟨hF, hr, hlk, hK, hG, hn⟩ := hC
  obtain ⟨hx, hb, hml, hown, hts⟩ := hF
  have hg : ∀ w ∈ GW, w.before a s = true := fun w h => hts w (List.mem_cons_of_mem _ h)
  have hA : ∀ q, s.heap.size ≤ q → va_A (wl E w0) s.heap.size q := fun q h => Or.inr h
  have hl : lv_has ls 4 [(0, .ref (ad E g)), (1, .int (iI d)), (2, .int (iI sc))] := hl
  have vx := Vt_in bx (show (0 : Int) ≤ 56 by decide) (Int.le_refl 56)
  have vy := Vt_in by1 (show (0 : Int) ≤ 56 by decide) (Int.le_refl 56)
  refine lv_aload_n hx hb d_M_remainder_0 rfl (lv_at hl 0 rfl) ?_
  refine zv_iconst hx hb d_M_remainder_1 ?_
  refine z_callv (va_runV (As := [.int (iI 0)]) (rest := []) ⟨hx, hb, hml, hown, hts⟩ (c_M_quotient (l := l) (E := E) (w0 := w0) (g := g) (ty := ty) (xm := xm) (ym := ym) (ne := ne) (xf := xf) (yf := yf) (f := f) (rf := rf) (n := 0) (q0lt := q0lt) (q1lt := q1lt) (q2lt := q2lt) (q3lt := q3lt) (q4lt := q4lt) (c0 := c0) (c1 := c1) (c2 := c2) (c3 := c3) (c4 := c4) (bx := bx) (by1 := by1) (hxm := by omega) (hym := by omega) (hn0 := by omega) (hD := by omega) s.heap.size) (z_cwV (C := "ScaledNumeralDeskModel") 1 hg wm_891 wm_888 wm_9 wm_890 wm_s61 (by decide +kernel) ⟨Nat.le_of_ble_eq_true rfl, Nat.le_of_ble_eq_true rfl⟩) (z_preV (r := ("ScaledNumeralDeskModel", TM, 17)) hK hG hn hH hA q0lt c0 rfl) rfl rfl hl.1 rfl (lv_room (Nat.le_of_ble_eq_true rfl)) d_M_remainder_2 ⟨Nat.zero_le _, Nat.zero_le _⟩) hH hA (fun  w3 H1 lc2 hH4 p2 => ?_)
  obtain ⟨⟨n1, f1, r1, e5, e6, e7, bd8, bd9, p2⟩, hg10⟩ := p2
  replace bd8 : bd f1 140 0 9 := bd8
  replace bd9 : bd r1 58 0 9 := bd9
  replace p2 : n1 = dif xm ym ∧ (n1 = 0 ∨ n1 = 1) ∧ Vt f1 140 = Vt xf 56 * Tp (0 : Int) / Vt yf 56 * Tp (48 - (0 : Int)) ∧ Vt r1 58 = Vt xf 56 * Tp (0 : Int) % Vt yf 56 := p2
  have e11 : w3 (g + 9) = zar E 56 xf := (hg10 (g + 9) (nx_M_remainder_0 ) (nx_M_remainder_1 ) (nx_M_remainder_2 )).trans c1
  have e12 : w3 (g + 10) = zar E 56 yf := (hg10 (g + 10) (nx_M_remainder_3 ) (nx_M_remainder_4 ) (nx_M_remainder_5 )).trans c2
  have e13 : w3 (g + 1) = zar E 8 kf := (hg10 (g + 1) (nx_M_remainder_6 ) (nx_M_remainder_7 ) (nx_M_remainder_8 )).trans c5
  have e14 : w3 (g + 2) = zaz E 8 mf := (hg10 (g + 2) (nx_M_remainder_9 ) (nx_M_remainder_10 ) (nx_M_remainder_11 )).trans c6
  have e15 : w3 (g + 3) = zar E 8 sf := (hg10 (g + 3) (nx_M_remainder_12 ) (nx_M_remainder_13 ) (nx_M_remainder_14 )).trans c7
  have e16 : w3 (g + 4) = zar E 448 G := (hg10 (g + 4) (nx_M_remainder_15 ) (nx_M_remainder_16 ) (nx_M_remainder_17 )).trans c8
  have hf17 : ∀ k, k ≠ g → k ≠ (g + 11) → k ≠ (g + 12) → w3 k = w0 k := fun k g0 g1 g2 => hg10 k g0 g1 g2
  have br1 : bd r1 58 0 9 := by assumption
  have hre : Vt r1 58 = Vt xf 56 % Vt yf 56 := by rw [p2.2.2.2, Tp_0, Int.mul_one]
  have hrl := Int.emod_lt_of_pos (Vt xf 56) hD
  have h56 := re_56 br1 (by omega)
  refine lv_aload_n hx hb d_M_remainder_5 rfl (lv_at hl 0 rfl) ?_
  refine z_callv (va_runV (As := []) (rest := []) ⟨hx, hb, hml, hown, hts⟩ (c_M_clear (l := l) (E := E) (w0 := w3) (g := g) (ty := ty) (xm := xm) (ym := ym) (ne := n1) (f := f1) (q0lt := q0lt) (q1lt := q3lt) (c0 := e5) (c1 := e6) H1.size) (z_cwV (C := "ScaledNumeralDeskModel") 0 hg wm_778 wm_775 wm_9 wm_777 wm_s37 (by decide +kernel) ⟨Nat.le_of_ble_eq_true rfl, Nat.le_of_ble_eq_true rfl⟩) (z_preV (r := ("ScaledNumeralDeskModel", TM, 17)) hK hG hn hH4 hA q0lt e5 rfl) rfl rfl hl.1 rfl (lv_room (Nat.le_of_ble_eq_true rfl)) d_M_remainder_6 ⟨Nat.zero_le _, Nat.zero_le _⟩) hH4 hA (fun  w20 H18 lc19 hH21 p6 => ?_)
  obtain ⟨⟨f2, e22, e23, p6⟩, hg24⟩ := p6
  replace p6 : ∀ j : Int, 0 ≤ j → j < 140 → f2 j = 0 := p6
  have e25 : w20 (g + 9) = zar E 56 xf := (hg24 (g + 9) (nx_M_remainder_0 ) (nx_M_remainder_1 )).trans e11
  have e26 : w20 (g + 10) = zar E 56 yf := (hg24 (g + 10) (nx_M_remainder_3 ) (nx_M_remainder_4 )).trans e12
  have e27 : w20 (g + 12) = zar E 58 r1 := (hg24 (g + 12) (nx_M_remainder_18 ) (nx_M_remainder_19 )).trans e7
  have e28 : w20 (g + 1) = zar E 8 kf := (hg24 (g + 1) (nx_M_remainder_6 ) (nx_M_remainder_7 )).trans e13
  have e29 : w20 (g + 2) = zaz E 8 mf := (hg24 (g + 2) (nx_M_remainder_9 ) (nx_M_remainder_10 )).trans e14
  have e30 : w20 (g + 3) = zar E 8 sf := (hg24 (g + 3) (nx_M_remainder_12 ) (nx_M_remainder_13 )).trans e15
  have e31 : w20 (g + 4) = zar E 448 G := (hg24 (g + 4) (nx_M_remainder_15 ) (nx_M_remainder_16 )).trans e16
  have hf32 : ∀ k, k ≠ g → k ≠ (g + 11) → k ≠ (g + 12) → w20 k = w0 k := fun k g0 g1 g2 => (hg24 k g0 g1).trans (hf17 k g0 g1 g2)
  refine lv_aload_n hx hb d_M_remainder_9 rfl (lv_at hl 0 rfl) ?_
  refine lv_aload_n hx hb d_M_remainder_10 rfl (lv_at hl 0 rfl) ?_
  refine zv_get (C := "ScaledNumeralDeskModel") (T := TM) (N := 17) hx hb hg uM_in hown hK hH21 q0lt e22 rfl 11 (by decide) (hg _ wm_693) (fun _ h9 => h9) rfl d_M_remainder_11 ?_
  refine zv_put (C := "ScaledNumeralDeskModel") (T := TM) (N := 17) (fs' := [.ref (ad E (g + 1)), .ref (ad E (g + 2)), .ref (ad E (g + 3)), .ref (ad E (g + 4)), .int (iI ty), .ref (ad E (g + 5)), .ref (ad E (g + 6)), .ref (ad E (g + 7)), .ref (ad E (g + 8)), .ref (ad E (g + 9)), .ref (ad E (g + 10)), .int (iI xm), .int (iI ym), .ref (ad E (g + 11)), .int (iI xm), .ref (ad E (g + 12)), .ref (ad E (g + 13))]) hx hb hg uM_in tyM tyM_ok nmM hown hK hH21 q0lt e22 rfl 14 (by decide) (hg _ wm_696) (fun _ h9 => h9) rfl (ty := tyM 14) (by decide +kernel) (by exact nar_z hxm) (by exact fit_z hxm) (Nat.le_of_ble_eq_true rfl) d_M_remainder_14 rfl (fun H34 lc35 w33 hH36 e37 hg38 => ?_)
  have e39 : w33 (g + 9) = zar E 56 xf := (hg38 (g + 9) (nx_M_remainder_0 )).trans e25
  have e40 : w33 (g + 10) = zar E 56 yf := (hg38 (g + 10) (nx_M_remainder_3 )).trans e26
  have e41 : w33 (g + 11) = zar E 140 f2 := (hg38 (g + 11) (nx_M_remainder_20 )).trans e23
  have e42 : w33 (g + 12) = zar E 58 r1 := (hg38 (g + 12) (nx_M_remainder_18 )).trans e27
  have e43 : w33 (g + 1) = zar E 8 kf := (hg38 (g + 1) (nx_M_remainder_6 )).trans e28
  have e44 : w33 (g + 2) = zaz E 8 mf := (hg38 (g + 2) (nx_M_remainder_9 )).trans e29
  have e45 : w33 (g + 3) = zar E 8 sf := (hg38 (g + 3) (nx_M_remainder_12 )).trans e30
  have e46 : w33 (g + 4) = zar E 448 G := (hg38 (g + 4) (nx_M_remainder_15 )).trans e31
  have hf47 : ∀ k, k ≠ g → k ≠ (g + 11) → k ≠ (g + 12) → w33 k = w0 k := fun k g0 g1 g2 => (hg38 k g0).trans (hf32 k g0 g1 g2)
  refine zv_iconst hx hb d_M_remainder_17 ?_
  refine lv_istore_n (lv' := [(3, .int (iI 0)), (0, .ref (ad E g)), (1, .int (iI d)), (2, .int (iI sc))]) hx hb d_M_remainder_18 rfl hl (by decide) rfl (fun ls hl => ?_)
  have L19 : ∀ (fu : Nat) (i : Int) (h : Int → Int) (ls : Array Slot) (H48 : Heap) (lc49 : List Loc) (w50 : zW), (lv_has ls 4 [(3, .int (iI i)), (0, .ref (ad E g)), (1, .int (iI d)), (2, .int (iI sc))]) → (zH E w50 (va_A (wl E w0) s.heap.size) s.heap H48 lc49) → (w50 g = .inr (6, [.ref (ad E (g + 1)), .ref (ad E (g + 2)), .ref (ad E (g + 3)), .ref (ad E (g + 4)), .int (iI ty), .ref (ad E (g + 5)), .ref (ad E (g + 6)), .ref (ad E (g + 7)), .ref (ad E (g + 8)), .ref (ad E (g + 9)), .ref (ad E (g + 10)), .int (iI xm), .int (iI ym), .ref (ad E (g + 11)), .int (iI xm), .ref (ad E (g + 12)), .ref (ad E (g + 13))])) → (w50 (g + 9) = zar E 56 xf) → (w50 (g + 10) = zar E 56 yf) → (w50 (g + 11) = zar E 140 h) → (w50 (g + 12) = zar E 58 r1) → (w50 (g + 1) = zar E 8 kf) → (w50 (g + 2) = zaz E 8 mf) → (w50 (g + 3) = zar E 8 sf) → (w50 (g + 4) = zar E 448 G) → (∀ k, k ≠ g → k ≠ (g + 11) → k ≠ (g + 12) → w50 k = w0 k) → (0 ≤ i ∧ i ≤ 56) → (∀ j : Int, 0 ≤ j → j < i → h (24 + j) = r1 j) → (∀ j : Int, 0 ≤ j → j < 140 → ¬ (24 ≤ j ∧ j < 80) → h j = 0) → (56 - i < (fu : Int)) → W p l e rm_M_remainder s m a below meth cd H48 lc49 0 0 Qf (F0 m 19 ls []) := by
    intro fu
    induction fu with
    | zero => intro i h ls H48 lc49 w50 hl hH e51 e52 e53 e54 e55 e56 e57 e58 e59 hf60 hi hk hz hm; exact absurd hm (by omega)
    | succ fu ih =>
      intro i h ls H48 lc49 w50 hl hH e51 e52 e53 e54 e55 e56 e57 e58 e59 hf60 hi hk hz hm
      refine lv_iload_n hx hb d_M_remainder_19 rfl (lv_at hl 0 rfl) ?_
      refine zv_bipush hx hb d_M_remainder_20 rfl ?_
      refine zv_icmp_ge (tgt := 46) hx hb d_M_remainder_22 rfl (by omega) (by omega) (fun h61 => ?_) (fun h61 => ?_)
      · have bh9 : bd h 140 0 9 := fun j g1 g2 => by
          by_cases e8 : 24 ≤ j ∧ j < 80
          · have e7 := hk (j - 24) (by omega) (by omega)
            rw [show 24 + (j - 24) = j by omega] at e7
            rw [e7]; exact br1 _ (by omega) (by omega)
          · rw [hz j g1 g2 e8]; decide
        have hX : Vt h 140 = Vt xf 56 % Vt yf 56 * Tp 24 := by
          rw [sp_V (f := r1) (n := 56) (x := 24) (by decide) (by decide) (fun j g1 g2 => hz j g1 (by omega) (by omega)) (fun j g1 g2 => hz j (by omega) g2 (by omega)) (fun j g1 g2 => hk j g1 (by omega)), ← hre, ← h56]; rfl
        refine lv_aload_n hx hb d_M_remainder_46 rfl (lv_at hl 1 rfl) ?_
        refine lv_iload_n hx hb d_M_remainder_47 rfl (lv_at hl 2 rfl) ?_
        refine lv_iload_n hx hb d_M_remainder_48 rfl (lv_at hl 3 rfl) ?_
        refine z_calli (va_runV (As := [.int (iI d), .int (iI sc)]) (rest := []) ⟨hx, hb, hml, hown, hts⟩ (c_M_keep (l := l) (E := E) (w0 := w50) (g := g) (ty := ty) (xm := xm) (ym := ym) (ne := xm) (f := h) (kf := kf) (mf := mf) (sf := sf) (G := G) (d := d) (sc := sc) (q0lt := q0lt) (q1lt := q3lt) (q2lt := q5lt) (q3lt := q6lt) (q4lt := q7lt) (q5lt := q8lt) (c0 := e51) (c1 := e54) (c2 := e56) (c3 := e57) (c4 := e58) (c5 := e59) (bf := bh9) (bk := bk) (bm := bm) (bs := bs) (bG := bG) (hne := by omega) (hd := by omega) (hsc := by omega) H48.size) (z_cwV (C := "ScaledNumeralDeskModel") 2 hg wm_806 wm_803 wm_9 wm_805 wm_s44 (by decide +kernel) ⟨Nat.le_of_ble_eq_true rfl, Nat.le_of_ble_eq_true rfl⟩) (z_preV (r := ("ScaledNumeralDeskModel", TM, 17)) hK hG hn hH hA q0lt e51 rfl) rfl rfl hl.1 rfl (lv_room (Nat.le_of_ble_eq_true rfl)) d_M_remainder_49 ⟨Nat.zero_le _, Nat.zero_le _⟩) hH hA (fun z66 w64 H62 lc63 hH65 p49 => ?_)
        obtain ⟨⟨k_67, m_68, s_69, x_70, e71, e72, e73, e74, bd75, bd76, bd77, bd78, p49⟩, hg79⟩ := p49
        replace bd75 : bd k_67 8 0 3 := bd75
        replace bd76 : bd m_68 8 0 1 := bd76
        replace bd77 : bd s_69 8 0 24 := bd77
        replace bd78 : bd x_70 448 0 9 := bd78
        replace p49 : KpR z66 d sc xm (Vt h 140) kf sf mf G k_67 s_69 m_68 x_70 := p49
        have e80 : w64 g = .inr (6, [.ref (ad E (g + 1)), .ref (ad E (g + 2)), .ref (ad E (g + 3)), .ref (ad E (g + 4)), .int (iI ty), .ref (ad E (g + 5)), .ref (ad E (g + 6)), .ref (ad E (g + 7)), .ref (ad E (g + 8)), .ref (ad E (g + 9)), .ref (ad E (g + 10)), .int (iI xm), .int (iI ym), .ref (ad E (g + 11)), .int (iI xm), .ref (ad E (g + 12)), .ref (ad E (g + 13))]) := (hg79 g (nx_M_remainder_21 ) (nx_M_remainder_22 ) (nx_M_remainder_23 ) (nx_M_remainder_24 )).trans e51
        have e81 : w64 (g + 9) = zar E 56 xf := (hg79 (g + 9) (nx_M_remainder_25 ) (nx_M_remainder_26 ) (nx_M_remainder_27 ) (nx_M_remainder_28 )).trans e52
        have e82 : w64 (g + 10) = zar E 56 yf := (hg79 (g + 10) (nx_M_remainder_29 ) (nx_M_remainder_30 ) (nx_M_remainder_31 ) (nx_M_remainder_32 )).trans e53
        have e83 : w64 (g + 11) = zar E 140 h := (hg79 (g + 11) (nx_M_remainder_33 ) (nx_M_remainder_34 ) (nx_M_remainder_35 ) (nx_M_remainder_36 )).trans e54
        have e84 : w64 (g + 12) = zar E 58 r1 := (hg79 (g + 12) (nx_M_remainder_37 ) (nx_M_remainder_38 ) (nx_M_remainder_39 ) (nx_M_remainder_40 )).trans e55
        have hf85 : ∀ k, k ≠ g → k ≠ (g + 11) → k ≠ (g + 12) → k ≠ (g + 1) → k ≠ (g + 2) → k ≠ (g + 3) → k ≠ (g + 4) → w64 k = w0 k := fun k g0 g1 g2 g3 g4 g5 g6 => (hg79 k g3 g4 g5 g6).trans (hf60 k g0 g1 g2)
        rw [hX] at p49
        rw [hQ]
        exact z_iret hx hb hr hlk hH65 (⟨⟨xm, h, r1, k_67, m_68, s_69, x_70, e80, e83, e84, e71, e72, e73, e74, bh9, bd9, bd75, bd76, bd77, bd78, ⟨hxm, p49⟩⟩, (fun k g0 g1 g2 g3 g4 g5 g6 => hf85 k g0 g1 g2 g3 g4 g5 g6)⟩) d_M_remainder_52
      · refine lv_aload_n hx hb d_M_remainder_25 rfl (lv_at hl 1 rfl) ?_
        refine zv_get (C := "ScaledNumeralDeskModel") (T := TM) (N := 17) hx hb hg uM_in hown hK hH q0lt e51 rfl 13 (by decide) (hg _ wm_695) (fun _ h9 => h9) rfl d_M_remainder_26 ?_
        refine zv_bipush hx hb d_M_remainder_29 rfl ?_
        refine lv_iload_n hx hb d_M_remainder_31 rfl (lv_at hl 0 rfl) ?_
        refine zv_iadd hx hb d_M_remainder_32 ?_
        refine lv_aload_n hx hb d_M_remainder_33 rfl (lv_at hl 1 rfl) ?_
        refine zv_get (C := "ScaledNumeralDeskModel") (T := TM) (N := 17) hx hb hg uM_in hown hK hH q0lt e51 rfl 15 (by decide) (hg _ wm_697) (fun _ h9 => h9) rfl d_M_remainder_34 ?_
        refine lv_iload_n hx hb d_M_remainder_37 rfl (lv_at hl 0 rfl) ?_
        refine zv_iald hx hb hK hH q4lt e55 (by omega) (by omega) (by omega) d_M_remainder_38 ?_
        have b86 := bd9 i (by omega) (by omega)
        refine zv_iast hx hb hK hH q3lt e54 (by omega) (by omega) (by omega) d_M_remainder_39 (fun H88 lc89 w87 hH90 e91 hg92 => ?_)
        have e93 : w87 g = .inr (6, [.ref (ad E (g + 1)), .ref (ad E (g + 2)), .ref (ad E (g + 3)), .ref (ad E (g + 4)), .int (iI ty), .ref (ad E (g + 5)), .ref (ad E (g + 6)), .ref (ad E (g + 7)), .ref (ad E (g + 8)), .ref (ad E (g + 9)), .ref (ad E (g + 10)), .int (iI xm), .int (iI ym), .ref (ad E (g + 11)), .int (iI xm), .ref (ad E (g + 12)), .ref (ad E (g + 13))]) := (hg92 g (nx_M_remainder_41 )).trans e51
        have e94 : w87 (g + 9) = zar E 56 xf := (hg92 (g + 9) (nx_M_remainder_1 )).trans e52
        have e95 : w87 (g + 10) = zar E 56 yf := (hg92 (g + 10) (nx_M_remainder_4 )).trans e53
        have e96 : w87 (g + 12) = zar E 58 r1 := (hg92 (g + 12) (nx_M_remainder_19 )).trans e55
        have e97 : w87 (g + 1) = zar E 8 kf := (hg92 (g + 1) (nx_M_remainder_7 )).trans e56
        have e98 : w87 (g + 2) = zaz E 8 mf := (hg92 (g + 2) (nx_M_remainder_10 )).trans e57
        have e99 : w87 (g + 3) = zar E 8 sf := (hg92 (g + 3) (nx_M_remainder_13 )).trans e58
        have e100 : w87 (g + 4) = zar E 448 G := (hg92 (g + 4) (nx_M_remainder_16 )).trans e59
        have hf101 : ∀ k, k ≠ g → k ≠ (g + 11) → k ≠ (g + 12) → w87 k = w0 k := fun k g0 g1 g2 => (hg92 k g1).trans (hf60 k g0 g1 g2)
        refine zv_iinc (k := 0) (lv' := [(3, .int (iI (i + 1))), (0, .ref (ad E g)), (1, .int (iI d)), (2, .int (iI sc))]) hx hb d_M_remainder_40 hl rfl (by decide) rfl (fun ls hl => ?_)
        refine lv_goto (tgt := 19) hx hb d_M_remainder_43 rfl ?_
        exact ih  (i + 1) (up h (24 + i) (r1 i)) _ H88 lc89 w87 (lv_sub hl [0, 1, 2, 3] rfl) hH90 e93 e94 e95 e91 e96 e97 e98 e99 e100 (fun k g0 g1 g2 => hf101 k g0 g1 g2) (by omega) (by intro j g1 g2; by_cases e8 : j = i; rw [e8, up_at]; rw [up_ne (by omega)]; exact hk j g1 (by omega)) (by intro j g1 g2 g3; rw [up_ne (by omega)]; exact hz j g1 g2 g3) (by omega)
  exact L19 ((56 - 0 : Int).toNat + 1) 0 f2 _ H34 lc35 w33 (lv_sub hl [0, 1, 2, 3] rfl) hH36 e37 e39 e40 e41 e42 e43 e44 e45 e46 (fun k g0 g1 g2 => hf47 k g0 g1 g2) (by omega) (by intro j g1 g2; omega) (by intro j g1 g2 _; exact p6 j g1 g2) (by omega)
theorem nx_M_zero_0 {g : Nat}  : g + 1 ≠ g := by omega
theorem nx_M_zero_1 {g : Nat}  : g + 1 ≠ g + 11 := by omega
theorem nx_M_zero_2 {g : Nat}  : g + 2 ≠ g := by omega
theorem nx_M_zero_3 {g : Nat}  : g + 2 ≠ g + 11 := by omega
theorem nx_M_zero_4 {g : Nat}  : g + 3 ≠ g := by omega
theorem nx_M_zero_5 {g : Nat}  : g + 3 ≠ g + 11 := by omega
theorem nx_M_zero_6 {g : Nat}  : g + 4 ≠ g := by omega
theorem nx_M_zero_7 {g : Nat}  : g + 4 ≠ g + 11 := by omega
theorem nx_M_zero_8 {g : Nat}  : g ≠ g + 1 := by omega
theorem nx_M_zero_9 {g : Nat}  : g ≠ g + 2 := by omega
theorem nx_M_zero_10 {g : Nat}  : g ≠ g + 3 := by omega
theorem nx_M_zero_11 {g : Nat}  : g ≠ g + 4 := by omega
theorem nx_M_zero_12 {g : Nat}  : g + 11 ≠ g + 1 := by omega
theorem nx_M_zero_13 {g : Nat}  : g + 11 ≠ g + 2 := by omega
theorem nx_M_zero_14 {g : Nat}  : g + 11 ≠ g + 3 := by omega
theorem nx_M_zero_15 {g : Nat}  : g + 11 ≠ g + 4 := by omega
def rm_M_zero : Room := { frames := 2, cells := 0, slots := 0, locals := 45 }
set_option maxHeartbeats 4000000 in
set_option maxRecDepth 100000 in
theorem c_M_zero (l : Launch) (E : zE) (w0 : zW) (g : Nat) (ty xm ym ne : Int) (f kf mf sf G : Int → Int) (d : Int) (q0lt : g < zn E) (q1lt : g + 11 < zn E) (q2lt : g + 1 < zn E) (q3lt : g + 2 < zn E) (q4lt : g + 3 < zn E) (q5lt : g + 4 < zn E) (c0 : w0 g = .inr (6, [.ref (ad E (g + 1)), .ref (ad E (g + 2)), .ref (ad E (g + 3)), .ref (ad E (g + 4)), .int (iI ty), .ref (ad E (g + 5)), .ref (ad E (g + 6)), .ref (ad E (g + 7)), .ref (ad E (g + 8)), .ref (ad E (g + 9)), .ref (ad E (g + 10)), .int (iI xm), .int (iI ym), .ref (ad E (g + 11)), .int (iI ne), .ref (ad E (g + 12)), .ref (ad E (g + 13))])) (c1 : w0 (g + 11) = zar E 140 f) (c2 : w0 (g + 1) = zar E 8 kf) (c3 : w0 (g + 2) = zaz E 8 mf) (c4 : w0 (g + 3) = zar E 8 sf) (c5 : w0 (g + 4) = zar E 448 G) (bk : bd kf 8 0 3) (bm : bd mf 8 0 1) (bs : bd sf 8 0 24) (bG : bd G 448 0 9) (hd : 0 ≤ d ∧ d < 8) : zM l y_M_zero ws_M_zero rm_M_zero E [.ref (ad E g), .int (iI d)] w0 (zQi E w0 (fun z w' => (∃ (f' : Int → Int) (k' : Int → Int) (m' : Int → Int) (s' : Int → Int) (G' : Int → Int), w' g = .inr (6, [.ref (ad E (g + 1)), .ref (ad E (g + 2)), .ref (ad E (g + 3)), .ref (ad E (g + 4)), .int (iI ty), .ref (ad E (g + 5)), .ref (ad E (g + 6)), .ref (ad E (g + 7)), .ref (ad E (g + 8)), .ref (ad E (g + 9)), .ref (ad E (g + 10)), .int (iI xm), .int (iI ym), .ref (ad E (g + 11)), .int (iI 0), .ref (ad E (g + 12)), .ref (ad E (g + 13))]) ∧ w' (g + 11) = zar E 140 f' ∧ w' (g + 1) = zar E 8 k' ∧ w' (g + 2) = zaz E 8 m' ∧ w' (g + 3) = zar E 8 s' ∧ w' (g + 4) = zar E 448 G' ∧ bd f' 140 0 9 ∧ bd k' 8 0 3 ∧ bd m' 8 0 1 ∧ bd s' 8 0 24 ∧ bd G' 448 0 9 ∧ (KpR z d 0 0 0 kf sf mf G k' s' m' G')) ∧ ∀ k, k ≠ g → k ≠ (g + 11) → k ≠ (g + 1) → k ≠ (g + 2) → k ≠ (g + 3) → k ≠ (g + 4) → w' k = w0 k)) := by
  refine z_met (cc := b_M_zero) (maxL := 2) (ret := (some .int)) (by decide +kernel) rfl (Nat.le_of_ble_eq_true rfl) ?_
  intro p e s m below meth cd ls a Qf hQ hC hl hH
  obtain ⟨hF, hr, hlk, hK, hG, hn⟩ := hC
  obtain ⟨hx, hb, hml, hown, hts⟩ := hF
  have hg : ∀ w ∈ GW, w.before a s = true := fun w h => hts w (List.mem_cons_of_mem _ h)
  have hA : ∀ q, s.heap.size ≤ q → va_A (wl E w0) s.heap.size q := fun q h => Or.inr h
  have hl : lv_has ls 2 [(0, .ref (ad E g)), (1, .int (iI d))] := hl
  refine lv_aload_n hx hb d_M_zero_0 rfl (lv_at hl 0 rfl) ?_
  refine z_callv (va_runV (As := []) (rest := []) ⟨hx, hb, hml, hown, hts⟩ (c_M_clear (l := l) (E := E) (w0 := w0) (g := g) (ty := ty) (xm := xm) (ym := ym) (ne := ne) (f := f) (q0lt := q0lt) (q1lt := q1lt) (c0 := c0) (c1 := c1) s.heap.size) (z_cwV (C := "ScaledNumeralDeskModel") 0 hg wm_778 wm_775 wm_9 wm_777 wm_s37 (by decide +kernel) ⟨Nat.le_of_ble_eq_true rfl, Nat.le_of_ble_eq_true rfl⟩) (z_preV (r := ("ScaledNumeralDeskModel", TM, 17)) hK hG hn hH hA q0lt c0 rfl) rfl rfl hl.1 rfl (lv_room (Nat.le_of_ble_eq_true rfl)) d_M_zero_1 ⟨Nat.zero_le _, Nat.zero_le _⟩) hH hA (fun  w3 H1 lc2 hH4 p1 => ?_)
  obtain ⟨⟨f1, e5, e6, p1⟩, hg7⟩ := p1
  replace p1 : ∀ j : Int, 0 ≤ j → j < 140 → f1 j = 0 := p1
  have e8 : w3 (g + 1) = zar E 8 kf := (hg7 (g + 1) (nx_M_zero_0 ) (nx_M_zero_1 )).trans c2
  have e9 : w3 (g + 2) = zaz E 8 mf := (hg7 (g + 2) (nx_M_zero_2 ) (nx_M_zero_3 )).trans c3
  have e10 : w3 (g + 3) = zar E 8 sf := (hg7 (g + 3) (nx_M_zero_4 ) (nx_M_zero_5 )).trans c4
  have e11 : w3 (g + 4) = zar E 448 G := (hg7 (g + 4) (nx_M_zero_6 ) (nx_M_zero_7 )).trans c5
  have hf12 : ∀ k, k ≠ g → k ≠ (g + 11) → w3 k = w0 k := fun k g0 g1 => hg7 k g0 g1
  have bf1 : bd f1 140 0 9 := fun j g1 g2 => by rw [p1 j g1 g2]; decide
  have hX : Vt f1 140 = 0 := Vt_zero (by decide) p1
  refine lv_aload_n hx hb d_M_zero_4 rfl (lv_at hl 0 rfl) ?_
  refine lv_iload_n hx hb d_M_zero_5 rfl (lv_at hl 1 rfl) ?_
  refine zv_iconst hx hb d_M_zero_6 ?_
  refine z_calli (va_runV (As := [.int (iI d), .int (iI 0)]) (rest := []) ⟨hx, hb, hml, hown, hts⟩ (c_M_keep (l := l) (E := E) (w0 := w3) (g := g) (ty := ty) (xm := xm) (ym := ym) (ne := 0) (f := f1) (kf := kf) (mf := mf) (sf := sf) (G := G) (d := d) (sc := 0) (q0lt := q0lt) (q1lt := q1lt) (q2lt := q2lt) (q3lt := q3lt) (q4lt := q4lt) (q5lt := q5lt) (c0 := e5) (c1 := e6) (c2 := e8) (c3 := e9) (c4 := e10) (c5 := e11) (bf := bf1) (bk := bk) (bm := bm) (bs := bs) (bG := bG) (hne := by omega) (hd := by omega) (hsc := by omega) H1.size) (z_cwV (C := "ScaledNumeralDeskModel") 2 hg wm_806 wm_803 wm_9 wm_805 wm_s44 (by decide +kernel) ⟨Nat.le_of_ble_eq_true rfl, Nat.le_of_ble_eq_true rfl⟩) (z_preV (r := ("ScaledNumeralDeskModel", TM, 17)) hK hG hn hH4 hA q0lt e5 rfl) rfl rfl hl.1 rfl (lv_room (Nat.le_of_ble_eq_true rfl)) d_M_zero_7 ⟨Nat.zero_le _, Nat.zero_le _⟩) hH4 hA (fun z17 w15 H13 lc14 hH16 p7 => ?_)
  obtain ⟨⟨k_18, m_19, s_20, x_21, e22, e23, e24, e25, bd26, bd27, bd28, bd29, p7⟩, hg30⟩ := p7
  replace bd26 : bd k_18 8 0 3 := bd26
  replace bd27 : bd m_19 8 0 1 := bd27
  replace bd28 : bd s_20 8 0 24 := bd28
  replace bd29 : bd x_21 448 0 9 := bd29
  replace p7 : KpR z17 d (0 : Int) (0 : Int) (Vt f1 140) kf sf mf G k_18 s_20 m_19 x_21 := p7
  have e31 : w15 g = .inr (6, [.ref (ad E (g + 1)), .ref (ad E (g + 2)), .ref (ad E (g + 3)), .ref (ad E (g + 4)), .int (iI ty), .ref (ad E (g + 5)), .ref (ad E (g + 6)), .ref (ad E (g + 7)), .ref (ad E (g + 8)), .ref (ad E (g + 9)), .ref (ad E (g + 10)), .int (iI xm), .int (iI ym), .ref (ad E (g + 11)), .int (iI 0), .ref (ad E (g + 12)), .ref (ad E (g + 13))]) := (hg30 g (nx_M_zero_8 ) (nx_M_zero_9 ) (nx_M_zero_10 ) (nx_M_zero_11 )).trans e5
  have e32 : w15 (g + 11) = zar E 140 f1 := (hg30 (g + 11) (nx_M_zero_12 ) (nx_M_zero_13 ) (nx_M_zero_14 ) (nx_M_zero_15 )).trans e6
  have hf33 : ∀ k, k ≠ g → k ≠ (g + 11) → k ≠ (g + 1) → k ≠ (g + 2) → k ≠ (g + 3) → k ≠ (g + 4) → w15 k = w0 k := fun k g0 g1 g2 g3 g4 g5 => (hg30 k g2 g3 g4 g5).trans (hf12 k g0 g1)
  rw [hX] at p7
  rw [hQ]
  exact z_iret hx hb hr hlk hH16 (⟨⟨f1, k_18, m_19, s_20, x_21, e31, e32, e22, e23, e24, e25, bf1, bd26, bd27, bd28, bd29, p7⟩, (fun k g0 g1 g2 g3 g4 g5 => hf33 k g0 g1 g2 g3 g4 g5)⟩) d_M_zero_10
theorem nx_M_copy_0 {g : Nat}  : g + 11 ≠ g := by omega
theorem nx_M_copy_1 {g : Nat}  : g + 11 ≠ g + 9 := by omega
theorem nx_M_copy_2 {g : Nat}  : g + 1 ≠ g := by omega
theorem nx_M_copy_3 {g : Nat}  : g + 1 ≠ g + 9 := by omega
theorem nx_M_copy_4 {g : Nat}  : g + 2 ≠ g := by omega
theorem nx_M_copy_5 {g : Nat}  : g + 2 ≠ g + 9 := by omega
theorem nx_M_copy_6 {g : Nat}  : g + 3 ≠ g := by omega
theorem nx_M_copy_7 {g : Nat}  : g + 3 ≠ g + 9 := by omega
theorem nx_M_copy_8 {g : Nat}  : g + 4 ≠ g := by omega
theorem nx_M_copy_9 {g : Nat}  : g + 4 ≠ g + 9 := by omega
theorem nx_M_copy_10 {g : Nat}  : g + 9 ≠ g := by omega
theorem nx_M_copy_11 {g : Nat}  : g + 9 ≠ g + 11 := by omega
theorem nx_M_copy_12 {g : Nat}  : g + 1 ≠ g + 11 := by omega
theorem nx_M_copy_13 {g : Nat}  : g + 2 ≠ g + 11 := by omega
theorem nx_M_copy_14 {g : Nat}  : g + 3 ≠ g + 11 := by omega
theorem nx_M_copy_15 {g : Nat}  : g + 4 ≠ g + 11 := by omega
theorem nx_M_copy_16 {g : Nat}  : g ≠ g + 1 := by omega
theorem nx_M_copy_17 {g : Nat}  : g ≠ g + 2 := by omega
theorem nx_M_copy_18 {g : Nat}  : g ≠ g + 3 := by omega
theorem nx_M_copy_19 {g : Nat}  : g ≠ g + 4 := by omega
theorem nx_M_copy_20 {g : Nat}  : g + 9 ≠ g + 1 := by omega
theorem nx_M_copy_21 {g : Nat}  : g + 9 ≠ g + 2 := by omega
theorem nx_M_copy_22 {g : Nat}  : g + 9 ≠ g + 3 := by omega
theorem nx_M_copy_23 {g : Nat}  : g + 9 ≠ g + 4 := by omega
theorem nx_M_copy_24 {g : Nat}  : g + 11 ≠ g + 1 := by omega
theorem nx_M_copy_25 {g : Nat}  : g + 11 ≠ g + 2 := by omega
theorem nx_M_copy_26 {g : Nat}  : g + 11 ≠ g + 3 := by omega
theorem nx_M_copy_27 {g : Nat}  : g + 11 ≠ g + 4 := by omega
def rm_M_copy : Room := { frames := 2, cells := 0, slots := 0, locals := 45 }
set_option maxHeartbeats 4000000 in
set_option maxRecDepth 100000 in
theorem c_M_copy (l : Launch) (E : zE) (w0 : zW) (g : Nat) (ty xm ym ne : Int) (xf f kf mf sf G : Int → Int) (d ra : Int) (q0lt : g < zn E) (q1lt : g + 9 < zn E) (q2lt : g + 11 < zn E) (q3lt : g + 1 < zn E) (q4lt : g + 2 < zn E) (q5lt : g + 3 < zn E) (q6lt : g + 4 < zn E) (c0 : w0 g = .inr (6, [.ref (ad E (g + 1)), .ref (ad E (g + 2)), .ref (ad E (g + 3)), .ref (ad E (g + 4)), .int (iI ty), .ref (ad E (g + 5)), .ref (ad E (g + 6)), .ref (ad E (g + 7)), .ref (ad E (g + 8)), .ref (ad E (g + 9)), .ref (ad E (g + 10)), .int (iI xm), .int (iI ym), .ref (ad E (g + 11)), .int (iI ne), .ref (ad E (g + 12)), .ref (ad E (g + 13))])) (c1 : w0 (g + 9) = zar E 56 xf) (c2 : w0 (g + 11) = zar E 140 f) (c3 : w0 (g + 1) = zar E 8 kf) (c4 : w0 (g + 2) = zaz E 8 mf) (c5 : w0 (g + 3) = zar E 8 sf) (c6 : w0 (g + 4) = zar E 448 G) (bk : bd kf 8 0 3) (bm : bd mf 8 0 1) (bs : bd sf 8 0 24) (bG : bd G 448 0 9) (hd : 0 ≤ d ∧ d < 8) (hra : 0 ≤ ra ∧ ra < 8) : zM l y_M_copy ws_M_copy rm_M_copy E [.ref (ad E g), .int (iI d), .int (iI ra)] w0 (zQi E w0 (fun z w' => (∃ (x' : Int → Int) (f' : Int → Int) (k' : Int → Int) (m' : Int → Int) (s' : Int → Int) (G' : Int → Int), w' g = .inr (6, [.ref (ad E (g + 1)), .ref (ad E (g + 2)), .ref (ad E (g + 3)), .ref (ad E (g + 4)), .int (iI ty), .ref (ad E (g + 5)), .ref (ad E (g + 6)), .ref (ad E (g + 7)), .ref (ad E (g + 8)), .ref (ad E (g + 9)), .ref (ad E (g + 10)), .int (iI (mf ra)), .int (iI ym), .ref (ad E (g + 11)), .int (iI (mf ra)), .ref (ad E (g + 12)), .ref (ad E (g + 13))]) ∧ w' (g + 9) = zar E 56 x' ∧ w' (g + 11) = zar E 140 f' ∧ w' (g + 1) = zar E 8 k' ∧ w' (g + 2) = zaz E 8 m' ∧ w' (g + 3) = zar E 8 s' ∧ w' (g + 4) = zar E 448 G' ∧ bd x' 56 0 9 ∧ bd f' 140 0 9 ∧ bd k' 8 0 3 ∧ bd m' 8 0 1 ∧ bd s' 8 0 24 ∧ bd G' 448 0 9 ∧ (KpR z d (sf ra) (mf ra) (Gt G ra * Tp 24) kf sf mf G k' s' m' G')) ∧ ∀ k, k ≠ g → k ≠ (g + 9) → k ≠ (g + 11) → k ≠ (g + 1) → k ≠ (g + 2) → k ≠ (g + 3) → k ≠ (g + 4) → w' k = w0 k)) := by
  refine z_met (cc := b_M_copy) (maxL := 3) (ret := (some .int)) (by decide +kernel) rfl (Nat.le_of_ble_eq_true rfl) ?_
  intro p e s m below meth cd ls a Qf hQ hC hl hH
  obtain ⟨hF, hr, hlk, hK, hG, hn⟩ := hC
  obtain ⟨hx, hb, hml, hown, hts⟩ := hF
  have hg : ∀ w ∈ GW, w.before a s = true := fun w h => hts w (List.mem_cons_of_mem _ h)
  have hA : ∀ q, s.heap.size ≤ q → va_A (wl E w0) s.heap.size q := fun q h => Or.inr h
  have hl : lv_has ls 3 [(0, .ref (ad E g)), (1, .int (iI d)), (2, .int (iI ra))] := hl
  have bma := bm ra hra.1 hra.2
  have bsa := bs ra hra.1 hra.2
  refine lv_aload_n hx hb d_M_copy_0 rfl (lv_at hl 0 rfl) ?_
  refine lv_iload_n hx hb d_M_copy_1 rfl (lv_at hl 2 rfl) ?_
  refine z_callv (va_runV (As := [.int (iI ra)]) (rest := []) ⟨hx, hb, hml, hown, hts⟩ (c_M_takeX (l := l) (E := E) (w0 := w0) (g := g) (ty := ty) (xm := xm) (ym := ym) (ne := ne) (mf := mf) (G := G) (xf := xf) (r := ra) (q0lt := q0lt) (q1lt := q4lt) (q2lt := q6lt) (q3lt := q1lt) (c0 := c0) (c1 := c4) (c2 := c6) (c3 := c1) (bm := bm) (bG := bG) (hr0 := by omega) s.heap.size) (z_cwV (C := "ScaledNumeralDeskModel") 1 hg wm_847 wm_844 wm_9 wm_846 wm_s50 (by decide +kernel) ⟨Nat.le_of_ble_eq_true rfl, Nat.le_of_ble_eq_true rfl⟩) (z_preV (r := ("ScaledNumeralDeskModel", TM, 17)) hK hG hn hH hA q0lt c0 rfl) rfl rfl hl.1 rfl (lv_room (Nat.le_of_ble_eq_true rfl)) d_M_copy_2 ⟨Nat.zero_le _, Nat.zero_le _⟩) hH hA (fun  w3 H1 lc2 hH4 p2 => ?_)
  obtain ⟨⟨x1, e5, e6, bd7, p2⟩, hg8⟩ := p2
  replace bd7 : bd x1 56 0 9 := bd7
  replace p2 : Vt x1 56 = Gt G ra := p2
  have e9 : w3 (g + 11) = zar E 140 f := (hg8 (g + 11) (nx_M_copy_0 ) (nx_M_copy_1 )).trans c2
  have e10 : w3 (g + 1) = zar E 8 kf := (hg8 (g + 1) (nx_M_copy_2 ) (nx_M_copy_3 )).trans c3
  have e11 : w3 (g + 2) = zaz E 8 mf := (hg8 (g + 2) (nx_M_copy_4 ) (nx_M_copy_5 )).trans c4
  have e12 : w3 (g + 3) = zar E 8 sf := (hg8 (g + 3) (nx_M_copy_6 ) (nx_M_copy_7 )).trans c5
  have e13 : w3 (g + 4) = zar E 448 G := (hg8 (g + 4) (nx_M_copy_8 ) (nx_M_copy_9 )).trans c6
  have hf14 : ∀ k, k ≠ g → k ≠ (g + 9) → w3 k = w0 k := fun k g0 g1 => hg8 k g0 g1
  refine lv_aload_n hx hb d_M_copy_5 rfl (lv_at hl 0 rfl) ?_
  refine z_callv (va_runV (As := []) (rest := []) ⟨hx, hb, hml, hown, hts⟩ (c_M_spread (l := l) (E := E) (w0 := w3) (g := g) (ty := ty) (xm := mf ra) (ym := ym) (ne := ne) (xf := x1) (f := f) (q0lt := q0lt) (q1lt := q1lt) (q2lt := q2lt) (c0 := e5) (c1 := e6) (c2 := e9) (bx := bd7) (hxm := (by have := bm ra hra.1 hra.2; omega)) H1.size) (z_cwV (C := "ScaledNumeralDeskModel") 0 hg wm_851 wm_848 wm_9 wm_850 wm_s51 (by decide +kernel) ⟨Nat.le_of_ble_eq_true rfl, Nat.le_of_ble_eq_true rfl⟩) (z_preV (r := ("ScaledNumeralDeskModel", TM, 17)) hK hG hn hH4 hA q0lt e5 rfl) rfl rfl hl.1 rfl (lv_room (Nat.le_of_ble_eq_true rfl)) d_M_copy_6 ⟨Nat.zero_le _, Nat.zero_le _⟩) hH4 hA (fun  w17 H15 lc16 hH18 p6 => ?_)
  obtain ⟨⟨f1, e19, e20, bd21, p6⟩, hg22⟩ := p6
  replace bd21 : bd f1 140 0 9 := bd21
  replace p6 : Vt f1 140 = Vt x1 56 * Tp 24 := p6
  have e23 : w17 (g + 9) = zar E 56 x1 := (hg22 (g + 9) (nx_M_copy_10 ) (nx_M_copy_11 )).trans e6
  have e24 : w17 (g + 1) = zar E 8 kf := (hg22 (g + 1) (nx_M_copy_2 ) (nx_M_copy_12 )).trans e10
  have e25 : w17 (g + 2) = zaz E 8 mf := (hg22 (g + 2) (nx_M_copy_4 ) (nx_M_copy_13 )).trans e11
  have e26 : w17 (g + 3) = zar E 8 sf := (hg22 (g + 3) (nx_M_copy_6 ) (nx_M_copy_14 )).trans e12
  have e27 : w17 (g + 4) = zar E 448 G := (hg22 (g + 4) (nx_M_copy_8 ) (nx_M_copy_15 )).trans e13
  have hf28 : ∀ k, k ≠ g → k ≠ (g + 9) → k ≠ (g + 11) → w17 k = w0 k := fun k g0 g1 g2 => (hg22 k g0 g2).trans (hf14 k g0 g1)
  refine lv_aload_n hx hb d_M_copy_9 rfl (lv_at hl 0 rfl) ?_
  refine lv_iload_n hx hb d_M_copy_10 rfl (lv_at hl 1 rfl) ?_
  refine lv_aload_n hx hb d_M_copy_11 rfl (lv_at hl 0 rfl) ?_
  refine zv_get (C := "ScaledNumeralDeskModel") (T := TM) (N := 17) hx hb hg uM_in hown hK hH18 q0lt e19 rfl 2 (by decide) (hg _ wm_684) (fun _ h9 => h9) rfl d_M_copy_12 ?_
  refine lv_iload_n hx hb d_M_copy_15 rfl (lv_at hl 2 rfl) ?_
  refine zv_iald hx hb hK hH18 q5lt e26 (by omega) (by omega) (by omega) d_M_copy_16 ?_
  have b29 := bs ra (by omega) (by omega)
  refine z_calli (va_runV (As := [.int (iI d), .int (iI (sf ra))]) (rest := []) ⟨hx, hb, hml, hown, hts⟩ (c_M_keep (l := l) (E := E) (w0 := w17) (g := g) (ty := ty) (xm := (mf ra)) (ym := ym) (ne := (mf ra)) (f := f1) (kf := kf) (mf := mf) (sf := sf) (G := G) (d := d) (sc := sf ra) (q0lt := q0lt) (q1lt := q2lt) (q2lt := q3lt) (q3lt := q4lt) (q4lt := q5lt) (q5lt := q6lt) (c0 := e19) (c1 := e20) (c2 := e24) (c3 := e25) (c4 := e26) (c5 := e27) (bf := bd21) (bk := bk) (bm := bm) (bs := bs) (bG := bG) (hne := by omega) (hd := by omega) (hsc := by omega) H15.size) (z_cwV (C := "ScaledNumeralDeskModel") 2 hg wm_806 wm_803 wm_9 wm_805 wm_s44 (by decide +kernel) ⟨Nat.le_of_ble_eq_true rfl, Nat.le_of_ble_eq_true rfl⟩) (z_preV (r := ("ScaledNumeralDeskModel", TM, 17)) hK hG hn hH18 hA q0lt e19 rfl) rfl rfl hl.1 rfl (lv_room (Nat.le_of_ble_eq_true rfl)) d_M_copy_17 ⟨Nat.zero_le _, Nat.zero_le _⟩) hH18 hA (fun z34 w32 H30 lc31 hH33 p17 => ?_)
  obtain ⟨⟨k_35, m_36, s_37, x_38, e39, e40, e41, e42, bd43, bd44, bd45, bd46, p17⟩, hg47⟩ := p17
  replace bd43 : bd k_35 8 0 3 := bd43
  replace bd44 : bd m_36 8 0 1 := bd44
  replace bd45 : bd s_37 8 0 24 := bd45
  replace bd46 : bd x_38 448 0 9 := bd46
  replace p17 : KpR z34 d (sf ra) ((mf ra)) (Vt f1 140) kf sf mf G k_35 s_37 m_36 x_38 := p17
  have e48 : w32 g = .inr (6, [.ref (ad E (g + 1)), .ref (ad E (g + 2)), .ref (ad E (g + 3)), .ref (ad E (g + 4)), .int (iI ty), .ref (ad E (g + 5)), .ref (ad E (g + 6)), .ref (ad E (g + 7)), .ref (ad E (g + 8)), .ref (ad E (g + 9)), .ref (ad E (g + 10)), .int (iI ((mf ra))), .int (iI ym), .ref (ad E (g + 11)), .int (iI ((mf ra))), .ref (ad E (g + 12)), .ref (ad E (g + 13))]) := (hg47 g (nx_M_copy_16 ) (nx_M_copy_17 ) (nx_M_copy_18 ) (nx_M_copy_19 )).trans e19
  have e49 : w32 (g + 9) = zar E 56 x1 := (hg47 (g + 9) (nx_M_copy_20 ) (nx_M_copy_21 ) (nx_M_copy_22 ) (nx_M_copy_23 )).trans e23
  have e50 : w32 (g + 11) = zar E 140 f1 := (hg47 (g + 11) (nx_M_copy_24 ) (nx_M_copy_25 ) (nx_M_copy_26 ) (nx_M_copy_27 )).trans e20
  have hf51 : ∀ k, k ≠ g → k ≠ (g + 9) → k ≠ (g + 11) → k ≠ (g + 1) → k ≠ (g + 2) → k ≠ (g + 3) → k ≠ (g + 4) → w32 k = w0 k := fun k g0 g1 g2 g3 g4 g5 g6 => (hg47 k g3 g4 g5 g6).trans (hf28 k g0 g1 g2)
  rw [p6, p2] at p17
  rw [hQ]
  exact z_iret hx hb hr hlk hH33 (⟨⟨x1, f1, k_35, m_36, s_37, x_38, e48, e49, e50, e39, e40, e41, e42, bd7, bd21, bd43, bd44, bd45, bd46, p17⟩, (fun k g0 g1 g2 g3 g4 g5 g6 => hf51 k g0 g1 g2 g3 g4 g5 g6)⟩) d_M_copy_20
