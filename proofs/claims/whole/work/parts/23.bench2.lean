theorem nx_B_addInf_0 {b q r t : Nat} (hqt : t + 2 < q) (hrt : t + 2 < r) (hbt : b + 4 < t) : b ≠ t := by omega
theorem nx_B_addInf_1 {b q r t : Nat} (hqt : t + 2 < q) (hrt : t + 2 < r) (hbt : b + 4 < t) : b ≠ t + 1 := by omega
theorem nx_B_addInf_2 {b q r t : Nat} (hqt : t + 2 < q) (hrt : t + 2 < r) (hbt : b + 4 < t) : b ≠ t + 2 := by omega
theorem nx_B_addInf_3 {b q r t : Nat} (hqt : t + 2 < q) (hrt : t + 2 < r) (hbt : b + 4 < t) : b + 1 ≠ t := by omega
theorem nx_B_addInf_4 {b q r t : Nat} (hqt : t + 2 < q) (hrt : t + 2 < r) (hbt : b + 4 < t) : b + 1 ≠ t + 1 := by omega
theorem nx_B_addInf_5 {b q r t : Nat} (hqt : t + 2 < q) (hrt : t + 2 < r) (hbt : b + 4 < t) : b + 1 ≠ t + 2 := by omega
theorem nx_B_addInf_6 {b q r t : Nat} (hqt : t + 2 < q) (hrt : t + 2 < r) (hbt : b + 4 < t) : b + 2 ≠ t := by omega
theorem nx_B_addInf_7 {b q r t : Nat} (hqt : t + 2 < q) (hrt : t + 2 < r) (hbt : b + 4 < t) : b + 2 ≠ t + 1 := by omega
theorem nx_B_addInf_8 {b q r t : Nat} (hqt : t + 2 < q) (hrt : t + 2 < r) (hbt : b + 4 < t) : b + 2 ≠ t + 2 := by omega
theorem nx_B_addInf_9 {b q r t : Nat} (hqt : t + 2 < q) (hrt : t + 2 < r) (hbt : b + 4 < t) : b + 3 ≠ t := by omega
theorem nx_B_addInf_10 {b q r t : Nat} (hqt : t + 2 < q) (hrt : t + 2 < r) (hbt : b + 4 < t) : b + 3 ≠ t + 1 := by omega
theorem nx_B_addInf_11 {b q r t : Nat} (hqt : t + 2 < q) (hrt : t + 2 < r) (hbt : b + 4 < t) : b + 3 ≠ t + 2 := by omega
theorem nx_B_addInf_12 {b q r t : Nat} (hqt : t + 2 < q) (hrt : t + 2 < r) (hbt : b + 4 < t) : b + 4 ≠ t := by omega
theorem nx_B_addInf_13 {b q r t : Nat} (hqt : t + 2 < q) (hrt : t + 2 < r) (hbt : b + 4 < t) : b + 4 ≠ t + 1 := by omega
theorem nx_B_addInf_14 {b q r t : Nat} (hqt : t + 2 < q) (hrt : t + 2 < r) (hbt : b + 4 < t) : b + 4 ≠ t + 2 := by omega
theorem nx_B_addInf_15 {b q r t : Nat} (hqt : t + 2 < q) (hrt : t + 2 < r) (hbt : b + 4 < t) : q ≠ t := by omega
theorem nx_B_addInf_16 {b q r t : Nat} (hqt : t + 2 < q) (hrt : t + 2 < r) (hbt : b + 4 < t) : q ≠ t + 1 := by omega
theorem nx_B_addInf_17 {b q r t : Nat} (hqt : t + 2 < q) (hrt : t + 2 < r) (hbt : b + 4 < t) : q ≠ t + 2 := by omega
theorem nx_B_addInf_18 {b q r t : Nat} (hqt : t + 2 < q) (hrt : t + 2 < r) (hbt : b + 4 < t) : q + 1 ≠ t := by omega
theorem nx_B_addInf_19 {b q r t : Nat} (hqt : t + 2 < q) (hrt : t + 2 < r) (hbt : b + 4 < t) : q + 1 ≠ t + 1 := by omega
theorem nx_B_addInf_20 {b q r t : Nat} (hqt : t + 2 < q) (hrt : t + 2 < r) (hbt : b + 4 < t) : q + 1 ≠ t + 2 := by omega
theorem nx_B_addInf_21 {b q r t : Nat} (hqt : t + 2 < q) (hrt : t + 2 < r) (hbt : b + 4 < t) : q + 2 ≠ t := by omega
theorem nx_B_addInf_22 {b q r t : Nat} (hqt : t + 2 < q) (hrt : t + 2 < r) (hbt : b + 4 < t) : q + 2 ≠ t + 1 := by omega
theorem nx_B_addInf_23 {b q r t : Nat} (hqt : t + 2 < q) (hrt : t + 2 < r) (hbt : b + 4 < t) : q + 2 ≠ t + 2 := by omega
theorem nx_B_addInf_24 {b q r t : Nat} (hqt : t + 2 < q) (hrt : t + 2 < r) (hbt : b + 4 < t) : r ≠ t := by omega
theorem nx_B_addInf_25 {b q r t : Nat} (hqt : t + 2 < q) (hrt : t + 2 < r) (hbt : b + 4 < t) : r ≠ t + 1 := by omega
theorem nx_B_addInf_26 {b q r t : Nat} (hqt : t + 2 < q) (hrt : t + 2 < r) (hbt : b + 4 < t) : r ≠ t + 2 := by omega
theorem nx_B_addInf_27 {b q r t : Nat} (hqt : t + 2 < q) (hrt : t + 2 < r) (hbt : b + 4 < t) : r + 1 ≠ t := by omega
theorem nx_B_addInf_28 {b q r t : Nat} (hqt : t + 2 < q) (hrt : t + 2 < r) (hbt : b + 4 < t) : r + 1 ≠ t + 1 := by omega
theorem nx_B_addInf_29 {b q r t : Nat} (hqt : t + 2 < q) (hrt : t + 2 < r) (hbt : b + 4 < t) : r + 1 ≠ t + 2 := by omega
theorem nx_B_addInf_30 {b q r t : Nat} (hqt : t + 2 < q) (hrt : t + 2 < r) (hbt : b + 4 < t) : r + 2 ≠ t := by omega
theorem nx_B_addInf_31 {b q r t : Nat} (hqt : t + 2 < q) (hrt : t + 2 < r) (hbt : b + 4 < t) : r + 2 ≠ t + 1 := by omega
theorem nx_B_addInf_32 {b q r t : Nat} (hqt : t + 2 < q) (hrt : t + 2 < r) (hbt : b + 4 < t) : r + 2 ≠ t + 2 := by omega
def rm_B_addInf : Room := { frames := 4, cells := 0, slots := 0, locals := 85 }
set_option maxHeartbeats 4000000 in
set_option maxRecDepth 100000 in
theorem c_B_addInf (l : Launch) (E : zE) (w0 : zW) (b : Nat) (r1 r2 r3 r4 : Int → Int) (q : Nat) (kd : Nat) (pl ng : Int) (f : Int → Int) (r : Nat) (ko : Nat) (po no : Int) (g : Int → Int) (t : Nat) (kt : Nat) (pt nt : Int) (h : Int → Int) (ta : Int) (q0lt : b < zn E) (q1lt : b + 1 < zn E) (q2lt : b + 2 < zn E) (q3lt : b + 3 < zn E) (q4lt : b + 4 < zn E) (q5lt : q < zn E) (q6lt : q + 1 < zn E) (q7lt : q + 2 < zn E) (q8lt : r < zn E) (q9lt : r + 1 < zn E) (q10lt : r + 2 < zn E) (q11lt : t < zn E) (q12lt : t + 1 < zn E) (q13lt : t + 2 < zn E) (c0 : w0 b = .inr (4, [.ref (ad E (b + 1)), .ref (ad E (b + 2)), .ref (ad E (b + 3)), .ref (ad E (b + 4))])) (c1 : w0 (b + 1) = zar E 30 r1) (c2 : w0 (b + 2) = zar E 30 r2) (c3 : w0 (b + 3) = zar E 30 r3) (c4 : w0 (b + 4) = zar E 30 r4) (c5 : w0 q = .inr (1, [.ref (zg E (1 + kd)), .int (iI pl), .ref (ad E (q + 1))])) (c6 : w0 (q + 1) = .inr (0, [.ref (ad E (q + 2)), .int (iI ng)])) (c7 : w0 (q + 2) = zar E 15 f) (c8 : w0 r = .inr (1, [.ref (zg E (1 + ko)), .int (iI po), .ref (ad E (r + 1))])) (c9 : w0 (r + 1) = .inr (0, [.ref (ad E (r + 2)), .int (iI no)])) (c10 : w0 (r + 2) = zar E 15 g) (c11 : w0 t = .inr (1, [.ref (zg E (1 + kt)), .int (iI pt), .ref (ad E (t + 1))])) (c12 : w0 (t + 1) = .inr (0, [.ref (ad E (t + 2)), .int (iI nt)])) (c13 : w0 (t + 2) = zar E 15 h) (br1 : bd r1 30 0 9999) (br2 : bd r2 30 0 9999) (br3 : bd r3 30 0 9999) (br4 : bd r4 30 0 9999) (bf : bd f 15 0 9999) (hkd : kd < 4) (hng : ng = 0 ∨ ng = 1) (hpl : 0 ≤ pl ∧ pl ≤ 24) (vA : V f 15 < Bp 14) (bg : bd g 15 0 9999) (hko : ko < 4) (hno : no = 0 ∨ no = 1) (hpo : 0 ≤ po ∧ po ≤ 24) (vB : V g 15 < Bp 14) (bh : bd h 15 0 9999) (hkt : kt < 4) (hnt : nt = 0 ∨ nt = 1) (hqt : t + 2 < q) (hrt : t + 2 < r) (hbt : b + 4 < t) (hta : ta = 0 ∨ ta = 1) (hnn : kd ≠ 3 ∧ ko ≠ 3) : zM l y_B_addInfinite ws_B_addInfinite rm_B_addInf E [.ref (ad E b), .ref (ad E q), .ref (ad E r), .int (iI ta), .ref (ad E t)] w0 (zQi E w0 (fun z w' => (∃ (k' : Nat) (p' : Int) (n' : Int) (f' : Int → Int), w' t = .inr (1, [.ref (zg E (1 + k')), .int (iI p'), .ref (ad E (t + 1))]) ∧ w' (t + 1) = .inr (0, [.ref (ad E (t + 2)), .int (iI n')]) ∧ w' (t + 2) = zar E 15 f' ∧ bd f' 15 0 9999 ∧ (z = 0 ∧ (n' = 0 ∨ n' = 1) ∧ Nf z k' p' n' (V f' 15) ∧ infk (kdsg kd + (1 - 2 * ta) * kdsg ko) k')) ∧ ∀ k, k ≠ t → k ≠ (t + 1) → k ≠ (t + 2) → w' k = w0 k)) := by
  refine z_met (cc := b_B_addInfinite) (maxL := 8) (ret := (some .int)) (by decide +kernel) rfl (Nat.le_of_ble_eq_true rfl) ?_
  intro p e s m below meth cd ls a Qf hQ hC hl hH
  obtain ⟨hF, hr, hlk, hK, hG, hn⟩ := hC
  obtain ⟨hx, hb, hml, hown, hts⟩ := hF
  have hg : ∀ w ∈ GW, w.before a s = true := fun w h => hts w (List.mem_cons_of_mem _ h)
  have hA : ∀ q, s.heap.size ≤ q → va_A (wl E w0) s.heap.size q := fun q h => Or.inr h
  have hl : lv_has ls 8 [(0, .ref (ad E b)), (1, .ref (ad E q)), (2, .ref (ad E r)), (3, .int (iI ta)), (4, .ref (ad E t))] := hl
  have ca := kdsg_c hkd
  have cb := kdsg_c hko
  have L15 : ∀ (y : Int) (ls : Array Slot) (H1 : Heap) (lc2 : List Loc), (lv_has ls 8 [(0, .ref (ad E b)), (1, .ref (ad E q)), (2, .ref (ad E r)), (3, .int (iI ta)), (4, .ref (ad E t))]) → (zH E w0 (va_A (wl E w0) s.heap.size) s.heap H1 lc2) → (y = kdsg kd) → W p l e rm_B_addInf s m a below meth cd H1 lc2 0 0 Qf (F0 m 15 ls [.int (iI y)]) := by
    intro y ls H1 lc2 hl hH hy
    refine lv_istore (lv' := [(5, .int (iI y)), (0, .ref (ad E b)), (1, .ref (ad E q)), (2, .ref (ad E r)), (3, .int (iI ta)), (4, .ref (ad E t))]) hx hb d_B_addInfinite_15 hl (by decide) rfl (fun ls hl => ?_)
    have L32 : ∀ (y2 : Int) (ls : Array Slot) (H3 : Heap) (lc4 : List Loc), (lv_has ls 8 [(5, .int (iI y)), (0, .ref (ad E b)), (1, .ref (ad E q)), (2, .ref (ad E r)), (3, .int (iI ta)), (4, .ref (ad E t))]) → (zH E w0 (va_A (wl E w0) s.heap.size) s.heap H3 lc4) → (y2 = kdsg ko) → W p l e rm_B_addInf s m a below meth cd H3 lc4 0 0 Qf (F0 m 32 ls [.int (iI y2)]) := by
      intro y2 ls H3 lc4 hl hH hy2
      refine lv_istore (lv' := [(6, .int (iI y2)), (5, .int (iI y)), (0, .ref (ad E b)), (1, .ref (ad E q)), (2, .ref (ad E r)), (3, .int (iI ta)), (4, .ref (ad E t))]) hx hb d_B_addInfinite_32 hl (by decide) rfl (fun ls hl => ?_)
      have L51 : ∀ (sg : Int) (ls : Array Slot) (H5 : Heap) (lc6 : List Loc), (lv_has ls 8 [(6, .int (iI y2)), (5, .int (iI y)), (0, .ref (ad E b)), (1, .ref (ad E q)), (2, .ref (ad E r)), (3, .int (iI ta)), (4, .ref (ad E t))]) → (zH E w0 (va_A (wl E w0) s.heap.size) s.heap H5 lc6) → (sg = kdsg kd + (1 - 2 * ta) * kdsg ko) → (-2 ≤ sg ∧ sg ≤ 2) → W p l e rm_B_addInf s m a below meth cd H5 lc6 0 0 Qf (F0 m 51 ls [.int (iI sg)]) := by
        intro sg ls H5 lc6 hl hH hsg hsr
        refine lv_istore (lv' := [(7, .int (iI sg)), (6, .int (iI y2)), (5, .int (iI y)), (0, .ref (ad E b)), (1, .ref (ad E q)), (2, .ref (ad E r)), (3, .int (iI ta)), (4, .ref (ad E t))]) hx hb d_B_addInfinite_51 hl (by decide) rfl (fun ls hl => ?_)
        refine lv_iload hx hb d_B_addInfinite_53 (lv_at hl 0 rfl) ?_
        refine zv_if_ne (tgt := 69) hx hb d_B_addInfinite_55 rfl (by omega) (fun h7 => ?_) (fun h7 => ?_)
        · refine lv_aload hx hb d_B_addInfinite_69 (lv_at hl 7 rfl) ?_
          refine lv_iload hx hb d_B_addInfinite_71 (lv_at hl 0 rfl) ?_
          refine z_callv (va_runV (As := [.int (iI sg)]) (rest := []) ⟨hx, hb, hml, hown, hts⟩ (c_N_becomeInf (l := l) (E := E) (w0 := w0) (q := t) (kd := kt) (pl := pt) (ng := nt) (sg := sg) (f := h) (q0lt := q11lt) (q1lt := q12lt) (q2lt := q13lt) (c0 := c11) (c1 := c12) (c2 := c13) (bf := bh) (hkd := by omega) (hng := by omega) (hsg := by omega) H5.size) (z_cwV (C := "ScaledNumeralDesk$Numeral") 1 hg wm_247 wm_417 wm_2 wm_245 wm_246 (by decide +kernel) ⟨Nat.le_of_ble_eq_true rfl, Nat.le_of_ble_eq_true rfl⟩) (z_preV (r := ("ScaledNumeralDesk$Numeral", TN, 3)) hK hG hn hH hA q11lt c11 rfl) rfl rfl hl.1 rfl (lv_room (Nat.le_of_ble_eq_true rfl)) d_B_addInfinite_73 ⟨Nat.zero_le _, Nat.zero_le _⟩) hH hA (fun  w10 H8 lc9 hH11 p73 => ?_)
          obtain ⟨⟨k_12, f_13, e14, e15, e16, bd17, p73⟩, hg18⟩ := p73
          replace bd17 : bd f_13 15 0 9999 := bd17
          replace p73 : (∀ j : Int, 0 ≤ j → j < 15 → f_13 j = 0) ∧ ((sg < 0 ∧ k_12 = 0) ∨ (0 ≤ sg ∧ k_12 = 2)) := p73
          have e19 : w10 b = .inr (4, [.ref (ad E (b + 1)), .ref (ad E (b + 2)), .ref (ad E (b + 3)), .ref (ad E (b + 4))]) := (hg18 b (nx_B_addInf_0 hqt hrt hbt) (nx_B_addInf_1 hqt hrt hbt) (nx_B_addInf_2 hqt hrt hbt)).trans c0
          have e20 : w10 (b + 1) = zar E 30 r1 := (hg18 (b + 1) (nx_B_addInf_3 hqt hrt hbt) (nx_B_addInf_4 hqt hrt hbt) (nx_B_addInf_5 hqt hrt hbt)).trans c1
          have e21 : w10 (b + 2) = zar E 30 r2 := (hg18 (b + 2) (nx_B_addInf_6 hqt hrt hbt) (nx_B_addInf_7 hqt hrt hbt) (nx_B_addInf_8 hqt hrt hbt)).trans c2
          have e22 : w10 (b + 3) = zar E 30 r3 := (hg18 (b + 3) (nx_B_addInf_9 hqt hrt hbt) (nx_B_addInf_10 hqt hrt hbt) (nx_B_addInf_11 hqt hrt hbt)).trans c3
          have e23 : w10 (b + 4) = zar E 30 r4 := (hg18 (b + 4) (nx_B_addInf_12 hqt hrt hbt) (nx_B_addInf_13 hqt hrt hbt) (nx_B_addInf_14 hqt hrt hbt)).trans c4
          have e24 : w10 q = .inr (1, [.ref (zg E (1 + kd)), .int (iI pl), .ref (ad E (q + 1))]) := (hg18 q (nx_B_addInf_15 hqt hrt hbt) (nx_B_addInf_16 hqt hrt hbt) (nx_B_addInf_17 hqt hrt hbt)).trans c5
          have e25 : w10 (q + 1) = .inr (0, [.ref (ad E (q + 2)), .int (iI ng)]) := (hg18 (q + 1) (nx_B_addInf_18 hqt hrt hbt) (nx_B_addInf_19 hqt hrt hbt) (nx_B_addInf_20 hqt hrt hbt)).trans c6
          have e26 : w10 (q + 2) = zar E 15 f := (hg18 (q + 2) (nx_B_addInf_21 hqt hrt hbt) (nx_B_addInf_22 hqt hrt hbt) (nx_B_addInf_23 hqt hrt hbt)).trans c7
          have e27 : w10 r = .inr (1, [.ref (zg E (1 + ko)), .int (iI po), .ref (ad E (r + 1))]) := (hg18 r (nx_B_addInf_24 hqt hrt hbt) (nx_B_addInf_25 hqt hrt hbt) (nx_B_addInf_26 hqt hrt hbt)).trans c8
          have e28 : w10 (r + 1) = .inr (0, [.ref (ad E (r + 2)), .int (iI no)]) := (hg18 (r + 1) (nx_B_addInf_27 hqt hrt hbt) (nx_B_addInf_28 hqt hrt hbt) (nx_B_addInf_29 hqt hrt hbt)).trans c9
          have e29 : w10 (r + 2) = zar E 15 g := (hg18 (r + 2) (nx_B_addInf_30 hqt hrt hbt) (nx_B_addInf_31 hqt hrt hbt) (nx_B_addInf_32 hqt hrt hbt)).trans c10
          have hf30 : ∀ k, k ≠ t → k ≠ (t + 1) → k ≠ (t + 2) → w10 k = w0 k := fun k g0 g1 g2 => hg18 k g0 g1 g2
          refine zv_iconst hx hb d_B_addInfinite_76 ?_
          rw [hQ]
          exact z_iret hx hb hr hlk hH11 (⟨⟨k_12, 0, 0, f_13, e14, e15, e16, bd17, ⟨rfl, Or.inl rfl, (by first | exact Nf_0 (V0_of p63) | exact Nf_0 (V0_of p63.1) | exact Nf_0 (V0_of p73) | exact Nf_0 (V0_of p73.1)), by unfold infk; rw [← hsg]; omega⟩⟩, (fun k g0 g1 g2 => hf30 k g0 g1 g2)⟩) d_B_addInfinite_77
        · refine lv_aload hx hb d_B_addInfinite_58 (lv_at hl 7 rfl) ?_
          refine zv_kind hx hb hG hH hown 3 (by decide) (hg _ wm_377) (fun _ h9 => h9) d_B_addInfinite_60 ?_
          refine z_callv (va_runV (As := [.ref (zg E (1 + 3))]) (rest := []) ⟨hx, hb, hml, hown, hts⟩ (c_N_become (l := l) (E := E) (w0 := w0) (q := t) (kd := kt) (k2 := 3) (pl := pt) (ng := nt) (f := h) (q0lt := q11lt) (q1lt := q12lt) (q2lt := q13lt) (c0 := c11) (c1 := c12) (c2 := c13) (bf := bh) (hkd := by omega) (hng := by omega) H5.size) (z_cwV (C := "ScaledNumeralDesk$Numeral") 1 hg wm_230 wm_378 wm_2 wm_228 wm_229 (by decide +kernel) ⟨Nat.le_of_ble_eq_true rfl, Nat.le_of_ble_eq_true rfl⟩) (z_preV (r := ("ScaledNumeralDesk$Numeral", TN, 3)) hK hG hn hH hA q11lt c11 rfl) rfl rfl hl.1 rfl (lv_room (Nat.le_of_ble_eq_true rfl)) d_B_addInfinite_63 ⟨Nat.zero_le _, Nat.zero_le _⟩) hH hA (fun  w33 H31 lc32 hH34 p63 => ?_)
          obtain ⟨⟨f_35, e36, e37, e38, bd39, p63⟩, hg40⟩ := p63
          replace bd39 : bd f_35 15 0 9999 := bd39
          replace p63 : ∀ j : Int, 0 ≤ j → j < 15 → f_35 j = 0 := p63
          have e41 : w33 b = .inr (4, [.ref (ad E (b + 1)), .ref (ad E (b + 2)), .ref (ad E (b + 3)), .ref (ad E (b + 4))]) := (hg40 b (nx_B_addInf_0 hqt hrt hbt) (nx_B_addInf_1 hqt hrt hbt) (nx_B_addInf_2 hqt hrt hbt)).trans c0
          have e42 : w33 (b + 1) = zar E 30 r1 := (hg40 (b + 1) (nx_B_addInf_3 hqt hrt hbt) (nx_B_addInf_4 hqt hrt hbt) (nx_B_addInf_5 hqt hrt hbt)).trans c1
          have e43 : w33 (b + 2) = zar E 30 r2 := (hg40 (b + 2) (nx_B_addInf_6 hqt hrt hbt) (nx_B_addInf_7 hqt hrt hbt) (nx_B_addInf_8 hqt hrt hbt)).trans c2
          have e44 : w33 (b + 3) = zar E 30 r3 := (hg40 (b + 3) (nx_B_addInf_9 hqt hrt hbt) (nx_B_addInf_10 hqt hrt hbt) (nx_B_addInf_11 hqt hrt hbt)).trans c3
          have e45 : w33 (b + 4) = zar E 30 r4 := (hg40 (b + 4) (nx_B_addInf_12 hqt hrt hbt) (nx_B_addInf_13 hqt hrt hbt) (nx_B_addInf_14 hqt hrt hbt)).trans c4
          have e46 : w33 q = .inr (1, [.ref (zg E (1 + kd)), .int (iI pl), .ref (ad E (q + 1))]) := (hg40 q (nx_B_addInf_15 hqt hrt hbt) (nx_B_addInf_16 hqt hrt hbt) (nx_B_addInf_17 hqt hrt hbt)).trans c5
          have e47 : w33 (q + 1) = .inr (0, [.ref (ad E (q + 2)), .int (iI ng)]) := (hg40 (q + 1) (nx_B_addInf_18 hqt hrt hbt) (nx_B_addInf_19 hqt hrt hbt) (nx_B_addInf_20 hqt hrt hbt)).trans c6
          have e48 : w33 (q + 2) = zar E 15 f := (hg40 (q + 2) (nx_B_addInf_21 hqt hrt hbt) (nx_B_addInf_22 hqt hrt hbt) (nx_B_addInf_23 hqt hrt hbt)).trans c7
          have e49 : w33 r = .inr (1, [.ref (zg E (1 + ko)), .int (iI po), .ref (ad E (r + 1))]) := (hg40 r (nx_B_addInf_24 hqt hrt hbt) (nx_B_addInf_25 hqt hrt hbt) (nx_B_addInf_26 hqt hrt hbt)).trans c8
          have e50 : w33 (r + 1) = .inr (0, [.ref (ad E (r + 2)), .int (iI no)]) := (hg40 (r + 1) (nx_B_addInf_27 hqt hrt hbt) (nx_B_addInf_28 hqt hrt hbt) (nx_B_addInf_29 hqt hrt hbt)).trans c9
          have e51 : w33 (r + 2) = zar E 15 g := (hg40 (r + 2) (nx_B_addInf_30 hqt hrt hbt) (nx_B_addInf_31 hqt hrt hbt) (nx_B_addInf_32 hqt hrt hbt)).trans c10
          have hf52 : ∀ k, k ≠ t → k ≠ (t + 1) → k ≠ (t + 2) → w33 k = w0 k := fun k g0 g1 g2 => hg40 k g0 g1 g2
          refine lv_goto (tgt := 76) hx hb d_B_addInfinite_66 rfl ?_
          refine zv_iconst hx hb d_B_addInfinite_76 ?_
          rw [hQ]
          exact z_iret hx hb hr hlk hH34 (⟨⟨3, 0, 0, f_35, e36, e37, e38, bd39, ⟨rfl, Or.inl rfl, (by first | exact Nf_0 (V0_of p63) | exact Nf_0 (V0_of p63.1) | exact Nf_0 (V0_of p73) | exact Nf_0 (V0_of p73.1)), by unfold infk; rw [← hsg]; omega⟩⟩, (fun k g0 g1 g2 => hf52 k g0 g1 g2)⟩) d_B_addInfinite_77
      refine lv_iload_n hx hb d_B_addInfinite_34 rfl (lv_at hl 5 rfl) ?_
      refine zv_if_eq (tgt := 46) hx hb d_B_addInfinite_35 rfl (by omega) (fun h53 => ?_) (fun h53 => ?_)
      · refine lv_iload hx hb d_B_addInfinite_46 (lv_at hl 1 rfl) ?_
        refine lv_iload hx hb d_B_addInfinite_48 (lv_at hl 0 rfl) ?_
        refine zv_iadd hx hb d_B_addInfinite_50 ?_
        exact L51 (y + y2) _ H3 lc4 (lv_sub hl [0, 1, 2, 3, 4, 5, 6] rfl) hH (by rcases hta with rfl | rfl <;> omega) (by omega)
      · refine lv_iload hx hb d_B_addInfinite_38 (lv_at hl 1 rfl) ?_
        refine lv_iload hx hb d_B_addInfinite_40 (lv_at hl 0 rfl) ?_
        refine zv_isub hx hb d_B_addInfinite_42 ?_
        refine lv_goto (tgt := 51) hx hb d_B_addInfinite_43 rfl ?_
        exact L51 (y - y2) _ H3 lc4 (lv_sub hl [0, 1, 2, 3, 4, 5, 6] rfl) hH (by rcases hta with rfl | rfl <;> omega) (by omega)
    refine lv_aload_n hx hb d_B_addInfinite_17 rfl (lv_at hl 3 rfl) ?_
    refine z_calli (va_runV (As := []) (rest := []) ⟨hx, hb, hml, hown, hts⟩ (c_N_isFinite (l := l) (E := E) (w0 := w0) (q := r) (kd := ko) (pl := po) (ng := no) (f := g) (q0lt := q8lt) (q1lt := q9lt) (q2lt := q10lt) (c0 := c8) (c1 := c9) (c2 := c10) (bf := bg) (hkd := by omega) (hng := by omega) H1.size) (z_cwV (C := "ScaledNumeralDesk$Numeral") 0 hg wm_344 wm_379 wm_2 wm_342 wm_343 (by decide +kernel) ⟨Nat.le_of_ble_eq_true rfl, Nat.le_of_ble_eq_true rfl⟩) (z_preV (r := ("ScaledNumeralDesk$Numeral", TN, 3)) hK hG hn hH hA q8lt c8 rfl) rfl rfl hl.1 rfl (lv_room (Nat.le_of_ble_eq_true rfl)) d_B_addInfinite_18 ⟨Nat.zero_le _, Nat.zero_le _⟩) hH hA (fun z59 w56 H54 lc55 hH57 hp58 => ?_)
    obtain ⟨ew60, hp58⟩ := hp58
    rw [ew60] at hH57
    replace hp58 : (z59 = 1 ∧ ko = 1) ∨ (z59 = 0 ∧ ko ≠ 1) := hp58
    refine zv_if_eq (tgt := 28) hx hb d_B_addInfinite_21 rfl (by omega) (fun h61 => ?_) (fun h61 => ?_)
    · refine lv_aload_n hx hb d_B_addInfinite_28 rfl (lv_at hl 3 rfl) ?_
      refine z_calli (va_runV (As := []) (rest := []) ⟨hx, hb, hml, hown, hts⟩ (c_N_sign (l := l) (E := E) (w0 := w0) (q := r) (kd := ko) (pl := po) (ng := no) (f := g) (q0lt := q8lt) (q1lt := q9lt) (q2lt := q10lt) (c0 := c8) (c1 := c9) (c2 := c10) (bf := bg) (hkd := by omega) (hng := by omega) H54.size) (z_cwV (C := "ScaledNumeralDesk$Numeral") 0 hg wm_412 wm_409 wm_2 wm_410 wm_411 (by decide +kernel) ⟨Nat.le_of_ble_eq_true rfl, Nat.le_of_ble_eq_true rfl⟩) (z_preV (r := ("ScaledNumeralDesk$Numeral", TN, 3)) hK hG hn hH57 hA q8lt c8 rfl) rfl rfl hl.1 rfl (lv_room (Nat.le_of_ble_eq_true rfl)) d_B_addInfinite_29 ⟨Nat.zero_le _, Nat.zero_le _⟩) hH57 hA (fun z67 w64 H62 lc63 hH65 hp66 => ?_)
      obtain ⟨ew68, hp66⟩ := hp66
      rw [ew68] at hH65
      replace hp66 : (ko = 1 ∧ ((z67 = 0 ∧ V g 15 = 0) ∨ (z67 = -1 ∧ 0 < V g 15 ∧ no = 1) ∨ (z67 = 1 ∧ 0 < V g 15 ∧ no = 0))) ∨ (ko = 0 ∧ z67 = -1) ∨ ((ko = 2 ∨ ko = 3) ∧ z67 = 1) := hp66
      exact L32 z67 _ H62 lc63 (lv_sub hl [0, 1, 2, 3, 4, 5] rfl) hH65 (by omega)
    · refine zv_iconst hx hb d_B_addInfinite_24 ?_
      refine lv_goto (tgt := 32) hx hb d_B_addInfinite_25 rfl ?_
      exact L32 0 _ H54 lc55 (lv_sub hl [0, 1, 2, 3, 4, 5] rfl) hH57 (by omega)
  refine lv_aload_n hx hb d_B_addInfinite_0 rfl (lv_at hl 1 rfl) ?_
  refine z_calli (va_runV (As := []) (rest := []) ⟨hx, hb, hml, hown, hts⟩ (c_N_isFinite (l := l) (E := E) (w0 := w0) (q := q) (kd := kd) (pl := pl) (ng := ng) (f := f) (q0lt := q5lt) (q1lt := q6lt) (q2lt := q7lt) (c0 := c5) (c1 := c6) (c2 := c7) (bf := bf) (hkd := by omega) (hng := by omega) s.heap.size) (z_cwV (C := "ScaledNumeralDesk$Numeral") 0 hg wm_344 wm_379 wm_2 wm_342 wm_343 (by decide +kernel) ⟨Nat.le_of_ble_eq_true rfl, Nat.le_of_ble_eq_true rfl⟩) (z_preV (r := ("ScaledNumeralDesk$Numeral", TN, 3)) hK hG hn hH hA q5lt c5 rfl) rfl rfl hl.1 rfl (lv_room (Nat.le_of_ble_eq_true rfl)) d_B_addInfinite_1 ⟨Nat.zero_le _, Nat.zero_le _⟩) hH hA (fun z74 w71 H69 lc70 hH72 hp73 => ?_)
  obtain ⟨ew75, hp73⟩ := hp73
  rw [ew75] at hH72
  replace hp73 : (z74 = 1 ∧ kd = 1) ∨ (z74 = 0 ∧ kd ≠ 1) := hp73
  refine zv_if_eq (tgt := 11) hx hb d_B_addInfinite_4 rfl (by omega) (fun h76 => ?_) (fun h76 => ?_)
  · refine lv_aload_n hx hb d_B_addInfinite_11 rfl (lv_at hl 1 rfl) ?_
    refine z_calli (va_runV (As := []) (rest := []) ⟨hx, hb, hml, hown, hts⟩ (c_N_sign (l := l) (E := E) (w0 := w0) (q := q) (kd := kd) (pl := pl) (ng := ng) (f := f) (q0lt := q5lt) (q1lt := q6lt) (q2lt := q7lt) (c0 := c5) (c1 := c6) (c2 := c7) (bf := bf) (hkd := by omega) (hng := by omega) H69.size) (z_cwV (C := "ScaledNumeralDesk$Numeral") 0 hg wm_412 wm_409 wm_2 wm_410 wm_411 (by decide +kernel) ⟨Nat.le_of_ble_eq_true rfl, Nat.le_of_ble_eq_true rfl⟩) (z_preV (r := ("ScaledNumeralDesk$Numeral", TN, 3)) hK hG hn hH72 hA q5lt c5 rfl) rfl rfl hl.1 rfl (lv_room (Nat.le_of_ble_eq_true rfl)) d_B_addInfinite_12 ⟨Nat.zero_le _, Nat.zero_le _⟩) hH72 hA (fun z82 w79 H77 lc78 hH80 hp81 => ?_)
    obtain ⟨ew83, hp81⟩ := hp81
    rw [ew83] at hH80
    replace hp81 : (kd = 1 ∧ ((z82 = 0 ∧ V f 15 = 0) ∨ (z82 = -1 ∧ 0 < V f 15 ∧ ng = 1) ∨ (z82 = 1 ∧ 0 < V f 15 ∧ ng = 0))) ∨ (kd = 0 ∧ z82 = -1) ∨ ((kd = 2 ∨ kd = 3) ∧ z82 = 1) := hp81
    exact L15 z82 _ H77 lc78 (lv_sub hl [0, 1, 2, 3, 4] rfl) hH80 (by omega)
  · refine zv_iconst hx hb d_B_addInfinite_7 ?_
    refine lv_goto (tgt := 15) hx hb d_B_addInfinite_8 rfl ?_
    exact L15 0 _ H69 lc70 (lv_sub hl [0, 1, 2, 3, 4] rfl) hH72 (by omega)
theorem nx_B_multiply_0 {b q r t : Nat} (hqt : t + 2 < q) (hrt : t + 2 < r) (hbt : b + 4 < t) : b ≠ b + 2 := by omega
theorem nx_B_multiply_1 {b q r t : Nat} (hqt : t + 2 < q) (hrt : t + 2 < r) (hbt : b + 4 < t) : b + 1 ≠ b + 2 := by omega
theorem nx_B_multiply_2 {b q r t : Nat} (hqt : t + 2 < q) (hrt : t + 2 < r) (hbt : b + 4 < t) : b + 3 ≠ b + 2 := by omega
theorem nx_B_multiply_3 {b q r t : Nat} (hqt : t + 2 < q) (hrt : t + 2 < r) (hbt : b + 4 < t) : b + 4 ≠ b + 2 := by omega
theorem nx_B_multiply_4 {b q r t : Nat} (hqt : t + 2 < q) (hrt : t + 2 < r) (hbt : b + 4 < t) : q ≠ b + 2 := by omega
theorem nx_B_multiply_5 {b q r t : Nat} (hqt : t + 2 < q) (hrt : t + 2 < r) (hbt : b + 4 < t) : q + 1 ≠ b + 2 := by omega
theorem nx_B_multiply_6 {b q r t : Nat} (hqt : t + 2 < q) (hrt : t + 2 < r) (hbt : b + 4 < t) : q + 2 ≠ b + 2 := by omega
theorem nx_B_multiply_7 {b q r t : Nat} (hqt : t + 2 < q) (hrt : t + 2 < r) (hbt : b + 4 < t) : r ≠ b + 2 := by omega
theorem nx_B_multiply_8 {b q r t : Nat} (hqt : t + 2 < q) (hrt : t + 2 < r) (hbt : b + 4 < t) : r + 1 ≠ b + 2 := by omega
theorem nx_B_multiply_9 {b q r t : Nat} (hqt : t + 2 < q) (hrt : t + 2 < r) (hbt : b + 4 < t) : r + 2 ≠ b + 2 := by omega
theorem nx_B_multiply_10 {b q r t : Nat} (hqt : t + 2 < q) (hrt : t + 2 < r) (hbt : b + 4 < t) : t ≠ b + 2 := by omega
theorem nx_B_multiply_11 {b q r t : Nat} (hqt : t + 2 < q) (hrt : t + 2 < r) (hbt : b + 4 < t) : t + 1 ≠ b + 2 := by omega
theorem nx_B_multiply_12 {b q r t : Nat} (hqt : t + 2 < q) (hrt : t + 2 < r) (hbt : b + 4 < t) : t + 2 ≠ b + 2 := by omega
theorem nx_B_multiply_13 {b q r t : Nat} (hqt : t + 2 < q) (hrt : t + 2 < r) (hbt : b + 4 < t) : b ≠ t := by omega
theorem nx_B_multiply_14 {b q r t : Nat} (hqt : t + 2 < q) (hrt : t + 2 < r) (hbt : b + 4 < t) : b ≠ t + 1 := by omega
theorem nx_B_multiply_15 {b q r t : Nat} (hqt : t + 2 < q) (hrt : t + 2 < r) (hbt : b + 4 < t) : b ≠ t + 2 := by omega
theorem nx_B_multiply_16 {b q r t : Nat} (hqt : t + 2 < q) (hrt : t + 2 < r) (hbt : b + 4 < t) : b + 1 ≠ t := by omega
theorem nx_B_multiply_17 {b q r t : Nat} (hqt : t + 2 < q) (hrt : t + 2 < r) (hbt : b + 4 < t) : b + 1 ≠ t + 1 := by omega
theorem nx_B_multiply_18 {b q r t : Nat} (hqt : t + 2 < q) (hrt : t + 2 < r) (hbt : b + 4 < t) : b + 1 ≠ t + 2 := by omega
theorem nx_B_multiply_19 {b q r t : Nat} (hqt : t + 2 < q) (hrt : t + 2 < r) (hbt : b + 4 < t) : b + 3 ≠ t := by omega
theorem nx_B_multiply_20 {b q r t : Nat} (hqt : t + 2 < q) (hrt : t + 2 < r) (hbt : b + 4 < t) : b + 3 ≠ t + 1 := by omega
theorem nx_B_multiply_21 {b q r t : Nat} (hqt : t + 2 < q) (hrt : t + 2 < r) (hbt : b + 4 < t) : b + 3 ≠ t + 2 := by omega
theorem nx_B_multiply_22 {b q r t : Nat} (hqt : t + 2 < q) (hrt : t + 2 < r) (hbt : b + 4 < t) : b + 4 ≠ t := by omega
theorem nx_B_multiply_23 {b q r t : Nat} (hqt : t + 2 < q) (hrt : t + 2 < r) (hbt : b + 4 < t) : b + 4 ≠ t + 1 := by omega
theorem nx_B_multiply_24 {b q r t : Nat} (hqt : t + 2 < q) (hrt : t + 2 < r) (hbt : b + 4 < t) : b + 4 ≠ t + 2 := by omega
theorem nx_B_multiply_25 {b q r t : Nat} (hqt : t + 2 < q) (hrt : t + 2 < r) (hbt : b + 4 < t) : q ≠ t := by omega
theorem nx_B_multiply_26 {b q r t : Nat} (hqt : t + 2 < q) (hrt : t + 2 < r) (hbt : b + 4 < t) : q ≠ t + 1 := by omega
theorem nx_B_multiply_27 {b q r t : Nat} (hqt : t + 2 < q) (hrt : t + 2 < r) (hbt : b + 4 < t) : q ≠ t + 2 := by omega
theorem nx_B_multiply_28 {b q r t : Nat} (hqt : t + 2 < q) (hrt : t + 2 < r) (hbt : b + 4 < t) : q + 1 ≠ t := by omega
theorem nx_B_multiply_29 {b q r t : Nat} (hqt : t + 2 < q) (hrt : t + 2 < r) (hbt : b + 4 < t) : q + 1 ≠ t + 1 := by omega
theorem nx_B_multiply_30 {b q r t : Nat} (hqt : t + 2 < q) (hrt : t + 2 < r) (hbt : b + 4 < t) : q + 1 ≠ t + 2 := by omega
theorem nx_B_multiply_31 {b q r t : Nat} (hqt : t + 2 < q) (hrt : t + 2 < r) (hbt : b + 4 < t) : q + 2 ≠ t := by omega
theorem nx_B_multiply_32 {b q r t : Nat} (hqt : t + 2 < q) (hrt : t + 2 < r) (hbt : b + 4 < t) : q + 2 ≠ t + 1 := by omega
theorem nx_B_multiply_33 {b q r t : Nat} (hqt : t + 2 < q) (hrt : t + 2 < r) (hbt : b + 4 < t) : q + 2 ≠ t + 2 := by omega
theorem nx_B_multiply_34 {b q r t : Nat} (hqt : t + 2 < q) (hrt : t + 2 < r) (hbt : b + 4 < t) : r ≠ t := by omega
theorem nx_B_multiply_35 {b q r t : Nat} (hqt : t + 2 < q) (hrt : t + 2 < r) (hbt : b + 4 < t) : r ≠ t + 1 := by omega
theorem nx_B_multiply_36 {b q r t : Nat} (hqt : t + 2 < q) (hrt : t + 2 < r) (hbt : b + 4 < t) : r ≠ t + 2 := by omega
theorem nx_B_multiply_37 {b q r t : Nat} (hqt : t + 2 < q) (hrt : t + 2 < r) (hbt : b + 4 < t) : r + 1 ≠ t := by omega
theorem nx_B_multiply_38 {b q r t : Nat} (hqt : t + 2 < q) (hrt : t + 2 < r) (hbt : b + 4 < t) : r + 1 ≠ t + 1 := by omega
theorem nx_B_multiply_39 {b q r t : Nat} (hqt : t + 2 < q) (hrt : t + 2 < r) (hbt : b + 4 < t) : r + 1 ≠ t + 2 := by omega
theorem nx_B_multiply_40 {b q r t : Nat} (hqt : t + 2 < q) (hrt : t + 2 < r) (hbt : b + 4 < t) : r + 2 ≠ t := by omega
theorem nx_B_multiply_41 {b q r t : Nat} (hqt : t + 2 < q) (hrt : t + 2 < r) (hbt : b + 4 < t) : r + 2 ≠ t + 1 := by omega
theorem nx_B_multiply_42 {b q r t : Nat} (hqt : t + 2 < q) (hrt : t + 2 < r) (hbt : b + 4 < t) : r + 2 ≠ t + 2 := by omega
def rm_B_multiply : Room := { frames := 4, cells := 0, slots := 0, locals := 91 }
set_option maxHeartbeats 4000000 in
set_option maxRecDepth 100000 in
theorem c_B_multiply (l : Launch) (E : zE) (w0 : zW) (b : Nat) (r1 r2 r3 r4 : Int → Int) (q : Nat) (kd : Nat) (pl ng : Int) (f : Int → Int) (r : Nat) (ko : Nat) (po no : Int) (g : Int → Int) (t : Nat) (kt : Nat) (pt nt : Int) (h : Int → Int) (q0lt : b < zn E) (q1lt : b + 1 < zn E) (q2lt : b + 2 < zn E) (q3lt : b + 3 < zn E) (q4lt : b + 4 < zn E) (q5lt : q < zn E) (q6lt : q + 1 < zn E) (q7lt : q + 2 < zn E) (q8lt : r < zn E) (q9lt : r + 1 < zn E) (q10lt : r + 2 < zn E) (q11lt : t < zn E) (q12lt : t + 1 < zn E) (q13lt : t + 2 < zn E) (c0 : w0 b = .inr (4, [.ref (ad E (b + 1)), .ref (ad E (b + 2)), .ref (ad E (b + 3)), .ref (ad E (b + 4))])) (c1 : w0 (b + 1) = zar E 30 r1) (c2 : w0 (b + 2) = zar E 30 r2) (c3 : w0 (b + 3) = zar E 30 r3) (c4 : w0 (b + 4) = zar E 30 r4) (c5 : w0 q = .inr (1, [.ref (zg E (1 + kd)), .int (iI pl), .ref (ad E (q + 1))])) (c6 : w0 (q + 1) = .inr (0, [.ref (ad E (q + 2)), .int (iI ng)])) (c7 : w0 (q + 2) = zar E 15 f) (c8 : w0 r = .inr (1, [.ref (zg E (1 + ko)), .int (iI po), .ref (ad E (r + 1))])) (c9 : w0 (r + 1) = .inr (0, [.ref (ad E (r + 2)), .int (iI no)])) (c10 : w0 (r + 2) = zar E 15 g) (c11 : w0 t = .inr (1, [.ref (zg E (1 + kt)), .int (iI pt), .ref (ad E (t + 1))])) (c12 : w0 (t + 1) = .inr (0, [.ref (ad E (t + 2)), .int (iI nt)])) (c13 : w0 (t + 2) = zar E 15 h) (br1 : bd r1 30 0 9999) (br2 : bd r2 30 0 9999) (br3 : bd r3 30 0 9999) (br4 : bd r4 30 0 9999) (bf : bd f 15 0 9999) (hkd : kd < 4) (hng : ng = 0 ∨ ng = 1) (hpl : 0 ≤ pl ∧ pl ≤ 24) (vA : V f 15 < Bp 14) (bg : bd g 15 0 9999) (hko : ko < 4) (hno : no = 0 ∨ no = 1) (hpo : 0 ≤ po ∧ po ≤ 24) (vB : V g 15 < Bp 14) (bh : bd h 15 0 9999) (hkt : kt < 4) (hnt : nt = 0 ∨ nt = 1) (hqt : t + 2 < q) (hrt : t + 2 < r) (hbt : b + 4 < t) : zM l y_B_multiply ws_B_multiply rm_B_multiply E [.ref (ad E b), .ref (ad E q), .ref (ad E r), .ref (ad E t)] w0 (zQi E w0 (fun z w' => (∃ (r2' : Int → Int) (k' : Nat) (p' : Int) (n' : Int) (f' : Int → Int), w' (b + 2) = zar E 30 r2' ∧ w' t = .inr (1, [.ref (zg E (1 + k')), .int (iI p'), .ref (ad E (t + 1))]) ∧ w' (t + 1) = .inr (0, [.ref (ad E (t + 2)), .int (iI n')]) ∧ w' (t + 2) = zar E 15 f' ∧ bd r2' 30 0 9999 ∧ bd f' 15 0 9999 ∧ (k' < 4 ∧ (n' = 0 ∨ n' = 1) ∧ St z k' p' n' (V f' 15) (Rn (V f 15 * V g 15) (12 * 4 - min (pl + po) 24)) 12 (min (pl + po) 24) (dif ng no))) ∧ ∀ k, k ≠ (b + 2) → k ≠ t → k ≠ (t + 1) → k ≠ (t + 2) → w' k = w0 k)) := by
  refine z_met (cc := b_B_multiply) (maxL := 5) (ret := (some .int)) (by decide +kernel) rfl (Nat.le_of_ble_eq_true rfl) ?_
  intro p e s m below meth cd ls a Qf hQ hC hl hH
  obtain ⟨hF, hr, hlk, hK, hG, hn⟩ := hC
  obtain ⟨hx, hb, hml, hown, hts⟩ := hF
  have hg : ∀ w ∈ GW, w.before a s = true := fun w h => hts w (List.mem_cons_of_mem _ h)
  have hA : ∀ q, s.heap.size ≤ q → va_A (wl E w0) s.heap.size q := fun q h => Or.inr h
  have hl : lv_has ls 5 [(0, .ref (ad E b)), (1, .ref (ad E q)), (2, .ref (ad E r)), (3, .ref (ad E t))] := hl
  have vf := V_in bf (show (0 : Int) ≤ 15 by decide) (Int.le_refl 15)
  have vg := V_in bg (show (0 : Int) ≤ 15 by decide) (Int.le_refl 15)
  refine lv_aload_n hx hb d_B_multiply_0 rfl (lv_at hl 0 rfl) ?_
  refine zv_get (C := "ScaledNumeralDesk$Bench") (T := TB) (N := 4) hx hb hg uB_in hown hK hH q0lt c0 rfl 1 (by decide) (hg _ wm_116) (fun _ h9 => h9) rfl d_B_multiply_1 ?_
  refine lv_aload_n hx hb d_B_multiply_4 rfl (lv_at hl 1 rfl) ?_
  refine zv_get (C := "ScaledNumeralDesk$Numeral") (T := TN) (N := 3) hx hb hg uN_in hown hK hH q5lt c5 rfl 2 (by decide) (hg _ wm_65) (fun _ h9 => h9) rfl d_B_multiply_5 ?_
  refine zv_get (C := "ScaledNumeralDesk$Amount") (T := TA) (N := 2) hx hb hg uA_in hown hK hH q6lt c6 rfl 0 (by decide) (hg _ wm_44) (fun _ h9 => h9) rfl d_B_multiply_8 ?_
  refine lv_aload_n hx hb d_B_multiply_11 rfl (lv_at hl 2 rfl) ?_
  refine zv_get (C := "ScaledNumeralDesk$Numeral") (T := TN) (N := 3) hx hb hg uN_in hown hK hH q8lt c8 rfl 2 (by decide) (hg _ wm_65) (fun _ h9 => h9) rfl d_B_multiply_12 ?_
  refine zv_get (C := "ScaledNumeralDesk$Amount") (T := TA) (N := 2) hx hb hg uA_in hown hK hH q9lt c9 rfl 0 (by decide) (hg _ wm_44) (fun _ h9 => h9) rfl d_B_multiply_15 ?_
  refine z_callv (va_runS (As := [.ref (ad E (b + 2)), .ref (ad E (q + 2)), .ref (ad E (r + 2))]) (rest := []) ⟨hx, hb, hml, hown, hts⟩ (c_multiply (l := l) (E := E) (w0 := w0) (q := b + 2) (r := q + 2) (t := r + 2) (N := 30) (M := 15) (K := 15) (f := r2) (g := f) (h := g) (q0lt := q2lt) (q1lt := q7lt) (q2lt := q10lt) (c0 := c2) (c1 := c7) (c2 := c10) (hN := by omega) (hM := by omega) (bg := bf) (bh := bg) (hqr := by omega) s.heap.size) (z_cwS 3 hg wm_424 wm_422 wm_16 wm_423 (by decide +kernel) ⟨Nat.le_of_ble_eq_true rfl, Nat.le_of_ble_eq_true rfl⟩) (z_preS hK hG hn hH hA) rfl rfl hl.1 rfl (lv_room (Nat.le_of_ble_eq_true rfl)) d_B_multiply_18 ⟨Nat.zero_le _, Nat.zero_le _⟩) hH hA (fun  w3 H1 lc2 hH4 p18 => ?_)
  obtain ⟨⟨f_5, e6, bd7, p18⟩, hg8⟩ := p18
  replace bd7 : bd f_5 30 0 9999 := bd7
  replace p18 : V f_5 30 = V f 15 * V g 15 := p18
  have e9 : w3 b = .inr (4, [.ref (ad E (b + 1)), .ref (ad E (b + 2)), .ref (ad E (b + 3)), .ref (ad E (b + 4))]) := (hg8 b (nx_B_multiply_0 hqt hrt hbt)).trans c0
  have e10 : w3 (b + 1) = zar E 30 r1 := (hg8 (b + 1) (nx_B_multiply_1 hqt hrt hbt)).trans c1
  have e11 : w3 (b + 3) = zar E 30 r3 := (hg8 (b + 3) (nx_B_multiply_2 hqt hrt hbt)).trans c3
  have e12 : w3 (b + 4) = zar E 30 r4 := (hg8 (b + 4) (nx_B_multiply_3 hqt hrt hbt)).trans c4
  have e13 : w3 q = .inr (1, [.ref (zg E (1 + kd)), .int (iI pl), .ref (ad E (q + 1))]) := (hg8 q (nx_B_multiply_4 hqt hrt hbt)).trans c5
  have e14 : w3 (q + 1) = .inr (0, [.ref (ad E (q + 2)), .int (iI ng)]) := (hg8 (q + 1) (nx_B_multiply_5 hqt hrt hbt)).trans c6
  have e15 : w3 (q + 2) = zar E 15 f := (hg8 (q + 2) (nx_B_multiply_6 hqt hrt hbt)).trans c7
  have e16 : w3 r = .inr (1, [.ref (zg E (1 + ko)), .int (iI po), .ref (ad E (r + 1))]) := (hg8 r (nx_B_multiply_7 hqt hrt hbt)).trans c8
  have e17 : w3 (r + 1) = .inr (0, [.ref (ad E (r + 2)), .int (iI no)]) := (hg8 (r + 1) (nx_B_multiply_8 hqt hrt hbt)).trans c9
  have e18 : w3 (r + 2) = zar E 15 g := (hg8 (r + 2) (nx_B_multiply_9 hqt hrt hbt)).trans c10
  have e19 : w3 t = .inr (1, [.ref (zg E (1 + kt)), .int (iI pt), .ref (ad E (t + 1))]) := (hg8 t (nx_B_multiply_10 hqt hrt hbt)).trans c11
  have e20 : w3 (t + 1) = .inr (0, [.ref (ad E (t + 2)), .int (iI nt)]) := (hg8 (t + 1) (nx_B_multiply_11 hqt hrt hbt)).trans c12
  have e21 : w3 (t + 2) = zar E 15 h := (hg8 (t + 2) (nx_B_multiply_12 hqt hrt hbt)).trans c13
  have hf22 : ∀ k, k ≠ (b + 2) → w3 k = w0 k := fun k g0 => hg8 k g0
  have m9 := mul_lt15 vf.1 vA vg.1 vg.2
  refine lv_aload_n hx hb d_B_multiply_21 rfl (lv_at hl 1 rfl) ?_
  refine zv_get (C := "ScaledNumeralDesk$Numeral") (T := TN) (N := 3) hx hb hg uN_in hown hK hH4 q5lt e13 rfl 1 (by decide) (hg _ wm_60) (fun _ h9 => h9) rfl d_B_multiply_22 ?_
  refine lv_aload_n hx hb d_B_multiply_25 rfl (lv_at hl 2 rfl) ?_
  refine zv_get (C := "ScaledNumeralDesk$Numeral") (T := TN) (N := 3) hx hb hg uN_in hown hK hH4 q8lt e16 rfl 1 (by decide) (hg _ wm_60) (fun _ h9 => h9) rfl d_B_multiply_26 ?_
  refine zv_iadd hx hb d_B_multiply_29 ?_
  refine zv_bipush hx hb d_B_multiply_30 rfl ?_
  refine z_calli (va_runS (As := [.int (iI (pl + po)), .int (iI 24)]) (rest := []) ⟨hx, hb, hml, hown, hts⟩ (c_min (l := l) (E := E) (w0 := w3) (x := pl + po) (y := 24) (zx := by omega) (zy := by omega) H1.size) (z_cwS 2 hg wm_279 wm_429 wm_15 wm_278 (by decide +kernel) ⟨Nat.le_of_ble_eq_true rfl, Nat.le_of_ble_eq_true rfl⟩) (z_preS hK hG hn hH4 hA) rfl rfl hl.1 rfl (lv_room (Nat.le_of_ble_eq_true rfl)) d_B_multiply_32 ⟨Nat.zero_le _, Nat.zero_le _⟩) hH4 hA (fun pm w25 H23 lc24 hH26 p32 => ?_)
  obtain ⟨ew27, p32⟩ := p32
  rw [ew27] at hH26
  replace p32 : pm = min (pl + po) (24 : Int) := p32
  refine lv_istore (lv' := [(4, .int (iI pm)), (0, .ref (ad E b)), (1, .ref (ad E q)), (2, .ref (ad E r)), (3, .ref (ad E t))]) hx hb d_B_multiply_35 hl (by decide) rfl (fun ls hl => ?_)
  refine lv_aload_n hx hb d_B_multiply_37 rfl (lv_at hl 1 rfl) ?_
  refine zv_get (C := "ScaledNumeralDesk$Bench") (T := TB) (N := 4) hx hb hg uB_in hown hK hH26 q0lt e9 rfl 1 (by decide) (hg _ wm_116) (fun _ h9 => h9) rfl d_B_multiply_38 ?_
  refine zv_bipush hx hb d_B_multiply_41 rfl ?_
  have L67 : ∀ (y : Int) (ls : Array Slot) (H28 : Heap) (lc29 : List Loc), (lv_has ls 5 [(4, .int (iI pm)), (0, .ref (ad E b)), (1, .ref (ad E q)), (2, .ref (ad E r)), (3, .ref (ad E t))]) → (zH E w3 (va_A (wl E w0) s.heap.size) s.heap H28 lc29) → (y = dif ng no) → (y = 0 ∨ y = 1) → W p l e rm_B_multiply s m a below meth cd H28 lc29 0 0 Qf (F0 m 67 ls [.int (iI y), .int (iI pm), .int (iI 12), .ref (ad E (b + 2))]) := by
    intro y ls H28 lc29 hl hH hy hy1
    refine lv_aload_n hx hb d_B_multiply_67 rfl (lv_at hl 4 rfl) ?_
    refine z_calli (va_runS (As := [.ref (ad E (b + 2)), .int (iI 12), .int (iI pm), .int (iI y), .ref (ad E t)]) (rest := []) ⟨hx, hb, hml, hown, hts⟩ (c_B_settle (l := l) (E := E) (w0 := w3) (y := b + 2) (u := f_5) (x := 12) (ps := pm) (mn := y) (t := t) (kt := kt) (pt := pt) (nt := nt) (h := h) (q0lt := q2lt) (q1lt := q11lt) (q2lt := q12lt) (q3lt := q13lt) (c0 := e6) (c1 := e19) (c2 := e20) (c3 := e21) (bu := bd7) (bh := bh) (hkt := by omega) (hnt := by omega) (hyt := by omega) (hx0 := by omega) (hps := by omega) (hmn := by omega) (hu := (by rw [p18]; exact m9.2)) H28.size) (z_cwS 5 hg wm_432 wm_430 wm_8 wm_431 (by decide +kernel) ⟨Nat.le_of_ble_eq_true rfl, Nat.le_of_ble_eq_true rfl⟩) (z_preS hK hG hn hH hA) rfl rfl hl.1 rfl (lv_room (Nat.le_of_ble_eq_true rfl)) d_B_multiply_68 ⟨Nat.zero_le _, Nat.zero_le _⟩) hH hA (fun z34 w32 H30 lc31 hH33 p68 => ?_)
    obtain ⟨⟨u_35, k_36, p_37, n_38, f_39, e40, e41, e42, e43, bd44, bd45, p68⟩, hg46⟩ := p68
    replace bd44 : bd u_35 30 0 9999 := bd44
    replace bd45 : bd f_39 15 0 9999 := bd45
    replace p68 : k_36 < 4 ∧ (n_38 = 0 ∨ n_38 = 1) ∧ St z34 k_36 p_37 n_38 (V f_39 15) (Rn (V f_5 30) ((12 : Int) * 4 - pm)) (12 : Int) pm y := p68
    have e47 : w32 b = .inr (4, [.ref (ad E (b + 1)), .ref (ad E (b + 2)), .ref (ad E (b + 3)), .ref (ad E (b + 4))]) := (hg46 b (nx_B_multiply_0 hqt hrt hbt) (nx_B_multiply_13 hqt hrt hbt) (nx_B_multiply_14 hqt hrt hbt) (nx_B_multiply_15 hqt hrt hbt)).trans e9
    have e48 : w32 (b + 1) = zar E 30 r1 := (hg46 (b + 1) (nx_B_multiply_1 hqt hrt hbt) (nx_B_multiply_16 hqt hrt hbt) (nx_B_multiply_17 hqt hrt hbt) (nx_B_multiply_18 hqt hrt hbt)).trans e10
    have e49 : w32 (b + 3) = zar E 30 r3 := (hg46 (b + 3) (nx_B_multiply_2 hqt hrt hbt) (nx_B_multiply_19 hqt hrt hbt) (nx_B_multiply_20 hqt hrt hbt) (nx_B_multiply_21 hqt hrt hbt)).trans e11
    have e50 : w32 (b + 4) = zar E 30 r4 := (hg46 (b + 4) (nx_B_multiply_3 hqt hrt hbt) (nx_B_multiply_22 hqt hrt hbt) (nx_B_multiply_23 hqt hrt hbt) (nx_B_multiply_24 hqt hrt hbt)).trans e12
    have e51 : w32 q = .inr (1, [.ref (zg E (1 + kd)), .int (iI pl), .ref (ad E (q + 1))]) := (hg46 q (nx_B_multiply_4 hqt hrt hbt) (nx_B_multiply_25 hqt hrt hbt) (nx_B_multiply_26 hqt hrt hbt) (nx_B_multiply_27 hqt hrt hbt)).trans e13
    have e52 : w32 (q + 1) = .inr (0, [.ref (ad E (q + 2)), .int (iI ng)]) := (hg46 (q + 1) (nx_B_multiply_5 hqt hrt hbt) (nx_B_multiply_28 hqt hrt hbt) (nx_B_multiply_29 hqt hrt hbt) (nx_B_multiply_30 hqt hrt hbt)).trans e14
    have e53 : w32 (q + 2) = zar E 15 f := (hg46 (q + 2) (nx_B_multiply_6 hqt hrt hbt) (nx_B_multiply_31 hqt hrt hbt) (nx_B_multiply_32 hqt hrt hbt) (nx_B_multiply_33 hqt hrt hbt)).trans e15
    have e54 : w32 r = .inr (1, [.ref (zg E (1 + ko)), .int (iI po), .ref (ad E (r + 1))]) := (hg46 r (nx_B_multiply_7 hqt hrt hbt) (nx_B_multiply_34 hqt hrt hbt) (nx_B_multiply_35 hqt hrt hbt) (nx_B_multiply_36 hqt hrt hbt)).trans e16
    have e55 : w32 (r + 1) = .inr (0, [.ref (ad E (r + 2)), .int (iI no)]) := (hg46 (r + 1) (nx_B_multiply_8 hqt hrt hbt) (nx_B_multiply_37 hqt hrt hbt) (nx_B_multiply_38 hqt hrt hbt) (nx_B_multiply_39 hqt hrt hbt)).trans e17
    have e56 : w32 (r + 2) = zar E 15 g := (hg46 (r + 2) (nx_B_multiply_9 hqt hrt hbt) (nx_B_multiply_40 hqt hrt hbt) (nx_B_multiply_41 hqt hrt hbt) (nx_B_multiply_42 hqt hrt hbt)).trans e18
    have hf57 : ∀ k, k ≠ (b + 2) → k ≠ t → k ≠ (t + 1) → k ≠ (t + 2) → w32 k = w0 k := fun k g0 g1 g2 g3 => (hg46 k g0 g1 g2 g3).trans (hf22 k g0)
    rw [p18, hy, p32] at p68
    rw [hQ]
    exact z_iret hx hb hr hlk hH33 (⟨⟨u_35, k_36, p_37, n_38, f_39, e40, e41, e42, e43, bd44, bd45, p68⟩, (fun k g0 g1 g2 g3 => hf57 k g0 g1 g2 g3)⟩) d_B_multiply_71
  refine lv_iload hx hb d_B_multiply_43 (lv_at hl 0 rfl) ?_
  refine lv_aload_n hx hb d_B_multiply_45 rfl (lv_at hl 2 rfl) ?_
  refine zv_get (C := "ScaledNumeralDesk$Numeral") (T := TN) (N := 3) hx hb hg uN_in hown hK hH26 q5lt e13 rfl 2 (by decide) (hg _ wm_65) (fun _ h9 => h9) rfl d_B_multiply_46 ?_
  refine zv_get (C := "ScaledNumeralDesk$Amount") (T := TA) (N := 2) hx hb hg uA_in hown hK hH26 q6lt e14 rfl 1 (by decide) (hg _ wm_47) (fun _ h9 => h9) rfl d_B_multiply_49 ?_
  refine lv_aload_n hx hb d_B_multiply_52 rfl (lv_at hl 3 rfl) ?_
  refine zv_get (C := "ScaledNumeralDesk$Numeral") (T := TN) (N := 3) hx hb hg uN_in hown hK hH26 q8lt e16 rfl 2 (by decide) (hg _ wm_65) (fun _ h9 => h9) rfl d_B_multiply_53 ?_
  refine zv_get (C := "ScaledNumeralDesk$Amount") (T := TA) (N := 2) hx hb hg uA_in hown hK hH26 q9lt e17 rfl 1 (by decide) (hg _ wm_47) (fun _ h9 => h9) rfl d_B_multiply_56 ?_
  refine zv_icmp_eq (tgt := 66) hx hb d_B_multiply_59 rfl (by omega) (by omega) (fun h58 => ?_) (fun h58 => ?_)
  · refine zv_iconst hx hb d_B_multiply_66 ?_
    exact L67 0 _ H23 lc24 (lv_sub hl [0, 1, 2, 3, 4] rfl) hH26 (by first | exact (dif_e (by omega)).symm | exact (dif_n (by omega)).symm) (by omega)
  · refine zv_iconst hx hb d_B_multiply_62 ?_
    refine lv_goto (tgt := 67) hx hb d_B_multiply_63 rfl ?_
    exact L67 1 _ H23 lc24 (lv_sub hl [0, 1, 2, 3, 4] rfl) hH26 (by first | exact (dif_e (by omega)).symm | exact (dif_n (by omega)).symm) (by omega)
theorem nx_B_mulInf_0 {b q r t : Nat} (hqt : t + 2 < q) (hrt : t + 2 < r) (hbt : b + 4 < t) : b ≠ t := by omega
theorem nx_B_mulInf_1 {b q r t : Nat} (hqt : t + 2 < q) (hrt : t + 2 < r) (hbt : b + 4 < t) : b ≠ t + 1 := by omega
theorem nx_B_mulInf_2 {b q r t : Nat} (hqt : t + 2 < q) (hrt : t + 2 < r) (hbt : b + 4 < t) : b ≠ t + 2 := by omega
theorem nx_B_mulInf_3 {b q r t : Nat} (hqt : t + 2 < q) (hrt : t + 2 < r) (hbt : b + 4 < t) : b + 1 ≠ t := by omega
theorem nx_B_mulInf_4 {b q r t : Nat} (hqt : t + 2 < q) (hrt : t + 2 < r) (hbt : b + 4 < t) : b + 1 ≠ t + 1 := by omega
theorem nx_B_mulInf_5 {b q r t : Nat} (hqt : t + 2 < q) (hrt : t + 2 < r) (hbt : b + 4 < t) : b + 1 ≠ t + 2 := by omega
theorem nx_B_mulInf_6 {b q r t : Nat} (hqt : t + 2 < q) (hrt : t + 2 < r) (hbt : b + 4 < t) : b + 2 ≠ t := by omega
theorem nx_B_mulInf_7 {b q r t : Nat} (hqt : t + 2 < q) (hrt : t + 2 < r) (hbt : b + 4 < t) : b + 2 ≠ t + 1 := by omega
theorem nx_B_mulInf_8 {b q r t : Nat} (hqt : t + 2 < q) (hrt : t + 2 < r) (hbt : b + 4 < t) : b + 2 ≠ t + 2 := by omega
theorem nx_B_mulInf_9 {b q r t : Nat} (hqt : t + 2 < q) (hrt : t + 2 < r) (hbt : b + 4 < t) : b + 3 ≠ t := by omega
theorem nx_B_mulInf_10 {b q r t : Nat} (hqt : t + 2 < q) (hrt : t + 2 < r) (hbt : b + 4 < t) : b + 3 ≠ t + 1 := by omega
theorem nx_B_mulInf_11 {b q r t : Nat} (hqt : t + 2 < q) (hrt : t + 2 < r) (hbt : b + 4 < t) : b + 3 ≠ t + 2 := by omega
theorem nx_B_mulInf_12 {b q r t : Nat} (hqt : t + 2 < q) (hrt : t + 2 < r) (hbt : b + 4 < t) : b + 4 ≠ t := by omega
theorem nx_B_mulInf_13 {b q r t : Nat} (hqt : t + 2 < q) (hrt : t + 2 < r) (hbt : b + 4 < t) : b + 4 ≠ t + 1 := by omega
theorem nx_B_mulInf_14 {b q r t : Nat} (hqt : t + 2 < q) (hrt : t + 2 < r) (hbt : b + 4 < t) : b + 4 ≠ t + 2 := by omega
theorem nx_B_mulInf_15 {b q r t : Nat} (hqt : t + 2 < q) (hrt : t + 2 < r) (hbt : b + 4 < t) : q ≠ t := by omega
theorem nx_B_mulInf_16 {b q r t : Nat} (hqt : t + 2 < q) (hrt : t + 2 < r) (hbt : b + 4 < t) : q ≠ t + 1 := by omega
theorem nx_B_mulInf_17 {b q r t : Nat} (hqt : t + 2 < q) (hrt : t + 2 < r) (hbt : b + 4 < t) : q ≠ t + 2 := by omega
theorem nx_B_mulInf_18 {b q r t : Nat} (hqt : t + 2 < q) (hrt : t + 2 < r) (hbt : b + 4 < t) : q + 1 ≠ t := by omega
theorem nx_B_mulInf_19 {b q r t : Nat} (hqt : t + 2 < q) (hrt : t + 2 < r) (hbt : b + 4 < t) : q + 1 ≠ t + 1 := by omega
theorem nx_B_mulInf_20 {b q r t : Nat} (hqt : t + 2 < q) (hrt : t + 2 < r) (hbt : b + 4 < t) : q + 1 ≠ t + 2 := by omega
theorem nx_B_mulInf_21 {b q r t : Nat} (hqt : t + 2 < q) (hrt : t + 2 < r) (hbt : b + 4 < t) : q + 2 ≠ t := by omega
theorem nx_B_mulInf_22 {b q r t : Nat} (hqt : t + 2 < q) (hrt : t + 2 < r) (hbt : b + 4 < t) : q + 2 ≠ t + 1 := by omega
theorem nx_B_mulInf_23 {b q r t : Nat} (hqt : t + 2 < q) (hrt : t + 2 < r) (hbt : b + 4 < t) : q + 2 ≠ t + 2 := by omega
theorem nx_B_mulInf_24 {b q r t : Nat} (hqt : t + 2 < q) (hrt : t + 2 < r) (hbt : b + 4 < t) : r ≠ t := by omega
theorem nx_B_mulInf_25 {b q r t : Nat} (hqt : t + 2 < q) (hrt : t + 2 < r) (hbt : b + 4 < t) : r ≠ t + 1 := by omega
theorem nx_B_mulInf_26 {b q r t : Nat} (hqt : t + 2 < q) (hrt : t + 2 < r) (hbt : b + 4 < t) : r ≠ t + 2 := by omega
theorem nx_B_mulInf_27 {b q r t : Nat} (hqt : t + 2 < q) (hrt : t + 2 < r) (hbt : b + 4 < t) : r + 1 ≠ t := by omega
theorem nx_B_mulInf_28 {b q r t : Nat} (hqt : t + 2 < q) (hrt : t + 2 < r) (hbt : b + 4 < t) : r + 1 ≠ t + 1 := by omega
theorem nx_B_mulInf_29 {b q r t : Nat} (hqt : t + 2 < q) (hrt : t + 2 < r) (hbt : b + 4 < t) : r + 1 ≠ t + 2 := by omega
theorem nx_B_mulInf_30 {b q r t : Nat} (hqt : t + 2 < q) (hrt : t + 2 < r) (hbt : b + 4 < t) : r + 2 ≠ t := by omega
theorem nx_B_mulInf_31 {b q r t : Nat} (hqt : t + 2 < q) (hrt : t + 2 < r) (hbt : b + 4 < t) : r + 2 ≠ t + 1 := by omega
theorem nx_B_mulInf_32 {b q r t : Nat} (hqt : t + 2 < q) (hrt : t + 2 < r) (hbt : b + 4 < t) : r + 2 ≠ t + 2 := by omega
def rm_B_mulInf : Room := { frames := 4, cells := 0, slots := 0, locals := 85 }
set_option maxHeartbeats 4000000 in
set_option maxRecDepth 100000 in
theorem c_B_mulInf (l : Launch) (E : zE) (w0 : zW) (b : Nat) (r1 r2 r3 r4 : Int → Int) (q : Nat) (kd : Nat) (pl ng : Int) (f : Int → Int) (r : Nat) (ko : Nat) (po no : Int) (g : Int → Int) (t : Nat) (kt : Nat) (pt nt : Int) (h : Int → Int) (q0lt : b < zn E) (q1lt : b + 1 < zn E) (q2lt : b + 2 < zn E) (q3lt : b + 3 < zn E) (q4lt : b + 4 < zn E) (q5lt : q < zn E) (q6lt : q + 1 < zn E) (q7lt : q + 2 < zn E) (q8lt : r < zn E) (q9lt : r + 1 < zn E) (q10lt : r + 2 < zn E) (q11lt : t < zn E) (q12lt : t + 1 < zn E) (q13lt : t + 2 < zn E) (c0 : w0 b = .inr (4, [.ref (ad E (b + 1)), .ref (ad E (b + 2)), .ref (ad E (b + 3)), .ref (ad E (b + 4))])) (c1 : w0 (b + 1) = zar E 30 r1) (c2 : w0 (b + 2) = zar E 30 r2) (c3 : w0 (b + 3) = zar E 30 r3) (c4 : w0 (b + 4) = zar E 30 r4) (c5 : w0 q = .inr (1, [.ref (zg E (1 + kd)), .int (iI pl), .ref (ad E (q + 1))])) (c6 : w0 (q + 1) = .inr (0, [.ref (ad E (q + 2)), .int (iI ng)])) (c7 : w0 (q + 2) = zar E 15 f) (c8 : w0 r = .inr (1, [.ref (zg E (1 + ko)), .int (iI po), .ref (ad E (r + 1))])) (c9 : w0 (r + 1) = .inr (0, [.ref (ad E (r + 2)), .int (iI no)])) (c10 : w0 (r + 2) = zar E 15 g) (c11 : w0 t = .inr (1, [.ref (zg E (1 + kt)), .int (iI pt), .ref (ad E (t + 1))])) (c12 : w0 (t + 1) = .inr (0, [.ref (ad E (t + 2)), .int (iI nt)])) (c13 : w0 (t + 2) = zar E 15 h) (br1 : bd r1 30 0 9999) (br2 : bd r2 30 0 9999) (br3 : bd r3 30 0 9999) (br4 : bd r4 30 0 9999) (bf : bd f 15 0 9999) (hkd : kd < 4) (hng : ng = 0 ∨ ng = 1) (hpl : 0 ≤ pl ∧ pl ≤ 24) (vA : V f 15 < Bp 14) (bg : bd g 15 0 9999) (hko : ko < 4) (hno : no = 0 ∨ no = 1) (hpo : 0 ≤ po ∧ po ≤ 24) (vB : V g 15 < Bp 14) (bh : bd h 15 0 9999) (hkt : kt < 4) (hnt : nt = 0 ∨ nt = 1) (hqt : t + 2 < q) (hrt : t + 2 < r) (hbt : b + 4 < t) : zM l y_B_multiplyInfinite ws_B_multiplyInfinite rm_B_mulInf E [.ref (ad E b), .ref (ad E q), .ref (ad E r), .ref (ad E t)] w0 (zQi E w0 (fun z w' => (∃ (k' : Nat) (p' : Int) (n' : Int) (f' : Int → Int), w' t = .inr (1, [.ref (zg E (1 + k')), .int (iI p'), .ref (ad E (t + 1))]) ∧ w' (t + 1) = .inr (0, [.ref (ad E (t + 2)), .int (iI n')]) ∧ w' (t + 2) = zar E 15 f' ∧ bd f' 15 0 9999 ∧ (z = 0 ∧ (n' = 0 ∨ n' = 1) ∧ Nf z k' p' n' (V f' 15) ∧ infk (sg3 kd ng (V f 15) * sg3 ko no (V g 15)) k')) ∧ ∀ k, k ≠ t → k ≠ (t + 1) → k ≠ (t + 2) → w' k = w0 k)) := by
  refine z_met (cc := b_B_multiplyInfinite) (maxL := 5) (ret := (some .int)) (by decide +kernel) rfl (Nat.le_of_ble_eq_true rfl) ?_
  intro p e s m below meth cd ls a Qf hQ hC hl hH
  obtain ⟨hF, hr, hlk, hK, hG, hn⟩ := hC
  obtain ⟨hx, hb, hml, hown, hts⟩ := hF
  have hg : ∀ w ∈ GW, w.before a s = true := fun w h => hts w (List.mem_cons_of_mem _ h)
  have hA : ∀ q, s.heap.size ≤ q → va_A (wl E w0) s.heap.size q := fun q h => Or.inr h
  have hl : lv_has ls 5 [(0, .ref (ad E b)), (1, .ref (ad E q)), (2, .ref (ad E r)), (3, .ref (ad E t))] := hl
  refine lv_aload_n hx hb d_B_multiplyInfinite_0 rfl (lv_at hl 1 rfl) ?_
  refine z_calli (va_runV (As := []) (rest := []) ⟨hx, hb, hml, hown, hts⟩ (c_N_sign (l := l) (E := E) (w0 := w0) (q := q) (kd := kd) (pl := pl) (ng := ng) (f := f) (q0lt := q5lt) (q1lt := q6lt) (q2lt := q7lt) (c0 := c5) (c1 := c6) (c2 := c7) (bf := bf) (hkd := by omega) (hng := by omega) s.heap.size) (z_cwV (C := "ScaledNumeralDesk$Numeral") 0 hg wm_412 wm_409 wm_2 wm_410 wm_411 (by decide +kernel) ⟨Nat.le_of_ble_eq_true rfl, Nat.le_of_ble_eq_true rfl⟩) (z_preV (r := ("ScaledNumeralDesk$Numeral", TN, 3)) hK hG hn hH hA q5lt c5 rfl) rfl rfl hl.1 rfl (lv_room (Nat.le_of_ble_eq_true rfl)) d_B_multiplyInfinite_1 ⟨Nat.zero_le _, Nat.zero_le _⟩) hH hA (fun s1 w3 H1 lc2 hH4 p1 => ?_)
  obtain ⟨ew5, p1⟩ := p1
  rw [ew5] at hH4
  replace p1 : (kd = 1 ∧ ((s1 = 0 ∧ V f 15 = 0) ∨ (s1 = -1 ∧ 0 < V f 15 ∧ ng = 1) ∨ (s1 = 1 ∧ 0 < V f 15 ∧ ng = 0))) ∨ (kd = 0 ∧ s1 = -1) ∨ ((kd = 2 ∨ kd = 3) ∧ s1 = 1) := p1
  have q1 := sg3_of p1
  refine lv_aload_n hx hb d_B_multiplyInfinite_4 rfl (lv_at hl 2 rfl) ?_
  refine z_calli (va_runV (As := []) (rest := [.int (iI s1)]) ⟨hx, hb, hml, hown, hts⟩ (c_N_sign (l := l) (E := E) (w0 := w0) (q := r) (kd := ko) (pl := po) (ng := no) (f := g) (q0lt := q8lt) (q1lt := q9lt) (q2lt := q10lt) (c0 := c8) (c1 := c9) (c2 := c10) (bf := bg) (hkd := by omega) (hng := by omega) H1.size) (z_cwV (C := "ScaledNumeralDesk$Numeral") 0 hg wm_412 wm_409 wm_2 wm_410 wm_411 (by decide +kernel) ⟨Nat.le_of_ble_eq_true rfl, Nat.le_of_ble_eq_true rfl⟩) (z_preV (r := ("ScaledNumeralDesk$Numeral", TN, 3)) hK hG hn hH4 hA q8lt c8 rfl) rfl rfl hl.1 rfl (lv_room (Nat.le_of_ble_eq_true rfl)) d_B_multiplyInfinite_5 ⟨Nat.zero_le _, Nat.zero_le _⟩) hH4 hA (fun s2 w8 H6 lc7 hH9 p5 => ?_)
  obtain ⟨ew10, p5⟩ := p5
  rw [ew10] at hH9
  replace p5 : (ko = 1 ∧ ((s2 = 0 ∧ V g 15 = 0) ∨ (s2 = -1 ∧ 0 < V g 15 ∧ no = 1) ∨ (s2 = 1 ∧ 0 < V g 15 ∧ no = 0))) ∨ (ko = 0 ∧ s2 = -1) ∨ ((ko = 2 ∨ ko = 3) ∧ s2 = 1) := p5
  have q5 := sg3_of p5
  have m9 := mul_11 q1.2 q5.2
  refine zv_imul hx hb d_B_multiplyInfinite_8 ?_
  refine lv_istore (lv' := [(4, .int (iI (s1 * s2))), (0, .ref (ad E b)), (1, .ref (ad E q)), (2, .ref (ad E r)), (3, .ref (ad E t))]) hx hb d_B_multiplyInfinite_9 hl (by decide) rfl (fun ls hl => ?_)
  refine lv_iload hx hb d_B_multiplyInfinite_11 (lv_at hl 0 rfl) ?_
  refine zv_if_ne (tgt := 26) hx hb d_B_multiplyInfinite_13 rfl (by omega) (fun h11 => ?_) (fun h11 => ?_)
  · refine lv_aload_n hx hb d_B_multiplyInfinite_26 rfl (lv_at hl 4 rfl) ?_
    refine lv_iload hx hb d_B_multiplyInfinite_27 (lv_at hl 0 rfl) ?_
    refine z_callv (va_runV (As := [.int (iI (s1 * s2))]) (rest := []) ⟨hx, hb, hml, hown, hts⟩ (c_N_becomeInf (l := l) (E := E) (w0 := w0) (q := t) (kd := kt) (pl := pt) (ng := nt) (sg := s1 * s2) (f := h) (q0lt := q11lt) (q1lt := q12lt) (q2lt := q13lt) (c0 := c11) (c1 := c12) (c2 := c13) (bf := bh) (hkd := by omega) (hng := by omega) (hsg := by omega) H6.size) (z_cwV (C := "ScaledNumeralDesk$Numeral") 1 hg wm_247 wm_417 wm_2 wm_245 wm_246 (by decide +kernel) ⟨Nat.le_of_ble_eq_true rfl, Nat.le_of_ble_eq_true rfl⟩) (z_preV (r := ("ScaledNumeralDesk$Numeral", TN, 3)) hK hG hn hH9 hA q11lt c11 rfl) rfl rfl hl.1 rfl (lv_room (Nat.le_of_ble_eq_true rfl)) d_B_multiplyInfinite_29 ⟨Nat.zero_le _, Nat.zero_le _⟩) hH9 hA (fun  w14 H12 lc13 hH15 p29 => ?_)
    obtain ⟨⟨k_16, f_17, e18, e19, e20, bd21, p29⟩, hg22⟩ := p29
    replace bd21 : bd f_17 15 0 9999 := bd21
    replace p29 : (∀ j : Int, 0 ≤ j → j < 15 → f_17 j = 0) ∧ (((s1 * s2) < 0 ∧ k_16 = 0) ∨ (0 ≤ (s1 * s2) ∧ k_16 = 2)) := p29
    have e23 : w14 b = .inr (4, [.ref (ad E (b + 1)), .ref (ad E (b + 2)), .ref (ad E (b + 3)), .ref (ad E (b + 4))]) := (hg22 b (nx_B_mulInf_0 hqt hrt hbt) (nx_B_mulInf_1 hqt hrt hbt) (nx_B_mulInf_2 hqt hrt hbt)).trans c0
    have e24 : w14 (b + 1) = zar E 30 r1 := (hg22 (b + 1) (nx_B_mulInf_3 hqt hrt hbt) (nx_B_mulInf_4 hqt hrt hbt) (nx_B_mulInf_5 hqt hrt hbt)).trans c1
    have e25 : w14 (b + 2) = zar E 30 r2 := (hg22 (b + 2) (nx_B_mulInf_6 hqt hrt hbt) (nx_B_mulInf_7 hqt hrt hbt) (nx_B_mulInf_8 hqt hrt hbt)).trans c2
    have e26 : w14 (b + 3) = zar E 30 r3 := (hg22 (b + 3) (nx_B_mulInf_9 hqt hrt hbt) (nx_B_mulInf_10 hqt hrt hbt) (nx_B_mulInf_11 hqt hrt hbt)).trans c3
    have e27 : w14 (b + 4) = zar E 30 r4 := (hg22 (b + 4) (nx_B_mulInf_12 hqt hrt hbt) (nx_B_mulInf_13 hqt hrt hbt) (nx_B_mulInf_14 hqt hrt hbt)).trans c4
    have e28 : w14 q = .inr (1, [.ref (zg E (1 + kd)), .int (iI pl), .ref (ad E (q + 1))]) := (hg22 q (nx_B_mulInf_15 hqt hrt hbt) (nx_B_mulInf_16 hqt hrt hbt) (nx_B_mulInf_17 hqt hrt hbt)).trans c5
    have e29 : w14 (q + 1) = .inr (0, [.ref (ad E (q + 2)), .int (iI ng)]) := (hg22 (q + 1) (nx_B_mulInf_18 hqt hrt hbt) (nx_B_mulInf_19 hqt hrt hbt) (nx_B_mulInf_20 hqt hrt hbt)).trans c6
    have e30 : w14 (q + 2) = zar E 15 f := (hg22 (q + 2) (nx_B_mulInf_21 hqt hrt hbt) (nx_B_mulInf_22 hqt hrt hbt) (nx_B_mulInf_23 hqt hrt hbt)).trans c7
    have e31 : w14 r = .inr (1, [.ref (zg E (1 + ko)), .int (iI po), .ref (ad E (r + 1))]) := (hg22 r (nx_B_mulInf_24 hqt hrt hbt) (nx_B_mulInf_25 hqt hrt hbt) (nx_B_mulInf_26 hqt hrt hbt)).trans c8
    have e32 : w14 (r + 1) = .inr (0, [.ref (ad E (r + 2)), .int (iI no)]) := (hg22 (r + 1) (nx_B_mulInf_27 hqt hrt hbt) (nx_B_mulInf_28 hqt hrt hbt) (nx_B_mulInf_29 hqt hrt hbt)).trans c9
    have e33 : w14 (r + 2) = zar E 15 g := (hg22 (r + 2) (nx_B_mulInf_30 hqt hrt hbt) (nx_B_mulInf_31 hqt hrt hbt) (nx_B_mulInf_32 hqt hrt hbt)).trans c10
    have hf34 : ∀ k, k ≠ t → k ≠ (t + 1) → k ≠ (t + 2) → w14 k = w0 k := fun k g0 g1 g2 => hg22 k g0 g1 g2
    refine zv_iconst hx hb d_B_multiplyInfinite_32 ?_
    rw [hQ]
    exact z_iret hx hb hr hlk hH15 (⟨⟨k_16, 0, 0, f_17, e18, e19, e20, bd21, ⟨rfl, Or.inl rfl, (by first | exact Nf_0 (V0_of p20) | exact Nf_0 (V0_of p20.1) | exact Nf_0 (V0_of p29) | exact Nf_0 (V0_of p29.1)), by unfold infk; rw [← q1.1, ← q5.1]; omega⟩⟩, (fun k g0 g1 g2 => hf34 k g0 g1 g2)⟩) d_B_multiplyInfinite_33
  · refine lv_aload_n hx hb d_B_multiplyInfinite_16 rfl (lv_at hl 4 rfl) ?_
    refine zv_kind hx hb hG hH9 hown 3 (by decide) (hg _ wm_377) (fun _ h9 => h9) d_B_multiplyInfinite_17 ?_
    refine z_callv (va_runV (As := [.ref (zg E (1 + 3))]) (rest := []) ⟨hx, hb, hml, hown, hts⟩ (c_N_become (l := l) (E := E) (w0 := w0) (q := t) (kd := kt) (k2 := 3) (pl := pt) (ng := nt) (f := h) (q0lt := q11lt) (q1lt := q12lt) (q2lt := q13lt) (c0 := c11) (c1 := c12) (c2 := c13) (bf := bh) (hkd := by omega) (hng := by omega) H6.size) (z_cwV (C := "ScaledNumeralDesk$Numeral") 1 hg wm_230 wm_378 wm_2 wm_228 wm_229 (by decide +kernel) ⟨Nat.le_of_ble_eq_true rfl, Nat.le_of_ble_eq_true rfl⟩) (z_preV (r := ("ScaledNumeralDesk$Numeral", TN, 3)) hK hG hn hH9 hA q11lt c11 rfl) rfl rfl hl.1 rfl (lv_room (Nat.le_of_ble_eq_true rfl)) d_B_multiplyInfinite_20 ⟨Nat.zero_le _, Nat.zero_le _⟩) hH9 hA (fun  w37 H35 lc36 hH38 p20 => ?_)
    obtain ⟨⟨f_39, e40, e41, e42, bd43, p20⟩, hg44⟩ := p20
    replace bd43 : bd f_39 15 0 9999 := bd43
    replace p20 : ∀ j : Int, 0 ≤ j → j < 15 → f_39 j = 0 := p20
    have e45 : w37 b = .inr (4, [.ref (ad E (b + 1)), .ref (ad E (b + 2)), .ref (ad E (b + 3)), .ref (ad E (b + 4))]) := (hg44 b (nx_B_mulInf_0 hqt hrt hbt) (nx_B_mulInf_1 hqt hrt hbt) (nx_B_mulInf_2 hqt hrt hbt)).trans c0
    have e46 : w37 (b + 1) = zar E 30 r1 := (hg44 (b + 1) (nx_B_mulInf_3 hqt hrt hbt) (nx_B_mulInf_4 hqt hrt hbt) (nx_B_mulInf_5 hqt hrt hbt)).trans c1
    have e47 : w37 (b + 2) = zar E 30 r2 := (hg44 (b + 2) (nx_B_mulInf_6 hqt hrt hbt) (nx_B_mulInf_7 hqt hrt hbt) (nx_B_mulInf_8 hqt hrt hbt)).trans c2
    have e48 : w37 (b + 3) = zar E 30 r3 := (hg44 (b + 3) (nx_B_mulInf_9 hqt hrt hbt) (nx_B_mulInf_10 hqt hrt hbt) (nx_B_mulInf_11 hqt hrt hbt)).trans c3
    have e49 : w37 (b + 4) = zar E 30 r4 := (hg44 (b + 4) (nx_B_mulInf_12 hqt hrt hbt) (nx_B_mulInf_13 hqt hrt hbt) (nx_B_mulInf_14 hqt hrt hbt)).trans c4
    have e50 : w37 q = .inr (1, [.ref (zg E (1 + kd)), .int (iI pl), .ref (ad E (q + 1))]) := (hg44 q (nx_B_mulInf_15 hqt hrt hbt) (nx_B_mulInf_16 hqt hrt hbt) (nx_B_mulInf_17 hqt hrt hbt)).trans c5
    have e51 : w37 (q + 1) = .inr (0, [.ref (ad E (q + 2)), .int (iI ng)]) := (hg44 (q + 1) (nx_B_mulInf_18 hqt hrt hbt) (nx_B_mulInf_19 hqt hrt hbt) (nx_B_mulInf_20 hqt hrt hbt)).trans c6
    have e52 : w37 (q + 2) = zar E 15 f := (hg44 (q + 2) (nx_B_mulInf_21 hqt hrt hbt) (nx_B_mulInf_22 hqt hrt hbt) (nx_B_mulInf_23 hqt hrt hbt)).trans c7
    have e53 : w37 r = .inr (1, [.ref (zg E (1 + ko)), .int (iI po), .ref (ad E (r + 1))]) := (hg44 r (nx_B_mulInf_24 hqt hrt hbt) (nx_B_mulInf_25 hqt hrt hbt) (nx_B_mulInf_26 hqt hrt hbt)).trans c8
    have e54 : w37 (r + 1) = .inr (0, [.ref (ad E (r + 2)), .int (iI no)]) := (hg44 (r + 1) (nx_B_mulInf_27 hqt hrt hbt) (nx_B_mulInf_28 hqt hrt hbt) (nx_B_mulInf_29 hqt hrt hbt)).trans c9
    have e55 : w37 (r + 2) = zar E 15 g := (hg44 (r + 2) (nx_B_mulInf_30 hqt hrt hbt) (nx_B_mulInf_31 hqt hrt hbt) (nx_B_mulInf_32 hqt hrt hbt)).trans c10
    have hf56 : ∀ k, k ≠ t → k ≠ (t + 1) → k ≠ (t + 2) → w37 k = w0 k := fun k g0 g1 g2 => hg44 k g0 g1 g2
    refine lv_goto (tgt := 32) hx hb d_B_multiplyInfinite_23 rfl ?_
    refine zv_iconst hx hb d_B_multiplyInfinite_32 ?_
    rw [hQ]
    exact z_iret hx hb hr hlk hH38 (⟨⟨3, 0, 0, f_39, e40, e41, e42, bd43, ⟨rfl, Or.inl rfl, (by first | exact Nf_0 (V0_of p20) | exact Nf_0 (V0_of p20.1) | exact Nf_0 (V0_of p29) | exact Nf_0 (V0_of p29.1)), by unfold infk; rw [← q1.1, ← q5.1]; omega⟩⟩, (fun k g0 g1 g2 => hf56 k g0 g1 g2)⟩) d_B_multiplyInfinite_33
def rm_B_places : Room := { frames := 2, cells := 0, slots := 0, locals := 42 }
set_option maxHeartbeats 4000000 in
set_option maxRecDepth 100000 in
theorem c_B_places (l : Launch) (E : zE) (w0 : zW) (q : Nat) (kd : Nat) (pl ng : Int) (f : Int → Int) (r : Nat) (ko : Nat) (po no : Int) (g : Int → Int) (q0lt : q < zn E) (q1lt : q + 1 < zn E) (q2lt : q + 2 < zn E) (q3lt : r < zn E) (q4lt : r + 1 < zn E) (q5lt : r + 2 < zn E) (c0 : w0 q = .inr (1, [.ref (zg E (1 + kd)), .int (iI pl), .ref (ad E (q + 1))])) (c1 : w0 (q + 1) = .inr (0, [.ref (ad E (q + 2)), .int (iI ng)])) (c2 : w0 (q + 2) = zar E 15 f) (c3 : w0 r = .inr (1, [.ref (zg E (1 + ko)), .int (iI po), .ref (ad E (r + 1))])) (c4 : w0 (r + 1) = .inr (0, [.ref (ad E (r + 2)), .int (iI no)])) (c5 : w0 (r + 2) = zar E 15 g) (bf : bd f 15 0 9999) (hkd : kd < 4) (hng : ng = 0 ∨ ng = 1) (hpl : 0 ≤ pl ∧ pl ≤ 24) (vA : V f 15 < Bp 14) (bg : bd g 15 0 9999) (hko : ko < 4) (hno : no = 0 ∨ no = 1) (hpo : 0 ≤ po ∧ po ≤ 24) (vB : V g 15 < Bp 14) : zM l y_B_placesOfDivision ws_B_placesOfDivision rm_B_places E [.ref (ad E q), .ref (ad E r)] w0 (zQi E w0 (fun z w' => w' = w0 ∧ (∃ wa wb la lb : Int, Wt (V f 15) wa ∧ Wt (V g 15) wb ∧ Ld (V f 15) la ∧ Ld (V g 15) lb ∧ z = pd wa wb la lb pl po))) := by
  refine z_met (cc := b_B_placesOfDivision) (maxL := 4) (ret := (some .int)) (by decide +kernel) rfl (Nat.le_of_ble_eq_true rfl) ?_
  intro p e s m below meth cd ls a Qf hQ hC hl hH
  obtain ⟨hF, hr, hlk, hK, hG, hn⟩ := hC
  obtain ⟨hx, hb, hml, hown, hts⟩ := hF
  have hg : ∀ w ∈ GW, w.before a s = true := fun w h => hts w (List.mem_cons_of_mem _ h)
  have hA : ∀ q, s.heap.size ≤ q → va_A (wl E w0) s.heap.size q := fun q h => Or.inr h
  have hl : lv_has ls 4 [(0, .ref (ad E q)), (1, .ref (ad E r))] := hl
  have vf := V_in bf (show (0 : Int) ≤ 15 by decide) (Int.le_refl 15)
  have vg := V_in bg (show (0 : Int) ≤ 15 by decide) (Int.le_refl 15)
  refine lv_aload_n hx hb d_B_placesOfDivision_0 rfl (lv_at hl 0 rfl) ?_
  refine zv_get (C := "ScaledNumeralDesk$Numeral") (T := TN) (N := 3) hx hb hg uN_in hown hK hH q0lt c0 rfl 2 (by decide) (hg _ wm_65) (fun _ h9 => h9) rfl d_B_placesOfDivision_1 ?_
  refine z_calli (va_runV (As := []) (rest := []) ⟨hx, hb, hml, hown, hts⟩ (c_A_weight (l := l) (E := E) (w0 := w0) (q := q + 1) (f := f) (ng := ng) (q0lt := q1lt) (q1lt := q2lt) (c0 := c1) (c1 := c2) (bf := bf) s.heap.size) (z_cwV (C := "ScaledNumeralDesk$Amount") 0 hg wm_489 wm_486 wm_5 wm_487 wm_488 (by decide +kernel) ⟨Nat.le_of_ble_eq_true rfl, Nat.le_of_ble_eq_true rfl⟩) (z_preV (r := ("ScaledNumeralDesk$Amount", TA, 2)) hK hG hn hH hA q1lt c1 rfl) rfl rfl hl.1 rfl (lv_room (Nat.le_of_ble_eq_true rfl)) d_B_placesOfDivision_4 ⟨Nat.zero_le _, Nat.zero_le _⟩) hH hA (fun wa w3 H1 lc2 hH4 p4 => ?_)
  obtain ⟨ew5, p4⟩ := p4
  rw [ew5] at hH4
  replace p4 : Wt (V f 15) wa := p4
  have w4 := Wt_in p4
  refine lv_aload_n hx hb d_B_placesOfDivision_7 rfl (lv_at hl 1 rfl) ?_
  refine zv_get (C := "ScaledNumeralDesk$Numeral") (T := TN) (N := 3) hx hb hg uN_in hown hK hH4 q3lt c3 rfl 2 (by decide) (hg _ wm_65) (fun _ h9 => h9) rfl d_B_placesOfDivision_8 ?_
  refine z_calli (va_runV (As := []) (rest := [.int (iI wa)]) ⟨hx, hb, hml, hown, hts⟩ (c_A_weight (l := l) (E := E) (w0 := w0) (q := r + 1) (f := g) (ng := no) (q0lt := q4lt) (q1lt := q5lt) (c0 := c4) (c1 := c5) (bf := bg) H1.size) (z_cwV (C := "ScaledNumeralDesk$Amount") 0 hg wm_489 wm_486 wm_5 wm_487 wm_488 (by decide +kernel) ⟨Nat.le_of_ble_eq_true rfl, Nat.le_of_ble_eq_true rfl⟩) (z_preV (r := ("ScaledNumeralDesk$Amount", TA, 2)) hK hG hn hH4 hA q4lt c4 rfl) rfl rfl hl.1 rfl (lv_room (Nat.le_of_ble_eq_true rfl)) d_B_placesOfDivision_11 ⟨Nat.zero_le _, Nat.zero_le _⟩) hH4 hA (fun wb w8 H6 lc7 hH9 p11 => ?_)
  obtain ⟨ew10, p11⟩ := p11
  rw [ew10] at hH9
  replace p11 : Wt (V g 15) wb := p11
  have w11 := Wt_in p11
  refine zv_isub hx hb d_B_placesOfDivision_14 ?_
  refine lv_istore_n (lv' := [(2, .int (iI (wa - wb))), (0, .ref (ad E q)), (1, .ref (ad E r))]) hx hb d_B_placesOfDivision_15 rfl hl (by decide) rfl (fun ls hl => ?_)
  refine lv_aload_n hx hb d_B_placesOfDivision_16 rfl (lv_at hl 1 rfl) ?_
  refine zv_get (C := "ScaledNumeralDesk$Numeral") (T := TN) (N := 3) hx hb hg uN_in hown hK hH9 q0lt c0 rfl 2 (by decide) (hg _ wm_65) (fun _ h9 => h9) rfl d_B_placesOfDivision_17 ?_
  refine z_calli (va_runV (As := []) (rest := []) ⟨hx, hb, hml, hown, hts⟩ (c_A_lead (l := l) (E := E) (w0 := w0) (q := q + 1) (f := f) (ng := ng) (q0lt := q1lt) (q1lt := q2lt) (c0 := c1) (c1 := c2) (bf := bf) H6.size) (z_cwV (C := "ScaledNumeralDesk$Amount") 0 hg wm_493 wm_490 wm_5 wm_491 wm_492 (by decide +kernel) ⟨Nat.le_of_ble_eq_true rfl, Nat.le_of_ble_eq_true rfl⟩) (z_preV (r := ("ScaledNumeralDesk$Amount", TA, 2)) hK hG hn hH9 hA q1lt c1 rfl) rfl rfl hl.1 rfl (lv_room (Nat.le_of_ble_eq_true rfl)) d_B_placesOfDivision_20 ⟨Nat.zero_le _, Nat.zero_le _⟩) hH9 hA (fun la w13 H11 lc12 hH14 p20 => ?_)
  obtain ⟨ew15, p20⟩ := p20
  rw [ew15] at hH14
  replace p20 : Ld (V f 15) la := p20
  have l20 : 0 ≤ la ∧ la ≤ 9999 := Ld_in bf p20
  refine lv_aload_n hx hb d_B_placesOfDivision_23 rfl (lv_at hl 2 rfl) ?_
  refine zv_get (C := "ScaledNumeralDesk$Numeral") (T := TN) (N := 3) hx hb hg uN_in hown hK hH14 q3lt c3 rfl 2 (by decide) (hg _ wm_65) (fun _ h9 => h9) rfl d_B_placesOfDivision_24 ?_
  refine z_calli (va_runV (As := []) (rest := [.int (iI la)]) ⟨hx, hb, hml, hown, hts⟩ (c_A_lead (l := l) (E := E) (w0 := w0) (q := r + 1) (f := g) (ng := no) (q0lt := q4lt) (q1lt := q5lt) (c0 := c4) (c1 := c5) (bf := bg) H11.size) (z_cwV (C := "ScaledNumeralDesk$Amount") 0 hg wm_493 wm_490 wm_5 wm_491 wm_492 (by decide +kernel) ⟨Nat.le_of_ble_eq_true rfl, Nat.le_of_ble_eq_true rfl⟩) (z_preV (r := ("ScaledNumeralDesk$Amount", TA, 2)) hK hG hn hH14 hA q4lt c4 rfl) rfl rfl hl.1 rfl (lv_room (Nat.le_of_ble_eq_true rfl)) d_B_placesOfDivision_27 ⟨Nat.zero_le _, Nat.zero_le _⟩) hH14 hA (fun lb w18 H16 lc17 hH19 p27 => ?_)
  obtain ⟨ew20, p27⟩ := p27
  rw [ew20] at hH19
  replace p27 : Ld (V g 15) lb := p27
  have l27 : 0 ≤ lb ∧ lb ≤ 9999 := Ld_in bg p27
  refine zv_icmp_gt (tgt := 36) hx hb d_B_placesOfDivision_30 rfl (by omega) (by omega) (fun h21 => ?_) (fun h21 => ?_)
  · refine zv_bipush hx hb d_B_placesOfDivision_36 rfl ?_
    refine zv_iconst hx hb d_B_placesOfDivision_38 ?_
    refine lv_iload_n hx hb d_B_placesOfDivision_39 rfl (lv_at hl 0 rfl) ?_
    refine zv_imul hx hb d_B_placesOfDivision_40 ?_
    refine zv_isub hx hb d_B_placesOfDivision_41 ?_
    refine lv_aload_n hx hb d_B_placesOfDivision_42 rfl (lv_at hl 1 rfl) ?_
    refine zv_get (C := "ScaledNumeralDesk$Numeral") (T := TN) (N := 3) hx hb hg uN_in hown hK hH19 q0lt c0 rfl 1 (by decide) (hg _ wm_60) (fun _ h9 => h9) rfl d_B_placesOfDivision_43 ?_
    refine lv_aload_n hx hb d_B_placesOfDivision_46 rfl (lv_at hl 2 rfl) ?_
    refine zv_get (C := "ScaledNumeralDesk$Numeral") (T := TN) (N := 3) hx hb hg uN_in hown hK hH19 q3lt c3 rfl 1 (by decide) (hg _ wm_60) (fun _ h9 => h9) rfl d_B_placesOfDivision_47 ?_
    refine z_calli (va_runS (As := [.int (iI pl), .int (iI po)]) (rest := [.int (iI (16 - (4 * (wa - wb))))]) ⟨hx, hb, hml, hown, hts⟩ (c_max (l := l) (E := E) (w0 := w0) (x := pl) (y := po) (zx := by omega) (zy := by omega) H16.size) (z_cwS 2 hg wm_275 wm_400 wm_15 wm_274 (by decide +kernel) ⟨Nat.le_of_ble_eq_true rfl, Nat.le_of_ble_eq_true rfl⟩) (z_preS hK hG hn hH19 hA) rfl rfl hl.1 rfl (lv_room (Nat.le_of_ble_eq_true rfl)) d_B_placesOfDivision_50 ⟨Nat.zero_le _, Nat.zero_le _⟩) hH19 hA (fun z26 w24 H22 lc23 hH25 p50 => ?_)
    obtain ⟨ew27, p50⟩ := p50
    rw [ew27] at hH25
    replace p50 : z26 = max pl po := p50
    refine z_calli (va_runS (As := [.int (iI (16 - (4 * (wa - wb)))), .int (iI z26)]) (rest := []) ⟨hx, hb, hml, hown, hts⟩ (c_max (l := l) (E := E) (w0 := w0) (x := 16 - (4 * (wa - wb))) (y := z26) (zx := by omega) (zy := by omega) H22.size) (z_cwS 2 hg wm_275 wm_400 wm_15 wm_274 (by decide +kernel) ⟨Nat.le_of_ble_eq_true rfl, Nat.le_of_ble_eq_true rfl⟩) (z_preS hK hG hn hH25 hA) rfl rfl hl.1 rfl (lv_room (Nat.le_of_ble_eq_true rfl)) d_B_placesOfDivision_53 ⟨Nat.zero_le _, Nat.zero_le _⟩) hH25 hA (fun z32 w30 H28 lc29 hH31 p53 => ?_)
    obtain ⟨ew33, p53⟩ := p53
    rw [ew33] at hH31
    replace p53 : z32 = max (16 - (4 * (wa - wb))) z26 := p53
    refine lv_istore_n (lv' := [(3, .int (iI z32)), (2, .int (iI (wa - wb))), (0, .ref (ad E q)), (1, .ref (ad E r))]) hx hb d_B_placesOfDivision_56 rfl hl (by decide) rfl (fun ls hl => ?_)
    refine lv_iload_n hx hb d_B_placesOfDivision_57 rfl (lv_at hl 0 rfl) ?_
    refine zv_bipush hx hb d_B_placesOfDivision_58 rfl ?_
    refine z_calli (va_runS (As := [.int (iI z32), .int (iI 24)]) (rest := []) ⟨hx, hb, hml, hown, hts⟩ (c_min (l := l) (E := E) (w0 := w0) (x := z32) (y := 24) (zx := by omega) (zy := by omega) H28.size) (z_cwS 2 hg wm_279 wm_429 wm_15 wm_278 (by decide +kernel) ⟨Nat.le_of_ble_eq_true rfl, Nat.le_of_ble_eq_true rfl⟩) (z_preS hK hG hn hH31 hA) rfl rfl hl.1 rfl (lv_room (Nat.le_of_ble_eq_true rfl)) d_B_placesOfDivision_60 ⟨Nat.zero_le _, Nat.zero_le _⟩) hH31 hA (fun z38 w36 H34 lc35 hH37 p60 => ?_)
    obtain ⟨ew39, p60⟩ := p60
    rw [ew39] at hH37
    replace p60 : z38 = min z32 (24 : Int) := p60
    rw [hQ]
    exact z_iret hx hb hr hlk hH37 (⟨rfl, ⟨wa, wb, la, lb, p4, p11, p20, p27, by unfold pd; rw [if_neg (by omega)]; omega⟩⟩) d_B_placesOfDivision_63
  · refine zv_iinc (k := 0) (lv' := [(2, .int (iI ((wa - wb) + (-1)))), (0, .ref (ad E q)), (1, .ref (ad E r))]) hx hb d_B_placesOfDivision_33 hl rfl (by decide) rfl (fun ls hl => ?_)
    refine zv_bipush hx hb d_B_placesOfDivision_36 rfl ?_
    refine zv_iconst hx hb d_B_placesOfDivision_38 ?_
    refine lv_iload_n hx hb d_B_placesOfDivision_39 rfl (lv_at hl 0 rfl) ?_
    refine zv_imul hx hb d_B_placesOfDivision_40 ?_
    refine zv_isub hx hb d_B_placesOfDivision_41 ?_
    refine lv_aload_n hx hb d_B_placesOfDivision_42 rfl (lv_at hl 1 rfl) ?_
    refine zv_get (C := "ScaledNumeralDesk$Numeral") (T := TN) (N := 3) hx hb hg uN_in hown hK hH19 q0lt c0 rfl 1 (by decide) (hg _ wm_60) (fun _ h9 => h9) rfl d_B_placesOfDivision_43 ?_
    refine lv_aload_n hx hb d_B_placesOfDivision_46 rfl (lv_at hl 2 rfl) ?_
    refine zv_get (C := "ScaledNumeralDesk$Numeral") (T := TN) (N := 3) hx hb hg uN_in hown hK hH19 q3lt c3 rfl 1 (by decide) (hg _ wm_60) (fun _ h9 => h9) rfl d_B_placesOfDivision_47 ?_
    refine z_calli (va_runS (As := [.int (iI pl), .int (iI po)]) (rest := [.int (iI (16 - (4 * ((wa - wb) + (-1)))))]) ⟨hx, hb, hml, hown, hts⟩ (c_max (l := l) (E := E) (w0 := w0) (x := pl) (y := po) (zx := by omega) (zy := by omega) H16.size) (z_cwS 2 hg wm_275 wm_400 wm_15 wm_274 (by decide +kernel) ⟨Nat.le_of_ble_eq_true rfl, Nat.le_of_ble_eq_true rfl⟩) (z_preS hK hG hn hH19 hA) rfl rfl hl.1 rfl (lv_room (Nat.le_of_ble_eq_true rfl)) d_B_placesOfDivision_50 ⟨Nat.zero_le _, Nat.zero_le _⟩) hH19 hA (fun z44 w42 H40 lc41 hH43 p50 => ?_)
    obtain ⟨ew45, p50⟩ := p50
    rw [ew45] at hH43
    replace p50 : z44 = max pl po := p50
    refine z_calli (va_runS (As := [.int (iI (16 - (4 * ((wa - wb) + (-1))))), .int (iI z44)]) (rest := []) ⟨hx, hb, hml, hown, hts⟩ (c_max (l := l) (E := E) (w0 := w0) (x := 16 - (4 * ((wa - wb) + (-1)))) (y := z44) (zx := by omega) (zy := by omega) H40.size) (z_cwS 2 hg wm_275 wm_400 wm_15 wm_274 (by decide +kernel) ⟨Nat.le_of_ble_eq_true rfl, Nat.le_of_ble_eq_true rfl⟩) (z_preS hK hG hn hH43 hA) rfl rfl hl.1 rfl (lv_room (Nat.le_of_ble_eq_true rfl)) d_B_placesOfDivision_53 ⟨Nat.zero_le _, Nat.zero_le _⟩) hH43 hA (fun z50 w48 H46 lc47 hH49 p53 => ?_)
    obtain ⟨ew51, p53⟩ := p53
    rw [ew51] at hH49
    replace p53 : z50 = max (16 - (4 * ((wa - wb) + (-1)))) z44 := p53
    refine lv_istore_n (lv' := [(3, .int (iI z50)), (2, .int (iI ((wa - wb) + (-1)))), (0, .ref (ad E q)), (1, .ref (ad E r))]) hx hb d_B_placesOfDivision_56 rfl hl (by decide) rfl (fun ls hl => ?_)
    refine lv_iload_n hx hb d_B_placesOfDivision_57 rfl (lv_at hl 0 rfl) ?_
    refine zv_bipush hx hb d_B_placesOfDivision_58 rfl ?_
    refine z_calli (va_runS (As := [.int (iI z50), .int (iI 24)]) (rest := []) ⟨hx, hb, hml, hown, hts⟩ (c_min (l := l) (E := E) (w0 := w0) (x := z50) (y := 24) (zx := by omega) (zy := by omega) H46.size) (z_cwS 2 hg wm_279 wm_429 wm_15 wm_278 (by decide +kernel) ⟨Nat.le_of_ble_eq_true rfl, Nat.le_of_ble_eq_true rfl⟩) (z_preS hK hG hn hH49 hA) rfl rfl hl.1 rfl (lv_room (Nat.le_of_ble_eq_true rfl)) d_B_placesOfDivision_60 ⟨Nat.zero_le _, Nat.zero_le _⟩) hH49 hA (fun z56 w54 H52 lc53 hH55 p60 => ?_)
    obtain ⟨ew57, p60⟩ := p60
    rw [ew57] at hH55
    replace p60 : z56 = min z50 (24 : Int) := p60
    rw [hQ]
    exact z_iret hx hb hr hlk hH55 (⟨rfl, ⟨wa, wb, la, lb, p4, p11, p20, p27, by unfold pd; rw [if_pos (by omega)]; omega⟩⟩) d_B_placesOfDivision_63
