def rm_B_fits : Room := { frames := 2, cells := 0, slots := 0, locals := 50 }
set_option maxHeartbeats 4000000 in
set_option maxRecDepth 100000 in
theorem c_B_fits (l : Launch) (E : zE) (w0 : zW) (b : Nat) (r1 r2 r3 r4 : Int → Int) (i l1 S : Int) (q0lt : b < zn E) (q1lt : b + 1 < zn E) (q2lt : b + 2 < zn E) (q3lt : b + 3 < zn E) (q4lt : b + 4 < zn E) (c0 : w0 b = .inr (4, [.ref (ad E (b + 1)), .ref (ad E (b + 2)), .ref (ad E (b + 3)), .ref (ad E (b + 4))])) (c1 : w0 (b + 1) = zar E 30 r1) (c2 : w0 (b + 2) = zar E 30 r2) (c3 : w0 (b + 3) = zar E 30 r3) (c4 : w0 (b + 4) = zar E 30 r4) (br1 : bd r1 30 0 9999) (br2 : bd r2 30 0 9999) (br3 : bd r3 30 0 9999) (br4 : bd r4 30 0 9999) (hi : 0 ≤ i ∧ i ≤ 10) (hS : 0 ≤ S ∧ S < Bp 12) (hl1 : 0 ≤ l1 ∧ l1 ≤ 9999) (hD : V r3 30 - r3 i * Bp i = 2 * S) : zM l y_B_rootLimbFits ws_B_rootLimbFits rm_B_fits E [.ref (ad E b), .int (iI i), .int (iI l1)] w0 (zQi E w0 (fun z w' => (∃ (r3' : Int → Int) (r4' : Int → Int), w' (b + 3) = zar E 30 r3' ∧ w' (b + 4) = zar E 30 r4' ∧ bd r3' 30 0 9999 ∧ bd r4' 30 0 9999 ∧ (((z = 1 ∧ Pf S i (V r1 30) l1) ∨ (z = 0 ∧ ¬ Pf S i (V r1 30) l1)) ∧ V r3' 30 = 2 * S + l1 * Bp i ∧ r3' i = l1 ∧ V r4' 30 = Pv S i l1)) ∧ ∀ k, k ≠ (b + 3) → k ≠ (b + 4) → w' k = w0 k)) := by
  refine z_met (cc := b_B_rootLimbFits) (maxL := 3) (ret := (some .boolean)) (by decide +kernel) rfl (Nat.le_of_ble_eq_true rfl) ?_
  intro p e s m below meth cd ls a Qf hQ hC hl hH
  obtain ⟨hF, hr, hlk, hK, hG, hn⟩ := hC
  obtain ⟨hx, hb, hml, hown, hts⟩ := hF
  have hg : ∀ w ∈ GW, w.before a s = true := fun w h => hts w (List.mem_cons_of_mem _ h)
  have hA : ∀ q, s.heap.size ≤ q → va_A (wl E w0) s.heap.size q := fun q h => Or.inr h
  have hl : lv_has ls 3 [(0, .ref (ad E b)), (1, .int (iI i)), (2, .int (iI l1))] := hl
  refine lv_aload_n hx hb d_B_rootLimbFits_0 rfl (lv_at hl 0 rfl) ?_
  refine zv_get (C := "ScaledNumeralDesk$Bench") (T := TB) (N := 4) hx hb hg uB_in hown hK hH q0lt c0 rfl 2 (by decide) (hg _ wm_117) (fun _ h9 => h9) rfl d_B_rootLimbFits_1 ?_
  refine lv_iload_n hx hb d_B_rootLimbFits_4 rfl (lv_at hl 1 rfl) ?_
  refine lv_iload_n hx hb d_B_rootLimbFits_5 rfl (lv_at hl 2 rfl) ?_
  refine zv_iast hx hb hK hH q3lt c3 (by omega) (by omega) (by omega) d_B_rootLimbFits_6 (fun H2 lc3 w1 hH4 e5 hg6 => ?_)
  have bd7 := bd_up br3 i l1 (by omega)
  have e8 : w1 b = .inr (4, [.ref (ad E (b + 1)), .ref (ad E (b + 2)), .ref (ad E (b + 3)), .ref (ad E (b + 4))]) := (hg6 b (by omega)).trans c0
  have e9 : w1 (b + 1) = zar E 30 r1 := (hg6 (b + 1) (by omega)).trans c1
  have e10 : w1 (b + 2) = zar E 30 r2 := (hg6 (b + 2) (by omega)).trans c2
  have e11 : w1 (b + 4) = zar E 30 r4 := (hg6 (b + 4) (by omega)).trans c4
  have hf12 : ∀ k, k ≠ (b + 3) → w1 k = w0 k := fun k g0 => hg6 k g0
  refine lv_aload_n hx hb d_B_rootLimbFits_7 rfl (lv_at hl 0 rfl) ?_
  refine zv_get (C := "ScaledNumeralDesk$Bench") (T := TB) (N := 4) hx hb hg uB_in hown hK hH4 q0lt e8 rfl 3 (by decide) (hg _ wm_118) (fun _ h9 => h9) rfl d_B_rootLimbFits_8 ?_
  refine lv_aload_n hx hb d_B_rootLimbFits_11 rfl (lv_at hl 0 rfl) ?_
  refine zv_get (C := "ScaledNumeralDesk$Bench") (T := TB) (N := 4) hx hb hg uB_in hown hK hH4 q0lt e8 rfl 2 (by decide) (hg _ wm_117) (fun _ h9 => h9) rfl d_B_rootLimbFits_12 ?_
  refine lv_iload_n hx hb d_B_rootLimbFits_15 rfl (lv_at hl 2 rfl) ?_
  refine lv_iload_n hx hb d_B_rootLimbFits_16 rfl (lv_at hl 1 rfl) ?_
  have xe : V (up r3 i l1) 30 = 2 * S + l1 * Bp i := by rw [V_set r3 (by omega) (by omega)]; omega
  refine z_callv (va_runS (As := [.ref (ad E (b + 4)), .ref (ad E (b + 3)), .int (iI l1), .int (iI i)]) (rest := []) ⟨hx, hb, hml, hown, hts⟩ (c_multiplyByLimb (l := l) (E := E) (w0 := w1) (q := b + 4) (r := b + 3) (N := 30) (M := 30) (f := r4) (g := up r3 i l1) (L := l1) (x := i) (q0lt := q4lt) (q1lt := q3lt) (c0 := e11) (c1 := e5) (hN := by omega) (hM := by omega) (bg := bd7) (hqr := by omega) (hL := by omega) (hx0 := by omega) H2.size) (z_cwS 4 hg wm_566 wm_564 wm_16 wm_565 (by decide +kernel) ⟨Nat.le_of_ble_eq_true rfl, Nat.le_of_ble_eq_true rfl⟩) (z_preS hK hG hn hH4 hA) rfl rfl hl.1 rfl (lv_room (Nat.le_of_ble_eq_true rfl)) d_B_rootLimbFits_17 ⟨Nat.zero_le _, Nat.zero_le _⟩) hH4 hA (fun  w15 H13 lc14 hH16 p17 => ?_)
  obtain ⟨⟨t1, e17, bd18, p17⟩, hg19⟩ := p17
  replace bd18 : bd t1 30 0 9999 := bd18
  replace p17 : V t1 30 = (l1 * V (up r3 i l1) 30 * Bp i) % Bp 30 := p17
  have e20 : w15 b = .inr (4, [.ref (ad E (b + 1)), .ref (ad E (b + 2)), .ref (ad E (b + 3)), .ref (ad E (b + 4))]) := (hg19 b (by omega)).trans e8
  have e21 : w15 (b + 1) = zar E 30 r1 := (hg19 (b + 1) (by omega)).trans e9
  have e22 : w15 (b + 2) = zar E 30 r2 := (hg19 (b + 2) (by omega)).trans e10
  have e23 : w15 (b + 3) = zar E 30 (up r3 i l1) := (hg19 (b + 3) (by omega)).trans e5
  have hf24 : ∀ k, k ≠ (b + 3) → k ≠ (b + 4) → w15 k = w0 k := fun k g0 g1 => (hg19 k g1).trans (hf12 k g0)
  rw [xe] at p17
  have p17 : V t1 30 = Pv S i l1 := p17.trans (Int.emod_eq_of_lt (Pv_nn hS.1 hl1.1) (Pv_lt hS hi hl1))
  refine lv_aload_n hx hb d_B_rootLimbFits_20 rfl (lv_at hl 0 rfl) ?_
  refine zv_get (C := "ScaledNumeralDesk$Bench") (T := TB) (N := 4) hx hb hg uB_in hown hK hH16 q0lt e20 rfl 3 (by decide) (hg _ wm_118) (fun _ h9 => h9) rfl d_B_rootLimbFits_21 ?_
  refine lv_aload_n hx hb d_B_rootLimbFits_24 rfl (lv_at hl 0 rfl) ?_
  refine zv_get (C := "ScaledNumeralDesk$Bench") (T := TB) (N := 4) hx hb hg uB_in hown hK hH16 q0lt e20 rfl 0 (by decide) (hg _ wm_115) (fun _ h9 => h9) rfl d_B_rootLimbFits_25 ?_
  refine z_calli (va_runS (As := [.ref (ad E (b + 4)), .ref (ad E (b + 1))]) (rest := []) ⟨hx, hb, hml, hown, hts⟩ (c_order (l := l) (E := E) (w0 := w15) (q := b + 4) (r := b + 1) (N := 30) (f := t1) (g := r1) (q0lt := q4lt) (q1lt := q1lt) (c0 := e17) (c1 := e21) (hN := by omega) (bf := bd18) (bg := br1) H13.size) (z_cwS 2 hg wm_394 wm_567 wm_16 wm_393 (by decide +kernel) ⟨Nat.le_of_ble_eq_true rfl, Nat.le_of_ble_eq_true rfl⟩) (z_preS hK hG hn hH16 hA) rfl rfl hl.1 rfl (lv_room (Nat.le_of_ble_eq_true rfl)) d_B_rootLimbFits_28 ⟨Nat.zero_le _, Nat.zero_le _⟩) hH16 hA (fun z29 w27 H25 lc26 hH28 p28 => ?_)
  obtain ⟨ew30, p28⟩ := p28
  rw [ew30] at hH28
  replace p28 : (z29 = -1 ∧ V t1 30 < V r1 30) ∨ (z29 = 0 ∧ V t1 30 = V r1 30) ∨ (z29 = 1 ∧ V r1 30 < V t1 30) := p28
  refine zv_if_gt (tgt := 38) hx hb d_B_rootLimbFits_31 rfl (by omega) (fun h31 => ?_) (fun h31 => ?_)
  · refine zv_iconst hx hb d_B_rootLimbFits_38 ?_
    rw [p17] at p28
    rw [hQ]
    exact z_zret hx hb hr hlk hH28 (⟨⟨(up r3 i l1), t1, e23, e17, bd7, bd18, ⟨by unfold Pf; omega, xe, up_at r3 i l1, p17⟩⟩, (fun k g0 g1 => hf24 k g0 g1)⟩) (by exact nar_z (by omega)) d_B_rootLimbFits_39
  · refine zv_iconst hx hb d_B_rootLimbFits_34 ?_
    refine lv_goto (tgt := 39) hx hb d_B_rootLimbFits_35 rfl ?_
    rw [p17] at p28
    rw [hQ]
    exact z_zret hx hb hr hlk hH28 (⟨⟨(up r3 i l1), t1, e23, e17, bd7, bd18, ⟨by unfold Pf; omega, xe, up_at r3 i l1, p17⟩⟩, (fun k g0 g1 => hf24 k g0 g1)⟩) (by exact nar_z (by omega)) d_B_rootLimbFits_39
def rm_B_nextLimb : Room := { frames := 3, cells := 0, slots := 0, locals := 72 }
set_option maxHeartbeats 4000000 in
set_option maxRecDepth 100000 in
theorem c_B_nextLimb (l : Launch) (E : zE) (w0 : zW) (b : Nat) (r1 r2 r3 r4 : Int → Int) (i S : Int) (q0lt : b < zn E) (q1lt : b + 1 < zn E) (q2lt : b + 2 < zn E) (q3lt : b + 3 < zn E) (q4lt : b + 4 < zn E) (c0 : w0 b = .inr (4, [.ref (ad E (b + 1)), .ref (ad E (b + 2)), .ref (ad E (b + 3)), .ref (ad E (b + 4))])) (c1 : w0 (b + 1) = zar E 30 r1) (c2 : w0 (b + 2) = zar E 30 r2) (c3 : w0 (b + 3) = zar E 30 r3) (c4 : w0 (b + 4) = zar E 30 r4) (br1 : bd r1 30 0 9999) (br2 : bd r2 30 0 9999) (br3 : bd r3 30 0 9999) (br4 : bd r4 30 0 9999) (hi : 0 ≤ i ∧ i ≤ 10) (hS : 0 ≤ S ∧ S < Bp 12) (hD : V r3 30 = 2 * S) (hM : S % Bp (i + 1) = 0) : zM l y_B_nextRootLimb ws_B_nextRootLimb rm_B_nextLimb E [.ref (ad E b), .int (iI i)] w0 (zQi E w0 (fun z w' => (∃ (r1' : Int → Int) (r3' : Int → Int) (r4' : Int → Int), w' (b + 1) = zar E 30 r1' ∧ w' (b + 3) = zar E 30 r3' ∧ w' (b + 4) = zar E 30 r4' ∧ bd r1' 30 0 9999 ∧ bd r3' 30 0 9999 ∧ bd r4' 30 0 9999 ∧ (0 ≤ z ∧ z ≤ 9999 ∧ Pf S i (V r1 30) z ∧ (∀ l : Int, 0 ≤ l → l ≤ 9999 → Pf S i (V r1 30) l → l ≤ z) ∧ V r1' 30 = V r1 30 - Pv S i z ∧ V r3' 30 = 2 * (S + z * Bp i))) ∧ ∀ k, k ≠ (b + 1) → k ≠ (b + 3) → k ≠ (b + 4) → w' k = w0 k)) := by
  refine z_met (cc := b_B_nextRootLimb) (maxL := 4) (ret := (some .int)) (by decide +kernel) rfl (Nat.le_of_ble_eq_true rfl) ?_
  intro p e s m below meth cd ls a Qf hQ hC hl hH
  obtain ⟨hF, hr, hlk, hK, hG, hn⟩ := hC
  obtain ⟨hx, hb, hml, hown, hts⟩ := hF
  have hg : ∀ w ∈ GW, w.before a s = true := fun w h => hts w (List.mem_cons_of_mem _ h)
  have hA : ∀ q, s.heap.size ≤ q → va_A (wl E w0) s.heap.size q := fun q h => Or.inr h
  have hl : lv_has ls 4 [(0, .ref (ad E b)), (1, .int (iI i))] := hl
  have vr := V_in br1 (show (0 : Int) ≤ 30 by decide) (Int.le_refl 30)
  have z3 := V_mod br3 (i := i + 1) (by omega) (by omega) (by rw [hD]; exact dbl_mod hM) i hi.1 (by omega)
  refine zv_iconst hx hb d_B_nextRootLimb_0 ?_
  refine lv_istore_n (lv' := [(2, .int (iI 0)), (0, .ref (ad E b)), (1, .int (iI i))]) hx hb d_B_nextRootLimb_1 rfl hl (by decide) rfl (fun ls hl => ?_)
  refine zv_sipush hx hb d_B_nextRootLimb_2 rfl ?_
  refine lv_istore_n (lv' := [(3, .int (iI 8192)), (2, .int (iI 0)), (0, .ref (ad E b)), (1, .int (iI i))]) hx hb d_B_nextRootLimb_5 rfl hl (by decide) rfl (fun ls hl => ?_)
  have L6 : ∀ (fu : Nat) (u : Int) (b1 : Int) (d3 : Int → Int) (d4 : Int → Int) (ls : Array Slot) (H1 : Heap) (lc2 : List Loc) (w3 : zW), (lv_has ls 4 [(3, .int (iI b1)), (2, .int (iI u)), (0, .ref (ad E b)), (1, .int (iI i))]) → (zH E w3 (va_A (wl E w0) s.heap.size) s.heap H1 lc2) → (w3 b = .inr (4, [.ref (ad E (b + 1)), .ref (ad E (b + 2)), .ref (ad E (b + 3)), .ref (ad E (b + 4))])) → (w3 (b + 1) = zar E 30 r1) → (w3 (b + 2) = zar E 30 r2) → (w3 (b + 3) = zar E 30 d3) → (w3 (b + 4) = zar E 30 d4) → (∀ k, k ≠ (b + 3) → k ≠ (b + 4) → w3 k = w0 k) → (bd d3 30 0 9999) → (bd d4 30 0 9999) → (0 ≤ u ∧ u ≤ 9999) → (isbit b1) → (0 ≤ b1 ∧ b1 ≤ 8192) → (Pf S i (V r1 30) u) → (∀ l : Int, 0 ≤ l → l ≤ 9999 → Pf S i (V r1 30) l → l < u + nb b1) → (V d3 30 - d3 i * Bp i = 2 * S) → (b1 < (fu : Int)) → W p l e rm_B_nextLimb s m a below meth cd H1 lc2 0 0 Qf (F0 m 6 ls []) := by
    intro fu
    induction fu with
    | zero => intro u b1 d3 d4 ls H1 lc2 w3 hl hH e4 e5 e6 e7 e8 hf9 bd3 bd4 hu hb1 hb0 hP hub hD3 hm; exact absurd hm (by omega)
    | succ fu ih =>
      intro u b1 d3 d4 ls H1 lc2 w3 hl hH e4 e5 e6 e7 e8 hf9 bd3 bd4 hu hb1 hb0 hP hub hD3 hm
      have bi := bit_in hb1
      refine lv_iload_n hx hb d_B_nextRootLimb_6 rfl (lv_at hl 0 rfl) ?_
      refine zv_if_le (tgt := 41) hx hb d_B_nextRootLimb_7 rfl (by omega) (fun h10 => ?_) (fun h10 => ?_)
      · have b0 : b1 = 0 := by omega
        subst b0
        refine lv_aload_n hx hb d_B_nextRootLimb_41 rfl (lv_at hl 2 rfl) ?_
        refine lv_iload_n hx hb d_B_nextRootLimb_42 rfl (lv_at hl 3 rfl) ?_
        refine lv_iload_n hx hb d_B_nextRootLimb_43 rfl (lv_at hl 1 rfl) ?_
        refine z_calli (va_runV (As := [.int (iI i), .int (iI u)]) (rest := []) ⟨hx, hb, hml, hown, hts⟩ (c_B_fits (l := l) (E := E) (w0 := w3) (b := b) (r1 := r1) (r2 := r2) (r3 := d3) (r4 := d4) (i := i) (l1 := u) (S := S) (q0lt := q0lt) (q1lt := q1lt) (q2lt := q2lt) (q3lt := q3lt) (q4lt := q4lt) (c0 := e4) (c1 := e5) (c2 := e6) (c3 := e7) (c4 := e8) (br1 := br1) (br2 := br2) (br3 := bd3) (br4 := bd4) (hi := by omega) (hS := by omega) (hl1 := by omega) (hD := by omega) H1.size) (z_cwV (C := "ScaledNumeralDesk$Bench") 2 hg wm_563 wm_560 wm_8 wm_562 wm_s26 (by decide +kernel) ⟨Nat.le_of_ble_eq_true rfl, Nat.le_of_ble_eq_true rfl⟩) (z_preV (r := ("ScaledNumeralDesk$Bench", TB, 4)) hK hG hn hH hA q0lt e4 rfl) rfl rfl hl.1 rfl (lv_room (Nat.le_of_ble_eq_true rfl)) d_B_nextRootLimb_44 ⟨Nat.zero_le _, Nat.zero_le _⟩) hH hA (fun k2 w13 H11 lc12 hH14 p44 => ?_)
        obtain ⟨⟨m3, m4, e15, e16, bd17, bd18, p44⟩, hg19⟩ := p44
        replace bd17 : bd m3 30 0 9999 := bd17
        replace bd18 : bd m4 30 0 9999 := bd18
        replace p44 : ((k2 = 1 ∧ Pf S i (V r1 30) u) ∨ (k2 = 0 ∧ ¬ Pf S i (V r1 30) u)) ∧ V m3 30 = 2 * S + u * Bp i ∧ m3 i = u ∧ V m4 30 = Pv S i u := p44
        have e20 : w13 b = .inr (4, [.ref (ad E (b + 1)), .ref (ad E (b + 2)), .ref (ad E (b + 3)), .ref (ad E (b + 4))]) := (hg19 b (by omega) (by omega)).trans e4
        have e21 : w13 (b + 1) = zar E 30 r1 := (hg19 (b + 1) (by omega) (by omega)).trans e5
        have e22 : w13 (b + 2) = zar E 30 r2 := (hg19 (b + 2) (by omega) (by omega)).trans e6
        have hf23 : ∀ k, k ≠ (b + 3) → k ≠ (b + 4) → w13 k = w0 k := fun k g0 g1 => (hg19 k g0 g1).trans (hf9 k g0 g1)
        have pn := Pv_nn (i := i) hS.1 hu.1
        have hPu : Pv S i u ≤ V r1 30 := hP
        refine zv_if_eq (tgt := 65) hx hb d_B_nextRootLimb_47 rfl (by omega) (fun h24 => absurd h24 (by intro h9; rcases p44.1 with h8 | h8; exact absurd h8.1 (by omega); exact h8.2 hP)) (fun h24 => ?_)
        refine lv_aload_n hx hb d_B_nextRootLimb_50 rfl (lv_at hl 2 rfl) ?_
        refine zv_get (C := "ScaledNumeralDesk$Bench") (T := TB) (N := 4) hx hb hg uB_in hown hK hH14 q0lt e20 rfl 0 (by decide) (hg _ wm_115) (fun _ h9 => h9) rfl d_B_nextRootLimb_51 ?_
        refine lv_aload_n hx hb d_B_nextRootLimb_54 rfl (lv_at hl 2 rfl) ?_
        refine zv_get (C := "ScaledNumeralDesk$Bench") (T := TB) (N := 4) hx hb hg uB_in hown hK hH14 q0lt e20 rfl 0 (by decide) (hg _ wm_115) (fun _ h9 => h9) rfl d_B_nextRootLimb_55 ?_
        refine lv_aload_n hx hb d_B_nextRootLimb_58 rfl (lv_at hl 2 rfl) ?_
        refine zv_get (C := "ScaledNumeralDesk$Bench") (T := TB) (N := 4) hx hb hg uB_in hown hK hH14 q0lt e20 rfl 3 (by decide) (hg _ wm_118) (fun _ h9 => h9) rfl d_B_nextRootLimb_59 ?_
        refine z_callv (va_runS (As := [.ref (ad E (b + 1)), .ref (ad E (b + 1)), .ref (ad E (b + 4))]) (rest := []) ⟨hx, hb, hml, hown, hts⟩ (c_subG (l := l) (E := E) (w0 := w13) (q := b + 1) (r := b + 4) (N := 30) (f := r1) (g := m4) (q0lt := q1lt) (q1lt := q4lt) (c0 := e21) (c1 := e16) (hN := by omega) (bf := br1) (bg := bd18) (hqr := by omega) H11.size) (z_cwS 3 hg wm_398 wm_568 wm_16 wm_397 (by decide +kernel) ⟨Nat.le_of_ble_eq_true rfl, Nat.le_of_ble_eq_true rfl⟩) (z_preS hK hG hn hH14 hA) rfl rfl hl.1 rfl (lv_room (Nat.le_of_ble_eq_true rfl)) d_B_nextRootLimb_62 ⟨Nat.zero_le _, Nat.zero_le _⟩) hH14 hA (fun  w27 H25 lc26 hH28 p62 => ?_)
        obtain ⟨⟨m1, e29, bd30, p62⟩, hg31⟩ := p62
        replace bd30 : bd m1 30 0 9999 := bd30
        replace p62 : V m1 30 = (V r1 30 - V m4 30) % Bp 30 := p62
        have e32 : w27 b = .inr (4, [.ref (ad E (b + 1)), .ref (ad E (b + 2)), .ref (ad E (b + 3)), .ref (ad E (b + 4))]) := (hg31 b (by omega)).trans e20
        have e33 : w27 (b + 2) = zar E 30 r2 := (hg31 (b + 2) (by omega)).trans e22
        have e34 : w27 (b + 3) = zar E 30 m3 := (hg31 (b + 3) (by omega)).trans e15
        have e35 : w27 (b + 4) = zar E 30 m4 := (hg31 (b + 4) (by omega)).trans e16
        have hf36 : ∀ k, k ≠ (b + 3) → k ≠ (b + 4) → k ≠ (b + 1) → w27 k = w0 k := fun k g0 g1 g2 => (hg31 k g2).trans (hf23 k g0 g1)
        have p62 : V m1 30 = V r1 30 - Pv S i u := by rw [p62, p44.2.2.2]; exact Int.emod_eq_of_lt (by omega) (by omega)
        refine lv_aload_n hx hb d_B_nextRootLimb_65 rfl (lv_at hl 2 rfl) ?_
        refine zv_get (C := "ScaledNumeralDesk$Bench") (T := TB) (N := 4) hx hb hg uB_in hown hK hH28 q0lt e32 rfl 2 (by decide) (hg _ wm_117) (fun _ h9 => h9) rfl d_B_nextRootLimb_66 ?_
        refine lv_iload_n hx hb d_B_nextRootLimb_69 rfl (lv_at hl 3 rfl) ?_
        refine zv_iconst hx hb d_B_nextRootLimb_70 ?_
        refine lv_iload_n hx hb d_B_nextRootLimb_71 rfl (lv_at hl 1 rfl) ?_
        refine zv_imul hx hb d_B_nextRootLimb_72 ?_
        refine zv_sipush hx hb d_B_nextRootLimb_73 rfl ?_
        refine zv_irem hx hb (by omega) (by omega) (by omega) (by omega) d_B_nextRootLimb_76 ?_
        have v6 : V (up m3 i ((2 * u) % 10000)) 30 = 2 * S + (2 * u) % 10000 * Bp i := by rw [V_set m3 (by omega) (by omega), p44.2.2.1, p44.2.1]; omega
        refine zv_iast hx hb hK hH28 q3lt e34 (by omega) (by omega) (by omega) d_B_nextRootLimb_77 (fun H38 lc39 w37 hH40 e41 hg42 => ?_)
        have bd43 := bd_up bd17 i ((2 * u) % 10000) (by omega)
        have e44 : w37 b = .inr (4, [.ref (ad E (b + 1)), .ref (ad E (b + 2)), .ref (ad E (b + 3)), .ref (ad E (b + 4))]) := (hg42 b (by omega)).trans e32
        have e45 : w37 (b + 1) = zar E 30 m1 := (hg42 (b + 1) (by omega)).trans e29
        have e46 : w37 (b + 2) = zar E 30 r2 := (hg42 (b + 2) (by omega)).trans e33
        have e47 : w37 (b + 4) = zar E 30 m4 := (hg42 (b + 4) (by omega)).trans e35
        have hf48 : ∀ k, k ≠ (b + 3) → k ≠ (b + 4) → k ≠ (b + 1) → w37 k = w0 k := fun k g0 g1 g2 => (hg42 k g0).trans (hf36 k g0 g1 g2)
        refine zv_iconst hx hb d_B_nextRootLimb_78 ?_
        refine lv_iload_n hx hb d_B_nextRootLimb_79 rfl (lv_at hl 1 rfl) ?_
        refine zv_imul hx hb d_B_nextRootLimb_80 ?_
        refine zv_sipush hx hb d_B_nextRootLimb_81 rfl ?_
        refine zv_icmp_lt (tgt := 99) hx hb d_B_nextRootLimb_84 rfl (by omega) (by omega) (fun h49 => ?_) (fun h49 => ?_)
        · refine lv_iload_n hx hb d_B_nextRootLimb_99 rfl (lv_at hl 1 rfl) ?_
          have mx : ∀ l : Int, 0 ≤ l → l ≤ 9999 → Pf S i (V r1 30) l → l ≤ u := fun l g1 g2 g3 => by have := hub l g1 g2 g3; rw [nb_0] at this; omega
          rw [hQ]
          exact z_iret hx hb hr hlk hH40 (⟨⟨m1, (up m3 i ((2 * u) % 10000)), m4, e45, e41, e47, bd30, bd43, bd18, ⟨hu.1, hu.2, hP, mx, p62, by rw [v6, show 2 * u % 10000 = 2 * u by omega, Int.mul_add, Int.mul_assoc]⟩⟩, (fun k g0 g1 g2 => hf48 k g1 g2 g0)⟩) d_B_nextRootLimb_100
        · refine lv_aload_n hx hb d_B_nextRootLimb_87 rfl (lv_at hl 2 rfl) ?_
          refine zv_get (C := "ScaledNumeralDesk$Bench") (T := TB) (N := 4) hx hb hg uB_in hown hK hH40 q0lt e44 rfl 2 (by decide) (hg _ wm_117) (fun _ h9 => h9) rfl d_B_nextRootLimb_88 ?_
          refine lv_iload_n hx hb d_B_nextRootLimb_91 rfl (lv_at hl 3 rfl) ?_
          refine zv_iconst hx hb d_B_nextRootLimb_92 ?_
          refine zv_iadd hx hb d_B_nextRootLimb_93 ?_
          refine zv_iconst hx hb d_B_nextRootLimb_94 ?_
          refine zv_imul hx hb d_B_nextRootLimb_95 ?_
          refine z_callv (va_runS (As := [.ref (ad E (b + 3)), .int (iI ((i + 1) * 4))]) (rest := []) ⟨hx, hb, hml, hown, hts⟩ (c_addOneAt (l := l) (E := E) (w0 := w37) (q := b + 3) (N := 30) (f := up m3 i ((2 * u) % 10000)) (x := (i + 1) * 4) (q0lt := q3lt) (c0 := e41) (hN := by omega) (bf := bd43) (hp := by omega) H38.size) (z_cwS 2 hg wm_288 wm_569 wm_16 wm_287 (by decide +kernel) ⟨Nat.le_of_ble_eq_true rfl, Nat.le_of_ble_eq_true rfl⟩) (z_preS hK hG hn hH40 hA) rfl rfl hl.1 rfl (lv_room (Nat.le_of_ble_eq_true rfl)) d_B_nextRootLimb_96 ⟨Nat.zero_le _, Nat.zero_le _⟩) hH40 hA (fun  w52 H50 lc51 hH53 p96 => ?_)
          obtain ⟨⟨m5, e54, bd55, p96⟩, hg56⟩ := p96
          replace bd55 : bd m5 30 0 9999 := bd55
          replace p96 : V m5 30 = (if ((i + 1) * 4) < 0 then V (up m3 i ((2 * u) % 10000)) 30 else (V (up m3 i ((2 * u) % 10000)) 30 + Tp ((i + 1) * 4)) % Bp 30) := p96
          have e57 : w52 b = .inr (4, [.ref (ad E (b + 1)), .ref (ad E (b + 2)), .ref (ad E (b + 3)), .ref (ad E (b + 4))]) := (hg56 b (by omega)).trans e44
          have e58 : w52 (b + 1) = zar E 30 m1 := (hg56 (b + 1) (by omega)).trans e45
          have e59 : w52 (b + 2) = zar E 30 r2 := (hg56 (b + 2) (by omega)).trans e46
          have e60 : w52 (b + 4) = zar E 30 m4 := (hg56 (b + 4) (by omega)).trans e47
          have hf61 : ∀ k, k ≠ (b + 3) → k ≠ (b + 4) → k ≠ (b + 1) → w52 k = w0 k := fun k g0 g1 g2 => (hg56 k g0).trans (hf48 k g0 g1 g2)
          refine lv_iload_n hx hb d_B_nextRootLimb_99 rfl (lv_at hl 1 rfl) ?_
          have mx : ∀ l : Int, 0 ≤ l → l ≤ 9999 → Pf S i (V r1 30) l → l ≤ u := fun l g1 g2 g3 => by have := hub l g1 g2 g3; rw [nb_0] at this; omega
          rw [hQ]
          exact z_iret hx hb hr hlk hH53 (⟨⟨m1, m5, m4, e58, e54, e60, bd30, bd55, bd18, ⟨hu.1, hu.2, hP, mx, p62, by
              rw [p96, if_neg (by omega), v6, show (i + 1) * 4 = 4 * (i + 1) by omega, ← Bp_Tp (by omega), Bp_s (by omega), show 2 * u % 10000 = 2 * u - 10000 by omega, Int.sub_mul, Int.mul_assoc 2 u]
              have w9 := nl_lt hS hi hu
              rw [show 2 * S + (2 * (u * Bp i) - 10000 * Bp i) + 10000 * Bp i = 2 * (S + u * Bp i) by omega]
              exact Int.emod_eq_of_lt (by omega) (by omega)⟩⟩, (fun k g0 g1 g2 => hf61 k g1 g2 g0)⟩) d_B_nextRootLimb_100
      · refine lv_iload_n hx hb d_B_nextRootLimb_10 rfl (lv_at hl 1 rfl) ?_
        refine lv_iload_n hx hb d_B_nextRootLimb_11 rfl (lv_at hl 0 rfl) ?_
        refine zv_iadd hx hb d_B_nextRootLimb_12 ?_
        refine zv_sipush hx hb d_B_nextRootLimb_13 rfl ?_
        refine zv_icmp_ge (tgt := 34) hx hb d_B_nextRootLimb_16 rfl (by omega) (by omega) (fun h62 => ?_) (fun h62 => ?_)
        · have hP2 := hP
          have hub2 : ∀ l : Int, 0 ≤ l → l ≤ 9999 → Pf S i (V r1 30) l → l < u + b1 := fun l g1 g2 _ => by omega
          have hD2 := hD3
          refine lv_iload_n hx hb d_B_nextRootLimb_34 rfl (lv_at hl 0 rfl) ?_
          refine zv_iconst hx hb d_B_nextRootLimb_35 ?_
          refine zv_idiv hx hb (by omega) (by omega) (by omega) (by omega) d_B_nextRootLimb_36 ?_
          refine lv_istore_n (lv' := [(3, .int (iI (b1 / 2))), (2, .int (iI u)), (0, .ref (ad E b)), (1, .int (iI i))]) hx hb d_B_nextRootLimb_37 rfl hl (by decide) rfl (fun ls hl => ?_)
          refine lv_goto (tgt := 6) hx hb d_B_nextRootLimb_38 rfl ?_
          exact ih  u (b1 / 2) d3 d4 _ H1 lc2 w3 (lv_sub hl [0, 1, 2, 3] rfl) hH e4 e5 e6 e7 e8 (fun k g0 g1 => hf9 k g0 g1) (by assumption) (by assumption) (by omega) (by exact (bit_half hb1 (by omega)).1) (by omega) (by exact hP2) (by rw [(bit_half hb1 (by omega)).2]; exact hub2) (by exact hD2) (by omega)
        · refine lv_aload_n hx hb d_B_nextRootLimb_19 rfl (lv_at hl 2 rfl) ?_
          refine lv_iload_n hx hb d_B_nextRootLimb_20 rfl (lv_at hl 3 rfl) ?_
          refine lv_iload_n hx hb d_B_nextRootLimb_21 rfl (lv_at hl 1 rfl) ?_
          refine lv_iload_n hx hb d_B_nextRootLimb_22 rfl (lv_at hl 0 rfl) ?_
          refine zv_iadd hx hb d_B_nextRootLimb_23 ?_
          refine z_calli (va_runV (As := [.int (iI i), .int (iI (u + b1))]) (rest := []) ⟨hx, hb, hml, hown, hts⟩ (c_B_fits (l := l) (E := E) (w0 := w3) (b := b) (r1 := r1) (r2 := r2) (r3 := d3) (r4 := d4) (i := i) (l1 := u + b1) (S := S) (q0lt := q0lt) (q1lt := q1lt) (q2lt := q2lt) (q3lt := q3lt) (q4lt := q4lt) (c0 := e4) (c1 := e5) (c2 := e6) (c3 := e7) (c4 := e8) (br1 := br1) (br2 := br2) (br3 := bd3) (br4 := bd4) (hi := by omega) (hS := by omega) (hl1 := by omega) (hD := by omega) H1.size) (z_cwV (C := "ScaledNumeralDesk$Bench") 2 hg wm_563 wm_560 wm_8 wm_562 wm_s26 (by decide +kernel) ⟨Nat.le_of_ble_eq_true rfl, Nat.le_of_ble_eq_true rfl⟩) (z_preV (r := ("ScaledNumeralDesk$Bench", TB, 4)) hK hG hn hH hA q0lt e4 rfl) rfl rfl hl.1 rfl (lv_room (Nat.le_of_ble_eq_true rfl)) d_B_nextRootLimb_24 ⟨Nat.zero_le _, Nat.zero_le _⟩) hH hA (fun k1 w65 H63 lc64 hH66 p24 => ?_)
          obtain ⟨⟨n3, n4, e67, e68, bd69, bd70, p24⟩, hg71⟩ := p24
          replace bd69 : bd n3 30 0 9999 := bd69
          replace bd70 : bd n4 30 0 9999 := bd70
          replace p24 : ((k1 = 1 ∧ Pf S i (V r1 30) (u + b1)) ∨ (k1 = 0 ∧ ¬ Pf S i (V r1 30) (u + b1))) ∧ V n3 30 = 2 * S + (u + b1) * Bp i ∧ n3 i = (u + b1) ∧ V n4 30 = Pv S i (u + b1) := p24
          have e72 : w65 b = .inr (4, [.ref (ad E (b + 1)), .ref (ad E (b + 2)), .ref (ad E (b + 3)), .ref (ad E (b + 4))]) := (hg71 b (by omega) (by omega)).trans e4
          have e73 : w65 (b + 1) = zar E 30 r1 := (hg71 (b + 1) (by omega) (by omega)).trans e5
          have e74 : w65 (b + 2) = zar E 30 r2 := (hg71 (b + 2) (by omega) (by omega)).trans e6
          have hf75 : ∀ k, k ≠ (b + 3) → k ≠ (b + 4) → w65 k = w0 k := fun k g0 g1 => (hg71 k g0 g1).trans (hf9 k g0 g1)
          have hDn : V n3 30 - n3 i * Bp i = 2 * S := by rw [p24.2.2.1, p24.2.1]; omega
          refine zv_if_eq (tgt := 34) hx hb d_B_nextRootLimb_27 rfl (by omega) (fun h76 => ?_) (fun h76 => ?_)
          · have hP2 := hP
            have hub2 : ∀ l : Int, 0 ≤ l → l ≤ 9999 → Pf S i (V r1 30) l → l < u + b1 := fun l g1 g2 g3 => not_Pf hS.1 (by omega) (by rcases p24.1 with h8 | h8; exact absurd h8.1 (by omega); exact h8.2) g3
            have hD2 := hDn
            refine lv_iload_n hx hb d_B_nextRootLimb_34 rfl (lv_at hl 0 rfl) ?_
            refine zv_iconst hx hb d_B_nextRootLimb_35 ?_
            refine zv_idiv hx hb (by omega) (by omega) (by omega) (by omega) d_B_nextRootLimb_36 ?_
            refine lv_istore_n (lv' := [(3, .int (iI (b1 / 2))), (2, .int (iI u)), (0, .ref (ad E b)), (1, .int (iI i))]) hx hb d_B_nextRootLimb_37 rfl hl (by decide) rfl (fun ls hl => ?_)
            refine lv_goto (tgt := 6) hx hb d_B_nextRootLimb_38 rfl ?_
            exact ih  u (b1 / 2) n3 n4 _ H63 lc64 w65 (lv_sub hl [0, 1, 2, 3] rfl) hH66 e72 e73 e74 e67 e68 (fun k g0 g1 => hf75 k g0 g1) (by assumption) (by assumption) (by omega) (by exact (bit_half hb1 (by omega)).1) (by omega) (by exact hP2) (by rw [(bit_half hb1 (by omega)).2]; exact hub2) (by exact hD2) (by omega)
          · have hP2 : Pf S i (V r1 30) (u + b1) := by rcases p24.1 with h8 | h8; exact h8.2; exact absurd h8.1 (by omega)
            have hub2 : ∀ l : Int, 0 ≤ l → l ≤ 9999 → Pf S i (V r1 30) l → l < u + b1 + b1 := fun l g1 g2 g3 => by have := hub l g1 g2 g3; rw [nb_pos (by omega)] at this; omega
            have hD2 := hDn
            refine lv_iload_n hx hb d_B_nextRootLimb_30 rfl (lv_at hl 1 rfl) ?_
            refine lv_iload_n hx hb d_B_nextRootLimb_31 rfl (lv_at hl 0 rfl) ?_
            refine zv_iadd hx hb d_B_nextRootLimb_32 ?_
            refine lv_istore_n (lv' := [(2, .int (iI (u + b1))), (3, .int (iI b1)), (0, .ref (ad E b)), (1, .int (iI i))]) hx hb d_B_nextRootLimb_33 rfl hl (by decide) rfl (fun ls hl => ?_)
            refine lv_iload_n hx hb d_B_nextRootLimb_34 rfl (lv_at hl 1 rfl) ?_
            refine zv_iconst hx hb d_B_nextRootLimb_35 ?_
            refine zv_idiv hx hb (by omega) (by omega) (by omega) (by omega) d_B_nextRootLimb_36 ?_
            refine lv_istore_n (lv' := [(3, .int (iI (b1 / 2))), (2, .int (iI (u + b1))), (0, .ref (ad E b)), (1, .int (iI i))]) hx hb d_B_nextRootLimb_37 rfl hl (by decide) rfl (fun ls hl => ?_)
            refine lv_goto (tgt := 6) hx hb d_B_nextRootLimb_38 rfl ?_
            exact ih  (u + b1) (b1 / 2) n3 n4 _ H63 lc64 w65 (lv_sub hl [0, 1, 2, 3] rfl) hH66 e72 e73 e74 e67 e68 (fun k g0 g1 => hf75 k g0 g1) (by assumption) (by assumption) (by omega) (by exact (bit_half hb1 (by omega)).1) (by omega) (by exact hP2) (by rw [(bit_half hb1 (by omega)).2]; exact hub2) (by exact hD2) (by omega)
  exact L6 ((8192 : Int).toNat + 1) 0 8192 r3 r4 _ s.heap ([]) w0 (lv_sub hl [0, 1, 2, 3] rfl) hH c0 c1 c2 c3 c4 (fun k _ _ => rfl) (by exact br3) (by exact br4) (by omega) (by unfold isbit; omega) (by omega) (by unfold Pf; rw [Pv_0]; exact vr.1) (by intro l g1 g2 _; show l < 0 + 16384; omega) (by rw [z3]; omega) (by omega)
