theorem nx_B_share_0 {b q r t : Nat} (hqt : t + 2 < q) (hrt : t + 2 < r) (hbt : b + 4 < t) : b ≠ t := by omega
theorem nx_B_share_1 {b q r t : Nat} (hqt : t + 2 < q) (hrt : t + 2 < r) (hbt : b + 4 < t) : b ≠ t + 1 := by omega
theorem nx_B_share_2 {b q r t : Nat} (hqt : t + 2 < q) (hrt : t + 2 < r) (hbt : b + 4 < t) : b ≠ t + 2 := by omega
theorem nx_B_share_3 {b q r t : Nat} (hqt : t + 2 < q) (hrt : t + 2 < r) (hbt : b + 4 < t) : b + 1 ≠ t := by omega
theorem nx_B_share_4 {b q r t : Nat} (hqt : t + 2 < q) (hrt : t + 2 < r) (hbt : b + 4 < t) : b + 1 ≠ t + 1 := by omega
theorem nx_B_share_5 {b q r t : Nat} (hqt : t + 2 < q) (hrt : t + 2 < r) (hbt : b + 4 < t) : b + 1 ≠ t + 2 := by omega
theorem nx_B_share_6 {b q r t : Nat} (hqt : t + 2 < q) (hrt : t + 2 < r) (hbt : b + 4 < t) : b + 2 ≠ t := by omega
theorem nx_B_share_7 {b q r t : Nat} (hqt : t + 2 < q) (hrt : t + 2 < r) (hbt : b + 4 < t) : b + 2 ≠ t + 1 := by omega
theorem nx_B_share_8 {b q r t : Nat} (hqt : t + 2 < q) (hrt : t + 2 < r) (hbt : b + 4 < t) : b + 2 ≠ t + 2 := by omega
theorem nx_B_share_9 {b q r t : Nat} (hqt : t + 2 < q) (hrt : t + 2 < r) (hbt : b + 4 < t) : b + 3 ≠ t := by omega
theorem nx_B_share_10 {b q r t : Nat} (hqt : t + 2 < q) (hrt : t + 2 < r) (hbt : b + 4 < t) : b + 3 ≠ t + 1 := by omega
theorem nx_B_share_11 {b q r t : Nat} (hqt : t + 2 < q) (hrt : t + 2 < r) (hbt : b + 4 < t) : b + 3 ≠ t + 2 := by omega
theorem nx_B_share_12 {b q r t : Nat} (hqt : t + 2 < q) (hrt : t + 2 < r) (hbt : b + 4 < t) : b + 4 ≠ t := by omega
theorem nx_B_share_13 {b q r t : Nat} (hqt : t + 2 < q) (hrt : t + 2 < r) (hbt : b + 4 < t) : b + 4 ≠ t + 1 := by omega
theorem nx_B_share_14 {b q r t : Nat} (hqt : t + 2 < q) (hrt : t + 2 < r) (hbt : b + 4 < t) : b + 4 ≠ t + 2 := by omega
theorem nx_B_share_15 {b q r t : Nat} (hqt : t + 2 < q) (hrt : t + 2 < r) (hbt : b + 4 < t) : q ≠ t := by omega
theorem nx_B_share_16 {b q r t : Nat} (hqt : t + 2 < q) (hrt : t + 2 < r) (hbt : b + 4 < t) : q ≠ t + 1 := by omega
theorem nx_B_share_17 {b q r t : Nat} (hqt : t + 2 < q) (hrt : t + 2 < r) (hbt : b + 4 < t) : q ≠ t + 2 := by omega
theorem nx_B_share_18 {b q r t : Nat} (hqt : t + 2 < q) (hrt : t + 2 < r) (hbt : b + 4 < t) : q + 1 ≠ t := by omega
theorem nx_B_share_19 {b q r t : Nat} (hqt : t + 2 < q) (hrt : t + 2 < r) (hbt : b + 4 < t) : q + 1 ≠ t + 1 := by omega
theorem nx_B_share_20 {b q r t : Nat} (hqt : t + 2 < q) (hrt : t + 2 < r) (hbt : b + 4 < t) : q + 1 ≠ t + 2 := by omega
theorem nx_B_share_21 {b q r t : Nat} (hqt : t + 2 < q) (hrt : t + 2 < r) (hbt : b + 4 < t) : q + 2 ≠ t := by omega
theorem nx_B_share_22 {b q r t : Nat} (hqt : t + 2 < q) (hrt : t + 2 < r) (hbt : b + 4 < t) : q + 2 ≠ t + 1 := by omega
theorem nx_B_share_23 {b q r t : Nat} (hqt : t + 2 < q) (hrt : t + 2 < r) (hbt : b + 4 < t) : q + 2 ≠ t + 2 := by omega
theorem nx_B_share_24 {b q r t : Nat} (hqt : t + 2 < q) (hrt : t + 2 < r) (hbt : b + 4 < t) : r ≠ t := by omega
theorem nx_B_share_25 {b q r t : Nat} (hqt : t + 2 < q) (hrt : t + 2 < r) (hbt : b + 4 < t) : r ≠ t + 1 := by omega
theorem nx_B_share_26 {b q r t : Nat} (hqt : t + 2 < q) (hrt : t + 2 < r) (hbt : b + 4 < t) : r ≠ t + 2 := by omega
theorem nx_B_share_27 {b q r t : Nat} (hqt : t + 2 < q) (hrt : t + 2 < r) (hbt : b + 4 < t) : r + 1 ≠ t := by omega
theorem nx_B_share_28 {b q r t : Nat} (hqt : t + 2 < q) (hrt : t + 2 < r) (hbt : b + 4 < t) : r + 1 ≠ t + 1 := by omega
theorem nx_B_share_29 {b q r t : Nat} (hqt : t + 2 < q) (hrt : t + 2 < r) (hbt : b + 4 < t) : r + 1 ≠ t + 2 := by omega
theorem nx_B_share_30 {b q r t : Nat} (hqt : t + 2 < q) (hrt : t + 2 < r) (hbt : b + 4 < t) : r + 2 ≠ t := by omega
theorem nx_B_share_31 {b q r t : Nat} (hqt : t + 2 < q) (hrt : t + 2 < r) (hbt : b + 4 < t) : r + 2 ≠ t + 1 := by omega
theorem nx_B_share_32 {b q r t : Nat} (hqt : t + 2 < q) (hrt : t + 2 < r) (hbt : b + 4 < t) : r + 2 ≠ t + 2 := by omega
theorem nx_B_share_33 {b q r t : Nat} (hqt : t + 2 < q) (hrt : t + 2 < r) (hbt : b + 4 < t) : b ≠ b + 1 := by omega
theorem nx_B_share_34 {b q r t : Nat} (hqt : t + 2 < q) (hrt : t + 2 < r) (hbt : b + 4 < t) : b ≠ b + 2 := by omega
theorem nx_B_share_35 {b q r t : Nat} (hqt : t + 2 < q) (hrt : t + 2 < r) (hbt : b + 4 < t) : b + 3 ≠ b + 1 := by omega
theorem nx_B_share_36 {b q r t : Nat} (hqt : t + 2 < q) (hrt : t + 2 < r) (hbt : b + 4 < t) : b + 3 ≠ b + 2 := by omega
theorem nx_B_share_37 {b q r t : Nat} (hqt : t + 2 < q) (hrt : t + 2 < r) (hbt : b + 4 < t) : b + 4 ≠ b + 1 := by omega
theorem nx_B_share_38 {b q r t : Nat} (hqt : t + 2 < q) (hrt : t + 2 < r) (hbt : b + 4 < t) : b + 4 ≠ b + 2 := by omega
theorem nx_B_share_39 {b q r t : Nat} (hqt : t + 2 < q) (hrt : t + 2 < r) (hbt : b + 4 < t) : q ≠ b + 1 := by omega
theorem nx_B_share_40 {b q r t : Nat} (hqt : t + 2 < q) (hrt : t + 2 < r) (hbt : b + 4 < t) : q ≠ b + 2 := by omega
theorem nx_B_share_41 {b q r t : Nat} (hqt : t + 2 < q) (hrt : t + 2 < r) (hbt : b + 4 < t) : q + 1 ≠ b + 1 := by omega
theorem nx_B_share_42 {b q r t : Nat} (hqt : t + 2 < q) (hrt : t + 2 < r) (hbt : b + 4 < t) : q + 1 ≠ b + 2 := by omega
theorem nx_B_share_43 {b q r t : Nat} (hqt : t + 2 < q) (hrt : t + 2 < r) (hbt : b + 4 < t) : q + 2 ≠ b + 1 := by omega
theorem nx_B_share_44 {b q r t : Nat} (hqt : t + 2 < q) (hrt : t + 2 < r) (hbt : b + 4 < t) : q + 2 ≠ b + 2 := by omega
theorem nx_B_share_45 {b q r t : Nat} (hqt : t + 2 < q) (hrt : t + 2 < r) (hbt : b + 4 < t) : r ≠ b + 1 := by omega
theorem nx_B_share_46 {b q r t : Nat} (hqt : t + 2 < q) (hrt : t + 2 < r) (hbt : b + 4 < t) : r ≠ b + 2 := by omega
theorem nx_B_share_47 {b q r t : Nat} (hqt : t + 2 < q) (hrt : t + 2 < r) (hbt : b + 4 < t) : r + 1 ≠ b + 1 := by omega
theorem nx_B_share_48 {b q r t : Nat} (hqt : t + 2 < q) (hrt : t + 2 < r) (hbt : b + 4 < t) : r + 1 ≠ b + 2 := by omega
theorem nx_B_share_49 {b q r t : Nat} (hqt : t + 2 < q) (hrt : t + 2 < r) (hbt : b + 4 < t) : r + 2 ≠ b + 1 := by omega
theorem nx_B_share_50 {b q r t : Nat} (hqt : t + 2 < q) (hrt : t + 2 < r) (hbt : b + 4 < t) : r + 2 ≠ b + 2 := by omega
def rm_B_share : Room := { frames := 5, cells := 0, slots := 0, locals := 114 }
set_option maxHeartbeats 4000000 in
set_option maxRecDepth 100000 in
theorem c_B_share (l : Launch) (E : zE) (w0 : zW) (op fi : Int) (b : Nat) (r1 r2 r3 r4 : Int → Int) (q : Nat) (kd : Nat) (pl ng : Int) (f : Int → Int) (r : Nat) (ko : Nat) (po no : Int) (g : Int → Int) (t : Nat) (kt : Nat) (pt nt : Int) (h : Int → Int) (q0lt : b < zn E) (q1lt : b + 1 < zn E) (q2lt : b + 2 < zn E) (q3lt : b + 3 < zn E) (q4lt : b + 4 < zn E) (q5lt : q < zn E) (q6lt : q + 1 < zn E) (q7lt : q + 2 < zn E) (q8lt : r < zn E) (q9lt : r + 1 < zn E) (q10lt : r + 2 < zn E) (q11lt : t < zn E) (q12lt : t + 1 < zn E) (q13lt : t + 2 < zn E) (c0 : w0 b = .inr (4, [.ref (ad E (b + 1)), .ref (ad E (b + 2)), .ref (ad E (b + 3)), .ref (ad E (b + 4))])) (c1 : w0 (b + 1) = zar E 30 r1) (c2 : w0 (b + 2) = zar E 30 r2) (c3 : w0 (b + 3) = zar E 30 r3) (c4 : w0 (b + 4) = zar E 30 r4) (c5 : w0 q = .inr (1, [.ref (zg E (1 + kd)), .int (iI pl), .ref (ad E (q + 1))])) (c6 : w0 (q + 1) = .inr (0, [.ref (ad E (q + 2)), .int (iI ng)])) (c7 : w0 (q + 2) = zar E 15 f) (c8 : w0 r = .inr (1, [.ref (zg E (1 + ko)), .int (iI po), .ref (ad E (r + 1))])) (c9 : w0 (r + 1) = .inr (0, [.ref (ad E (r + 2)), .int (iI no)])) (c10 : w0 (r + 2) = zar E 15 g) (c11 : w0 t = .inr (1, [.ref (zg E (1 + kt)), .int (iI pt), .ref (ad E (t + 1))])) (c12 : w0 (t + 1) = .inr (0, [.ref (ad E (t + 2)), .int (iI nt)])) (c13 : w0 (t + 2) = zar E 15 h) (br1 : bd r1 30 0 9999) (br2 : bd r2 30 0 9999) (br3 : bd r3 30 0 9999) (br4 : bd r4 30 0 9999) (bf : bd f 15 0 9999) (hkd : kd < 4) (hng : ng = 0 ∨ ng = 1) (hpl : 0 ≤ pl ∧ pl ≤ 24) (vA : V f 15 < Bp 14) (bg : bd g 15 0 9999) (hko : ko < 4) (hno : no = 0 ∨ no = 1) (hpo : 0 ≤ po ∧ po ≤ 24) (vB : V g 15 < Bp 14) (bh : bd h 15 0 9999) (hkt : kt < 4) (hnt : nt = 0 ∨ nt = 1) (hqt : t + 2 < q) (hrt : t + 2 < r) (hbt : b + 4 < t) (hop : op = 3 ∨ op = 4 ∨ op = 5) (hfi : (fi = 1 ∧ kd = 1 ∧ ko = 1) ∨ (fi = 0 ∧ ¬ (kd = 1 ∧ ko = 1))) (hD : ko ≠ 1 ∨ 0 < V g 15) : zM l y_B_share ws_B_share rm_B_share E [.ref (ad E b), .int (iI op), .ref (ad E q), .ref (ad E r), .int (iI fi), .ref (ad E t)] w0 (zQi E w0 (fun z w' => (∃ (r1' : Int → Int) (r2' : Int → Int) (k' : Nat) (p' : Int) (n' : Int) (f' : Int → Int), w' (b + 1) = zar E 30 r1' ∧ w' (b + 2) = zar E 30 r2' ∧ w' t = .inr (1, [.ref (zg E (1 + k')), .int (iI p'), .ref (ad E (t + 1))]) ∧ w' (t + 1) = .inr (0, [.ref (ad E (t + 2)), .int (iI n')]) ∧ w' (t + 2) = zar E 15 f' ∧ bd r1' 30 0 9999 ∧ bd r2' 30 0 9999 ∧ bd f' 15 0 9999 ∧ (k' < 4 ∧ (n' = 0 ∨ n' = 1) ∧ Nf z k' p' n' (V f' 15) ∧ ShR op z k' p' n' (V f' 15) kd pl ng (V f 15) ko po no (V g 15))) ∧ ∀ k, k ≠ (b + 1) → k ≠ (b + 2) → k ≠ t → k ≠ (t + 1) → k ≠ (t + 2) → w' k = w0 k)) := by
  refine z_met (cc := b_B_share) (maxL := 6) (ret := (some .int)) (by decide +kernel) rfl (Nat.le_of_ble_eq_true rfl) ?_
  intro p e s m below meth cd ls a Qf hQ hC hl hH
  obtain ⟨hF, hr, hlk, hK, hG, hn⟩ := hC
  obtain ⟨hx, hb, hml, hown, hts⟩ := hF
  have hg : ∀ w ∈ GW, w.before a s = true := fun w h => hts w (List.mem_cons_of_mem _ h)
  have hA : ∀ q, s.heap.size ≤ q → va_A (wl E w0) s.heap.size q := fun q h => Or.inr h
  have hl : lv_has ls 6 [(0, .ref (ad E b)), (1, .int (iI op)), (2, .ref (ad E q)), (3, .ref (ad E r)), (4, .int (iI fi)), (5, .ref (ad E t))] := hl
  refine lv_iload_n hx hb d_B_share_0 rfl (lv_at hl 1 rfl) ?_
  rcases (show op = 3 ∨ op = 4 ∨ op = 5 by omega) with rfl | rfl | rfl
  · refine lv_lookup (x := iI 3) (tgt := 28) hx hb d_B_share_1 (by decide) (show _ = (27 : Int) by decide) (by decide) ?_
    refine lv_iload hx hb d_B_share_28 (lv_at hl 4 rfl) ?_
    refine zv_if_eq (tgt := 44) hx hb d_B_share_30 rfl (by omega) (fun h1 => ?_) (fun h1 => ?_)
    · refine lv_aload_n hx hb d_B_share_44 rfl (lv_at hl 0 rfl) ?_
      refine lv_aload_n hx hb d_B_share_45 rfl (lv_at hl 2 rfl) ?_
      refine lv_aload_n hx hb d_B_share_46 rfl (lv_at hl 3 rfl) ?_
      refine lv_aload hx hb d_B_share_47 (lv_at hl 5 rfl) ?_
      refine z_calli (va_runV (As := [.ref (ad E q), .ref (ad E r), .ref (ad E t)]) (rest := []) ⟨hx, hb, hml, hown, hts⟩ (c_B_divInf (l := l) (E := E) (w0 := w0) (b := b) (r1 := r1) (r2 := r2) (r3 := r3) (r4 := r4) (q := q) (kd := kd) (pl := pl) (ng := ng) (f := f) (r := r) (ko := ko) (po := po) (no := no) (g := g) (t := t) (kt := kt) (pt := pt) (nt := nt) (h := h) (q0lt := q0lt) (q1lt := q1lt) (q2lt := q2lt) (q3lt := q3lt) (q4lt := q4lt) (q5lt := q5lt) (q6lt := q6lt) (q7lt := q7lt) (q8lt := q8lt) (q9lt := q9lt) (q10lt := q10lt) (q11lt := q11lt) (q12lt := q12lt) (q13lt := q13lt) (c0 := c0) (c1 := c1) (c2 := c2) (c3 := c3) (c4 := c4) (c5 := c5) (c6 := c6) (c7 := c7) (c8 := c8) (c9 := c9) (c10 := c10) (c11 := c11) (c12 := c12) (c13 := c13) (br1 := br1) (br2 := br2) (br3 := br3) (br4 := br4) (bf := bf) (hkd := by omega) (hng := by omega) (hpl := by omega) (vA := by omega) (bg := bg) (hko := by omega) (hno := by omega) (hpo := by omega) (vB := by omega) (bh := bh) (hkt := by omega) (hnt := by omega) (hqt := by omega) (hrt := by omega) (hbt := by omega) s.heap.size) (z_cwV (C := "ScaledNumeralDesk$Bench") 3 hg wm_497 wm_494 wm_8 wm_496 wm_s17 (by decide +kernel) ⟨Nat.le_of_ble_eq_true rfl, Nat.le_of_ble_eq_true rfl⟩) (z_preV (r := ("ScaledNumeralDesk$Bench", TB, 4)) hK hG hn hH hA q0lt c0 rfl) rfl rfl hl.1 rfl (lv_room (Nat.le_of_ble_eq_true rfl)) d_B_share_49 ⟨Nat.zero_le _, Nat.zero_le _⟩) hH hA (fun z6 w4 H2 lc3 hH5 p49 => ?_)
      obtain ⟨⟨k_7, p_8, n_9, f_10, e11, e12, e13, bd14, p49⟩, hg15⟩ := p49
      replace bd14 : bd f_10 15 0 9999 := bd14
      replace p49 : z6 = 0 ∧ (n_9 = 0 ∨ n_9 = 1) ∧ Nf z6 k_7 p_8 n_9 (V f_10 15) ∧ ((kd = 1 ∧ k_7 = 1 ∧ p_8 = 0 ∧ n_9 = 0 ∧ V f_10 15 = 0) ∨ (kd ≠ 1 ∧ ko = 1 ∧ ((sg3 kd ng (V f 15) * sg3 ko no (V g 15) < 0 ∧ k_7 = 0) ∨ (0 ≤ sg3 kd ng (V f 15) * sg3 ko no (V g 15) ∧ k_7 = 2))) ∨ (kd ≠ 1 ∧ ko ≠ 1 ∧ k_7 = 3)) := p49
      have e16 : w4 b = .inr (4, [.ref (ad E (b + 1)), .ref (ad E (b + 2)), .ref (ad E (b + 3)), .ref (ad E (b + 4))]) := (hg15 b (nx_B_share_0 hqt hrt hbt) (nx_B_share_1 hqt hrt hbt) (nx_B_share_2 hqt hrt hbt)).trans c0
      have e17 : w4 (b + 1) = zar E 30 r1 := (hg15 (b + 1) (nx_B_share_3 hqt hrt hbt) (nx_B_share_4 hqt hrt hbt) (nx_B_share_5 hqt hrt hbt)).trans c1
      have e18 : w4 (b + 2) = zar E 30 r2 := (hg15 (b + 2) (nx_B_share_6 hqt hrt hbt) (nx_B_share_7 hqt hrt hbt) (nx_B_share_8 hqt hrt hbt)).trans c2
      have e19 : w4 (b + 3) = zar E 30 r3 := (hg15 (b + 3) (nx_B_share_9 hqt hrt hbt) (nx_B_share_10 hqt hrt hbt) (nx_B_share_11 hqt hrt hbt)).trans c3
      have e20 : w4 (b + 4) = zar E 30 r4 := (hg15 (b + 4) (nx_B_share_12 hqt hrt hbt) (nx_B_share_13 hqt hrt hbt) (nx_B_share_14 hqt hrt hbt)).trans c4
      have e21 : w4 q = .inr (1, [.ref (zg E (1 + kd)), .int (iI pl), .ref (ad E (q + 1))]) := (hg15 q (nx_B_share_15 hqt hrt hbt) (nx_B_share_16 hqt hrt hbt) (nx_B_share_17 hqt hrt hbt)).trans c5
      have e22 : w4 (q + 1) = .inr (0, [.ref (ad E (q + 2)), .int (iI ng)]) := (hg15 (q + 1) (nx_B_share_18 hqt hrt hbt) (nx_B_share_19 hqt hrt hbt) (nx_B_share_20 hqt hrt hbt)).trans c6
      have e23 : w4 (q + 2) = zar E 15 f := (hg15 (q + 2) (nx_B_share_21 hqt hrt hbt) (nx_B_share_22 hqt hrt hbt) (nx_B_share_23 hqt hrt hbt)).trans c7
      have e24 : w4 r = .inr (1, [.ref (zg E (1 + ko)), .int (iI po), .ref (ad E (r + 1))]) := (hg15 r (nx_B_share_24 hqt hrt hbt) (nx_B_share_25 hqt hrt hbt) (nx_B_share_26 hqt hrt hbt)).trans c8
      have e25 : w4 (r + 1) = .inr (0, [.ref (ad E (r + 2)), .int (iI no)]) := (hg15 (r + 1) (nx_B_share_27 hqt hrt hbt) (nx_B_share_28 hqt hrt hbt) (nx_B_share_29 hqt hrt hbt)).trans c9
      have e26 : w4 (r + 2) = zar E 15 g := (hg15 (r + 2) (nx_B_share_30 hqt hrt hbt) (nx_B_share_31 hqt hrt hbt) (nx_B_share_32 hqt hrt hbt)).trans c10
      have hf27 : ∀ k, k ≠ t → k ≠ (t + 1) → k ≠ (t + 2) → w4 k = w0 k := fun k g0 g1 g2 => hg15 k g0 g1 g2
      rw [hQ]
      exact z_iret hx hb hr hlk hH5 (⟨⟨r1, r2, k_7, p_8, n_9, f_10, e17, e18, e11, e12, e13, br1, br2, bd14, ⟨by omega, p49.2.1, p49.2.2.1, Or.inr ⟨by omega, p49.1, Or.inl ⟨Or.inl rfl, p49.2.2.2⟩⟩⟩⟩, (fun k g0 g1 g2 g3 g4 => hf27 k g2 g3 g4)⟩) d_B_share_52
    · refine lv_aload_n hx hb d_B_share_33 rfl (lv_at hl 0 rfl) ?_
      refine lv_aload_n hx hb d_B_share_34 rfl (lv_at hl 2 rfl) ?_
      refine lv_aload_n hx hb d_B_share_35 rfl (lv_at hl 3 rfl) ?_
      refine lv_aload hx hb d_B_share_36 (lv_at hl 5 rfl) ?_
      refine z_calli (va_runV (As := [.ref (ad E q), .ref (ad E r), .ref (ad E t)]) (rest := []) ⟨hx, hb, hml, hown, hts⟩ (c_B_divide (l := l) (E := E) (w0 := w0) (b := b) (r1 := r1) (r2 := r2) (r3 := r3) (r4 := r4) (q := q) (kd := kd) (pl := pl) (ng := ng) (f := f) (r := r) (ko := ko) (po := po) (no := no) (g := g) (t := t) (kt := kt) (pt := pt) (nt := nt) (h := h) (q0lt := q0lt) (q1lt := q1lt) (q2lt := q2lt) (q3lt := q3lt) (q4lt := q4lt) (q5lt := q5lt) (q6lt := q6lt) (q7lt := q7lt) (q8lt := q8lt) (q9lt := q9lt) (q10lt := q10lt) (q11lt := q11lt) (q12lt := q12lt) (q13lt := q13lt) (c0 := c0) (c1 := c1) (c2 := c2) (c3 := c3) (c4 := c4) (c5 := c5) (c6 := c6) (c7 := c7) (c8 := c8) (c9 := c9) (c10 := c10) (c11 := c11) (c12 := c12) (c13 := c13) (br1 := br1) (br2 := br2) (br3 := br3) (br4 := br4) (bf := bf) (hkd := by omega) (hng := by omega) (hpl := by omega) (vA := by omega) (bg := bg) (hko := by omega) (hno := by omega) (hpo := by omega) (vB := by omega) (bh := bh) (hkt := by omega) (hnt := by omega) (hqt := by omega) (hrt := by omega) (hbt := by omega) (hD := by omega) s.heap.size) (z_cwV (C := "ScaledNumeralDesk$Bench") 3 hg wm_461 wm_458 wm_8 wm_460 wm_s15 (by decide +kernel) ⟨Nat.le_of_ble_eq_true rfl, Nat.le_of_ble_eq_true rfl⟩) (z_preV (r := ("ScaledNumeralDesk$Bench", TB, 4)) hK hG hn hH hA q0lt c0 rfl) rfl rfl hl.1 rfl (lv_room (Nat.le_of_ble_eq_true rfl)) d_B_share_38 ⟨Nat.zero_le _, Nat.zero_le _⟩) hH hA (fun z32 w30 H28 lc29 hH31 p38 => ?_)
      obtain ⟨⟨r_33, r_34, k_35, p_36, n_37, f_38, e39, e40, e41, e42, e43, bd44, bd45, bd46, p38⟩, hg47⟩ := p38
      replace bd44 : bd r_33 30 0 9999 := bd44
      replace bd45 : bd r_34 30 0 9999 := bd45
      replace bd46 : bd f_38 15 0 9999 := bd46
      replace p38 : k_35 < 4 ∧ (n_37 = 0 ∨ n_37 = 1) ∧ ∃ wa wb la lb : Int, Wt (V f 15) wa ∧ Wt (V g 15) wb ∧ Ld (V f 15) la ∧ Ld (V g 15) lb ∧ St z32 k_35 p_36 n_37 (V f_38 15) (Rn (V f 15 * Bp 7 / V g 15) (7 * 4 - pd wa wb la lb pl po)) 7 (pd wa wb la lb pl po) (dif ng no) := p38
      have e48 : w30 b = .inr (4, [.ref (ad E (b + 1)), .ref (ad E (b + 2)), .ref (ad E (b + 3)), .ref (ad E (b + 4))]) := (hg47 b (nx_B_share_33 hqt hrt hbt) (nx_B_share_34 hqt hrt hbt) (nx_B_share_0 hqt hrt hbt) (nx_B_share_1 hqt hrt hbt) (nx_B_share_2 hqt hrt hbt)).trans c0
      have e49 : w30 (b + 3) = zar E 30 r3 := (hg47 (b + 3) (nx_B_share_35 hqt hrt hbt) (nx_B_share_36 hqt hrt hbt) (nx_B_share_9 hqt hrt hbt) (nx_B_share_10 hqt hrt hbt) (nx_B_share_11 hqt hrt hbt)).trans c3
      have e50 : w30 (b + 4) = zar E 30 r4 := (hg47 (b + 4) (nx_B_share_37 hqt hrt hbt) (nx_B_share_38 hqt hrt hbt) (nx_B_share_12 hqt hrt hbt) (nx_B_share_13 hqt hrt hbt) (nx_B_share_14 hqt hrt hbt)).trans c4
      have e51 : w30 q = .inr (1, [.ref (zg E (1 + kd)), .int (iI pl), .ref (ad E (q + 1))]) := (hg47 q (nx_B_share_39 hqt hrt hbt) (nx_B_share_40 hqt hrt hbt) (nx_B_share_15 hqt hrt hbt) (nx_B_share_16 hqt hrt hbt) (nx_B_share_17 hqt hrt hbt)).trans c5
      have e52 : w30 (q + 1) = .inr (0, [.ref (ad E (q + 2)), .int (iI ng)]) := (hg47 (q + 1) (nx_B_share_41 hqt hrt hbt) (nx_B_share_42 hqt hrt hbt) (nx_B_share_18 hqt hrt hbt) (nx_B_share_19 hqt hrt hbt) (nx_B_share_20 hqt hrt hbt)).trans c6
      have e53 : w30 (q + 2) = zar E 15 f := (hg47 (q + 2) (nx_B_share_43 hqt hrt hbt) (nx_B_share_44 hqt hrt hbt) (nx_B_share_21 hqt hrt hbt) (nx_B_share_22 hqt hrt hbt) (nx_B_share_23 hqt hrt hbt)).trans c7
      have e54 : w30 r = .inr (1, [.ref (zg E (1 + ko)), .int (iI po), .ref (ad E (r + 1))]) := (hg47 r (nx_B_share_45 hqt hrt hbt) (nx_B_share_46 hqt hrt hbt) (nx_B_share_24 hqt hrt hbt) (nx_B_share_25 hqt hrt hbt) (nx_B_share_26 hqt hrt hbt)).trans c8
      have e55 : w30 (r + 1) = .inr (0, [.ref (ad E (r + 2)), .int (iI no)]) := (hg47 (r + 1) (nx_B_share_47 hqt hrt hbt) (nx_B_share_48 hqt hrt hbt) (nx_B_share_27 hqt hrt hbt) (nx_B_share_28 hqt hrt hbt) (nx_B_share_29 hqt hrt hbt)).trans c9
      have e56 : w30 (r + 2) = zar E 15 g := (hg47 (r + 2) (nx_B_share_49 hqt hrt hbt) (nx_B_share_50 hqt hrt hbt) (nx_B_share_30 hqt hrt hbt) (nx_B_share_31 hqt hrt hbt) (nx_B_share_32 hqt hrt hbt)).trans c10
      have hf57 : ∀ k, k ≠ (b + 1) → k ≠ (b + 2) → k ≠ t → k ≠ (t + 1) → k ≠ (t + 2) → w30 k = w0 k := fun k g0 g1 g2 g3 g4 => hg47 k g0 g1 g2 g3 g4
      refine lv_goto (tgt := 52) hx hb d_B_share_41 rfl ?_
      rw [hQ]
      exact z_iret hx hb hr hlk hH31 (⟨⟨r_33, r_34, k_35, p_36, n_37, f_38, e39, e40, e41, e42, e43, bd44, bd45, bd46, ⟨p38.1, p38.2.1, (by obtain ⟨_, _, _, _, _, _, _, _, h9⟩ := p38.2.2; exact St_Nf h9), Or.inl ⟨by omega, by omega, Or.inl ⟨rfl, p38.2.2⟩⟩⟩⟩, (fun k g0 g1 g2 g3 g4 => hf57 k g0 g1 g2 g3 g4)⟩) d_B_share_52
  · refine lv_lookup (x := iI 4) (tgt := 53) hx hb d_B_share_1 (by decide) (show _ = (52 : Int) by decide) (by decide) ?_
    refine lv_iload hx hb d_B_share_53 (lv_at hl 4 rfl) ?_
    refine zv_if_eq (tgt := 69) hx hb d_B_share_55 rfl (by omega) (fun h58 => ?_) (fun h58 => ?_)
    · refine lv_aload_n hx hb d_B_share_69 rfl (lv_at hl 0 rfl) ?_
      refine lv_aload_n hx hb d_B_share_70 rfl (lv_at hl 2 rfl) ?_
      refine lv_aload_n hx hb d_B_share_71 rfl (lv_at hl 3 rfl) ?_
      refine lv_aload hx hb d_B_share_72 (lv_at hl 5 rfl) ?_
      refine z_calli (va_runV (As := [.ref (ad E q), .ref (ad E r), .ref (ad E t)]) (rest := []) ⟨hx, hb, hml, hown, hts⟩ (c_B_divInf (l := l) (E := E) (w0 := w0) (b := b) (r1 := r1) (r2 := r2) (r3 := r3) (r4 := r4) (q := q) (kd := kd) (pl := pl) (ng := ng) (f := f) (r := r) (ko := ko) (po := po) (no := no) (g := g) (t := t) (kt := kt) (pt := pt) (nt := nt) (h := h) (q0lt := q0lt) (q1lt := q1lt) (q2lt := q2lt) (q3lt := q3lt) (q4lt := q4lt) (q5lt := q5lt) (q6lt := q6lt) (q7lt := q7lt) (q8lt := q8lt) (q9lt := q9lt) (q10lt := q10lt) (q11lt := q11lt) (q12lt := q12lt) (q13lt := q13lt) (c0 := c0) (c1 := c1) (c2 := c2) (c3 := c3) (c4 := c4) (c5 := c5) (c6 := c6) (c7 := c7) (c8 := c8) (c9 := c9) (c10 := c10) (c11 := c11) (c12 := c12) (c13 := c13) (br1 := br1) (br2 := br2) (br3 := br3) (br4 := br4) (bf := bf) (hkd := by omega) (hng := by omega) (hpl := by omega) (vA := by omega) (bg := bg) (hko := by omega) (hno := by omega) (hpo := by omega) (vB := by omega) (bh := bh) (hkt := by omega) (hnt := by omega) (hqt := by omega) (hrt := by omega) (hbt := by omega) s.heap.size) (z_cwV (C := "ScaledNumeralDesk$Bench") 3 hg wm_497 wm_494 wm_8 wm_496 wm_s17 (by decide +kernel) ⟨Nat.le_of_ble_eq_true rfl, Nat.le_of_ble_eq_true rfl⟩) (z_preV (r := ("ScaledNumeralDesk$Bench", TB, 4)) hK hG hn hH hA q0lt c0 rfl) rfl rfl hl.1 rfl (lv_room (Nat.le_of_ble_eq_true rfl)) d_B_share_74 ⟨Nat.zero_le _, Nat.zero_le _⟩) hH hA (fun z63 w61 H59 lc60 hH62 p74 => ?_)
      obtain ⟨⟨k_64, p_65, n_66, f_67, e68, e69, e70, bd71, p74⟩, hg72⟩ := p74
      replace bd71 : bd f_67 15 0 9999 := bd71
      replace p74 : z63 = 0 ∧ (n_66 = 0 ∨ n_66 = 1) ∧ Nf z63 k_64 p_65 n_66 (V f_67 15) ∧ ((kd = 1 ∧ k_64 = 1 ∧ p_65 = 0 ∧ n_66 = 0 ∧ V f_67 15 = 0) ∨ (kd ≠ 1 ∧ ko = 1 ∧ ((sg3 kd ng (V f 15) * sg3 ko no (V g 15) < 0 ∧ k_64 = 0) ∨ (0 ≤ sg3 kd ng (V f 15) * sg3 ko no (V g 15) ∧ k_64 = 2))) ∨ (kd ≠ 1 ∧ ko ≠ 1 ∧ k_64 = 3)) := p74
      have e73 : w61 b = .inr (4, [.ref (ad E (b + 1)), .ref (ad E (b + 2)), .ref (ad E (b + 3)), .ref (ad E (b + 4))]) := (hg72 b (nx_B_share_0 hqt hrt hbt) (nx_B_share_1 hqt hrt hbt) (nx_B_share_2 hqt hrt hbt)).trans c0
      have e74 : w61 (b + 1) = zar E 30 r1 := (hg72 (b + 1) (nx_B_share_3 hqt hrt hbt) (nx_B_share_4 hqt hrt hbt) (nx_B_share_5 hqt hrt hbt)).trans c1
      have e75 : w61 (b + 2) = zar E 30 r2 := (hg72 (b + 2) (nx_B_share_6 hqt hrt hbt) (nx_B_share_7 hqt hrt hbt) (nx_B_share_8 hqt hrt hbt)).trans c2
      have e76 : w61 (b + 3) = zar E 30 r3 := (hg72 (b + 3) (nx_B_share_9 hqt hrt hbt) (nx_B_share_10 hqt hrt hbt) (nx_B_share_11 hqt hrt hbt)).trans c3
      have e77 : w61 (b + 4) = zar E 30 r4 := (hg72 (b + 4) (nx_B_share_12 hqt hrt hbt) (nx_B_share_13 hqt hrt hbt) (nx_B_share_14 hqt hrt hbt)).trans c4
      have e78 : w61 q = .inr (1, [.ref (zg E (1 + kd)), .int (iI pl), .ref (ad E (q + 1))]) := (hg72 q (nx_B_share_15 hqt hrt hbt) (nx_B_share_16 hqt hrt hbt) (nx_B_share_17 hqt hrt hbt)).trans c5
      have e79 : w61 (q + 1) = .inr (0, [.ref (ad E (q + 2)), .int (iI ng)]) := (hg72 (q + 1) (nx_B_share_18 hqt hrt hbt) (nx_B_share_19 hqt hrt hbt) (nx_B_share_20 hqt hrt hbt)).trans c6
      have e80 : w61 (q + 2) = zar E 15 f := (hg72 (q + 2) (nx_B_share_21 hqt hrt hbt) (nx_B_share_22 hqt hrt hbt) (nx_B_share_23 hqt hrt hbt)).trans c7
      have e81 : w61 r = .inr (1, [.ref (zg E (1 + ko)), .int (iI po), .ref (ad E (r + 1))]) := (hg72 r (nx_B_share_24 hqt hrt hbt) (nx_B_share_25 hqt hrt hbt) (nx_B_share_26 hqt hrt hbt)).trans c8
      have e82 : w61 (r + 1) = .inr (0, [.ref (ad E (r + 2)), .int (iI no)]) := (hg72 (r + 1) (nx_B_share_27 hqt hrt hbt) (nx_B_share_28 hqt hrt hbt) (nx_B_share_29 hqt hrt hbt)).trans c9
      have e83 : w61 (r + 2) = zar E 15 g := (hg72 (r + 2) (nx_B_share_30 hqt hrt hbt) (nx_B_share_31 hqt hrt hbt) (nx_B_share_32 hqt hrt hbt)).trans c10
      have hf84 : ∀ k, k ≠ t → k ≠ (t + 1) → k ≠ (t + 2) → w61 k = w0 k := fun k g0 g1 g2 => hg72 k g0 g1 g2
      rw [hQ]
      exact z_iret hx hb hr hlk hH62 (⟨⟨r1, r2, k_64, p_65, n_66, f_67, e74, e75, e68, e69, e70, br1, br2, bd71, ⟨by omega, p74.2.1, p74.2.2.1, Or.inr ⟨by omega, p74.1, Or.inl ⟨Or.inr rfl, p74.2.2.2⟩⟩⟩⟩, (fun k g0 g1 g2 g3 g4 => hf84 k g2 g3 g4)⟩) d_B_share_77
    · refine lv_aload_n hx hb d_B_share_58 rfl (lv_at hl 0 rfl) ?_
      refine lv_aload_n hx hb d_B_share_59 rfl (lv_at hl 2 rfl) ?_
      refine lv_aload_n hx hb d_B_share_60 rfl (lv_at hl 3 rfl) ?_
      refine lv_aload hx hb d_B_share_61 (lv_at hl 5 rfl) ?_
      refine z_calli (va_runV (As := [.ref (ad E q), .ref (ad E r), .ref (ad E t)]) (rest := []) ⟨hx, hb, hml, hown, hts⟩ (c_B_quotient (l := l) (E := E) (w0 := w0) (b := b) (r1 := r1) (r2 := r2) (r3 := r3) (r4 := r4) (q := q) (kd := kd) (pl := pl) (ng := ng) (f := f) (r := r) (ko := ko) (po := po) (no := no) (g := g) (t := t) (kt := kt) (pt := pt) (nt := nt) (h := h) (q0lt := q0lt) (q1lt := q1lt) (q2lt := q2lt) (q3lt := q3lt) (q4lt := q4lt) (q5lt := q5lt) (q6lt := q6lt) (q7lt := q7lt) (q8lt := q8lt) (q9lt := q9lt) (q10lt := q10lt) (q11lt := q11lt) (q12lt := q12lt) (q13lt := q13lt) (c0 := c0) (c1 := c1) (c2 := c2) (c3 := c3) (c4 := c4) (c5 := c5) (c6 := c6) (c7 := c7) (c8 := c8) (c9 := c9) (c10 := c10) (c11 := c11) (c12 := c12) (c13 := c13) (br1 := br1) (br2 := br2) (br3 := br3) (br4 := br4) (bf := bf) (hkd := by omega) (hng := by omega) (hpl := by omega) (vA := by omega) (bg := bg) (hko := by omega) (hno := by omega) (hpo := by omega) (vB := by omega) (bh := bh) (hkt := by omega) (hnt := by omega) (hqt := by omega) (hrt := by omega) (hbt := by omega) (hD := by omega) s.heap.size) (z_cwV (C := "ScaledNumeralDesk$Bench") 3 hg wm_501 wm_498 wm_8 wm_500 wm_s18 (by decide +kernel) ⟨Nat.le_of_ble_eq_true rfl, Nat.le_of_ble_eq_true rfl⟩) (z_preV (r := ("ScaledNumeralDesk$Bench", TB, 4)) hK hG hn hH hA q0lt c0 rfl) rfl rfl hl.1 rfl (lv_room (Nat.le_of_ble_eq_true rfl)) d_B_share_63 ⟨Nat.zero_le _, Nat.zero_le _⟩) hH hA (fun z89 w87 H85 lc86 hH88 p63 => ?_)
      obtain ⟨⟨r_90, r_91, k_92, p_93, n_94, f_95, e96, e97, e98, e99, e100, bd101, bd102, bd103, p63⟩, hg104⟩ := p63
      replace bd101 : bd r_90 30 0 9999 := bd101
      replace bd102 : bd r_91 30 0 9999 := bd102
      replace bd103 : bd f_95 15 0 9999 := bd103
      replace p63 : k_92 < 4 ∧ (n_94 = 0 ∨ n_94 = 1) ∧ St z89 k_92 p_93 n_94 (V f_95 15) (Rn (V f 15 * Bp 6 / V g 15 / Tp 24 * Tp 24) (6 * 4 - 0)) 6 0 (dif ng no) := p63
      have e105 : w87 b = .inr (4, [.ref (ad E (b + 1)), .ref (ad E (b + 2)), .ref (ad E (b + 3)), .ref (ad E (b + 4))]) := (hg104 b (nx_B_share_33 hqt hrt hbt) (nx_B_share_34 hqt hrt hbt) (nx_B_share_0 hqt hrt hbt) (nx_B_share_1 hqt hrt hbt) (nx_B_share_2 hqt hrt hbt)).trans c0
      have e106 : w87 (b + 3) = zar E 30 r3 := (hg104 (b + 3) (nx_B_share_35 hqt hrt hbt) (nx_B_share_36 hqt hrt hbt) (nx_B_share_9 hqt hrt hbt) (nx_B_share_10 hqt hrt hbt) (nx_B_share_11 hqt hrt hbt)).trans c3
      have e107 : w87 (b + 4) = zar E 30 r4 := (hg104 (b + 4) (nx_B_share_37 hqt hrt hbt) (nx_B_share_38 hqt hrt hbt) (nx_B_share_12 hqt hrt hbt) (nx_B_share_13 hqt hrt hbt) (nx_B_share_14 hqt hrt hbt)).trans c4
      have e108 : w87 q = .inr (1, [.ref (zg E (1 + kd)), .int (iI pl), .ref (ad E (q + 1))]) := (hg104 q (nx_B_share_39 hqt hrt hbt) (nx_B_share_40 hqt hrt hbt) (nx_B_share_15 hqt hrt hbt) (nx_B_share_16 hqt hrt hbt) (nx_B_share_17 hqt hrt hbt)).trans c5
      have e109 : w87 (q + 1) = .inr (0, [.ref (ad E (q + 2)), .int (iI ng)]) := (hg104 (q + 1) (nx_B_share_41 hqt hrt hbt) (nx_B_share_42 hqt hrt hbt) (nx_B_share_18 hqt hrt hbt) (nx_B_share_19 hqt hrt hbt) (nx_B_share_20 hqt hrt hbt)).trans c6
      have e110 : w87 (q + 2) = zar E 15 f := (hg104 (q + 2) (nx_B_share_43 hqt hrt hbt) (nx_B_share_44 hqt hrt hbt) (nx_B_share_21 hqt hrt hbt) (nx_B_share_22 hqt hrt hbt) (nx_B_share_23 hqt hrt hbt)).trans c7
      have e111 : w87 r = .inr (1, [.ref (zg E (1 + ko)), .int (iI po), .ref (ad E (r + 1))]) := (hg104 r (nx_B_share_45 hqt hrt hbt) (nx_B_share_46 hqt hrt hbt) (nx_B_share_24 hqt hrt hbt) (nx_B_share_25 hqt hrt hbt) (nx_B_share_26 hqt hrt hbt)).trans c8
      have e112 : w87 (r + 1) = .inr (0, [.ref (ad E (r + 2)), .int (iI no)]) := (hg104 (r + 1) (nx_B_share_47 hqt hrt hbt) (nx_B_share_48 hqt hrt hbt) (nx_B_share_27 hqt hrt hbt) (nx_B_share_28 hqt hrt hbt) (nx_B_share_29 hqt hrt hbt)).trans c9
      have e113 : w87 (r + 2) = zar E 15 g := (hg104 (r + 2) (nx_B_share_49 hqt hrt hbt) (nx_B_share_50 hqt hrt hbt) (nx_B_share_30 hqt hrt hbt) (nx_B_share_31 hqt hrt hbt) (nx_B_share_32 hqt hrt hbt)).trans c10
      have hf114 : ∀ k, k ≠ (b + 1) → k ≠ (b + 2) → k ≠ t → k ≠ (t + 1) → k ≠ (t + 2) → w87 k = w0 k := fun k g0 g1 g2 g3 g4 => hg104 k g0 g1 g2 g3 g4
      refine lv_goto (tgt := 77) hx hb d_B_share_66 rfl ?_
      rw [hQ]
      exact z_iret hx hb hr hlk hH88 (⟨⟨r_90, r_91, k_92, p_93, n_94, f_95, e96, e97, e98, e99, e100, bd101, bd102, bd103, ⟨p63.1, p63.2.1, St_Nf p63.2.2, Or.inl ⟨by omega, by omega, Or.inr (Or.inl ⟨rfl, p63.2.2⟩)⟩⟩⟩, (fun k g0 g1 g2 g3 g4 => hf114 k g0 g1 g2 g3 g4)⟩) d_B_share_77
  · refine lv_lookup (x := iI 5) (tgt := 78) hx hb d_B_share_1 (by decide) (show _ = (77 : Int) by decide) (by decide) ?_
    refine lv_iload hx hb d_B_share_78 (lv_at hl 4 rfl) ?_
    refine zv_if_eq (tgt := 94) hx hb d_B_share_80 rfl (by omega) (fun h115 => ?_) (fun h115 => ?_)
    · refine lv_aload_n hx hb d_B_share_94 rfl (lv_at hl 0 rfl) ?_
      refine lv_aload_n hx hb d_B_share_95 rfl (lv_at hl 2 rfl) ?_
      refine lv_aload hx hb d_B_share_96 (lv_at hl 5 rfl) ?_
      refine z_calli (va_runV (As := [.ref (ad E q), .ref (ad E t)]) (rest := []) ⟨hx, hb, hml, hown, hts⟩ (c_B_remInf (l := l) (E := E) (w0 := w0) (b := b) (r1 := r1) (r2 := r2) (r3 := r3) (r4 := r4) (q := q) (kd := kd) (pl := pl) (ng := ng) (f := f) (t := t) (kt := kt) (pt := pt) (nt := nt) (h := h) (q0lt := q0lt) (q1lt := q1lt) (q2lt := q2lt) (q3lt := q3lt) (q4lt := q4lt) (q5lt := q5lt) (q6lt := q6lt) (q7lt := q7lt) (q8lt := q11lt) (q9lt := q12lt) (q10lt := q13lt) (c0 := c0) (c1 := c1) (c2 := c2) (c3 := c3) (c4 := c4) (c5 := c5) (c6 := c6) (c7 := c7) (c8 := c11) (c9 := c12) (c10 := c13) (br1 := br1) (br2 := br2) (br3 := br3) (br4 := br4) (bf := bf) (hkd := by omega) (hng := by omega) (hpl := by omega) (vA := by omega) (bh := bh) (hkt := by omega) (hnt := by omega) (hqt := by omega) (hbt := by omega) s.heap.size) (z_cwV (C := "ScaledNumeralDesk$Bench") 2 hg wm_510 wm_507 wm_8 wm_509 wm_s20 (by decide +kernel) ⟨Nat.le_of_ble_eq_true rfl, Nat.le_of_ble_eq_true rfl⟩) (z_preV (r := ("ScaledNumeralDesk$Bench", TB, 4)) hK hG hn hH hA q0lt c0 rfl) rfl rfl hl.1 rfl (lv_room (Nat.le_of_ble_eq_true rfl)) d_B_share_98 ⟨Nat.zero_le _, Nat.zero_le _⟩) hH hA (fun z120 w118 H116 lc117 hH119 p98 => ?_)
      obtain ⟨⟨k_121, p_122, n_123, f_124, e125, e126, e127, bd128, p98⟩, hg129⟩ := p98
      replace bd128 : bd f_124 15 0 9999 := bd128
      replace p98 : z120 = 0 ∧ (n_123 = 0 ∨ n_123 = 1) ∧ Nf z120 k_121 p_122 n_123 (V f_124 15) ∧ ((kd = 1 ∧ k_121 = 1 ∧ p_122 = pl ∧ n_123 = ng ∧ V f_124 15 = V f 15) ∨ (kd ≠ 1 ∧ k_121 = 3)) := p98
      have e130 : w118 b = .inr (4, [.ref (ad E (b + 1)), .ref (ad E (b + 2)), .ref (ad E (b + 3)), .ref (ad E (b + 4))]) := (hg129 b (nx_B_share_0 hqt hrt hbt) (nx_B_share_1 hqt hrt hbt) (nx_B_share_2 hqt hrt hbt)).trans c0
      have e131 : w118 (b + 1) = zar E 30 r1 := (hg129 (b + 1) (nx_B_share_3 hqt hrt hbt) (nx_B_share_4 hqt hrt hbt) (nx_B_share_5 hqt hrt hbt)).trans c1
      have e132 : w118 (b + 2) = zar E 30 r2 := (hg129 (b + 2) (nx_B_share_6 hqt hrt hbt) (nx_B_share_7 hqt hrt hbt) (nx_B_share_8 hqt hrt hbt)).trans c2
      have e133 : w118 (b + 3) = zar E 30 r3 := (hg129 (b + 3) (nx_B_share_9 hqt hrt hbt) (nx_B_share_10 hqt hrt hbt) (nx_B_share_11 hqt hrt hbt)).trans c3
      have e134 : w118 (b + 4) = zar E 30 r4 := (hg129 (b + 4) (nx_B_share_12 hqt hrt hbt) (nx_B_share_13 hqt hrt hbt) (nx_B_share_14 hqt hrt hbt)).trans c4
      have e135 : w118 q = .inr (1, [.ref (zg E (1 + kd)), .int (iI pl), .ref (ad E (q + 1))]) := (hg129 q (nx_B_share_15 hqt hrt hbt) (nx_B_share_16 hqt hrt hbt) (nx_B_share_17 hqt hrt hbt)).trans c5
      have e136 : w118 (q + 1) = .inr (0, [.ref (ad E (q + 2)), .int (iI ng)]) := (hg129 (q + 1) (nx_B_share_18 hqt hrt hbt) (nx_B_share_19 hqt hrt hbt) (nx_B_share_20 hqt hrt hbt)).trans c6
      have e137 : w118 (q + 2) = zar E 15 f := (hg129 (q + 2) (nx_B_share_21 hqt hrt hbt) (nx_B_share_22 hqt hrt hbt) (nx_B_share_23 hqt hrt hbt)).trans c7
      have e138 : w118 r = .inr (1, [.ref (zg E (1 + ko)), .int (iI po), .ref (ad E (r + 1))]) := (hg129 r (nx_B_share_24 hqt hrt hbt) (nx_B_share_25 hqt hrt hbt) (nx_B_share_26 hqt hrt hbt)).trans c8
      have e139 : w118 (r + 1) = .inr (0, [.ref (ad E (r + 2)), .int (iI no)]) := (hg129 (r + 1) (nx_B_share_27 hqt hrt hbt) (nx_B_share_28 hqt hrt hbt) (nx_B_share_29 hqt hrt hbt)).trans c9
      have e140 : w118 (r + 2) = zar E 15 g := (hg129 (r + 2) (nx_B_share_30 hqt hrt hbt) (nx_B_share_31 hqt hrt hbt) (nx_B_share_32 hqt hrt hbt)).trans c10
      have hf141 : ∀ k, k ≠ t → k ≠ (t + 1) → k ≠ (t + 2) → w118 k = w0 k := fun k g0 g1 g2 => hg129 k g0 g1 g2
      rw [hQ]
      exact z_iret hx hb hr hlk hH119 (⟨⟨r1, r2, k_121, p_122, n_123, f_124, e131, e132, e125, e126, e127, br1, br2, bd128, ⟨by omega, p98.2.1, p98.2.2.1, Or.inr ⟨by omega, p98.1, Or.inr ⟨rfl, p98.2.2.2⟩⟩⟩⟩, (fun k g0 g1 g2 g3 g4 => hf141 k g2 g3 g4)⟩) d_B_share_101
    · refine lv_aload_n hx hb d_B_share_83 rfl (lv_at hl 0 rfl) ?_
      refine lv_aload_n hx hb d_B_share_84 rfl (lv_at hl 2 rfl) ?_
      refine lv_aload_n hx hb d_B_share_85 rfl (lv_at hl 3 rfl) ?_
      refine lv_aload hx hb d_B_share_86 (lv_at hl 5 rfl) ?_
      refine z_calli (va_runV (As := [.ref (ad E q), .ref (ad E r), .ref (ad E t)]) (rest := []) ⟨hx, hb, hml, hown, hts⟩ (c_B_remainder (l := l) (E := E) (w0 := w0) (b := b) (r1 := r1) (r2 := r2) (r3 := r3) (r4 := r4) (q := q) (kd := kd) (pl := pl) (ng := ng) (f := f) (r := r) (ko := ko) (po := po) (no := no) (g := g) (t := t) (kt := kt) (pt := pt) (nt := nt) (h := h) (q0lt := q0lt) (q1lt := q1lt) (q2lt := q2lt) (q3lt := q3lt) (q4lt := q4lt) (q5lt := q5lt) (q6lt := q6lt) (q7lt := q7lt) (q8lt := q8lt) (q9lt := q9lt) (q10lt := q10lt) (q11lt := q11lt) (q12lt := q12lt) (q13lt := q13lt) (c0 := c0) (c1 := c1) (c2 := c2) (c3 := c3) (c4 := c4) (c5 := c5) (c6 := c6) (c7 := c7) (c8 := c8) (c9 := c9) (c10 := c10) (c11 := c11) (c12 := c12) (c13 := c13) (br1 := br1) (br2 := br2) (br3 := br3) (br4 := br4) (bf := bf) (hkd := by omega) (hng := by omega) (hpl := by omega) (vA := by omega) (bg := bg) (hko := by omega) (hno := by omega) (hpo := by omega) (vB := by omega) (bh := bh) (hkt := by omega) (hnt := by omega) (hqt := by omega) (hrt := by omega) (hbt := by omega) (hD := by omega) s.heap.size) (z_cwV (C := "ScaledNumeralDesk$Bench") 3 hg wm_506 wm_503 wm_8 wm_505 wm_s19 (by decide +kernel) ⟨Nat.le_of_ble_eq_true rfl, Nat.le_of_ble_eq_true rfl⟩) (z_preV (r := ("ScaledNumeralDesk$Bench", TB, 4)) hK hG hn hH hA q0lt c0 rfl) rfl rfl hl.1 rfl (lv_room (Nat.le_of_ble_eq_true rfl)) d_B_share_88 ⟨Nat.zero_le _, Nat.zero_le _⟩) hH hA (fun z146 w144 H142 lc143 hH145 p88 => ?_)
      obtain ⟨⟨r_147, r_148, k_149, p_150, n_151, f_152, e153, e154, e155, e156, e157, bd158, bd159, bd160, p88⟩, hg161⟩ := p88
      replace bd158 : bd r_147 30 0 9999 := bd158
      replace bd159 : bd r_148 30 0 9999 := bd159
      replace bd160 : bd f_152 15 0 9999 := bd160
      replace p88 : k_149 < 4 ∧ (n_151 = 0 ∨ n_151 = 1) ∧ St z146 k_149 p_150 n_151 (V f_152 15) (Rn (V f 15 % V g 15) (6 * 4 - max pl po)) 6 (max pl po) ng := p88
      have e162 : w144 b = .inr (4, [.ref (ad E (b + 1)), .ref (ad E (b + 2)), .ref (ad E (b + 3)), .ref (ad E (b + 4))]) := (hg161 b (nx_B_share_33 hqt hrt hbt) (nx_B_share_34 hqt hrt hbt) (nx_B_share_0 hqt hrt hbt) (nx_B_share_1 hqt hrt hbt) (nx_B_share_2 hqt hrt hbt)).trans c0
      have e163 : w144 (b + 3) = zar E 30 r3 := (hg161 (b + 3) (nx_B_share_35 hqt hrt hbt) (nx_B_share_36 hqt hrt hbt) (nx_B_share_9 hqt hrt hbt) (nx_B_share_10 hqt hrt hbt) (nx_B_share_11 hqt hrt hbt)).trans c3
      have e164 : w144 (b + 4) = zar E 30 r4 := (hg161 (b + 4) (nx_B_share_37 hqt hrt hbt) (nx_B_share_38 hqt hrt hbt) (nx_B_share_12 hqt hrt hbt) (nx_B_share_13 hqt hrt hbt) (nx_B_share_14 hqt hrt hbt)).trans c4
      have e165 : w144 q = .inr (1, [.ref (zg E (1 + kd)), .int (iI pl), .ref (ad E (q + 1))]) := (hg161 q (nx_B_share_39 hqt hrt hbt) (nx_B_share_40 hqt hrt hbt) (nx_B_share_15 hqt hrt hbt) (nx_B_share_16 hqt hrt hbt) (nx_B_share_17 hqt hrt hbt)).trans c5
      have e166 : w144 (q + 1) = .inr (0, [.ref (ad E (q + 2)), .int (iI ng)]) := (hg161 (q + 1) (nx_B_share_41 hqt hrt hbt) (nx_B_share_42 hqt hrt hbt) (nx_B_share_18 hqt hrt hbt) (nx_B_share_19 hqt hrt hbt) (nx_B_share_20 hqt hrt hbt)).trans c6
      have e167 : w144 (q + 2) = zar E 15 f := (hg161 (q + 2) (nx_B_share_43 hqt hrt hbt) (nx_B_share_44 hqt hrt hbt) (nx_B_share_21 hqt hrt hbt) (nx_B_share_22 hqt hrt hbt) (nx_B_share_23 hqt hrt hbt)).trans c7
      have e168 : w144 r = .inr (1, [.ref (zg E (1 + ko)), .int (iI po), .ref (ad E (r + 1))]) := (hg161 r (nx_B_share_45 hqt hrt hbt) (nx_B_share_46 hqt hrt hbt) (nx_B_share_24 hqt hrt hbt) (nx_B_share_25 hqt hrt hbt) (nx_B_share_26 hqt hrt hbt)).trans c8
      have e169 : w144 (r + 1) = .inr (0, [.ref (ad E (r + 2)), .int (iI no)]) := (hg161 (r + 1) (nx_B_share_47 hqt hrt hbt) (nx_B_share_48 hqt hrt hbt) (nx_B_share_27 hqt hrt hbt) (nx_B_share_28 hqt hrt hbt) (nx_B_share_29 hqt hrt hbt)).trans c9
      have e170 : w144 (r + 2) = zar E 15 g := (hg161 (r + 2) (nx_B_share_49 hqt hrt hbt) (nx_B_share_50 hqt hrt hbt) (nx_B_share_30 hqt hrt hbt) (nx_B_share_31 hqt hrt hbt) (nx_B_share_32 hqt hrt hbt)).trans c10
      have hf171 : ∀ k, k ≠ (b + 1) → k ≠ (b + 2) → k ≠ t → k ≠ (t + 1) → k ≠ (t + 2) → w144 k = w0 k := fun k g0 g1 g2 g3 g4 => hg161 k g0 g1 g2 g3 g4
      refine lv_goto (tgt := 101) hx hb d_B_share_91 rfl ?_
      rw [hQ]
      exact z_iret hx hb hr hlk hH145 (⟨⟨r_147, r_148, k_149, p_150, n_151, f_152, e153, e154, e155, e156, e157, bd158, bd159, bd160, ⟨p88.1, p88.2.1, St_Nf p88.2.2, Or.inl ⟨by omega, by omega, Or.inr (Or.inr ⟨rfl, p88.2.2⟩)⟩⟩⟩, (fun k g0 g1 g2 g3 g4 => hf171 k g0 g1 g2 g3 g4)⟩) d_B_share_101
theorem nx_B_combine_0 {b q r t : Nat} (hqt : t + 2 < q) (hrt : t + 2 < r) (hbt : b + 4 < t) : b ≠ t := by omega
theorem nx_B_combine_1 {b q r t : Nat} (hqt : t + 2 < q) (hrt : t + 2 < r) (hbt : b + 4 < t) : b ≠ t + 1 := by omega
theorem nx_B_combine_2 {b q r t : Nat} (hqt : t + 2 < q) (hrt : t + 2 < r) (hbt : b + 4 < t) : b ≠ t + 2 := by omega
theorem nx_B_combine_3 {b q r t : Nat} (hqt : t + 2 < q) (hrt : t + 2 < r) (hbt : b + 4 < t) : b + 1 ≠ t := by omega
theorem nx_B_combine_4 {b q r t : Nat} (hqt : t + 2 < q) (hrt : t + 2 < r) (hbt : b + 4 < t) : b + 1 ≠ t + 1 := by omega
theorem nx_B_combine_5 {b q r t : Nat} (hqt : t + 2 < q) (hrt : t + 2 < r) (hbt : b + 4 < t) : b + 1 ≠ t + 2 := by omega
theorem nx_B_combine_6 {b q r t : Nat} (hqt : t + 2 < q) (hrt : t + 2 < r) (hbt : b + 4 < t) : b + 2 ≠ t := by omega
theorem nx_B_combine_7 {b q r t : Nat} (hqt : t + 2 < q) (hrt : t + 2 < r) (hbt : b + 4 < t) : b + 2 ≠ t + 1 := by omega
theorem nx_B_combine_8 {b q r t : Nat} (hqt : t + 2 < q) (hrt : t + 2 < r) (hbt : b + 4 < t) : b + 2 ≠ t + 2 := by omega
theorem nx_B_combine_9 {b q r t : Nat} (hqt : t + 2 < q) (hrt : t + 2 < r) (hbt : b + 4 < t) : b + 3 ≠ t := by omega
theorem nx_B_combine_10 {b q r t : Nat} (hqt : t + 2 < q) (hrt : t + 2 < r) (hbt : b + 4 < t) : b + 3 ≠ t + 1 := by omega
theorem nx_B_combine_11 {b q r t : Nat} (hqt : t + 2 < q) (hrt : t + 2 < r) (hbt : b + 4 < t) : b + 3 ≠ t + 2 := by omega
theorem nx_B_combine_12 {b q r t : Nat} (hqt : t + 2 < q) (hrt : t + 2 < r) (hbt : b + 4 < t) : b + 4 ≠ t := by omega
theorem nx_B_combine_13 {b q r t : Nat} (hqt : t + 2 < q) (hrt : t + 2 < r) (hbt : b + 4 < t) : b + 4 ≠ t + 1 := by omega
theorem nx_B_combine_14 {b q r t : Nat} (hqt : t + 2 < q) (hrt : t + 2 < r) (hbt : b + 4 < t) : b + 4 ≠ t + 2 := by omega
theorem nx_B_combine_15 {b q r t : Nat} (hqt : t + 2 < q) (hrt : t + 2 < r) (hbt : b + 4 < t) : q ≠ t := by omega
theorem nx_B_combine_16 {b q r t : Nat} (hqt : t + 2 < q) (hrt : t + 2 < r) (hbt : b + 4 < t) : q ≠ t + 1 := by omega
theorem nx_B_combine_17 {b q r t : Nat} (hqt : t + 2 < q) (hrt : t + 2 < r) (hbt : b + 4 < t) : q ≠ t + 2 := by omega
theorem nx_B_combine_18 {b q r t : Nat} (hqt : t + 2 < q) (hrt : t + 2 < r) (hbt : b + 4 < t) : q + 1 ≠ t := by omega
theorem nx_B_combine_19 {b q r t : Nat} (hqt : t + 2 < q) (hrt : t + 2 < r) (hbt : b + 4 < t) : q + 1 ≠ t + 1 := by omega
theorem nx_B_combine_20 {b q r t : Nat} (hqt : t + 2 < q) (hrt : t + 2 < r) (hbt : b + 4 < t) : q + 1 ≠ t + 2 := by omega
theorem nx_B_combine_21 {b q r t : Nat} (hqt : t + 2 < q) (hrt : t + 2 < r) (hbt : b + 4 < t) : q + 2 ≠ t := by omega
theorem nx_B_combine_22 {b q r t : Nat} (hqt : t + 2 < q) (hrt : t + 2 < r) (hbt : b + 4 < t) : q + 2 ≠ t + 1 := by omega
theorem nx_B_combine_23 {b q r t : Nat} (hqt : t + 2 < q) (hrt : t + 2 < r) (hbt : b + 4 < t) : q + 2 ≠ t + 2 := by omega
theorem nx_B_combine_24 {b q r t : Nat} (hqt : t + 2 < q) (hrt : t + 2 < r) (hbt : b + 4 < t) : r ≠ t := by omega
theorem nx_B_combine_25 {b q r t : Nat} (hqt : t + 2 < q) (hrt : t + 2 < r) (hbt : b + 4 < t) : r ≠ t + 1 := by omega
theorem nx_B_combine_26 {b q r t : Nat} (hqt : t + 2 < q) (hrt : t + 2 < r) (hbt : b + 4 < t) : r ≠ t + 2 := by omega
theorem nx_B_combine_27 {b q r t : Nat} (hqt : t + 2 < q) (hrt : t + 2 < r) (hbt : b + 4 < t) : r + 1 ≠ t := by omega
theorem nx_B_combine_28 {b q r t : Nat} (hqt : t + 2 < q) (hrt : t + 2 < r) (hbt : b + 4 < t) : r + 1 ≠ t + 1 := by omega
theorem nx_B_combine_29 {b q r t : Nat} (hqt : t + 2 < q) (hrt : t + 2 < r) (hbt : b + 4 < t) : r + 1 ≠ t + 2 := by omega
theorem nx_B_combine_30 {b q r t : Nat} (hqt : t + 2 < q) (hrt : t + 2 < r) (hbt : b + 4 < t) : r + 2 ≠ t := by omega
theorem nx_B_combine_31 {b q r t : Nat} (hqt : t + 2 < q) (hrt : t + 2 < r) (hbt : b + 4 < t) : r + 2 ≠ t + 1 := by omega
theorem nx_B_combine_32 {b q r t : Nat} (hqt : t + 2 < q) (hrt : t + 2 < r) (hbt : b + 4 < t) : r + 2 ≠ t + 2 := by omega
theorem nx_B_combine_33 {b q r t : Nat} (hqt : t + 2 < q) (hrt : t + 2 < r) (hbt : b + 4 < t) : b ≠ b + 2 := by omega
theorem nx_B_combine_34 {b q r t : Nat} (hqt : t + 2 < q) (hrt : t + 2 < r) (hbt : b + 4 < t) : b + 1 ≠ b + 2 := by omega
theorem nx_B_combine_35 {b q r t : Nat} (hqt : t + 2 < q) (hrt : t + 2 < r) (hbt : b + 4 < t) : b + 3 ≠ b + 2 := by omega
theorem nx_B_combine_36 {b q r t : Nat} (hqt : t + 2 < q) (hrt : t + 2 < r) (hbt : b + 4 < t) : b + 4 ≠ b + 2 := by omega
theorem nx_B_combine_37 {b q r t : Nat} (hqt : t + 2 < q) (hrt : t + 2 < r) (hbt : b + 4 < t) : q ≠ b + 2 := by omega
theorem nx_B_combine_38 {b q r t : Nat} (hqt : t + 2 < q) (hrt : t + 2 < r) (hbt : b + 4 < t) : q + 1 ≠ b + 2 := by omega
theorem nx_B_combine_39 {b q r t : Nat} (hqt : t + 2 < q) (hrt : t + 2 < r) (hbt : b + 4 < t) : q + 2 ≠ b + 2 := by omega
theorem nx_B_combine_40 {b q r t : Nat} (hqt : t + 2 < q) (hrt : t + 2 < r) (hbt : b + 4 < t) : r ≠ b + 2 := by omega
theorem nx_B_combine_41 {b q r t : Nat} (hqt : t + 2 < q) (hrt : t + 2 < r) (hbt : b + 4 < t) : r + 1 ≠ b + 2 := by omega
theorem nx_B_combine_42 {b q r t : Nat} (hqt : t + 2 < q) (hrt : t + 2 < r) (hbt : b + 4 < t) : r + 2 ≠ b + 2 := by omega
theorem nx_B_combine_43 {b q r t : Nat} (hqt : t + 2 < q) (hrt : t + 2 < r) (hbt : b + 4 < t) : b ≠ b + 1 := by omega
theorem nx_B_combine_44 {b q r t : Nat} (hqt : t + 2 < q) (hrt : t + 2 < r) (hbt : b + 4 < t) : b + 3 ≠ b + 1 := by omega
theorem nx_B_combine_45 {b q r t : Nat} (hqt : t + 2 < q) (hrt : t + 2 < r) (hbt : b + 4 < t) : b + 4 ≠ b + 1 := by omega
theorem nx_B_combine_46 {b q r t : Nat} (hqt : t + 2 < q) (hrt : t + 2 < r) (hbt : b + 4 < t) : q ≠ b + 1 := by omega
theorem nx_B_combine_47 {b q r t : Nat} (hqt : t + 2 < q) (hrt : t + 2 < r) (hbt : b + 4 < t) : q + 1 ≠ b + 1 := by omega
theorem nx_B_combine_48 {b q r t : Nat} (hqt : t + 2 < q) (hrt : t + 2 < r) (hbt : b + 4 < t) : q + 2 ≠ b + 1 := by omega
theorem nx_B_combine_49 {b q r t : Nat} (hqt : t + 2 < q) (hrt : t + 2 < r) (hbt : b + 4 < t) : r ≠ b + 1 := by omega
theorem nx_B_combine_50 {b q r t : Nat} (hqt : t + 2 < q) (hrt : t + 2 < r) (hbt : b + 4 < t) : r + 1 ≠ b + 1 := by omega
theorem nx_B_combine_51 {b q r t : Nat} (hqt : t + 2 < q) (hrt : t + 2 < r) (hbt : b + 4 < t) : r + 2 ≠ b + 1 := by omega
def rm_B_combine : Room := { frames := 6, cells := 0, slots := 0, locals := 139 }
set_option maxHeartbeats 4000000 in
set_option maxRecDepth 100000 in
theorem c_B_combine (l : Launch) (E : zE) (w0 : zW) (op : Int) (b : Nat) (r1 r2 r3 r4 : Int → Int) (q : Nat) (kd : Nat) (pl ng : Int) (f : Int → Int) (r : Nat) (ko : Nat) (po no : Int) (g : Int → Int) (t : Nat) (kt : Nat) (pt nt : Int) (h : Int → Int) (q0lt : b < zn E) (q1lt : b + 1 < zn E) (q2lt : b + 2 < zn E) (q3lt : b + 3 < zn E) (q4lt : b + 4 < zn E) (q5lt : q < zn E) (q6lt : q + 1 < zn E) (q7lt : q + 2 < zn E) (q8lt : r < zn E) (q9lt : r + 1 < zn E) (q10lt : r + 2 < zn E) (q11lt : t < zn E) (q12lt : t + 1 < zn E) (q13lt : t + 2 < zn E) (c0 : w0 b = .inr (4, [.ref (ad E (b + 1)), .ref (ad E (b + 2)), .ref (ad E (b + 3)), .ref (ad E (b + 4))])) (c1 : w0 (b + 1) = zar E 30 r1) (c2 : w0 (b + 2) = zar E 30 r2) (c3 : w0 (b + 3) = zar E 30 r3) (c4 : w0 (b + 4) = zar E 30 r4) (c5 : w0 q = .inr (1, [.ref (zg E (1 + kd)), .int (iI pl), .ref (ad E (q + 1))])) (c6 : w0 (q + 1) = .inr (0, [.ref (ad E (q + 2)), .int (iI ng)])) (c7 : w0 (q + 2) = zar E 15 f) (c8 : w0 r = .inr (1, [.ref (zg E (1 + ko)), .int (iI po), .ref (ad E (r + 1))])) (c9 : w0 (r + 1) = .inr (0, [.ref (ad E (r + 2)), .int (iI no)])) (c10 : w0 (r + 2) = zar E 15 g) (c11 : w0 t = .inr (1, [.ref (zg E (1 + kt)), .int (iI pt), .ref (ad E (t + 1))])) (c12 : w0 (t + 1) = .inr (0, [.ref (ad E (t + 2)), .int (iI nt)])) (c13 : w0 (t + 2) = zar E 15 h) (br1 : bd r1 30 0 9999) (br2 : bd r2 30 0 9999) (br3 : bd r3 30 0 9999) (br4 : bd r4 30 0 9999) (bf : bd f 15 0 9999) (hkd : kd < 4) (hng : ng = 0 ∨ ng = 1) (hpl : 0 ≤ pl ∧ pl ≤ 24) (vA : V f 15 < Bp 14) (bg : bd g 15 0 9999) (hko : ko < 4) (hno : no = 0 ∨ no = 1) (hpo : 0 ≤ po ∧ po ≤ 24) (vB : V g 15 < Bp 14) (bh : bd h 15 0 9999) (hkt : kt < 4) (hnt : nt = 0 ∨ nt = 1) (hqt : t + 2 < q) (hrt : t + 2 < r) (hbt : b + 4 < t) (hop : 0 ≤ op ∧ op ≤ 5) : zM l y_B_combine ws_B_combine rm_B_combine E [.ref (ad E b), .int (iI op), .ref (ad E q), .ref (ad E r), .ref (ad E t)] w0 (zQi E w0 (fun z w' => (∃ (r1' : Int → Int) (r2' : Int → Int) (k' : Nat) (p' : Int) (n' : Int) (f' : Int → Int), w' (b + 1) = zar E 30 r1' ∧ w' (b + 2) = zar E 30 r2' ∧ w' t = .inr (1, [.ref (zg E (1 + k')), .int (iI p'), .ref (ad E (t + 1))]) ∧ w' (t + 1) = .inr (0, [.ref (ad E (t + 2)), .int (iI n')]) ∧ w' (t + 2) = zar E 15 f' ∧ bd r1' 30 0 9999 ∧ bd r2' 30 0 9999 ∧ bd f' 15 0 9999 ∧ (k' < 4 ∧ (n' = 0 ∨ n' = 1) ∧ Nf z k' p' n' (V f' 15) ∧ CmR op z k' p' n' (V f' 15) kd pl ng (V f 15) ko po no (V g 15))) ∧ ∀ k, k ≠ (b + 1) → k ≠ (b + 2) → k ≠ t → k ≠ (t + 1) → k ≠ (t + 2) → w' k = w0 k)) := by
  refine z_met (cc := b_B_combine) (maxL := 6) (ret := (some .int)) (by decide +kernel) rfl (Nat.le_of_ble_eq_true rfl) ?_
  intro p e s m below meth cd ls a Qf hQ hC hl hH
  obtain ⟨hF, hr, hlk, hK, hG, hn⟩ := hC
  obtain ⟨hx, hb, hml, hown, hts⟩ := hF
  have hg : ∀ w ∈ GW, w.before a s = true := fun w h => hts w (List.mem_cons_of_mem _ h)
  have hA : ∀ q, s.heap.size ≤ q → va_A (wl E w0) s.heap.size q := fun q h => Or.inr h
  have hl : lv_has ls 6 [(0, .ref (ad E b)), (1, .int (iI op)), (2, .ref (ad E q)), (3, .ref (ad E r)), (4, .ref (ad E t))] := hl
  have vg := V_in bg (show (0 : Int) ≤ 15 by decide) (Int.le_refl 15)
  have L20 : ∀  (ls : Array Slot) (H1 : Heap) (lc2 : List Loc), (lv_has ls 6 [(0, .ref (ad E b)), (1, .int (iI op)), (2, .ref (ad E q)), (3, .ref (ad E r)), (4, .ref (ad E t))]) → (zH E w0 (va_A (wl E w0) s.heap.size) s.heap H1 lc2) → (kd = 3 ∨ ko = 3) → W p l e rm_B_combine s m a below meth cd H1 lc2 0 0 Qf (F0 m 20 ls []) := by
    intro ls H1 lc2 hl hH h20
    refine lv_aload hx hb d_B_combine_20 (lv_at hl 4 rfl) ?_
    refine zv_kind hx hb hG hH hown 3 (by decide) (hg _ wm_377) (fun _ h9 => h9) d_B_combine_22 ?_
    refine z_callv (va_runV (As := [.ref (zg E (1 + 3))]) (rest := []) ⟨hx, hb, hml, hown, hts⟩ (c_N_become (l := l) (E := E) (w0 := w0) (q := t) (kd := kt) (k2 := 3) (pl := pt) (ng := nt) (f := h) (q0lt := q11lt) (q1lt := q12lt) (q2lt := q13lt) (c0 := c11) (c1 := c12) (c2 := c13) (bf := bh) (hkd := by omega) (hng := by omega) H1.size) (z_cwV (C := "ScaledNumeralDesk$Numeral") 1 hg wm_230 wm_378 wm_2 wm_228 wm_229 (by decide +kernel) ⟨Nat.le_of_ble_eq_true rfl, Nat.le_of_ble_eq_true rfl⟩) (z_preV (r := ("ScaledNumeralDesk$Numeral", TN, 3)) hK hG hn hH hA q11lt c11 rfl) rfl rfl hl.1 rfl (lv_room (Nat.le_of_ble_eq_true rfl)) d_B_combine_25 ⟨Nat.zero_le _, Nat.zero_le _⟩) hH hA (fun  w5 H3 lc4 hH6 p25 => ?_)
    obtain ⟨⟨f_7, e8, e9, e10, bd11, p25⟩, hg12⟩ := p25
    replace bd11 : bd f_7 15 0 9999 := bd11
    replace p25 : ∀ j : Int, 0 ≤ j → j < 15 → f_7 j = 0 := p25
    have e13 : w5 b = .inr (4, [.ref (ad E (b + 1)), .ref (ad E (b + 2)), .ref (ad E (b + 3)), .ref (ad E (b + 4))]) := (hg12 b (nx_B_combine_0 hqt hrt hbt) (nx_B_combine_1 hqt hrt hbt) (nx_B_combine_2 hqt hrt hbt)).trans c0
    have e14 : w5 (b + 1) = zar E 30 r1 := (hg12 (b + 1) (nx_B_combine_3 hqt hrt hbt) (nx_B_combine_4 hqt hrt hbt) (nx_B_combine_5 hqt hrt hbt)).trans c1
    have e15 : w5 (b + 2) = zar E 30 r2 := (hg12 (b + 2) (nx_B_combine_6 hqt hrt hbt) (nx_B_combine_7 hqt hrt hbt) (nx_B_combine_8 hqt hrt hbt)).trans c2
    have e16 : w5 (b + 3) = zar E 30 r3 := (hg12 (b + 3) (nx_B_combine_9 hqt hrt hbt) (nx_B_combine_10 hqt hrt hbt) (nx_B_combine_11 hqt hrt hbt)).trans c3
    have e17 : w5 (b + 4) = zar E 30 r4 := (hg12 (b + 4) (nx_B_combine_12 hqt hrt hbt) (nx_B_combine_13 hqt hrt hbt) (nx_B_combine_14 hqt hrt hbt)).trans c4
    have e18 : w5 q = .inr (1, [.ref (zg E (1 + kd)), .int (iI pl), .ref (ad E (q + 1))]) := (hg12 q (nx_B_combine_15 hqt hrt hbt) (nx_B_combine_16 hqt hrt hbt) (nx_B_combine_17 hqt hrt hbt)).trans c5
    have e19 : w5 (q + 1) = .inr (0, [.ref (ad E (q + 2)), .int (iI ng)]) := (hg12 (q + 1) (nx_B_combine_18 hqt hrt hbt) (nx_B_combine_19 hqt hrt hbt) (nx_B_combine_20 hqt hrt hbt)).trans c6
    have e20 : w5 (q + 2) = zar E 15 f := (hg12 (q + 2) (nx_B_combine_21 hqt hrt hbt) (nx_B_combine_22 hqt hrt hbt) (nx_B_combine_23 hqt hrt hbt)).trans c7
    have e21 : w5 r = .inr (1, [.ref (zg E (1 + ko)), .int (iI po), .ref (ad E (r + 1))]) := (hg12 r (nx_B_combine_24 hqt hrt hbt) (nx_B_combine_25 hqt hrt hbt) (nx_B_combine_26 hqt hrt hbt)).trans c8
    have e22 : w5 (r + 1) = .inr (0, [.ref (ad E (r + 2)), .int (iI no)]) := (hg12 (r + 1) (nx_B_combine_27 hqt hrt hbt) (nx_B_combine_28 hqt hrt hbt) (nx_B_combine_29 hqt hrt hbt)).trans c9
    have e23 : w5 (r + 2) = zar E 15 g := (hg12 (r + 2) (nx_B_combine_30 hqt hrt hbt) (nx_B_combine_31 hqt hrt hbt) (nx_B_combine_32 hqt hrt hbt)).trans c10
    have hf24 : ∀ k, k ≠ t → k ≠ (t + 1) → k ≠ (t + 2) → w5 k = w0 k := fun k g0 g1 g2 => hg12 k g0 g1 g2
    refine zv_iconst hx hb d_B_combine_28 ?_
    rw [hQ]
    exact z_iret hx hb hr hlk hH6 (⟨⟨r1, r2, 3, 0, 0, f_7, e14, e15, e8, e9, e10, br1, br2, bd11, ⟨by decide, Or.inl rfl, (by first | exact Nf_0 (V0_of p25) | exact Nf_0 (V0_of p25.1)), Or.inl ⟨h20, rfl, rfl⟩⟩⟩, (fun k g0 g1 g2 g3 g4 => hf24 k g2 g3 g4)⟩) d_B_combine_29
  refine lv_aload_n hx hb d_B_combine_0 rfl (lv_at hl 2 rfl) ?_
  refine zv_get (C := "ScaledNumeralDesk$Numeral") (T := TN) (N := 3) hx hb hg uN_in hown hK hH q5lt c5 rfl 0 (by decide) (hg _ wm_56) (fun _ h9 => h9) rfl d_B_combine_1 ?_
  refine zv_kind hx hb hG hH hown 3 (by decide) (hg _ wm_377) (fun _ h9 => h9) d_B_combine_4 ?_
  refine zv_acmp_eq (a := kd) (b := 3) (tgt := 20) hx hb hG (by omega) (by omega) d_B_combine_7 rfl (fun h25 => ?_) (fun h25 => ?_)
  · exact L20 _ s.heap ([]) (lv_sub hl [0, 1, 2, 3, 4] rfl) hH (by omega)
  · refine lv_aload_n hx hb d_B_combine_10 rfl (lv_at hl 3 rfl) ?_
    refine zv_get (C := "ScaledNumeralDesk$Numeral") (T := TN) (N := 3) hx hb hg uN_in hown hK hH q8lt c8 rfl 0 (by decide) (hg _ wm_56) (fun _ h9 => h9) rfl d_B_combine_11 ?_
    refine zv_kind hx hb hG hH hown 3 (by decide) (hg _ wm_377) (fun _ h9 => h9) d_B_combine_14 ?_
    refine zv_acmp_ne (a := ko) (b := 3) (tgt := 30) hx hb hG (by omega) (by omega) d_B_combine_17 rfl (fun h26 => ?_) (fun h26 => ?_)
    · have L49 : ∀ (fi : Int) (ls : Array Slot) (H27 : Heap) (lc28 : List Loc), (lv_has ls 6 [(0, .ref (ad E b)), (1, .int (iI op)), (2, .ref (ad E q)), (3, .ref (ad E r)), (4, .ref (ad E t))]) → (zH E w0 (va_A (wl E w0) s.heap.size) s.heap H27 lc28) → ((fi = 1 ∧ kd = 1 ∧ ko = 1) ∨ (fi = 0 ∧ ¬ (kd = 1 ∧ ko = 1))) → W p l e rm_B_combine s m a below meth cd H27 lc28 0 0 Qf (F0 m 49 ls [.int (iI fi)]) := by
        intro fi ls H27 lc28 hl hH hfi
        refine lv_istore (lv' := [(5, .int (iI fi)), (0, .ref (ad E b)), (1, .int (iI op)), (2, .ref (ad E q)), (3, .ref (ad E r)), (4, .ref (ad E t))]) hx hb d_B_combine_49 hl (by decide) rfl (fun ls hl => ?_)
        refine lv_iload_n hx hb d_B_combine_51 rfl (lv_at hl 2 rfl) ?_
        rcases (show op = 0 ∨ op = 1 ∨ op = 2 ∨ op = 3 ∨ op = 4 ∨ op = 5 by omega) with rfl | rfl | rfl | rfl | rfl | rfl
        · refine lv_tableIn (x := iI 0) (off := 28) (tgt := 80) hx hb d_B_combine_52 (by decide) (by decide) (by decide) (by decide) ?_
          refine lv_iload hx hb d_B_combine_80 (lv_at hl 0 rfl) ?_
          refine zv_if_eq (tgt := 106) hx hb d_B_combine_82 rfl (by omega) (fun h29 => ?_) (fun h29 => ?_)
          · refine lv_aload_n hx hb d_B_combine_106 rfl (lv_at hl 1 rfl) ?_
            refine lv_aload_n hx hb d_B_combine_107 rfl (lv_at hl 3 rfl) ?_
            refine lv_aload_n hx hb d_B_combine_108 rfl (lv_at hl 4 rfl) ?_
            refine lv_iload_n hx hb d_B_combine_109 rfl (lv_at hl 2 rfl) ?_
            refine zv_iconst hx hb d_B_combine_110 ?_
            refine zv_icmp_ne (tgt := 118) hx hb d_B_combine_111 rfl (by omega) (by omega) (fun h30 => ?_) (fun h30 => absurd h30 (by omega))
            refine zv_iconst hx hb d_B_combine_118 ?_
            refine lv_aload hx hb d_B_combine_119 (lv_at hl 5 rfl) ?_
            refine z_calli (va_runV (As := [.ref (ad E q), .ref (ad E r), .int (iI 0), .ref (ad E t)]) (rest := []) ⟨hx, hb, hml, hown, hts⟩ (c_B_addInf (l := l) (E := E) (w0 := w0) (b := b) (r1 := r1) (r2 := r2) (r3 := r3) (r4 := r4) (q := q) (kd := kd) (pl := pl) (ng := ng) (f := f) (r := r) (ko := ko) (po := po) (no := no) (g := g) (t := t) (kt := kt) (pt := pt) (nt := nt) (h := h) (ta := 0) (q0lt := q0lt) (q1lt := q1lt) (q2lt := q2lt) (q3lt := q3lt) (q4lt := q4lt) (q5lt := q5lt) (q6lt := q6lt) (q7lt := q7lt) (q8lt := q8lt) (q9lt := q9lt) (q10lt := q10lt) (q11lt := q11lt) (q12lt := q12lt) (q13lt := q13lt) (c0 := c0) (c1 := c1) (c2 := c2) (c3 := c3) (c4 := c4) (c5 := c5) (c6 := c6) (c7 := c7) (c8 := c8) (c9 := c9) (c10 := c10) (c11 := c11) (c12 := c12) (c13 := c13) (br1 := br1) (br2 := br2) (br3 := br3) (br4 := br4) (bf := bf) (hkd := by omega) (hng := by omega) (hpl := by omega) (vA := by omega) (bg := bg) (hko := by omega) (hno := by omega) (hpo := by omega) (vB := by omega) (bh := bh) (hkt := by omega) (hnt := by omega) (hqt := by omega) (hrt := by omega) (hbt := by omega) (hta := by omega) (hnn := by omega) H27.size) (z_cwV (C := "ScaledNumeralDesk$Bench") 4 hg wm_408 wm_405 wm_8 wm_407 wm_s11 (by decide +kernel) ⟨Nat.le_of_ble_eq_true rfl, Nat.le_of_ble_eq_true rfl⟩) (z_preV (r := ("ScaledNumeralDesk$Bench", TB, 4)) hK hG hn hH hA q0lt c0 rfl) rfl rfl hl.1 rfl (lv_room (Nat.le_of_ble_eq_true rfl)) d_B_combine_121 ⟨Nat.zero_le _, Nat.zero_le _⟩) hH hA (fun z35 w33 H31 lc32 hH34 p121 => ?_)
            obtain ⟨⟨k_36, p_37, n_38, f_39, e40, e41, e42, bd43, p121⟩, hg44⟩ := p121
            replace bd43 : bd f_39 15 0 9999 := bd43
            replace p121 : z35 = 0 ∧ (n_38 = 0 ∨ n_38 = 1) ∧ Nf z35 k_36 p_37 n_38 (V f_39 15) ∧ infk (kdsg kd + (1 - 2 * (0 : Int)) * kdsg ko) k_36 := p121
            have e45 : w33 b = .inr (4, [.ref (ad E (b + 1)), .ref (ad E (b + 2)), .ref (ad E (b + 3)), .ref (ad E (b + 4))]) := (hg44 b (nx_B_combine_0 hqt hrt hbt) (nx_B_combine_1 hqt hrt hbt) (nx_B_combine_2 hqt hrt hbt)).trans c0
            have e46 : w33 (b + 1) = zar E 30 r1 := (hg44 (b + 1) (nx_B_combine_3 hqt hrt hbt) (nx_B_combine_4 hqt hrt hbt) (nx_B_combine_5 hqt hrt hbt)).trans c1
            have e47 : w33 (b + 2) = zar E 30 r2 := (hg44 (b + 2) (nx_B_combine_6 hqt hrt hbt) (nx_B_combine_7 hqt hrt hbt) (nx_B_combine_8 hqt hrt hbt)).trans c2
            have e48 : w33 (b + 3) = zar E 30 r3 := (hg44 (b + 3) (nx_B_combine_9 hqt hrt hbt) (nx_B_combine_10 hqt hrt hbt) (nx_B_combine_11 hqt hrt hbt)).trans c3
            have e49 : w33 (b + 4) = zar E 30 r4 := (hg44 (b + 4) (nx_B_combine_12 hqt hrt hbt) (nx_B_combine_13 hqt hrt hbt) (nx_B_combine_14 hqt hrt hbt)).trans c4
            have e50 : w33 q = .inr (1, [.ref (zg E (1 + kd)), .int (iI pl), .ref (ad E (q + 1))]) := (hg44 q (nx_B_combine_15 hqt hrt hbt) (nx_B_combine_16 hqt hrt hbt) (nx_B_combine_17 hqt hrt hbt)).trans c5
            have e51 : w33 (q + 1) = .inr (0, [.ref (ad E (q + 2)), .int (iI ng)]) := (hg44 (q + 1) (nx_B_combine_18 hqt hrt hbt) (nx_B_combine_19 hqt hrt hbt) (nx_B_combine_20 hqt hrt hbt)).trans c6
            have e52 : w33 (q + 2) = zar E 15 f := (hg44 (q + 2) (nx_B_combine_21 hqt hrt hbt) (nx_B_combine_22 hqt hrt hbt) (nx_B_combine_23 hqt hrt hbt)).trans c7
            have e53 : w33 r = .inr (1, [.ref (zg E (1 + ko)), .int (iI po), .ref (ad E (r + 1))]) := (hg44 r (nx_B_combine_24 hqt hrt hbt) (nx_B_combine_25 hqt hrt hbt) (nx_B_combine_26 hqt hrt hbt)).trans c8
            have e54 : w33 (r + 1) = .inr (0, [.ref (ad E (r + 2)), .int (iI no)]) := (hg44 (r + 1) (nx_B_combine_27 hqt hrt hbt) (nx_B_combine_28 hqt hrt hbt) (nx_B_combine_29 hqt hrt hbt)).trans c9
            have e55 : w33 (r + 2) = zar E 15 g := (hg44 (r + 2) (nx_B_combine_30 hqt hrt hbt) (nx_B_combine_31 hqt hrt hbt) (nx_B_combine_32 hqt hrt hbt)).trans c10
            have hf56 : ∀ k, k ≠ t → k ≠ (t + 1) → k ≠ (t + 2) → w33 k = w0 k := fun k g0 g1 g2 => hg44 k g0 g1 g2
            rw [hQ]
            exact z_iret hx hb hr hlk hH34 (⟨⟨r1, r2, k_36, p_37, n_38, f_39, e46, e47, e40, e41, e42, br1, br2, bd43, ⟨by have := p121.2.2.2; unfold infk at this; omega, p121.2.1, p121.2.2.1, Or.inr ⟨by omega, by omega, Or.inr (Or.inl ⟨by omega, by omega, p121.1, p121.2.2.2⟩)⟩⟩⟩, (fun k g0 g1 g2 g3 g4 => hf56 k g2 g3 g4)⟩) d_B_combine_124
          · refine lv_aload_n hx hb d_B_combine_85 rfl (lv_at hl 1 rfl) ?_
            refine lv_aload_n hx hb d_B_combine_86 rfl (lv_at hl 3 rfl) ?_
            refine lv_aload_n hx hb d_B_combine_87 rfl (lv_at hl 4 rfl) ?_
            refine lv_iload_n hx hb d_B_combine_88 rfl (lv_at hl 2 rfl) ?_
            refine zv_iconst hx hb d_B_combine_89 ?_
            refine zv_icmp_ne (tgt := 97) hx hb d_B_combine_90 rfl (by omega) (by omega) (fun h57 => ?_) (fun h57 => absurd h57 (by omega))
            refine zv_iconst hx hb d_B_combine_97 ?_
            refine lv_aload hx hb d_B_combine_98 (lv_at hl 5 rfl) ?_
            refine z_calli (va_runV (As := [.ref (ad E q), .ref (ad E r), .int (iI 0), .ref (ad E t)]) (rest := []) ⟨hx, hb, hml, hown, hts⟩ (c_B_add (l := l) (E := E) (w0 := w0) (b := b) (r1 := r1) (r2 := r2) (r3 := r3) (r4 := r4) (q := q) (kd := kd) (pl := pl) (ng := ng) (f := f) (r := r) (ko := ko) (po := po) (no := no) (g := g) (t := t) (kt := kt) (pt := pt) (nt := nt) (h := h) (ta := 0) (q0lt := q0lt) (q1lt := q1lt) (q2lt := q2lt) (q3lt := q3lt) (q4lt := q4lt) (q5lt := q5lt) (q6lt := q6lt) (q7lt := q7lt) (q8lt := q8lt) (q9lt := q9lt) (q10lt := q10lt) (q11lt := q11lt) (q12lt := q12lt) (q13lt := q13lt) (c0 := c0) (c1 := c1) (c2 := c2) (c3 := c3) (c4 := c4) (c5 := c5) (c6 := c6) (c7 := c7) (c8 := c8) (c9 := c9) (c10 := c10) (c11 := c11) (c12 := c12) (c13 := c13) (br1 := br1) (br2 := br2) (br3 := br3) (br4 := br4) (bf := bf) (hkd := by omega) (hng := by omega) (hpl := by omega) (vA := by omega) (bg := bg) (hko := by omega) (hno := by omega) (hpo := by omega) (vB := by omega) (bh := bh) (hkt := by omega) (hnt := by omega) (hqt := by omega) (hrt := by omega) (hbt := by omega) (hta := by omega) H27.size) (z_cwV (C := "ScaledNumeralDesk$Bench") 4 hg wm_383 wm_380 wm_8 wm_382 wm_s10 (by decide +kernel) ⟨Nat.le_of_ble_eq_true rfl, Nat.le_of_ble_eq_true rfl⟩) (z_preV (r := ("ScaledNumeralDesk$Bench", TB, 4)) hK hG hn hH hA q0lt c0 rfl) rfl rfl hl.1 rfl (lv_room (Nat.le_of_ble_eq_true rfl)) d_B_combine_100 ⟨Nat.zero_le _, Nat.zero_le _⟩) hH hA (fun z62 w60 H58 lc59 hH61 p100 => ?_)
            obtain ⟨⟨k_63, p_64, n_65, f_66, e67, e68, e69, bd70, p100⟩, hg71⟩ := p100
            replace bd70 : bd f_66 15 0 9999 := bd70
            replace p100 : k_63 = kd ∧ (n_65 = 0 ∨ n_65 = 1) ∧ p_64 = max pl po ∧ (V f_66 15 = 0 → n_65 = 0) ∧ sv n_65 (V f_66 15) = sv ng (V f 15) + tk (0 : Int) (sv no (V g 15)) ∧ ((z62 = -3 ∧ Tp 56 ≤ V f_66 15) ∨ (z62 = 0 ∧ V f_66 15 < Tp 56)) := p100
            have e72 : w60 b = .inr (4, [.ref (ad E (b + 1)), .ref (ad E (b + 2)), .ref (ad E (b + 3)), .ref (ad E (b + 4))]) := (hg71 b (nx_B_combine_0 hqt hrt hbt) (nx_B_combine_1 hqt hrt hbt) (nx_B_combine_2 hqt hrt hbt)).trans c0
            have e73 : w60 (b + 1) = zar E 30 r1 := (hg71 (b + 1) (nx_B_combine_3 hqt hrt hbt) (nx_B_combine_4 hqt hrt hbt) (nx_B_combine_5 hqt hrt hbt)).trans c1
            have e74 : w60 (b + 2) = zar E 30 r2 := (hg71 (b + 2) (nx_B_combine_6 hqt hrt hbt) (nx_B_combine_7 hqt hrt hbt) (nx_B_combine_8 hqt hrt hbt)).trans c2
            have e75 : w60 (b + 3) = zar E 30 r3 := (hg71 (b + 3) (nx_B_combine_9 hqt hrt hbt) (nx_B_combine_10 hqt hrt hbt) (nx_B_combine_11 hqt hrt hbt)).trans c3
            have e76 : w60 (b + 4) = zar E 30 r4 := (hg71 (b + 4) (nx_B_combine_12 hqt hrt hbt) (nx_B_combine_13 hqt hrt hbt) (nx_B_combine_14 hqt hrt hbt)).trans c4
            have e77 : w60 q = .inr (1, [.ref (zg E (1 + kd)), .int (iI pl), .ref (ad E (q + 1))]) := (hg71 q (nx_B_combine_15 hqt hrt hbt) (nx_B_combine_16 hqt hrt hbt) (nx_B_combine_17 hqt hrt hbt)).trans c5
            have e78 : w60 (q + 1) = .inr (0, [.ref (ad E (q + 2)), .int (iI ng)]) := (hg71 (q + 1) (nx_B_combine_18 hqt hrt hbt) (nx_B_combine_19 hqt hrt hbt) (nx_B_combine_20 hqt hrt hbt)).trans c6
            have e79 : w60 (q + 2) = zar E 15 f := (hg71 (q + 2) (nx_B_combine_21 hqt hrt hbt) (nx_B_combine_22 hqt hrt hbt) (nx_B_combine_23 hqt hrt hbt)).trans c7
            have e80 : w60 r = .inr (1, [.ref (zg E (1 + ko)), .int (iI po), .ref (ad E (r + 1))]) := (hg71 r (nx_B_combine_24 hqt hrt hbt) (nx_B_combine_25 hqt hrt hbt) (nx_B_combine_26 hqt hrt hbt)).trans c8
            have e81 : w60 (r + 1) = .inr (0, [.ref (ad E (r + 2)), .int (iI no)]) := (hg71 (r + 1) (nx_B_combine_27 hqt hrt hbt) (nx_B_combine_28 hqt hrt hbt) (nx_B_combine_29 hqt hrt hbt)).trans c9
            have e82 : w60 (r + 2) = zar E 15 g := (hg71 (r + 2) (nx_B_combine_30 hqt hrt hbt) (nx_B_combine_31 hqt hrt hbt) (nx_B_combine_32 hqt hrt hbt)).trans c10
            have hf83 : ∀ k, k ≠ t → k ≠ (t + 1) → k ≠ (t + 2) → w60 k = w0 k := fun k g0 g1 g2 => hg71 k g0 g1 g2
            refine lv_goto (tgt := 124) hx hb d_B_combine_103 rfl ?_
            rw [hQ]
            exact z_iret hx hb hr hlk hH61 (⟨⟨r1, r2, k_63, p_64, n_65, f_66, e73, e74, e67, e68, e69, br1, br2, bd70, ⟨by omega, p100.2.1, Nf_1 (by omega), Or.inr ⟨by omega, by omega, Or.inl ⟨by omega, by omega, by omega, by omega, p100.2.2.1, p100.2.2.2.1, by rw [p100.2.2.2.2.1, tk_0]; omega, p100.2.2.2.2.2⟩⟩⟩⟩, (fun k g0 g1 g2 g3 g4 => hf83 k g2 g3 g4)⟩) d_B_combine_124
        · refine lv_tableIn (x := iI 1) (off := 28) (tgt := 80) hx hb d_B_combine_52 (by decide) (by decide) (by decide) (by decide) ?_
          refine lv_iload hx hb d_B_combine_80 (lv_at hl 0 rfl) ?_
          refine zv_if_eq (tgt := 106) hx hb d_B_combine_82 rfl (by omega) (fun h84 => ?_) (fun h84 => ?_)
          · refine lv_aload_n hx hb d_B_combine_106 rfl (lv_at hl 1 rfl) ?_
            refine lv_aload_n hx hb d_B_combine_107 rfl (lv_at hl 3 rfl) ?_
            refine lv_aload_n hx hb d_B_combine_108 rfl (lv_at hl 4 rfl) ?_
            refine lv_iload_n hx hb d_B_combine_109 rfl (lv_at hl 2 rfl) ?_
            refine zv_iconst hx hb d_B_combine_110 ?_
            refine zv_icmp_ne (tgt := 118) hx hb d_B_combine_111 rfl (by omega) (by omega) (fun h85 => absurd h85 (by omega)) (fun h85 => ?_)
            refine zv_iconst hx hb d_B_combine_114 ?_
            refine lv_goto (tgt := 119) hx hb d_B_combine_115 rfl ?_
            refine lv_aload hx hb d_B_combine_119 (lv_at hl 5 rfl) ?_
            refine z_calli (va_runV (As := [.ref (ad E q), .ref (ad E r), .int (iI 1), .ref (ad E t)]) (rest := []) ⟨hx, hb, hml, hown, hts⟩ (c_B_addInf (l := l) (E := E) (w0 := w0) (b := b) (r1 := r1) (r2 := r2) (r3 := r3) (r4 := r4) (q := q) (kd := kd) (pl := pl) (ng := ng) (f := f) (r := r) (ko := ko) (po := po) (no := no) (g := g) (t := t) (kt := kt) (pt := pt) (nt := nt) (h := h) (ta := 1) (q0lt := q0lt) (q1lt := q1lt) (q2lt := q2lt) (q3lt := q3lt) (q4lt := q4lt) (q5lt := q5lt) (q6lt := q6lt) (q7lt := q7lt) (q8lt := q8lt) (q9lt := q9lt) (q10lt := q10lt) (q11lt := q11lt) (q12lt := q12lt) (q13lt := q13lt) (c0 := c0) (c1 := c1) (c2 := c2) (c3 := c3) (c4 := c4) (c5 := c5) (c6 := c6) (c7 := c7) (c8 := c8) (c9 := c9) (c10 := c10) (c11 := c11) (c12 := c12) (c13 := c13) (br1 := br1) (br2 := br2) (br3 := br3) (br4 := br4) (bf := bf) (hkd := by omega) (hng := by omega) (hpl := by omega) (vA := by omega) (bg := bg) (hko := by omega) (hno := by omega) (hpo := by omega) (vB := by omega) (bh := bh) (hkt := by omega) (hnt := by omega) (hqt := by omega) (hrt := by omega) (hbt := by omega) (hta := by omega) (hnn := by omega) H27.size) (z_cwV (C := "ScaledNumeralDesk$Bench") 4 hg wm_408 wm_405 wm_8 wm_407 wm_s11 (by decide +kernel) ⟨Nat.le_of_ble_eq_true rfl, Nat.le_of_ble_eq_true rfl⟩) (z_preV (r := ("ScaledNumeralDesk$Bench", TB, 4)) hK hG hn hH hA q0lt c0 rfl) rfl rfl hl.1 rfl (lv_room (Nat.le_of_ble_eq_true rfl)) d_B_combine_121 ⟨Nat.zero_le _, Nat.zero_le _⟩) hH hA (fun z90 w88 H86 lc87 hH89 p121 => ?_)
            obtain ⟨⟨k_91, p_92, n_93, f_94, e95, e96, e97, bd98, p121⟩, hg99⟩ := p121
            replace bd98 : bd f_94 15 0 9999 := bd98
            replace p121 : z90 = 0 ∧ (n_93 = 0 ∨ n_93 = 1) ∧ Nf z90 k_91 p_92 n_93 (V f_94 15) ∧ infk (kdsg kd + (1 - 2 * (1 : Int)) * kdsg ko) k_91 := p121
            have e100 : w88 b = .inr (4, [.ref (ad E (b + 1)), .ref (ad E (b + 2)), .ref (ad E (b + 3)), .ref (ad E (b + 4))]) := (hg99 b (nx_B_combine_0 hqt hrt hbt) (nx_B_combine_1 hqt hrt hbt) (nx_B_combine_2 hqt hrt hbt)).trans c0
            have e101 : w88 (b + 1) = zar E 30 r1 := (hg99 (b + 1) (nx_B_combine_3 hqt hrt hbt) (nx_B_combine_4 hqt hrt hbt) (nx_B_combine_5 hqt hrt hbt)).trans c1
            have e102 : w88 (b + 2) = zar E 30 r2 := (hg99 (b + 2) (nx_B_combine_6 hqt hrt hbt) (nx_B_combine_7 hqt hrt hbt) (nx_B_combine_8 hqt hrt hbt)).trans c2
            have e103 : w88 (b + 3) = zar E 30 r3 := (hg99 (b + 3) (nx_B_combine_9 hqt hrt hbt) (nx_B_combine_10 hqt hrt hbt) (nx_B_combine_11 hqt hrt hbt)).trans c3
            have e104 : w88 (b + 4) = zar E 30 r4 := (hg99 (b + 4) (nx_B_combine_12 hqt hrt hbt) (nx_B_combine_13 hqt hrt hbt) (nx_B_combine_14 hqt hrt hbt)).trans c4
            have e105 : w88 q = .inr (1, [.ref (zg E (1 + kd)), .int (iI pl), .ref (ad E (q + 1))]) := (hg99 q (nx_B_combine_15 hqt hrt hbt) (nx_B_combine_16 hqt hrt hbt) (nx_B_combine_17 hqt hrt hbt)).trans c5
            have e106 : w88 (q + 1) = .inr (0, [.ref (ad E (q + 2)), .int (iI ng)]) := (hg99 (q + 1) (nx_B_combine_18 hqt hrt hbt) (nx_B_combine_19 hqt hrt hbt) (nx_B_combine_20 hqt hrt hbt)).trans c6
            have e107 : w88 (q + 2) = zar E 15 f := (hg99 (q + 2) (nx_B_combine_21 hqt hrt hbt) (nx_B_combine_22 hqt hrt hbt) (nx_B_combine_23 hqt hrt hbt)).trans c7
            have e108 : w88 r = .inr (1, [.ref (zg E (1 + ko)), .int (iI po), .ref (ad E (r + 1))]) := (hg99 r (nx_B_combine_24 hqt hrt hbt) (nx_B_combine_25 hqt hrt hbt) (nx_B_combine_26 hqt hrt hbt)).trans c8
            have e109 : w88 (r + 1) = .inr (0, [.ref (ad E (r + 2)), .int (iI no)]) := (hg99 (r + 1) (nx_B_combine_27 hqt hrt hbt) (nx_B_combine_28 hqt hrt hbt) (nx_B_combine_29 hqt hrt hbt)).trans c9
            have e110 : w88 (r + 2) = zar E 15 g := (hg99 (r + 2) (nx_B_combine_30 hqt hrt hbt) (nx_B_combine_31 hqt hrt hbt) (nx_B_combine_32 hqt hrt hbt)).trans c10
            have hf111 : ∀ k, k ≠ t → k ≠ (t + 1) → k ≠ (t + 2) → w88 k = w0 k := fun k g0 g1 g2 => hg99 k g0 g1 g2
            rw [hQ]
            exact z_iret hx hb hr hlk hH89 (⟨⟨r1, r2, k_91, p_92, n_93, f_94, e101, e102, e95, e96, e97, br1, br2, bd98, ⟨by have := p121.2.2.2; unfold infk at this; omega, p121.2.1, p121.2.2.1, Or.inr ⟨by omega, by omega, Or.inr (Or.inl ⟨by omega, by omega, p121.1, p121.2.2.2⟩)⟩⟩⟩, (fun k g0 g1 g2 g3 g4 => hf111 k g2 g3 g4)⟩) d_B_combine_124
          · refine lv_aload_n hx hb d_B_combine_85 rfl (lv_at hl 1 rfl) ?_
            refine lv_aload_n hx hb d_B_combine_86 rfl (lv_at hl 3 rfl) ?_
            refine lv_aload_n hx hb d_B_combine_87 rfl (lv_at hl 4 rfl) ?_
            refine lv_iload_n hx hb d_B_combine_88 rfl (lv_at hl 2 rfl) ?_
            refine zv_iconst hx hb d_B_combine_89 ?_
            refine zv_icmp_ne (tgt := 97) hx hb d_B_combine_90 rfl (by omega) (by omega) (fun h112 => absurd h112 (by omega)) (fun h112 => ?_)
            refine zv_iconst hx hb d_B_combine_93 ?_
            refine lv_goto (tgt := 98) hx hb d_B_combine_94 rfl ?_
            refine lv_aload hx hb d_B_combine_98 (lv_at hl 5 rfl) ?_
            refine z_calli (va_runV (As := [.ref (ad E q), .ref (ad E r), .int (iI 1), .ref (ad E t)]) (rest := []) ⟨hx, hb, hml, hown, hts⟩ (c_B_add (l := l) (E := E) (w0 := w0) (b := b) (r1 := r1) (r2 := r2) (r3 := r3) (r4 := r4) (q := q) (kd := kd) (pl := pl) (ng := ng) (f := f) (r := r) (ko := ko) (po := po) (no := no) (g := g) (t := t) (kt := kt) (pt := pt) (nt := nt) (h := h) (ta := 1) (q0lt := q0lt) (q1lt := q1lt) (q2lt := q2lt) (q3lt := q3lt) (q4lt := q4lt) (q5lt := q5lt) (q6lt := q6lt) (q7lt := q7lt) (q8lt := q8lt) (q9lt := q9lt) (q10lt := q10lt) (q11lt := q11lt) (q12lt := q12lt) (q13lt := q13lt) (c0 := c0) (c1 := c1) (c2 := c2) (c3 := c3) (c4 := c4) (c5 := c5) (c6 := c6) (c7 := c7) (c8 := c8) (c9 := c9) (c10 := c10) (c11 := c11) (c12 := c12) (c13 := c13) (br1 := br1) (br2 := br2) (br3 := br3) (br4 := br4) (bf := bf) (hkd := by omega) (hng := by omega) (hpl := by omega) (vA := by omega) (bg := bg) (hko := by omega) (hno := by omega) (hpo := by omega) (vB := by omega) (bh := bh) (hkt := by omega) (hnt := by omega) (hqt := by omega) (hrt := by omega) (hbt := by omega) (hta := by omega) H27.size) (z_cwV (C := "ScaledNumeralDesk$Bench") 4 hg wm_383 wm_380 wm_8 wm_382 wm_s10 (by decide +kernel) ⟨Nat.le_of_ble_eq_true rfl, Nat.le_of_ble_eq_true rfl⟩) (z_preV (r := ("ScaledNumeralDesk$Bench", TB, 4)) hK hG hn hH hA q0lt c0 rfl) rfl rfl hl.1 rfl (lv_room (Nat.le_of_ble_eq_true rfl)) d_B_combine_100 ⟨Nat.zero_le _, Nat.zero_le _⟩) hH hA (fun z117 w115 H113 lc114 hH116 p100 => ?_)
            obtain ⟨⟨k_118, p_119, n_120, f_121, e122, e123, e124, bd125, p100⟩, hg126⟩ := p100
            replace bd125 : bd f_121 15 0 9999 := bd125
            replace p100 : k_118 = kd ∧ (n_120 = 0 ∨ n_120 = 1) ∧ p_119 = max pl po ∧ (V f_121 15 = 0 → n_120 = 0) ∧ sv n_120 (V f_121 15) = sv ng (V f 15) + tk (1 : Int) (sv no (V g 15)) ∧ ((z117 = -3 ∧ Tp 56 ≤ V f_121 15) ∨ (z117 = 0 ∧ V f_121 15 < Tp 56)) := p100
            have e127 : w115 b = .inr (4, [.ref (ad E (b + 1)), .ref (ad E (b + 2)), .ref (ad E (b + 3)), .ref (ad E (b + 4))]) := (hg126 b (nx_B_combine_0 hqt hrt hbt) (nx_B_combine_1 hqt hrt hbt) (nx_B_combine_2 hqt hrt hbt)).trans c0
            have e128 : w115 (b + 1) = zar E 30 r1 := (hg126 (b + 1) (nx_B_combine_3 hqt hrt hbt) (nx_B_combine_4 hqt hrt hbt) (nx_B_combine_5 hqt hrt hbt)).trans c1
            have e129 : w115 (b + 2) = zar E 30 r2 := (hg126 (b + 2) (nx_B_combine_6 hqt hrt hbt) (nx_B_combine_7 hqt hrt hbt) (nx_B_combine_8 hqt hrt hbt)).trans c2
            have e130 : w115 (b + 3) = zar E 30 r3 := (hg126 (b + 3) (nx_B_combine_9 hqt hrt hbt) (nx_B_combine_10 hqt hrt hbt) (nx_B_combine_11 hqt hrt hbt)).trans c3
            have e131 : w115 (b + 4) = zar E 30 r4 := (hg126 (b + 4) (nx_B_combine_12 hqt hrt hbt) (nx_B_combine_13 hqt hrt hbt) (nx_B_combine_14 hqt hrt hbt)).trans c4
            have e132 : w115 q = .inr (1, [.ref (zg E (1 + kd)), .int (iI pl), .ref (ad E (q + 1))]) := (hg126 q (nx_B_combine_15 hqt hrt hbt) (nx_B_combine_16 hqt hrt hbt) (nx_B_combine_17 hqt hrt hbt)).trans c5
            have e133 : w115 (q + 1) = .inr (0, [.ref (ad E (q + 2)), .int (iI ng)]) := (hg126 (q + 1) (nx_B_combine_18 hqt hrt hbt) (nx_B_combine_19 hqt hrt hbt) (nx_B_combine_20 hqt hrt hbt)).trans c6
            have e134 : w115 (q + 2) = zar E 15 f := (hg126 (q + 2) (nx_B_combine_21 hqt hrt hbt) (nx_B_combine_22 hqt hrt hbt) (nx_B_combine_23 hqt hrt hbt)).trans c7
            have e135 : w115 r = .inr (1, [.ref (zg E (1 + ko)), .int (iI po), .ref (ad E (r + 1))]) := (hg126 r (nx_B_combine_24 hqt hrt hbt) (nx_B_combine_25 hqt hrt hbt) (nx_B_combine_26 hqt hrt hbt)).trans c8
            have e136 : w115 (r + 1) = .inr (0, [.ref (ad E (r + 2)), .int (iI no)]) := (hg126 (r + 1) (nx_B_combine_27 hqt hrt hbt) (nx_B_combine_28 hqt hrt hbt) (nx_B_combine_29 hqt hrt hbt)).trans c9
            have e137 : w115 (r + 2) = zar E 15 g := (hg126 (r + 2) (nx_B_combine_30 hqt hrt hbt) (nx_B_combine_31 hqt hrt hbt) (nx_B_combine_32 hqt hrt hbt)).trans c10
            have hf138 : ∀ k, k ≠ t → k ≠ (t + 1) → k ≠ (t + 2) → w115 k = w0 k := fun k g0 g1 g2 => hg126 k g0 g1 g2
            refine lv_goto (tgt := 124) hx hb d_B_combine_103 rfl ?_
            rw [hQ]
            exact z_iret hx hb hr hlk hH116 (⟨⟨r1, r2, k_118, p_119, n_120, f_121, e128, e129, e122, e123, e124, br1, br2, bd125, ⟨by omega, p100.2.1, Nf_1 (by omega), Or.inr ⟨by omega, by omega, Or.inl ⟨by omega, by omega, by omega, by omega, p100.2.2.1, p100.2.2.2.1, by rw [p100.2.2.2.2.1, tk_1]; omega, p100.2.2.2.2.2⟩⟩⟩⟩, (fun k g0 g1 g2 g3 g4 => hf138 k g2 g3 g4)⟩) d_B_combine_124
        · refine lv_tableIn (x := iI 2) (off := 73) (tgt := 125) hx hb d_B_combine_52 (by decide) (by decide) (by decide) (by decide) ?_
          refine lv_iload hx hb d_B_combine_125 (lv_at hl 0 rfl) ?_
          refine zv_if_eq (tgt := 141) hx hb d_B_combine_127 rfl (by omega) (fun h139 => ?_) (fun h139 => ?_)
          · refine lv_aload_n hx hb d_B_combine_141 rfl (lv_at hl 1 rfl) ?_
            refine lv_aload_n hx hb d_B_combine_142 rfl (lv_at hl 3 rfl) ?_
            refine lv_aload_n hx hb d_B_combine_143 rfl (lv_at hl 4 rfl) ?_
            refine lv_aload hx hb d_B_combine_144 (lv_at hl 5 rfl) ?_
            refine z_calli (va_runV (As := [.ref (ad E q), .ref (ad E r), .ref (ad E t)]) (rest := []) ⟨hx, hb, hml, hown, hts⟩ (c_B_mulInf (l := l) (E := E) (w0 := w0) (b := b) (r1 := r1) (r2 := r2) (r3 := r3) (r4 := r4) (q := q) (kd := kd) (pl := pl) (ng := ng) (f := f) (r := r) (ko := ko) (po := po) (no := no) (g := g) (t := t) (kt := kt) (pt := pt) (nt := nt) (h := h) (q0lt := q0lt) (q1lt := q1lt) (q2lt := q2lt) (q3lt := q3lt) (q4lt := q4lt) (q5lt := q5lt) (q6lt := q6lt) (q7lt := q7lt) (q8lt := q8lt) (q9lt := q9lt) (q10lt := q10lt) (q11lt := q11lt) (q12lt := q12lt) (q13lt := q13lt) (c0 := c0) (c1 := c1) (c2 := c2) (c3 := c3) (c4 := c4) (c5 := c5) (c6 := c6) (c7 := c7) (c8 := c8) (c9 := c9) (c10 := c10) (c11 := c11) (c12 := c12) (c13 := c13) (br1 := br1) (br2 := br2) (br3 := br3) (br4 := br4) (bf := bf) (hkd := by omega) (hng := by omega) (hpl := by omega) (vA := by omega) (bg := bg) (hko := by omega) (hno := by omega) (hpo := by omega) (vB := by omega) (bh := bh) (hkt := by omega) (hnt := by omega) (hqt := by omega) (hrt := by omega) (hbt := by omega) H27.size) (z_cwV (C := "ScaledNumeralDesk$Bench") 3 hg wm_448 wm_445 wm_8 wm_447 wm_s13 (by decide +kernel) ⟨Nat.le_of_ble_eq_true rfl, Nat.le_of_ble_eq_true rfl⟩) (z_preV (r := ("ScaledNumeralDesk$Bench", TB, 4)) hK hG hn hH hA q0lt c0 rfl) rfl rfl hl.1 rfl (lv_room (Nat.le_of_ble_eq_true rfl)) d_B_combine_146 ⟨Nat.zero_le _, Nat.zero_le _⟩) hH hA (fun z144 w142 H140 lc141 hH143 p146 => ?_)
            obtain ⟨⟨k_145, p_146, n_147, f_148, e149, e150, e151, bd152, p146⟩, hg153⟩ := p146
            replace bd152 : bd f_148 15 0 9999 := bd152
            replace p146 : z144 = 0 ∧ (n_147 = 0 ∨ n_147 = 1) ∧ Nf z144 k_145 p_146 n_147 (V f_148 15) ∧ infk (sg3 kd ng (V f 15) * sg3 ko no (V g 15)) k_145 := p146
            have e154 : w142 b = .inr (4, [.ref (ad E (b + 1)), .ref (ad E (b + 2)), .ref (ad E (b + 3)), .ref (ad E (b + 4))]) := (hg153 b (nx_B_combine_0 hqt hrt hbt) (nx_B_combine_1 hqt hrt hbt) (nx_B_combine_2 hqt hrt hbt)).trans c0
            have e155 : w142 (b + 1) = zar E 30 r1 := (hg153 (b + 1) (nx_B_combine_3 hqt hrt hbt) (nx_B_combine_4 hqt hrt hbt) (nx_B_combine_5 hqt hrt hbt)).trans c1
            have e156 : w142 (b + 2) = zar E 30 r2 := (hg153 (b + 2) (nx_B_combine_6 hqt hrt hbt) (nx_B_combine_7 hqt hrt hbt) (nx_B_combine_8 hqt hrt hbt)).trans c2
            have e157 : w142 (b + 3) = zar E 30 r3 := (hg153 (b + 3) (nx_B_combine_9 hqt hrt hbt) (nx_B_combine_10 hqt hrt hbt) (nx_B_combine_11 hqt hrt hbt)).trans c3
            have e158 : w142 (b + 4) = zar E 30 r4 := (hg153 (b + 4) (nx_B_combine_12 hqt hrt hbt) (nx_B_combine_13 hqt hrt hbt) (nx_B_combine_14 hqt hrt hbt)).trans c4
            have e159 : w142 q = .inr (1, [.ref (zg E (1 + kd)), .int (iI pl), .ref (ad E (q + 1))]) := (hg153 q (nx_B_combine_15 hqt hrt hbt) (nx_B_combine_16 hqt hrt hbt) (nx_B_combine_17 hqt hrt hbt)).trans c5
            have e160 : w142 (q + 1) = .inr (0, [.ref (ad E (q + 2)), .int (iI ng)]) := (hg153 (q + 1) (nx_B_combine_18 hqt hrt hbt) (nx_B_combine_19 hqt hrt hbt) (nx_B_combine_20 hqt hrt hbt)).trans c6
            have e161 : w142 (q + 2) = zar E 15 f := (hg153 (q + 2) (nx_B_combine_21 hqt hrt hbt) (nx_B_combine_22 hqt hrt hbt) (nx_B_combine_23 hqt hrt hbt)).trans c7
            have e162 : w142 r = .inr (1, [.ref (zg E (1 + ko)), .int (iI po), .ref (ad E (r + 1))]) := (hg153 r (nx_B_combine_24 hqt hrt hbt) (nx_B_combine_25 hqt hrt hbt) (nx_B_combine_26 hqt hrt hbt)).trans c8
            have e163 : w142 (r + 1) = .inr (0, [.ref (ad E (r + 2)), .int (iI no)]) := (hg153 (r + 1) (nx_B_combine_27 hqt hrt hbt) (nx_B_combine_28 hqt hrt hbt) (nx_B_combine_29 hqt hrt hbt)).trans c9
            have e164 : w142 (r + 2) = zar E 15 g := (hg153 (r + 2) (nx_B_combine_30 hqt hrt hbt) (nx_B_combine_31 hqt hrt hbt) (nx_B_combine_32 hqt hrt hbt)).trans c10
            have hf165 : ∀ k, k ≠ t → k ≠ (t + 1) → k ≠ (t + 2) → w142 k = w0 k := fun k g0 g1 g2 => hg153 k g0 g1 g2
            rw [hQ]
            exact z_iret hx hb hr hlk hH143 (⟨⟨r1, r2, k_145, p_146, n_147, f_148, e155, e156, e149, e150, e151, br1, br2, bd152, ⟨by have := p146.2.2.2; unfold infk at this; omega, p146.2.1, p146.2.2.1, Or.inr ⟨by omega, by omega, Or.inr (Or.inr (Or.inr (Or.inl ⟨rfl, by omega, p146.1, p146.2.2.2⟩)))⟩⟩⟩, (fun k g0 g1 g2 g3 g4 => hf165 k g2 g3 g4)⟩) d_B_combine_149
          · refine lv_aload_n hx hb d_B_combine_130 rfl (lv_at hl 1 rfl) ?_
            refine lv_aload_n hx hb d_B_combine_131 rfl (lv_at hl 3 rfl) ?_
            refine lv_aload_n hx hb d_B_combine_132 rfl (lv_at hl 4 rfl) ?_
            refine lv_aload hx hb d_B_combine_133 (lv_at hl 5 rfl) ?_
            refine z_calli (va_runV (As := [.ref (ad E q), .ref (ad E r), .ref (ad E t)]) (rest := []) ⟨hx, hb, hml, hown, hts⟩ (c_B_multiply (l := l) (E := E) (w0 := w0) (b := b) (r1 := r1) (r2 := r2) (r3 := r3) (r4 := r4) (q := q) (kd := kd) (pl := pl) (ng := ng) (f := f) (r := r) (ko := ko) (po := po) (no := no) (g := g) (t := t) (kt := kt) (pt := pt) (nt := nt) (h := h) (q0lt := q0lt) (q1lt := q1lt) (q2lt := q2lt) (q3lt := q3lt) (q4lt := q4lt) (q5lt := q5lt) (q6lt := q6lt) (q7lt := q7lt) (q8lt := q8lt) (q9lt := q9lt) (q10lt := q10lt) (q11lt := q11lt) (q12lt := q12lt) (q13lt := q13lt) (c0 := c0) (c1 := c1) (c2 := c2) (c3 := c3) (c4 := c4) (c5 := c5) (c6 := c6) (c7 := c7) (c8 := c8) (c9 := c9) (c10 := c10) (c11 := c11) (c12 := c12) (c13 := c13) (br1 := br1) (br2 := br2) (br3 := br3) (br4 := br4) (bf := bf) (hkd := by omega) (hng := by omega) (hpl := by omega) (vA := by omega) (bg := bg) (hko := by omega) (hno := by omega) (hpo := by omega) (vB := by omega) (bh := bh) (hkt := by omega) (hnt := by omega) (hqt := by omega) (hrt := by omega) (hbt := by omega) H27.size) (z_cwV (C := "ScaledNumeralDesk$Bench") 3 hg wm_421 wm_418 wm_8 wm_420 wm_s12 (by decide +kernel) ⟨Nat.le_of_ble_eq_true rfl, Nat.le_of_ble_eq_true rfl⟩) (z_preV (r := ("ScaledNumeralDesk$Bench", TB, 4)) hK hG hn hH hA q0lt c0 rfl) rfl rfl hl.1 rfl (lv_room (Nat.le_of_ble_eq_true rfl)) d_B_combine_135 ⟨Nat.zero_le _, Nat.zero_le _⟩) hH hA (fun z170 w168 H166 lc167 hH169 p135 => ?_)
            obtain ⟨⟨r_171, k_172, p_173, n_174, f_175, e176, e177, e178, e179, bd180, bd181, p135⟩, hg182⟩ := p135
            replace bd180 : bd r_171 30 0 9999 := bd180
            replace bd181 : bd f_175 15 0 9999 := bd181
            replace p135 : k_172 < 4 ∧ (n_174 = 0 ∨ n_174 = 1) ∧ St z170 k_172 p_173 n_174 (V f_175 15) (Rn (V f 15 * V g 15) (12 * 4 - min (pl + po) 24)) 12 (min (pl + po) 24) (dif ng no) := p135
            have e183 : w168 b = .inr (4, [.ref (ad E (b + 1)), .ref (ad E (b + 2)), .ref (ad E (b + 3)), .ref (ad E (b + 4))]) := (hg182 b (nx_B_combine_33 hqt hrt hbt) (nx_B_combine_0 hqt hrt hbt) (nx_B_combine_1 hqt hrt hbt) (nx_B_combine_2 hqt hrt hbt)).trans c0
            have e184 : w168 (b + 1) = zar E 30 r1 := (hg182 (b + 1) (nx_B_combine_34 hqt hrt hbt) (nx_B_combine_3 hqt hrt hbt) (nx_B_combine_4 hqt hrt hbt) (nx_B_combine_5 hqt hrt hbt)).trans c1
            have e185 : w168 (b + 3) = zar E 30 r3 := (hg182 (b + 3) (nx_B_combine_35 hqt hrt hbt) (nx_B_combine_9 hqt hrt hbt) (nx_B_combine_10 hqt hrt hbt) (nx_B_combine_11 hqt hrt hbt)).trans c3
            have e186 : w168 (b + 4) = zar E 30 r4 := (hg182 (b + 4) (nx_B_combine_36 hqt hrt hbt) (nx_B_combine_12 hqt hrt hbt) (nx_B_combine_13 hqt hrt hbt) (nx_B_combine_14 hqt hrt hbt)).trans c4
            have e187 : w168 q = .inr (1, [.ref (zg E (1 + kd)), .int (iI pl), .ref (ad E (q + 1))]) := (hg182 q (nx_B_combine_37 hqt hrt hbt) (nx_B_combine_15 hqt hrt hbt) (nx_B_combine_16 hqt hrt hbt) (nx_B_combine_17 hqt hrt hbt)).trans c5
            have e188 : w168 (q + 1) = .inr (0, [.ref (ad E (q + 2)), .int (iI ng)]) := (hg182 (q + 1) (nx_B_combine_38 hqt hrt hbt) (nx_B_combine_18 hqt hrt hbt) (nx_B_combine_19 hqt hrt hbt) (nx_B_combine_20 hqt hrt hbt)).trans c6
            have e189 : w168 (q + 2) = zar E 15 f := (hg182 (q + 2) (nx_B_combine_39 hqt hrt hbt) (nx_B_combine_21 hqt hrt hbt) (nx_B_combine_22 hqt hrt hbt) (nx_B_combine_23 hqt hrt hbt)).trans c7
            have e190 : w168 r = .inr (1, [.ref (zg E (1 + ko)), .int (iI po), .ref (ad E (r + 1))]) := (hg182 r (nx_B_combine_40 hqt hrt hbt) (nx_B_combine_24 hqt hrt hbt) (nx_B_combine_25 hqt hrt hbt) (nx_B_combine_26 hqt hrt hbt)).trans c8
            have e191 : w168 (r + 1) = .inr (0, [.ref (ad E (r + 2)), .int (iI no)]) := (hg182 (r + 1) (nx_B_combine_41 hqt hrt hbt) (nx_B_combine_27 hqt hrt hbt) (nx_B_combine_28 hqt hrt hbt) (nx_B_combine_29 hqt hrt hbt)).trans c9
            have e192 : w168 (r + 2) = zar E 15 g := (hg182 (r + 2) (nx_B_combine_42 hqt hrt hbt) (nx_B_combine_30 hqt hrt hbt) (nx_B_combine_31 hqt hrt hbt) (nx_B_combine_32 hqt hrt hbt)).trans c10
            have hf193 : ∀ k, k ≠ (b + 2) → k ≠ t → k ≠ (t + 1) → k ≠ (t + 2) → w168 k = w0 k := fun k g0 g1 g2 g3 => hg182 k g0 g1 g2 g3
            refine lv_goto (tgt := 149) hx hb d_B_combine_138 rfl ?_
            rw [hQ]
            exact z_iret hx hb hr hlk hH169 (⟨⟨r1, r_171, k_172, p_173, n_174, f_175, e184, e176, e177, e178, e179, br1, bd180, bd181, ⟨p135.1, p135.2.1, St_Nf p135.2.2, Or.inr ⟨by omega, by omega, Or.inr (Or.inr (Or.inl ⟨rfl, by omega, by omega, p135.2.2⟩))⟩⟩⟩, (fun k g0 g1 g2 g3 g4 => hf193 k g1 g2 g3 g4)⟩) d_B_combine_149
        · refine lv_tableOut (x := iI 3) (tgt := 150) hx hb d_B_combine_52 (by decide) (by decide) ?_
          refine lv_aload_n hx hb d_B_combine_150 rfl (lv_at hl 4 rfl) ?_
          refine z_calli (va_runV (As := []) (rest := []) ⟨hx, hb, hml, hown, hts⟩ (c_N_isZero (l := l) (E := E) (w0 := w0) (q := r) (kd := ko) (pl := po) (ng := no) (f := g) (q0lt := q8lt) (q1lt := q9lt) (q2lt := q10lt) (c0 := c8) (c1 := c9) (c2 := c10) (bf := bg) (hkd := by omega) (hng := by omega) H27.size) (z_cwV (C := "ScaledNumeralDesk$Numeral") 0 hg wm_452 wm_449 wm_2 wm_450 wm_451 (by decide +kernel) ⟨Nat.le_of_ble_eq_true rfl, Nat.le_of_ble_eq_true rfl⟩) (z_preV (r := ("ScaledNumeralDesk$Numeral", TN, 3)) hK hG hn hH hA q8lt c8 rfl) rfl rfl hl.1 rfl (lv_room (Nat.le_of_ble_eq_true rfl)) d_B_combine_151 ⟨Nat.zero_le _, Nat.zero_le _⟩) hH hA (fun z198 w196 H194 lc195 hH197 p151 => ?_)
          obtain ⟨ew199, p151⟩ := p151
          rw [ew199] at hH197
          replace p151 : (z198 = 1 ∧ ko = 1 ∧ V g 15 = 0) ∨ (z198 = 0 ∧ (ko ≠ 1 ∨ 0 < V g 15)) := p151
          refine zv_if_eq (tgt := 162) hx hb d_B_combine_154 rfl (by omega) (fun h200 => ?_) (fun h200 => ?_)
          · refine lv_aload_n hx hb d_B_combine_162 rfl (lv_at hl 1 rfl) ?_
            refine lv_iload_n hx hb d_B_combine_163 rfl (lv_at hl 2 rfl) ?_
            refine lv_aload_n hx hb d_B_combine_164 rfl (lv_at hl 3 rfl) ?_
            refine lv_aload_n hx hb d_B_combine_165 rfl (lv_at hl 4 rfl) ?_
            refine lv_iload hx hb d_B_combine_166 (lv_at hl 0 rfl) ?_
            refine lv_aload hx hb d_B_combine_168 (lv_at hl 5 rfl) ?_
            refine z_calli (va_runV (As := [.int (iI 3), .ref (ad E q), .ref (ad E r), .int (iI fi), .ref (ad E t)]) (rest := []) ⟨hx, hb, hml, hown, hts⟩ (c_B_share (l := l) (E := E) (w0 := w0) (op := 3) (fi := fi) (b := b) (r1 := r1) (r2 := r2) (r3 := r3) (r4 := r4) (q := q) (kd := kd) (pl := pl) (ng := ng) (f := f) (r := r) (ko := ko) (po := po) (no := no) (g := g) (t := t) (kt := kt) (pt := pt) (nt := nt) (h := h) (q0lt := q0lt) (q1lt := q1lt) (q2lt := q2lt) (q3lt := q3lt) (q4lt := q4lt) (q5lt := q5lt) (q6lt := q6lt) (q7lt := q7lt) (q8lt := q8lt) (q9lt := q9lt) (q10lt := q10lt) (q11lt := q11lt) (q12lt := q12lt) (q13lt := q13lt) (c0 := c0) (c1 := c1) (c2 := c2) (c3 := c3) (c4 := c4) (c5 := c5) (c6 := c6) (c7 := c7) (c8 := c8) (c9 := c9) (c10 := c10) (c11 := c11) (c12 := c12) (c13 := c13) (br1 := br1) (br2 := br2) (br3 := br3) (br4 := br4) (bf := bf) (hkd := by omega) (hng := by omega) (hpl := by omega) (vA := by omega) (bg := bg) (hko := by omega) (hno := by omega) (hpo := by omega) (vB := by omega) (bh := bh) (hkt := by omega) (hnt := by omega) (hqt := by omega) (hrt := by omega) (hbt := by omega) (hop := by omega) (hfi := by omega) (hD := by omega) H194.size) (z_cwV (C := "ScaledNumeralDesk$Bench") 5 hg wm_457 wm_454 wm_8 wm_456 wm_s14 (by decide +kernel) ⟨Nat.le_of_ble_eq_true rfl, Nat.le_of_ble_eq_true rfl⟩) (z_preV (r := ("ScaledNumeralDesk$Bench", TB, 4)) hK hG hn hH197 hA q0lt c0 rfl) rfl rfl hl.1 rfl (lv_room (Nat.le_of_ble_eq_true rfl)) d_B_combine_170 ⟨Nat.zero_le _, Nat.zero_le _⟩) hH197 hA (fun z205 w203 H201 lc202 hH204 p170 => ?_)
            obtain ⟨⟨r_206, r_207, k_208, p_209, n_210, f_211, e212, e213, e214, e215, e216, bd217, bd218, bd219, p170⟩, hg220⟩ := p170
            replace bd217 : bd r_206 30 0 9999 := bd217
            replace bd218 : bd r_207 30 0 9999 := bd218
            replace bd219 : bd f_211 15 0 9999 := bd219
            replace p170 : k_208 < 4 ∧ (n_210 = 0 ∨ n_210 = 1) ∧ Nf z205 k_208 p_209 n_210 (V f_211 15) ∧ ShR (3 : Int) z205 k_208 p_209 n_210 (V f_211 15) kd pl ng (V f 15) ko po no (V g 15) := p170
            have e221 : w203 b = .inr (4, [.ref (ad E (b + 1)), .ref (ad E (b + 2)), .ref (ad E (b + 3)), .ref (ad E (b + 4))]) := (hg220 b (nx_B_combine_43 hqt hrt hbt) (nx_B_combine_33 hqt hrt hbt) (nx_B_combine_0 hqt hrt hbt) (nx_B_combine_1 hqt hrt hbt) (nx_B_combine_2 hqt hrt hbt)).trans c0
            have e222 : w203 (b + 3) = zar E 30 r3 := (hg220 (b + 3) (nx_B_combine_44 hqt hrt hbt) (nx_B_combine_35 hqt hrt hbt) (nx_B_combine_9 hqt hrt hbt) (nx_B_combine_10 hqt hrt hbt) (nx_B_combine_11 hqt hrt hbt)).trans c3
            have e223 : w203 (b + 4) = zar E 30 r4 := (hg220 (b + 4) (nx_B_combine_45 hqt hrt hbt) (nx_B_combine_36 hqt hrt hbt) (nx_B_combine_12 hqt hrt hbt) (nx_B_combine_13 hqt hrt hbt) (nx_B_combine_14 hqt hrt hbt)).trans c4
            have e224 : w203 q = .inr (1, [.ref (zg E (1 + kd)), .int (iI pl), .ref (ad E (q + 1))]) := (hg220 q (nx_B_combine_46 hqt hrt hbt) (nx_B_combine_37 hqt hrt hbt) (nx_B_combine_15 hqt hrt hbt) (nx_B_combine_16 hqt hrt hbt) (nx_B_combine_17 hqt hrt hbt)).trans c5
            have e225 : w203 (q + 1) = .inr (0, [.ref (ad E (q + 2)), .int (iI ng)]) := (hg220 (q + 1) (nx_B_combine_47 hqt hrt hbt) (nx_B_combine_38 hqt hrt hbt) (nx_B_combine_18 hqt hrt hbt) (nx_B_combine_19 hqt hrt hbt) (nx_B_combine_20 hqt hrt hbt)).trans c6
            have e226 : w203 (q + 2) = zar E 15 f := (hg220 (q + 2) (nx_B_combine_48 hqt hrt hbt) (nx_B_combine_39 hqt hrt hbt) (nx_B_combine_21 hqt hrt hbt) (nx_B_combine_22 hqt hrt hbt) (nx_B_combine_23 hqt hrt hbt)).trans c7
            have e227 : w203 r = .inr (1, [.ref (zg E (1 + ko)), .int (iI po), .ref (ad E (r + 1))]) := (hg220 r (nx_B_combine_49 hqt hrt hbt) (nx_B_combine_40 hqt hrt hbt) (nx_B_combine_24 hqt hrt hbt) (nx_B_combine_25 hqt hrt hbt) (nx_B_combine_26 hqt hrt hbt)).trans c8
            have e228 : w203 (r + 1) = .inr (0, [.ref (ad E (r + 2)), .int (iI no)]) := (hg220 (r + 1) (nx_B_combine_50 hqt hrt hbt) (nx_B_combine_41 hqt hrt hbt) (nx_B_combine_27 hqt hrt hbt) (nx_B_combine_28 hqt hrt hbt) (nx_B_combine_29 hqt hrt hbt)).trans c9
            have e229 : w203 (r + 2) = zar E 15 g := (hg220 (r + 2) (nx_B_combine_51 hqt hrt hbt) (nx_B_combine_42 hqt hrt hbt) (nx_B_combine_30 hqt hrt hbt) (nx_B_combine_31 hqt hrt hbt) (nx_B_combine_32 hqt hrt hbt)).trans c10
            have hf230 : ∀ k, k ≠ (b + 1) → k ≠ (b + 2) → k ≠ t → k ≠ (t + 1) → k ≠ (t + 2) → w203 k = w0 k := fun k g0 g1 g2 g3 g4 => hg220 k g0 g1 g2 g3 g4
            rw [hQ]
            exact z_iret hx hb hr hlk hH204 (⟨⟨r_206, r_207, k_208, p_209, n_210, f_211, e212, e213, e214, e215, e216, bd217, bd218, bd219, ⟨p170.1, p170.2.1, p170.2.2.1, Or.inr ⟨by omega, by omega, Or.inr (Or.inr (Or.inr (Or.inr (Or.inr ⟨by omega, by omega, p170.2.2.2⟩))))⟩⟩⟩, (fun k g0 g1 g2 g3 g4 => hf230 k g0 g1 g2 g3 g4)⟩) d_B_combine_173
          · refine zv_bipush hx hb d_B_combine_157 rfl ?_
            refine lv_goto (tgt := 173) hx hb d_B_combine_159 rfl ?_
            rw [hQ]
            exact z_iret hx hb hr hlk hH197 (⟨⟨r1, r2, kt, pt, nt, h, c1, c2, c11, c12, c13, br1, br2, bh, ⟨hkt, hnt, Nf_z (by decide), Or.inr ⟨by omega, by omega, Or.inr (Or.inr (Or.inr (Or.inr (Or.inl ⟨by omega, by omega, by omega, rfl⟩))))⟩⟩⟩, (fun k _ _ _ _ _ => rfl)⟩) d_B_combine_173
        · refine lv_tableOut (x := iI 4) (tgt := 150) hx hb d_B_combine_52 (by decide) (by decide) ?_
          refine lv_aload_n hx hb d_B_combine_150 rfl (lv_at hl 4 rfl) ?_
          refine z_calli (va_runV (As := []) (rest := []) ⟨hx, hb, hml, hown, hts⟩ (c_N_isZero (l := l) (E := E) (w0 := w0) (q := r) (kd := ko) (pl := po) (ng := no) (f := g) (q0lt := q8lt) (q1lt := q9lt) (q2lt := q10lt) (c0 := c8) (c1 := c9) (c2 := c10) (bf := bg) (hkd := by omega) (hng := by omega) H27.size) (z_cwV (C := "ScaledNumeralDesk$Numeral") 0 hg wm_452 wm_449 wm_2 wm_450 wm_451 (by decide +kernel) ⟨Nat.le_of_ble_eq_true rfl, Nat.le_of_ble_eq_true rfl⟩) (z_preV (r := ("ScaledNumeralDesk$Numeral", TN, 3)) hK hG hn hH hA q8lt c8 rfl) rfl rfl hl.1 rfl (lv_room (Nat.le_of_ble_eq_true rfl)) d_B_combine_151 ⟨Nat.zero_le _, Nat.zero_le _⟩) hH hA (fun z235 w233 H231 lc232 hH234 p151 => ?_)
          obtain ⟨ew236, p151⟩ := p151
          rw [ew236] at hH234
          replace p151 : (z235 = 1 ∧ ko = 1 ∧ V g 15 = 0) ∨ (z235 = 0 ∧ (ko ≠ 1 ∨ 0 < V g 15)) := p151
          refine zv_if_eq (tgt := 162) hx hb d_B_combine_154 rfl (by omega) (fun h237 => ?_) (fun h237 => ?_)
          · refine lv_aload_n hx hb d_B_combine_162 rfl (lv_at hl 1 rfl) ?_
            refine lv_iload_n hx hb d_B_combine_163 rfl (lv_at hl 2 rfl) ?_
            refine lv_aload_n hx hb d_B_combine_164 rfl (lv_at hl 3 rfl) ?_
            refine lv_aload_n hx hb d_B_combine_165 rfl (lv_at hl 4 rfl) ?_
            refine lv_iload hx hb d_B_combine_166 (lv_at hl 0 rfl) ?_
            refine lv_aload hx hb d_B_combine_168 (lv_at hl 5 rfl) ?_
            refine z_calli (va_runV (As := [.int (iI 4), .ref (ad E q), .ref (ad E r), .int (iI fi), .ref (ad E t)]) (rest := []) ⟨hx, hb, hml, hown, hts⟩ (c_B_share (l := l) (E := E) (w0 := w0) (op := 4) (fi := fi) (b := b) (r1 := r1) (r2 := r2) (r3 := r3) (r4 := r4) (q := q) (kd := kd) (pl := pl) (ng := ng) (f := f) (r := r) (ko := ko) (po := po) (no := no) (g := g) (t := t) (kt := kt) (pt := pt) (nt := nt) (h := h) (q0lt := q0lt) (q1lt := q1lt) (q2lt := q2lt) (q3lt := q3lt) (q4lt := q4lt) (q5lt := q5lt) (q6lt := q6lt) (q7lt := q7lt) (q8lt := q8lt) (q9lt := q9lt) (q10lt := q10lt) (q11lt := q11lt) (q12lt := q12lt) (q13lt := q13lt) (c0 := c0) (c1 := c1) (c2 := c2) (c3 := c3) (c4 := c4) (c5 := c5) (c6 := c6) (c7 := c7) (c8 := c8) (c9 := c9) (c10 := c10) (c11 := c11) (c12 := c12) (c13 := c13) (br1 := br1) (br2 := br2) (br3 := br3) (br4 := br4) (bf := bf) (hkd := by omega) (hng := by omega) (hpl := by omega) (vA := by omega) (bg := bg) (hko := by omega) (hno := by omega) (hpo := by omega) (vB := by omega) (bh := bh) (hkt := by omega) (hnt := by omega) (hqt := by omega) (hrt := by omega) (hbt := by omega) (hop := by omega) (hfi := by omega) (hD := by omega) H231.size) (z_cwV (C := "ScaledNumeralDesk$Bench") 5 hg wm_457 wm_454 wm_8 wm_456 wm_s14 (by decide +kernel) ⟨Nat.le_of_ble_eq_true rfl, Nat.le_of_ble_eq_true rfl⟩) (z_preV (r := ("ScaledNumeralDesk$Bench", TB, 4)) hK hG hn hH234 hA q0lt c0 rfl) rfl rfl hl.1 rfl (lv_room (Nat.le_of_ble_eq_true rfl)) d_B_combine_170 ⟨Nat.zero_le _, Nat.zero_le _⟩) hH234 hA (fun z242 w240 H238 lc239 hH241 p170 => ?_)
            obtain ⟨⟨r_243, r_244, k_245, p_246, n_247, f_248, e249, e250, e251, e252, e253, bd254, bd255, bd256, p170⟩, hg257⟩ := p170
            replace bd254 : bd r_243 30 0 9999 := bd254
            replace bd255 : bd r_244 30 0 9999 := bd255
            replace bd256 : bd f_248 15 0 9999 := bd256
            replace p170 : k_245 < 4 ∧ (n_247 = 0 ∨ n_247 = 1) ∧ Nf z242 k_245 p_246 n_247 (V f_248 15) ∧ ShR (4 : Int) z242 k_245 p_246 n_247 (V f_248 15) kd pl ng (V f 15) ko po no (V g 15) := p170
            have e258 : w240 b = .inr (4, [.ref (ad E (b + 1)), .ref (ad E (b + 2)), .ref (ad E (b + 3)), .ref (ad E (b + 4))]) := (hg257 b (nx_B_combine_43 hqt hrt hbt) (nx_B_combine_33 hqt hrt hbt) (nx_B_combine_0 hqt hrt hbt) (nx_B_combine_1 hqt hrt hbt) (nx_B_combine_2 hqt hrt hbt)).trans c0
            have e259 : w240 (b + 3) = zar E 30 r3 := (hg257 (b + 3) (nx_B_combine_44 hqt hrt hbt) (nx_B_combine_35 hqt hrt hbt) (nx_B_combine_9 hqt hrt hbt) (nx_B_combine_10 hqt hrt hbt) (nx_B_combine_11 hqt hrt hbt)).trans c3
            have e260 : w240 (b + 4) = zar E 30 r4 := (hg257 (b + 4) (nx_B_combine_45 hqt hrt hbt) (nx_B_combine_36 hqt hrt hbt) (nx_B_combine_12 hqt hrt hbt) (nx_B_combine_13 hqt hrt hbt) (nx_B_combine_14 hqt hrt hbt)).trans c4
            have e261 : w240 q = .inr (1, [.ref (zg E (1 + kd)), .int (iI pl), .ref (ad E (q + 1))]) := (hg257 q (nx_B_combine_46 hqt hrt hbt) (nx_B_combine_37 hqt hrt hbt) (nx_B_combine_15 hqt hrt hbt) (nx_B_combine_16 hqt hrt hbt) (nx_B_combine_17 hqt hrt hbt)).trans c5
            have e262 : w240 (q + 1) = .inr (0, [.ref (ad E (q + 2)), .int (iI ng)]) := (hg257 (q + 1) (nx_B_combine_47 hqt hrt hbt) (nx_B_combine_38 hqt hrt hbt) (nx_B_combine_18 hqt hrt hbt) (nx_B_combine_19 hqt hrt hbt) (nx_B_combine_20 hqt hrt hbt)).trans c6
            have e263 : w240 (q + 2) = zar E 15 f := (hg257 (q + 2) (nx_B_combine_48 hqt hrt hbt) (nx_B_combine_39 hqt hrt hbt) (nx_B_combine_21 hqt hrt hbt) (nx_B_combine_22 hqt hrt hbt) (nx_B_combine_23 hqt hrt hbt)).trans c7
            have e264 : w240 r = .inr (1, [.ref (zg E (1 + ko)), .int (iI po), .ref (ad E (r + 1))]) := (hg257 r (nx_B_combine_49 hqt hrt hbt) (nx_B_combine_40 hqt hrt hbt) (nx_B_combine_24 hqt hrt hbt) (nx_B_combine_25 hqt hrt hbt) (nx_B_combine_26 hqt hrt hbt)).trans c8
            have e265 : w240 (r + 1) = .inr (0, [.ref (ad E (r + 2)), .int (iI no)]) := (hg257 (r + 1) (nx_B_combine_50 hqt hrt hbt) (nx_B_combine_41 hqt hrt hbt) (nx_B_combine_27 hqt hrt hbt) (nx_B_combine_28 hqt hrt hbt) (nx_B_combine_29 hqt hrt hbt)).trans c9
            have e266 : w240 (r + 2) = zar E 15 g := (hg257 (r + 2) (nx_B_combine_51 hqt hrt hbt) (nx_B_combine_42 hqt hrt hbt) (nx_B_combine_30 hqt hrt hbt) (nx_B_combine_31 hqt hrt hbt) (nx_B_combine_32 hqt hrt hbt)).trans c10
            have hf267 : ∀ k, k ≠ (b + 1) → k ≠ (b + 2) → k ≠ t → k ≠ (t + 1) → k ≠ (t + 2) → w240 k = w0 k := fun k g0 g1 g2 g3 g4 => hg257 k g0 g1 g2 g3 g4
            rw [hQ]
            exact z_iret hx hb hr hlk hH241 (⟨⟨r_243, r_244, k_245, p_246, n_247, f_248, e249, e250, e251, e252, e253, bd254, bd255, bd256, ⟨p170.1, p170.2.1, p170.2.2.1, Or.inr ⟨by omega, by omega, Or.inr (Or.inr (Or.inr (Or.inr (Or.inr ⟨by omega, by omega, p170.2.2.2⟩))))⟩⟩⟩, (fun k g0 g1 g2 g3 g4 => hf267 k g0 g1 g2 g3 g4)⟩) d_B_combine_173
          · refine zv_bipush hx hb d_B_combine_157 rfl ?_
            refine lv_goto (tgt := 173) hx hb d_B_combine_159 rfl ?_
            rw [hQ]
            exact z_iret hx hb hr hlk hH234 (⟨⟨r1, r2, kt, pt, nt, h, c1, c2, c11, c12, c13, br1, br2, bh, ⟨hkt, hnt, Nf_z (by decide), Or.inr ⟨by omega, by omega, Or.inr (Or.inr (Or.inr (Or.inr (Or.inl ⟨by omega, by omega, by omega, rfl⟩))))⟩⟩⟩, (fun k _ _ _ _ _ => rfl)⟩) d_B_combine_173
        · refine lv_tableOut (x := iI 5) (tgt := 150) hx hb d_B_combine_52 (by decide) (by decide) ?_
          refine lv_aload_n hx hb d_B_combine_150 rfl (lv_at hl 4 rfl) ?_
          refine z_calli (va_runV (As := []) (rest := []) ⟨hx, hb, hml, hown, hts⟩ (c_N_isZero (l := l) (E := E) (w0 := w0) (q := r) (kd := ko) (pl := po) (ng := no) (f := g) (q0lt := q8lt) (q1lt := q9lt) (q2lt := q10lt) (c0 := c8) (c1 := c9) (c2 := c10) (bf := bg) (hkd := by omega) (hng := by omega) H27.size) (z_cwV (C := "ScaledNumeralDesk$Numeral") 0 hg wm_452 wm_449 wm_2 wm_450 wm_451 (by decide +kernel) ⟨Nat.le_of_ble_eq_true rfl, Nat.le_of_ble_eq_true rfl⟩) (z_preV (r := ("ScaledNumeralDesk$Numeral", TN, 3)) hK hG hn hH hA q8lt c8 rfl) rfl rfl hl.1 rfl (lv_room (Nat.le_of_ble_eq_true rfl)) d_B_combine_151 ⟨Nat.zero_le _, Nat.zero_le _⟩) hH hA (fun z272 w270 H268 lc269 hH271 p151 => ?_)
          obtain ⟨ew273, p151⟩ := p151
          rw [ew273] at hH271
          replace p151 : (z272 = 1 ∧ ko = 1 ∧ V g 15 = 0) ∨ (z272 = 0 ∧ (ko ≠ 1 ∨ 0 < V g 15)) := p151
          refine zv_if_eq (tgt := 162) hx hb d_B_combine_154 rfl (by omega) (fun h274 => ?_) (fun h274 => ?_)
          · refine lv_aload_n hx hb d_B_combine_162 rfl (lv_at hl 1 rfl) ?_
            refine lv_iload_n hx hb d_B_combine_163 rfl (lv_at hl 2 rfl) ?_
            refine lv_aload_n hx hb d_B_combine_164 rfl (lv_at hl 3 rfl) ?_
            refine lv_aload_n hx hb d_B_combine_165 rfl (lv_at hl 4 rfl) ?_
            refine lv_iload hx hb d_B_combine_166 (lv_at hl 0 rfl) ?_
            refine lv_aload hx hb d_B_combine_168 (lv_at hl 5 rfl) ?_
            refine z_calli (va_runV (As := [.int (iI 5), .ref (ad E q), .ref (ad E r), .int (iI fi), .ref (ad E t)]) (rest := []) ⟨hx, hb, hml, hown, hts⟩ (c_B_share (l := l) (E := E) (w0 := w0) (op := 5) (fi := fi) (b := b) (r1 := r1) (r2 := r2) (r3 := r3) (r4 := r4) (q := q) (kd := kd) (pl := pl) (ng := ng) (f := f) (r := r) (ko := ko) (po := po) (no := no) (g := g) (t := t) (kt := kt) (pt := pt) (nt := nt) (h := h) (q0lt := q0lt) (q1lt := q1lt) (q2lt := q2lt) (q3lt := q3lt) (q4lt := q4lt) (q5lt := q5lt) (q6lt := q6lt) (q7lt := q7lt) (q8lt := q8lt) (q9lt := q9lt) (q10lt := q10lt) (q11lt := q11lt) (q12lt := q12lt) (q13lt := q13lt) (c0 := c0) (c1 := c1) (c2 := c2) (c3 := c3) (c4 := c4) (c5 := c5) (c6 := c6) (c7 := c7) (c8 := c8) (c9 := c9) (c10 := c10) (c11 := c11) (c12 := c12) (c13 := c13) (br1 := br1) (br2 := br2) (br3 := br3) (br4 := br4) (bf := bf) (hkd := by omega) (hng := by omega) (hpl := by omega) (vA := by omega) (bg := bg) (hko := by omega) (hno := by omega) (hpo := by omega) (vB := by omega) (bh := bh) (hkt := by omega) (hnt := by omega) (hqt := by omega) (hrt := by omega) (hbt := by omega) (hop := by omega) (hfi := by omega) (hD := by omega) H268.size) (z_cwV (C := "ScaledNumeralDesk$Bench") 5 hg wm_457 wm_454 wm_8 wm_456 wm_s14 (by decide +kernel) ⟨Nat.le_of_ble_eq_true rfl, Nat.le_of_ble_eq_true rfl⟩) (z_preV (r := ("ScaledNumeralDesk$Bench", TB, 4)) hK hG hn hH271 hA q0lt c0 rfl) rfl rfl hl.1 rfl (lv_room (Nat.le_of_ble_eq_true rfl)) d_B_combine_170 ⟨Nat.zero_le _, Nat.zero_le _⟩) hH271 hA (fun z279 w277 H275 lc276 hH278 p170 => ?_)
            obtain ⟨⟨r_280, r_281, k_282, p_283, n_284, f_285, e286, e287, e288, e289, e290, bd291, bd292, bd293, p170⟩, hg294⟩ := p170
            replace bd291 : bd r_280 30 0 9999 := bd291
            replace bd292 : bd r_281 30 0 9999 := bd292
            replace bd293 : bd f_285 15 0 9999 := bd293
            replace p170 : k_282 < 4 ∧ (n_284 = 0 ∨ n_284 = 1) ∧ Nf z279 k_282 p_283 n_284 (V f_285 15) ∧ ShR (5 : Int) z279 k_282 p_283 n_284 (V f_285 15) kd pl ng (V f 15) ko po no (V g 15) := p170
            have e295 : w277 b = .inr (4, [.ref (ad E (b + 1)), .ref (ad E (b + 2)), .ref (ad E (b + 3)), .ref (ad E (b + 4))]) := (hg294 b (nx_B_combine_43 hqt hrt hbt) (nx_B_combine_33 hqt hrt hbt) (nx_B_combine_0 hqt hrt hbt) (nx_B_combine_1 hqt hrt hbt) (nx_B_combine_2 hqt hrt hbt)).trans c0
            have e296 : w277 (b + 3) = zar E 30 r3 := (hg294 (b + 3) (nx_B_combine_44 hqt hrt hbt) (nx_B_combine_35 hqt hrt hbt) (nx_B_combine_9 hqt hrt hbt) (nx_B_combine_10 hqt hrt hbt) (nx_B_combine_11 hqt hrt hbt)).trans c3
            have e297 : w277 (b + 4) = zar E 30 r4 := (hg294 (b + 4) (nx_B_combine_45 hqt hrt hbt) (nx_B_combine_36 hqt hrt hbt) (nx_B_combine_12 hqt hrt hbt) (nx_B_combine_13 hqt hrt hbt) (nx_B_combine_14 hqt hrt hbt)).trans c4
            have e298 : w277 q = .inr (1, [.ref (zg E (1 + kd)), .int (iI pl), .ref (ad E (q + 1))]) := (hg294 q (nx_B_combine_46 hqt hrt hbt) (nx_B_combine_37 hqt hrt hbt) (nx_B_combine_15 hqt hrt hbt) (nx_B_combine_16 hqt hrt hbt) (nx_B_combine_17 hqt hrt hbt)).trans c5
            have e299 : w277 (q + 1) = .inr (0, [.ref (ad E (q + 2)), .int (iI ng)]) := (hg294 (q + 1) (nx_B_combine_47 hqt hrt hbt) (nx_B_combine_38 hqt hrt hbt) (nx_B_combine_18 hqt hrt hbt) (nx_B_combine_19 hqt hrt hbt) (nx_B_combine_20 hqt hrt hbt)).trans c6
            have e300 : w277 (q + 2) = zar E 15 f := (hg294 (q + 2) (nx_B_combine_48 hqt hrt hbt) (nx_B_combine_39 hqt hrt hbt) (nx_B_combine_21 hqt hrt hbt) (nx_B_combine_22 hqt hrt hbt) (nx_B_combine_23 hqt hrt hbt)).trans c7
            have e301 : w277 r = .inr (1, [.ref (zg E (1 + ko)), .int (iI po), .ref (ad E (r + 1))]) := (hg294 r (nx_B_combine_49 hqt hrt hbt) (nx_B_combine_40 hqt hrt hbt) (nx_B_combine_24 hqt hrt hbt) (nx_B_combine_25 hqt hrt hbt) (nx_B_combine_26 hqt hrt hbt)).trans c8
            have e302 : w277 (r + 1) = .inr (0, [.ref (ad E (r + 2)), .int (iI no)]) := (hg294 (r + 1) (nx_B_combine_50 hqt hrt hbt) (nx_B_combine_41 hqt hrt hbt) (nx_B_combine_27 hqt hrt hbt) (nx_B_combine_28 hqt hrt hbt) (nx_B_combine_29 hqt hrt hbt)).trans c9
            have e303 : w277 (r + 2) = zar E 15 g := (hg294 (r + 2) (nx_B_combine_51 hqt hrt hbt) (nx_B_combine_42 hqt hrt hbt) (nx_B_combine_30 hqt hrt hbt) (nx_B_combine_31 hqt hrt hbt) (nx_B_combine_32 hqt hrt hbt)).trans c10
            have hf304 : ∀ k, k ≠ (b + 1) → k ≠ (b + 2) → k ≠ t → k ≠ (t + 1) → k ≠ (t + 2) → w277 k = w0 k := fun k g0 g1 g2 g3 g4 => hg294 k g0 g1 g2 g3 g4
            rw [hQ]
            exact z_iret hx hb hr hlk hH278 (⟨⟨r_280, r_281, k_282, p_283, n_284, f_285, e286, e287, e288, e289, e290, bd291, bd292, bd293, ⟨p170.1, p170.2.1, p170.2.2.1, Or.inr ⟨by omega, by omega, Or.inr (Or.inr (Or.inr (Or.inr (Or.inr ⟨by omega, by omega, p170.2.2.2⟩))))⟩⟩⟩, (fun k g0 g1 g2 g3 g4 => hf304 k g0 g1 g2 g3 g4)⟩) d_B_combine_173
          · refine zv_bipush hx hb d_B_combine_157 rfl ?_
            refine lv_goto (tgt := 173) hx hb d_B_combine_159 rfl ?_
            rw [hQ]
            exact z_iret hx hb hr hlk hH271 (⟨⟨r1, r2, kt, pt, nt, h, c1, c2, c11, c12, c13, br1, br2, bh, ⟨hkt, hnt, Nf_z (by decide), Or.inr ⟨by omega, by omega, Or.inr (Or.inr (Or.inr (Or.inr (Or.inl ⟨by omega, by omega, by omega, rfl⟩))))⟩⟩⟩, (fun k _ _ _ _ _ => rfl)⟩) d_B_combine_173
      refine lv_aload_n hx hb d_B_combine_30 rfl (lv_at hl 2 rfl) ?_
      refine z_calli (va_runV (As := []) (rest := []) ⟨hx, hb, hml, hown, hts⟩ (c_N_isFinite (l := l) (E := E) (w0 := w0) (q := q) (kd := kd) (pl := pl) (ng := ng) (f := f) (q0lt := q5lt) (q1lt := q6lt) (q2lt := q7lt) (c0 := c5) (c1 := c6) (c2 := c7) (bf := bf) (hkd := by omega) (hng := by omega) s.heap.size) (z_cwV (C := "ScaledNumeralDesk$Numeral") 0 hg wm_344 wm_379 wm_2 wm_342 wm_343 (by decide +kernel) ⟨Nat.le_of_ble_eq_true rfl, Nat.le_of_ble_eq_true rfl⟩) (z_preV (r := ("ScaledNumeralDesk$Numeral", TN, 3)) hK hG hn hH hA q5lt c5 rfl) rfl rfl hl.1 rfl (lv_room (Nat.le_of_ble_eq_true rfl)) d_B_combine_31 ⟨Nat.zero_le _, Nat.zero_le _⟩) hH hA (fun z310 w307 H305 lc306 hH308 hp309 => ?_)
      obtain ⟨ew311, hp309⟩ := hp309
      rw [ew311] at hH308
      replace hp309 : (z310 = 1 ∧ kd = 1) ∨ (z310 = 0 ∧ kd ≠ 1) := hp309
      refine zv_if_eq (tgt := 48) hx hb d_B_combine_34 rfl (by omega) (fun h312 => ?_) (fun h312 => ?_)
      · refine zv_iconst hx hb d_B_combine_48 ?_
        exact L49 0 _ H305 lc306 (lv_sub hl [0, 1, 2, 3, 4] rfl) hH308 (by omega)
      · refine lv_aload_n hx hb d_B_combine_37 rfl (lv_at hl 3 rfl) ?_
        refine z_calli (va_runV (As := []) (rest := []) ⟨hx, hb, hml, hown, hts⟩ (c_N_isFinite (l := l) (E := E) (w0 := w0) (q := r) (kd := ko) (pl := po) (ng := no) (f := g) (q0lt := q8lt) (q1lt := q9lt) (q2lt := q10lt) (c0 := c8) (c1 := c9) (c2 := c10) (bf := bg) (hkd := by omega) (hng := by omega) H305.size) (z_cwV (C := "ScaledNumeralDesk$Numeral") 0 hg wm_344 wm_379 wm_2 wm_342 wm_343 (by decide +kernel) ⟨Nat.le_of_ble_eq_true rfl, Nat.le_of_ble_eq_true rfl⟩) (z_preV (r := ("ScaledNumeralDesk$Numeral", TN, 3)) hK hG hn hH308 hA q8lt c8 rfl) rfl rfl hl.1 rfl (lv_room (Nat.le_of_ble_eq_true rfl)) d_B_combine_38 ⟨Nat.zero_le _, Nat.zero_le _⟩) hH308 hA (fun z318 w315 H313 lc314 hH316 hp317 => ?_)
        obtain ⟨ew319, hp317⟩ := hp317
        rw [ew319] at hH316
        replace hp317 : (z318 = 1 ∧ ko = 1) ∨ (z318 = 0 ∧ ko ≠ 1) := hp317
        refine zv_if_eq (tgt := 48) hx hb d_B_combine_41 rfl (by omega) (fun h320 => ?_) (fun h320 => ?_)
        · refine zv_iconst hx hb d_B_combine_48 ?_
          exact L49 0 _ H313 lc314 (lv_sub hl [0, 1, 2, 3, 4] rfl) hH316 (by omega)
        · refine zv_iconst hx hb d_B_combine_44 ?_
          refine lv_goto (tgt := 49) hx hb d_B_combine_45 rfl ?_
          exact L49 1 _ H313 lc314 (lv_sub hl [0, 1, 2, 3, 4] rfl) hH316 (by omega)
    · exact L20 _ s.heap ([]) (lv_sub hl [0, 1, 2, 3, 4] rfl) hH (by omega)
