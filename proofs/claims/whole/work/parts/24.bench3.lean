theorem nx_B_divide_0 {b q r t : Nat} (hqt : t + 2 < q) (hrt : t + 2 < r) (hbt : b + 4 < t) : b ≠ b + 1 := by omega
theorem nx_B_divide_1 {b q r t : Nat} (hqt : t + 2 < q) (hrt : t + 2 < r) (hbt : b + 4 < t) : b + 2 ≠ b + 1 := by omega
theorem nx_B_divide_2 {b q r t : Nat} (hqt : t + 2 < q) (hrt : t + 2 < r) (hbt : b + 4 < t) : b + 3 ≠ b + 1 := by omega
theorem nx_B_divide_3 {b q r t : Nat} (hqt : t + 2 < q) (hrt : t + 2 < r) (hbt : b + 4 < t) : b + 4 ≠ b + 1 := by omega
theorem nx_B_divide_4 {b q r t : Nat} (hqt : t + 2 < q) (hrt : t + 2 < r) (hbt : b + 4 < t) : q ≠ b + 1 := by omega
theorem nx_B_divide_5 {b q r t : Nat} (hqt : t + 2 < q) (hrt : t + 2 < r) (hbt : b + 4 < t) : q + 1 ≠ b + 1 := by omega
theorem nx_B_divide_6 {b q r t : Nat} (hqt : t + 2 < q) (hrt : t + 2 < r) (hbt : b + 4 < t) : q + 2 ≠ b + 1 := by omega
theorem nx_B_divide_7 {b q r t : Nat} (hqt : t + 2 < q) (hrt : t + 2 < r) (hbt : b + 4 < t) : r ≠ b + 1 := by omega
theorem nx_B_divide_8 {b q r t : Nat} (hqt : t + 2 < q) (hrt : t + 2 < r) (hbt : b + 4 < t) : r + 1 ≠ b + 1 := by omega
theorem nx_B_divide_9 {b q r t : Nat} (hqt : t + 2 < q) (hrt : t + 2 < r) (hbt : b + 4 < t) : r + 2 ≠ b + 1 := by omega
theorem nx_B_divide_10 {b q r t : Nat} (hqt : t + 2 < q) (hrt : t + 2 < r) (hbt : b + 4 < t) : t ≠ b + 1 := by omega
theorem nx_B_divide_11 {b q r t : Nat} (hqt : t + 2 < q) (hrt : t + 2 < r) (hbt : b + 4 < t) : t + 1 ≠ b + 1 := by omega
theorem nx_B_divide_12 {b q r t : Nat} (hqt : t + 2 < q) (hrt : t + 2 < r) (hbt : b + 4 < t) : t + 2 ≠ b + 1 := by omega
theorem nx_B_divide_13 {b q r t : Nat} (hqt : t + 2 < q) (hrt : t + 2 < r) (hbt : b + 4 < t) : b ≠ b + 2 := by omega
theorem nx_B_divide_14 {b q r t : Nat} (hqt : t + 2 < q) (hrt : t + 2 < r) (hbt : b + 4 < t) : b + 3 ≠ b + 2 := by omega
theorem nx_B_divide_15 {b q r t : Nat} (hqt : t + 2 < q) (hrt : t + 2 < r) (hbt : b + 4 < t) : b + 4 ≠ b + 2 := by omega
theorem nx_B_divide_16 {b q r t : Nat} (hqt : t + 2 < q) (hrt : t + 2 < r) (hbt : b + 4 < t) : q ≠ b + 2 := by omega
theorem nx_B_divide_17 {b q r t : Nat} (hqt : t + 2 < q) (hrt : t + 2 < r) (hbt : b + 4 < t) : q + 1 ≠ b + 2 := by omega
theorem nx_B_divide_18 {b q r t : Nat} (hqt : t + 2 < q) (hrt : t + 2 < r) (hbt : b + 4 < t) : q + 2 ≠ b + 2 := by omega
theorem nx_B_divide_19 {b q r t : Nat} (hqt : t + 2 < q) (hrt : t + 2 < r) (hbt : b + 4 < t) : r ≠ b + 2 := by omega
theorem nx_B_divide_20 {b q r t : Nat} (hqt : t + 2 < q) (hrt : t + 2 < r) (hbt : b + 4 < t) : r + 1 ≠ b + 2 := by omega
theorem nx_B_divide_21 {b q r t : Nat} (hqt : t + 2 < q) (hrt : t + 2 < r) (hbt : b + 4 < t) : r + 2 ≠ b + 2 := by omega
theorem nx_B_divide_22 {b q r t : Nat} (hqt : t + 2 < q) (hrt : t + 2 < r) (hbt : b + 4 < t) : t ≠ b + 2 := by omega
theorem nx_B_divide_23 {b q r t : Nat} (hqt : t + 2 < q) (hrt : t + 2 < r) (hbt : b + 4 < t) : t + 1 ≠ b + 2 := by omega
theorem nx_B_divide_24 {b q r t : Nat} (hqt : t + 2 < q) (hrt : t + 2 < r) (hbt : b + 4 < t) : t + 2 ≠ b + 2 := by omega
theorem nx_B_divide_25 {b q r t : Nat} (hqt : t + 2 < q) (hrt : t + 2 < r) (hbt : b + 4 < t) : b ≠ t := by omega
theorem nx_B_divide_26 {b q r t : Nat} (hqt : t + 2 < q) (hrt : t + 2 < r) (hbt : b + 4 < t) : b ≠ t + 1 := by omega
theorem nx_B_divide_27 {b q r t : Nat} (hqt : t + 2 < q) (hrt : t + 2 < r) (hbt : b + 4 < t) : b ≠ t + 2 := by omega
theorem nx_B_divide_28 {b q r t : Nat} (hqt : t + 2 < q) (hrt : t + 2 < r) (hbt : b + 4 < t) : b + 1 ≠ b + 2 := by omega
theorem nx_B_divide_29 {b q r t : Nat} (hqt : t + 2 < q) (hrt : t + 2 < r) (hbt : b + 4 < t) : b + 1 ≠ t := by omega
theorem nx_B_divide_30 {b q r t : Nat} (hqt : t + 2 < q) (hrt : t + 2 < r) (hbt : b + 4 < t) : b + 1 ≠ t + 1 := by omega
theorem nx_B_divide_31 {b q r t : Nat} (hqt : t + 2 < q) (hrt : t + 2 < r) (hbt : b + 4 < t) : b + 1 ≠ t + 2 := by omega
theorem nx_B_divide_32 {b q r t : Nat} (hqt : t + 2 < q) (hrt : t + 2 < r) (hbt : b + 4 < t) : b + 3 ≠ t := by omega
theorem nx_B_divide_33 {b q r t : Nat} (hqt : t + 2 < q) (hrt : t + 2 < r) (hbt : b + 4 < t) : b + 3 ≠ t + 1 := by omega
theorem nx_B_divide_34 {b q r t : Nat} (hqt : t + 2 < q) (hrt : t + 2 < r) (hbt : b + 4 < t) : b + 3 ≠ t + 2 := by omega
theorem nx_B_divide_35 {b q r t : Nat} (hqt : t + 2 < q) (hrt : t + 2 < r) (hbt : b + 4 < t) : b + 4 ≠ t := by omega
theorem nx_B_divide_36 {b q r t : Nat} (hqt : t + 2 < q) (hrt : t + 2 < r) (hbt : b + 4 < t) : b + 4 ≠ t + 1 := by omega
theorem nx_B_divide_37 {b q r t : Nat} (hqt : t + 2 < q) (hrt : t + 2 < r) (hbt : b + 4 < t) : b + 4 ≠ t + 2 := by omega
theorem nx_B_divide_38 {b q r t : Nat} (hqt : t + 2 < q) (hrt : t + 2 < r) (hbt : b + 4 < t) : q ≠ t := by omega
theorem nx_B_divide_39 {b q r t : Nat} (hqt : t + 2 < q) (hrt : t + 2 < r) (hbt : b + 4 < t) : q ≠ t + 1 := by omega
theorem nx_B_divide_40 {b q r t : Nat} (hqt : t + 2 < q) (hrt : t + 2 < r) (hbt : b + 4 < t) : q ≠ t + 2 := by omega
theorem nx_B_divide_41 {b q r t : Nat} (hqt : t + 2 < q) (hrt : t + 2 < r) (hbt : b + 4 < t) : q + 1 ≠ t := by omega
theorem nx_B_divide_42 {b q r t : Nat} (hqt : t + 2 < q) (hrt : t + 2 < r) (hbt : b + 4 < t) : q + 1 ≠ t + 1 := by omega
theorem nx_B_divide_43 {b q r t : Nat} (hqt : t + 2 < q) (hrt : t + 2 < r) (hbt : b + 4 < t) : q + 1 ≠ t + 2 := by omega
theorem nx_B_divide_44 {b q r t : Nat} (hqt : t + 2 < q) (hrt : t + 2 < r) (hbt : b + 4 < t) : q + 2 ≠ t := by omega
theorem nx_B_divide_45 {b q r t : Nat} (hqt : t + 2 < q) (hrt : t + 2 < r) (hbt : b + 4 < t) : q + 2 ≠ t + 1 := by omega
theorem nx_B_divide_46 {b q r t : Nat} (hqt : t + 2 < q) (hrt : t + 2 < r) (hbt : b + 4 < t) : q + 2 ≠ t + 2 := by omega
theorem nx_B_divide_47 {b q r t : Nat} (hqt : t + 2 < q) (hrt : t + 2 < r) (hbt : b + 4 < t) : r ≠ t := by omega
theorem nx_B_divide_48 {b q r t : Nat} (hqt : t + 2 < q) (hrt : t + 2 < r) (hbt : b + 4 < t) : r ≠ t + 1 := by omega
theorem nx_B_divide_49 {b q r t : Nat} (hqt : t + 2 < q) (hrt : t + 2 < r) (hbt : b + 4 < t) : r ≠ t + 2 := by omega
theorem nx_B_divide_50 {b q r t : Nat} (hqt : t + 2 < q) (hrt : t + 2 < r) (hbt : b + 4 < t) : r + 1 ≠ t := by omega
theorem nx_B_divide_51 {b q r t : Nat} (hqt : t + 2 < q) (hrt : t + 2 < r) (hbt : b + 4 < t) : r + 1 ≠ t + 1 := by omega
theorem nx_B_divide_52 {b q r t : Nat} (hqt : t + 2 < q) (hrt : t + 2 < r) (hbt : b + 4 < t) : r + 1 ≠ t + 2 := by omega
theorem nx_B_divide_53 {b q r t : Nat} (hqt : t + 2 < q) (hrt : t + 2 < r) (hbt : b + 4 < t) : r + 2 ≠ t := by omega
theorem nx_B_divide_54 {b q r t : Nat} (hqt : t + 2 < q) (hrt : t + 2 < r) (hbt : b + 4 < t) : r + 2 ≠ t + 1 := by omega
theorem nx_B_divide_55 {b q r t : Nat} (hqt : t + 2 < q) (hrt : t + 2 < r) (hbt : b + 4 < t) : r + 2 ≠ t + 2 := by omega
def rm_B_divide : Room := { frames := 4, cells := 0, slots := 0, locals := 91 }
set_option maxHeartbeats 4000000 in
set_option maxRecDepth 100000 in
theorem c_B_divide (l : Launch) (E : zE) (w0 : zW) (b : Nat) (r1 r2 r3 r4 : Int → Int) (q : Nat) (kd : Nat) (pl ng : Int) (f : Int → Int) (r : Nat) (ko : Nat) (po no : Int) (g : Int → Int) (t : Nat) (kt : Nat) (pt nt : Int) (h : Int → Int) (q0lt : b < zn E) (q1lt : b + 1 < zn E) (q2lt : b + 2 < zn E) (q3lt : b + 3 < zn E) (q4lt : b + 4 < zn E) (q5lt : q < zn E) (q6lt : q + 1 < zn E) (q7lt : q + 2 < zn E) (q8lt : r < zn E) (q9lt : r + 1 < zn E) (q10lt : r + 2 < zn E) (q11lt : t < zn E) (q12lt : t + 1 < zn E) (q13lt : t + 2 < zn E) (c0 : w0 b = .inr (4, [.ref (ad E (b + 1)), .ref (ad E (b + 2)), .ref (ad E (b + 3)), .ref (ad E (b + 4))])) (c1 : w0 (b + 1) = zar E 30 r1) (c2 : w0 (b + 2) = zar E 30 r2) (c3 : w0 (b + 3) = zar E 30 r3) (c4 : w0 (b + 4) = zar E 30 r4) (c5 : w0 q = .inr (1, [.ref (zg E (1 + kd)), .int (iI pl), .ref (ad E (q + 1))])) (c6 : w0 (q + 1) = .inr (0, [.ref (ad E (q + 2)), .int (iI ng)])) (c7 : w0 (q + 2) = zar E 15 f) (c8 : w0 r = .inr (1, [.ref (zg E (1 + ko)), .int (iI po), .ref (ad E (r + 1))])) (c9 : w0 (r + 1) = .inr (0, [.ref (ad E (r + 2)), .int (iI no)])) (c10 : w0 (r + 2) = zar E 15 g) (c11 : w0 t = .inr (1, [.ref (zg E (1 + kt)), .int (iI pt), .ref (ad E (t + 1))])) (c12 : w0 (t + 1) = .inr (0, [.ref (ad E (t + 2)), .int (iI nt)])) (c13 : w0 (t + 2) = zar E 15 h) (br1 : bd r1 30 0 9999) (br2 : bd r2 30 0 9999) (br3 : bd r3 30 0 9999) (br4 : bd r4 30 0 9999) (bf : bd f 15 0 9999) (hkd : kd < 4) (hng : ng = 0 ∨ ng = 1) (hpl : 0 ≤ pl ∧ pl ≤ 24) (vA : V f 15 < Bp 14) (bg : bd g 15 0 9999) (hko : ko < 4) (hno : no = 0 ∨ no = 1) (hpo : 0 ≤ po ∧ po ≤ 24) (vB : V g 15 < Bp 14) (bh : bd h 15 0 9999) (hkt : kt < 4) (hnt : nt = 0 ∨ nt = 1) (hqt : t + 2 < q) (hrt : t + 2 < r) (hbt : b + 4 < t) (hD : 0 < V g 15) : zM l y_B_divide ws_B_divide rm_B_divide E [.ref (ad E b), .ref (ad E q), .ref (ad E r), .ref (ad E t)] w0 (zQi E w0 (fun z w' => (∃ (r1' : Int → Int) (r2' : Int → Int) (k' : Nat) (p' : Int) (n' : Int) (f' : Int → Int), w' (b + 1) = zar E 30 r1' ∧ w' (b + 2) = zar E 30 r2' ∧ w' t = .inr (1, [.ref (zg E (1 + k')), .int (iI p'), .ref (ad E (t + 1))]) ∧ w' (t + 1) = .inr (0, [.ref (ad E (t + 2)), .int (iI n')]) ∧ w' (t + 2) = zar E 15 f' ∧ bd r1' 30 0 9999 ∧ bd r2' 30 0 9999 ∧ bd f' 15 0 9999 ∧ (k' < 4 ∧ (n' = 0 ∨ n' = 1) ∧ ∃ wa wb la lb : Int, Wt (V f 15) wa ∧ Wt (V g 15) wb ∧ Ld (V f 15) la ∧ Ld (V g 15) lb ∧ St z k' p' n' (V f' 15) (Rn (V f 15 * Bp 7 / V g 15) (7 * 4 - pd wa wb la lb pl po)) 7 (pd wa wb la lb pl po) (dif ng no))) ∧ ∀ k, k ≠ (b + 1) → k ≠ (b + 2) → k ≠ t → k ≠ (t + 1) → k ≠ (t + 2) → w' k = w0 k)) := by
  refine z_met (cc := b_B_divide) (maxL := 4) (ret := (some .int)) (by decide +kernel) rfl (Nat.le_of_ble_eq_true rfl) ?_
  intro p e s m below meth cd ls a Qf hQ hC hl hH
  obtain ⟨hF, hr, hlk, hK, hG, hn⟩ := hC
  obtain ⟨hx, hb, hml, hown, hts⟩ := hF
  have hg : ∀ w ∈ GW, w.before a s = true := fun w h => hts w (List.mem_cons_of_mem _ h)
  have hA : ∀ q, s.heap.size ≤ q → va_A (wl E w0) s.heap.size q := fun q h => Or.inr h
  have hl : lv_has ls 4 [(0, .ref (ad E b)), (1, .ref (ad E q)), (2, .ref (ad E r)), (3, .ref (ad E t))] := hl
  have vf := V_in bf (show (0 : Int) ≤ 15 by decide) (Int.le_refl 15)
  have vg := V_in bg (show (0 : Int) ≤ 15 by decide) (Int.le_refl 15)
  refine lv_aload_n hx hb d_B_divide_0 rfl (lv_at hl 0 rfl) ?_
  refine lv_aload_n hx hb d_B_divide_1 rfl (lv_at hl 1 rfl) ?_
  refine zv_bipush hx hb d_B_divide_2 rfl ?_
  refine z_callv (va_runV (As := [.ref (ad E q), .int (iI 7)]) (rest := []) ⟨hx, hb, hml, hown, hts⟩ (c_B_load (l := l) (E := E) (w0 := w0) (b := b) (r1 := r1) (r2 := r2) (r3 := r3) (r4 := r4) (q := q) (kd := kd) (pl := pl) (ng := ng) (f := f) (x := 7) (q0lt := q0lt) (q1lt := q1lt) (q2lt := q2lt) (q3lt := q3lt) (q4lt := q4lt) (q5lt := q5lt) (q6lt := q6lt) (q7lt := q7lt) (c0 := c0) (c1 := c1) (c2 := c2) (c3 := c3) (c4 := c4) (c5 := c5) (c6 := c6) (c7 := c7) (br1 := br1) (br2 := br2) (br3 := br3) (br4 := br4) (bf := bf) (hkd := by omega) (hng := by omega) (hbq := by omega) (hx0 := by omega) s.heap.size) (z_cwV (C := "ScaledNumeralDesk$Bench") 2 hg wm_465 wm_462 wm_8 wm_464 wm_s16 (by decide +kernel) ⟨Nat.le_of_ble_eq_true rfl, Nat.le_of_ble_eq_true rfl⟩) (z_preV (r := ("ScaledNumeralDesk$Bench", TB, 4)) hK hG hn hH hA q0lt c0 rfl) rfl rfl hl.1 rfl (lv_room (Nat.le_of_ble_eq_true rfl)) d_B_divide_4 ⟨Nat.zero_le _, Nat.zero_le _⟩) hH hA (fun  w3 H1 lc2 hH4 p4 => ?_)
  obtain ⟨⟨r_5, e6, bd7, p4⟩, hg8⟩ := p4
  replace bd7 : bd r_5 30 0 9999 := bd7
  replace p4 : V r_5 30 = V f 15 * Bp (7 : Int) := p4
  have e9 : w3 b = .inr (4, [.ref (ad E (b + 1)), .ref (ad E (b + 2)), .ref (ad E (b + 3)), .ref (ad E (b + 4))]) := (hg8 b (nx_B_divide_0 hqt hrt hbt)).trans c0
  have e10 : w3 (b + 2) = zar E 30 r2 := (hg8 (b + 2) (nx_B_divide_1 hqt hrt hbt)).trans c2
  have e11 : w3 (b + 3) = zar E 30 r3 := (hg8 (b + 3) (nx_B_divide_2 hqt hrt hbt)).trans c3
  have e12 : w3 (b + 4) = zar E 30 r4 := (hg8 (b + 4) (nx_B_divide_3 hqt hrt hbt)).trans c4
  have e13 : w3 q = .inr (1, [.ref (zg E (1 + kd)), .int (iI pl), .ref (ad E (q + 1))]) := (hg8 q (nx_B_divide_4 hqt hrt hbt)).trans c5
  have e14 : w3 (q + 1) = .inr (0, [.ref (ad E (q + 2)), .int (iI ng)]) := (hg8 (q + 1) (nx_B_divide_5 hqt hrt hbt)).trans c6
  have e15 : w3 (q + 2) = zar E 15 f := (hg8 (q + 2) (nx_B_divide_6 hqt hrt hbt)).trans c7
  have e16 : w3 r = .inr (1, [.ref (zg E (1 + ko)), .int (iI po), .ref (ad E (r + 1))]) := (hg8 r (nx_B_divide_7 hqt hrt hbt)).trans c8
  have e17 : w3 (r + 1) = .inr (0, [.ref (ad E (r + 2)), .int (iI no)]) := (hg8 (r + 1) (nx_B_divide_8 hqt hrt hbt)).trans c9
  have e18 : w3 (r + 2) = zar E 15 g := (hg8 (r + 2) (nx_B_divide_9 hqt hrt hbt)).trans c10
  have e19 : w3 t = .inr (1, [.ref (zg E (1 + kt)), .int (iI pt), .ref (ad E (t + 1))]) := (hg8 t (nx_B_divide_10 hqt hrt hbt)).trans c11
  have e20 : w3 (t + 1) = .inr (0, [.ref (ad E (t + 2)), .int (iI nt)]) := (hg8 (t + 1) (nx_B_divide_11 hqt hrt hbt)).trans c12
  have e21 : w3 (t + 2) = zar E 15 h := (hg8 (t + 2) (nx_B_divide_12 hqt hrt hbt)).trans c13
  have hf22 : ∀ k, k ≠ (b + 1) → w3 k = w0 k := fun k g0 => hg8 k g0
  refine lv_aload_n hx hb d_B_divide_7 rfl (lv_at hl 0 rfl) ?_
  refine zv_get (C := "ScaledNumeralDesk$Bench") (T := TB) (N := 4) hx hb hg uB_in hown hK hH4 q0lt e9 rfl 0 (by decide) (hg _ wm_115) (fun _ h9 => h9) rfl d_B_divide_8 ?_
  refine lv_aload_n hx hb d_B_divide_11 rfl (lv_at hl 0 rfl) ?_
  refine zv_get (C := "ScaledNumeralDesk$Bench") (T := TB) (N := 4) hx hb hg uB_in hown hK hH4 q0lt e9 rfl 1 (by decide) (hg _ wm_116) (fun _ h9 => h9) rfl d_B_divide_12 ?_
  refine lv_aload_n hx hb d_B_divide_15 rfl (lv_at hl 2 rfl) ?_
  refine zv_get (C := "ScaledNumeralDesk$Numeral") (T := TN) (N := 3) hx hb hg uN_in hown hK hH4 q8lt e16 rfl 2 (by decide) (hg _ wm_65) (fun _ h9 => h9) rfl d_B_divide_16 ?_
  refine zv_get (C := "ScaledNumeralDesk$Amount") (T := TA) (N := 2) hx hb hg uA_in hown hK hH4 q9lt e17 rfl 0 (by decide) (hg _ wm_44) (fun _ h9 => h9) rfl d_B_divide_19 ?_
  refine z_callv (va_runS (As := [.ref (ad E (b + 1)), .ref (ad E (b + 2)), .ref (ad E (r + 2))]) (rest := []) ⟨hx, hb, hml, hown, hts⟩ (c_rowDivide (l := l) (E := E) (w0 := w3) (q := b + 1) (r := b + 2) (t := r + 2) (N := 30) (K := 15) (f := r_5) (k0 := r2) (g := g) (q0lt := q1lt) (q1lt := q2lt) (q2lt := q10lt) (c0 := e6) (c1 := e10) (c2 := e18) (hN := by omega) (hK0 := by omega) (bf := bd7) (bg := bg) (hqr := by omega) (hD := (show V g 15 ≠ 0 by omega)) H1.size) (z_cwS 3 hg wm_469 wm_467 wm_16 wm_468 (by decide +kernel) ⟨Nat.le_of_ble_eq_true rfl, Nat.le_of_ble_eq_true rfl⟩) (z_preS hK hG hn hH4 hA) rfl rfl hl.1 rfl (lv_room (Nat.le_of_ble_eq_true rfl)) d_B_divide_22 ⟨Nat.zero_le _, Nat.zero_le _⟩) hH4 hA (fun  w25 H23 lc24 hH26 p22 => ?_)
  obtain ⟨⟨v1, v2, e27, e28, bd29, bd30, p22⟩, hg31⟩ := p22
  replace bd29 : bd v1 30 0 9999 := bd29
  replace bd30 : bd v2 30 0 9999 := bd30
  replace p22 : V v2 30 = V r_5 30 / V g 15 ∧ V v1 30 = V r_5 30 % V g 15 := p22
  have e32 : w25 b = .inr (4, [.ref (ad E (b + 1)), .ref (ad E (b + 2)), .ref (ad E (b + 3)), .ref (ad E (b + 4))]) := (hg31 b (nx_B_divide_0 hqt hrt hbt) (nx_B_divide_13 hqt hrt hbt)).trans e9
  have e33 : w25 (b + 3) = zar E 30 r3 := (hg31 (b + 3) (nx_B_divide_2 hqt hrt hbt) (nx_B_divide_14 hqt hrt hbt)).trans e11
  have e34 : w25 (b + 4) = zar E 30 r4 := (hg31 (b + 4) (nx_B_divide_3 hqt hrt hbt) (nx_B_divide_15 hqt hrt hbt)).trans e12
  have e35 : w25 q = .inr (1, [.ref (zg E (1 + kd)), .int (iI pl), .ref (ad E (q + 1))]) := (hg31 q (nx_B_divide_4 hqt hrt hbt) (nx_B_divide_16 hqt hrt hbt)).trans e13
  have e36 : w25 (q + 1) = .inr (0, [.ref (ad E (q + 2)), .int (iI ng)]) := (hg31 (q + 1) (nx_B_divide_5 hqt hrt hbt) (nx_B_divide_17 hqt hrt hbt)).trans e14
  have e37 : w25 (q + 2) = zar E 15 f := (hg31 (q + 2) (nx_B_divide_6 hqt hrt hbt) (nx_B_divide_18 hqt hrt hbt)).trans e15
  have e38 : w25 r = .inr (1, [.ref (zg E (1 + ko)), .int (iI po), .ref (ad E (r + 1))]) := (hg31 r (nx_B_divide_7 hqt hrt hbt) (nx_B_divide_19 hqt hrt hbt)).trans e16
  have e39 : w25 (r + 1) = .inr (0, [.ref (ad E (r + 2)), .int (iI no)]) := (hg31 (r + 1) (nx_B_divide_8 hqt hrt hbt) (nx_B_divide_20 hqt hrt hbt)).trans e17
  have e40 : w25 (r + 2) = zar E 15 g := (hg31 (r + 2) (nx_B_divide_9 hqt hrt hbt) (nx_B_divide_21 hqt hrt hbt)).trans e18
  have e41 : w25 t = .inr (1, [.ref (zg E (1 + kt)), .int (iI pt), .ref (ad E (t + 1))]) := (hg31 t (nx_B_divide_10 hqt hrt hbt) (nx_B_divide_22 hqt hrt hbt)).trans e19
  have e42 : w25 (t + 1) = .inr (0, [.ref (ad E (t + 2)), .int (iI nt)]) := (hg31 (t + 1) (nx_B_divide_11 hqt hrt hbt) (nx_B_divide_23 hqt hrt hbt)).trans e20
  have e43 : w25 (t + 2) = zar E 15 h := (hg31 (t + 2) (nx_B_divide_12 hqt hrt hbt) (nx_B_divide_24 hqt hrt hbt)).trans e21
  have hf44 : ∀ k, k ≠ (b + 1) → k ≠ (b + 2) → w25 k = w0 k := fun k g0 g1 => (hg31 k g0 g1).trans (hf22 k g0)
  rw [p4] at p22
  have m9 := q_lt (x := 7) vf.1 vA (by decide) hD
  refine lv_aload_n hx hb d_B_divide_25 rfl (lv_at hl 0 rfl) ?_
  refine zv_get (C := "ScaledNumeralDesk$Bench") (T := TB) (N := 4) hx hb hg uB_in hown hK hH26 q0lt e32 rfl 1 (by decide) (hg _ wm_116) (fun _ h9 => h9) rfl d_B_divide_26 ?_
  refine zv_bipush hx hb d_B_divide_29 rfl ?_
  refine lv_aload_n hx hb d_B_divide_31 rfl (lv_at hl 1 rfl) ?_
  refine lv_aload_n hx hb d_B_divide_32 rfl (lv_at hl 2 rfl) ?_
  refine z_calli (va_runS (As := [.ref (ad E q), .ref (ad E r)]) (rest := [.int (iI 7), .ref (ad E (b + 2))]) ⟨hx, hb, hml, hown, hts⟩ (c_B_places (l := l) (E := E) (w0 := w25) (q := q) (kd := kd) (pl := pl) (ng := ng) (f := f) (r := r) (ko := ko) (po := po) (no := no) (g := g) (q0lt := q5lt) (q1lt := q6lt) (q2lt := q7lt) (q3lt := q8lt) (q4lt := q9lt) (q5lt := q10lt) (c0 := e35) (c1 := e36) (c2 := e37) (c3 := e38) (c4 := e39) (c5 := e40) (bf := bf) (hkd := by omega) (hng := by omega) (hpl := by omega) (vA := by omega) (bg := bg) (hko := by omega) (hno := by omega) (hpo := by omega) (vB := by omega) H23.size) (z_cwS 2 hg wm_485 wm_483 wm_8 wm_484 (by decide +kernel) ⟨Nat.le_of_ble_eq_true rfl, Nat.le_of_ble_eq_true rfl⟩) (z_preS hK hG hn hH26 hA) rfl rfl hl.1 rfl (lv_room (Nat.le_of_ble_eq_true rfl)) d_B_divide_33 ⟨Nat.zero_le _, Nat.zero_le _⟩) hH26 hA (fun pz w47 H45 lc46 hH48 p33 => ?_)
  obtain ⟨ew49, p33⟩ := p33
  rw [ew49] at hH48
  replace p33 : ∃ wa wb la lb : Int, Wt (V f 15) wa ∧ Wt (V g 15) wb ∧ Ld (V f 15) la ∧ Ld (V g 15) lb ∧ pz = pd wa wb la lb pl po := p33
  obtain ⟨wa, wb, la, lb, x1, x2, x3, x4, x5⟩ := p33
  have pdi := pd_in (wa := wa) (wb := wb) (la := la) (lb := lb) (po := po) hpl
  rw [← x5] at pdi
  have L58 : ∀ (y : Int) (ls : Array Slot) (H50 : Heap) (lc51 : List Loc), (lv_has ls 4 [(0, .ref (ad E b)), (1, .ref (ad E q)), (2, .ref (ad E r)), (3, .ref (ad E t))]) → (zH E w25 (va_A (wl E w0) s.heap.size) s.heap H50 lc51) → (y = dif ng no) → (y = 0 ∨ y = 1) → W p l e rm_B_divide s m a below meth cd H50 lc51 0 0 Qf (F0 m 58 ls [.int (iI y), .int (iI pz), .int (iI 7), .ref (ad E (b + 2))]) := by
    intro y ls H50 lc51 hl hH hy hy1
    refine lv_aload_n hx hb d_B_divide_58 rfl (lv_at hl 3 rfl) ?_
    refine z_calli (va_runS (As := [.ref (ad E (b + 2)), .int (iI 7), .int (iI pz), .int (iI y), .ref (ad E t)]) (rest := []) ⟨hx, hb, hml, hown, hts⟩ (c_B_settle (l := l) (E := E) (w0 := w25) (y := b + 2) (u := v2) (x := 7) (ps := pz) (mn := y) (t := t) (kt := kt) (pt := pt) (nt := nt) (h := h) (q0lt := q2lt) (q1lt := q11lt) (q2lt := q12lt) (q3lt := q13lt) (c0 := e28) (c1 := e41) (c2 := e42) (c3 := e43) (bu := bd30) (bh := bh) (hkt := by omega) (hnt := by omega) (hyt := by omega) (hx0 := by omega) (hps := by omega) (hmn := by omega) (hu := (by rw [p22.1]; exact m9.2)) H50.size) (z_cwS 5 hg wm_432 wm_430 wm_8 wm_431 (by decide +kernel) ⟨Nat.le_of_ble_eq_true rfl, Nat.le_of_ble_eq_true rfl⟩) (z_preS hK hG hn hH hA) rfl rfl hl.1 rfl (lv_room (Nat.le_of_ble_eq_true rfl)) d_B_divide_59 ⟨Nat.zero_le _, Nat.zero_le _⟩) hH hA (fun z56 w54 H52 lc53 hH55 p59 => ?_)
    obtain ⟨⟨u_57, k_58, p_59, n_60, f_61, e62, e63, e64, e65, bd66, bd67, p59⟩, hg68⟩ := p59
    replace bd66 : bd u_57 30 0 9999 := bd66
    replace bd67 : bd f_61 15 0 9999 := bd67
    replace p59 : k_58 < 4 ∧ (n_60 = 0 ∨ n_60 = 1) ∧ St z56 k_58 p_59 n_60 (V f_61 15) (Rn (V v2 30) ((7 : Int) * 4 - pz)) (7 : Int) pz y := p59
    have e69 : w54 b = .inr (4, [.ref (ad E (b + 1)), .ref (ad E (b + 2)), .ref (ad E (b + 3)), .ref (ad E (b + 4))]) := (hg68 b (nx_B_divide_13 hqt hrt hbt) (nx_B_divide_25 hqt hrt hbt) (nx_B_divide_26 hqt hrt hbt) (nx_B_divide_27 hqt hrt hbt)).trans e32
    have e70 : w54 (b + 1) = zar E 30 v1 := (hg68 (b + 1) (nx_B_divide_28 hqt hrt hbt) (nx_B_divide_29 hqt hrt hbt) (nx_B_divide_30 hqt hrt hbt) (nx_B_divide_31 hqt hrt hbt)).trans e27
    have e71 : w54 (b + 3) = zar E 30 r3 := (hg68 (b + 3) (nx_B_divide_14 hqt hrt hbt) (nx_B_divide_32 hqt hrt hbt) (nx_B_divide_33 hqt hrt hbt) (nx_B_divide_34 hqt hrt hbt)).trans e33
    have e72 : w54 (b + 4) = zar E 30 r4 := (hg68 (b + 4) (nx_B_divide_15 hqt hrt hbt) (nx_B_divide_35 hqt hrt hbt) (nx_B_divide_36 hqt hrt hbt) (nx_B_divide_37 hqt hrt hbt)).trans e34
    have e73 : w54 q = .inr (1, [.ref (zg E (1 + kd)), .int (iI pl), .ref (ad E (q + 1))]) := (hg68 q (nx_B_divide_16 hqt hrt hbt) (nx_B_divide_38 hqt hrt hbt) (nx_B_divide_39 hqt hrt hbt) (nx_B_divide_40 hqt hrt hbt)).trans e35
    have e74 : w54 (q + 1) = .inr (0, [.ref (ad E (q + 2)), .int (iI ng)]) := (hg68 (q + 1) (nx_B_divide_17 hqt hrt hbt) (nx_B_divide_41 hqt hrt hbt) (nx_B_divide_42 hqt hrt hbt) (nx_B_divide_43 hqt hrt hbt)).trans e36
    have e75 : w54 (q + 2) = zar E 15 f := (hg68 (q + 2) (nx_B_divide_18 hqt hrt hbt) (nx_B_divide_44 hqt hrt hbt) (nx_B_divide_45 hqt hrt hbt) (nx_B_divide_46 hqt hrt hbt)).trans e37
    have e76 : w54 r = .inr (1, [.ref (zg E (1 + ko)), .int (iI po), .ref (ad E (r + 1))]) := (hg68 r (nx_B_divide_19 hqt hrt hbt) (nx_B_divide_47 hqt hrt hbt) (nx_B_divide_48 hqt hrt hbt) (nx_B_divide_49 hqt hrt hbt)).trans e38
    have e77 : w54 (r + 1) = .inr (0, [.ref (ad E (r + 2)), .int (iI no)]) := (hg68 (r + 1) (nx_B_divide_20 hqt hrt hbt) (nx_B_divide_50 hqt hrt hbt) (nx_B_divide_51 hqt hrt hbt) (nx_B_divide_52 hqt hrt hbt)).trans e39
    have e78 : w54 (r + 2) = zar E 15 g := (hg68 (r + 2) (nx_B_divide_21 hqt hrt hbt) (nx_B_divide_53 hqt hrt hbt) (nx_B_divide_54 hqt hrt hbt) (nx_B_divide_55 hqt hrt hbt)).trans e40
    have hf79 : ∀ k, k ≠ (b + 1) → k ≠ (b + 2) → k ≠ t → k ≠ (t + 1) → k ≠ (t + 2) → w54 k = w0 k := fun k g0 g1 g2 g3 g4 => (hg68 k g1 g2 g3 g4).trans (hf44 k g0 g1)
    rw [p22.1, hy, x5] at p59
    rw [hQ]
    exact z_iret hx hb hr hlk hH55 (⟨⟨v1, u_57, k_58, p_59, n_60, f_61, e70, e62, e63, e64, e65, bd29, bd66, bd67, ⟨p59.1, p59.2.1, wa, wb, la, lb, x1, x2, x3, x4, p59.2.2⟩⟩, (fun k g0 g1 g2 g3 g4 => hf79 k g0 g1 g2 g3 g4)⟩) d_B_divide_62
  refine lv_aload_n hx hb d_B_divide_36 rfl (lv_at hl 1 rfl) ?_
  refine zv_get (C := "ScaledNumeralDesk$Numeral") (T := TN) (N := 3) hx hb hg uN_in hown hK hH48 q5lt e35 rfl 2 (by decide) (hg _ wm_65) (fun _ h9 => h9) rfl d_B_divide_37 ?_
  refine zv_get (C := "ScaledNumeralDesk$Amount") (T := TA) (N := 2) hx hb hg uA_in hown hK hH48 q6lt e36 rfl 1 (by decide) (hg _ wm_47) (fun _ h9 => h9) rfl d_B_divide_40 ?_
  refine lv_aload_n hx hb d_B_divide_43 rfl (lv_at hl 2 rfl) ?_
  refine zv_get (C := "ScaledNumeralDesk$Numeral") (T := TN) (N := 3) hx hb hg uN_in hown hK hH48 q8lt e38 rfl 2 (by decide) (hg _ wm_65) (fun _ h9 => h9) rfl d_B_divide_44 ?_
  refine zv_get (C := "ScaledNumeralDesk$Amount") (T := TA) (N := 2) hx hb hg uA_in hown hK hH48 q9lt e39 rfl 1 (by decide) (hg _ wm_47) (fun _ h9 => h9) rfl d_B_divide_47 ?_
  refine zv_icmp_eq (tgt := 57) hx hb d_B_divide_50 rfl (by omega) (by omega) (fun h80 => ?_) (fun h80 => ?_)
  · refine zv_iconst hx hb d_B_divide_57 ?_
    exact L58 0 _ H45 lc46 (lv_sub hl [0, 1, 2, 3] rfl) hH48 (by first | exact (dif_e (by omega)).symm | exact (dif_n (by omega)).symm) (by omega)
  · refine zv_iconst hx hb d_B_divide_53 ?_
    refine lv_goto (tgt := 58) hx hb d_B_divide_54 rfl ?_
    exact L58 1 _ H45 lc46 (lv_sub hl [0, 1, 2, 3] rfl) hH48 (by first | exact (dif_e (by omega)).symm | exact (dif_n (by omega)).symm) (by omega)
theorem nx_B_quotient_0 {b q r t : Nat} (hqt : t + 2 < q) (hrt : t + 2 < r) (hbt : b + 4 < t) : b ≠ b + 1 := by omega
theorem nx_B_quotient_1 {b q r t : Nat} (hqt : t + 2 < q) (hrt : t + 2 < r) (hbt : b + 4 < t) : b + 2 ≠ b + 1 := by omega
theorem nx_B_quotient_2 {b q r t : Nat} (hqt : t + 2 < q) (hrt : t + 2 < r) (hbt : b + 4 < t) : b + 3 ≠ b + 1 := by omega
theorem nx_B_quotient_3 {b q r t : Nat} (hqt : t + 2 < q) (hrt : t + 2 < r) (hbt : b + 4 < t) : b + 4 ≠ b + 1 := by omega
theorem nx_B_quotient_4 {b q r t : Nat} (hqt : t + 2 < q) (hrt : t + 2 < r) (hbt : b + 4 < t) : q ≠ b + 1 := by omega
theorem nx_B_quotient_5 {b q r t : Nat} (hqt : t + 2 < q) (hrt : t + 2 < r) (hbt : b + 4 < t) : q + 1 ≠ b + 1 := by omega
theorem nx_B_quotient_6 {b q r t : Nat} (hqt : t + 2 < q) (hrt : t + 2 < r) (hbt : b + 4 < t) : q + 2 ≠ b + 1 := by omega
theorem nx_B_quotient_7 {b q r t : Nat} (hqt : t + 2 < q) (hrt : t + 2 < r) (hbt : b + 4 < t) : r ≠ b + 1 := by omega
theorem nx_B_quotient_8 {b q r t : Nat} (hqt : t + 2 < q) (hrt : t + 2 < r) (hbt : b + 4 < t) : r + 1 ≠ b + 1 := by omega
theorem nx_B_quotient_9 {b q r t : Nat} (hqt : t + 2 < q) (hrt : t + 2 < r) (hbt : b + 4 < t) : r + 2 ≠ b + 1 := by omega
theorem nx_B_quotient_10 {b q r t : Nat} (hqt : t + 2 < q) (hrt : t + 2 < r) (hbt : b + 4 < t) : t ≠ b + 1 := by omega
theorem nx_B_quotient_11 {b q r t : Nat} (hqt : t + 2 < q) (hrt : t + 2 < r) (hbt : b + 4 < t) : t + 1 ≠ b + 1 := by omega
theorem nx_B_quotient_12 {b q r t : Nat} (hqt : t + 2 < q) (hrt : t + 2 < r) (hbt : b + 4 < t) : t + 2 ≠ b + 1 := by omega
theorem nx_B_quotient_13 {b q r t : Nat} (hqt : t + 2 < q) (hrt : t + 2 < r) (hbt : b + 4 < t) : b ≠ b + 2 := by omega
theorem nx_B_quotient_14 {b q r t : Nat} (hqt : t + 2 < q) (hrt : t + 2 < r) (hbt : b + 4 < t) : b + 3 ≠ b + 2 := by omega
theorem nx_B_quotient_15 {b q r t : Nat} (hqt : t + 2 < q) (hrt : t + 2 < r) (hbt : b + 4 < t) : b + 4 ≠ b + 2 := by omega
theorem nx_B_quotient_16 {b q r t : Nat} (hqt : t + 2 < q) (hrt : t + 2 < r) (hbt : b + 4 < t) : q ≠ b + 2 := by omega
theorem nx_B_quotient_17 {b q r t : Nat} (hqt : t + 2 < q) (hrt : t + 2 < r) (hbt : b + 4 < t) : q + 1 ≠ b + 2 := by omega
theorem nx_B_quotient_18 {b q r t : Nat} (hqt : t + 2 < q) (hrt : t + 2 < r) (hbt : b + 4 < t) : q + 2 ≠ b + 2 := by omega
theorem nx_B_quotient_19 {b q r t : Nat} (hqt : t + 2 < q) (hrt : t + 2 < r) (hbt : b + 4 < t) : r ≠ b + 2 := by omega
theorem nx_B_quotient_20 {b q r t : Nat} (hqt : t + 2 < q) (hrt : t + 2 < r) (hbt : b + 4 < t) : r + 1 ≠ b + 2 := by omega
theorem nx_B_quotient_21 {b q r t : Nat} (hqt : t + 2 < q) (hrt : t + 2 < r) (hbt : b + 4 < t) : r + 2 ≠ b + 2 := by omega
theorem nx_B_quotient_22 {b q r t : Nat} (hqt : t + 2 < q) (hrt : t + 2 < r) (hbt : b + 4 < t) : t ≠ b + 2 := by omega
theorem nx_B_quotient_23 {b q r t : Nat} (hqt : t + 2 < q) (hrt : t + 2 < r) (hbt : b + 4 < t) : t + 1 ≠ b + 2 := by omega
theorem nx_B_quotient_24 {b q r t : Nat} (hqt : t + 2 < q) (hrt : t + 2 < r) (hbt : b + 4 < t) : t + 2 ≠ b + 2 := by omega
theorem nx_B_quotient_25 {b q r t : Nat} (hqt : t + 2 < q) (hrt : t + 2 < r) (hbt : b + 4 < t) : b + 1 ≠ b + 2 := by omega
theorem nx_B_quotient_26 {b q r t : Nat} (hqt : t + 2 < q) (hrt : t + 2 < r) (hbt : b + 4 < t) : b ≠ t := by omega
theorem nx_B_quotient_27 {b q r t : Nat} (hqt : t + 2 < q) (hrt : t + 2 < r) (hbt : b + 4 < t) : b ≠ t + 1 := by omega
theorem nx_B_quotient_28 {b q r t : Nat} (hqt : t + 2 < q) (hrt : t + 2 < r) (hbt : b + 4 < t) : b ≠ t + 2 := by omega
theorem nx_B_quotient_29 {b q r t : Nat} (hqt : t + 2 < q) (hrt : t + 2 < r) (hbt : b + 4 < t) : b + 1 ≠ t := by omega
theorem nx_B_quotient_30 {b q r t : Nat} (hqt : t + 2 < q) (hrt : t + 2 < r) (hbt : b + 4 < t) : b + 1 ≠ t + 1 := by omega
theorem nx_B_quotient_31 {b q r t : Nat} (hqt : t + 2 < q) (hrt : t + 2 < r) (hbt : b + 4 < t) : b + 1 ≠ t + 2 := by omega
theorem nx_B_quotient_32 {b q r t : Nat} (hqt : t + 2 < q) (hrt : t + 2 < r) (hbt : b + 4 < t) : b + 3 ≠ t := by omega
theorem nx_B_quotient_33 {b q r t : Nat} (hqt : t + 2 < q) (hrt : t + 2 < r) (hbt : b + 4 < t) : b + 3 ≠ t + 1 := by omega
theorem nx_B_quotient_34 {b q r t : Nat} (hqt : t + 2 < q) (hrt : t + 2 < r) (hbt : b + 4 < t) : b + 3 ≠ t + 2 := by omega
theorem nx_B_quotient_35 {b q r t : Nat} (hqt : t + 2 < q) (hrt : t + 2 < r) (hbt : b + 4 < t) : b + 4 ≠ t := by omega
theorem nx_B_quotient_36 {b q r t : Nat} (hqt : t + 2 < q) (hrt : t + 2 < r) (hbt : b + 4 < t) : b + 4 ≠ t + 1 := by omega
theorem nx_B_quotient_37 {b q r t : Nat} (hqt : t + 2 < q) (hrt : t + 2 < r) (hbt : b + 4 < t) : b + 4 ≠ t + 2 := by omega
theorem nx_B_quotient_38 {b q r t : Nat} (hqt : t + 2 < q) (hrt : t + 2 < r) (hbt : b + 4 < t) : q ≠ t := by omega
theorem nx_B_quotient_39 {b q r t : Nat} (hqt : t + 2 < q) (hrt : t + 2 < r) (hbt : b + 4 < t) : q ≠ t + 1 := by omega
theorem nx_B_quotient_40 {b q r t : Nat} (hqt : t + 2 < q) (hrt : t + 2 < r) (hbt : b + 4 < t) : q ≠ t + 2 := by omega
theorem nx_B_quotient_41 {b q r t : Nat} (hqt : t + 2 < q) (hrt : t + 2 < r) (hbt : b + 4 < t) : q + 1 ≠ t := by omega
theorem nx_B_quotient_42 {b q r t : Nat} (hqt : t + 2 < q) (hrt : t + 2 < r) (hbt : b + 4 < t) : q + 1 ≠ t + 1 := by omega
theorem nx_B_quotient_43 {b q r t : Nat} (hqt : t + 2 < q) (hrt : t + 2 < r) (hbt : b + 4 < t) : q + 1 ≠ t + 2 := by omega
theorem nx_B_quotient_44 {b q r t : Nat} (hqt : t + 2 < q) (hrt : t + 2 < r) (hbt : b + 4 < t) : q + 2 ≠ t := by omega
theorem nx_B_quotient_45 {b q r t : Nat} (hqt : t + 2 < q) (hrt : t + 2 < r) (hbt : b + 4 < t) : q + 2 ≠ t + 1 := by omega
theorem nx_B_quotient_46 {b q r t : Nat} (hqt : t + 2 < q) (hrt : t + 2 < r) (hbt : b + 4 < t) : q + 2 ≠ t + 2 := by omega
theorem nx_B_quotient_47 {b q r t : Nat} (hqt : t + 2 < q) (hrt : t + 2 < r) (hbt : b + 4 < t) : r ≠ t := by omega
theorem nx_B_quotient_48 {b q r t : Nat} (hqt : t + 2 < q) (hrt : t + 2 < r) (hbt : b + 4 < t) : r ≠ t + 1 := by omega
theorem nx_B_quotient_49 {b q r t : Nat} (hqt : t + 2 < q) (hrt : t + 2 < r) (hbt : b + 4 < t) : r ≠ t + 2 := by omega
theorem nx_B_quotient_50 {b q r t : Nat} (hqt : t + 2 < q) (hrt : t + 2 < r) (hbt : b + 4 < t) : r + 1 ≠ t := by omega
theorem nx_B_quotient_51 {b q r t : Nat} (hqt : t + 2 < q) (hrt : t + 2 < r) (hbt : b + 4 < t) : r + 1 ≠ t + 1 := by omega
theorem nx_B_quotient_52 {b q r t : Nat} (hqt : t + 2 < q) (hrt : t + 2 < r) (hbt : b + 4 < t) : r + 1 ≠ t + 2 := by omega
theorem nx_B_quotient_53 {b q r t : Nat} (hqt : t + 2 < q) (hrt : t + 2 < r) (hbt : b + 4 < t) : r + 2 ≠ t := by omega
theorem nx_B_quotient_54 {b q r t : Nat} (hqt : t + 2 < q) (hrt : t + 2 < r) (hbt : b + 4 < t) : r + 2 ≠ t + 1 := by omega
theorem nx_B_quotient_55 {b q r t : Nat} (hqt : t + 2 < q) (hrt : t + 2 < r) (hbt : b + 4 < t) : r + 2 ≠ t + 2 := by omega
def rm_B_quotient : Room := { frames := 4, cells := 0, slots := 0, locals := 91 }
set_option maxHeartbeats 4000000 in
set_option maxRecDepth 100000 in
theorem c_B_quotient (l : Launch) (E : zE) (w0 : zW) (b : Nat) (r1 r2 r3 r4 : Int → Int) (q : Nat) (kd : Nat) (pl ng : Int) (f : Int → Int) (r : Nat) (ko : Nat) (po no : Int) (g : Int → Int) (t : Nat) (kt : Nat) (pt nt : Int) (h : Int → Int) (q0lt : b < zn E) (q1lt : b + 1 < zn E) (q2lt : b + 2 < zn E) (q3lt : b + 3 < zn E) (q4lt : b + 4 < zn E) (q5lt : q < zn E) (q6lt : q + 1 < zn E) (q7lt : q + 2 < zn E) (q8lt : r < zn E) (q9lt : r + 1 < zn E) (q10lt : r + 2 < zn E) (q11lt : t < zn E) (q12lt : t + 1 < zn E) (q13lt : t + 2 < zn E) (c0 : w0 b = .inr (4, [.ref (ad E (b + 1)), .ref (ad E (b + 2)), .ref (ad E (b + 3)), .ref (ad E (b + 4))])) (c1 : w0 (b + 1) = zar E 30 r1) (c2 : w0 (b + 2) = zar E 30 r2) (c3 : w0 (b + 3) = zar E 30 r3) (c4 : w0 (b + 4) = zar E 30 r4) (c5 : w0 q = .inr (1, [.ref (zg E (1 + kd)), .int (iI pl), .ref (ad E (q + 1))])) (c6 : w0 (q + 1) = .inr (0, [.ref (ad E (q + 2)), .int (iI ng)])) (c7 : w0 (q + 2) = zar E 15 f) (c8 : w0 r = .inr (1, [.ref (zg E (1 + ko)), .int (iI po), .ref (ad E (r + 1))])) (c9 : w0 (r + 1) = .inr (0, [.ref (ad E (r + 2)), .int (iI no)])) (c10 : w0 (r + 2) = zar E 15 g) (c11 : w0 t = .inr (1, [.ref (zg E (1 + kt)), .int (iI pt), .ref (ad E (t + 1))])) (c12 : w0 (t + 1) = .inr (0, [.ref (ad E (t + 2)), .int (iI nt)])) (c13 : w0 (t + 2) = zar E 15 h) (br1 : bd r1 30 0 9999) (br2 : bd r2 30 0 9999) (br3 : bd r3 30 0 9999) (br4 : bd r4 30 0 9999) (bf : bd f 15 0 9999) (hkd : kd < 4) (hng : ng = 0 ∨ ng = 1) (hpl : 0 ≤ pl ∧ pl ≤ 24) (vA : V f 15 < Bp 14) (bg : bd g 15 0 9999) (hko : ko < 4) (hno : no = 0 ∨ no = 1) (hpo : 0 ≤ po ∧ po ≤ 24) (vB : V g 15 < Bp 14) (bh : bd h 15 0 9999) (hkt : kt < 4) (hnt : nt = 0 ∨ nt = 1) (hqt : t + 2 < q) (hrt : t + 2 < r) (hbt : b + 4 < t) (hD : 0 < V g 15) : zM l y_B_quotient ws_B_quotient rm_B_quotient E [.ref (ad E b), .ref (ad E q), .ref (ad E r), .ref (ad E t)] w0 (zQi E w0 (fun z w' => (∃ (r1' : Int → Int) (r2' : Int → Int) (k' : Nat) (p' : Int) (n' : Int) (f' : Int → Int), w' (b + 1) = zar E 30 r1' ∧ w' (b + 2) = zar E 30 r2' ∧ w' t = .inr (1, [.ref (zg E (1 + k')), .int (iI p'), .ref (ad E (t + 1))]) ∧ w' (t + 1) = .inr (0, [.ref (ad E (t + 2)), .int (iI n')]) ∧ w' (t + 2) = zar E 15 f' ∧ bd r1' 30 0 9999 ∧ bd r2' 30 0 9999 ∧ bd f' 15 0 9999 ∧ (k' < 4 ∧ (n' = 0 ∨ n' = 1) ∧ St z k' p' n' (V f' 15) (Rn (V f 15 * Bp 6 / V g 15 / Tp 24 * Tp 24) (6 * 4 - 0)) 6 0 (dif ng no))) ∧ ∀ k, k ≠ (b + 1) → k ≠ (b + 2) → k ≠ t → k ≠ (t + 1) → k ≠ (t + 2) → w' k = w0 k)) := by
  refine z_met (cc := b_B_quotient) (maxL := 4) (ret := (some .int)) (by decide +kernel) rfl (Nat.le_of_ble_eq_true rfl) ?_
  intro p e s m below meth cd ls a Qf hQ hC hl hH
  obtain ⟨hF, hr, hlk, hK, hG, hn⟩ := hC
  obtain ⟨hx, hb, hml, hown, hts⟩ := hF
  have hg : ∀ w ∈ GW, w.before a s = true := fun w h => hts w (List.mem_cons_of_mem _ h)
  have hA : ∀ q, s.heap.size ≤ q → va_A (wl E w0) s.heap.size q := fun q h => Or.inr h
  have hl : lv_has ls 4 [(0, .ref (ad E b)), (1, .ref (ad E q)), (2, .ref (ad E r)), (3, .ref (ad E t))] := hl
  have vf := V_in bf (show (0 : Int) ≤ 15 by decide) (Int.le_refl 15)
  have vg := V_in bg (show (0 : Int) ≤ 15 by decide) (Int.le_refl 15)
  refine lv_aload_n hx hb d_B_quotient_0 rfl (lv_at hl 0 rfl) ?_
  refine lv_aload_n hx hb d_B_quotient_1 rfl (lv_at hl 1 rfl) ?_
  refine zv_bipush hx hb d_B_quotient_2 rfl ?_
  refine z_callv (va_runV (As := [.ref (ad E q), .int (iI 6)]) (rest := []) ⟨hx, hb, hml, hown, hts⟩ (c_B_load (l := l) (E := E) (w0 := w0) (b := b) (r1 := r1) (r2 := r2) (r3 := r3) (r4 := r4) (q := q) (kd := kd) (pl := pl) (ng := ng) (f := f) (x := 6) (q0lt := q0lt) (q1lt := q1lt) (q2lt := q2lt) (q3lt := q3lt) (q4lt := q4lt) (q5lt := q5lt) (q6lt := q6lt) (q7lt := q7lt) (c0 := c0) (c1 := c1) (c2 := c2) (c3 := c3) (c4 := c4) (c5 := c5) (c6 := c6) (c7 := c7) (br1 := br1) (br2 := br2) (br3 := br3) (br4 := br4) (bf := bf) (hkd := by omega) (hng := by omega) (hbq := by omega) (hx0 := by omega) s.heap.size) (z_cwV (C := "ScaledNumeralDesk$Bench") 2 hg wm_465 wm_462 wm_8 wm_464 wm_s16 (by decide +kernel) ⟨Nat.le_of_ble_eq_true rfl, Nat.le_of_ble_eq_true rfl⟩) (z_preV (r := ("ScaledNumeralDesk$Bench", TB, 4)) hK hG hn hH hA q0lt c0 rfl) rfl rfl hl.1 rfl (lv_room (Nat.le_of_ble_eq_true rfl)) d_B_quotient_4 ⟨Nat.zero_le _, Nat.zero_le _⟩) hH hA (fun  w3 H1 lc2 hH4 p4 => ?_)
  obtain ⟨⟨r_5, e6, bd7, p4⟩, hg8⟩ := p4
  replace bd7 : bd r_5 30 0 9999 := bd7
  replace p4 : V r_5 30 = V f 15 * Bp (6 : Int) := p4
  have e9 : w3 b = .inr (4, [.ref (ad E (b + 1)), .ref (ad E (b + 2)), .ref (ad E (b + 3)), .ref (ad E (b + 4))]) := (hg8 b (nx_B_quotient_0 hqt hrt hbt)).trans c0
  have e10 : w3 (b + 2) = zar E 30 r2 := (hg8 (b + 2) (nx_B_quotient_1 hqt hrt hbt)).trans c2
  have e11 : w3 (b + 3) = zar E 30 r3 := (hg8 (b + 3) (nx_B_quotient_2 hqt hrt hbt)).trans c3
  have e12 : w3 (b + 4) = zar E 30 r4 := (hg8 (b + 4) (nx_B_quotient_3 hqt hrt hbt)).trans c4
  have e13 : w3 q = .inr (1, [.ref (zg E (1 + kd)), .int (iI pl), .ref (ad E (q + 1))]) := (hg8 q (nx_B_quotient_4 hqt hrt hbt)).trans c5
  have e14 : w3 (q + 1) = .inr (0, [.ref (ad E (q + 2)), .int (iI ng)]) := (hg8 (q + 1) (nx_B_quotient_5 hqt hrt hbt)).trans c6
  have e15 : w3 (q + 2) = zar E 15 f := (hg8 (q + 2) (nx_B_quotient_6 hqt hrt hbt)).trans c7
  have e16 : w3 r = .inr (1, [.ref (zg E (1 + ko)), .int (iI po), .ref (ad E (r + 1))]) := (hg8 r (nx_B_quotient_7 hqt hrt hbt)).trans c8
  have e17 : w3 (r + 1) = .inr (0, [.ref (ad E (r + 2)), .int (iI no)]) := (hg8 (r + 1) (nx_B_quotient_8 hqt hrt hbt)).trans c9
  have e18 : w3 (r + 2) = zar E 15 g := (hg8 (r + 2) (nx_B_quotient_9 hqt hrt hbt)).trans c10
  have e19 : w3 t = .inr (1, [.ref (zg E (1 + kt)), .int (iI pt), .ref (ad E (t + 1))]) := (hg8 t (nx_B_quotient_10 hqt hrt hbt)).trans c11
  have e20 : w3 (t + 1) = .inr (0, [.ref (ad E (t + 2)), .int (iI nt)]) := (hg8 (t + 1) (nx_B_quotient_11 hqt hrt hbt)).trans c12
  have e21 : w3 (t + 2) = zar E 15 h := (hg8 (t + 2) (nx_B_quotient_12 hqt hrt hbt)).trans c13
  have hf22 : ∀ k, k ≠ (b + 1) → w3 k = w0 k := fun k g0 => hg8 k g0
  refine lv_aload_n hx hb d_B_quotient_7 rfl (lv_at hl 0 rfl) ?_
  refine zv_get (C := "ScaledNumeralDesk$Bench") (T := TB) (N := 4) hx hb hg uB_in hown hK hH4 q0lt e9 rfl 0 (by decide) (hg _ wm_115) (fun _ h9 => h9) rfl d_B_quotient_8 ?_
  refine lv_aload_n hx hb d_B_quotient_11 rfl (lv_at hl 0 rfl) ?_
  refine zv_get (C := "ScaledNumeralDesk$Bench") (T := TB) (N := 4) hx hb hg uB_in hown hK hH4 q0lt e9 rfl 1 (by decide) (hg _ wm_116) (fun _ h9 => h9) rfl d_B_quotient_12 ?_
  refine lv_aload_n hx hb d_B_quotient_15 rfl (lv_at hl 2 rfl) ?_
  refine zv_get (C := "ScaledNumeralDesk$Numeral") (T := TN) (N := 3) hx hb hg uN_in hown hK hH4 q8lt e16 rfl 2 (by decide) (hg _ wm_65) (fun _ h9 => h9) rfl d_B_quotient_16 ?_
  refine zv_get (C := "ScaledNumeralDesk$Amount") (T := TA) (N := 2) hx hb hg uA_in hown hK hH4 q9lt e17 rfl 0 (by decide) (hg _ wm_44) (fun _ h9 => h9) rfl d_B_quotient_19 ?_
  refine z_callv (va_runS (As := [.ref (ad E (b + 1)), .ref (ad E (b + 2)), .ref (ad E (r + 2))]) (rest := []) ⟨hx, hb, hml, hown, hts⟩ (c_rowDivide (l := l) (E := E) (w0 := w3) (q := b + 1) (r := b + 2) (t := r + 2) (N := 30) (K := 15) (f := r_5) (k0 := r2) (g := g) (q0lt := q1lt) (q1lt := q2lt) (q2lt := q10lt) (c0 := e6) (c1 := e10) (c2 := e18) (hN := by omega) (hK0 := by omega) (bf := bd7) (bg := bg) (hqr := by omega) (hD := (show V g 15 ≠ 0 by omega)) H1.size) (z_cwS 3 hg wm_469 wm_467 wm_16 wm_468 (by decide +kernel) ⟨Nat.le_of_ble_eq_true rfl, Nat.le_of_ble_eq_true rfl⟩) (z_preS hK hG hn hH4 hA) rfl rfl hl.1 rfl (lv_room (Nat.le_of_ble_eq_true rfl)) d_B_quotient_22 ⟨Nat.zero_le _, Nat.zero_le _⟩) hH4 hA (fun  w25 H23 lc24 hH26 p22 => ?_)
  obtain ⟨⟨v1, v2, e27, e28, bd29, bd30, p22⟩, hg31⟩ := p22
  replace bd29 : bd v1 30 0 9999 := bd29
  replace bd30 : bd v2 30 0 9999 := bd30
  replace p22 : V v2 30 = V r_5 30 / V g 15 ∧ V v1 30 = V r_5 30 % V g 15 := p22
  have e32 : w25 b = .inr (4, [.ref (ad E (b + 1)), .ref (ad E (b + 2)), .ref (ad E (b + 3)), .ref (ad E (b + 4))]) := (hg31 b (nx_B_quotient_0 hqt hrt hbt) (nx_B_quotient_13 hqt hrt hbt)).trans e9
  have e33 : w25 (b + 3) = zar E 30 r3 := (hg31 (b + 3) (nx_B_quotient_2 hqt hrt hbt) (nx_B_quotient_14 hqt hrt hbt)).trans e11
  have e34 : w25 (b + 4) = zar E 30 r4 := (hg31 (b + 4) (nx_B_quotient_3 hqt hrt hbt) (nx_B_quotient_15 hqt hrt hbt)).trans e12
  have e35 : w25 q = .inr (1, [.ref (zg E (1 + kd)), .int (iI pl), .ref (ad E (q + 1))]) := (hg31 q (nx_B_quotient_4 hqt hrt hbt) (nx_B_quotient_16 hqt hrt hbt)).trans e13
  have e36 : w25 (q + 1) = .inr (0, [.ref (ad E (q + 2)), .int (iI ng)]) := (hg31 (q + 1) (nx_B_quotient_5 hqt hrt hbt) (nx_B_quotient_17 hqt hrt hbt)).trans e14
  have e37 : w25 (q + 2) = zar E 15 f := (hg31 (q + 2) (nx_B_quotient_6 hqt hrt hbt) (nx_B_quotient_18 hqt hrt hbt)).trans e15
  have e38 : w25 r = .inr (1, [.ref (zg E (1 + ko)), .int (iI po), .ref (ad E (r + 1))]) := (hg31 r (nx_B_quotient_7 hqt hrt hbt) (nx_B_quotient_19 hqt hrt hbt)).trans e16
  have e39 : w25 (r + 1) = .inr (0, [.ref (ad E (r + 2)), .int (iI no)]) := (hg31 (r + 1) (nx_B_quotient_8 hqt hrt hbt) (nx_B_quotient_20 hqt hrt hbt)).trans e17
  have e40 : w25 (r + 2) = zar E 15 g := (hg31 (r + 2) (nx_B_quotient_9 hqt hrt hbt) (nx_B_quotient_21 hqt hrt hbt)).trans e18
  have e41 : w25 t = .inr (1, [.ref (zg E (1 + kt)), .int (iI pt), .ref (ad E (t + 1))]) := (hg31 t (nx_B_quotient_10 hqt hrt hbt) (nx_B_quotient_22 hqt hrt hbt)).trans e19
  have e42 : w25 (t + 1) = .inr (0, [.ref (ad E (t + 2)), .int (iI nt)]) := (hg31 (t + 1) (nx_B_quotient_11 hqt hrt hbt) (nx_B_quotient_23 hqt hrt hbt)).trans e20
  have e43 : w25 (t + 2) = zar E 15 h := (hg31 (t + 2) (nx_B_quotient_12 hqt hrt hbt) (nx_B_quotient_24 hqt hrt hbt)).trans e21
  have hf44 : ∀ k, k ≠ (b + 1) → k ≠ (b + 2) → w25 k = w0 k := fun k g0 g1 => (hg31 k g0 g1).trans (hf22 k g0)
  rw [p4] at p22
  have m9 := q_lt (x := 6) vf.1 vA (by decide) hD
  have m8 := ct_lt (x := 24) m9.1 m9.2
  refine lv_aload_n hx hb d_B_quotient_25 rfl (lv_at hl 0 rfl) ?_
  refine zv_get (C := "ScaledNumeralDesk$Bench") (T := TB) (N := 4) hx hb hg uB_in hown hK hH26 q0lt e32 rfl 1 (by decide) (hg _ wm_116) (fun _ h9 => h9) rfl d_B_quotient_26 ?_
  refine zv_bipush hx hb d_B_quotient_29 rfl ?_
  refine z_callv (va_runS (As := [.ref (ad E (b + 2)), .int (iI 24)]) (rest := []) ⟨hx, hb, hml, hown, hts⟩ (c_cut (l := l) (E := E) (w0 := w25) (q := b + 2) (N := 30) (f := v2) (x := 24) (q0lt := q2lt) (c0 := e28) (hN := by omega) (bf := bd30) (hp := by omega) H23.size) (z_cwS 2 hg wm_439 wm_502 wm_16 wm_438 (by decide +kernel) ⟨Nat.le_of_ble_eq_true rfl, Nat.le_of_ble_eq_true rfl⟩) (z_preS hK hG hn hH26 hA) rfl rfl hl.1 rfl (lv_room (Nat.le_of_ble_eq_true rfl)) d_B_quotient_31 ⟨Nat.zero_le _, Nat.zero_le _⟩) hH26 hA (fun  w47 H45 lc46 hH48 p31 => ?_)
  obtain ⟨⟨f_49, e50, bd51, p31⟩, hg52⟩ := p31
  replace bd51 : bd f_49 30 0 9999 := bd51
  replace p31 : V f_49 30 = (if (24 : Int) ≤ 0 then V v2 30 else V v2 30 / Tp (24 : Int) * Tp (24 : Int)) := p31
  have e53 : w47 b = .inr (4, [.ref (ad E (b + 1)), .ref (ad E (b + 2)), .ref (ad E (b + 3)), .ref (ad E (b + 4))]) := (hg52 b (nx_B_quotient_13 hqt hrt hbt)).trans e32
  have e54 : w47 (b + 1) = zar E 30 v1 := (hg52 (b + 1) (nx_B_quotient_25 hqt hrt hbt)).trans e27
  have e55 : w47 (b + 3) = zar E 30 r3 := (hg52 (b + 3) (nx_B_quotient_14 hqt hrt hbt)).trans e33
  have e56 : w47 (b + 4) = zar E 30 r4 := (hg52 (b + 4) (nx_B_quotient_15 hqt hrt hbt)).trans e34
  have e57 : w47 q = .inr (1, [.ref (zg E (1 + kd)), .int (iI pl), .ref (ad E (q + 1))]) := (hg52 q (nx_B_quotient_16 hqt hrt hbt)).trans e35
  have e58 : w47 (q + 1) = .inr (0, [.ref (ad E (q + 2)), .int (iI ng)]) := (hg52 (q + 1) (nx_B_quotient_17 hqt hrt hbt)).trans e36
  have e59 : w47 (q + 2) = zar E 15 f := (hg52 (q + 2) (nx_B_quotient_18 hqt hrt hbt)).trans e37
  have e60 : w47 r = .inr (1, [.ref (zg E (1 + ko)), .int (iI po), .ref (ad E (r + 1))]) := (hg52 r (nx_B_quotient_19 hqt hrt hbt)).trans e38
  have e61 : w47 (r + 1) = .inr (0, [.ref (ad E (r + 2)), .int (iI no)]) := (hg52 (r + 1) (nx_B_quotient_20 hqt hrt hbt)).trans e39
  have e62 : w47 (r + 2) = zar E 15 g := (hg52 (r + 2) (nx_B_quotient_21 hqt hrt hbt)).trans e40
  have e63 : w47 t = .inr (1, [.ref (zg E (1 + kt)), .int (iI pt), .ref (ad E (t + 1))]) := (hg52 t (nx_B_quotient_22 hqt hrt hbt)).trans e41
  have e64 : w47 (t + 1) = .inr (0, [.ref (ad E (t + 2)), .int (iI nt)]) := (hg52 (t + 1) (nx_B_quotient_23 hqt hrt hbt)).trans e42
  have e65 : w47 (t + 2) = zar E 15 h := (hg52 (t + 2) (nx_B_quotient_24 hqt hrt hbt)).trans e43
  have hf66 : ∀ k, k ≠ (b + 1) → k ≠ (b + 2) → w47 k = w0 k := fun k g0 g1 => (hg52 k g1).trans (hf44 k g0 g1)
  rw [if_neg (by decide)] at p31
  refine lv_aload_n hx hb d_B_quotient_34 rfl (lv_at hl 0 rfl) ?_
  refine zv_get (C := "ScaledNumeralDesk$Bench") (T := TB) (N := 4) hx hb hg uB_in hown hK hH48 q0lt e53 rfl 1 (by decide) (hg _ wm_116) (fun _ h9 => h9) rfl d_B_quotient_35 ?_
  refine zv_bipush hx hb d_B_quotient_38 rfl ?_
  refine zv_iconst hx hb d_B_quotient_40 ?_
  have L63 : ∀ (y : Int) (ls : Array Slot) (H67 : Heap) (lc68 : List Loc), (lv_has ls 4 [(0, .ref (ad E b)), (1, .ref (ad E q)), (2, .ref (ad E r)), (3, .ref (ad E t))]) → (zH E w47 (va_A (wl E w0) s.heap.size) s.heap H67 lc68) → (y = dif ng no) → (y = 0 ∨ y = 1) → W p l e rm_B_quotient s m a below meth cd H67 lc68 0 0 Qf (F0 m 63 ls [.int (iI y), .int (iI 0), .int (iI 6), .ref (ad E (b + 2))]) := by
    intro y ls H67 lc68 hl hH hy hy1
    refine lv_aload_n hx hb d_B_quotient_63 rfl (lv_at hl 3 rfl) ?_
    refine z_calli (va_runS (As := [.ref (ad E (b + 2)), .int (iI 6), .int (iI 0), .int (iI y), .ref (ad E t)]) (rest := []) ⟨hx, hb, hml, hown, hts⟩ (c_B_settle (l := l) (E := E) (w0 := w47) (y := b + 2) (u := f_49) (x := 6) (ps := 0) (mn := y) (t := t) (kt := kt) (pt := pt) (nt := nt) (h := h) (q0lt := q2lt) (q1lt := q11lt) (q2lt := q12lt) (q3lt := q13lt) (c0 := e50) (c1 := e63) (c2 := e64) (c3 := e65) (bu := bd51) (bh := bh) (hkt := by omega) (hnt := by omega) (hyt := by omega) (hx0 := by omega) (hps := by omega) (hmn := by omega) (hu := (by rw [p31, p22.1]; exact m8.2)) H67.size) (z_cwS 5 hg wm_432 wm_430 wm_8 wm_431 (by decide +kernel) ⟨Nat.le_of_ble_eq_true rfl, Nat.le_of_ble_eq_true rfl⟩) (z_preS hK hG hn hH hA) rfl rfl hl.1 rfl (lv_room (Nat.le_of_ble_eq_true rfl)) d_B_quotient_64 ⟨Nat.zero_le _, Nat.zero_le _⟩) hH hA (fun z73 w71 H69 lc70 hH72 p64 => ?_)
    obtain ⟨⟨u_74, k_75, p_76, n_77, f_78, e79, e80, e81, e82, bd83, bd84, p64⟩, hg85⟩ := p64
    replace bd83 : bd u_74 30 0 9999 := bd83
    replace bd84 : bd f_78 15 0 9999 := bd84
    replace p64 : k_75 < 4 ∧ (n_77 = 0 ∨ n_77 = 1) ∧ St z73 k_75 p_76 n_77 (V f_78 15) (Rn (V f_49 30) ((6 : Int) * 4 - (0 : Int))) (6 : Int) (0 : Int) y := p64
    have e86 : w71 b = .inr (4, [.ref (ad E (b + 1)), .ref (ad E (b + 2)), .ref (ad E (b + 3)), .ref (ad E (b + 4))]) := (hg85 b (nx_B_quotient_13 hqt hrt hbt) (nx_B_quotient_26 hqt hrt hbt) (nx_B_quotient_27 hqt hrt hbt) (nx_B_quotient_28 hqt hrt hbt)).trans e53
    have e87 : w71 (b + 1) = zar E 30 v1 := (hg85 (b + 1) (nx_B_quotient_25 hqt hrt hbt) (nx_B_quotient_29 hqt hrt hbt) (nx_B_quotient_30 hqt hrt hbt) (nx_B_quotient_31 hqt hrt hbt)).trans e54
    have e88 : w71 (b + 3) = zar E 30 r3 := (hg85 (b + 3) (nx_B_quotient_14 hqt hrt hbt) (nx_B_quotient_32 hqt hrt hbt) (nx_B_quotient_33 hqt hrt hbt) (nx_B_quotient_34 hqt hrt hbt)).trans e55
    have e89 : w71 (b + 4) = zar E 30 r4 := (hg85 (b + 4) (nx_B_quotient_15 hqt hrt hbt) (nx_B_quotient_35 hqt hrt hbt) (nx_B_quotient_36 hqt hrt hbt) (nx_B_quotient_37 hqt hrt hbt)).trans e56
    have e90 : w71 q = .inr (1, [.ref (zg E (1 + kd)), .int (iI pl), .ref (ad E (q + 1))]) := (hg85 q (nx_B_quotient_16 hqt hrt hbt) (nx_B_quotient_38 hqt hrt hbt) (nx_B_quotient_39 hqt hrt hbt) (nx_B_quotient_40 hqt hrt hbt)).trans e57
    have e91 : w71 (q + 1) = .inr (0, [.ref (ad E (q + 2)), .int (iI ng)]) := (hg85 (q + 1) (nx_B_quotient_17 hqt hrt hbt) (nx_B_quotient_41 hqt hrt hbt) (nx_B_quotient_42 hqt hrt hbt) (nx_B_quotient_43 hqt hrt hbt)).trans e58
    have e92 : w71 (q + 2) = zar E 15 f := (hg85 (q + 2) (nx_B_quotient_18 hqt hrt hbt) (nx_B_quotient_44 hqt hrt hbt) (nx_B_quotient_45 hqt hrt hbt) (nx_B_quotient_46 hqt hrt hbt)).trans e59
    have e93 : w71 r = .inr (1, [.ref (zg E (1 + ko)), .int (iI po), .ref (ad E (r + 1))]) := (hg85 r (nx_B_quotient_19 hqt hrt hbt) (nx_B_quotient_47 hqt hrt hbt) (nx_B_quotient_48 hqt hrt hbt) (nx_B_quotient_49 hqt hrt hbt)).trans e60
    have e94 : w71 (r + 1) = .inr (0, [.ref (ad E (r + 2)), .int (iI no)]) := (hg85 (r + 1) (nx_B_quotient_20 hqt hrt hbt) (nx_B_quotient_50 hqt hrt hbt) (nx_B_quotient_51 hqt hrt hbt) (nx_B_quotient_52 hqt hrt hbt)).trans e61
    have e95 : w71 (r + 2) = zar E 15 g := (hg85 (r + 2) (nx_B_quotient_21 hqt hrt hbt) (nx_B_quotient_53 hqt hrt hbt) (nx_B_quotient_54 hqt hrt hbt) (nx_B_quotient_55 hqt hrt hbt)).trans e62
    have hf96 : ∀ k, k ≠ (b + 1) → k ≠ (b + 2) → k ≠ t → k ≠ (t + 1) → k ≠ (t + 2) → w71 k = w0 k := fun k g0 g1 g2 g3 g4 => (hg85 k g1 g2 g3 g4).trans (hf66 k g0 g1)
    rw [p31, p22.1, hy] at p64
    rw [hQ]
    exact z_iret hx hb hr hlk hH72 (⟨⟨v1, u_74, k_75, p_76, n_77, f_78, e87, e79, e80, e81, e82, bd29, bd83, bd84, p64⟩, (fun k g0 g1 g2 g3 g4 => hf96 k g0 g1 g2 g3 g4)⟩) d_B_quotient_67
  refine lv_aload_n hx hb d_B_quotient_41 rfl (lv_at hl 1 rfl) ?_
  refine zv_get (C := "ScaledNumeralDesk$Numeral") (T := TN) (N := 3) hx hb hg uN_in hown hK hH48 q5lt e57 rfl 2 (by decide) (hg _ wm_65) (fun _ h9 => h9) rfl d_B_quotient_42 ?_
  refine zv_get (C := "ScaledNumeralDesk$Amount") (T := TA) (N := 2) hx hb hg uA_in hown hK hH48 q6lt e58 rfl 1 (by decide) (hg _ wm_47) (fun _ h9 => h9) rfl d_B_quotient_45 ?_
  refine lv_aload_n hx hb d_B_quotient_48 rfl (lv_at hl 2 rfl) ?_
  refine zv_get (C := "ScaledNumeralDesk$Numeral") (T := TN) (N := 3) hx hb hg uN_in hown hK hH48 q8lt e60 rfl 2 (by decide) (hg _ wm_65) (fun _ h9 => h9) rfl d_B_quotient_49 ?_
  refine zv_get (C := "ScaledNumeralDesk$Amount") (T := TA) (N := 2) hx hb hg uA_in hown hK hH48 q9lt e61 rfl 1 (by decide) (hg _ wm_47) (fun _ h9 => h9) rfl d_B_quotient_52 ?_
  refine zv_icmp_eq (tgt := 62) hx hb d_B_quotient_55 rfl (by omega) (by omega) (fun h97 => ?_) (fun h97 => ?_)
  · refine zv_iconst hx hb d_B_quotient_62 ?_
    exact L63 0 _ H45 lc46 (lv_sub hl [0, 1, 2, 3] rfl) hH48 (by first | exact (dif_e (by omega)).symm | exact (dif_n (by omega)).symm) (by omega)
  · refine zv_iconst hx hb d_B_quotient_58 ?_
    refine lv_goto (tgt := 63) hx hb d_B_quotient_59 rfl ?_
    exact L63 1 _ H45 lc46 (lv_sub hl [0, 1, 2, 3] rfl) hH48 (by first | exact (dif_e (by omega)).symm | exact (dif_n (by omega)).symm) (by omega)
theorem nx_B_remainder_0 {b q r t : Nat} (hqt : t + 2 < q) (hrt : t + 2 < r) (hbt : b + 4 < t) : b ≠ b + 1 := by omega
theorem nx_B_remainder_1 {b q r t : Nat} (hqt : t + 2 < q) (hrt : t + 2 < r) (hbt : b + 4 < t) : b + 2 ≠ b + 1 := by omega
theorem nx_B_remainder_2 {b q r t : Nat} (hqt : t + 2 < q) (hrt : t + 2 < r) (hbt : b + 4 < t) : b + 3 ≠ b + 1 := by omega
theorem nx_B_remainder_3 {b q r t : Nat} (hqt : t + 2 < q) (hrt : t + 2 < r) (hbt : b + 4 < t) : b + 4 ≠ b + 1 := by omega
theorem nx_B_remainder_4 {b q r t : Nat} (hqt : t + 2 < q) (hrt : t + 2 < r) (hbt : b + 4 < t) : q ≠ b + 1 := by omega
theorem nx_B_remainder_5 {b q r t : Nat} (hqt : t + 2 < q) (hrt : t + 2 < r) (hbt : b + 4 < t) : q + 1 ≠ b + 1 := by omega
theorem nx_B_remainder_6 {b q r t : Nat} (hqt : t + 2 < q) (hrt : t + 2 < r) (hbt : b + 4 < t) : q + 2 ≠ b + 1 := by omega
theorem nx_B_remainder_7 {b q r t : Nat} (hqt : t + 2 < q) (hrt : t + 2 < r) (hbt : b + 4 < t) : r ≠ b + 1 := by omega
theorem nx_B_remainder_8 {b q r t : Nat} (hqt : t + 2 < q) (hrt : t + 2 < r) (hbt : b + 4 < t) : r + 1 ≠ b + 1 := by omega
theorem nx_B_remainder_9 {b q r t : Nat} (hqt : t + 2 < q) (hrt : t + 2 < r) (hbt : b + 4 < t) : r + 2 ≠ b + 1 := by omega
theorem nx_B_remainder_10 {b q r t : Nat} (hqt : t + 2 < q) (hrt : t + 2 < r) (hbt : b + 4 < t) : t ≠ b + 1 := by omega
theorem nx_B_remainder_11 {b q r t : Nat} (hqt : t + 2 < q) (hrt : t + 2 < r) (hbt : b + 4 < t) : t + 1 ≠ b + 1 := by omega
theorem nx_B_remainder_12 {b q r t : Nat} (hqt : t + 2 < q) (hrt : t + 2 < r) (hbt : b + 4 < t) : t + 2 ≠ b + 1 := by omega
theorem nx_B_remainder_13 {b q r t : Nat} (hqt : t + 2 < q) (hrt : t + 2 < r) (hbt : b + 4 < t) : b ≠ b + 2 := by omega
theorem nx_B_remainder_14 {b q r t : Nat} (hqt : t + 2 < q) (hrt : t + 2 < r) (hbt : b + 4 < t) : b + 3 ≠ b + 2 := by omega
theorem nx_B_remainder_15 {b q r t : Nat} (hqt : t + 2 < q) (hrt : t + 2 < r) (hbt : b + 4 < t) : b + 4 ≠ b + 2 := by omega
theorem nx_B_remainder_16 {b q r t : Nat} (hqt : t + 2 < q) (hrt : t + 2 < r) (hbt : b + 4 < t) : q ≠ b + 2 := by omega
theorem nx_B_remainder_17 {b q r t : Nat} (hqt : t + 2 < q) (hrt : t + 2 < r) (hbt : b + 4 < t) : q + 1 ≠ b + 2 := by omega
theorem nx_B_remainder_18 {b q r t : Nat} (hqt : t + 2 < q) (hrt : t + 2 < r) (hbt : b + 4 < t) : q + 2 ≠ b + 2 := by omega
theorem nx_B_remainder_19 {b q r t : Nat} (hqt : t + 2 < q) (hrt : t + 2 < r) (hbt : b + 4 < t) : r ≠ b + 2 := by omega
theorem nx_B_remainder_20 {b q r t : Nat} (hqt : t + 2 < q) (hrt : t + 2 < r) (hbt : b + 4 < t) : r + 1 ≠ b + 2 := by omega
theorem nx_B_remainder_21 {b q r t : Nat} (hqt : t + 2 < q) (hrt : t + 2 < r) (hbt : b + 4 < t) : r + 2 ≠ b + 2 := by omega
theorem nx_B_remainder_22 {b q r t : Nat} (hqt : t + 2 < q) (hrt : t + 2 < r) (hbt : b + 4 < t) : t ≠ b + 2 := by omega
theorem nx_B_remainder_23 {b q r t : Nat} (hqt : t + 2 < q) (hrt : t + 2 < r) (hbt : b + 4 < t) : t + 1 ≠ b + 2 := by omega
theorem nx_B_remainder_24 {b q r t : Nat} (hqt : t + 2 < q) (hrt : t + 2 < r) (hbt : b + 4 < t) : t + 2 ≠ b + 2 := by omega
theorem nx_B_remainder_25 {b q r t : Nat} (hqt : t + 2 < q) (hrt : t + 2 < r) (hbt : b + 4 < t) : b ≠ t := by omega
theorem nx_B_remainder_26 {b q r t : Nat} (hqt : t + 2 < q) (hrt : t + 2 < r) (hbt : b + 4 < t) : b ≠ t + 1 := by omega
theorem nx_B_remainder_27 {b q r t : Nat} (hqt : t + 2 < q) (hrt : t + 2 < r) (hbt : b + 4 < t) : b ≠ t + 2 := by omega
theorem nx_B_remainder_28 {b q r t : Nat} (hqt : t + 2 < q) (hrt : t + 2 < r) (hbt : b + 4 < t) : b + 2 ≠ t := by omega
theorem nx_B_remainder_29 {b q r t : Nat} (hqt : t + 2 < q) (hrt : t + 2 < r) (hbt : b + 4 < t) : b + 2 ≠ t + 1 := by omega
theorem nx_B_remainder_30 {b q r t : Nat} (hqt : t + 2 < q) (hrt : t + 2 < r) (hbt : b + 4 < t) : b + 2 ≠ t + 2 := by omega
theorem nx_B_remainder_31 {b q r t : Nat} (hqt : t + 2 < q) (hrt : t + 2 < r) (hbt : b + 4 < t) : b + 3 ≠ t := by omega
theorem nx_B_remainder_32 {b q r t : Nat} (hqt : t + 2 < q) (hrt : t + 2 < r) (hbt : b + 4 < t) : b + 3 ≠ t + 1 := by omega
theorem nx_B_remainder_33 {b q r t : Nat} (hqt : t + 2 < q) (hrt : t + 2 < r) (hbt : b + 4 < t) : b + 3 ≠ t + 2 := by omega
theorem nx_B_remainder_34 {b q r t : Nat} (hqt : t + 2 < q) (hrt : t + 2 < r) (hbt : b + 4 < t) : b + 4 ≠ t := by omega
theorem nx_B_remainder_35 {b q r t : Nat} (hqt : t + 2 < q) (hrt : t + 2 < r) (hbt : b + 4 < t) : b + 4 ≠ t + 1 := by omega
theorem nx_B_remainder_36 {b q r t : Nat} (hqt : t + 2 < q) (hrt : t + 2 < r) (hbt : b + 4 < t) : b + 4 ≠ t + 2 := by omega
theorem nx_B_remainder_37 {b q r t : Nat} (hqt : t + 2 < q) (hrt : t + 2 < r) (hbt : b + 4 < t) : q ≠ t := by omega
theorem nx_B_remainder_38 {b q r t : Nat} (hqt : t + 2 < q) (hrt : t + 2 < r) (hbt : b + 4 < t) : q ≠ t + 1 := by omega
theorem nx_B_remainder_39 {b q r t : Nat} (hqt : t + 2 < q) (hrt : t + 2 < r) (hbt : b + 4 < t) : q ≠ t + 2 := by omega
theorem nx_B_remainder_40 {b q r t : Nat} (hqt : t + 2 < q) (hrt : t + 2 < r) (hbt : b + 4 < t) : q + 1 ≠ t := by omega
theorem nx_B_remainder_41 {b q r t : Nat} (hqt : t + 2 < q) (hrt : t + 2 < r) (hbt : b + 4 < t) : q + 1 ≠ t + 1 := by omega
theorem nx_B_remainder_42 {b q r t : Nat} (hqt : t + 2 < q) (hrt : t + 2 < r) (hbt : b + 4 < t) : q + 1 ≠ t + 2 := by omega
theorem nx_B_remainder_43 {b q r t : Nat} (hqt : t + 2 < q) (hrt : t + 2 < r) (hbt : b + 4 < t) : q + 2 ≠ t := by omega
theorem nx_B_remainder_44 {b q r t : Nat} (hqt : t + 2 < q) (hrt : t + 2 < r) (hbt : b + 4 < t) : q + 2 ≠ t + 1 := by omega
theorem nx_B_remainder_45 {b q r t : Nat} (hqt : t + 2 < q) (hrt : t + 2 < r) (hbt : b + 4 < t) : q + 2 ≠ t + 2 := by omega
theorem nx_B_remainder_46 {b q r t : Nat} (hqt : t + 2 < q) (hrt : t + 2 < r) (hbt : b + 4 < t) : r ≠ t := by omega
theorem nx_B_remainder_47 {b q r t : Nat} (hqt : t + 2 < q) (hrt : t + 2 < r) (hbt : b + 4 < t) : r ≠ t + 1 := by omega
theorem nx_B_remainder_48 {b q r t : Nat} (hqt : t + 2 < q) (hrt : t + 2 < r) (hbt : b + 4 < t) : r ≠ t + 2 := by omega
theorem nx_B_remainder_49 {b q r t : Nat} (hqt : t + 2 < q) (hrt : t + 2 < r) (hbt : b + 4 < t) : r + 1 ≠ t := by omega
theorem nx_B_remainder_50 {b q r t : Nat} (hqt : t + 2 < q) (hrt : t + 2 < r) (hbt : b + 4 < t) : r + 1 ≠ t + 1 := by omega
theorem nx_B_remainder_51 {b q r t : Nat} (hqt : t + 2 < q) (hrt : t + 2 < r) (hbt : b + 4 < t) : r + 1 ≠ t + 2 := by omega
theorem nx_B_remainder_52 {b q r t : Nat} (hqt : t + 2 < q) (hrt : t + 2 < r) (hbt : b + 4 < t) : r + 2 ≠ t := by omega
theorem nx_B_remainder_53 {b q r t : Nat} (hqt : t + 2 < q) (hrt : t + 2 < r) (hbt : b + 4 < t) : r + 2 ≠ t + 1 := by omega
theorem nx_B_remainder_54 {b q r t : Nat} (hqt : t + 2 < q) (hrt : t + 2 < r) (hbt : b + 4 < t) : r + 2 ≠ t + 2 := by omega
def rm_B_remainder : Room := { frames := 4, cells := 0, slots := 0, locals := 91 }
set_option maxHeartbeats 4000000 in
set_option maxRecDepth 100000 in
theorem c_B_remainder (l : Launch) (E : zE) (w0 : zW) (b : Nat) (r1 r2 r3 r4 : Int → Int) (q : Nat) (kd : Nat) (pl ng : Int) (f : Int → Int) (r : Nat) (ko : Nat) (po no : Int) (g : Int → Int) (t : Nat) (kt : Nat) (pt nt : Int) (h : Int → Int) (q0lt : b < zn E) (q1lt : b + 1 < zn E) (q2lt : b + 2 < zn E) (q3lt : b + 3 < zn E) (q4lt : b + 4 < zn E) (q5lt : q < zn E) (q6lt : q + 1 < zn E) (q7lt : q + 2 < zn E) (q8lt : r < zn E) (q9lt : r + 1 < zn E) (q10lt : r + 2 < zn E) (q11lt : t < zn E) (q12lt : t + 1 < zn E) (q13lt : t + 2 < zn E) (c0 : w0 b = .inr (4, [.ref (ad E (b + 1)), .ref (ad E (b + 2)), .ref (ad E (b + 3)), .ref (ad E (b + 4))])) (c1 : w0 (b + 1) = zar E 30 r1) (c2 : w0 (b + 2) = zar E 30 r2) (c3 : w0 (b + 3) = zar E 30 r3) (c4 : w0 (b + 4) = zar E 30 r4) (c5 : w0 q = .inr (1, [.ref (zg E (1 + kd)), .int (iI pl), .ref (ad E (q + 1))])) (c6 : w0 (q + 1) = .inr (0, [.ref (ad E (q + 2)), .int (iI ng)])) (c7 : w0 (q + 2) = zar E 15 f) (c8 : w0 r = .inr (1, [.ref (zg E (1 + ko)), .int (iI po), .ref (ad E (r + 1))])) (c9 : w0 (r + 1) = .inr (0, [.ref (ad E (r + 2)), .int (iI no)])) (c10 : w0 (r + 2) = zar E 15 g) (c11 : w0 t = .inr (1, [.ref (zg E (1 + kt)), .int (iI pt), .ref (ad E (t + 1))])) (c12 : w0 (t + 1) = .inr (0, [.ref (ad E (t + 2)), .int (iI nt)])) (c13 : w0 (t + 2) = zar E 15 h) (br1 : bd r1 30 0 9999) (br2 : bd r2 30 0 9999) (br3 : bd r3 30 0 9999) (br4 : bd r4 30 0 9999) (bf : bd f 15 0 9999) (hkd : kd < 4) (hng : ng = 0 ∨ ng = 1) (hpl : 0 ≤ pl ∧ pl ≤ 24) (vA : V f 15 < Bp 14) (bg : bd g 15 0 9999) (hko : ko < 4) (hno : no = 0 ∨ no = 1) (hpo : 0 ≤ po ∧ po ≤ 24) (vB : V g 15 < Bp 14) (bh : bd h 15 0 9999) (hkt : kt < 4) (hnt : nt = 0 ∨ nt = 1) (hqt : t + 2 < q) (hrt : t + 2 < r) (hbt : b + 4 < t) (hD : 0 < V g 15) : zM l y_B_remainder ws_B_remainder rm_B_remainder E [.ref (ad E b), .ref (ad E q), .ref (ad E r), .ref (ad E t)] w0 (zQi E w0 (fun z w' => (∃ (r1' : Int → Int) (r2' : Int → Int) (k' : Nat) (p' : Int) (n' : Int) (f' : Int → Int), w' (b + 1) = zar E 30 r1' ∧ w' (b + 2) = zar E 30 r2' ∧ w' t = .inr (1, [.ref (zg E (1 + k')), .int (iI p'), .ref (ad E (t + 1))]) ∧ w' (t + 1) = .inr (0, [.ref (ad E (t + 2)), .int (iI n')]) ∧ w' (t + 2) = zar E 15 f' ∧ bd r1' 30 0 9999 ∧ bd r2' 30 0 9999 ∧ bd f' 15 0 9999 ∧ (k' < 4 ∧ (n' = 0 ∨ n' = 1) ∧ St z k' p' n' (V f' 15) (Rn (V f 15 % V g 15) (6 * 4 - max pl po)) 6 (max pl po) ng)) ∧ ∀ k, k ≠ (b + 1) → k ≠ (b + 2) → k ≠ t → k ≠ (t + 1) → k ≠ (t + 2) → w' k = w0 k)) := by
  refine z_met (cc := b_B_remainder) (maxL := 4) (ret := (some .int)) (by decide +kernel) rfl (Nat.le_of_ble_eq_true rfl) ?_
  intro p e s m below meth cd ls a Qf hQ hC hl hH
  obtain ⟨hF, hr, hlk, hK, hG, hn⟩ := hC
  obtain ⟨hx, hb, hml, hown, hts⟩ := hF
  have hg : ∀ w ∈ GW, w.before a s = true := fun w h => hts w (List.mem_cons_of_mem _ h)
  have hA : ∀ q, s.heap.size ≤ q → va_A (wl E w0) s.heap.size q := fun q h => Or.inr h
  have hl : lv_has ls 4 [(0, .ref (ad E b)), (1, .ref (ad E q)), (2, .ref (ad E r)), (3, .ref (ad E t))] := hl
  have vf := V_in bf (show (0 : Int) ≤ 15 by decide) (Int.le_refl 15)
  have vg := V_in bg (show (0 : Int) ≤ 15 by decide) (Int.le_refl 15)
  refine lv_aload_n hx hb d_B_remainder_0 rfl (lv_at hl 0 rfl) ?_
  refine lv_aload_n hx hb d_B_remainder_1 rfl (lv_at hl 1 rfl) ?_
  refine zv_iconst hx hb d_B_remainder_2 ?_
  refine z_callv (va_runV (As := [.ref (ad E q), .int (iI 0)]) (rest := []) ⟨hx, hb, hml, hown, hts⟩ (c_B_load (l := l) (E := E) (w0 := w0) (b := b) (r1 := r1) (r2 := r2) (r3 := r3) (r4 := r4) (q := q) (kd := kd) (pl := pl) (ng := ng) (f := f) (x := 0) (q0lt := q0lt) (q1lt := q1lt) (q2lt := q2lt) (q3lt := q3lt) (q4lt := q4lt) (q5lt := q5lt) (q6lt := q6lt) (q7lt := q7lt) (c0 := c0) (c1 := c1) (c2 := c2) (c3 := c3) (c4 := c4) (c5 := c5) (c6 := c6) (c7 := c7) (br1 := br1) (br2 := br2) (br3 := br3) (br4 := br4) (bf := bf) (hkd := by omega) (hng := by omega) (hbq := by omega) (hx0 := by omega) s.heap.size) (z_cwV (C := "ScaledNumeralDesk$Bench") 2 hg wm_465 wm_462 wm_8 wm_464 wm_s16 (by decide +kernel) ⟨Nat.le_of_ble_eq_true rfl, Nat.le_of_ble_eq_true rfl⟩) (z_preV (r := ("ScaledNumeralDesk$Bench", TB, 4)) hK hG hn hH hA q0lt c0 rfl) rfl rfl hl.1 rfl (lv_room (Nat.le_of_ble_eq_true rfl)) d_B_remainder_3 ⟨Nat.zero_le _, Nat.zero_le _⟩) hH hA (fun  w3 H1 lc2 hH4 p3 => ?_)
  obtain ⟨⟨r_5, e6, bd7, p3⟩, hg8⟩ := p3
  replace bd7 : bd r_5 30 0 9999 := bd7
  replace p3 : V r_5 30 = V f 15 * Bp (0 : Int) := p3
  have e9 : w3 b = .inr (4, [.ref (ad E (b + 1)), .ref (ad E (b + 2)), .ref (ad E (b + 3)), .ref (ad E (b + 4))]) := (hg8 b (nx_B_remainder_0 hqt hrt hbt)).trans c0
  have e10 : w3 (b + 2) = zar E 30 r2 := (hg8 (b + 2) (nx_B_remainder_1 hqt hrt hbt)).trans c2
  have e11 : w3 (b + 3) = zar E 30 r3 := (hg8 (b + 3) (nx_B_remainder_2 hqt hrt hbt)).trans c3
  have e12 : w3 (b + 4) = zar E 30 r4 := (hg8 (b + 4) (nx_B_remainder_3 hqt hrt hbt)).trans c4
  have e13 : w3 q = .inr (1, [.ref (zg E (1 + kd)), .int (iI pl), .ref (ad E (q + 1))]) := (hg8 q (nx_B_remainder_4 hqt hrt hbt)).trans c5
  have e14 : w3 (q + 1) = .inr (0, [.ref (ad E (q + 2)), .int (iI ng)]) := (hg8 (q + 1) (nx_B_remainder_5 hqt hrt hbt)).trans c6
  have e15 : w3 (q + 2) = zar E 15 f := (hg8 (q + 2) (nx_B_remainder_6 hqt hrt hbt)).trans c7
  have e16 : w3 r = .inr (1, [.ref (zg E (1 + ko)), .int (iI po), .ref (ad E (r + 1))]) := (hg8 r (nx_B_remainder_7 hqt hrt hbt)).trans c8
  have e17 : w3 (r + 1) = .inr (0, [.ref (ad E (r + 2)), .int (iI no)]) := (hg8 (r + 1) (nx_B_remainder_8 hqt hrt hbt)).trans c9
  have e18 : w3 (r + 2) = zar E 15 g := (hg8 (r + 2) (nx_B_remainder_9 hqt hrt hbt)).trans c10
  have e19 : w3 t = .inr (1, [.ref (zg E (1 + kt)), .int (iI pt), .ref (ad E (t + 1))]) := (hg8 t (nx_B_remainder_10 hqt hrt hbt)).trans c11
  have e20 : w3 (t + 1) = .inr (0, [.ref (ad E (t + 2)), .int (iI nt)]) := (hg8 (t + 1) (nx_B_remainder_11 hqt hrt hbt)).trans c12
  have e21 : w3 (t + 2) = zar E 15 h := (hg8 (t + 2) (nx_B_remainder_12 hqt hrt hbt)).trans c13
  have hf22 : ∀ k, k ≠ (b + 1) → w3 k = w0 k := fun k g0 => hg8 k g0
  refine lv_aload_n hx hb d_B_remainder_6 rfl (lv_at hl 0 rfl) ?_
  refine zv_get (C := "ScaledNumeralDesk$Bench") (T := TB) (N := 4) hx hb hg uB_in hown hK hH4 q0lt e9 rfl 0 (by decide) (hg _ wm_115) (fun _ h9 => h9) rfl d_B_remainder_7 ?_
  refine lv_aload_n hx hb d_B_remainder_10 rfl (lv_at hl 0 rfl) ?_
  refine zv_get (C := "ScaledNumeralDesk$Bench") (T := TB) (N := 4) hx hb hg uB_in hown hK hH4 q0lt e9 rfl 1 (by decide) (hg _ wm_116) (fun _ h9 => h9) rfl d_B_remainder_11 ?_
  refine lv_aload_n hx hb d_B_remainder_14 rfl (lv_at hl 2 rfl) ?_
  refine zv_get (C := "ScaledNumeralDesk$Numeral") (T := TN) (N := 3) hx hb hg uN_in hown hK hH4 q8lt e16 rfl 2 (by decide) (hg _ wm_65) (fun _ h9 => h9) rfl d_B_remainder_15 ?_
  refine zv_get (C := "ScaledNumeralDesk$Amount") (T := TA) (N := 2) hx hb hg uA_in hown hK hH4 q9lt e17 rfl 0 (by decide) (hg _ wm_44) (fun _ h9 => h9) rfl d_B_remainder_18 ?_
  refine z_callv (va_runS (As := [.ref (ad E (b + 1)), .ref (ad E (b + 2)), .ref (ad E (r + 2))]) (rest := []) ⟨hx, hb, hml, hown, hts⟩ (c_rowDivide (l := l) (E := E) (w0 := w3) (q := b + 1) (r := b + 2) (t := r + 2) (N := 30) (K := 15) (f := r_5) (k0 := r2) (g := g) (q0lt := q1lt) (q1lt := q2lt) (q2lt := q10lt) (c0 := e6) (c1 := e10) (c2 := e18) (hN := by omega) (hK0 := by omega) (bf := bd7) (bg := bg) (hqr := by omega) (hD := (show V g 15 ≠ 0 by omega)) H1.size) (z_cwS 3 hg wm_469 wm_467 wm_16 wm_468 (by decide +kernel) ⟨Nat.le_of_ble_eq_true rfl, Nat.le_of_ble_eq_true rfl⟩) (z_preS hK hG hn hH4 hA) rfl rfl hl.1 rfl (lv_room (Nat.le_of_ble_eq_true rfl)) d_B_remainder_21 ⟨Nat.zero_le _, Nat.zero_le _⟩) hH4 hA (fun  w25 H23 lc24 hH26 p21 => ?_)
  obtain ⟨⟨v1, v2, e27, e28, bd29, bd30, p21⟩, hg31⟩ := p21
  replace bd29 : bd v1 30 0 9999 := bd29
  replace bd30 : bd v2 30 0 9999 := bd30
  replace p21 : V v2 30 = V r_5 30 / V g 15 ∧ V v1 30 = V r_5 30 % V g 15 := p21
  have e32 : w25 b = .inr (4, [.ref (ad E (b + 1)), .ref (ad E (b + 2)), .ref (ad E (b + 3)), .ref (ad E (b + 4))]) := (hg31 b (nx_B_remainder_0 hqt hrt hbt) (nx_B_remainder_13 hqt hrt hbt)).trans e9
  have e33 : w25 (b + 3) = zar E 30 r3 := (hg31 (b + 3) (nx_B_remainder_2 hqt hrt hbt) (nx_B_remainder_14 hqt hrt hbt)).trans e11
  have e34 : w25 (b + 4) = zar E 30 r4 := (hg31 (b + 4) (nx_B_remainder_3 hqt hrt hbt) (nx_B_remainder_15 hqt hrt hbt)).trans e12
  have e35 : w25 q = .inr (1, [.ref (zg E (1 + kd)), .int (iI pl), .ref (ad E (q + 1))]) := (hg31 q (nx_B_remainder_4 hqt hrt hbt) (nx_B_remainder_16 hqt hrt hbt)).trans e13
  have e36 : w25 (q + 1) = .inr (0, [.ref (ad E (q + 2)), .int (iI ng)]) := (hg31 (q + 1) (nx_B_remainder_5 hqt hrt hbt) (nx_B_remainder_17 hqt hrt hbt)).trans e14
  have e37 : w25 (q + 2) = zar E 15 f := (hg31 (q + 2) (nx_B_remainder_6 hqt hrt hbt) (nx_B_remainder_18 hqt hrt hbt)).trans e15
  have e38 : w25 r = .inr (1, [.ref (zg E (1 + ko)), .int (iI po), .ref (ad E (r + 1))]) := (hg31 r (nx_B_remainder_7 hqt hrt hbt) (nx_B_remainder_19 hqt hrt hbt)).trans e16
  have e39 : w25 (r + 1) = .inr (0, [.ref (ad E (r + 2)), .int (iI no)]) := (hg31 (r + 1) (nx_B_remainder_8 hqt hrt hbt) (nx_B_remainder_20 hqt hrt hbt)).trans e17
  have e40 : w25 (r + 2) = zar E 15 g := (hg31 (r + 2) (nx_B_remainder_9 hqt hrt hbt) (nx_B_remainder_21 hqt hrt hbt)).trans e18
  have e41 : w25 t = .inr (1, [.ref (zg E (1 + kt)), .int (iI pt), .ref (ad E (t + 1))]) := (hg31 t (nx_B_remainder_10 hqt hrt hbt) (nx_B_remainder_22 hqt hrt hbt)).trans e19
  have e42 : w25 (t + 1) = .inr (0, [.ref (ad E (t + 2)), .int (iI nt)]) := (hg31 (t + 1) (nx_B_remainder_11 hqt hrt hbt) (nx_B_remainder_23 hqt hrt hbt)).trans e20
  have e43 : w25 (t + 2) = zar E 15 h := (hg31 (t + 2) (nx_B_remainder_12 hqt hrt hbt) (nx_B_remainder_24 hqt hrt hbt)).trans e21
  have hf44 : ∀ k, k ≠ (b + 1) → k ≠ (b + 2) → w25 k = w0 k := fun k g0 g1 => (hg31 k g0 g1).trans (hf22 k g0)
  rw [p3, Bp_0, Int.mul_one] at p21
  have m9 := r_lt vf.1 vA hD
  refine lv_aload_n hx hb d_B_remainder_24 rfl (lv_at hl 0 rfl) ?_
  refine zv_get (C := "ScaledNumeralDesk$Bench") (T := TB) (N := 4) hx hb hg uB_in hown hK hH26 q0lt e32 rfl 0 (by decide) (hg _ wm_115) (fun _ h9 => h9) rfl d_B_remainder_25 ?_
  refine zv_bipush hx hb d_B_remainder_28 rfl ?_
  refine lv_aload_n hx hb d_B_remainder_30 rfl (lv_at hl 1 rfl) ?_
  refine zv_get (C := "ScaledNumeralDesk$Numeral") (T := TN) (N := 3) hx hb hg uN_in hown hK hH26 q5lt e35 rfl 1 (by decide) (hg _ wm_60) (fun _ h9 => h9) rfl d_B_remainder_31 ?_
  refine lv_aload_n hx hb d_B_remainder_34 rfl (lv_at hl 2 rfl) ?_
  refine zv_get (C := "ScaledNumeralDesk$Numeral") (T := TN) (N := 3) hx hb hg uN_in hown hK hH26 q8lt e38 rfl 1 (by decide) (hg _ wm_60) (fun _ h9 => h9) rfl d_B_remainder_35 ?_
  refine z_calli (va_runS (As := [.int (iI pl), .int (iI po)]) (rest := [.int (iI 6), .ref (ad E (b + 1))]) ⟨hx, hb, hml, hown, hts⟩ (c_max (l := l) (E := E) (w0 := w25) (x := pl) (y := po) (zx := by omega) (zy := by omega) H23.size) (z_cwS 2 hg wm_275 wm_400 wm_15 wm_274 (by decide +kernel) ⟨Nat.le_of_ble_eq_true rfl, Nat.le_of_ble_eq_true rfl⟩) (z_preS hK hG hn hH26 hA) rfl rfl hl.1 rfl (lv_room (Nat.le_of_ble_eq_true rfl)) d_B_remainder_38 ⟨Nat.zero_le _, Nat.zero_le _⟩) hH26 hA (fun pm w47 H45 lc46 hH48 p38 => ?_)
  obtain ⟨ew49, p38⟩ := p38
  rw [ew49] at hH48
  replace p38 : pm = max pl po := p38
  refine lv_aload_n hx hb d_B_remainder_41 rfl (lv_at hl 1 rfl) ?_
  refine zv_get (C := "ScaledNumeralDesk$Numeral") (T := TN) (N := 3) hx hb hg uN_in hown hK hH48 q5lt e35 rfl 2 (by decide) (hg _ wm_65) (fun _ h9 => h9) rfl d_B_remainder_42 ?_
  refine zv_get (C := "ScaledNumeralDesk$Amount") (T := TA) (N := 2) hx hb hg uA_in hown hK hH48 q6lt e36 rfl 1 (by decide) (hg _ wm_47) (fun _ h9 => h9) rfl d_B_remainder_45 ?_
  refine lv_aload_n hx hb d_B_remainder_48 rfl (lv_at hl 3 rfl) ?_
  refine z_calli (va_runS (As := [.ref (ad E (b + 1)), .int (iI 6), .int (iI pm), .int (iI ng), .ref (ad E t)]) (rest := []) ⟨hx, hb, hml, hown, hts⟩ (c_B_settle (l := l) (E := E) (w0 := w25) (y := b + 1) (u := v1) (x := 6) (ps := pm) (mn := ng) (t := t) (kt := kt) (pt := pt) (nt := nt) (h := h) (q0lt := q1lt) (q1lt := q11lt) (q2lt := q12lt) (q3lt := q13lt) (c0 := e27) (c1 := e41) (c2 := e42) (c3 := e43) (bu := bd29) (bh := bh) (hkt := by omega) (hnt := by omega) (hyt := by omega) (hx0 := by omega) (hps := by omega) (hmn := by omega) (hu := (by rw [p21.2]; exact m9.2)) H45.size) (z_cwS 5 hg wm_432 wm_430 wm_8 wm_431 (by decide +kernel) ⟨Nat.le_of_ble_eq_true rfl, Nat.le_of_ble_eq_true rfl⟩) (z_preS hK hG hn hH48 hA) rfl rfl hl.1 rfl (lv_room (Nat.le_of_ble_eq_true rfl)) d_B_remainder_49 ⟨Nat.zero_le _, Nat.zero_le _⟩) hH48 hA (fun z54 w52 H50 lc51 hH53 p49 => ?_)
  obtain ⟨⟨u_55, k_56, p_57, n_58, f_59, e60, e61, e62, e63, bd64, bd65, p49⟩, hg66⟩ := p49
  replace bd64 : bd u_55 30 0 9999 := bd64
  replace bd65 : bd f_59 15 0 9999 := bd65
  replace p49 : k_56 < 4 ∧ (n_58 = 0 ∨ n_58 = 1) ∧ St z54 k_56 p_57 n_58 (V f_59 15) (Rn (V v1 30) ((6 : Int) * 4 - pm)) (6 : Int) pm ng := p49
  have e67 : w52 b = .inr (4, [.ref (ad E (b + 1)), .ref (ad E (b + 2)), .ref (ad E (b + 3)), .ref (ad E (b + 4))]) := (hg66 b (nx_B_remainder_0 hqt hrt hbt) (nx_B_remainder_25 hqt hrt hbt) (nx_B_remainder_26 hqt hrt hbt) (nx_B_remainder_27 hqt hrt hbt)).trans e32
  have e68 : w52 (b + 2) = zar E 30 v2 := (hg66 (b + 2) (nx_B_remainder_1 hqt hrt hbt) (nx_B_remainder_28 hqt hrt hbt) (nx_B_remainder_29 hqt hrt hbt) (nx_B_remainder_30 hqt hrt hbt)).trans e28
  have e69 : w52 (b + 3) = zar E 30 r3 := (hg66 (b + 3) (nx_B_remainder_2 hqt hrt hbt) (nx_B_remainder_31 hqt hrt hbt) (nx_B_remainder_32 hqt hrt hbt) (nx_B_remainder_33 hqt hrt hbt)).trans e33
  have e70 : w52 (b + 4) = zar E 30 r4 := (hg66 (b + 4) (nx_B_remainder_3 hqt hrt hbt) (nx_B_remainder_34 hqt hrt hbt) (nx_B_remainder_35 hqt hrt hbt) (nx_B_remainder_36 hqt hrt hbt)).trans e34
  have e71 : w52 q = .inr (1, [.ref (zg E (1 + kd)), .int (iI pl), .ref (ad E (q + 1))]) := (hg66 q (nx_B_remainder_4 hqt hrt hbt) (nx_B_remainder_37 hqt hrt hbt) (nx_B_remainder_38 hqt hrt hbt) (nx_B_remainder_39 hqt hrt hbt)).trans e35
  have e72 : w52 (q + 1) = .inr (0, [.ref (ad E (q + 2)), .int (iI ng)]) := (hg66 (q + 1) (nx_B_remainder_5 hqt hrt hbt) (nx_B_remainder_40 hqt hrt hbt) (nx_B_remainder_41 hqt hrt hbt) (nx_B_remainder_42 hqt hrt hbt)).trans e36
  have e73 : w52 (q + 2) = zar E 15 f := (hg66 (q + 2) (nx_B_remainder_6 hqt hrt hbt) (nx_B_remainder_43 hqt hrt hbt) (nx_B_remainder_44 hqt hrt hbt) (nx_B_remainder_45 hqt hrt hbt)).trans e37
  have e74 : w52 r = .inr (1, [.ref (zg E (1 + ko)), .int (iI po), .ref (ad E (r + 1))]) := (hg66 r (nx_B_remainder_7 hqt hrt hbt) (nx_B_remainder_46 hqt hrt hbt) (nx_B_remainder_47 hqt hrt hbt) (nx_B_remainder_48 hqt hrt hbt)).trans e38
  have e75 : w52 (r + 1) = .inr (0, [.ref (ad E (r + 2)), .int (iI no)]) := (hg66 (r + 1) (nx_B_remainder_8 hqt hrt hbt) (nx_B_remainder_49 hqt hrt hbt) (nx_B_remainder_50 hqt hrt hbt) (nx_B_remainder_51 hqt hrt hbt)).trans e39
  have e76 : w52 (r + 2) = zar E 15 g := (hg66 (r + 2) (nx_B_remainder_9 hqt hrt hbt) (nx_B_remainder_52 hqt hrt hbt) (nx_B_remainder_53 hqt hrt hbt) (nx_B_remainder_54 hqt hrt hbt)).trans e40
  have hf77 : ∀ k, k ≠ (b + 1) → k ≠ (b + 2) → k ≠ t → k ≠ (t + 1) → k ≠ (t + 2) → w52 k = w0 k := fun k g0 g1 g2 g3 g4 => (hg66 k g0 g2 g3 g4).trans (hf44 k g0 g1)
  rw [p21.2, p38] at p49
  rw [hQ]
  exact z_iret hx hb hr hlk hH53 (⟨⟨u_55, v2, k_56, p_57, n_58, f_59, e60, e68, e61, e62, e63, bd64, bd30, bd65, p49⟩, (fun k g0 g1 g2 g3 g4 => hf77 k g0 g1 g2 g3 g4)⟩) d_B_remainder_52
theorem nx_B_remInf_0 {b q t : Nat} (hqt : t + 2 < q) (hbt : b + 4 < t) : b ≠ t := by omega
theorem nx_B_remInf_1 {b q t : Nat} (hqt : t + 2 < q) (hbt : b + 4 < t) : b ≠ t + 1 := by omega
theorem nx_B_remInf_2 {b q t : Nat} (hqt : t + 2 < q) (hbt : b + 4 < t) : b ≠ t + 2 := by omega
theorem nx_B_remInf_3 {b q t : Nat} (hqt : t + 2 < q) (hbt : b + 4 < t) : b + 1 ≠ t := by omega
theorem nx_B_remInf_4 {b q t : Nat} (hqt : t + 2 < q) (hbt : b + 4 < t) : b + 1 ≠ t + 1 := by omega
theorem nx_B_remInf_5 {b q t : Nat} (hqt : t + 2 < q) (hbt : b + 4 < t) : b + 1 ≠ t + 2 := by omega
theorem nx_B_remInf_6 {b q t : Nat} (hqt : t + 2 < q) (hbt : b + 4 < t) : b + 2 ≠ t := by omega
theorem nx_B_remInf_7 {b q t : Nat} (hqt : t + 2 < q) (hbt : b + 4 < t) : b + 2 ≠ t + 1 := by omega
theorem nx_B_remInf_8 {b q t : Nat} (hqt : t + 2 < q) (hbt : b + 4 < t) : b + 2 ≠ t + 2 := by omega
theorem nx_B_remInf_9 {b q t : Nat} (hqt : t + 2 < q) (hbt : b + 4 < t) : b + 3 ≠ t := by omega
theorem nx_B_remInf_10 {b q t : Nat} (hqt : t + 2 < q) (hbt : b + 4 < t) : b + 3 ≠ t + 1 := by omega
theorem nx_B_remInf_11 {b q t : Nat} (hqt : t + 2 < q) (hbt : b + 4 < t) : b + 3 ≠ t + 2 := by omega
theorem nx_B_remInf_12 {b q t : Nat} (hqt : t + 2 < q) (hbt : b + 4 < t) : b + 4 ≠ t := by omega
theorem nx_B_remInf_13 {b q t : Nat} (hqt : t + 2 < q) (hbt : b + 4 < t) : b + 4 ≠ t + 1 := by omega
theorem nx_B_remInf_14 {b q t : Nat} (hqt : t + 2 < q) (hbt : b + 4 < t) : b + 4 ≠ t + 2 := by omega
theorem nx_B_remInf_15 {b q t : Nat} (hqt : t + 2 < q) (hbt : b + 4 < t) : q ≠ t := by omega
theorem nx_B_remInf_16 {b q t : Nat} (hqt : t + 2 < q) (hbt : b + 4 < t) : q ≠ t + 1 := by omega
theorem nx_B_remInf_17 {b q t : Nat} (hqt : t + 2 < q) (hbt : b + 4 < t) : q ≠ t + 2 := by omega
theorem nx_B_remInf_18 {b q t : Nat} (hqt : t + 2 < q) (hbt : b + 4 < t) : q + 1 ≠ t := by omega
theorem nx_B_remInf_19 {b q t : Nat} (hqt : t + 2 < q) (hbt : b + 4 < t) : q + 1 ≠ t + 1 := by omega
theorem nx_B_remInf_20 {b q t : Nat} (hqt : t + 2 < q) (hbt : b + 4 < t) : q + 1 ≠ t + 2 := by omega
theorem nx_B_remInf_21 {b q t : Nat} (hqt : t + 2 < q) (hbt : b + 4 < t) : q + 2 ≠ t := by omega
theorem nx_B_remInf_22 {b q t : Nat} (hqt : t + 2 < q) (hbt : b + 4 < t) : q + 2 ≠ t + 1 := by omega
theorem nx_B_remInf_23 {b q t : Nat} (hqt : t + 2 < q) (hbt : b + 4 < t) : q + 2 ≠ t + 2 := by omega
def rm_B_remInf : Room := { frames := 3, cells := 0, slots := 0, locals := 68 }
set_option maxHeartbeats 4000000 in
set_option maxRecDepth 100000 in
theorem c_B_remInf (l : Launch) (E : zE) (w0 : zW) (b : Nat) (r1 r2 r3 r4 : Int → Int) (q : Nat) (kd : Nat) (pl ng : Int) (f : Int → Int) (t : Nat) (kt : Nat) (pt nt : Int) (h : Int → Int) (q0lt : b < zn E) (q1lt : b + 1 < zn E) (q2lt : b + 2 < zn E) (q3lt : b + 3 < zn E) (q4lt : b + 4 < zn E) (q5lt : q < zn E) (q6lt : q + 1 < zn E) (q7lt : q + 2 < zn E) (q8lt : t < zn E) (q9lt : t + 1 < zn E) (q10lt : t + 2 < zn E) (c0 : w0 b = .inr (4, [.ref (ad E (b + 1)), .ref (ad E (b + 2)), .ref (ad E (b + 3)), .ref (ad E (b + 4))])) (c1 : w0 (b + 1) = zar E 30 r1) (c2 : w0 (b + 2) = zar E 30 r2) (c3 : w0 (b + 3) = zar E 30 r3) (c4 : w0 (b + 4) = zar E 30 r4) (c5 : w0 q = .inr (1, [.ref (zg E (1 + kd)), .int (iI pl), .ref (ad E (q + 1))])) (c6 : w0 (q + 1) = .inr (0, [.ref (ad E (q + 2)), .int (iI ng)])) (c7 : w0 (q + 2) = zar E 15 f) (c8 : w0 t = .inr (1, [.ref (zg E (1 + kt)), .int (iI pt), .ref (ad E (t + 1))])) (c9 : w0 (t + 1) = .inr (0, [.ref (ad E (t + 2)), .int (iI nt)])) (c10 : w0 (t + 2) = zar E 15 h) (br1 : bd r1 30 0 9999) (br2 : bd r2 30 0 9999) (br3 : bd r3 30 0 9999) (br4 : bd r4 30 0 9999) (bf : bd f 15 0 9999) (hkd : kd < 4) (hng : ng = 0 ∨ ng = 1) (hpl : 0 ≤ pl ∧ pl ≤ 24) (vA : V f 15 < Bp 14) (bh : bd h 15 0 9999) (hkt : kt < 4) (hnt : nt = 0 ∨ nt = 1) (hqt : t + 2 < q) (hbt : b + 4 < t) : zM l y_B_remainderInfinite ws_B_remainderInfinite rm_B_remInf E [.ref (ad E b), .ref (ad E q), .ref (ad E t)] w0 (zQi E w0 (fun z w' => (∃ (k' : Nat) (p' : Int) (n' : Int) (f' : Int → Int), w' t = .inr (1, [.ref (zg E (1 + k')), .int (iI p'), .ref (ad E (t + 1))]) ∧ w' (t + 1) = .inr (0, [.ref (ad E (t + 2)), .int (iI n')]) ∧ w' (t + 2) = zar E 15 f' ∧ bd f' 15 0 9999 ∧ (z = 0 ∧ (n' = 0 ∨ n' = 1) ∧ Nf z k' p' n' (V f' 15) ∧ ((kd = 1 ∧ k' = 1 ∧ p' = pl ∧ n' = ng ∧ V f' 15 = V f 15) ∨ (kd ≠ 1 ∧ k' = 3)))) ∧ ∀ k, k ≠ t → k ≠ (t + 1) → k ≠ (t + 2) → w' k = w0 k)) := by
  refine z_met (cc := b_B_remainderInfinite) (maxL := 3) (ret := (some .int)) (by decide +kernel) rfl (Nat.le_of_ble_eq_true rfl) ?_
  intro p e s m below meth cd ls a Qf hQ hC hl hH
  obtain ⟨hF, hr, hlk, hK, hG, hn⟩ := hC
  obtain ⟨hx, hb, hml, hown, hts⟩ := hF
  have hg : ∀ w ∈ GW, w.before a s = true := fun w h => hts w (List.mem_cons_of_mem _ h)
  have hA : ∀ q, s.heap.size ≤ q → va_A (wl E w0) s.heap.size q := fun q h => Or.inr h
  have hl : lv_has ls 3 [(0, .ref (ad E b)), (1, .ref (ad E q)), (2, .ref (ad E t))] := hl
  refine lv_aload_n hx hb d_B_remainderInfinite_0 rfl (lv_at hl 1 rfl) ?_
  refine z_calli (va_runV (As := []) (rest := []) ⟨hx, hb, hml, hown, hts⟩ (c_N_isFinite (l := l) (E := E) (w0 := w0) (q := q) (kd := kd) (pl := pl) (ng := ng) (f := f) (q0lt := q5lt) (q1lt := q6lt) (q2lt := q7lt) (c0 := c5) (c1 := c6) (c2 := c7) (bf := bf) (hkd := by omega) (hng := by omega) s.heap.size) (z_cwV (C := "ScaledNumeralDesk$Numeral") 0 hg wm_344 wm_379 wm_2 wm_342 wm_343 (by decide +kernel) ⟨Nat.le_of_ble_eq_true rfl, Nat.le_of_ble_eq_true rfl⟩) (z_preV (r := ("ScaledNumeralDesk$Numeral", TN, 3)) hK hG hn hH hA q5lt c5 rfl) rfl rfl hl.1 rfl (lv_room (Nat.le_of_ble_eq_true rfl)) d_B_remainderInfinite_1 ⟨Nat.zero_le _, Nat.zero_le _⟩) hH hA (fun z6 w3 H1 lc2 hH4 hp5 => ?_)
  obtain ⟨ew7, hp5⟩ := hp5
  rw [ew7] at hH4
  replace hp5 : (z6 = 1 ∧ kd = 1) ∨ (z6 = 0 ∧ kd ≠ 1) := hp5
  refine zv_if_eq (tgt := 15) hx hb d_B_remainderInfinite_4 rfl (by omega) (fun h8 => ?_) (fun h8 => ?_)
  · refine lv_aload_n hx hb d_B_remainderInfinite_15 rfl (lv_at hl 2 rfl) ?_
    refine zv_kind hx hb hG hH4 hown 3 (by decide) (hg _ wm_377) (fun _ h9 => h9) d_B_remainderInfinite_16 ?_
    refine z_callv (va_runV (As := [.ref (zg E (1 + 3))]) (rest := []) ⟨hx, hb, hml, hown, hts⟩ (c_N_become (l := l) (E := E) (w0 := w0) (q := t) (kd := kt) (k2 := 3) (pl := pt) (ng := nt) (f := h) (q0lt := q8lt) (q1lt := q9lt) (q2lt := q10lt) (c0 := c8) (c1 := c9) (c2 := c10) (bf := bh) (hkd := by omega) (hng := by omega) H1.size) (z_cwV (C := "ScaledNumeralDesk$Numeral") 1 hg wm_230 wm_378 wm_2 wm_228 wm_229 (by decide +kernel) ⟨Nat.le_of_ble_eq_true rfl, Nat.le_of_ble_eq_true rfl⟩) (z_preV (r := ("ScaledNumeralDesk$Numeral", TN, 3)) hK hG hn hH4 hA q8lt c8 rfl) rfl rfl hl.1 rfl (lv_room (Nat.le_of_ble_eq_true rfl)) d_B_remainderInfinite_19 ⟨Nat.zero_le _, Nat.zero_le _⟩) hH4 hA (fun  w11 H9 lc10 hH12 p19 => ?_)
    obtain ⟨⟨f_13, e14, e15, e16, bd17, p19⟩, hg18⟩ := p19
    replace bd17 : bd f_13 15 0 9999 := bd17
    replace p19 : ∀ j : Int, 0 ≤ j → j < 15 → f_13 j = 0 := p19
    have e19 : w11 b = .inr (4, [.ref (ad E (b + 1)), .ref (ad E (b + 2)), .ref (ad E (b + 3)), .ref (ad E (b + 4))]) := (hg18 b (nx_B_remInf_0 hqt hbt) (nx_B_remInf_1 hqt hbt) (nx_B_remInf_2 hqt hbt)).trans c0
    have e20 : w11 (b + 1) = zar E 30 r1 := (hg18 (b + 1) (nx_B_remInf_3 hqt hbt) (nx_B_remInf_4 hqt hbt) (nx_B_remInf_5 hqt hbt)).trans c1
    have e21 : w11 (b + 2) = zar E 30 r2 := (hg18 (b + 2) (nx_B_remInf_6 hqt hbt) (nx_B_remInf_7 hqt hbt) (nx_B_remInf_8 hqt hbt)).trans c2
    have e22 : w11 (b + 3) = zar E 30 r3 := (hg18 (b + 3) (nx_B_remInf_9 hqt hbt) (nx_B_remInf_10 hqt hbt) (nx_B_remInf_11 hqt hbt)).trans c3
    have e23 : w11 (b + 4) = zar E 30 r4 := (hg18 (b + 4) (nx_B_remInf_12 hqt hbt) (nx_B_remInf_13 hqt hbt) (nx_B_remInf_14 hqt hbt)).trans c4
    have e24 : w11 q = .inr (1, [.ref (zg E (1 + kd)), .int (iI pl), .ref (ad E (q + 1))]) := (hg18 q (nx_B_remInf_15 hqt hbt) (nx_B_remInf_16 hqt hbt) (nx_B_remInf_17 hqt hbt)).trans c5
    have e25 : w11 (q + 1) = .inr (0, [.ref (ad E (q + 2)), .int (iI ng)]) := (hg18 (q + 1) (nx_B_remInf_18 hqt hbt) (nx_B_remInf_19 hqt hbt) (nx_B_remInf_20 hqt hbt)).trans c6
    have e26 : w11 (q + 2) = zar E 15 f := (hg18 (q + 2) (nx_B_remInf_21 hqt hbt) (nx_B_remInf_22 hqt hbt) (nx_B_remInf_23 hqt hbt)).trans c7
    have hf27 : ∀ k, k ≠ t → k ≠ (t + 1) → k ≠ (t + 2) → w11 k = w0 k := fun k g0 g1 g2 => hg18 k g0 g1 g2
    refine zv_iconst hx hb d_B_remainderInfinite_22 ?_
    rw [hQ]
    exact z_iret hx hb hr hlk hH12 (⟨⟨3, 0, 0, f_13, e14, e15, e16, bd17, ⟨rfl, Or.inl rfl, (by first | exact Nf_0 (V0_of p19) | exact Nf_0 (V0_of p19.1)), Or.inr ⟨by omega, rfl⟩⟩⟩, (fun k g0 g1 g2 => hf27 k g0 g1 g2)⟩) d_B_remainderInfinite_23
  · refine lv_aload_n hx hb d_B_remainderInfinite_7 rfl (lv_at hl 2 rfl) ?_
    refine lv_aload_n hx hb d_B_remainderInfinite_8 rfl (lv_at hl 1 rfl) ?_
    refine z_callv (va_runV (As := [.ref (ad E q)]) (rest := []) ⟨hx, hb, hml, hown, hts⟩ (c_N_take (l := l) (E := E) (w0 := w0) (q := t) (r := q) (kd := kt) (ko := kd) (pl := pt) (po := pl) (ng := nt) (no := ng) (f := h) (g := f) (q0lt := q8lt) (q1lt := q9lt) (q2lt := q10lt) (q3lt := q5lt) (q4lt := q6lt) (q5lt := q7lt) (c0 := c8) (c1 := c9) (c2 := c10) (c3 := c5) (c4 := c6) (c5 := c7) (bf := bh) (hkd := by omega) (hng := by omega) (bg := bf) (hko := by omega) (hno := by omega) (hqr := by omega) H1.size) (z_cwV (C := "ScaledNumeralDesk$Numeral") 1 hg wm_324 wm_384 wm_2 wm_322 wm_323 (by decide +kernel) ⟨Nat.le_of_ble_eq_true rfl, Nat.le_of_ble_eq_true rfl⟩) (z_preV (r := ("ScaledNumeralDesk$Numeral", TN, 3)) hK hG hn hH4 hA q8lt c8 rfl) rfl rfl hl.1 rfl (lv_room (Nat.le_of_ble_eq_true rfl)) d_B_remainderInfinite_9 ⟨Nat.zero_le _, Nat.zero_le _⟩) hH4 hA (fun  w30 H28 lc29 hH31 p9 => ?_)
    obtain ⟨⟨f_32, e33, e34, e35, bd36, p9⟩, hg37⟩ := p9
    replace bd36 : bd f_32 15 0 9999 := bd36
    replace p9 : V f_32 15 = V f 15 := p9
    have e38 : w30 b = .inr (4, [.ref (ad E (b + 1)), .ref (ad E (b + 2)), .ref (ad E (b + 3)), .ref (ad E (b + 4))]) := (hg37 b (nx_B_remInf_0 hqt hbt) (nx_B_remInf_1 hqt hbt) (nx_B_remInf_2 hqt hbt)).trans c0
    have e39 : w30 (b + 1) = zar E 30 r1 := (hg37 (b + 1) (nx_B_remInf_3 hqt hbt) (nx_B_remInf_4 hqt hbt) (nx_B_remInf_5 hqt hbt)).trans c1
    have e40 : w30 (b + 2) = zar E 30 r2 := (hg37 (b + 2) (nx_B_remInf_6 hqt hbt) (nx_B_remInf_7 hqt hbt) (nx_B_remInf_8 hqt hbt)).trans c2
    have e41 : w30 (b + 3) = zar E 30 r3 := (hg37 (b + 3) (nx_B_remInf_9 hqt hbt) (nx_B_remInf_10 hqt hbt) (nx_B_remInf_11 hqt hbt)).trans c3
    have e42 : w30 (b + 4) = zar E 30 r4 := (hg37 (b + 4) (nx_B_remInf_12 hqt hbt) (nx_B_remInf_13 hqt hbt) (nx_B_remInf_14 hqt hbt)).trans c4
    have e43 : w30 q = .inr (1, [.ref (zg E (1 + kd)), .int (iI pl), .ref (ad E (q + 1))]) := (hg37 q (nx_B_remInf_15 hqt hbt) (nx_B_remInf_16 hqt hbt) (nx_B_remInf_17 hqt hbt)).trans c5
    have e44 : w30 (q + 1) = .inr (0, [.ref (ad E (q + 2)), .int (iI ng)]) := (hg37 (q + 1) (nx_B_remInf_18 hqt hbt) (nx_B_remInf_19 hqt hbt) (nx_B_remInf_20 hqt hbt)).trans c6
    have e45 : w30 (q + 2) = zar E 15 f := (hg37 (q + 2) (nx_B_remInf_21 hqt hbt) (nx_B_remInf_22 hqt hbt) (nx_B_remInf_23 hqt hbt)).trans c7
    have hf46 : ∀ k, k ≠ t → k ≠ (t + 1) → k ≠ (t + 2) → w30 k = w0 k := fun k g0 g1 g2 => hg37 k g0 g1 g2
    refine lv_goto (tgt := 22) hx hb d_B_remainderInfinite_12 rfl ?_
    refine zv_iconst hx hb d_B_remainderInfinite_22 ?_
    rw [hQ]
    exact z_iret hx hb hr hlk hH31 (⟨⟨kd, pl, ng, f_32, e33, e34, e35, bd36, ⟨rfl, hng, Nf_1 (by omega), Or.inl ⟨by omega, by omega, rfl, rfl, p9⟩⟩⟩, (fun k g0 g1 g2 => hf46 k g0 g1 g2)⟩) d_B_remainderInfinite_23
theorem nx_B_divInf_0 {b q r t : Nat} (hqt : t + 2 < q) (hrt : t + 2 < r) (hbt : b + 4 < t) : b ≠ t := by omega
theorem nx_B_divInf_1 {b q r t : Nat} (hqt : t + 2 < q) (hrt : t + 2 < r) (hbt : b + 4 < t) : b ≠ t + 1 := by omega
theorem nx_B_divInf_2 {b q r t : Nat} (hqt : t + 2 < q) (hrt : t + 2 < r) (hbt : b + 4 < t) : b ≠ t + 2 := by omega
theorem nx_B_divInf_3 {b q r t : Nat} (hqt : t + 2 < q) (hrt : t + 2 < r) (hbt : b + 4 < t) : b + 1 ≠ t := by omega
theorem nx_B_divInf_4 {b q r t : Nat} (hqt : t + 2 < q) (hrt : t + 2 < r) (hbt : b + 4 < t) : b + 1 ≠ t + 1 := by omega
theorem nx_B_divInf_5 {b q r t : Nat} (hqt : t + 2 < q) (hrt : t + 2 < r) (hbt : b + 4 < t) : b + 1 ≠ t + 2 := by omega
theorem nx_B_divInf_6 {b q r t : Nat} (hqt : t + 2 < q) (hrt : t + 2 < r) (hbt : b + 4 < t) : b + 2 ≠ t := by omega
theorem nx_B_divInf_7 {b q r t : Nat} (hqt : t + 2 < q) (hrt : t + 2 < r) (hbt : b + 4 < t) : b + 2 ≠ t + 1 := by omega
theorem nx_B_divInf_8 {b q r t : Nat} (hqt : t + 2 < q) (hrt : t + 2 < r) (hbt : b + 4 < t) : b + 2 ≠ t + 2 := by omega
theorem nx_B_divInf_9 {b q r t : Nat} (hqt : t + 2 < q) (hrt : t + 2 < r) (hbt : b + 4 < t) : b + 3 ≠ t := by omega
theorem nx_B_divInf_10 {b q r t : Nat} (hqt : t + 2 < q) (hrt : t + 2 < r) (hbt : b + 4 < t) : b + 3 ≠ t + 1 := by omega
theorem nx_B_divInf_11 {b q r t : Nat} (hqt : t + 2 < q) (hrt : t + 2 < r) (hbt : b + 4 < t) : b + 3 ≠ t + 2 := by omega
theorem nx_B_divInf_12 {b q r t : Nat} (hqt : t + 2 < q) (hrt : t + 2 < r) (hbt : b + 4 < t) : b + 4 ≠ t := by omega
theorem nx_B_divInf_13 {b q r t : Nat} (hqt : t + 2 < q) (hrt : t + 2 < r) (hbt : b + 4 < t) : b + 4 ≠ t + 1 := by omega
theorem nx_B_divInf_14 {b q r t : Nat} (hqt : t + 2 < q) (hrt : t + 2 < r) (hbt : b + 4 < t) : b + 4 ≠ t + 2 := by omega
theorem nx_B_divInf_15 {b q r t : Nat} (hqt : t + 2 < q) (hrt : t + 2 < r) (hbt : b + 4 < t) : q ≠ t := by omega
theorem nx_B_divInf_16 {b q r t : Nat} (hqt : t + 2 < q) (hrt : t + 2 < r) (hbt : b + 4 < t) : q ≠ t + 1 := by omega
theorem nx_B_divInf_17 {b q r t : Nat} (hqt : t + 2 < q) (hrt : t + 2 < r) (hbt : b + 4 < t) : q ≠ t + 2 := by omega
theorem nx_B_divInf_18 {b q r t : Nat} (hqt : t + 2 < q) (hrt : t + 2 < r) (hbt : b + 4 < t) : q + 1 ≠ t := by omega
theorem nx_B_divInf_19 {b q r t : Nat} (hqt : t + 2 < q) (hrt : t + 2 < r) (hbt : b + 4 < t) : q + 1 ≠ t + 1 := by omega
theorem nx_B_divInf_20 {b q r t : Nat} (hqt : t + 2 < q) (hrt : t + 2 < r) (hbt : b + 4 < t) : q + 1 ≠ t + 2 := by omega
theorem nx_B_divInf_21 {b q r t : Nat} (hqt : t + 2 < q) (hrt : t + 2 < r) (hbt : b + 4 < t) : q + 2 ≠ t := by omega
theorem nx_B_divInf_22 {b q r t : Nat} (hqt : t + 2 < q) (hrt : t + 2 < r) (hbt : b + 4 < t) : q + 2 ≠ t + 1 := by omega
theorem nx_B_divInf_23 {b q r t : Nat} (hqt : t + 2 < q) (hrt : t + 2 < r) (hbt : b + 4 < t) : q + 2 ≠ t + 2 := by omega
theorem nx_B_divInf_24 {b q r t : Nat} (hqt : t + 2 < q) (hrt : t + 2 < r) (hbt : b + 4 < t) : r ≠ t := by omega
theorem nx_B_divInf_25 {b q r t : Nat} (hqt : t + 2 < q) (hrt : t + 2 < r) (hbt : b + 4 < t) : r ≠ t + 1 := by omega
theorem nx_B_divInf_26 {b q r t : Nat} (hqt : t + 2 < q) (hrt : t + 2 < r) (hbt : b + 4 < t) : r ≠ t + 2 := by omega
theorem nx_B_divInf_27 {b q r t : Nat} (hqt : t + 2 < q) (hrt : t + 2 < r) (hbt : b + 4 < t) : r + 1 ≠ t := by omega
theorem nx_B_divInf_28 {b q r t : Nat} (hqt : t + 2 < q) (hrt : t + 2 < r) (hbt : b + 4 < t) : r + 1 ≠ t + 1 := by omega
theorem nx_B_divInf_29 {b q r t : Nat} (hqt : t + 2 < q) (hrt : t + 2 < r) (hbt : b + 4 < t) : r + 1 ≠ t + 2 := by omega
theorem nx_B_divInf_30 {b q r t : Nat} (hqt : t + 2 < q) (hrt : t + 2 < r) (hbt : b + 4 < t) : r + 2 ≠ t := by omega
theorem nx_B_divInf_31 {b q r t : Nat} (hqt : t + 2 < q) (hrt : t + 2 < r) (hbt : b + 4 < t) : r + 2 ≠ t + 1 := by omega
theorem nx_B_divInf_32 {b q r t : Nat} (hqt : t + 2 < q) (hrt : t + 2 < r) (hbt : b + 4 < t) : r + 2 ≠ t + 2 := by omega
def rm_B_divInf : Room := { frames := 4, cells := 0, slots := 0, locals := 85 }
set_option maxHeartbeats 4000000 in
set_option maxRecDepth 100000 in
theorem c_B_divInf (l : Launch) (E : zE) (w0 : zW) (b : Nat) (r1 r2 r3 r4 : Int → Int) (q : Nat) (kd : Nat) (pl ng : Int) (f : Int → Int) (r : Nat) (ko : Nat) (po no : Int) (g : Int → Int) (t : Nat) (kt : Nat) (pt nt : Int) (h : Int → Int) (q0lt : b < zn E) (q1lt : b + 1 < zn E) (q2lt : b + 2 < zn E) (q3lt : b + 3 < zn E) (q4lt : b + 4 < zn E) (q5lt : q < zn E) (q6lt : q + 1 < zn E) (q7lt : q + 2 < zn E) (q8lt : r < zn E) (q9lt : r + 1 < zn E) (q10lt : r + 2 < zn E) (q11lt : t < zn E) (q12lt : t + 1 < zn E) (q13lt : t + 2 < zn E) (c0 : w0 b = .inr (4, [.ref (ad E (b + 1)), .ref (ad E (b + 2)), .ref (ad E (b + 3)), .ref (ad E (b + 4))])) (c1 : w0 (b + 1) = zar E 30 r1) (c2 : w0 (b + 2) = zar E 30 r2) (c3 : w0 (b + 3) = zar E 30 r3) (c4 : w0 (b + 4) = zar E 30 r4) (c5 : w0 q = .inr (1, [.ref (zg E (1 + kd)), .int (iI pl), .ref (ad E (q + 1))])) (c6 : w0 (q + 1) = .inr (0, [.ref (ad E (q + 2)), .int (iI ng)])) (c7 : w0 (q + 2) = zar E 15 f) (c8 : w0 r = .inr (1, [.ref (zg E (1 + ko)), .int (iI po), .ref (ad E (r + 1))])) (c9 : w0 (r + 1) = .inr (0, [.ref (ad E (r + 2)), .int (iI no)])) (c10 : w0 (r + 2) = zar E 15 g) (c11 : w0 t = .inr (1, [.ref (zg E (1 + kt)), .int (iI pt), .ref (ad E (t + 1))])) (c12 : w0 (t + 1) = .inr (0, [.ref (ad E (t + 2)), .int (iI nt)])) (c13 : w0 (t + 2) = zar E 15 h) (br1 : bd r1 30 0 9999) (br2 : bd r2 30 0 9999) (br3 : bd r3 30 0 9999) (br4 : bd r4 30 0 9999) (bf : bd f 15 0 9999) (hkd : kd < 4) (hng : ng = 0 ∨ ng = 1) (hpl : 0 ≤ pl ∧ pl ≤ 24) (vA : V f 15 < Bp 14) (bg : bd g 15 0 9999) (hko : ko < 4) (hno : no = 0 ∨ no = 1) (hpo : 0 ≤ po ∧ po ≤ 24) (vB : V g 15 < Bp 14) (bh : bd h 15 0 9999) (hkt : kt < 4) (hnt : nt = 0 ∨ nt = 1) (hqt : t + 2 < q) (hrt : t + 2 < r) (hbt : b + 4 < t) : zM l y_B_divideInfinite ws_B_divideInfinite rm_B_divInf E [.ref (ad E b), .ref (ad E q), .ref (ad E r), .ref (ad E t)] w0 (zQi E w0 (fun z w' => (∃ (k' : Nat) (p' : Int) (n' : Int) (f' : Int → Int), w' t = .inr (1, [.ref (zg E (1 + k')), .int (iI p'), .ref (ad E (t + 1))]) ∧ w' (t + 1) = .inr (0, [.ref (ad E (t + 2)), .int (iI n')]) ∧ w' (t + 2) = zar E 15 f' ∧ bd f' 15 0 9999 ∧ (z = 0 ∧ (n' = 0 ∨ n' = 1) ∧ Nf z k' p' n' (V f' 15) ∧ ((kd = 1 ∧ k' = 1 ∧ p' = 0 ∧ n' = 0 ∧ V f' 15 = 0) ∨ (kd ≠ 1 ∧ ko = 1 ∧ ((sg3 kd ng (V f 15) * sg3 ko no (V g 15) < 0 ∧ k' = 0) ∨ (0 ≤ sg3 kd ng (V f 15) * sg3 ko no (V g 15) ∧ k' = 2))) ∨ (kd ≠ 1 ∧ ko ≠ 1 ∧ k' = 3)))) ∧ ∀ k, k ≠ t → k ≠ (t + 1) → k ≠ (t + 2) → w' k = w0 k)) := by
  refine z_met (cc := b_B_divideInfinite) (maxL := 4) (ret := (some .int)) (by decide +kernel) rfl (Nat.le_of_ble_eq_true rfl) ?_
  intro p e s m below meth cd ls a Qf hQ hC hl hH
  obtain ⟨hF, hr, hlk, hK, hG, hn⟩ := hC
  obtain ⟨hx, hb, hml, hown, hts⟩ := hF
  have hg : ∀ w ∈ GW, w.before a s = true := fun w h => hts w (List.mem_cons_of_mem _ h)
  have hA : ∀ q, s.heap.size ≤ q → va_A (wl E w0) s.heap.size q := fun q h => Or.inr h
  have hl : lv_has ls 4 [(0, .ref (ad E b)), (1, .ref (ad E q)), (2, .ref (ad E r)), (3, .ref (ad E t))] := hl
  refine lv_aload_n hx hb d_B_divideInfinite_0 rfl (lv_at hl 1 rfl) ?_
  refine z_calli (va_runV (As := []) (rest := []) ⟨hx, hb, hml, hown, hts⟩ (c_N_isFinite (l := l) (E := E) (w0 := w0) (q := q) (kd := kd) (pl := pl) (ng := ng) (f := f) (q0lt := q5lt) (q1lt := q6lt) (q2lt := q7lt) (c0 := c5) (c1 := c6) (c2 := c7) (bf := bf) (hkd := by omega) (hng := by omega) s.heap.size) (z_cwV (C := "ScaledNumeralDesk$Numeral") 0 hg wm_344 wm_379 wm_2 wm_342 wm_343 (by decide +kernel) ⟨Nat.le_of_ble_eq_true rfl, Nat.le_of_ble_eq_true rfl⟩) (z_preV (r := ("ScaledNumeralDesk$Numeral", TN, 3)) hK hG hn hH hA q5lt c5 rfl) rfl rfl hl.1 rfl (lv_room (Nat.le_of_ble_eq_true rfl)) d_B_divideInfinite_1 ⟨Nat.zero_le _, Nat.zero_le _⟩) hH hA (fun z6 w3 H1 lc2 hH4 hp5 => ?_)
  obtain ⟨ew7, hp5⟩ := hp5
  rw [ew7] at hH4
  replace hp5 : (z6 = 1 ∧ kd = 1) ∨ (z6 = 0 ∧ kd ≠ 1) := hp5
  refine zv_if_eq (tgt := 17) hx hb d_B_divideInfinite_4 rfl (by omega) (fun h8 => ?_) (fun h8 => ?_)
  · refine lv_aload_n hx hb d_B_divideInfinite_17 rfl (lv_at hl 2 rfl) ?_
    refine z_calli (va_runV (As := []) (rest := []) ⟨hx, hb, hml, hown, hts⟩ (c_N_isFinite (l := l) (E := E) (w0 := w0) (q := r) (kd := ko) (pl := po) (ng := no) (f := g) (q0lt := q8lt) (q1lt := q9lt) (q2lt := q10lt) (c0 := c8) (c1 := c9) (c2 := c10) (bf := bg) (hkd := by omega) (hng := by omega) H1.size) (z_cwV (C := "ScaledNumeralDesk$Numeral") 0 hg wm_344 wm_379 wm_2 wm_342 wm_343 (by decide +kernel) ⟨Nat.le_of_ble_eq_true rfl, Nat.le_of_ble_eq_true rfl⟩) (z_preV (r := ("ScaledNumeralDesk$Numeral", TN, 3)) hK hG hn hH4 hA q8lt c8 rfl) rfl rfl hl.1 rfl (lv_room (Nat.le_of_ble_eq_true rfl)) d_B_divideInfinite_18 ⟨Nat.zero_le _, Nat.zero_le _⟩) hH4 hA (fun z14 w11 H9 lc10 hH12 hp13 => ?_)
    obtain ⟨ew15, hp13⟩ := hp13
    rw [ew15] at hH12
    replace hp13 : (z14 = 1 ∧ ko = 1) ∨ (z14 = 0 ∧ ko ≠ 1) := hp13
    refine zv_if_eq (tgt := 40) hx hb d_B_divideInfinite_21 rfl (by omega) (fun h16 => ?_) (fun h16 => ?_)
    · refine lv_aload_n hx hb d_B_divideInfinite_40 rfl (lv_at hl 3 rfl) ?_
      refine zv_kind hx hb hG hH12 hown 3 (by decide) (hg _ wm_377) (fun _ h9 => h9) d_B_divideInfinite_41 ?_
      refine z_callv (va_runV (As := [.ref (zg E (1 + 3))]) (rest := []) ⟨hx, hb, hml, hown, hts⟩ (c_N_become (l := l) (E := E) (w0 := w0) (q := t) (kd := kt) (k2 := 3) (pl := pt) (ng := nt) (f := h) (q0lt := q11lt) (q1lt := q12lt) (q2lt := q13lt) (c0 := c11) (c1 := c12) (c2 := c13) (bf := bh) (hkd := by omega) (hng := by omega) H9.size) (z_cwV (C := "ScaledNumeralDesk$Numeral") 1 hg wm_230 wm_378 wm_2 wm_228 wm_229 (by decide +kernel) ⟨Nat.le_of_ble_eq_true rfl, Nat.le_of_ble_eq_true rfl⟩) (z_preV (r := ("ScaledNumeralDesk$Numeral", TN, 3)) hK hG hn hH12 hA q11lt c11 rfl) rfl rfl hl.1 rfl (lv_room (Nat.le_of_ble_eq_true rfl)) d_B_divideInfinite_44 ⟨Nat.zero_le _, Nat.zero_le _⟩) hH12 hA (fun  w19 H17 lc18 hH20 p44 => ?_)
      obtain ⟨⟨f_21, e22, e23, e24, bd25, p44⟩, hg26⟩ := p44
      replace bd25 : bd f_21 15 0 9999 := bd25
      replace p44 : ∀ j : Int, 0 ≤ j → j < 15 → f_21 j = 0 := p44
      have e27 : w19 b = .inr (4, [.ref (ad E (b + 1)), .ref (ad E (b + 2)), .ref (ad E (b + 3)), .ref (ad E (b + 4))]) := (hg26 b (nx_B_divInf_0 hqt hrt hbt) (nx_B_divInf_1 hqt hrt hbt) (nx_B_divInf_2 hqt hrt hbt)).trans c0
      have e28 : w19 (b + 1) = zar E 30 r1 := (hg26 (b + 1) (nx_B_divInf_3 hqt hrt hbt) (nx_B_divInf_4 hqt hrt hbt) (nx_B_divInf_5 hqt hrt hbt)).trans c1
      have e29 : w19 (b + 2) = zar E 30 r2 := (hg26 (b + 2) (nx_B_divInf_6 hqt hrt hbt) (nx_B_divInf_7 hqt hrt hbt) (nx_B_divInf_8 hqt hrt hbt)).trans c2
      have e30 : w19 (b + 3) = zar E 30 r3 := (hg26 (b + 3) (nx_B_divInf_9 hqt hrt hbt) (nx_B_divInf_10 hqt hrt hbt) (nx_B_divInf_11 hqt hrt hbt)).trans c3
      have e31 : w19 (b + 4) = zar E 30 r4 := (hg26 (b + 4) (nx_B_divInf_12 hqt hrt hbt) (nx_B_divInf_13 hqt hrt hbt) (nx_B_divInf_14 hqt hrt hbt)).trans c4
      have e32 : w19 q = .inr (1, [.ref (zg E (1 + kd)), .int (iI pl), .ref (ad E (q + 1))]) := (hg26 q (nx_B_divInf_15 hqt hrt hbt) (nx_B_divInf_16 hqt hrt hbt) (nx_B_divInf_17 hqt hrt hbt)).trans c5
      have e33 : w19 (q + 1) = .inr (0, [.ref (ad E (q + 2)), .int (iI ng)]) := (hg26 (q + 1) (nx_B_divInf_18 hqt hrt hbt) (nx_B_divInf_19 hqt hrt hbt) (nx_B_divInf_20 hqt hrt hbt)).trans c6
      have e34 : w19 (q + 2) = zar E 15 f := (hg26 (q + 2) (nx_B_divInf_21 hqt hrt hbt) (nx_B_divInf_22 hqt hrt hbt) (nx_B_divInf_23 hqt hrt hbt)).trans c7
      have e35 : w19 r = .inr (1, [.ref (zg E (1 + ko)), .int (iI po), .ref (ad E (r + 1))]) := (hg26 r (nx_B_divInf_24 hqt hrt hbt) (nx_B_divInf_25 hqt hrt hbt) (nx_B_divInf_26 hqt hrt hbt)).trans c8
      have e36 : w19 (r + 1) = .inr (0, [.ref (ad E (r + 2)), .int (iI no)]) := (hg26 (r + 1) (nx_B_divInf_27 hqt hrt hbt) (nx_B_divInf_28 hqt hrt hbt) (nx_B_divInf_29 hqt hrt hbt)).trans c9
      have e37 : w19 (r + 2) = zar E 15 g := (hg26 (r + 2) (nx_B_divInf_30 hqt hrt hbt) (nx_B_divInf_31 hqt hrt hbt) (nx_B_divInf_32 hqt hrt hbt)).trans c10
      have hf38 : ∀ k, k ≠ t → k ≠ (t + 1) → k ≠ (t + 2) → w19 k = w0 k := fun k g0 g1 g2 => hg26 k g0 g1 g2
      refine zv_iconst hx hb d_B_divideInfinite_47 ?_
      rw [hQ]
      exact z_iret hx hb hr hlk hH20 (⟨⟨3, 0, 0, f_21, e22, e23, e24, bd25, ⟨rfl, Or.inl rfl, (by first | exact Nf_0 (V0_of p44) | exact Nf_0 (V0_of p44.1)), Or.inr (Or.inr ⟨by omega, by omega, rfl⟩)⟩⟩, (fun k g0 g1 g2 => hf38 k g0 g1 g2)⟩) d_B_divideInfinite_48
    · refine lv_aload_n hx hb d_B_divideInfinite_24 rfl (lv_at hl 3 rfl) ?_
      refine lv_aload_n hx hb d_B_divideInfinite_25 rfl (lv_at hl 1 rfl) ?_
      refine z_calli (va_runV (As := []) (rest := [.ref (ad E t)]) ⟨hx, hb, hml, hown, hts⟩ (c_N_sign (l := l) (E := E) (w0 := w0) (q := q) (kd := kd) (pl := pl) (ng := ng) (f := f) (q0lt := q5lt) (q1lt := q6lt) (q2lt := q7lt) (c0 := c5) (c1 := c6) (c2 := c7) (bf := bf) (hkd := by omega) (hng := by omega) H9.size) (z_cwV (C := "ScaledNumeralDesk$Numeral") 0 hg wm_412 wm_409 wm_2 wm_410 wm_411 (by decide +kernel) ⟨Nat.le_of_ble_eq_true rfl, Nat.le_of_ble_eq_true rfl⟩) (z_preV (r := ("ScaledNumeralDesk$Numeral", TN, 3)) hK hG hn hH12 hA q5lt c5 rfl) rfl rfl hl.1 rfl (lv_room (Nat.le_of_ble_eq_true rfl)) d_B_divideInfinite_26 ⟨Nat.zero_le _, Nat.zero_le _⟩) hH12 hA (fun s1 w41 H39 lc40 hH42 p26 => ?_)
      obtain ⟨ew43, p26⟩ := p26
      rw [ew43] at hH42
      replace p26 : (kd = 1 ∧ ((s1 = 0 ∧ V f 15 = 0) ∨ (s1 = -1 ∧ 0 < V f 15 ∧ ng = 1) ∨ (s1 = 1 ∧ 0 < V f 15 ∧ ng = 0))) ∨ (kd = 0 ∧ s1 = -1) ∨ ((kd = 2 ∨ kd = 3) ∧ s1 = 1) := p26
      have q1 := sg3_of p26
      refine lv_aload_n hx hb d_B_divideInfinite_29 rfl (lv_at hl 2 rfl) ?_
      refine z_calli (va_runV (As := []) (rest := [.int (iI s1), .ref (ad E t)]) ⟨hx, hb, hml, hown, hts⟩ (c_N_sign (l := l) (E := E) (w0 := w0) (q := r) (kd := ko) (pl := po) (ng := no) (f := g) (q0lt := q8lt) (q1lt := q9lt) (q2lt := q10lt) (c0 := c8) (c1 := c9) (c2 := c10) (bf := bg) (hkd := by omega) (hng := by omega) H39.size) (z_cwV (C := "ScaledNumeralDesk$Numeral") 0 hg wm_412 wm_409 wm_2 wm_410 wm_411 (by decide +kernel) ⟨Nat.le_of_ble_eq_true rfl, Nat.le_of_ble_eq_true rfl⟩) (z_preV (r := ("ScaledNumeralDesk$Numeral", TN, 3)) hK hG hn hH42 hA q8lt c8 rfl) rfl rfl hl.1 rfl (lv_room (Nat.le_of_ble_eq_true rfl)) d_B_divideInfinite_30 ⟨Nat.zero_le _, Nat.zero_le _⟩) hH42 hA (fun s2 w46 H44 lc45 hH47 p30 => ?_)
      obtain ⟨ew48, p30⟩ := p30
      rw [ew48] at hH47
      replace p30 : (ko = 1 ∧ ((s2 = 0 ∧ V g 15 = 0) ∨ (s2 = -1 ∧ 0 < V g 15 ∧ no = 1) ∨ (s2 = 1 ∧ 0 < V g 15 ∧ no = 0))) ∨ (ko = 0 ∧ s2 = -1) ∨ ((ko = 2 ∨ ko = 3) ∧ s2 = 1) := p30
      have q5 := sg3_of p30
      have m9 := mul_11 q1.2 q5.2
      refine zv_imul hx hb d_B_divideInfinite_33 ?_
      refine z_callv (va_runV (As := [.int (iI (s1 * s2))]) (rest := []) ⟨hx, hb, hml, hown, hts⟩ (c_N_becomeInf (l := l) (E := E) (w0 := w0) (q := t) (kd := kt) (pl := pt) (ng := nt) (sg := s1 * s2) (f := h) (q0lt := q11lt) (q1lt := q12lt) (q2lt := q13lt) (c0 := c11) (c1 := c12) (c2 := c13) (bf := bh) (hkd := by omega) (hng := by omega) (hsg := by omega) H44.size) (z_cwV (C := "ScaledNumeralDesk$Numeral") 1 hg wm_247 wm_417 wm_2 wm_245 wm_246 (by decide +kernel) ⟨Nat.le_of_ble_eq_true rfl, Nat.le_of_ble_eq_true rfl⟩) (z_preV (r := ("ScaledNumeralDesk$Numeral", TN, 3)) hK hG hn hH47 hA q11lt c11 rfl) rfl rfl hl.1 rfl (lv_room (Nat.le_of_ble_eq_true rfl)) d_B_divideInfinite_34 ⟨Nat.zero_le _, Nat.zero_le _⟩) hH47 hA (fun  w51 H49 lc50 hH52 p34 => ?_)
      obtain ⟨⟨k_53, f_54, e55, e56, e57, bd58, p34⟩, hg59⟩ := p34
      replace bd58 : bd f_54 15 0 9999 := bd58
      replace p34 : (∀ j : Int, 0 ≤ j → j < 15 → f_54 j = 0) ∧ (((s1 * s2) < 0 ∧ k_53 = 0) ∨ (0 ≤ (s1 * s2) ∧ k_53 = 2)) := p34
      have e60 : w51 b = .inr (4, [.ref (ad E (b + 1)), .ref (ad E (b + 2)), .ref (ad E (b + 3)), .ref (ad E (b + 4))]) := (hg59 b (nx_B_divInf_0 hqt hrt hbt) (nx_B_divInf_1 hqt hrt hbt) (nx_B_divInf_2 hqt hrt hbt)).trans c0
      have e61 : w51 (b + 1) = zar E 30 r1 := (hg59 (b + 1) (nx_B_divInf_3 hqt hrt hbt) (nx_B_divInf_4 hqt hrt hbt) (nx_B_divInf_5 hqt hrt hbt)).trans c1
      have e62 : w51 (b + 2) = zar E 30 r2 := (hg59 (b + 2) (nx_B_divInf_6 hqt hrt hbt) (nx_B_divInf_7 hqt hrt hbt) (nx_B_divInf_8 hqt hrt hbt)).trans c2
      have e63 : w51 (b + 3) = zar E 30 r3 := (hg59 (b + 3) (nx_B_divInf_9 hqt hrt hbt) (nx_B_divInf_10 hqt hrt hbt) (nx_B_divInf_11 hqt hrt hbt)).trans c3
      have e64 : w51 (b + 4) = zar E 30 r4 := (hg59 (b + 4) (nx_B_divInf_12 hqt hrt hbt) (nx_B_divInf_13 hqt hrt hbt) (nx_B_divInf_14 hqt hrt hbt)).trans c4
      have e65 : w51 q = .inr (1, [.ref (zg E (1 + kd)), .int (iI pl), .ref (ad E (q + 1))]) := (hg59 q (nx_B_divInf_15 hqt hrt hbt) (nx_B_divInf_16 hqt hrt hbt) (nx_B_divInf_17 hqt hrt hbt)).trans c5
      have e66 : w51 (q + 1) = .inr (0, [.ref (ad E (q + 2)), .int (iI ng)]) := (hg59 (q + 1) (nx_B_divInf_18 hqt hrt hbt) (nx_B_divInf_19 hqt hrt hbt) (nx_B_divInf_20 hqt hrt hbt)).trans c6
      have e67 : w51 (q + 2) = zar E 15 f := (hg59 (q + 2) (nx_B_divInf_21 hqt hrt hbt) (nx_B_divInf_22 hqt hrt hbt) (nx_B_divInf_23 hqt hrt hbt)).trans c7
      have e68 : w51 r = .inr (1, [.ref (zg E (1 + ko)), .int (iI po), .ref (ad E (r + 1))]) := (hg59 r (nx_B_divInf_24 hqt hrt hbt) (nx_B_divInf_25 hqt hrt hbt) (nx_B_divInf_26 hqt hrt hbt)).trans c8
      have e69 : w51 (r + 1) = .inr (0, [.ref (ad E (r + 2)), .int (iI no)]) := (hg59 (r + 1) (nx_B_divInf_27 hqt hrt hbt) (nx_B_divInf_28 hqt hrt hbt) (nx_B_divInf_29 hqt hrt hbt)).trans c9
      have e70 : w51 (r + 2) = zar E 15 g := (hg59 (r + 2) (nx_B_divInf_30 hqt hrt hbt) (nx_B_divInf_31 hqt hrt hbt) (nx_B_divInf_32 hqt hrt hbt)).trans c10
      have hf71 : ∀ k, k ≠ t → k ≠ (t + 1) → k ≠ (t + 2) → w51 k = w0 k := fun k g0 g1 g2 => hg59 k g0 g1 g2
      refine lv_goto (tgt := 47) hx hb d_B_divideInfinite_37 rfl ?_
      refine zv_iconst hx hb d_B_divideInfinite_47 ?_
      rw [hQ]
      exact z_iret hx hb hr hlk hH52 (⟨⟨k_53, 0, 0, f_54, e55, e56, e57, bd58, ⟨rfl, Or.inl rfl, (by first | exact Nf_0 (V0_of p34) | exact Nf_0 (V0_of p34.1)), Or.inr (Or.inl ⟨by omega, by omega, by rw [← q1.1, ← q5.1]; exact p34.2⟩)⟩⟩, (fun k g0 g1 g2 => hf71 k g0 g1 g2)⟩) d_B_divideInfinite_48
  · refine lv_aload_n hx hb d_B_divideInfinite_7 rfl (lv_at hl 3 rfl) ?_
    refine zv_kind hx hb hG hH4 hown 1 (by decide) (hg _ wm_442) (fun _ h9 => h9) d_B_divideInfinite_8 ?_
    refine z_callv (va_runV (As := [.ref (zg E (1 + 1))]) (rest := []) ⟨hx, hb, hml, hown, hts⟩ (c_N_become (l := l) (E := E) (w0 := w0) (q := t) (kd := kt) (k2 := 1) (pl := pt) (ng := nt) (f := h) (q0lt := q11lt) (q1lt := q12lt) (q2lt := q13lt) (c0 := c11) (c1 := c12) (c2 := c13) (bf := bh) (hkd := by omega) (hng := by omega) H1.size) (z_cwV (C := "ScaledNumeralDesk$Numeral") 1 hg wm_230 wm_378 wm_2 wm_228 wm_229 (by decide +kernel) ⟨Nat.le_of_ble_eq_true rfl, Nat.le_of_ble_eq_true rfl⟩) (z_preV (r := ("ScaledNumeralDesk$Numeral", TN, 3)) hK hG hn hH4 hA q11lt c11 rfl) rfl rfl hl.1 rfl (lv_room (Nat.le_of_ble_eq_true rfl)) d_B_divideInfinite_11 ⟨Nat.zero_le _, Nat.zero_le _⟩) hH4 hA (fun  w74 H72 lc73 hH75 p11 => ?_)
    obtain ⟨⟨f_76, e77, e78, e79, bd80, p11⟩, hg81⟩ := p11
    replace bd80 : bd f_76 15 0 9999 := bd80
    replace p11 : ∀ j : Int, 0 ≤ j → j < 15 → f_76 j = 0 := p11
    have e82 : w74 b = .inr (4, [.ref (ad E (b + 1)), .ref (ad E (b + 2)), .ref (ad E (b + 3)), .ref (ad E (b + 4))]) := (hg81 b (nx_B_divInf_0 hqt hrt hbt) (nx_B_divInf_1 hqt hrt hbt) (nx_B_divInf_2 hqt hrt hbt)).trans c0
    have e83 : w74 (b + 1) = zar E 30 r1 := (hg81 (b + 1) (nx_B_divInf_3 hqt hrt hbt) (nx_B_divInf_4 hqt hrt hbt) (nx_B_divInf_5 hqt hrt hbt)).trans c1
    have e84 : w74 (b + 2) = zar E 30 r2 := (hg81 (b + 2) (nx_B_divInf_6 hqt hrt hbt) (nx_B_divInf_7 hqt hrt hbt) (nx_B_divInf_8 hqt hrt hbt)).trans c2
    have e85 : w74 (b + 3) = zar E 30 r3 := (hg81 (b + 3) (nx_B_divInf_9 hqt hrt hbt) (nx_B_divInf_10 hqt hrt hbt) (nx_B_divInf_11 hqt hrt hbt)).trans c3
    have e86 : w74 (b + 4) = zar E 30 r4 := (hg81 (b + 4) (nx_B_divInf_12 hqt hrt hbt) (nx_B_divInf_13 hqt hrt hbt) (nx_B_divInf_14 hqt hrt hbt)).trans c4
    have e87 : w74 q = .inr (1, [.ref (zg E (1 + kd)), .int (iI pl), .ref (ad E (q + 1))]) := (hg81 q (nx_B_divInf_15 hqt hrt hbt) (nx_B_divInf_16 hqt hrt hbt) (nx_B_divInf_17 hqt hrt hbt)).trans c5
    have e88 : w74 (q + 1) = .inr (0, [.ref (ad E (q + 2)), .int (iI ng)]) := (hg81 (q + 1) (nx_B_divInf_18 hqt hrt hbt) (nx_B_divInf_19 hqt hrt hbt) (nx_B_divInf_20 hqt hrt hbt)).trans c6
    have e89 : w74 (q + 2) = zar E 15 f := (hg81 (q + 2) (nx_B_divInf_21 hqt hrt hbt) (nx_B_divInf_22 hqt hrt hbt) (nx_B_divInf_23 hqt hrt hbt)).trans c7
    have e90 : w74 r = .inr (1, [.ref (zg E (1 + ko)), .int (iI po), .ref (ad E (r + 1))]) := (hg81 r (nx_B_divInf_24 hqt hrt hbt) (nx_B_divInf_25 hqt hrt hbt) (nx_B_divInf_26 hqt hrt hbt)).trans c8
    have e91 : w74 (r + 1) = .inr (0, [.ref (ad E (r + 2)), .int (iI no)]) := (hg81 (r + 1) (nx_B_divInf_27 hqt hrt hbt) (nx_B_divInf_28 hqt hrt hbt) (nx_B_divInf_29 hqt hrt hbt)).trans c9
    have e92 : w74 (r + 2) = zar E 15 g := (hg81 (r + 2) (nx_B_divInf_30 hqt hrt hbt) (nx_B_divInf_31 hqt hrt hbt) (nx_B_divInf_32 hqt hrt hbt)).trans c10
    have hf93 : ∀ k, k ≠ t → k ≠ (t + 1) → k ≠ (t + 2) → w74 k = w0 k := fun k g0 g1 g2 => hg81 k g0 g1 g2
    refine lv_goto (tgt := 47) hx hb d_B_divideInfinite_14 rfl ?_
    refine zv_iconst hx hb d_B_divideInfinite_47 ?_
    rw [hQ]
    exact z_iret hx hb hr hlk hH75 (⟨⟨1, 0, 0, f_76, e77, e78, e79, bd80, ⟨rfl, Or.inl rfl, Nf_1 rfl, Or.inl ⟨by omega, rfl, rfl, rfl, V0_of p11⟩⟩⟩, (fun k g0 g1 g2 => hf93 k g0 g1 g2)⟩) d_B_divideInfinite_48
