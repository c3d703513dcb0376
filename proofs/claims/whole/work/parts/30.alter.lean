theorem nx_B_alterOther_0 {b t : Nat} (hbt : b + 4 < t) : b ≠ t := by omega
theorem nx_B_alterOther_1 {b t : Nat} (hbt : b + 4 < t) : b ≠ t + 1 := by omega
theorem nx_B_alterOther_2 {b t : Nat} (hbt : b + 4 < t) : b ≠ t + 2 := by omega
def rm_B_alterOther : Room := { frames := 4, cells := 0, slots := 0, locals := 85 }
set_option maxHeartbeats 4000000 in
set_option maxRecDepth 100000 in
theorem c_B_alterOther (l : Launch) (E : zE) (w0 : zW) (b : Nat) (op : Int) (t : Nat) (kt : Nat) (pt nt : Int) (h : Int → Int) (q0lt : b < zn E) (q1lt : b + 1 < zn E) (q2lt : b + 2 < zn E) (q3lt : b + 3 < zn E) (q4lt : b + 4 < zn E) (q5lt : t < zn E) (q6lt : t + 1 < zn E) (q7lt : t + 2 < zn E) (c0 : w0 b = .inr (4, [.ref (ad E (b + 1)), .ref (ad E (b + 2)), .ref (ad E (b + 3)), .ref (ad E (b + 4))])) (c1 : w0 t = .inr (1, [.ref (zg E (1 + kt)), .int (iI pt), .ref (ad E (t + 1))])) (c2 : w0 (t + 1) = .inr (0, [.ref (ad E (t + 2)), .int (iI nt)])) (c3 : w0 (t + 2) = zar E 15 h) (bh : bd h 15 0 9999) (hkt : kt < 4) (hnt : nt = 0 ∨ nt = 1) (hbt : b + 4 < t) (hop : zr op) (hk1 : kt ≠ 1) (hnf : pt = 0 ∧ nt = 0 ∧ V h 15 = 0) : zM l y_B_alterOther ws_B_alterOther rm_B_alterOther E [.ref (ad E b), .int (iI op), .ref (ad E t)] w0 (zQi E w0 (fun z w' => (∃ (k' : Nat) (p' : Int) (n' : Int) (f' : Int → Int), w' t = .inr (1, [.ref (zg E (1 + k')), .int (iI p'), .ref (ad E (t + 1))]) ∧ w' (t + 1) = .inr (0, [.ref (ad E (t + 2)), .int (iI n')]) ∧ w' (t + 2) = zar E 15 f' ∧ bd f' 15 0 9999 ∧ (z = 0 ∧ k' < 4 ∧ (n' = 0 ∨ n' = 1) ∧ Nf z k' p' n' (V f' 15) ∧ AoR op k' kt)) ∧ ∀ k, k ≠ t → k ≠ (t + 1) → k ≠ (t + 2) → w' k = w0 k)) := by
  refine z_met (cc := b_B_alterOther) (maxL := 3) (ret := (some .int)) (by decide +kernel) rfl (Nat.le_of_ble_eq_true rfl) ?_
  intro p e s m below meth cd ls a Qf hQ hC hl hH
  obtain ⟨hF, hr, hlk, hK, hG, hn⟩ := hC
  obtain ⟨hx, hb, hml, hown, hts⟩ := hF
  have hg : ∀ w ∈ GW, w.before a s = true := fun w h => hts w (List.mem_cons_of_mem _ h)
  have hA : ∀ q, s.heap.size ≤ q → va_A (wl E w0) s.heap.size q := fun q h => Or.inr h
  have hl : lv_has ls 3 [(0, .ref (ad E b)), (1, .int (iI op)), (2, .ref (ad E t))] := hl
  refine lv_iload_n hx hb d_B_alterOther_0 rfl (lv_at hl 1 rfl) ?_
  refine zv_iconst hx hb d_B_alterOther_1 ?_
  refine zv_icmp_ne (tgt := 24) hx hb d_B_alterOther_2 rfl (by omega) (by omega) (fun h1 => ?_) (fun h1 => ?_)
  · refine zv_iconst hx hb d_B_alterOther_24 ?_
    rw [hQ]
    exact z_iret hx hb hr hlk hH (⟨⟨kt, pt, nt, h, c1, c2, c3, bh, ⟨rfl, hkt, hnt, fun _ _ => hnf, by unfold AoR; omega⟩⟩, (fun k _ _ _ => rfl)⟩) d_B_alterOther_25
  · refine lv_aload_n hx hb d_B_alterOther_5 rfl (lv_at hl 2 rfl) ?_
    refine zv_get (C := "ScaledNumeralDesk$Numeral") (T := TN) (N := 3) hx hb hg uN_in hown hK hH q5lt c1 rfl 0 (by decide) (hg _ wm_56) (fun _ h9 => h9) rfl d_B_alterOther_6 ?_
    refine zv_kind hx hb hG hH hown 3 (by decide) (hg _ wm_377) (fun _ h9 => h9) d_B_alterOther_9 ?_
    refine zv_acmp_eq (a := kt) (b := 3) (tgt := 24) hx hb hG (by omega) (by omega) d_B_alterOther_12 rfl (fun h2 => ?_) (fun h2 => ?_)
    · refine zv_iconst hx hb d_B_alterOther_24 ?_
      rw [hQ]
      exact z_iret hx hb hr hlk hH (⟨⟨kt, pt, nt, h, c1, c2, c3, bh, ⟨rfl, hkt, hnt, fun _ _ => hnf, by unfold AoR; omega⟩⟩, (fun k _ _ _ => rfl)⟩) d_B_alterOther_25
    · refine lv_aload_n hx hb d_B_alterOther_15 rfl (lv_at hl 2 rfl) ?_
      refine lv_aload_n hx hb d_B_alterOther_16 rfl (lv_at hl 2 rfl) ?_
      refine z_calli (va_runV (As := []) (rest := [.ref (ad E t)]) ⟨hx, hb, hml, hown, hts⟩ (c_N_sign (l := l) (E := E) (w0 := w0) (q := t) (kd := kt) (pl := pt) (ng := nt) (f := h) (q0lt := q5lt) (q1lt := q6lt) (q2lt := q7lt) (c0 := c1) (c1 := c2) (c2 := c3) (bf := bh) (hkd := by omega) (hng := by omega) s.heap.size) (z_cwV (C := "ScaledNumeralDesk$Numeral") 0 hg wm_412 wm_409 wm_2 wm_410 wm_411 (by decide +kernel) ⟨Nat.le_of_ble_eq_true rfl, Nat.le_of_ble_eq_true rfl⟩) (z_preV (r := ("ScaledNumeralDesk$Numeral", TN, 3)) hK hG hn hH hA q5lt c1 rfl) rfl rfl hl.1 rfl (lv_room (Nat.le_of_ble_eq_true rfl)) d_B_alterOther_17 ⟨Nat.zero_le _, Nat.zero_le _⟩) hH hA (fun z7 w5 H3 lc4 hH6 p17 => ?_)
      obtain ⟨ew8, p17⟩ := p17
      rw [ew8] at hH6
      replace p17 : (kt = 1 ∧ ((z7 = 0 ∧ V h 15 = 0) ∨ (z7 = -1 ∧ 0 < V h 15 ∧ nt = 1) ∨ (z7 = 1 ∧ 0 < V h 15 ∧ nt = 0))) ∨ (kt = 0 ∧ z7 = -1) ∨ ((kt = 2 ∨ kt = 3) ∧ z7 = 1) := p17
      refine zv_ineg hx hb d_B_alterOther_20 ?_
      refine z_callv (va_runV (As := [.int (iI (-z7))]) (rest := []) ⟨hx, hb, hml, hown, hts⟩ (c_N_becomeInf (l := l) (E := E) (w0 := w0) (q := t) (kd := kt) (pl := pt) (ng := nt) (sg := -z7) (f := h) (q0lt := q5lt) (q1lt := q6lt) (q2lt := q7lt) (c0 := c1) (c1 := c2) (c2 := c3) (bf := bh) (hkd := by omega) (hng := by omega) (hsg := by omega) H3.size) (z_cwV (C := "ScaledNumeralDesk$Numeral") 1 hg wm_247 wm_417 wm_2 wm_245 wm_246 (by decide +kernel) ⟨Nat.le_of_ble_eq_true rfl, Nat.le_of_ble_eq_true rfl⟩) (z_preV (r := ("ScaledNumeralDesk$Numeral", TN, 3)) hK hG hn hH6 hA q5lt c1 rfl) rfl rfl hl.1 rfl (lv_room (Nat.le_of_ble_eq_true rfl)) d_B_alterOther_21 ⟨Nat.zero_le _, Nat.zero_le _⟩) hH6 hA (fun  w11 H9 lc10 hH12 p21 => ?_)
      obtain ⟨⟨k_13, f_14, e15, e16, e17, bd18, p21⟩, hg19⟩ := p21
      replace bd18 : bd f_14 15 0 9999 := bd18
      replace p21 : (∀ j : Int, 0 ≤ j → j < 15 → f_14 j = 0) ∧ (((-z7) < 0 ∧ k_13 = 0) ∨ (0 ≤ (-z7) ∧ k_13 = 2)) := p21
      have e20 : w11 b = .inr (4, [.ref (ad E (b + 1)), .ref (ad E (b + 2)), .ref (ad E (b + 3)), .ref (ad E (b + 4))]) := (hg19 b (nx_B_alterOther_0 hbt) (nx_B_alterOther_1 hbt) (nx_B_alterOther_2 hbt)).trans c0
      have hf21 : ∀ k, k ≠ t → k ≠ (t + 1) → k ≠ (t + 2) → w11 k = w0 k := fun k g0 g1 g2 => hg19 k g0 g1 g2
      refine zv_iconst hx hb d_B_alterOther_24 ?_
      rw [hQ]
      exact z_iret hx hb hr hlk hH12 (⟨⟨k_13, 0, 0, f_14, e15, e16, e17, bd18, ⟨rfl, by omega, Or.inl rfl, (by first | exact Nf_0 (V0_of p17) | exact Nf_0 (V0_of p17.1) | exact Nf_0 (V0_of p21) | exact Nf_0 (V0_of p21.1)), by unfold AoR; omega⟩⟩, (fun k g0 g1 g2 => hf21 k g0 g1 g2)⟩) d_B_alterOther_25
theorem nx_B_alter_0 {b q t : Nat} (hqt : t + 2 < q) (hbt : b + 4 < t) : b ≠ t := by omega
theorem nx_B_alter_1 {b q t : Nat} (hqt : t + 2 < q) (hbt : b + 4 < t) : b ≠ t + 1 := by omega
theorem nx_B_alter_2 {b q t : Nat} (hqt : t + 2 < q) (hbt : b + 4 < t) : b ≠ t + 2 := by omega
theorem nx_B_alter_3 {b q t : Nat} (hqt : t + 2 < q) (hbt : b + 4 < t) : b + 1 ≠ t := by omega
theorem nx_B_alter_4 {b q t : Nat} (hqt : t + 2 < q) (hbt : b + 4 < t) : b + 1 ≠ t + 1 := by omega
theorem nx_B_alter_5 {b q t : Nat} (hqt : t + 2 < q) (hbt : b + 4 < t) : b + 1 ≠ t + 2 := by omega
theorem nx_B_alter_6 {b q t : Nat} (hqt : t + 2 < q) (hbt : b + 4 < t) : b + 2 ≠ t := by omega
theorem nx_B_alter_7 {b q t : Nat} (hqt : t + 2 < q) (hbt : b + 4 < t) : b + 2 ≠ t + 1 := by omega
theorem nx_B_alter_8 {b q t : Nat} (hqt : t + 2 < q) (hbt : b + 4 < t) : b + 2 ≠ t + 2 := by omega
theorem nx_B_alter_9 {b q t : Nat} (hqt : t + 2 < q) (hbt : b + 4 < t) : b + 3 ≠ t := by omega
theorem nx_B_alter_10 {b q t : Nat} (hqt : t + 2 < q) (hbt : b + 4 < t) : b + 3 ≠ t + 1 := by omega
theorem nx_B_alter_11 {b q t : Nat} (hqt : t + 2 < q) (hbt : b + 4 < t) : b + 3 ≠ t + 2 := by omega
theorem nx_B_alter_12 {b q t : Nat} (hqt : t + 2 < q) (hbt : b + 4 < t) : b + 4 ≠ t := by omega
theorem nx_B_alter_13 {b q t : Nat} (hqt : t + 2 < q) (hbt : b + 4 < t) : b + 4 ≠ t + 1 := by omega
theorem nx_B_alter_14 {b q t : Nat} (hqt : t + 2 < q) (hbt : b + 4 < t) : b + 4 ≠ t + 2 := by omega
theorem nx_B_alter_15 {b q t : Nat} (hqt : t + 2 < q) (hbt : b + 4 < t) : q ≠ t := by omega
theorem nx_B_alter_16 {b q t : Nat} (hqt : t + 2 < q) (hbt : b + 4 < t) : q ≠ t + 1 := by omega
theorem nx_B_alter_17 {b q t : Nat} (hqt : t + 2 < q) (hbt : b + 4 < t) : q ≠ t + 2 := by omega
theorem nx_B_alter_18 {b q t : Nat} (hqt : t + 2 < q) (hbt : b + 4 < t) : q + 1 ≠ t := by omega
theorem nx_B_alter_19 {b q t : Nat} (hqt : t + 2 < q) (hbt : b + 4 < t) : q + 1 ≠ t + 1 := by omega
theorem nx_B_alter_20 {b q t : Nat} (hqt : t + 2 < q) (hbt : b + 4 < t) : q + 1 ≠ t + 2 := by omega
theorem nx_B_alter_21 {b q t : Nat} (hqt : t + 2 < q) (hbt : b + 4 < t) : q + 2 ≠ t := by omega
theorem nx_B_alter_22 {b q t : Nat} (hqt : t + 2 < q) (hbt : b + 4 < t) : q + 2 ≠ t + 1 := by omega
theorem nx_B_alter_23 {b q t : Nat} (hqt : t + 2 < q) (hbt : b + 4 < t) : q + 2 ≠ t + 2 := by omega
theorem nx_B_alter_24 {b q t : Nat} (hqt : t + 2 < q) (hbt : b + 4 < t) : t ≠ t + 1 := by omega
theorem nx_B_alter_25 {b q t : Nat} (hqt : t + 2 < q) (hbt : b + 4 < t) : t + 2 ≠ t + 1 := by omega
theorem nx_B_alter_26 {b q t : Nat} (hqt : t + 2 < q) (hbt : b + 4 < t) : t + 1 ≠ t := by omega
theorem nx_B_alter_27 {b q t : Nat} (hqt : t + 2 < q) (hbt : b + 4 < t) : t + 2 ≠ t := by omega
theorem nx_B_alter_28 {b q t : Nat} (hqt : t + 2 < q) (hbt : b + 4 < t) : b ≠ b + 1 := by omega
theorem nx_B_alter_29 {b q t : Nat} (hqt : t + 2 < q) (hbt : b + 4 < t) : b ≠ b + 2 := by omega
theorem nx_B_alter_30 {b q t : Nat} (hqt : t + 2 < q) (hbt : b + 4 < t) : b ≠ b + 3 := by omega
theorem nx_B_alter_31 {b q t : Nat} (hqt : t + 2 < q) (hbt : b + 4 < t) : b ≠ b + 4 := by omega
theorem nx_B_alter_32 {b q t : Nat} (hqt : t + 2 < q) (hbt : b + 4 < t) : q ≠ b + 1 := by omega
theorem nx_B_alter_33 {b q t : Nat} (hqt : t + 2 < q) (hbt : b + 4 < t) : q ≠ b + 2 := by omega
theorem nx_B_alter_34 {b q t : Nat} (hqt : t + 2 < q) (hbt : b + 4 < t) : q ≠ b + 3 := by omega
theorem nx_B_alter_35 {b q t : Nat} (hqt : t + 2 < q) (hbt : b + 4 < t) : q ≠ b + 4 := by omega
theorem nx_B_alter_36 {b q t : Nat} (hqt : t + 2 < q) (hbt : b + 4 < t) : q + 1 ≠ b + 1 := by omega
theorem nx_B_alter_37 {b q t : Nat} (hqt : t + 2 < q) (hbt : b + 4 < t) : q + 1 ≠ b + 2 := by omega
theorem nx_B_alter_38 {b q t : Nat} (hqt : t + 2 < q) (hbt : b + 4 < t) : q + 1 ≠ b + 3 := by omega
theorem nx_B_alter_39 {b q t : Nat} (hqt : t + 2 < q) (hbt : b + 4 < t) : q + 1 ≠ b + 4 := by omega
theorem nx_B_alter_40 {b q t : Nat} (hqt : t + 2 < q) (hbt : b + 4 < t) : q + 2 ≠ b + 1 := by omega
theorem nx_B_alter_41 {b q t : Nat} (hqt : t + 2 < q) (hbt : b + 4 < t) : q + 2 ≠ b + 2 := by omega
theorem nx_B_alter_42 {b q t : Nat} (hqt : t + 2 < q) (hbt : b + 4 < t) : q + 2 ≠ b + 3 := by omega
theorem nx_B_alter_43 {b q t : Nat} (hqt : t + 2 < q) (hbt : b + 4 < t) : q + 2 ≠ b + 4 := by omega
def rm_B_alter : Room := { frames := 6, cells := 0, slots := 0, locals := 127 }
set_option maxHeartbeats 4000000 in
set_option maxRecDepth 100000 in
theorem c_B_alter (l : Launch) (E : zE) (w0 : zW) (op n0 : Int) (b : Nat) (r1 r2 r3 r4 : Int → Int) (q : Nat) (kd : Nat) (pl ng : Int) (f : Int → Int) (t : Nat) (kt : Nat) (pt nt : Int) (h : Int → Int) (q0lt : b < zn E) (q1lt : b + 1 < zn E) (q2lt : b + 2 < zn E) (q3lt : b + 3 < zn E) (q4lt : b + 4 < zn E) (q5lt : q < zn E) (q6lt : q + 1 < zn E) (q7lt : q + 2 < zn E) (q8lt : t < zn E) (q9lt : t + 1 < zn E) (q10lt : t + 2 < zn E) (c0 : w0 b = .inr (4, [.ref (ad E (b + 1)), .ref (ad E (b + 2)), .ref (ad E (b + 3)), .ref (ad E (b + 4))])) (c1 : w0 (b + 1) = zar E 30 r1) (c2 : w0 (b + 2) = zar E 30 r2) (c3 : w0 (b + 3) = zar E 30 r3) (c4 : w0 (b + 4) = zar E 30 r4) (c5 : w0 q = .inr (1, [.ref (zg E (1 + kd)), .int (iI pl), .ref (ad E (q + 1))])) (c6 : w0 (q + 1) = .inr (0, [.ref (ad E (q + 2)), .int (iI ng)])) (c7 : w0 (q + 2) = zar E 15 f) (c8 : w0 t = .inr (1, [.ref (zg E (1 + kt)), .int (iI pt), .ref (ad E (t + 1))])) (c9 : w0 (t + 1) = .inr (0, [.ref (ad E (t + 2)), .int (iI nt)])) (c10 : w0 (t + 2) = zar E 15 h) (br1 : bd r1 30 0 9999) (br2 : bd r2 30 0 9999) (br3 : bd r3 30 0 9999) (br4 : bd r4 30 0 9999) (bf : bd f 15 0 9999) (hkd : kd < 4) (hng : ng = 0 ∨ ng = 1) (hpl : 0 ≤ pl ∧ pl ≤ 24) (vA : V f 15 < Bp 14) (bh : bd h 15 0 9999) (hkt : kt < 4) (hnt : nt = 0 ∨ nt = 1) (hqt : t + 2 < q) (hbt : b + 4 < t) (hop : 0 ≤ op ∧ op ≤ 6) (hn0 : zr n0) (hnf : kd ≠ 1 → pl = 0 ∧ ng = 0 ∧ V f 15 = 0) : zM l y_B_alter ws_B_alter rm_B_alter E [.ref (ad E b), .int (iI op), .ref (ad E q), .int (iI n0), .ref (ad E t)] w0 (zQi E w0 (fun z w' => (∃ (r1' : Int → Int) (r2' : Int → Int) (r3' : Int → Int) (r4' : Int → Int) (k' : Nat) (p' : Int) (n' : Int) (f' : Int → Int), w' (b + 1) = zar E 30 r1' ∧ w' (b + 2) = zar E 30 r2' ∧ w' (b + 3) = zar E 30 r3' ∧ w' (b + 4) = zar E 30 r4' ∧ w' t = .inr (1, [.ref (zg E (1 + k')), .int (iI p'), .ref (ad E (t + 1))]) ∧ w' (t + 1) = .inr (0, [.ref (ad E (t + 2)), .int (iI n')]) ∧ w' (t + 2) = zar E 15 f' ∧ bd r1' 30 0 9999 ∧ bd r2' 30 0 9999 ∧ bd r3' 30 0 9999 ∧ bd r4' 30 0 9999 ∧ bd f' 15 0 9999 ∧ (k' < 4 ∧ (n' = 0 ∨ n' = 1) ∧ Nf z k' p' n' (V f' 15) ∧ AlR op (clm n0) z k' p' n' (V f' 15) kd pl ng (V f 15))) ∧ ∀ k, k ≠ (b + 1) → k ≠ (b + 2) → k ≠ (b + 3) → k ≠ (b + 4) → k ≠ t → k ≠ (t + 1) → k ≠ (t + 2) → w' k = w0 k)) := by
  refine z_met (cc := b_B_alter) (maxL := 6) (ret := (some .int)) (by decide +kernel) rfl (Nat.le_of_ble_eq_true rfl) ?_
  intro p e s m below meth cd ls a Qf hQ hC hl hH
  obtain ⟨hF, hr, hlk, hK, hG, hn⟩ := hC
  obtain ⟨hx, hb, hml, hown, hts⟩ := hF
  have hg : ∀ w ∈ GW, w.before a s = true := fun w h => hts w (List.mem_cons_of_mem _ h)
  have hA : ∀ q, s.heap.size ≤ q → va_A (wl E w0) s.heap.size q := fun q h => Or.inr h
  have hl : lv_has ls 6 [(0, .ref (ad E b)), (1, .int (iI op)), (2, .ref (ad E q)), (3, .int (iI n0)), (4, .ref (ad E t))] := hl
  have vf := V_in bf (show (0 : Int) ≤ 15 by decide) (Int.le_refl 15)
  refine lv_iload_n hx hb d_B_alter_0 rfl (lv_at hl 1 rfl) ?_
  refine zv_bipush hx hb d_B_alter_1 rfl ?_
  refine zv_icmp_ne (tgt := 16) hx hb d_B_alter_3 rfl (by omega) (by omega) (fun h1 => ?_) (fun h1 => ?_)
  · refine lv_aload hx hb d_B_alter_16 (lv_at hl 4 rfl) ?_
    refine lv_aload_n hx hb d_B_alter_18 rfl (lv_at hl 2 rfl) ?_
    refine z_callv (va_runV (As := [.ref (ad E q)]) (rest := []) ⟨hx, hb, hml, hown, hts⟩ (c_N_take (l := l) (E := E) (w0 := w0) (q := t) (r := q) (kd := kt) (ko := kd) (pl := pt) (po := pl) (ng := nt) (no := ng) (f := h) (g := f) (q0lt := q8lt) (q1lt := q9lt) (q2lt := q10lt) (q3lt := q5lt) (q4lt := q6lt) (q5lt := q7lt) (c0 := c8) (c1 := c9) (c2 := c10) (c3 := c5) (c4 := c6) (c5 := c7) (bf := bh) (hkd := by omega) (hng := by omega) (bg := bf) (hko := by omega) (hno := by omega) (hqr := by omega) s.heap.size) (z_cwV (C := "ScaledNumeralDesk$Numeral") 1 hg wm_324 wm_384 wm_2 wm_322 wm_323 (by decide +kernel) ⟨Nat.le_of_ble_eq_true rfl, Nat.le_of_ble_eq_true rfl⟩) (z_preV (r := ("ScaledNumeralDesk$Numeral", TN, 3)) hK hG hn hH hA q8lt c8 rfl) rfl rfl hl.1 rfl (lv_room (Nat.le_of_ble_eq_true rfl)) d_B_alter_19 ⟨Nat.zero_le _, Nat.zero_le _⟩) hH hA (fun  w4 H2 lc3 hH5 p19 => ?_)
    obtain ⟨⟨g9, e6, e7, e8, bd9, p19⟩, hg10⟩ := p19
    replace bd9 : bd g9 15 0 9999 := bd9
    replace p19 : V g9 15 = V f 15 := p19
    have e11 : w4 b = .inr (4, [.ref (ad E (b + 1)), .ref (ad E (b + 2)), .ref (ad E (b + 3)), .ref (ad E (b + 4))]) := (hg10 b (nx_B_alter_0 hqt hbt) (nx_B_alter_1 hqt hbt) (nx_B_alter_2 hqt hbt)).trans c0
    have e12 : w4 (b + 1) = zar E 30 r1 := (hg10 (b + 1) (nx_B_alter_3 hqt hbt) (nx_B_alter_4 hqt hbt) (nx_B_alter_5 hqt hbt)).trans c1
    have e13 : w4 (b + 2) = zar E 30 r2 := (hg10 (b + 2) (nx_B_alter_6 hqt hbt) (nx_B_alter_7 hqt hbt) (nx_B_alter_8 hqt hbt)).trans c2
    have e14 : w4 (b + 3) = zar E 30 r3 := (hg10 (b + 3) (nx_B_alter_9 hqt hbt) (nx_B_alter_10 hqt hbt) (nx_B_alter_11 hqt hbt)).trans c3
    have e15 : w4 (b + 4) = zar E 30 r4 := (hg10 (b + 4) (nx_B_alter_12 hqt hbt) (nx_B_alter_13 hqt hbt) (nx_B_alter_14 hqt hbt)).trans c4
    have e16 : w4 q = .inr (1, [.ref (zg E (1 + kd)), .int (iI pl), .ref (ad E (q + 1))]) := (hg10 q (nx_B_alter_15 hqt hbt) (nx_B_alter_16 hqt hbt) (nx_B_alter_17 hqt hbt)).trans c5
    have e17 : w4 (q + 1) = .inr (0, [.ref (ad E (q + 2)), .int (iI ng)]) := (hg10 (q + 1) (nx_B_alter_18 hqt hbt) (nx_B_alter_19 hqt hbt) (nx_B_alter_20 hqt hbt)).trans c6
    have e18 : w4 (q + 2) = zar E 15 f := (hg10 (q + 2) (nx_B_alter_21 hqt hbt) (nx_B_alter_22 hqt hbt) (nx_B_alter_23 hqt hbt)).trans c7
    have hf19 : ∀ k, k ≠ t → k ≠ (t + 1) → k ≠ (t + 2) → w4 k = w0 k := fun k g0 g1 g2 => hg10 k g0 g1 g2
    refine lv_aload_n hx hb d_B_alter_22 rfl (lv_at hl 2 rfl) ?_
    refine z_calli (va_runV (As := []) (rest := []) ⟨hx, hb, hml, hown, hts⟩ (c_N_isFinite (l := l) (E := E) (w0 := w4) (q := q) (kd := kd) (pl := pl) (ng := ng) (f := f) (q0lt := q5lt) (q1lt := q6lt) (q2lt := q7lt) (c0 := e16) (c1 := e17) (c2 := e18) (bf := bf) (hkd := by omega) (hng := by omega) H2.size) (z_cwV (C := "ScaledNumeralDesk$Numeral") 0 hg wm_344 wm_379 wm_2 wm_342 wm_343 (by decide +kernel) ⟨Nat.le_of_ble_eq_true rfl, Nat.le_of_ble_eq_true rfl⟩) (z_preV (r := ("ScaledNumeralDesk$Numeral", TN, 3)) hK hG hn hH5 hA q5lt e16 rfl) rfl rfl hl.1 rfl (lv_room (Nat.le_of_ble_eq_true rfl)) d_B_alter_23 ⟨Nat.zero_le _, Nat.zero_le _⟩) hH5 hA (fun z24 w22 H20 lc21 hH23 p23 => ?_)
    obtain ⟨ew25, p23⟩ := p23
    rw [ew25] at hH23
    replace p23 : (z24 = 1 ∧ kd = 1) ∨ (z24 = 0 ∧ kd ≠ 1) := p23
    refine zv_if_ne (tgt := 37) hx hb d_B_alter_26 rfl (by omega) (fun h26 => ?_) (fun h26 => ?_)
    · refine zv_bipush hx hb d_B_alter_37 rfl ?_
      refine lv_iload_n hx hb d_B_alter_39 rfl (lv_at hl 3 rfl) ?_
      refine zv_bipush hx hb d_B_alter_40 rfl ?_
      refine z_calli (va_runS (As := [.int (iI n0), .int (iI 24)]) (rest := [.int (iI (-32))]) ⟨hx, hb, hml, hown, hts⟩ (c_min (l := l) (E := E) (w0 := w4) (x := n0) (y := 24) (zx := by omega) (zy := by omega) H20.size) (z_cwS 2 hg wm_279 wm_429 wm_15 wm_278 (by decide +kernel) ⟨Nat.le_of_ble_eq_true rfl, Nat.le_of_ble_eq_true rfl⟩) (z_preS hK hG hn hH23 hA) rfl rfl hl.1 rfl (lv_room (Nat.le_of_ble_eq_true rfl)) d_B_alter_42 ⟨Nat.zero_le _, Nat.zero_le _⟩) hH23 hA (fun z31 w29 H27 lc28 hH30 p42 => ?_)
      obtain ⟨ew32, p42⟩ := p42
      rw [ew32] at hH30
      replace p42 : z31 = min n0 (24 : Int) := p42
      refine z_calli (va_runS (As := [.int (iI (-32)), .int (iI z31)]) (rest := []) ⟨hx, hb, hml, hown, hts⟩ (c_max (l := l) (E := E) (w0 := w4) (x := -32) (y := z31) (zx := by omega) (zy := by omega) H27.size) (z_cwS 2 hg wm_275 wm_400 wm_15 wm_274 (by decide +kernel) ⟨Nat.le_of_ble_eq_true rfl, Nat.le_of_ble_eq_true rfl⟩) (z_preS hK hG hn hH30 hA) rfl rfl hl.1 rfl (lv_room (Nat.le_of_ble_eq_true rfl)) d_B_alter_45 ⟨Nat.zero_le _, Nat.zero_le _⟩) hH30 hA (fun m w35 H33 lc34 hH36 p45 => ?_)
      obtain ⟨ew37, p45⟩ := p45
      rw [ew37] at hH36
      replace p45 : m = max (-32 : Int) z31 := p45
      have hm : m = clm n0 := by rw [p45, p42]; rfl
      have hm2 := clm_in n0
      rw [← hm] at hm2
      clear p45 p42
      refine lv_istore (lv' := [(5, .int (iI m)), (0, .ref (ad E b)), (1, .int (iI op)), (2, .ref (ad E q)), (3, .int (iI n0)), (4, .ref (ad E t))]) hx hb d_B_alter_48 hl (by decide) rfl (fun ls hl => ?_)
      refine lv_iload_n hx hb d_B_alter_50 rfl (lv_at hl 2 rfl) ?_
      rcases (show op = 0 ∨ op = 1 ∨ op = 2 ∨ op = 3 ∨ op = 4 ∨ op = 5 by omega) with rfl | rfl | rfl | rfl | rfl | rfl
      · refine lv_tableIn (x := iI 0) (off := 37) (tgt := 88) hx hb d_B_alter_51 (by decide) (by decide) (by decide) (by decide) ?_
        refine lv_aload hx hb d_B_alter_88 (lv_at hl 5 rfl) ?_
        refine lv_iload hx hb d_B_alter_90 (lv_at hl 0 rfl) ?_
        refine z_callv (va_runV (As := [.int (iI m)]) (rest := []) ⟨hx, hb, hml, hown, hts⟩ (c_N_roundAt (l := l) (E := E) (w0 := w4) (q := t) (kd := kd) (pl := pl) (ng := ng) (x := m) (f := g9) (q0lt := q8lt) (q1lt := q9lt) (q2lt := q10lt) (c0 := e6) (c1 := e7) (c2 := e8) (bf := bd9) (hkd := by omega) (hng := by omega) (hx0 := by omega) H33.size) (z_cwV (C := "ScaledNumeralDesk$Numeral") 1 hg wm_526 wm_523 wm_2 wm_524 wm_525 (by decide +kernel) ⟨Nat.le_of_ble_eq_true rfl, Nat.le_of_ble_eq_true rfl⟩) (z_preV (r := ("ScaledNumeralDesk$Numeral", TN, 3)) hK hG hn hH36 hA q8lt e6 rfl) rfl rfl hl.1 rfl (lv_room (Nat.le_of_ble_eq_true rfl)) d_B_alter_92 ⟨Nat.zero_le _, Nat.zero_le _⟩) hH36 hA (fun  w40 H38 lc39 hH41 p92 => ?_)
        obtain ⟨⟨p_42, n_43, f_44, e45, e46, e47, bd48, p92⟩, hg49⟩ := p92
        replace bd48 : bd f_44 15 0 9999 := bd48
        replace p92 : V f_44 15 = Rn (V g9 15) (24 - m) % Bp 15 ∧ (n_43 = 0 ∨ n_43 = 1) ∧ (V f_44 15 = 0 → n_43 = 0) ∧ (0 < V f_44 15 → n_43 = ng) ∧ p_42 = mx0 m := p92
        have e50 : w40 b = .inr (4, [.ref (ad E (b + 1)), .ref (ad E (b + 2)), .ref (ad E (b + 3)), .ref (ad E (b + 4))]) := (hg49 b (nx_B_alter_0 hqt hbt) (nx_B_alter_1 hqt hbt) (nx_B_alter_2 hqt hbt)).trans e11
        have e51 : w40 (b + 1) = zar E 30 r1 := (hg49 (b + 1) (nx_B_alter_3 hqt hbt) (nx_B_alter_4 hqt hbt) (nx_B_alter_5 hqt hbt)).trans e12
        have e52 : w40 (b + 2) = zar E 30 r2 := (hg49 (b + 2) (nx_B_alter_6 hqt hbt) (nx_B_alter_7 hqt hbt) (nx_B_alter_8 hqt hbt)).trans e13
        have e53 : w40 (b + 3) = zar E 30 r3 := (hg49 (b + 3) (nx_B_alter_9 hqt hbt) (nx_B_alter_10 hqt hbt) (nx_B_alter_11 hqt hbt)).trans e14
        have e54 : w40 (b + 4) = zar E 30 r4 := (hg49 (b + 4) (nx_B_alter_12 hqt hbt) (nx_B_alter_13 hqt hbt) (nx_B_alter_14 hqt hbt)).trans e15
        have e55 : w40 q = .inr (1, [.ref (zg E (1 + kd)), .int (iI pl), .ref (ad E (q + 1))]) := (hg49 q (nx_B_alter_15 hqt hbt) (nx_B_alter_16 hqt hbt) (nx_B_alter_17 hqt hbt)).trans e16
        have e56 : w40 (q + 1) = .inr (0, [.ref (ad E (q + 2)), .int (iI ng)]) := (hg49 (q + 1) (nx_B_alter_18 hqt hbt) (nx_B_alter_19 hqt hbt) (nx_B_alter_20 hqt hbt)).trans e17
        have e57 : w40 (q + 2) = zar E 15 f := (hg49 (q + 2) (nx_B_alter_21 hqt hbt) (nx_B_alter_22 hqt hbt) (nx_B_alter_23 hqt hbt)).trans e18
        have hf58 : ∀ k, k ≠ t → k ≠ (t + 1) → k ≠ (t + 2) → w40 k = w0 k := fun k g0 g1 g2 => (hg49 k g0 g1 g2).trans (hf19 k g0 g1 g2)
        rw [p19] at p92
        refine lv_goto (tgt := 168) hx hb d_B_alter_95 rfl ?_
        refine lv_aload hx hb d_B_alter_168 (lv_at hl 5 rfl) ?_
        refine z_calli (va_runS (As := [.ref (ad E t)]) (rest := []) ⟨hx, hb, hml, hown, hts⟩ (c_B_judged (l := l) (E := E) (w0 := w40) (q := t) (kd := kd) (pl := p_42) (ng := n_43) (f := f_44) (q0lt := q8lt) (q1lt := q9lt) (q2lt := q10lt) (c0 := e45) (c1 := e46) (c2 := e47) (bf := bd48) (hkd := by omega) (hng := by omega) H38.size) (z_cwS 1 hg wm_403 wm_401 wm_8 wm_402 (by decide +kernel) ⟨Nat.le_of_ble_eq_true rfl, Nat.le_of_ble_eq_true rfl⟩) (z_preS hK hG hn hH41 hA) rfl rfl hl.1 rfl (lv_room (Nat.le_of_ble_eq_true rfl)) d_B_alter_170 ⟨Nat.zero_le _, Nat.zero_le _⟩) hH41 hA (fun z63 w61 H59 lc60 hH62 p170 => ?_)
        obtain ⟨ew64, p170⟩ := p170
        rw [ew64] at hH62
        replace p170 : (z63 = -3 ∧ Tp 56 ≤ V f_44 15) ∨ (z63 = 0 ∧ V f_44 15 < Tp 56) := p170
        have rv := p92.1.trans (rn15 vf.1 vA (by omega))
        rw [hQ]
        exact z_iret hx hb hr hlk hH62 (⟨⟨r1, r2, r3, r4, kd, p_42, n_43, f_44, e51, e52, e53, e54, e45, e46, e47, br1, br2, br3, br4, bd48, ⟨by omega, p92.2.1, Nf_1 (by omega), Or.inr ⟨by omega, Or.inr (Or.inl ⟨by omega, by decide, by omega, Or.inl ⟨rfl, by rw [rv, hm], by rw [p92.2.2.2.2, hm], p92.2.2.1, p92.2.2.2.1⟩, p170⟩)⟩⟩⟩, (fun k g0 g1 g2 g3 g4 g5 g6 => hf58 k g4 g5 g6)⟩) d_B_alter_173
      · refine lv_tableIn (x := iI 1) (off := 47) (tgt := 98) hx hb d_B_alter_51 (by decide) (by decide) (by decide) (by decide) ?_
        refine lv_aload hx hb d_B_alter_98 (lv_at hl 5 rfl) ?_
        refine lv_iload hx hb d_B_alter_100 (lv_at hl 0 rfl) ?_
        refine z_callv (va_runV (As := [.int (iI m)]) (rest := []) ⟨hx, hb, hml, hown, hts⟩ (c_N_truncateAt (l := l) (E := E) (w0 := w4) (q := t) (kd := kd) (pl := pl) (ng := ng) (x := m) (f := g9) (q0lt := q8lt) (q1lt := q9lt) (q2lt := q10lt) (c0 := e6) (c1 := e7) (c2 := e8) (bf := bd9) (hkd := by omega) (hng := by omega) (hx0 := by omega) H33.size) (z_cwV (C := "ScaledNumeralDesk$Numeral") 1 hg wm_536 wm_533 wm_2 wm_534 wm_535 (by decide +kernel) ⟨Nat.le_of_ble_eq_true rfl, Nat.le_of_ble_eq_true rfl⟩) (z_preV (r := ("ScaledNumeralDesk$Numeral", TN, 3)) hK hG hn hH36 hA q8lt e6 rfl) rfl rfl hl.1 rfl (lv_room (Nat.le_of_ble_eq_true rfl)) d_B_alter_102 ⟨Nat.zero_le _, Nat.zero_le _⟩) hH36 hA (fun  w67 H65 lc66 hH68 p102 => ?_)
        obtain ⟨⟨p_69, n_70, f_71, e72, e73, e74, bd75, p102⟩, hg76⟩ := p102
        replace bd75 : bd f_71 15 0 9999 := bd75
        replace p102 : V f_71 15 = TcV (V g9 15) (24 - m) ∧ (n_70 = 0 ∨ n_70 = 1) ∧ (V f_71 15 = 0 → n_70 = 0) ∧ (0 < V f_71 15 → n_70 = ng) ∧ p_69 = mx0 m := p102
        have e77 : w67 b = .inr (4, [.ref (ad E (b + 1)), .ref (ad E (b + 2)), .ref (ad E (b + 3)), .ref (ad E (b + 4))]) := (hg76 b (nx_B_alter_0 hqt hbt) (nx_B_alter_1 hqt hbt) (nx_B_alter_2 hqt hbt)).trans e11
        have e78 : w67 (b + 1) = zar E 30 r1 := (hg76 (b + 1) (nx_B_alter_3 hqt hbt) (nx_B_alter_4 hqt hbt) (nx_B_alter_5 hqt hbt)).trans e12
        have e79 : w67 (b + 2) = zar E 30 r2 := (hg76 (b + 2) (nx_B_alter_6 hqt hbt) (nx_B_alter_7 hqt hbt) (nx_B_alter_8 hqt hbt)).trans e13
        have e80 : w67 (b + 3) = zar E 30 r3 := (hg76 (b + 3) (nx_B_alter_9 hqt hbt) (nx_B_alter_10 hqt hbt) (nx_B_alter_11 hqt hbt)).trans e14
        have e81 : w67 (b + 4) = zar E 30 r4 := (hg76 (b + 4) (nx_B_alter_12 hqt hbt) (nx_B_alter_13 hqt hbt) (nx_B_alter_14 hqt hbt)).trans e15
        have e82 : w67 q = .inr (1, [.ref (zg E (1 + kd)), .int (iI pl), .ref (ad E (q + 1))]) := (hg76 q (nx_B_alter_15 hqt hbt) (nx_B_alter_16 hqt hbt) (nx_B_alter_17 hqt hbt)).trans e16
        have e83 : w67 (q + 1) = .inr (0, [.ref (ad E (q + 2)), .int (iI ng)]) := (hg76 (q + 1) (nx_B_alter_18 hqt hbt) (nx_B_alter_19 hqt hbt) (nx_B_alter_20 hqt hbt)).trans e17
        have e84 : w67 (q + 2) = zar E 15 f := (hg76 (q + 2) (nx_B_alter_21 hqt hbt) (nx_B_alter_22 hqt hbt) (nx_B_alter_23 hqt hbt)).trans e18
        have hf85 : ∀ k, k ≠ t → k ≠ (t + 1) → k ≠ (t + 2) → w67 k = w0 k := fun k g0 g1 g2 => (hg76 k g0 g1 g2).trans (hf19 k g0 g1 g2)
        rw [p19] at p102
        refine lv_goto (tgt := 168) hx hb d_B_alter_105 rfl ?_
        refine lv_aload hx hb d_B_alter_168 (lv_at hl 5 rfl) ?_
        refine z_calli (va_runS (As := [.ref (ad E t)]) (rest := []) ⟨hx, hb, hml, hown, hts⟩ (c_B_judged (l := l) (E := E) (w0 := w67) (q := t) (kd := kd) (pl := p_69) (ng := n_70) (f := f_71) (q0lt := q8lt) (q1lt := q9lt) (q2lt := q10lt) (c0 := e72) (c1 := e73) (c2 := e74) (bf := bd75) (hkd := by omega) (hng := by omega) H65.size) (z_cwS 1 hg wm_403 wm_401 wm_8 wm_402 (by decide +kernel) ⟨Nat.le_of_ble_eq_true rfl, Nat.le_of_ble_eq_true rfl⟩) (z_preS hK hG hn hH68 hA) rfl rfl hl.1 rfl (lv_room (Nat.le_of_ble_eq_true rfl)) d_B_alter_170 ⟨Nat.zero_le _, Nat.zero_le _⟩) hH68 hA (fun z90 w88 H86 lc87 hH89 p170 => ?_)
        obtain ⟨ew91, p170⟩ := p170
        rw [ew91] at hH89
        replace p170 : (z90 = -3 ∧ Tp 56 ≤ V f_71 15) ∨ (z90 = 0 ∧ V f_71 15 < Tp 56) := p170
        rw [hQ]
        exact z_iret hx hb hr hlk hH89 (⟨⟨r1, r2, r3, r4, kd, p_69, n_70, f_71, e78, e79, e80, e81, e72, e73, e74, br1, br2, br3, br4, bd75, ⟨by omega, p102.2.1, Nf_1 (by omega), Or.inr ⟨by omega, Or.inr (Or.inl ⟨by omega, by decide, by omega, Or.inr (Or.inl ⟨rfl, by rw [p102.1, hm], by rw [p102.2.2.2.2, hm], p102.2.2.1, p102.2.2.2.1⟩), p170⟩)⟩⟩⟩, (fun k g0 g1 g2 g3 g4 g5 g6 => hf85 k g4 g5 g6)⟩) d_B_alter_173
      · refine lv_tableIn (x := iI 2) (off := 57) (tgt := 108) hx hb d_B_alter_51 (by decide) (by decide) (by decide) (by decide) ?_
        refine lv_aload hx hb d_B_alter_108 (lv_at hl 5 rfl) ?_
        refine zv_iconst hx hb d_B_alter_110 ?_
        refine z_callv (va_runV (As := [.int (iI 0)]) (rest := []) ⟨hx, hb, hml, hown, hts⟩ (c_N_makeWhole (l := l) (E := E) (w0 := w4) (q := t) (kd := kd) (pl := pl) (ng := ng) (aw := 0) (f := g9) (q0lt := q8lt) (q1lt := q9lt) (q2lt := q10lt) (c0 := e6) (c1 := e7) (c2 := e8) (bf := bd9) (hkd := by omega) (hng := by omega) (haw := by omega) (hV := (by show V g9 15 + Tp 24 < Bp 15; rw [p19]; exact mw_lt vA)) H33.size) (z_cwV (C := "ScaledNumeralDesk$Numeral") 1 hg wm_541 wm_538 wm_2 wm_539 wm_540 (by decide +kernel) ⟨Nat.le_of_ble_eq_true rfl, Nat.le_of_ble_eq_true rfl⟩) (z_preV (r := ("ScaledNumeralDesk$Numeral", TN, 3)) hK hG hn hH36 hA q8lt e6 rfl) rfl rfl hl.1 rfl (lv_room (Nat.le_of_ble_eq_true rfl)) d_B_alter_111 ⟨Nat.zero_le _, Nat.zero_le _⟩) hH36 hA (fun  w94 H92 lc93 hH95 p111 => ?_)
        obtain ⟨⟨n_96, f_97, e98, e99, e100, bd101, p111⟩, hg102⟩ := p111
        replace bd101 : bd f_97 15 0 9999 := bd101
        replace p111 : V f_97 15 = MwV ng (0 : Int) (V g9 15) ∧ (n_96 = 0 ∨ n_96 = 1) ∧ (V f_97 15 = 0 → n_96 = 0) ∧ (0 < V f_97 15 → n_96 = ng) := p111
        have e103 : w94 b = .inr (4, [.ref (ad E (b + 1)), .ref (ad E (b + 2)), .ref (ad E (b + 3)), .ref (ad E (b + 4))]) := (hg102 b (nx_B_alter_0 hqt hbt) (nx_B_alter_1 hqt hbt) (nx_B_alter_2 hqt hbt)).trans e11
        have e104 : w94 (b + 1) = zar E 30 r1 := (hg102 (b + 1) (nx_B_alter_3 hqt hbt) (nx_B_alter_4 hqt hbt) (nx_B_alter_5 hqt hbt)).trans e12
        have e105 : w94 (b + 2) = zar E 30 r2 := (hg102 (b + 2) (nx_B_alter_6 hqt hbt) (nx_B_alter_7 hqt hbt) (nx_B_alter_8 hqt hbt)).trans e13
        have e106 : w94 (b + 3) = zar E 30 r3 := (hg102 (b + 3) (nx_B_alter_9 hqt hbt) (nx_B_alter_10 hqt hbt) (nx_B_alter_11 hqt hbt)).trans e14
        have e107 : w94 (b + 4) = zar E 30 r4 := (hg102 (b + 4) (nx_B_alter_12 hqt hbt) (nx_B_alter_13 hqt hbt) (nx_B_alter_14 hqt hbt)).trans e15
        have e108 : w94 q = .inr (1, [.ref (zg E (1 + kd)), .int (iI pl), .ref (ad E (q + 1))]) := (hg102 q (nx_B_alter_15 hqt hbt) (nx_B_alter_16 hqt hbt) (nx_B_alter_17 hqt hbt)).trans e16
        have e109 : w94 (q + 1) = .inr (0, [.ref (ad E (q + 2)), .int (iI ng)]) := (hg102 (q + 1) (nx_B_alter_18 hqt hbt) (nx_B_alter_19 hqt hbt) (nx_B_alter_20 hqt hbt)).trans e17
        have e110 : w94 (q + 2) = zar E 15 f := (hg102 (q + 2) (nx_B_alter_21 hqt hbt) (nx_B_alter_22 hqt hbt) (nx_B_alter_23 hqt hbt)).trans e18
        have hf111 : ∀ k, k ≠ t → k ≠ (t + 1) → k ≠ (t + 2) → w94 k = w0 k := fun k g0 g1 g2 => (hg102 k g0 g1 g2).trans (hf19 k g0 g1 g2)
        rw [p19] at p111
        refine lv_goto (tgt := 168) hx hb d_B_alter_114 rfl ?_
        refine lv_aload hx hb d_B_alter_168 (lv_at hl 5 rfl) ?_
        refine z_calli (va_runS (As := [.ref (ad E t)]) (rest := []) ⟨hx, hb, hml, hown, hts⟩ (c_B_judged (l := l) (E := E) (w0 := w94) (q := t) (kd := kd) (pl := 0) (ng := n_96) (f := f_97) (q0lt := q8lt) (q1lt := q9lt) (q2lt := q10lt) (c0 := e98) (c1 := e99) (c2 := e100) (bf := bd101) (hkd := by omega) (hng := by omega) H92.size) (z_cwS 1 hg wm_403 wm_401 wm_8 wm_402 (by decide +kernel) ⟨Nat.le_of_ble_eq_true rfl, Nat.le_of_ble_eq_true rfl⟩) (z_preS hK hG hn hH95 hA) rfl rfl hl.1 rfl (lv_room (Nat.le_of_ble_eq_true rfl)) d_B_alter_170 ⟨Nat.zero_le _, Nat.zero_le _⟩) hH95 hA (fun z116 w114 H112 lc113 hH115 p170 => ?_)
        obtain ⟨ew117, p170⟩ := p170
        rw [ew117] at hH115
        replace p170 : (z116 = -3 ∧ Tp 56 ≤ V f_97 15) ∨ (z116 = 0 ∧ V f_97 15 < Tp 56) := p170
        rw [hQ]
        exact z_iret hx hb hr hlk hH115 (⟨⟨r1, r2, r3, r4, kd, 0, n_96, f_97, e104, e105, e106, e107, e98, e99, e100, br1, br2, br3, br4, bd101, ⟨by omega, p111.2.1, Nf_1 (by omega), Or.inr ⟨by omega, Or.inr (Or.inl ⟨by omega, by decide, by omega, Or.inr (Or.inr (Or.inl ⟨Or.inl rfl, p111.1, rfl, p111.2.2.1, p111.2.2.2⟩)), p170⟩)⟩⟩⟩, (fun k g0 g1 g2 g3 g4 g5 g6 => hf111 k g4 g5 g6)⟩) d_B_alter_173
      · refine lv_tableIn (x := iI 3) (off := 66) (tgt := 117) hx hb d_B_alter_51 (by decide) (by decide) (by decide) (by decide) ?_
        refine lv_aload hx hb d_B_alter_117 (lv_at hl 5 rfl) ?_
        refine zv_iconst hx hb d_B_alter_119 ?_
        refine z_callv (va_runV (As := [.int (iI 1)]) (rest := []) ⟨hx, hb, hml, hown, hts⟩ (c_N_makeWhole (l := l) (E := E) (w0 := w4) (q := t) (kd := kd) (pl := pl) (ng := ng) (aw := 1) (f := g9) (q0lt := q8lt) (q1lt := q9lt) (q2lt := q10lt) (c0 := e6) (c1 := e7) (c2 := e8) (bf := bd9) (hkd := by omega) (hng := by omega) (haw := by omega) (hV := (by show V g9 15 + Tp 24 < Bp 15; rw [p19]; exact mw_lt vA)) H33.size) (z_cwV (C := "ScaledNumeralDesk$Numeral") 1 hg wm_541 wm_538 wm_2 wm_539 wm_540 (by decide +kernel) ⟨Nat.le_of_ble_eq_true rfl, Nat.le_of_ble_eq_true rfl⟩) (z_preV (r := ("ScaledNumeralDesk$Numeral", TN, 3)) hK hG hn hH36 hA q8lt e6 rfl) rfl rfl hl.1 rfl (lv_room (Nat.le_of_ble_eq_true rfl)) d_B_alter_120 ⟨Nat.zero_le _, Nat.zero_le _⟩) hH36 hA (fun  w120 H118 lc119 hH121 p120 => ?_)
        obtain ⟨⟨n_122, f_123, e124, e125, e126, bd127, p120⟩, hg128⟩ := p120
        replace bd127 : bd f_123 15 0 9999 := bd127
        replace p120 : V f_123 15 = MwV ng (1 : Int) (V g9 15) ∧ (n_122 = 0 ∨ n_122 = 1) ∧ (V f_123 15 = 0 → n_122 = 0) ∧ (0 < V f_123 15 → n_122 = ng) := p120
        have e129 : w120 b = .inr (4, [.ref (ad E (b + 1)), .ref (ad E (b + 2)), .ref (ad E (b + 3)), .ref (ad E (b + 4))]) := (hg128 b (nx_B_alter_0 hqt hbt) (nx_B_alter_1 hqt hbt) (nx_B_alter_2 hqt hbt)).trans e11
        have e130 : w120 (b + 1) = zar E 30 r1 := (hg128 (b + 1) (nx_B_alter_3 hqt hbt) (nx_B_alter_4 hqt hbt) (nx_B_alter_5 hqt hbt)).trans e12
        have e131 : w120 (b + 2) = zar E 30 r2 := (hg128 (b + 2) (nx_B_alter_6 hqt hbt) (nx_B_alter_7 hqt hbt) (nx_B_alter_8 hqt hbt)).trans e13
        have e132 : w120 (b + 3) = zar E 30 r3 := (hg128 (b + 3) (nx_B_alter_9 hqt hbt) (nx_B_alter_10 hqt hbt) (nx_B_alter_11 hqt hbt)).trans e14
        have e133 : w120 (b + 4) = zar E 30 r4 := (hg128 (b + 4) (nx_B_alter_12 hqt hbt) (nx_B_alter_13 hqt hbt) (nx_B_alter_14 hqt hbt)).trans e15
        have e134 : w120 q = .inr (1, [.ref (zg E (1 + kd)), .int (iI pl), .ref (ad E (q + 1))]) := (hg128 q (nx_B_alter_15 hqt hbt) (nx_B_alter_16 hqt hbt) (nx_B_alter_17 hqt hbt)).trans e16
        have e135 : w120 (q + 1) = .inr (0, [.ref (ad E (q + 2)), .int (iI ng)]) := (hg128 (q + 1) (nx_B_alter_18 hqt hbt) (nx_B_alter_19 hqt hbt) (nx_B_alter_20 hqt hbt)).trans e17
        have e136 : w120 (q + 2) = zar E 15 f := (hg128 (q + 2) (nx_B_alter_21 hqt hbt) (nx_B_alter_22 hqt hbt) (nx_B_alter_23 hqt hbt)).trans e18
        have hf137 : ∀ k, k ≠ t → k ≠ (t + 1) → k ≠ (t + 2) → w120 k = w0 k := fun k g0 g1 g2 => (hg128 k g0 g1 g2).trans (hf19 k g0 g1 g2)
        rw [p19] at p120
        refine lv_goto (tgt := 168) hx hb d_B_alter_123 rfl ?_
        refine lv_aload hx hb d_B_alter_168 (lv_at hl 5 rfl) ?_
        refine z_calli (va_runS (As := [.ref (ad E t)]) (rest := []) ⟨hx, hb, hml, hown, hts⟩ (c_B_judged (l := l) (E := E) (w0 := w120) (q := t) (kd := kd) (pl := 0) (ng := n_122) (f := f_123) (q0lt := q8lt) (q1lt := q9lt) (q2lt := q10lt) (c0 := e124) (c1 := e125) (c2 := e126) (bf := bd127) (hkd := by omega) (hng := by omega) H118.size) (z_cwS 1 hg wm_403 wm_401 wm_8 wm_402 (by decide +kernel) ⟨Nat.le_of_ble_eq_true rfl, Nat.le_of_ble_eq_true rfl⟩) (z_preS hK hG hn hH121 hA) rfl rfl hl.1 rfl (lv_room (Nat.le_of_ble_eq_true rfl)) d_B_alter_170 ⟨Nat.zero_le _, Nat.zero_le _⟩) hH121 hA (fun z142 w140 H138 lc139 hH141 p170 => ?_)
        obtain ⟨ew143, p170⟩ := p170
        rw [ew143] at hH141
        replace p170 : (z142 = -3 ∧ Tp 56 ≤ V f_123 15) ∨ (z142 = 0 ∧ V f_123 15 < Tp 56) := p170
        rw [hQ]
        exact z_iret hx hb hr hlk hH141 (⟨⟨r1, r2, r3, r4, kd, 0, n_122, f_123, e130, e131, e132, e133, e124, e125, e126, br1, br2, br3, br4, bd127, ⟨by omega, p120.2.1, Nf_1 (by omega), Or.inr ⟨by omega, Or.inr (Or.inl ⟨by omega, by decide, by omega, Or.inr (Or.inr (Or.inl ⟨Or.inr rfl, p120.1, rfl, p120.2.2.1, p120.2.2.2⟩)), p170⟩)⟩⟩⟩, (fun k g0 g1 g2 g3 g4 g5 g6 => hf137 k g4 g5 g6)⟩) d_B_alter_173
      · refine lv_tableIn (x := iI 4) (off := 75) (tgt := 126) hx hb d_B_alter_51 (by decide) (by decide) (by decide) (by decide) ?_
        refine lv_aload hx hb d_B_alter_126 (lv_at hl 5 rfl) ?_
        refine zv_get (C := "ScaledNumeralDesk$Numeral") (T := TN) (N := 3) hx hb hg uN_in hown hK hH36 q8lt e6 rfl 2 (by decide) (hg _ wm_65) (fun _ h9 => h9) rfl d_B_alter_128 ?_
        refine lv_aload_n hx hb d_B_alter_131 rfl (lv_at hl 3 rfl) ?_
        refine zv_get (C := "ScaledNumeralDesk$Numeral") (T := TN) (N := 3) hx hb hg uN_in hown hK hH36 q5lt e16 rfl 2 (by decide) (hg _ wm_65) (fun _ h9 => h9) rfl d_B_alter_132 ?_
        refine zv_get (C := "ScaledNumeralDesk$Amount") (T := TA) (N := 2) hx hb hg uA_in hown hK hH36 q6lt e17 rfl 1 (by decide) (hg _ wm_47) (fun _ h9 => h9) rfl d_B_alter_135 ?_
        refine zv_if_ne (tgt := 145) hx hb d_B_alter_138 rfl (by omega) (fun h144 => ?_) (fun h144 => ?_)
        · refine zv_iconst hx hb d_B_alter_145 ?_
          refine z_callv (va_runV (As := [.int (iI 0)]) (rest := []) ⟨hx, hb, hml, hown, hts⟩ (c_A_signAs (l := l) (E := E) (w0 := w4) (q := t + 1) (f := g9) (ng := ng) (mn := 0) (q0lt := q9lt) (q1lt := q10lt) (c0 := e7) (c1 := e8) (bf := bd9) (hmn := by omega) H33.size) (z_cwV (C := "ScaledNumeralDesk$Amount") 1 hg wm_293 wm_444 wm_5 wm_291 wm_292 (by decide +kernel) ⟨Nat.le_of_ble_eq_true rfl, Nat.le_of_ble_eq_true rfl⟩) (z_preV (r := ("ScaledNumeralDesk$Amount", TA, 2)) hK hG hn hH36 hA q9lt e7 rfl) rfl rfl hl.1 rfl (lv_room (Nat.le_of_ble_eq_true rfl)) d_B_alter_146 ⟨Nat.zero_le _, Nat.zero_le _⟩) hH36 hA (fun  w147 H145 lc146 hH148 p146 => ?_)
          obtain ⟨⟨n_149, e150, p146⟩, hg151⟩ := p146
          replace p146 : (n_149 = 0 ∨ n_149 = 1) ∧ (V g9 15 = 0 → n_149 = 0) ∧ (0 < V g9 15 → n_149 = (0 : Int)) := p146
          have e152 : w147 b = .inr (4, [.ref (ad E (b + 1)), .ref (ad E (b + 2)), .ref (ad E (b + 3)), .ref (ad E (b + 4))]) := (hg151 b (nx_B_alter_1 hqt hbt)).trans e11
          have e153 : w147 (b + 1) = zar E 30 r1 := (hg151 (b + 1) (nx_B_alter_4 hqt hbt)).trans e12
          have e154 : w147 (b + 2) = zar E 30 r2 := (hg151 (b + 2) (nx_B_alter_7 hqt hbt)).trans e13
          have e155 : w147 (b + 3) = zar E 30 r3 := (hg151 (b + 3) (nx_B_alter_10 hqt hbt)).trans e14
          have e156 : w147 (b + 4) = zar E 30 r4 := (hg151 (b + 4) (nx_B_alter_13 hqt hbt)).trans e15
          have e157 : w147 q = .inr (1, [.ref (zg E (1 + kd)), .int (iI pl), .ref (ad E (q + 1))]) := (hg151 q (nx_B_alter_16 hqt hbt)).trans e16
          have e158 : w147 (q + 1) = .inr (0, [.ref (ad E (q + 2)), .int (iI ng)]) := (hg151 (q + 1) (nx_B_alter_19 hqt hbt)).trans e17
          have e159 : w147 (q + 2) = zar E 15 f := (hg151 (q + 2) (nx_B_alter_22 hqt hbt)).trans e18
          have e160 : w147 t = .inr (1, [.ref (zg E (1 + kd)), .int (iI pl), .ref (ad E (t + 1))]) := (hg151 t (nx_B_alter_24 hqt hbt)).trans e6
          have e161 : w147 (t + 2) = zar E 15 g9 := (hg151 (t + 2) (nx_B_alter_25 hqt hbt)).trans e8
          have hf162 : ∀ k, k ≠ t → k ≠ (t + 1) → k ≠ (t + 2) → w147 k = w0 k := fun k g0 g1 g2 => (hg151 k g1).trans (hf19 k g0 g1 g2)
          rw [p19] at p146
          refine lv_goto (tgt := 168) hx hb d_B_alter_149 rfl ?_
          refine lv_aload hx hb d_B_alter_168 (lv_at hl 5 rfl) ?_
          refine z_calli (va_runS (As := [.ref (ad E t)]) (rest := []) ⟨hx, hb, hml, hown, hts⟩ (c_B_judged (l := l) (E := E) (w0 := w147) (q := t) (kd := kd) (pl := pl) (ng := n_149) (f := g9) (q0lt := q8lt) (q1lt := q9lt) (q2lt := q10lt) (c0 := e160) (c1 := e150) (c2 := e161) (bf := bd9) (hkd := by omega) (hng := by omega) H145.size) (z_cwS 1 hg wm_403 wm_401 wm_8 wm_402 (by decide +kernel) ⟨Nat.le_of_ble_eq_true rfl, Nat.le_of_ble_eq_true rfl⟩) (z_preS hK hG hn hH148 hA) rfl rfl hl.1 rfl (lv_room (Nat.le_of_ble_eq_true rfl)) d_B_alter_170 ⟨Nat.zero_le _, Nat.zero_le _⟩) hH148 hA (fun z167 w165 H163 lc164 hH166 p170 => ?_)
          obtain ⟨ew168, p170⟩ := p170
          rw [ew168] at hH166
          replace p170 : (z167 = -3 ∧ Tp 56 ≤ V g9 15) ∨ (z167 = 0 ∧ V g9 15 < Tp 56) := p170
          rw [p19] at p170
          rw [hQ]
          exact z_iret hx hb hr hlk hH166 (⟨⟨r1, r2, r3, r4, kd, pl, n_149, g9, e153, e154, e155, e156, e160, e150, e161, br1, br2, br3, br4, bd9, ⟨by omega, p146.1, Nf_1 (by omega), Or.inr ⟨by omega, Or.inr (Or.inl ⟨by omega, by decide, by omega, Or.inr (Or.inr (Or.inr (Or.inl ⟨rfl, p19, rfl, by rw [p19]; exact p146.2.1, by rw [p19]; intro h9; rw [p146.2.2 h9]; omega⟩))), by rw [p19]; exact p170⟩)⟩⟩⟩, (fun k g0 g1 g2 g3 g4 g5 g6 => hf162 k g4 g5 g6)⟩) d_B_alter_173
        · refine zv_iconst hx hb d_B_alter_141 ?_
          refine lv_goto (tgt := 146) hx hb d_B_alter_142 rfl ?_
          refine z_callv (va_runV (As := [.int (iI 1)]) (rest := []) ⟨hx, hb, hml, hown, hts⟩ (c_A_signAs (l := l) (E := E) (w0 := w4) (q := t + 1) (f := g9) (ng := ng) (mn := 1) (q0lt := q9lt) (q1lt := q10lt) (c0 := e7) (c1 := e8) (bf := bd9) (hmn := by omega) H33.size) (z_cwV (C := "ScaledNumeralDesk$Amount") 1 hg wm_293 wm_444 wm_5 wm_291 wm_292 (by decide +kernel) ⟨Nat.le_of_ble_eq_true rfl, Nat.le_of_ble_eq_true rfl⟩) (z_preV (r := ("ScaledNumeralDesk$Amount", TA, 2)) hK hG hn hH36 hA q9lt e7 rfl) rfl rfl hl.1 rfl (lv_room (Nat.le_of_ble_eq_true rfl)) d_B_alter_146 ⟨Nat.zero_le _, Nat.zero_le _⟩) hH36 hA (fun  w171 H169 lc170 hH172 p146 => ?_)
          obtain ⟨⟨n_173, e174, p146⟩, hg175⟩ := p146
          replace p146 : (n_173 = 0 ∨ n_173 = 1) ∧ (V g9 15 = 0 → n_173 = 0) ∧ (0 < V g9 15 → n_173 = (1 : Int)) := p146
          have e176 : w171 b = .inr (4, [.ref (ad E (b + 1)), .ref (ad E (b + 2)), .ref (ad E (b + 3)), .ref (ad E (b + 4))]) := (hg175 b (nx_B_alter_1 hqt hbt)).trans e11
          have e177 : w171 (b + 1) = zar E 30 r1 := (hg175 (b + 1) (nx_B_alter_4 hqt hbt)).trans e12
          have e178 : w171 (b + 2) = zar E 30 r2 := (hg175 (b + 2) (nx_B_alter_7 hqt hbt)).trans e13
          have e179 : w171 (b + 3) = zar E 30 r3 := (hg175 (b + 3) (nx_B_alter_10 hqt hbt)).trans e14
          have e180 : w171 (b + 4) = zar E 30 r4 := (hg175 (b + 4) (nx_B_alter_13 hqt hbt)).trans e15
          have e181 : w171 q = .inr (1, [.ref (zg E (1 + kd)), .int (iI pl), .ref (ad E (q + 1))]) := (hg175 q (nx_B_alter_16 hqt hbt)).trans e16
          have e182 : w171 (q + 1) = .inr (0, [.ref (ad E (q + 2)), .int (iI ng)]) := (hg175 (q + 1) (nx_B_alter_19 hqt hbt)).trans e17
          have e183 : w171 (q + 2) = zar E 15 f := (hg175 (q + 2) (nx_B_alter_22 hqt hbt)).trans e18
          have e184 : w171 t = .inr (1, [.ref (zg E (1 + kd)), .int (iI pl), .ref (ad E (t + 1))]) := (hg175 t (nx_B_alter_24 hqt hbt)).trans e6
          have e185 : w171 (t + 2) = zar E 15 g9 := (hg175 (t + 2) (nx_B_alter_25 hqt hbt)).trans e8
          have hf186 : ∀ k, k ≠ t → k ≠ (t + 1) → k ≠ (t + 2) → w171 k = w0 k := fun k g0 g1 g2 => (hg175 k g1).trans (hf19 k g0 g1 g2)
          rw [p19] at p146
          refine lv_goto (tgt := 168) hx hb d_B_alter_149 rfl ?_
          refine lv_aload hx hb d_B_alter_168 (lv_at hl 5 rfl) ?_
          refine z_calli (va_runS (As := [.ref (ad E t)]) (rest := []) ⟨hx, hb, hml, hown, hts⟩ (c_B_judged (l := l) (E := E) (w0 := w171) (q := t) (kd := kd) (pl := pl) (ng := n_173) (f := g9) (q0lt := q8lt) (q1lt := q9lt) (q2lt := q10lt) (c0 := e184) (c1 := e174) (c2 := e185) (bf := bd9) (hkd := by omega) (hng := by omega) H169.size) (z_cwS 1 hg wm_403 wm_401 wm_8 wm_402 (by decide +kernel) ⟨Nat.le_of_ble_eq_true rfl, Nat.le_of_ble_eq_true rfl⟩) (z_preS hK hG hn hH172 hA) rfl rfl hl.1 rfl (lv_room (Nat.le_of_ble_eq_true rfl)) d_B_alter_170 ⟨Nat.zero_le _, Nat.zero_le _⟩) hH172 hA (fun z191 w189 H187 lc188 hH190 p170 => ?_)
          obtain ⟨ew192, p170⟩ := p170
          rw [ew192] at hH190
          replace p170 : (z191 = -3 ∧ Tp 56 ≤ V g9 15) ∨ (z191 = 0 ∧ V g9 15 < Tp 56) := p170
          rw [p19] at p170
          rw [hQ]
          exact z_iret hx hb hr hlk hH190 (⟨⟨r1, r2, r3, r4, kd, pl, n_173, g9, e177, e178, e179, e180, e184, e174, e185, br1, br2, br3, br4, bd9, ⟨by omega, p146.1, Nf_1 (by omega), Or.inr ⟨by omega, Or.inr (Or.inl ⟨by omega, by decide, by omega, Or.inr (Or.inr (Or.inr (Or.inl ⟨rfl, p19, rfl, by rw [p19]; exact p146.2.1, by rw [p19]; intro h9; rw [p146.2.2 h9]; omega⟩))), by rw [p19]; exact p170⟩)⟩⟩⟩, (fun k g0 g1 g2 g3 g4 g5 g6 => hf186 k g4 g5 g6)⟩) d_B_alter_173
      · refine lv_tableIn (x := iI 5) (off := 101) (tgt := 152) hx hb d_B_alter_51 (by decide) (by decide) (by decide) (by decide) ?_
        refine lv_aload hx hb d_B_alter_152 (lv_at hl 5 rfl) ?_
        refine z_callv (va_runV (As := []) (rest := []) ⟨hx, hb, hml, hown, hts⟩ (c_N_trim (l := l) (E := E) (w0 := w4) (q := t) (kd := kd) (pl := pl) (ng := ng) (f := g9) (q0lt := q8lt) (q1lt := q9lt) (q2lt := q10lt) (c0 := e6) (c1 := e7) (c2 := e8) (bf := bd9) (hkd := by omega) (hng := by omega) (hpl := by omega) H33.size) (z_cwV (C := "ScaledNumeralDesk$Numeral") 0 hg wm_551 wm_548 wm_2 wm_549 wm_550 (by decide +kernel) ⟨Nat.le_of_ble_eq_true rfl, Nat.le_of_ble_eq_true rfl⟩) (z_preV (r := ("ScaledNumeralDesk$Numeral", TN, 3)) hK hG hn hH36 hA q8lt e6 rfl) rfl rfl hl.1 rfl (lv_room (Nat.le_of_ble_eq_true rfl)) d_B_alter_154 ⟨Nat.zero_le _, Nat.zero_le _⟩) hH36 hA (fun  w195 H193 lc194 hH196 p154 => ?_)
        obtain ⟨⟨p_197, e198, p154⟩, hg199⟩ := p154
        replace p154 : 0 ≤ p_197 ∧ p_197 ≤ pl ∧ (p_197 = 0 ∨ V g9 15 / Tp (24 - p_197) % 10 ≠ 0) ∧ (∀ k : Int, p_197 < k → k ≤ pl → V g9 15 / Tp (24 - k) % 10 = 0) := p154
        have e200 : w195 b = .inr (4, [.ref (ad E (b + 1)), .ref (ad E (b + 2)), .ref (ad E (b + 3)), .ref (ad E (b + 4))]) := (hg199 b (nx_B_alter_0 hqt hbt)).trans e11
        have e201 : w195 (b + 1) = zar E 30 r1 := (hg199 (b + 1) (nx_B_alter_3 hqt hbt)).trans e12
        have e202 : w195 (b + 2) = zar E 30 r2 := (hg199 (b + 2) (nx_B_alter_6 hqt hbt)).trans e13
        have e203 : w195 (b + 3) = zar E 30 r3 := (hg199 (b + 3) (nx_B_alter_9 hqt hbt)).trans e14
        have e204 : w195 (b + 4) = zar E 30 r4 := (hg199 (b + 4) (nx_B_alter_12 hqt hbt)).trans e15
        have e205 : w195 q = .inr (1, [.ref (zg E (1 + kd)), .int (iI pl), .ref (ad E (q + 1))]) := (hg199 q (nx_B_alter_15 hqt hbt)).trans e16
        have e206 : w195 (q + 1) = .inr (0, [.ref (ad E (q + 2)), .int (iI ng)]) := (hg199 (q + 1) (nx_B_alter_18 hqt hbt)).trans e17
        have e207 : w195 (q + 2) = zar E 15 f := (hg199 (q + 2) (nx_B_alter_21 hqt hbt)).trans e18
        have e208 : w195 (t + 1) = .inr (0, [.ref (ad E (t + 2)), .int (iI ng)]) := (hg199 (t + 1) (nx_B_alter_26 hqt hbt)).trans e7
        have e209 : w195 (t + 2) = zar E 15 g9 := (hg199 (t + 2) (nx_B_alter_27 hqt hbt)).trans e8
        have hf210 : ∀ k, k ≠ t → k ≠ (t + 1) → k ≠ (t + 2) → w195 k = w0 k := fun k g0 g1 g2 => (hg199 k g0).trans (hf19 k g0 g1 g2)
        rw [p19] at p154
        refine lv_goto (tgt := 168) hx hb d_B_alter_157 rfl ?_
        refine lv_aload hx hb d_B_alter_168 (lv_at hl 5 rfl) ?_
        refine z_calli (va_runS (As := [.ref (ad E t)]) (rest := []) ⟨hx, hb, hml, hown, hts⟩ (c_B_judged (l := l) (E := E) (w0 := w195) (q := t) (kd := kd) (pl := p_197) (ng := ng) (f := g9) (q0lt := q8lt) (q1lt := q9lt) (q2lt := q10lt) (c0 := e198) (c1 := e208) (c2 := e209) (bf := bd9) (hkd := by omega) (hng := by omega) H193.size) (z_cwS 1 hg wm_403 wm_401 wm_8 wm_402 (by decide +kernel) ⟨Nat.le_of_ble_eq_true rfl, Nat.le_of_ble_eq_true rfl⟩) (z_preS hK hG hn hH196 hA) rfl rfl hl.1 rfl (lv_room (Nat.le_of_ble_eq_true rfl)) d_B_alter_170 ⟨Nat.zero_le _, Nat.zero_le _⟩) hH196 hA (fun z215 w213 H211 lc212 hH214 p170 => ?_)
        obtain ⟨ew216, p170⟩ := p170
        rw [ew216] at hH214
        replace p170 : (z215 = -3 ∧ Tp 56 ≤ V g9 15) ∨ (z215 = 0 ∧ V g9 15 < Tp 56) := p170
        rw [p19] at p170
        rw [hQ]
        exact z_iret hx hb hr hlk hH214 (⟨⟨r1, r2, r3, r4, kd, p_197, ng, g9, e201, e202, e203, e204, e198, e208, e209, br1, br2, br3, br4, bd9, ⟨by omega, hng, Nf_1 (by omega), Or.inr ⟨by omega, Or.inr (Or.inl ⟨by omega, by decide, by omega, Or.inr (Or.inr (Or.inr (Or.inr ⟨rfl, p19, rfl, p154⟩))), by rw [p19]; exact p170⟩)⟩⟩⟩, (fun k g0 g1 g2 g3 g4 g5 g6 => hf210 k g4 g5 g6)⟩) d_B_alter_173
    · refine lv_aload_n hx hb d_B_alter_29 rfl (lv_at hl 0 rfl) ?_
      refine lv_iload_n hx hb d_B_alter_30 rfl (lv_at hl 1 rfl) ?_
      refine lv_aload hx hb d_B_alter_31 (lv_at hl 4 rfl) ?_
      refine z_calli (va_runV (As := [.int (iI op), .ref (ad E t)]) (rest := []) ⟨hx, hb, hml, hown, hts⟩ (c_B_alterOther (l := l) (E := E) (w0 := w4) (b := b) (op := op) (t := t) (kt := kd) (pt := pl) (nt := ng) (h := g9) (q0lt := q0lt) (q1lt := q1lt) (q2lt := q2lt) (q3lt := q3lt) (q4lt := q4lt) (q5lt := q8lt) (q6lt := q9lt) (q7lt := q10lt) (c0 := e11) (c1 := e6) (c2 := e7) (c3 := e8) (bh := bd9) (hkt := by omega) (hnt := by omega) (hbt := by omega) (hop := by omega) (hk1 := by omega) (hnf := (by rw [p19]; exact hnf (by omega))) H20.size) (z_cwV (C := "ScaledNumeralDesk$Bench") 2 hg wm_522 wm_519 wm_8 wm_521 wm_s21 (by decide +kernel) ⟨Nat.le_of_ble_eq_true rfl, Nat.le_of_ble_eq_true rfl⟩) (z_preV (r := ("ScaledNumeralDesk$Bench", TB, 4)) hK hG hn hH23 hA q0lt e11 rfl) rfl rfl hl.1 rfl (lv_room (Nat.le_of_ble_eq_true rfl)) d_B_alter_33 ⟨Nat.zero_le _, Nat.zero_le _⟩) hH23 hA (fun z221 w219 H217 lc218 hH220 p33 => ?_)
      obtain ⟨⟨k_222, p_223, n_224, f_225, e226, e227, e228, bd229, p33⟩, hg230⟩ := p33
      replace bd229 : bd f_225 15 0 9999 := bd229
      replace p33 : z221 = 0 ∧ k_222 < 4 ∧ (n_224 = 0 ∨ n_224 = 1) ∧ Nf z221 k_222 p_223 n_224 (V f_225 15) ∧ AoR op k_222 kd := p33
      have e231 : w219 b = .inr (4, [.ref (ad E (b + 1)), .ref (ad E (b + 2)), .ref (ad E (b + 3)), .ref (ad E (b + 4))]) := (hg230 b (nx_B_alter_0 hqt hbt) (nx_B_alter_1 hqt hbt) (nx_B_alter_2 hqt hbt)).trans e11
      have e232 : w219 (b + 1) = zar E 30 r1 := (hg230 (b + 1) (nx_B_alter_3 hqt hbt) (nx_B_alter_4 hqt hbt) (nx_B_alter_5 hqt hbt)).trans e12
      have e233 : w219 (b + 2) = zar E 30 r2 := (hg230 (b + 2) (nx_B_alter_6 hqt hbt) (nx_B_alter_7 hqt hbt) (nx_B_alter_8 hqt hbt)).trans e13
      have e234 : w219 (b + 3) = zar E 30 r3 := (hg230 (b + 3) (nx_B_alter_9 hqt hbt) (nx_B_alter_10 hqt hbt) (nx_B_alter_11 hqt hbt)).trans e14
      have e235 : w219 (b + 4) = zar E 30 r4 := (hg230 (b + 4) (nx_B_alter_12 hqt hbt) (nx_B_alter_13 hqt hbt) (nx_B_alter_14 hqt hbt)).trans e15
      have e236 : w219 q = .inr (1, [.ref (zg E (1 + kd)), .int (iI pl), .ref (ad E (q + 1))]) := (hg230 q (nx_B_alter_15 hqt hbt) (nx_B_alter_16 hqt hbt) (nx_B_alter_17 hqt hbt)).trans e16
      have e237 : w219 (q + 1) = .inr (0, [.ref (ad E (q + 2)), .int (iI ng)]) := (hg230 (q + 1) (nx_B_alter_18 hqt hbt) (nx_B_alter_19 hqt hbt) (nx_B_alter_20 hqt hbt)).trans e17
      have e238 : w219 (q + 2) = zar E 15 f := (hg230 (q + 2) (nx_B_alter_21 hqt hbt) (nx_B_alter_22 hqt hbt) (nx_B_alter_23 hqt hbt)).trans e18
      have hf239 : ∀ k, k ≠ t → k ≠ (t + 1) → k ≠ (t + 2) → w219 k = w0 k := fun k g0 g1 g2 => (hg230 k g0 g1 g2).trans (hf19 k g0 g1 g2)
      rw [hQ]
      exact z_iret hx hb hr hlk hH220 (⟨⟨r1, r2, r3, r4, k_222, p_223, n_224, f_225, e232, e233, e234, e235, e226, e227, e228, br1, br2, br3, br4, bd229, ⟨p33.2.1, p33.2.2.1, p33.2.2.2.1, Or.inr ⟨by omega, Or.inl ⟨by omega, p33.1, p33.2.2.2.2⟩⟩⟩⟩, (fun k g0 g1 g2 g3 g4 g5 g6 => hf239 k g4 g5 g6)⟩) d_B_alter_36
  · refine lv_aload_n hx hb d_B_alter_6 rfl (lv_at hl 2 rfl) ?_
    refine z_calli (va_runV (As := []) (rest := []) ⟨hx, hb, hml, hown, hts⟩ (c_N_sign (l := l) (E := E) (w0 := w0) (q := q) (kd := kd) (pl := pl) (ng := ng) (f := f) (q0lt := q5lt) (q1lt := q6lt) (q2lt := q7lt) (c0 := c5) (c1 := c6) (c2 := c7) (bf := bf) (hkd := by omega) (hng := by omega) s.heap.size) (z_cwV (C := "ScaledNumeralDesk$Numeral") 0 hg wm_412 wm_409 wm_2 wm_410 wm_411 (by decide +kernel) ⟨Nat.le_of_ble_eq_true rfl, Nat.le_of_ble_eq_true rfl⟩) (z_preV (r := ("ScaledNumeralDesk$Numeral", TN, 3)) hK hG hn hH hA q5lt c5 rfl) rfl rfl hl.1 rfl (lv_room (Nat.le_of_ble_eq_true rfl)) d_B_alter_7 ⟨Nat.zero_le _, Nat.zero_le _⟩) hH hA (fun s7 w242 H240 lc241 hH243 p7 => ?_)
    obtain ⟨ew244, p7⟩ := p7
    rw [ew244] at hH243
    replace p7 : (kd = 1 ∧ ((s7 = 0 ∧ V f 15 = 0) ∨ (s7 = -1 ∧ 0 < V f 15 ∧ ng = 1) ∨ (s7 = 1 ∧ 0 < V f 15 ∧ ng = 0))) ∨ (kd = 0 ∧ s7 = -1) ∨ ((kd = 2 ∨ kd = 3) ∧ s7 = 1) := p7
    have q7 := sg3_of p7
    refine zv_if_ge (tgt := 16) hx hb d_B_alter_10 rfl (by omega) (fun h245 => ?_) (fun h245 => ?_)
    · refine lv_aload hx hb d_B_alter_16 (lv_at hl 4 rfl) ?_
      refine lv_aload_n hx hb d_B_alter_18 rfl (lv_at hl 2 rfl) ?_
      refine z_callv (va_runV (As := [.ref (ad E q)]) (rest := []) ⟨hx, hb, hml, hown, hts⟩ (c_N_take (l := l) (E := E) (w0 := w0) (q := t) (r := q) (kd := kt) (ko := kd) (pl := pt) (po := pl) (ng := nt) (no := ng) (f := h) (g := f) (q0lt := q8lt) (q1lt := q9lt) (q2lt := q10lt) (q3lt := q5lt) (q4lt := q6lt) (q5lt := q7lt) (c0 := c8) (c1 := c9) (c2 := c10) (c3 := c5) (c4 := c6) (c5 := c7) (bf := bh) (hkd := by omega) (hng := by omega) (bg := bf) (hko := by omega) (hno := by omega) (hqr := by omega) H240.size) (z_cwV (C := "ScaledNumeralDesk$Numeral") 1 hg wm_324 wm_384 wm_2 wm_322 wm_323 (by decide +kernel) ⟨Nat.le_of_ble_eq_true rfl, Nat.le_of_ble_eq_true rfl⟩) (z_preV (r := ("ScaledNumeralDesk$Numeral", TN, 3)) hK hG hn hH243 hA q8lt c8 rfl) rfl rfl hl.1 rfl (lv_room (Nat.le_of_ble_eq_true rfl)) d_B_alter_19 ⟨Nat.zero_le _, Nat.zero_le _⟩) hH243 hA (fun  w248 H246 lc247 hH249 p19 => ?_)
      obtain ⟨⟨g9, e250, e251, e252, bd253, p19⟩, hg254⟩ := p19
      replace bd253 : bd g9 15 0 9999 := bd253
      replace p19 : V g9 15 = V f 15 := p19
      have e255 : w248 b = .inr (4, [.ref (ad E (b + 1)), .ref (ad E (b + 2)), .ref (ad E (b + 3)), .ref (ad E (b + 4))]) := (hg254 b (nx_B_alter_0 hqt hbt) (nx_B_alter_1 hqt hbt) (nx_B_alter_2 hqt hbt)).trans c0
      have e256 : w248 (b + 1) = zar E 30 r1 := (hg254 (b + 1) (nx_B_alter_3 hqt hbt) (nx_B_alter_4 hqt hbt) (nx_B_alter_5 hqt hbt)).trans c1
      have e257 : w248 (b + 2) = zar E 30 r2 := (hg254 (b + 2) (nx_B_alter_6 hqt hbt) (nx_B_alter_7 hqt hbt) (nx_B_alter_8 hqt hbt)).trans c2
      have e258 : w248 (b + 3) = zar E 30 r3 := (hg254 (b + 3) (nx_B_alter_9 hqt hbt) (nx_B_alter_10 hqt hbt) (nx_B_alter_11 hqt hbt)).trans c3
      have e259 : w248 (b + 4) = zar E 30 r4 := (hg254 (b + 4) (nx_B_alter_12 hqt hbt) (nx_B_alter_13 hqt hbt) (nx_B_alter_14 hqt hbt)).trans c4
      have e260 : w248 q = .inr (1, [.ref (zg E (1 + kd)), .int (iI pl), .ref (ad E (q + 1))]) := (hg254 q (nx_B_alter_15 hqt hbt) (nx_B_alter_16 hqt hbt) (nx_B_alter_17 hqt hbt)).trans c5
      have e261 : w248 (q + 1) = .inr (0, [.ref (ad E (q + 2)), .int (iI ng)]) := (hg254 (q + 1) (nx_B_alter_18 hqt hbt) (nx_B_alter_19 hqt hbt) (nx_B_alter_20 hqt hbt)).trans c6
      have e262 : w248 (q + 2) = zar E 15 f := (hg254 (q + 2) (nx_B_alter_21 hqt hbt) (nx_B_alter_22 hqt hbt) (nx_B_alter_23 hqt hbt)).trans c7
      have hf263 : ∀ k, k ≠ t → k ≠ (t + 1) → k ≠ (t + 2) → w248 k = w0 k := fun k g0 g1 g2 => hg254 k g0 g1 g2
      refine lv_aload_n hx hb d_B_alter_22 rfl (lv_at hl 2 rfl) ?_
      refine z_calli (va_runV (As := []) (rest := []) ⟨hx, hb, hml, hown, hts⟩ (c_N_isFinite (l := l) (E := E) (w0 := w248) (q := q) (kd := kd) (pl := pl) (ng := ng) (f := f) (q0lt := q5lt) (q1lt := q6lt) (q2lt := q7lt) (c0 := e260) (c1 := e261) (c2 := e262) (bf := bf) (hkd := by omega) (hng := by omega) H246.size) (z_cwV (C := "ScaledNumeralDesk$Numeral") 0 hg wm_344 wm_379 wm_2 wm_342 wm_343 (by decide +kernel) ⟨Nat.le_of_ble_eq_true rfl, Nat.le_of_ble_eq_true rfl⟩) (z_preV (r := ("ScaledNumeralDesk$Numeral", TN, 3)) hK hG hn hH249 hA q5lt e260 rfl) rfl rfl hl.1 rfl (lv_room (Nat.le_of_ble_eq_true rfl)) d_B_alter_23 ⟨Nat.zero_le _, Nat.zero_le _⟩) hH249 hA (fun z268 w266 H264 lc265 hH267 p23 => ?_)
      obtain ⟨ew269, p23⟩ := p23
      rw [ew269] at hH267
      replace p23 : (z268 = 1 ∧ kd = 1) ∨ (z268 = 0 ∧ kd ≠ 1) := p23
      refine zv_if_ne (tgt := 37) hx hb d_B_alter_26 rfl (by omega) (fun h270 => ?_) (fun h270 => ?_)
      · refine zv_bipush hx hb d_B_alter_37 rfl ?_
        refine lv_iload_n hx hb d_B_alter_39 rfl (lv_at hl 3 rfl) ?_
        refine zv_bipush hx hb d_B_alter_40 rfl ?_
        refine z_calli (va_runS (As := [.int (iI n0), .int (iI 24)]) (rest := [.int (iI (-32))]) ⟨hx, hb, hml, hown, hts⟩ (c_min (l := l) (E := E) (w0 := w248) (x := n0) (y := 24) (zx := by omega) (zy := by omega) H264.size) (z_cwS 2 hg wm_279 wm_429 wm_15 wm_278 (by decide +kernel) ⟨Nat.le_of_ble_eq_true rfl, Nat.le_of_ble_eq_true rfl⟩) (z_preS hK hG hn hH267 hA) rfl rfl hl.1 rfl (lv_room (Nat.le_of_ble_eq_true rfl)) d_B_alter_42 ⟨Nat.zero_le _, Nat.zero_le _⟩) hH267 hA (fun z275 w273 H271 lc272 hH274 p42 => ?_)
        obtain ⟨ew276, p42⟩ := p42
        rw [ew276] at hH274
        replace p42 : z275 = min n0 (24 : Int) := p42
        refine z_calli (va_runS (As := [.int (iI (-32)), .int (iI z275)]) (rest := []) ⟨hx, hb, hml, hown, hts⟩ (c_max (l := l) (E := E) (w0 := w248) (x := -32) (y := z275) (zx := by omega) (zy := by omega) H271.size) (z_cwS 2 hg wm_275 wm_400 wm_15 wm_274 (by decide +kernel) ⟨Nat.le_of_ble_eq_true rfl, Nat.le_of_ble_eq_true rfl⟩) (z_preS hK hG hn hH274 hA) rfl rfl hl.1 rfl (lv_room (Nat.le_of_ble_eq_true rfl)) d_B_alter_45 ⟨Nat.zero_le _, Nat.zero_le _⟩) hH274 hA (fun m w279 H277 lc278 hH280 p45 => ?_)
        obtain ⟨ew281, p45⟩ := p45
        rw [ew281] at hH280
        replace p45 : m = max (-32 : Int) z275 := p45
        have hm : m = clm n0 := by rw [p45, p42]; rfl
        have hm2 := clm_in n0
        rw [← hm] at hm2
        clear p45 p42
        refine lv_istore (lv' := [(5, .int (iI m)), (0, .ref (ad E b)), (1, .int (iI op)), (2, .ref (ad E q)), (3, .int (iI n0)), (4, .ref (ad E t))]) hx hb d_B_alter_48 hl (by decide) rfl (fun ls hl => ?_)
        refine lv_iload_n hx hb d_B_alter_50 rfl (lv_at hl 2 rfl) ?_
        rcases (show op = 6 by omega) with rfl
        · refine lv_tableOut (x := iI 6) (tgt := 160) hx hb d_B_alter_51 (by decide) (by decide) ?_
          refine lv_aload_n hx hb d_B_alter_160 rfl (lv_at hl 1 rfl) ?_
          refine lv_aload_n hx hb d_B_alter_161 rfl (lv_at hl 3 rfl) ?_
          refine lv_aload hx hb d_B_alter_162 (lv_at hl 5 rfl) ?_
          refine z_calli (va_runV (As := [.ref (ad E q), .ref (ad E t)]) (rest := []) ⟨hx, hb, hml, hown, hts⟩ (c_B_root (l := l) (E := E) (w0 := w248) (b := b) (r1 := r1) (r2 := r2) (r3 := r3) (r4 := r4) (q := q) (kd := kd) (pl := pl) (ng := ng) (f := f) (t := t) (kt := kd) (pt := pl) (nt := ng) (h := g9) (q0lt := q0lt) (q1lt := q1lt) (q2lt := q2lt) (q3lt := q3lt) (q4lt := q4lt) (q5lt := q5lt) (q6lt := q6lt) (q7lt := q7lt) (q8lt := q8lt) (q9lt := q9lt) (q10lt := q10lt) (c0 := e255) (c1 := e256) (c2 := e257) (c3 := e258) (c4 := e259) (c5 := e260) (c6 := e261) (c7 := e262) (c8 := e250) (c9 := e251) (c10 := e252) (br1 := br1) (br2 := br2) (br3 := br3) (br4 := br4) (bf := bf) (hkd := by omega) (hng := by omega) (hpl := by omega) (vA := by omega) (bh := bd253) (hkt := by omega) (hnt := by omega) (hqt := by omega) (hbt := by omega) H277.size) (z_cwV (C := "ScaledNumeralDesk$Bench") 2 hg wm_555 wm_552 wm_8 wm_554 wm_s24 (by decide +kernel) ⟨Nat.le_of_ble_eq_true rfl, Nat.le_of_ble_eq_true rfl⟩) (z_preV (r := ("ScaledNumeralDesk$Bench", TB, 4)) hK hG hn hH280 hA q0lt e255 rfl) rfl rfl hl.1 rfl (lv_room (Nat.le_of_ble_eq_true rfl)) d_B_alter_164 ⟨Nat.zero_le _, Nat.zero_le _⟩) hH280 hA (fun z286 w284 H282 lc283 hH285 p164 => ?_)
          obtain ⟨⟨r_287, r_288, r_289, r_290, k_291, p_292, n_293, f_294, e295, e296, e297, e298, e299, e300, e301, bd302, bd303, bd304, bd305, bd306, p164⟩, hg307⟩ := p164
          replace bd302 : bd r_287 30 0 9999 := bd302
          replace bd303 : bd r_288 30 0 9999 := bd303
          replace bd304 : bd r_289 30 0 9999 := bd304
          replace bd305 : bd r_290 30 0 9999 := bd305
          replace bd306 : bd f_294 15 0 9999 := bd306
          replace p164 : k_291 < 4 ∧ (n_293 = 0 ∨ n_293 = 1) ∧ ∃ S w : Int, 0 ≤ S ∧ S * S ≤ V f 15 * Bp 8 ∧ V f 15 * Bp 8 < (S + 1) * (S + 1) ∧ Wt (V f 15) w ∧ St z286 k_291 p_292 n_293 (V f_294 15) (Rn S (7 * 4 - rp w pl)) 7 (rp w pl) 0 := p164
          have e308 : w284 b = .inr (4, [.ref (ad E (b + 1)), .ref (ad E (b + 2)), .ref (ad E (b + 3)), .ref (ad E (b + 4))]) := (hg307 b (nx_B_alter_28 hqt hbt) (nx_B_alter_29 hqt hbt) (nx_B_alter_30 hqt hbt) (nx_B_alter_31 hqt hbt) (nx_B_alter_0 hqt hbt) (nx_B_alter_1 hqt hbt) (nx_B_alter_2 hqt hbt)).trans e255
          have e309 : w284 q = .inr (1, [.ref (zg E (1 + kd)), .int (iI pl), .ref (ad E (q + 1))]) := (hg307 q (nx_B_alter_32 hqt hbt) (nx_B_alter_33 hqt hbt) (nx_B_alter_34 hqt hbt) (nx_B_alter_35 hqt hbt) (nx_B_alter_15 hqt hbt) (nx_B_alter_16 hqt hbt) (nx_B_alter_17 hqt hbt)).trans e260
          have e310 : w284 (q + 1) = .inr (0, [.ref (ad E (q + 2)), .int (iI ng)]) := (hg307 (q + 1) (nx_B_alter_36 hqt hbt) (nx_B_alter_37 hqt hbt) (nx_B_alter_38 hqt hbt) (nx_B_alter_39 hqt hbt) (nx_B_alter_18 hqt hbt) (nx_B_alter_19 hqt hbt) (nx_B_alter_20 hqt hbt)).trans e261
          have e311 : w284 (q + 2) = zar E 15 f := (hg307 (q + 2) (nx_B_alter_40 hqt hbt) (nx_B_alter_41 hqt hbt) (nx_B_alter_42 hqt hbt) (nx_B_alter_43 hqt hbt) (nx_B_alter_21 hqt hbt) (nx_B_alter_22 hqt hbt) (nx_B_alter_23 hqt hbt)).trans e262
          have hf312 : ∀ k, k ≠ t → k ≠ (t + 1) → k ≠ (t + 2) → k ≠ (b + 1) → k ≠ (b + 2) → k ≠ (b + 3) → k ≠ (b + 4) → w284 k = w0 k := fun k g0 g1 g2 g3 g4 g5 g6 => (hg307 k g3 g4 g5 g6 g0 g1 g2).trans (hf263 k g0 g1 g2)
          rw [hQ]
          exact z_iret hx hb hr hlk hH285 (⟨⟨r_287, r_288, r_289, r_290, k_291, p_292, n_293, f_294, e295, e296, e297, e298, e299, e300, e301, bd302, bd303, bd304, bd305, bd306, ⟨p164.1, p164.2.1, (by obtain ⟨_, _, _, _, _, _, h9⟩ := p164.2.2; exact St_Nf h9), Or.inr ⟨by rw [← q7.1]; omega, Or.inr (Or.inr ⟨by omega, rfl, p164.2.2⟩)⟩⟩⟩, (fun k g0 g1 g2 g3 g4 g5 g6 => hf312 k g4 g5 g6 g0 g1 g2 g3)⟩) d_B_alter_167
      · refine lv_aload_n hx hb d_B_alter_29 rfl (lv_at hl 0 rfl) ?_
        refine lv_iload_n hx hb d_B_alter_30 rfl (lv_at hl 1 rfl) ?_
        refine lv_aload hx hb d_B_alter_31 (lv_at hl 4 rfl) ?_
        refine z_calli (va_runV (As := [.int (iI op), .ref (ad E t)]) (rest := []) ⟨hx, hb, hml, hown, hts⟩ (c_B_alterOther (l := l) (E := E) (w0 := w248) (b := b) (op := op) (t := t) (kt := kd) (pt := pl) (nt := ng) (h := g9) (q0lt := q0lt) (q1lt := q1lt) (q2lt := q2lt) (q3lt := q3lt) (q4lt := q4lt) (q5lt := q8lt) (q6lt := q9lt) (q7lt := q10lt) (c0 := e255) (c1 := e250) (c2 := e251) (c3 := e252) (bh := bd253) (hkt := by omega) (hnt := by omega) (hbt := by omega) (hop := by omega) (hk1 := by omega) (hnf := (by rw [p19]; exact hnf (by omega))) H264.size) (z_cwV (C := "ScaledNumeralDesk$Bench") 2 hg wm_522 wm_519 wm_8 wm_521 wm_s21 (by decide +kernel) ⟨Nat.le_of_ble_eq_true rfl, Nat.le_of_ble_eq_true rfl⟩) (z_preV (r := ("ScaledNumeralDesk$Bench", TB, 4)) hK hG hn hH267 hA q0lt e255 rfl) rfl rfl hl.1 rfl (lv_room (Nat.le_of_ble_eq_true rfl)) d_B_alter_33 ⟨Nat.zero_le _, Nat.zero_le _⟩) hH267 hA (fun z317 w315 H313 lc314 hH316 p33 => ?_)
        obtain ⟨⟨k_318, p_319, n_320, f_321, e322, e323, e324, bd325, p33⟩, hg326⟩ := p33
        replace bd325 : bd f_321 15 0 9999 := bd325
        replace p33 : z317 = 0 ∧ k_318 < 4 ∧ (n_320 = 0 ∨ n_320 = 1) ∧ Nf z317 k_318 p_319 n_320 (V f_321 15) ∧ AoR op k_318 kd := p33
        have e327 : w315 b = .inr (4, [.ref (ad E (b + 1)), .ref (ad E (b + 2)), .ref (ad E (b + 3)), .ref (ad E (b + 4))]) := (hg326 b (nx_B_alter_0 hqt hbt) (nx_B_alter_1 hqt hbt) (nx_B_alter_2 hqt hbt)).trans e255
        have e328 : w315 (b + 1) = zar E 30 r1 := (hg326 (b + 1) (nx_B_alter_3 hqt hbt) (nx_B_alter_4 hqt hbt) (nx_B_alter_5 hqt hbt)).trans e256
        have e329 : w315 (b + 2) = zar E 30 r2 := (hg326 (b + 2) (nx_B_alter_6 hqt hbt) (nx_B_alter_7 hqt hbt) (nx_B_alter_8 hqt hbt)).trans e257
        have e330 : w315 (b + 3) = zar E 30 r3 := (hg326 (b + 3) (nx_B_alter_9 hqt hbt) (nx_B_alter_10 hqt hbt) (nx_B_alter_11 hqt hbt)).trans e258
        have e331 : w315 (b + 4) = zar E 30 r4 := (hg326 (b + 4) (nx_B_alter_12 hqt hbt) (nx_B_alter_13 hqt hbt) (nx_B_alter_14 hqt hbt)).trans e259
        have e332 : w315 q = .inr (1, [.ref (zg E (1 + kd)), .int (iI pl), .ref (ad E (q + 1))]) := (hg326 q (nx_B_alter_15 hqt hbt) (nx_B_alter_16 hqt hbt) (nx_B_alter_17 hqt hbt)).trans e260
        have e333 : w315 (q + 1) = .inr (0, [.ref (ad E (q + 2)), .int (iI ng)]) := (hg326 (q + 1) (nx_B_alter_18 hqt hbt) (nx_B_alter_19 hqt hbt) (nx_B_alter_20 hqt hbt)).trans e261
        have e334 : w315 (q + 2) = zar E 15 f := (hg326 (q + 2) (nx_B_alter_21 hqt hbt) (nx_B_alter_22 hqt hbt) (nx_B_alter_23 hqt hbt)).trans e262
        have hf335 : ∀ k, k ≠ t → k ≠ (t + 1) → k ≠ (t + 2) → w315 k = w0 k := fun k g0 g1 g2 => (hg326 k g0 g1 g2).trans (hf263 k g0 g1 g2)
        rw [hQ]
        exact z_iret hx hb hr hlk hH316 (⟨⟨r1, r2, r3, r4, k_318, p_319, n_320, f_321, e328, e329, e330, e331, e322, e323, e324, br1, br2, br3, br4, bd325, ⟨p33.2.1, p33.2.2.1, p33.2.2.2.1, Or.inr ⟨by rw [← q7.1]; omega, Or.inl ⟨by omega, p33.1, p33.2.2.2.2⟩⟩⟩⟩, (fun k g0 g1 g2 g3 g4 g5 g6 => hf335 k g4 g5 g6)⟩) d_B_alter_36
    · refine zv_bipush hx hb d_B_alter_13 rfl ?_
      rw [hQ]
      exact z_iret hx hb hr hlk hH243 (⟨⟨r1, r2, r3, r4, kt, pt, nt, h, c1, c2, c3, c4, c8, c9, c10, br1, br2, br3, br4, bh, ⟨hkt, hnt, Nf_z (by decide), Or.inl ⟨by omega, by rw [← q7.1]; assumption, rfl⟩⟩⟩, (fun k _ _ _ _ _ _ _ => rfl)⟩) d_B_alter_15
