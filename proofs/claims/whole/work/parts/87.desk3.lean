theorem nx_D_accept_0 {ks ra : Nat} (hra : ra < 8) : 0 ≠ 43 + 4 * ks := by omega
theorem nx_D_accept_1 {ks ra : Nat} (hra : ra < 8) : 0 ≠ 43 + 4 * ks + 1 := by omega
theorem nx_D_accept_2 {ks ra : Nat} (hra : ra < 8) : 0 ≠ 43 + 4 * ks + 2 := by omega
theorem nx_D_accept_3 {ks ra : Nat} (hra : ra < 8) : 0 ≠ 43 + 4 * ks + 3 := by omega
theorem nx_D_accept_4 {ks ra : Nat} (hra : ra < 8) : 1 ≠ 43 + 4 * ks := by omega
theorem nx_D_accept_5 {ks ra : Nat} (hra : ra < 8) : 1 ≠ 43 + 4 * ks + 1 := by omega
theorem nx_D_accept_6 {ks ra : Nat} (hra : ra < 8) : 1 ≠ 43 + 4 * ks + 2 := by omega
theorem nx_D_accept_7 {ks ra : Nat} (hra : ra < 8) : 1 ≠ 43 + 4 * ks + 3 := by omega
theorem nx_D_accept_8 {ks ra : Nat} (hra : ra < 8) : 2 ≠ 43 + 4 * ks := by omega
theorem nx_D_accept_9 {ks ra : Nat} (hra : ra < 8) : 2 ≠ 43 + 4 * ks + 1 := by omega
theorem nx_D_accept_10 {ks ra : Nat} (hra : ra < 8) : 2 ≠ 43 + 4 * ks + 2 := by omega
theorem nx_D_accept_11 {ks ra : Nat} (hra : ra < 8) : 2 ≠ 43 + 4 * ks + 3 := by omega
theorem nx_D_accept_12 {ks ra : Nat} (hra : ra < 8) : 19 + 3 * ra ≠ 43 + 4 * ks := by omega
theorem nx_D_accept_13 {ks ra : Nat} (hra : ra < 8) : 19 + 3 * ra ≠ 43 + 4 * ks + 1 := by omega
theorem nx_D_accept_14 {ks ra : Nat} (hra : ra < 8) : 19 + 3 * ra ≠ 43 + 4 * ks + 2 := by omega
theorem nx_D_accept_15 {ks ra : Nat} (hra : ra < 8) : 19 + 3 * ra ≠ 43 + 4 * ks + 3 := by omega
theorem nx_D_accept_16 {ks ra : Nat} (hra : ra < 8) : 19 + 3 * ra + 1 ≠ 43 + 4 * ks := by omega
theorem nx_D_accept_17 {ks ra : Nat} (hra : ra < 8) : 19 + 3 * ra + 1 ≠ 43 + 4 * ks + 1 := by omega
theorem nx_D_accept_18 {ks ra : Nat} (hra : ra < 8) : 19 + 3 * ra + 1 ≠ 43 + 4 * ks + 2 := by omega
theorem nx_D_accept_19 {ks ra : Nat} (hra : ra < 8) : 19 + 3 * ra + 1 ≠ 43 + 4 * ks + 3 := by omega
theorem nx_D_accept_20 {ks ra : Nat} (hra : ra < 8) : 19 + 3 * ra + 2 ≠ 43 + 4 * ks := by omega
theorem nx_D_accept_21 {ks ra : Nat} (hra : ra < 8) : 19 + 3 * ra + 2 ≠ 43 + 4 * ks + 1 := by omega
theorem nx_D_accept_22 {ks ra : Nat} (hra : ra < 8) : 19 + 3 * ra + 2 ≠ 43 + 4 * ks + 2 := by omega
theorem nx_D_accept_23 {ks ra : Nat} (hra : ra < 8) : 19 + 3 * ra + 2 ≠ 43 + 4 * ks + 3 := by omega
def rm_D_accept : Room := { frames := 6, cells := 0, slots := 0, locals := 128 }
set_option maxHeartbeats 4000000 in
set_option maxRecDepth 100000 in
theorem c_D_accept (l : Launch) (E : zE) (w0 : zW) (fq : Nat → Option Nat) (fs : Nat → Option Nat) (ks : Nat) (sn sz : Int) (sf cn : Int → Int) (ra : Nat) (ka : Nat) (pla na : Int) (fa : Int → Int) (hzn : 73 ≤ zn E) (c0 : w0 0 = .inr (5, [.ref (ad E 1), .ref (ad E 2), .ref (ad E 3), .ref (ad E 5), .ref (ad E 10), .ref (ad E 13), .ref (ad E 16)])) (c1 : w0 1 = zaq E 3 8 fq) (c2 : w0 2 = zaq E 4 4 fs) (c3 : w0 (43 + 4 * ks) = .inr (2, [.ref (ad E (43 + 4 * ks + 1)), .ref (ad E (43 + 4 * ks + 3)), .int (iI sz)])) (c4 : w0 (43 + 4 * ks + 1) = .inr (0, [.ref (ad E (43 + 4 * ks + 2)), .int (iI sn)])) (c5 : w0 (43 + 4 * ks + 2) = zar E 15 sf) (c6 : w0 (43 + 4 * ks + 3) = zar E 28 cn) (c7 : w0 (19 + 3 * ra) = .inr (1, [.ref (zg E (1 + ka)), .int (iI pla), .ref (ad E (19 + 3 * ra + 1))])) (c8 : w0 (19 + 3 * ra + 1) = .inr (0, [.ref (ad E (19 + 3 * ra + 2)), .int (iI na)])) (c9 : w0 (19 + 3 * ra + 2) = zar E 15 fa) (hfq : ∀ k : Nat, k < 8 → fq k = some (ad E (19 + 3 * k))) (hfs : ∀ k : Nat, k < 4 → fs k = some (ad E (43 + 4 * k))) (bs : bd sf 15 0 9999) (hsn : sn = 0 ∨ sn = 1) (bc : bd cn 28 0 sz) (hsz : 0 ≤ sz ∧ sz ≤ 1000) (hks : ks < 4) (bfa : bd fa 15 0 9999) (hka : ka < 4) (hna : na = 0 ∨ na = 1) (hra : ra < 8) (hpa : 0 ≤ pla ∧ pla ≤ 24) (hva : V fa 15 < Bp 14) (hca : V fa 15 = 0 → na = 0) (hfa : ka ≠ 1 → pla = 0 ∧ na = 0 ∧ V fa 15 = 0) (hs : V sf 15 + V fa 15 < Bp 15) (csf : V sf 15 = 0 → sn = 0) : zM l y_D_accept ws_D_accept rm_D_accept E [.ref (ad E 0), .int (iI ((ks : Int))), .int (iI ((ra : Int)))] w0 (zQi E w0 (fun z w' => (∃ (s' : Int) (n' : Int) (f' : Int → Int) (c' : Int → Int), w' (43 + 4 * ks) = .inr (2, [.ref (ad E (43 + 4 * ks + 1)), .ref (ad E (43 + 4 * ks + 3)), .int (iI s')]) ∧ w' (43 + 4 * ks + 1) = .inr (0, [.ref (ad E (43 + 4 * ks + 2)), .int (iI n')]) ∧ w' (43 + 4 * ks + 2) = zar E 15 f' ∧ w' (43 + 4 * ks + 3) = zar E 28 c' ∧ bd f' 15 0 9999 ∧ bd c' 28 0 (s') ∧ ((z = -2 ∧ 1000 ≤ sz ∧ (s' = sz ∧ n' = sn ∧ f' = sf ∧ c' = cn)) ∨ (z = 0 ∧ sz < 1000 ∧ s' = sz + 1 ∧ (n' = 0 ∨ n' = 1) ∧ (V f' 15 = 0 → n' = 0) ∧ sv n' (V f' 15) = sv sn (V sf 15) + vadd ka 1 (sv na (V fa 15)) ∧ (∀ j : Int, 0 ≤ j → j < 28 → c' j = cn j + cadd (cidx ka pla) j 1)))) ∧ ∀ k, k ≠ (43 + 4 * ks) → k ≠ (43 + 4 * ks + 1) → k ≠ (43 + 4 * ks + 2) → k ≠ (43 + 4 * ks + 3) → w' k = w0 k)) := by
  refine z_met (cc := b_D_accept) (maxL := 3) (ret := (some .int)) (by decide +kernel) rfl (Nat.le_of_ble_eq_true rfl) ?_
  intro p e s m below meth cd ls a Qf hQ hC hl hH
  obtain ⟨hF, hr, hlk, hK, hG, hn⟩ := hC
  obtain ⟨hx, hb, hml, hown, hts⟩ := hF
  have hg : ∀ w ∈ GW, w.before a s = true := fun w h => hts w (List.mem_cons_of_mem _ h)
  have hA : ∀ q, s.heap.size ≤ q → va_A (wl E w0) s.heap.size q := fun q h => Or.inr h
  have hl : lv_has ls 3 [(0, .ref (ad E 0)), (1, .int (iI ((ks : Int)))), (2, .int (iI ((ra : Int))))] := hl
  have q0lt : 0 < zn E := by omega
  have q1lt : 1 < zn E := by omega
  have q2lt : 2 < zn E := by omega
  have q3lt : 43 + 4 * ks < zn E := by omega
  have q4lt : 43 + 4 * ks + 1 < zn E := by omega
  have q5lt : 43 + 4 * ks + 2 < zn E := by omega
  have q6lt : 43 + 4 * ks + 3 < zn E := by omega
  have q7lt : 19 + 3 * ra < zn E := by omega
  have q8lt : 19 + 3 * ra + 1 < zn E := by omega
  have q9lt : 19 + 3 * ra + 2 < zn E := by omega
  refine lv_iload_n hx hb d_D_accept_0 rfl (lv_at hl 1 rfl) ?_
  refine z_calli (va_runS (As := [.int (iI ((ks : Int)))]) (rest := []) ⟨hx, hb, hml, hown, hts⟩ (c_D_isSum (l := l) (E := E) (w0 := w0) (r := (ks : Int)) (hr0 := by omega) s.heap.size) (z_cwS 1 hg wm_599 wm_597 wm_1 wm_598 (by decide +kernel) ⟨Nat.le_of_ble_eq_true rfl, Nat.le_of_ble_eq_true rfl⟩) (z_preS hK hG hn hH hA) rfl rfl hl.1 rfl (lv_room (Nat.le_of_ble_eq_true rfl)) d_D_accept_1 ⟨Nat.zero_le _, Nat.zero_le _⟩) hH hA (fun z5 w3 H1 lc2 hH4 p1 => ?_)
  obtain ⟨ew6, p1⟩ := p1
  rw [ew6] at hH4
  replace p1 : (z5 = 1 ∧ 0 ≤ ((ks : Int)) ∧ ((ks : Int)) < 4) ∨ (z5 = 0 ∧ ¬ (0 ≤ ((ks : Int)) ∧ ((ks : Int)) < 4)) := p1
  refine zv_if_eq (tgt := 14) hx hb d_D_accept_4 rfl (by omega) (fun h7 => absurd h7 (by omega)) (fun h7 => ?_)
  refine lv_iload_n hx hb d_D_accept_7 rfl (lv_at hl 2 rfl) ?_
  refine z_calli (va_runS (As := [.int (iI ((ra : Int)))]) (rest := []) ⟨hx, hb, hml, hown, hts⟩ (c_D_isRegister (l := l) (E := E) (w0 := w0) (r := (ra : Int)) (hr0 := by omega) H1.size) (z_cwS 1 hg wm_164 wm_162 wm_1 wm_163 (by decide +kernel) ⟨Nat.le_of_ble_eq_true rfl, Nat.le_of_ble_eq_true rfl⟩) (z_preS hK hG hn hH4 hA) rfl rfl hl.1 rfl (lv_room (Nat.le_of_ble_eq_true rfl)) d_D_accept_8 ⟨Nat.zero_le _, Nat.zero_le _⟩) hH4 hA (fun z12 w10 H8 lc9 hH11 p8 => ?_)
  obtain ⟨ew13, p8⟩ := p8
  rw [ew13] at hH11
  replace p8 : (z12 = 1 ∧ 0 ≤ ((ra : Int)) ∧ ((ra : Int)) < 8) ∨ (z12 = 0 ∧ ¬ (0 ≤ ((ra : Int)) ∧ ((ra : Int)) < 8)) := p8
  refine zv_if_ne (tgt := 16) hx hb d_D_accept_11 rfl (by omega) (fun h14 => ?_) (fun h14 => absurd h14 (by omega))
  refine lv_aload_n hx hb d_D_accept_16 rfl (lv_at hl 0 rfl) ?_
  refine zv_get (C := "ScaledNumeralDesk") (T := TD) (N := 7) hx hb hg uD_in hown hK hH11 q0lt c0 rfl 1 (by decide) (hg _ wm_129) (fun _ h9 => h9) rfl d_D_accept_17 ?_
  refine lv_iload_n hx hb d_D_accept_20 rfl (lv_at hl 1 rfl) ?_
  refine zv_aald (i := ks) hx hb hK hH11 q2lt c2 rfl (by omega) (by omega) (hfs ks (by omega)) d_D_accept_21 ?_
  refine lv_aload_n hx hb d_D_accept_22 rfl (lv_at hl 0 rfl) ?_
  refine zv_get (C := "ScaledNumeralDesk") (T := TD) (N := 7) hx hb hg uD_in hown hK hH11 q0lt c0 rfl 0 (by decide) (hg _ wm_128) (fun _ h9 => h9) rfl d_D_accept_23 ?_
  refine lv_iload_n hx hb d_D_accept_26 rfl (lv_at hl 2 rfl) ?_
  refine zv_aald (i := ra) hx hb hK hH11 q1lt c1 rfl (by omega) (by omega) (hfq ra (by omega)) d_D_accept_27 ?_
  refine z_calli (va_runV (As := [.ref (ad E (19 + 3 * ra))]) (rest := []) ⟨hx, hb, hml, hown, hts⟩ (c_S_putIn (l := l) (E := E) (w0 := w0) (y := 43 + 4 * ks) (sn := sn) (sz := sz) (sf := sf) (cn := cn) (q := 19 + 3 * ra) (kd := ka) (pl := pla) (ng := na) (f := fa) (q0lt := q3lt) (q1lt := q4lt) (q2lt := q5lt) (q3lt := q6lt) (q4lt := q7lt) (q5lt := q8lt) (q6lt := q9lt) (c0 := c3) (c1 := c4) (c2 := c5) (c3 := c6) (c4 := c7) (c5 := c8) (c6 := c9) (bs := bs) (hsn := by omega) (bc := bc) (hsz := by omega) (bf := bfa) (hkd := by omega) (hng := by omega) (hpl := by omega) (hqy := by omega) (hs := by omega) (csf := by omega) H8.size) (z_cwV (C := "ScaledNumeralDesk$Sum") 1 hg wm_603 wm_600 wm_6 wm_601 wm_602 (by decide +kernel) ⟨Nat.le_of_ble_eq_true rfl, Nat.le_of_ble_eq_true rfl⟩) (z_preV (r := ("ScaledNumeralDesk$Sum", TS, 3)) hK hG hn hH11 hA q3lt c3 rfl) rfl rfl hl.1 rfl (lv_room (Nat.le_of_ble_eq_true rfl)) d_D_accept_28 ⟨Nat.zero_le _, Nat.zero_le _⟩) hH11 hA (fun z19 w17 H15 lc16 hH18 p28 => ?_)
  obtain ⟨⟨s_20, n_21, f_22, c_23, e24, e25, e26, e27, bd28, bd29, p28⟩, hg30⟩ := p28
  replace bd28 : bd f_22 15 0 9999 := bd28
  replace bd29 : bd c_23 28 0 (s_20) := bd29
  replace p28 : (z19 = -2 ∧ 1000 ≤ sz ∧ (s_20 = sz ∧ n_21 = sn ∧ f_22 = sf ∧ c_23 = cn)) ∨ (z19 = 0 ∧ sz < 1000 ∧ s_20 = sz + 1 ∧ (n_21 = 0 ∨ n_21 = 1) ∧ (V f_22 15 = 0 → n_21 = 0) ∧ sv n_21 (V f_22 15) = sv sn (V sf 15) + vadd ka 1 (sv na (V fa 15)) ∧ (∀ j : Int, 0 ≤ j → j < 28 → c_23 j = cn j + cadd (cidx ka pla) j 1)) := p28
  have e31 : w17 0 = .inr (5, [.ref (ad E 1), .ref (ad E 2), .ref (ad E 3), .ref (ad E 5), .ref (ad E 10), .ref (ad E 13), .ref (ad E 16)]) := (hg30 0 (nx_D_accept_0 hra) (nx_D_accept_1 hra) (nx_D_accept_2 hra) (nx_D_accept_3 hra)).trans c0
  have e32 : w17 1 = zaq E 3 8 fq := (hg30 1 (nx_D_accept_4 hra) (nx_D_accept_5 hra) (nx_D_accept_6 hra) (nx_D_accept_7 hra)).trans c1
  have e33 : w17 2 = zaq E 4 4 fs := (hg30 2 (nx_D_accept_8 hra) (nx_D_accept_9 hra) (nx_D_accept_10 hra) (nx_D_accept_11 hra)).trans c2
  have e34 : w17 (19 + 3 * ra) = .inr (1, [.ref (zg E (1 + ka)), .int (iI pla), .ref (ad E (19 + 3 * ra + 1))]) := (hg30 (19 + 3 * ra) (nx_D_accept_12 hra) (nx_D_accept_13 hra) (nx_D_accept_14 hra) (nx_D_accept_15 hra)).trans c7
  have e35 : w17 (19 + 3 * ra + 1) = .inr (0, [.ref (ad E (19 + 3 * ra + 2)), .int (iI na)]) := (hg30 (19 + 3 * ra + 1) (nx_D_accept_16 hra) (nx_D_accept_17 hra) (nx_D_accept_18 hra) (nx_D_accept_19 hra)).trans c8
  have e36 : w17 (19 + 3 * ra + 2) = zar E 15 fa := (hg30 (19 + 3 * ra + 2) (nx_D_accept_20 hra) (nx_D_accept_21 hra) (nx_D_accept_22 hra) (nx_D_accept_23 hra)).trans c9
  have hf37 : ∀ k, k ≠ (43 + 4 * ks) → k ≠ (43 + 4 * ks + 1) → k ≠ (43 + 4 * ks + 2) → k ≠ (43 + 4 * ks + 3) → w17 k = w0 k := fun k g0 g1 g2 g3 => hg30 k g0 g1 g2 g3
  rw [hQ]
  exact z_iret hx hb hr hlk hH18 (⟨⟨s_20, n_21, f_22, c_23, e24, e25, e26, e27, bd28, bd29, p28⟩, (fun k g0 g1 g2 g3 => hf37 k g0 g1 g2 g3)⟩) d_D_accept_31
theorem nx_D_discard_0 {ks ra : Nat} (hra : ra < 8) : 0 ≠ 43 + 4 * ks := by omega
theorem nx_D_discard_1 {ks ra : Nat} (hra : ra < 8) : 0 ≠ 43 + 4 * ks + 1 := by omega
theorem nx_D_discard_2 {ks ra : Nat} (hra : ra < 8) : 0 ≠ 43 + 4 * ks + 2 := by omega
theorem nx_D_discard_3 {ks ra : Nat} (hra : ra < 8) : 0 ≠ 43 + 4 * ks + 3 := by omega
theorem nx_D_discard_4 {ks ra : Nat} (hra : ra < 8) : 1 ≠ 43 + 4 * ks := by omega
theorem nx_D_discard_5 {ks ra : Nat} (hra : ra < 8) : 1 ≠ 43 + 4 * ks + 1 := by omega
theorem nx_D_discard_6 {ks ra : Nat} (hra : ra < 8) : 1 ≠ 43 + 4 * ks + 2 := by omega
theorem nx_D_discard_7 {ks ra : Nat} (hra : ra < 8) : 1 ≠ 43 + 4 * ks + 3 := by omega
theorem nx_D_discard_8 {ks ra : Nat} (hra : ra < 8) : 2 ≠ 43 + 4 * ks := by omega
theorem nx_D_discard_9 {ks ra : Nat} (hra : ra < 8) : 2 ≠ 43 + 4 * ks + 1 := by omega
theorem nx_D_discard_10 {ks ra : Nat} (hra : ra < 8) : 2 ≠ 43 + 4 * ks + 2 := by omega
theorem nx_D_discard_11 {ks ra : Nat} (hra : ra < 8) : 2 ≠ 43 + 4 * ks + 3 := by omega
theorem nx_D_discard_12 {ks ra : Nat} (hra : ra < 8) : 19 + 3 * ra ≠ 43 + 4 * ks := by omega
theorem nx_D_discard_13 {ks ra : Nat} (hra : ra < 8) : 19 + 3 * ra ≠ 43 + 4 * ks + 1 := by omega
theorem nx_D_discard_14 {ks ra : Nat} (hra : ra < 8) : 19 + 3 * ra ≠ 43 + 4 * ks + 2 := by omega
theorem nx_D_discard_15 {ks ra : Nat} (hra : ra < 8) : 19 + 3 * ra ≠ 43 + 4 * ks + 3 := by omega
theorem nx_D_discard_16 {ks ra : Nat} (hra : ra < 8) : 19 + 3 * ra + 1 ≠ 43 + 4 * ks := by omega
theorem nx_D_discard_17 {ks ra : Nat} (hra : ra < 8) : 19 + 3 * ra + 1 ≠ 43 + 4 * ks + 1 := by omega
theorem nx_D_discard_18 {ks ra : Nat} (hra : ra < 8) : 19 + 3 * ra + 1 ≠ 43 + 4 * ks + 2 := by omega
theorem nx_D_discard_19 {ks ra : Nat} (hra : ra < 8) : 19 + 3 * ra + 1 ≠ 43 + 4 * ks + 3 := by omega
theorem nx_D_discard_20 {ks ra : Nat} (hra : ra < 8) : 19 + 3 * ra + 2 ≠ 43 + 4 * ks := by omega
theorem nx_D_discard_21 {ks ra : Nat} (hra : ra < 8) : 19 + 3 * ra + 2 ≠ 43 + 4 * ks + 1 := by omega
theorem nx_D_discard_22 {ks ra : Nat} (hra : ra < 8) : 19 + 3 * ra + 2 ≠ 43 + 4 * ks + 2 := by omega
theorem nx_D_discard_23 {ks ra : Nat} (hra : ra < 8) : 19 + 3 * ra + 2 ≠ 43 + 4 * ks + 3 := by omega
def rm_D_discard : Room := { frames := 6, cells := 0, slots := 0, locals := 128 }
set_option maxHeartbeats 4000000 in
set_option maxRecDepth 100000 in
theorem c_D_discard (l : Launch) (E : zE) (w0 : zW) (fq : Nat → Option Nat) (fs : Nat → Option Nat) (ks : Nat) (sn sz : Int) (sf cn : Int → Int) (ra : Nat) (ka : Nat) (pla na : Int) (fa : Int → Int) (hzn : 73 ≤ zn E) (c0 : w0 0 = .inr (5, [.ref (ad E 1), .ref (ad E 2), .ref (ad E 3), .ref (ad E 5), .ref (ad E 10), .ref (ad E 13), .ref (ad E 16)])) (c1 : w0 1 = zaq E 3 8 fq) (c2 : w0 2 = zaq E 4 4 fs) (c3 : w0 (43 + 4 * ks) = .inr (2, [.ref (ad E (43 + 4 * ks + 1)), .ref (ad E (43 + 4 * ks + 3)), .int (iI sz)])) (c4 : w0 (43 + 4 * ks + 1) = .inr (0, [.ref (ad E (43 + 4 * ks + 2)), .int (iI sn)])) (c5 : w0 (43 + 4 * ks + 2) = zar E 15 sf) (c6 : w0 (43 + 4 * ks + 3) = zar E 28 cn) (c7 : w0 (19 + 3 * ra) = .inr (1, [.ref (zg E (1 + ka)), .int (iI pla), .ref (ad E (19 + 3 * ra + 1))])) (c8 : w0 (19 + 3 * ra + 1) = .inr (0, [.ref (ad E (19 + 3 * ra + 2)), .int (iI na)])) (c9 : w0 (19 + 3 * ra + 2) = zar E 15 fa) (hfq : ∀ k : Nat, k < 8 → fq k = some (ad E (19 + 3 * k))) (hfs : ∀ k : Nat, k < 4 → fs k = some (ad E (43 + 4 * k))) (bs : bd sf 15 0 9999) (hsn : sn = 0 ∨ sn = 1) (bc : bd cn 28 0 sz) (hsz : 0 ≤ sz ∧ sz ≤ 1000) (hks : ks < 4) (bfa : bd fa 15 0 9999) (hka : ka < 4) (hna : na = 0 ∨ na = 1) (hra : ra < 8) (hpa : 0 ≤ pla ∧ pla ≤ 24) (hva : V fa 15 < Bp 14) (hca : V fa 15 = 0 → na = 0) (hfa : ka ≠ 1 → pla = 0 ∧ na = 0 ∧ V fa 15 = 0) (hs : V sf 15 + V fa 15 < Bp 15) (csf : V sf 15 = 0 → sn = 0) : zM l y_D_discard ws_D_discard rm_D_discard E [.ref (ad E 0), .int (iI ((ks : Int))), .int (iI ((ra : Int)))] w0 (zQi E w0 (fun z w' => (∃ (s' : Int) (n' : Int) (f' : Int → Int) (c' : Int → Int), w' (43 + 4 * ks) = .inr (2, [.ref (ad E (43 + 4 * ks + 1)), .ref (ad E (43 + 4 * ks + 3)), .int (iI s')]) ∧ w' (43 + 4 * ks + 1) = .inr (0, [.ref (ad E (43 + 4 * ks + 2)), .int (iI n')]) ∧ w' (43 + 4 * ks + 2) = zar E 15 f' ∧ w' (43 + 4 * ks + 3) = zar E 28 c' ∧ bd f' 15 0 9999 ∧ bd c' 28 0 (s') ∧ ((z = -2 ∧ 1000 ≤ sz ∧ (s' = sz ∧ n' = sn ∧ f' = sf ∧ c' = cn)) ∨ (z = -6 ∧ sz < 1000 ∧ cn (cidx ka pla) = 0 ∧ (s' = sz ∧ n' = sn ∧ f' = sf ∧ c' = cn)) ∨ (z = 0 ∧ sz < 1000 ∧ cn (cidx ka pla) ≠ 0 ∧ s' = sz + 1 ∧ (n' = 0 ∨ n' = 1) ∧ (V f' 15 = 0 → n' = 0) ∧ sv n' (V f' 15) = sv sn (V sf 15) + vadd ka (-1) (sv na (V fa 15)) ∧ (∀ j : Int, 0 ≤ j → j < 28 → c' j = cn j + cadd (cidx ka pla) j (-1))))) ∧ ∀ k, k ≠ (43 + 4 * ks) → k ≠ (43 + 4 * ks + 1) → k ≠ (43 + 4 * ks + 2) → k ≠ (43 + 4 * ks + 3) → w' k = w0 k)) := by
  refine z_met (cc := b_D_discard) (maxL := 3) (ret := (some .int)) (by decide +kernel) rfl (Nat.le_of_ble_eq_true rfl) ?_
  intro p e s m below meth cd ls a Qf hQ hC hl hH
  obtain ⟨hF, hr, hlk, hK, hG, hn⟩ := hC
  obtain ⟨hx, hb, hml, hown, hts⟩ := hF
  have hg : ∀ w ∈ GW, w.before a s = true := fun w h => hts w (List.mem_cons_of_mem _ h)
  have hA : ∀ q, s.heap.size ≤ q → va_A (wl E w0) s.heap.size q := fun q h => Or.inr h
  have hl : lv_has ls 3 [(0, .ref (ad E 0)), (1, .int (iI ((ks : Int)))), (2, .int (iI ((ra : Int))))] := hl
  have q0lt : 0 < zn E := by omega
  have q1lt : 1 < zn E := by omega
  have q2lt : 2 < zn E := by omega
  have q3lt : 43 + 4 * ks < zn E := by omega
  have q4lt : 43 + 4 * ks + 1 < zn E := by omega
  have q5lt : 43 + 4 * ks + 2 < zn E := by omega
  have q6lt : 43 + 4 * ks + 3 < zn E := by omega
  have q7lt : 19 + 3 * ra < zn E := by omega
  have q8lt : 19 + 3 * ra + 1 < zn E := by omega
  have q9lt : 19 + 3 * ra + 2 < zn E := by omega
  refine lv_iload_n hx hb d_D_discard_0 rfl (lv_at hl 1 rfl) ?_
  refine z_calli (va_runS (As := [.int (iI ((ks : Int)))]) (rest := []) ⟨hx, hb, hml, hown, hts⟩ (c_D_isSum (l := l) (E := E) (w0 := w0) (r := (ks : Int)) (hr0 := by omega) s.heap.size) (z_cwS 1 hg wm_599 wm_597 wm_1 wm_598 (by decide +kernel) ⟨Nat.le_of_ble_eq_true rfl, Nat.le_of_ble_eq_true rfl⟩) (z_preS hK hG hn hH hA) rfl rfl hl.1 rfl (lv_room (Nat.le_of_ble_eq_true rfl)) d_D_discard_1 ⟨Nat.zero_le _, Nat.zero_le _⟩) hH hA (fun z5 w3 H1 lc2 hH4 p1 => ?_)
  obtain ⟨ew6, p1⟩ := p1
  rw [ew6] at hH4
  replace p1 : (z5 = 1 ∧ 0 ≤ ((ks : Int)) ∧ ((ks : Int)) < 4) ∨ (z5 = 0 ∧ ¬ (0 ≤ ((ks : Int)) ∧ ((ks : Int)) < 4)) := p1
  refine zv_if_eq (tgt := 14) hx hb d_D_discard_4 rfl (by omega) (fun h7 => absurd h7 (by omega)) (fun h7 => ?_)
  refine lv_iload_n hx hb d_D_discard_7 rfl (lv_at hl 2 rfl) ?_
  refine z_calli (va_runS (As := [.int (iI ((ra : Int)))]) (rest := []) ⟨hx, hb, hml, hown, hts⟩ (c_D_isRegister (l := l) (E := E) (w0 := w0) (r := (ra : Int)) (hr0 := by omega) H1.size) (z_cwS 1 hg wm_164 wm_162 wm_1 wm_163 (by decide +kernel) ⟨Nat.le_of_ble_eq_true rfl, Nat.le_of_ble_eq_true rfl⟩) (z_preS hK hG hn hH4 hA) rfl rfl hl.1 rfl (lv_room (Nat.le_of_ble_eq_true rfl)) d_D_discard_8 ⟨Nat.zero_le _, Nat.zero_le _⟩) hH4 hA (fun z12 w10 H8 lc9 hH11 p8 => ?_)
  obtain ⟨ew13, p8⟩ := p8
  rw [ew13] at hH11
  replace p8 : (z12 = 1 ∧ 0 ≤ ((ra : Int)) ∧ ((ra : Int)) < 8) ∨ (z12 = 0 ∧ ¬ (0 ≤ ((ra : Int)) ∧ ((ra : Int)) < 8)) := p8
  refine zv_if_ne (tgt := 16) hx hb d_D_discard_11 rfl (by omega) (fun h14 => ?_) (fun h14 => absurd h14 (by omega))
  refine lv_aload_n hx hb d_D_discard_16 rfl (lv_at hl 0 rfl) ?_
  refine zv_get (C := "ScaledNumeralDesk") (T := TD) (N := 7) hx hb hg uD_in hown hK hH11 q0lt c0 rfl 1 (by decide) (hg _ wm_129) (fun _ h9 => h9) rfl d_D_discard_17 ?_
  refine lv_iload_n hx hb d_D_discard_20 rfl (lv_at hl 1 rfl) ?_
  refine zv_aald (i := ks) hx hb hK hH11 q2lt c2 rfl (by omega) (by omega) (hfs ks (by omega)) d_D_discard_21 ?_
  refine lv_aload_n hx hb d_D_discard_22 rfl (lv_at hl 0 rfl) ?_
  refine zv_get (C := "ScaledNumeralDesk") (T := TD) (N := 7) hx hb hg uD_in hown hK hH11 q0lt c0 rfl 0 (by decide) (hg _ wm_128) (fun _ h9 => h9) rfl d_D_discard_23 ?_
  refine lv_iload_n hx hb d_D_discard_26 rfl (lv_at hl 2 rfl) ?_
  refine zv_aald (i := ra) hx hb hK hH11 q1lt c1 rfl (by omega) (by omega) (hfq ra (by omega)) d_D_discard_27 ?_
  refine z_calli (va_runV (As := [.ref (ad E (19 + 3 * ra))]) (rest := []) ⟨hx, hb, hml, hown, hts⟩ (c_S_takeOut (l := l) (E := E) (w0 := w0) (y := 43 + 4 * ks) (sn := sn) (sz := sz) (sf := sf) (cn := cn) (q := 19 + 3 * ra) (kd := ka) (pl := pla) (ng := na) (f := fa) (q0lt := q3lt) (q1lt := q4lt) (q2lt := q5lt) (q3lt := q6lt) (q4lt := q7lt) (q5lt := q8lt) (q6lt := q9lt) (c0 := c3) (c1 := c4) (c2 := c5) (c3 := c6) (c4 := c7) (c5 := c8) (c6 := c9) (bs := bs) (hsn := by omega) (bc := bc) (hsz := by omega) (bf := bfa) (hkd := by omega) (hng := by omega) (hpl := by omega) (hqy := by omega) (hs := by omega) (csf := by omega) H8.size) (z_cwV (C := "ScaledNumeralDesk$Sum") 1 hg wm_622 wm_619 wm_6 wm_620 wm_621 (by decide +kernel) ⟨Nat.le_of_ble_eq_true rfl, Nat.le_of_ble_eq_true rfl⟩) (z_preV (r := ("ScaledNumeralDesk$Sum", TS, 3)) hK hG hn hH11 hA q3lt c3 rfl) rfl rfl hl.1 rfl (lv_room (Nat.le_of_ble_eq_true rfl)) d_D_discard_28 ⟨Nat.zero_le _, Nat.zero_le _⟩) hH11 hA (fun z19 w17 H15 lc16 hH18 p28 => ?_)
  obtain ⟨⟨s_20, n_21, f_22, c_23, e24, e25, e26, e27, bd28, bd29, p28⟩, hg30⟩ := p28
  replace bd28 : bd f_22 15 0 9999 := bd28
  replace bd29 : bd c_23 28 0 (s_20) := bd29
  replace p28 : (z19 = -2 ∧ 1000 ≤ sz ∧ (s_20 = sz ∧ n_21 = sn ∧ f_22 = sf ∧ c_23 = cn)) ∨ (z19 = -6 ∧ sz < 1000 ∧ cn (cidx ka pla) = 0 ∧ (s_20 = sz ∧ n_21 = sn ∧ f_22 = sf ∧ c_23 = cn)) ∨ (z19 = 0 ∧ sz < 1000 ∧ cn (cidx ka pla) ≠ 0 ∧ s_20 = sz + 1 ∧ (n_21 = 0 ∨ n_21 = 1) ∧ (V f_22 15 = 0 → n_21 = 0) ∧ sv n_21 (V f_22 15) = sv sn (V sf 15) + vadd ka (-1) (sv na (V fa 15)) ∧ (∀ j : Int, 0 ≤ j → j < 28 → c_23 j = cn j + cadd (cidx ka pla) j (-1))) := p28
  have e31 : w17 0 = .inr (5, [.ref (ad E 1), .ref (ad E 2), .ref (ad E 3), .ref (ad E 5), .ref (ad E 10), .ref (ad E 13), .ref (ad E 16)]) := (hg30 0 (nx_D_discard_0 hra) (nx_D_discard_1 hra) (nx_D_discard_2 hra) (nx_D_discard_3 hra)).trans c0
  have e32 : w17 1 = zaq E 3 8 fq := (hg30 1 (nx_D_discard_4 hra) (nx_D_discard_5 hra) (nx_D_discard_6 hra) (nx_D_discard_7 hra)).trans c1
  have e33 : w17 2 = zaq E 4 4 fs := (hg30 2 (nx_D_discard_8 hra) (nx_D_discard_9 hra) (nx_D_discard_10 hra) (nx_D_discard_11 hra)).trans c2
  have e34 : w17 (19 + 3 * ra) = .inr (1, [.ref (zg E (1 + ka)), .int (iI pla), .ref (ad E (19 + 3 * ra + 1))]) := (hg30 (19 + 3 * ra) (nx_D_discard_12 hra) (nx_D_discard_13 hra) (nx_D_discard_14 hra) (nx_D_discard_15 hra)).trans c7
  have e35 : w17 (19 + 3 * ra + 1) = .inr (0, [.ref (ad E (19 + 3 * ra + 2)), .int (iI na)]) := (hg30 (19 + 3 * ra + 1) (nx_D_discard_16 hra) (nx_D_discard_17 hra) (nx_D_discard_18 hra) (nx_D_discard_19 hra)).trans c8
  have e36 : w17 (19 + 3 * ra + 2) = zar E 15 fa := (hg30 (19 + 3 * ra + 2) (nx_D_discard_20 hra) (nx_D_discard_21 hra) (nx_D_discard_22 hra) (nx_D_discard_23 hra)).trans c9
  have hf37 : ∀ k, k ≠ (43 + 4 * ks) → k ≠ (43 + 4 * ks + 1) → k ≠ (43 + 4 * ks + 2) → k ≠ (43 + 4 * ks + 3) → w17 k = w0 k := fun k g0 g1 g2 g3 => hg30 k g0 g1 g2 g3
  rw [hQ]
  exact z_iret hx hb hr hlk hH18 (⟨⟨s_20, n_21, f_22, c_23, e24, e25, e26, e27, bd28, bd29, p28⟩, (fun k g0 g1 g2 g3 => hf37 k g0 g1 g2 g3)⟩) d_D_discard_31
theorem nx_D_merge_0 {kj ks : Nat} (hkk : ks ≠ kj) : 0 ≠ 43 + 4 * ks := by omega
theorem nx_D_merge_1 {kj ks : Nat} (hkk : ks ≠ kj) : 0 ≠ 43 + 4 * ks + 1 := by omega
theorem nx_D_merge_2 {kj ks : Nat} (hkk : ks ≠ kj) : 0 ≠ 43 + 4 * ks + 2 := by omega
theorem nx_D_merge_3 {kj ks : Nat} (hkk : ks ≠ kj) : 0 ≠ 43 + 4 * ks + 3 := by omega
theorem nx_D_merge_4 {kj ks : Nat} (hkk : ks ≠ kj) : 2 ≠ 43 + 4 * ks := by omega
theorem nx_D_merge_5 {kj ks : Nat} (hkk : ks ≠ kj) : 2 ≠ 43 + 4 * ks + 1 := by omega
theorem nx_D_merge_6 {kj ks : Nat} (hkk : ks ≠ kj) : 2 ≠ 43 + 4 * ks + 2 := by omega
theorem nx_D_merge_7 {kj ks : Nat} (hkk : ks ≠ kj) : 2 ≠ 43 + 4 * ks + 3 := by omega
theorem nx_D_merge_8 {kj ks : Nat} (hkk : ks ≠ kj) : 43 + 4 * kj ≠ 43 + 4 * ks := by omega
theorem nx_D_merge_9 {kj ks : Nat} (hkk : ks ≠ kj) : 43 + 4 * kj ≠ 43 + 4 * ks + 1 := by omega
theorem nx_D_merge_10 {kj ks : Nat} (hkk : ks ≠ kj) : 43 + 4 * kj ≠ 43 + 4 * ks + 2 := by omega
theorem nx_D_merge_11 {kj ks : Nat} (hkk : ks ≠ kj) : 43 + 4 * kj ≠ 43 + 4 * ks + 3 := by omega
theorem nx_D_merge_12 {kj ks : Nat} (hkk : ks ≠ kj) : 43 + 4 * kj + 1 ≠ 43 + 4 * ks := by omega
theorem nx_D_merge_13 {kj ks : Nat} (hkk : ks ≠ kj) : 43 + 4 * kj + 1 ≠ 43 + 4 * ks + 1 := by omega
theorem nx_D_merge_14 {kj ks : Nat} (hkk : ks ≠ kj) : 43 + 4 * kj + 1 ≠ 43 + 4 * ks + 2 := by omega
theorem nx_D_merge_15 {kj ks : Nat} (hkk : ks ≠ kj) : 43 + 4 * kj + 1 ≠ 43 + 4 * ks + 3 := by omega
theorem nx_D_merge_16 {kj ks : Nat} (hkk : ks ≠ kj) : 43 + 4 * kj + 2 ≠ 43 + 4 * ks := by omega
theorem nx_D_merge_17 {kj ks : Nat} (hkk : ks ≠ kj) : 43 + 4 * kj + 2 ≠ 43 + 4 * ks + 1 := by omega
theorem nx_D_merge_18 {kj ks : Nat} (hkk : ks ≠ kj) : 43 + 4 * kj + 2 ≠ 43 + 4 * ks + 2 := by omega
theorem nx_D_merge_19 {kj ks : Nat} (hkk : ks ≠ kj) : 43 + 4 * kj + 2 ≠ 43 + 4 * ks + 3 := by omega
theorem nx_D_merge_20 {kj ks : Nat} (hkk : ks ≠ kj) : 43 + 4 * kj + 3 ≠ 43 + 4 * ks := by omega
theorem nx_D_merge_21 {kj ks : Nat} (hkk : ks ≠ kj) : 43 + 4 * kj + 3 ≠ 43 + 4 * ks + 1 := by omega
theorem nx_D_merge_22 {kj ks : Nat} (hkk : ks ≠ kj) : 43 + 4 * kj + 3 ≠ 43 + 4 * ks + 2 := by omega
theorem nx_D_merge_23 {kj ks : Nat} (hkk : ks ≠ kj) : 43 + 4 * kj + 3 ≠ 43 + 4 * ks + 3 := by omega
def rm_D_merge : Room := { frames := 5, cells := 0, slots := 0, locals := 107 }
set_option maxHeartbeats 4000000 in
set_option maxRecDepth 100000 in
theorem c_D_merge (l : Launch) (E : zE) (w0 : zW) (fs : Nat → Option Nat) (ks : Nat) (sn sz : Int) (sf cn : Int → Int) (kj : Nat) (on oz : Int) (of co : Int → Int) (hzn : 73 ≤ zn E) (c0 : w0 0 = .inr (5, [.ref (ad E 1), .ref (ad E 2), .ref (ad E 3), .ref (ad E 5), .ref (ad E 10), .ref (ad E 13), .ref (ad E 16)])) (c1 : w0 2 = zaq E 4 4 fs) (c2 : w0 (43 + 4 * ks) = .inr (2, [.ref (ad E (43 + 4 * ks + 1)), .ref (ad E (43 + 4 * ks + 3)), .int (iI sz)])) (c3 : w0 (43 + 4 * ks + 1) = .inr (0, [.ref (ad E (43 + 4 * ks + 2)), .int (iI sn)])) (c4 : w0 (43 + 4 * ks + 2) = zar E 15 sf) (c5 : w0 (43 + 4 * ks + 3) = zar E 28 cn) (c6 : w0 (43 + 4 * kj) = .inr (2, [.ref (ad E (43 + 4 * kj + 1)), .ref (ad E (43 + 4 * kj + 3)), .int (iI oz)])) (c7 : w0 (43 + 4 * kj + 1) = .inr (0, [.ref (ad E (43 + 4 * kj + 2)), .int (iI on)])) (c8 : w0 (43 + 4 * kj + 2) = zar E 15 of) (c9 : w0 (43 + 4 * kj + 3) = zar E 28 co) (hfs : ∀ k : Nat, k < 4 → fs k = some (ad E (43 + 4 * k))) (bs : bd sf 15 0 9999) (hsn : sn = 0 ∨ sn = 1) (bc : bd cn 28 0 sz) (hsz : 0 ≤ sz ∧ sz ≤ 1000) (hks : ks < 4) (bo : bd of 15 0 9999) (hon : on = 0 ∨ on = 1) (bco : bd co 28 0 oz) (hoz : 0 ≤ oz ∧ oz ≤ 1000) (hkj : kj < 4) (hs : V sf 15 + V of 15 < Bp 15) (hkk : ks ≠ kj) : zM l y_D_merge ws_D_merge rm_D_merge E [.ref (ad E 0), .int (iI ((ks : Int))), .int (iI ((kj : Int)))] w0 (zQi E w0 (fun z w' => (∃ (s' : Int) (n' : Int) (f' : Int → Int) (c' : Int → Int), w' (43 + 4 * ks) = .inr (2, [.ref (ad E (43 + 4 * ks + 1)), .ref (ad E (43 + 4 * ks + 3)), .int (iI s')]) ∧ w' (43 + 4 * ks + 1) = .inr (0, [.ref (ad E (43 + 4 * ks + 2)), .int (iI n')]) ∧ w' (43 + 4 * ks + 2) = zar E 15 f' ∧ w' (43 + 4 * ks + 3) = zar E 28 c' ∧ bd f' 15 0 9999 ∧ bd c' 28 0 (s') ∧ ((z = -2 ∧ 1000 < sz + oz ∧ (s' = sz ∧ n' = sn ∧ f' = sf ∧ c' = cn)) ∨ (z = 0 ∧ sz + oz ≤ 1000 ∧ s' = sz + oz ∧ (n' = 0 ∨ n' = 1) ∧ (V f' 15 = 0 → n' = 0) ∧ sv n' (V f' 15) = sv sn (V sf 15) + sv on (V of 15) ∧ ∀ j : Int, 0 ≤ j → j < 28 → c' j = cn j + co j))) ∧ ∀ k, k ≠ (43 + 4 * ks) → k ≠ (43 + 4 * ks + 1) → k ≠ (43 + 4 * ks + 2) → k ≠ (43 + 4 * ks + 3) → w' k = w0 k)) := by
  refine z_met (cc := b_D_merge) (maxL := 3) (ret := (some .int)) (by decide +kernel) rfl (Nat.le_of_ble_eq_true rfl) ?_
  intro p e s m below meth cd ls a Qf hQ hC hl hH
  obtain ⟨hF, hr, hlk, hK, hG, hn⟩ := hC
  obtain ⟨hx, hb, hml, hown, hts⟩ := hF
  have hg : ∀ w ∈ GW, w.before a s = true := fun w h => hts w (List.mem_cons_of_mem _ h)
  have hA : ∀ q, s.heap.size ≤ q → va_A (wl E w0) s.heap.size q := fun q h => Or.inr h
  have hl : lv_has ls 3 [(0, .ref (ad E 0)), (1, .int (iI ((ks : Int)))), (2, .int (iI ((kj : Int))))] := hl
  have q0lt : 0 < zn E := by omega
  have q1lt : 2 < zn E := by omega
  have q2lt : 43 + 4 * ks < zn E := by omega
  have q3lt : 43 + 4 * ks + 1 < zn E := by omega
  have q4lt : 43 + 4 * ks + 2 < zn E := by omega
  have q5lt : 43 + 4 * ks + 3 < zn E := by omega
  have q6lt : 43 + 4 * kj < zn E := by omega
  have q7lt : 43 + 4 * kj + 1 < zn E := by omega
  have q8lt : 43 + 4 * kj + 2 < zn E := by omega
  have q9lt : 43 + 4 * kj + 3 < zn E := by omega
  refine lv_iload_n hx hb d_D_merge_0 rfl (lv_at hl 1 rfl) ?_
  refine z_calli (va_runS (As := [.int (iI ((ks : Int)))]) (rest := []) ⟨hx, hb, hml, hown, hts⟩ (c_D_isSum (l := l) (E := E) (w0 := w0) (r := (ks : Int)) (hr0 := by omega) s.heap.size) (z_cwS 1 hg wm_599 wm_597 wm_1 wm_598 (by decide +kernel) ⟨Nat.le_of_ble_eq_true rfl, Nat.le_of_ble_eq_true rfl⟩) (z_preS hK hG hn hH hA) rfl rfl hl.1 rfl (lv_room (Nat.le_of_ble_eq_true rfl)) d_D_merge_1 ⟨Nat.zero_le _, Nat.zero_le _⟩) hH hA (fun z5 w3 H1 lc2 hH4 p1 => ?_)
  obtain ⟨ew6, p1⟩ := p1
  rw [ew6] at hH4
  replace p1 : (z5 = 1 ∧ 0 ≤ ((ks : Int)) ∧ ((ks : Int)) < 4) ∨ (z5 = 0 ∧ ¬ (0 ≤ ((ks : Int)) ∧ ((ks : Int)) < 4)) := p1
  refine zv_if_eq (tgt := 14) hx hb d_D_merge_4 rfl (by omega) (fun h7 => absurd h7 (by omega)) (fun h7 => ?_)
  refine lv_iload_n hx hb d_D_merge_7 rfl (lv_at hl 2 rfl) ?_
  refine z_calli (va_runS (As := [.int (iI ((kj : Int)))]) (rest := []) ⟨hx, hb, hml, hown, hts⟩ (c_D_isSum (l := l) (E := E) (w0 := w0) (r := (kj : Int)) (hr0 := by omega) H1.size) (z_cwS 1 hg wm_599 wm_597 wm_1 wm_598 (by decide +kernel) ⟨Nat.le_of_ble_eq_true rfl, Nat.le_of_ble_eq_true rfl⟩) (z_preS hK hG hn hH4 hA) rfl rfl hl.1 rfl (lv_room (Nat.le_of_ble_eq_true rfl)) d_D_merge_8 ⟨Nat.zero_le _, Nat.zero_le _⟩) hH4 hA (fun z12 w10 H8 lc9 hH11 p8 => ?_)
  obtain ⟨ew13, p8⟩ := p8
  rw [ew13] at hH11
  replace p8 : (z12 = 1 ∧ 0 ≤ ((kj : Int)) ∧ ((kj : Int)) < 4) ∨ (z12 = 0 ∧ ¬ (0 ≤ ((kj : Int)) ∧ ((kj : Int)) < 4)) := p8
  refine zv_if_ne (tgt := 16) hx hb d_D_merge_11 rfl (by omega) (fun h14 => ?_) (fun h14 => absurd h14 (by omega))
  refine lv_aload_n hx hb d_D_merge_16 rfl (lv_at hl 0 rfl) ?_
  refine zv_get (C := "ScaledNumeralDesk") (T := TD) (N := 7) hx hb hg uD_in hown hK hH11 q0lt c0 rfl 1 (by decide) (hg _ wm_129) (fun _ h9 => h9) rfl d_D_merge_17 ?_
  refine lv_iload_n hx hb d_D_merge_20 rfl (lv_at hl 1 rfl) ?_
  refine zv_aald (i := ks) hx hb hK hH11 q1lt c1 rfl (by omega) (by omega) (hfs ks (by omega)) d_D_merge_21 ?_
  refine lv_aload_n hx hb d_D_merge_22 rfl (lv_at hl 0 rfl) ?_
  refine zv_get (C := "ScaledNumeralDesk") (T := TD) (N := 7) hx hb hg uD_in hown hK hH11 q0lt c0 rfl 1 (by decide) (hg _ wm_129) (fun _ h9 => h9) rfl d_D_merge_23 ?_
  refine lv_iload_n hx hb d_D_merge_26 rfl (lv_at hl 2 rfl) ?_
  refine zv_aald (i := kj) hx hb hK hH11 q1lt c1 rfl (by omega) (by omega) (hfs kj (by omega)) d_D_merge_27 ?_
  refine z_calli (va_runV (As := [.ref (ad E (43 + 4 * kj))]) (rest := []) ⟨hx, hb, hml, hown, hts⟩ (c_S_join (l := l) (E := E) (w0 := w0) (y := 43 + 4 * ks) (sn := sn) (sz := sz) (sf := sf) (cn := cn) (x := 43 + 4 * kj) (on := on) (oz := oz) (of := of) (co := co) (q0lt := q2lt) (q1lt := q3lt) (q2lt := q4lt) (q3lt := q5lt) (q4lt := q6lt) (q5lt := q7lt) (q6lt := q8lt) (q7lt := q9lt) (c0 := c2) (c1 := c3) (c2 := c4) (c3 := c5) (c4 := c6) (c5 := c7) (c6 := c8) (c7 := c9) (bs := bs) (hsn := by omega) (bc := bc) (hsz := by omega) (bo := bo) (hon := by omega) (bco := bco) (hoz := by omega) (hs := by omega) (hxy := by omega) H8.size) (z_cwV (C := "ScaledNumeralDesk$Sum") 1 hg wm_630 wm_627 wm_6 wm_628 wm_629 (by decide +kernel) ⟨Nat.le_of_ble_eq_true rfl, Nat.le_of_ble_eq_true rfl⟩) (z_preV (r := ("ScaledNumeralDesk$Sum", TS, 3)) hK hG hn hH11 hA q2lt c2 rfl) rfl rfl hl.1 rfl (lv_room (Nat.le_of_ble_eq_true rfl)) d_D_merge_28 ⟨Nat.zero_le _, Nat.zero_le _⟩) hH11 hA (fun z19 w17 H15 lc16 hH18 p28 => ?_)
  obtain ⟨⟨s_20, n_21, f_22, c_23, e24, e25, e26, e27, bd28, bd29, p28⟩, hg30⟩ := p28
  replace bd28 : bd f_22 15 0 9999 := bd28
  replace bd29 : bd c_23 28 0 (s_20) := bd29
  replace p28 : (z19 = -2 ∧ 1000 < sz + oz ∧ (s_20 = sz ∧ n_21 = sn ∧ f_22 = sf ∧ c_23 = cn)) ∨ (z19 = 0 ∧ sz + oz ≤ 1000 ∧ s_20 = sz + oz ∧ (n_21 = 0 ∨ n_21 = 1) ∧ (V f_22 15 = 0 → n_21 = 0) ∧ sv n_21 (V f_22 15) = sv sn (V sf 15) + sv on (V of 15) ∧ ∀ j : Int, 0 ≤ j → j < 28 → c_23 j = cn j + co j) := p28
  have e31 : w17 0 = .inr (5, [.ref (ad E 1), .ref (ad E 2), .ref (ad E 3), .ref (ad E 5), .ref (ad E 10), .ref (ad E 13), .ref (ad E 16)]) := (hg30 0 (nx_D_merge_0 hkk) (nx_D_merge_1 hkk) (nx_D_merge_2 hkk) (nx_D_merge_3 hkk)).trans c0
  have e32 : w17 2 = zaq E 4 4 fs := (hg30 2 (nx_D_merge_4 hkk) (nx_D_merge_5 hkk) (nx_D_merge_6 hkk) (nx_D_merge_7 hkk)).trans c1
  have e33 : w17 (43 + 4 * kj) = .inr (2, [.ref (ad E (43 + 4 * kj + 1)), .ref (ad E (43 + 4 * kj + 3)), .int (iI oz)]) := (hg30 (43 + 4 * kj) (nx_D_merge_8 hkk) (nx_D_merge_9 hkk) (nx_D_merge_10 hkk) (nx_D_merge_11 hkk)).trans c6
  have e34 : w17 (43 + 4 * kj + 1) = .inr (0, [.ref (ad E (43 + 4 * kj + 2)), .int (iI on)]) := (hg30 (43 + 4 * kj + 1) (nx_D_merge_12 hkk) (nx_D_merge_13 hkk) (nx_D_merge_14 hkk) (nx_D_merge_15 hkk)).trans c7
  have e35 : w17 (43 + 4 * kj + 2) = zar E 15 of := (hg30 (43 + 4 * kj + 2) (nx_D_merge_16 hkk) (nx_D_merge_17 hkk) (nx_D_merge_18 hkk) (nx_D_merge_19 hkk)).trans c8
  have e36 : w17 (43 + 4 * kj + 3) = zar E 28 co := (hg30 (43 + 4 * kj + 3) (nx_D_merge_20 hkk) (nx_D_merge_21 hkk) (nx_D_merge_22 hkk) (nx_D_merge_23 hkk)).trans c9
  have hf37 : ∀ k, k ≠ (43 + 4 * ks) → k ≠ (43 + 4 * ks + 1) → k ≠ (43 + 4 * ks + 2) → k ≠ (43 + 4 * ks + 3) → w17 k = w0 k := fun k g0 g1 g2 g3 => hg30 k g0 g1 g2 g3
  rw [hQ]
  exact z_iret hx hb hr hlk hH18 (⟨⟨s_20, n_21, f_22, c_23, e24, e25, e26, e27, bd28, bd29, p28⟩, (fun k g0 g1 g2 g3 => hf37 k g0 g1 g2 g3)⟩) d_D_merge_31
theorem nx_D_mergeAA_0 {ks : Nat}  : 0 ≠ 43 + 4 * ks := by omega
theorem nx_D_mergeAA_1 {ks : Nat}  : 0 ≠ 43 + 4 * ks + 1 := by omega
theorem nx_D_mergeAA_2 {ks : Nat}  : 0 ≠ 43 + 4 * ks + 2 := by omega
theorem nx_D_mergeAA_3 {ks : Nat}  : 0 ≠ 43 + 4 * ks + 3 := by omega
theorem nx_D_mergeAA_4 {ks : Nat}  : 2 ≠ 43 + 4 * ks := by omega
theorem nx_D_mergeAA_5 {ks : Nat}  : 2 ≠ 43 + 4 * ks + 1 := by omega
theorem nx_D_mergeAA_6 {ks : Nat}  : 2 ≠ 43 + 4 * ks + 2 := by omega
theorem nx_D_mergeAA_7 {ks : Nat}  : 2 ≠ 43 + 4 * ks + 3 := by omega
def rm_D_mergeAA : Room := { frames := 5, cells := 0, slots := 0, locals := 107 }
set_option maxHeartbeats 4000000 in
set_option maxRecDepth 100000 in
theorem c_D_mergeAA (l : Launch) (E : zE) (w0 : zW) (fs : Nat → Option Nat) (ks : Nat) (sn sz : Int) (sf cn : Int → Int) (hzn : 73 ≤ zn E) (c0 : w0 0 = .inr (5, [.ref (ad E 1), .ref (ad E 2), .ref (ad E 3), .ref (ad E 5), .ref (ad E 10), .ref (ad E 13), .ref (ad E 16)])) (c1 : w0 2 = zaq E 4 4 fs) (c2 : w0 (43 + 4 * ks) = .inr (2, [.ref (ad E (43 + 4 * ks + 1)), .ref (ad E (43 + 4 * ks + 3)), .int (iI sz)])) (c3 : w0 (43 + 4 * ks + 1) = .inr (0, [.ref (ad E (43 + 4 * ks + 2)), .int (iI sn)])) (c4 : w0 (43 + 4 * ks + 2) = zar E 15 sf) (c5 : w0 (43 + 4 * ks + 3) = zar E 28 cn) (hfs : ∀ k : Nat, k < 4 → fs k = some (ad E (43 + 4 * k))) (bs : bd sf 15 0 9999) (hsn : sn = 0 ∨ sn = 1) (bc : bd cn 28 0 sz) (hsz : 0 ≤ sz ∧ sz ≤ 1000) (hks : ks < 4) (hs : V sf 15 + V sf 15 < Bp 15) : zM l y_D_merge ws_D_merge rm_D_mergeAA E [.ref (ad E 0), .int (iI ((ks : Int))), .int (iI ((ks : Int)))] w0 (zQi E w0 (fun z w' => (∃ (s' : Int) (n' : Int) (f' : Int → Int) (c' : Int → Int), w' (43 + 4 * ks) = .inr (2, [.ref (ad E (43 + 4 * ks + 1)), .ref (ad E (43 + 4 * ks + 3)), .int (iI s')]) ∧ w' (43 + 4 * ks + 1) = .inr (0, [.ref (ad E (43 + 4 * ks + 2)), .int (iI n')]) ∧ w' (43 + 4 * ks + 2) = zar E 15 f' ∧ w' (43 + 4 * ks + 3) = zar E 28 c' ∧ bd f' 15 0 9999 ∧ bd c' 28 0 (s') ∧ ((z = -2 ∧ 1000 < sz + sz ∧ (s' = sz ∧ n' = sn ∧ f' = sf ∧ c' = cn)) ∨ (z = 0 ∧ sz + sz ≤ 1000 ∧ s' = sz + sz ∧ (n' = 0 ∨ n' = 1) ∧ (V f' 15 = 0 → n' = 0) ∧ sv n' (V f' 15) = sv sn (V sf 15) + sv sn (V sf 15) ∧ ∀ j : Int, 0 ≤ j → j < 28 → c' j = cn j + cn j))) ∧ ∀ k, k ≠ (43 + 4 * ks) → k ≠ (43 + 4 * ks + 1) → k ≠ (43 + 4 * ks + 2) → k ≠ (43 + 4 * ks + 3) → w' k = w0 k)) := by
  refine z_met (cc := b_D_merge) (maxL := 3) (ret := (some .int)) (by decide +kernel) rfl (Nat.le_of_ble_eq_true rfl) ?_
  intro p e s m below meth cd ls a Qf hQ hC hl hH
  obtain ⟨hF, hr, hlk, hK, hG, hn⟩ := hC
  obtain ⟨hx, hb, hml, hown, hts⟩ := hF
  have hg : ∀ w ∈ GW, w.before a s = true := fun w h => hts w (List.mem_cons_of_mem _ h)
  have hA : ∀ q, s.heap.size ≤ q → va_A (wl E w0) s.heap.size q := fun q h => Or.inr h
  have hl : lv_has ls 3 [(0, .ref (ad E 0)), (1, .int (iI ((ks : Int)))), (2, .int (iI ((ks : Int))))] := hl
  have q0lt : 0 < zn E := by omega
  have q1lt : 2 < zn E := by omega
  have q2lt : 43 + 4 * ks < zn E := by omega
  have q3lt : 43 + 4 * ks + 1 < zn E := by omega
  have q4lt : 43 + 4 * ks + 2 < zn E := by omega
  have q5lt : 43 + 4 * ks + 3 < zn E := by omega
  refine lv_iload_n hx hb d_D_merge_0 rfl (lv_at hl 1 rfl) ?_
  refine z_calli (va_runS (As := [.int (iI ((ks : Int)))]) (rest := []) ⟨hx, hb, hml, hown, hts⟩ (c_D_isSum (l := l) (E := E) (w0 := w0) (r := (ks : Int)) (hr0 := by omega) s.heap.size) (z_cwS 1 hg wm_599 wm_597 wm_1 wm_598 (by decide +kernel) ⟨Nat.le_of_ble_eq_true rfl, Nat.le_of_ble_eq_true rfl⟩) (z_preS hK hG hn hH hA) rfl rfl hl.1 rfl (lv_room (Nat.le_of_ble_eq_true rfl)) d_D_merge_1 ⟨Nat.zero_le _, Nat.zero_le _⟩) hH hA (fun z5 w3 H1 lc2 hH4 p1 => ?_)
  obtain ⟨ew6, p1⟩ := p1
  rw [ew6] at hH4
  replace p1 : (z5 = 1 ∧ 0 ≤ ((ks : Int)) ∧ ((ks : Int)) < 4) ∨ (z5 = 0 ∧ ¬ (0 ≤ ((ks : Int)) ∧ ((ks : Int)) < 4)) := p1
  refine zv_if_eq (tgt := 14) hx hb d_D_merge_4 rfl (by omega) (fun h7 => absurd h7 (by omega)) (fun h7 => ?_)
  refine lv_iload_n hx hb d_D_merge_7 rfl (lv_at hl 2 rfl) ?_
  refine z_calli (va_runS (As := [.int (iI ((ks : Int)))]) (rest := []) ⟨hx, hb, hml, hown, hts⟩ (c_D_isSum (l := l) (E := E) (w0 := w0) (r := (ks : Int)) (hr0 := by omega) H1.size) (z_cwS 1 hg wm_599 wm_597 wm_1 wm_598 (by decide +kernel) ⟨Nat.le_of_ble_eq_true rfl, Nat.le_of_ble_eq_true rfl⟩) (z_preS hK hG hn hH4 hA) rfl rfl hl.1 rfl (lv_room (Nat.le_of_ble_eq_true rfl)) d_D_merge_8 ⟨Nat.zero_le _, Nat.zero_le _⟩) hH4 hA (fun z12 w10 H8 lc9 hH11 p8 => ?_)
  obtain ⟨ew13, p8⟩ := p8
  rw [ew13] at hH11
  replace p8 : (z12 = 1 ∧ 0 ≤ ((ks : Int)) ∧ ((ks : Int)) < 4) ∨ (z12 = 0 ∧ ¬ (0 ≤ ((ks : Int)) ∧ ((ks : Int)) < 4)) := p8
  refine zv_if_ne (tgt := 16) hx hb d_D_merge_11 rfl (by omega) (fun h14 => ?_) (fun h14 => absurd h14 (by omega))
  refine lv_aload_n hx hb d_D_merge_16 rfl (lv_at hl 0 rfl) ?_
  refine zv_get (C := "ScaledNumeralDesk") (T := TD) (N := 7) hx hb hg uD_in hown hK hH11 q0lt c0 rfl 1 (by decide) (hg _ wm_129) (fun _ h9 => h9) rfl d_D_merge_17 ?_
  refine lv_iload_n hx hb d_D_merge_20 rfl (lv_at hl 1 rfl) ?_
  refine zv_aald (i := ks) hx hb hK hH11 q1lt c1 rfl (by omega) (by omega) (hfs ks (by omega)) d_D_merge_21 ?_
  refine lv_aload_n hx hb d_D_merge_22 rfl (lv_at hl 0 rfl) ?_
  refine zv_get (C := "ScaledNumeralDesk") (T := TD) (N := 7) hx hb hg uD_in hown hK hH11 q0lt c0 rfl 1 (by decide) (hg _ wm_129) (fun _ h9 => h9) rfl d_D_merge_23 ?_
  refine lv_iload_n hx hb d_D_merge_26 rfl (lv_at hl 2 rfl) ?_
  refine zv_aald (i := ks) hx hb hK hH11 q1lt c1 rfl (by omega) (by omega) (hfs ks (by omega)) d_D_merge_27 ?_
  refine z_calli (va_runV (As := [.ref (ad E (43 + 4 * ks))]) (rest := []) ⟨hx, hb, hml, hown, hts⟩ (c_S_joinAA (l := l) (E := E) (w0 := w0) (y := 43 + 4 * ks) (sn := sn) (sz := sz) (sf := sf) (cn := cn) (q0lt := q2lt) (q1lt := q3lt) (q2lt := q4lt) (q3lt := q5lt) (c0 := c2) (c1 := c3) (c2 := c4) (c3 := c5) (bs := bs) (hsn := by omega) (bc := bc) (hsz := by omega) (hs := by omega) H8.size) (z_cwV (C := "ScaledNumeralDesk$Sum") 1 hg wm_630 wm_627 wm_6 wm_628 wm_629 (by decide +kernel) ⟨Nat.le_of_ble_eq_true rfl, Nat.le_of_ble_eq_true rfl⟩) (z_preV (r := ("ScaledNumeralDesk$Sum", TS, 3)) hK hG hn hH11 hA q2lt c2 rfl) rfl rfl hl.1 rfl (lv_room (Nat.le_of_ble_eq_true rfl)) d_D_merge_28 ⟨Nat.zero_le _, Nat.zero_le _⟩) hH11 hA (fun z19 w17 H15 lc16 hH18 p28 => ?_)
  obtain ⟨⟨s_20, n_21, f_22, c_23, e24, e25, e26, e27, bd28, bd29, p28⟩, hg30⟩ := p28
  replace bd28 : bd f_22 15 0 9999 := bd28
  replace bd29 : bd c_23 28 0 (s_20) := bd29
  replace p28 : (z19 = -2 ∧ 1000 < sz + sz ∧ (s_20 = sz ∧ n_21 = sn ∧ f_22 = sf ∧ c_23 = cn)) ∨ (z19 = 0 ∧ sz + sz ≤ 1000 ∧ s_20 = sz + sz ∧ (n_21 = 0 ∨ n_21 = 1) ∧ (V f_22 15 = 0 → n_21 = 0) ∧ sv n_21 (V f_22 15) = sv sn (V sf 15) + sv sn (V sf 15) ∧ ∀ j : Int, 0 ≤ j → j < 28 → c_23 j = cn j + cn j) := p28
  have e31 : w17 0 = .inr (5, [.ref (ad E 1), .ref (ad E 2), .ref (ad E 3), .ref (ad E 5), .ref (ad E 10), .ref (ad E 13), .ref (ad E 16)]) := (hg30 0 (nx_D_mergeAA_0 ) (nx_D_mergeAA_1 ) (nx_D_mergeAA_2 ) (nx_D_mergeAA_3 )).trans c0
  have e32 : w17 2 = zaq E 4 4 fs := (hg30 2 (nx_D_mergeAA_4 ) (nx_D_mergeAA_5 ) (nx_D_mergeAA_6 ) (nx_D_mergeAA_7 )).trans c1
  have hf33 : ∀ k, k ≠ (43 + 4 * ks) → k ≠ (43 + 4 * ks + 1) → k ≠ (43 + 4 * ks + 2) → k ≠ (43 + 4 * ks + 3) → w17 k = w0 k := fun k g0 g1 g2 g3 => hg30 k g0 g1 g2 g3
  rw [hQ]
  exact z_iret hx hb hr hlk hH18 (⟨⟨s_20, n_21, f_22, c_23, e24, e25, e26, e27, bd28, bd29, p28⟩, (fun k g0 g1 g2 g3 => hf33 k g0 g1 g2 g3)⟩) d_D_merge_31
theorem nx_D_reset_0 {ks : Nat}  : 0 ≠ 43 + 4 * ks := by omega
theorem nx_D_reset_1 {ks : Nat}  : 0 ≠ 43 + 4 * ks + 1 := by omega
theorem nx_D_reset_2 {ks : Nat}  : 0 ≠ 43 + 4 * ks + 2 := by omega
theorem nx_D_reset_3 {ks : Nat}  : 0 ≠ 43 + 4 * ks + 3 := by omega
theorem nx_D_reset_4 {ks : Nat}  : 2 ≠ 43 + 4 * ks := by omega
theorem nx_D_reset_5 {ks : Nat}  : 2 ≠ 43 + 4 * ks + 1 := by omega
theorem nx_D_reset_6 {ks : Nat}  : 2 ≠ 43 + 4 * ks + 2 := by omega
theorem nx_D_reset_7 {ks : Nat}  : 2 ≠ 43 + 4 * ks + 3 := by omega
def rm_D_reset : Room := { frames := 3, cells := 0, slots := 0, locals := 63 }
set_option maxHeartbeats 4000000 in
set_option maxRecDepth 100000 in
theorem c_D_reset (l : Launch) (E : zE) (w0 : zW) (fs : Nat → Option Nat) (ks : Nat) (sn sz : Int) (sf cn : Int → Int) (hzn : 73 ≤ zn E) (c0 : w0 0 = .inr (5, [.ref (ad E 1), .ref (ad E 2), .ref (ad E 3), .ref (ad E 5), .ref (ad E 10), .ref (ad E 13), .ref (ad E 16)])) (c1 : w0 2 = zaq E 4 4 fs) (c2 : w0 (43 + 4 * ks) = .inr (2, [.ref (ad E (43 + 4 * ks + 1)), .ref (ad E (43 + 4 * ks + 3)), .int (iI sz)])) (c3 : w0 (43 + 4 * ks + 1) = .inr (0, [.ref (ad E (43 + 4 * ks + 2)), .int (iI sn)])) (c4 : w0 (43 + 4 * ks + 2) = zar E 15 sf) (c5 : w0 (43 + 4 * ks + 3) = zar E 28 cn) (hfs : ∀ k : Nat, k < 4 → fs k = some (ad E (43 + 4 * k))) (bs : bd sf 15 0 9999) (hsn : sn = 0 ∨ sn = 1) (bc : bd cn 28 0 sz) (hsz : 0 ≤ sz ∧ sz ≤ 1000) (hks : ks < 4) : zM l y_D_reset ws_D_reset rm_D_reset E [.ref (ad E 0), .int (iI ((ks : Int)))] w0 (zQi E w0 (fun z w' => (∃ (f' : Int → Int) (c' : Int → Int), w' (43 + 4 * ks) = .inr (2, [.ref (ad E (43 + 4 * ks + 1)), .ref (ad E (43 + 4 * ks + 3)), .int (iI 0)]) ∧ w' (43 + 4 * ks + 1) = .inr (0, [.ref (ad E (43 + 4 * ks + 2)), .int (iI 0)]) ∧ w' (43 + 4 * ks + 2) = zar E 15 f' ∧ w' (43 + 4 * ks + 3) = zar E 28 c' ∧ bd f' 15 0 9999 ∧ (z = 1 ∧ V f' 15 = 0 ∧ ∀ j : Int, 0 ≤ j → j < 28 → c' j = 0)) ∧ ∀ k, k ≠ (43 + 4 * ks) → k ≠ (43 + 4 * ks + 1) → k ≠ (43 + 4 * ks + 2) → k ≠ (43 + 4 * ks + 3) → w' k = w0 k)) := by
  refine z_met (cc := b_D_reset) (maxL := 2) (ret := (some .boolean)) (by decide +kernel) rfl (Nat.le_of_ble_eq_true rfl) ?_
  intro p e s m below meth cd ls a Qf hQ hC hl hH
  obtain ⟨hF, hr, hlk, hK, hG, hn⟩ := hC
  obtain ⟨hx, hb, hml, hown, hts⟩ := hF
  have hg : ∀ w ∈ GW, w.before a s = true := fun w h => hts w (List.mem_cons_of_mem _ h)
  have hA : ∀ q, s.heap.size ≤ q → va_A (wl E w0) s.heap.size q := fun q h => Or.inr h
  have hl : lv_has ls 2 [(0, .ref (ad E 0)), (1, .int (iI ((ks : Int))))] := hl
  have q0lt : 0 < zn E := by omega
  have q1lt : 2 < zn E := by omega
  have q2lt : 43 + 4 * ks < zn E := by omega
  have q3lt : 43 + 4 * ks + 1 < zn E := by omega
  have q4lt : 43 + 4 * ks + 2 < zn E := by omega
  have q5lt : 43 + 4 * ks + 3 < zn E := by omega
  refine lv_iload_n hx hb d_D_reset_0 rfl (lv_at hl 1 rfl) ?_
  refine z_calli (va_runS (As := [.int (iI ((ks : Int)))]) (rest := []) ⟨hx, hb, hml, hown, hts⟩ (c_D_isSum (l := l) (E := E) (w0 := w0) (r := (ks : Int)) (hr0 := by omega) s.heap.size) (z_cwS 1 hg wm_599 wm_597 wm_1 wm_598 (by decide +kernel) ⟨Nat.le_of_ble_eq_true rfl, Nat.le_of_ble_eq_true rfl⟩) (z_preS hK hG hn hH hA) rfl rfl hl.1 rfl (lv_room (Nat.le_of_ble_eq_true rfl)) d_D_reset_1 ⟨Nat.zero_le _, Nat.zero_le _⟩) hH hA (fun z5 w3 H1 lc2 hH4 p1 => ?_)
  obtain ⟨ew6, p1⟩ := p1
  rw [ew6] at hH4
  replace p1 : (z5 = 1 ∧ 0 ≤ ((ks : Int)) ∧ ((ks : Int)) < 4) ∨ (z5 = 0 ∧ ¬ (0 ≤ ((ks : Int)) ∧ ((ks : Int)) < 4)) := p1
  refine zv_if_ne (tgt := 9) hx hb d_D_reset_4 rfl (by omega) (fun h7 => ?_) (fun h7 => absurd h7 (by omega))
  refine lv_aload_n hx hb d_D_reset_9 rfl (lv_at hl 0 rfl) ?_
  refine zv_get (C := "ScaledNumeralDesk") (T := TD) (N := 7) hx hb hg uD_in hown hK hH4 q0lt c0 rfl 1 (by decide) (hg _ wm_129) (fun _ h9 => h9) rfl d_D_reset_10 ?_
  refine lv_iload_n hx hb d_D_reset_13 rfl (lv_at hl 1 rfl) ?_
  refine zv_aald (i := ks) hx hb hK hH4 q1lt c1 rfl (by omega) (by omega) (hfs ks (by omega)) d_D_reset_14 ?_
  refine z_callv (va_runV (As := []) (rest := []) ⟨hx, hb, hml, hown, hts⟩ (c_S_clear (l := l) (E := E) (w0 := w0) (y := 43 + 4 * ks) (sn := sn) (sz := sz) (sf := sf) (cn := cn) (q0lt := q2lt) (q1lt := q3lt) (q2lt := q4lt) (q3lt := q5lt) (c0 := c2) (c1 := c3) (c2 := c4) (c3 := c5) (bs := bs) (hsn := by omega) (bc := bc) (hsz := by omega) H1.size) (z_cwV (C := "ScaledNumeralDesk$Sum") 0 hg wm_638 wm_635 wm_6 wm_636 wm_637 (by decide +kernel) ⟨Nat.le_of_ble_eq_true rfl, Nat.le_of_ble_eq_true rfl⟩) (z_preV (r := ("ScaledNumeralDesk$Sum", TS, 3)) hK hG hn hH4 hA q2lt c2 rfl) rfl rfl hl.1 rfl (lv_room (Nat.le_of_ble_eq_true rfl)) d_D_reset_15 ⟨Nat.zero_le _, Nat.zero_le _⟩) hH4 hA (fun  w10 H8 lc9 hH11 p15 => ?_)
  obtain ⟨⟨f_12, c_13, e14, e15, e16, e17, bd18, p15⟩, hg19⟩ := p15
  replace bd18 : bd f_12 15 0 9999 := bd18
  replace p15 : V f_12 15 = 0 ∧ ∀ j : Int, 0 ≤ j → j < 28 → c_13 j = 0 := p15
  have e20 : w10 0 = .inr (5, [.ref (ad E 1), .ref (ad E 2), .ref (ad E 3), .ref (ad E 5), .ref (ad E 10), .ref (ad E 13), .ref (ad E 16)]) := (hg19 0 (nx_D_reset_0 ) (nx_D_reset_1 ) (nx_D_reset_2 ) (nx_D_reset_3 )).trans c0
  have e21 : w10 2 = zaq E 4 4 fs := (hg19 2 (nx_D_reset_4 ) (nx_D_reset_5 ) (nx_D_reset_6 ) (nx_D_reset_7 )).trans c1
  have hf22 : ∀ k, k ≠ (43 + 4 * ks) → k ≠ (43 + 4 * ks + 1) → k ≠ (43 + 4 * ks + 2) → k ≠ (43 + 4 * ks + 3) → w10 k = w0 k := fun k g0 g1 g2 g3 => hg19 k g0 g1 g2 g3
  refine zv_iconst hx hb d_D_reset_18 ?_
  rw [hQ]
  exact z_zret hx hb hr hlk hH11 (⟨⟨f_12, c_13, e14, e15, e16, e17, bd18, ⟨rfl, p15⟩⟩, (fun k g0 g1 g2 g3 => hf22 k g0 g1 g2 g3)⟩) (by exact nar_z (by omega)) d_D_reset_19
def rm_D_count : Room := { frames := 1, cells := 0, slots := 0, locals := 22 }
set_option maxHeartbeats 4000000 in
set_option maxRecDepth 100000 in
theorem c_D_count (l : Launch) (E : zE) (w0 : zW) (fs : Nat → Option Nat) (ks : Nat) (sn sz : Int) (sf cn : Int → Int) (hzn : 73 ≤ zn E) (c0 : w0 0 = .inr (5, [.ref (ad E 1), .ref (ad E 2), .ref (ad E 3), .ref (ad E 5), .ref (ad E 10), .ref (ad E 13), .ref (ad E 16)])) (c1 : w0 2 = zaq E 4 4 fs) (c2 : w0 (43 + 4 * ks) = .inr (2, [.ref (ad E (43 + 4 * ks + 1)), .ref (ad E (43 + 4 * ks + 3)), .int (iI sz)])) (c3 : w0 (43 + 4 * ks + 1) = .inr (0, [.ref (ad E (43 + 4 * ks + 2)), .int (iI sn)])) (c4 : w0 (43 + 4 * ks + 2) = zar E 15 sf) (c5 : w0 (43 + 4 * ks + 3) = zar E 28 cn) (hfs : ∀ k : Nat, k < 4 → fs k = some (ad E (43 + 4 * k))) (bs : bd sf 15 0 9999) (hsn : sn = 0 ∨ sn = 1) (bc : bd cn 28 0 sz) (hsz : 0 ≤ sz ∧ sz ≤ 1000) (hks : ks < 4) : zM l y_D_count ws_D_count rm_D_count E [.ref (ad E 0), .int (iI ((ks : Int)))] w0 (zQi E w0 (fun z w' => w' = w0 ∧ (z = Sm cn 28))) := by
  refine z_met (cc := b_D_count) (maxL := 2) (ret := (some .int)) (by decide +kernel) rfl (Nat.le_of_ble_eq_true rfl) ?_
  intro p e s m below meth cd ls a Qf hQ hC hl hH
  obtain ⟨hF, hr, hlk, hK, hG, hn⟩ := hC
  obtain ⟨hx, hb, hml, hown, hts⟩ := hF
  have hg : ∀ w ∈ GW, w.before a s = true := fun w h => hts w (List.mem_cons_of_mem _ h)
  have hA : ∀ q, s.heap.size ≤ q → va_A (wl E w0) s.heap.size q := fun q h => Or.inr h
  have hl : lv_has ls 2 [(0, .ref (ad E 0)), (1, .int (iI ((ks : Int))))] := hl
  have q0lt : 0 < zn E := by omega
  have q1lt : 2 < zn E := by omega
  have q2lt : 43 + 4 * ks < zn E := by omega
  have q3lt : 43 + 4 * ks + 1 < zn E := by omega
  have q4lt : 43 + 4 * ks + 2 < zn E := by omega
  have q5lt : 43 + 4 * ks + 3 < zn E := by omega
  refine lv_iload_n hx hb d_D_count_0 rfl (lv_at hl 1 rfl) ?_
  refine z_calli (va_runS (As := [.int (iI ((ks : Int)))]) (rest := []) ⟨hx, hb, hml, hown, hts⟩ (c_D_isSum (l := l) (E := E) (w0 := w0) (r := (ks : Int)) (hr0 := by omega) s.heap.size) (z_cwS 1 hg wm_599 wm_597 wm_1 wm_598 (by decide +kernel) ⟨Nat.le_of_ble_eq_true rfl, Nat.le_of_ble_eq_true rfl⟩) (z_preS hK hG hn hH hA) rfl rfl hl.1 rfl (lv_room (Nat.le_of_ble_eq_true rfl)) d_D_count_1 ⟨Nat.zero_le _, Nat.zero_le _⟩) hH hA (fun z5 w3 H1 lc2 hH4 p1 => ?_)
  obtain ⟨ew6, p1⟩ := p1
  rw [ew6] at hH4
  replace p1 : (z5 = 1 ∧ 0 ≤ ((ks : Int)) ∧ ((ks : Int)) < 4) ∨ (z5 = 0 ∧ ¬ (0 ≤ ((ks : Int)) ∧ ((ks : Int)) < 4)) := p1
  refine zv_if_eq (tgt := 19) hx hb d_D_count_4 rfl (by omega) (fun h7 => absurd h7 (by omega)) (fun h7 => ?_)
  refine lv_aload_n hx hb d_D_count_7 rfl (lv_at hl 0 rfl) ?_
  refine zv_get (C := "ScaledNumeralDesk") (T := TD) (N := 7) hx hb hg uD_in hown hK hH4 q0lt c0 rfl 1 (by decide) (hg _ wm_129) (fun _ h9 => h9) rfl d_D_count_8 ?_
  refine lv_iload_n hx hb d_D_count_11 rfl (lv_at hl 1 rfl) ?_
  refine zv_aald (i := ks) hx hb hK hH4 q1lt c1 rfl (by omega) (by omega) (hfs ks (by omega)) d_D_count_12 ?_
  refine z_calli (va_runV (As := []) (rest := []) ⟨hx, hb, hml, hown, hts⟩ (c_S_members (l := l) (E := E) (w0 := w0) (y := 43 + 4 * ks) (sn := sn) (sz := sz) (sf := sf) (cn := cn) (q0lt := q2lt) (q1lt := q3lt) (q2lt := q4lt) (q3lt := q5lt) (c0 := c2) (c1 := c3) (c2 := c4) (c3 := c5) (bs := bs) (hsn := by omega) (bc := bc) (hsz := by omega) H1.size) (z_cwV (C := "ScaledNumeralDesk$Sum") 0 hg wm_648 wm_645 wm_6 wm_646 wm_647 (by decide +kernel) ⟨Nat.le_of_ble_eq_true rfl, Nat.le_of_ble_eq_true rfl⟩) (z_preV (r := ("ScaledNumeralDesk$Sum", TS, 3)) hK hG hn hH4 hA q2lt c2 rfl) rfl rfl hl.1 rfl (lv_room (Nat.le_of_ble_eq_true rfl)) d_D_count_13 ⟨Nat.zero_le _, Nat.zero_le _⟩) hH4 hA (fun z12 w10 H8 lc9 hH11 p13 => ?_)
  obtain ⟨ew13, p13⟩ := p13
  rw [ew13] at hH11
  replace p13 : z12 = Sm cn 28 ∧ 0 ≤ z12 ∧ z12 ≤ 28000 := p13
  refine lv_goto (tgt := 20) hx hb d_D_count_16 rfl ?_
  rw [hQ]
  exact z_iret hx hb hr hlk hH11 (⟨rfl, p13.1⟩) d_D_count_20
theorem nx_D_total_0 {rd : Nat} (hrd : rd < 8) : 0 ≠ 10 := by omega
theorem nx_D_total_1 {rd : Nat} (hrd : rd < 8) : 0 ≠ 10 + 1 := by omega
theorem nx_D_total_2 {rd : Nat} (hrd : rd < 8) : 0 ≠ 10 + 2 := by omega
theorem nx_D_total_3 {rd : Nat} (hrd : rd < 8) : 1 ≠ 10 := by omega
theorem nx_D_total_4 {rd : Nat} (hrd : rd < 8) : 1 ≠ 10 + 1 := by omega
theorem nx_D_total_5 {rd : Nat} (hrd : rd < 8) : 1 ≠ 10 + 2 := by omega
theorem nx_D_total_6 {rd : Nat} (hrd : rd < 8) : 2 ≠ 10 := by omega
theorem nx_D_total_7 {rd : Nat} (hrd : rd < 8) : 2 ≠ 10 + 1 := by omega
theorem nx_D_total_8 {rd : Nat} (hrd : rd < 8) : 2 ≠ 10 + 2 := by omega
theorem nx_D_total_9 {ks rd : Nat} (hrd : rd < 8) : 43 + 4 * ks ≠ 10 := by omega
theorem nx_D_total_10 {ks rd : Nat} (hrd : rd < 8) : 43 + 4 * ks ≠ 10 + 1 := by omega
theorem nx_D_total_11 {ks rd : Nat} (hrd : rd < 8) : 43 + 4 * ks ≠ 10 + 2 := by omega
theorem nx_D_total_12 {ks rd : Nat} (hrd : rd < 8) : 43 + 4 * ks + 1 ≠ 10 := by omega
theorem nx_D_total_13 {ks rd : Nat} (hrd : rd < 8) : 43 + 4 * ks + 1 ≠ 10 + 1 := by omega
theorem nx_D_total_14 {ks rd : Nat} (hrd : rd < 8) : 43 + 4 * ks + 1 ≠ 10 + 2 := by omega
theorem nx_D_total_15 {ks rd : Nat} (hrd : rd < 8) : 43 + 4 * ks + 2 ≠ 10 := by omega
theorem nx_D_total_16 {ks rd : Nat} (hrd : rd < 8) : 43 + 4 * ks + 2 ≠ 10 + 1 := by omega
theorem nx_D_total_17 {ks rd : Nat} (hrd : rd < 8) : 43 + 4 * ks + 2 ≠ 10 + 2 := by omega
theorem nx_D_total_18 {ks rd : Nat} (hrd : rd < 8) : 43 + 4 * ks + 3 ≠ 10 := by omega
theorem nx_D_total_19 {ks rd : Nat} (hrd : rd < 8) : 43 + 4 * ks + 3 ≠ 10 + 1 := by omega
theorem nx_D_total_20 {ks rd : Nat} (hrd : rd < 8) : 43 + 4 * ks + 3 ≠ 10 + 2 := by omega
theorem nx_D_total_21 {rd : Nat} (hrd : rd < 8) : 19 + 3 * rd ≠ 10 := by omega
theorem nx_D_total_22 {rd : Nat} (hrd : rd < 8) : 19 + 3 * rd ≠ 10 + 1 := by omega
theorem nx_D_total_23 {rd : Nat} (hrd : rd < 8) : 19 + 3 * rd ≠ 10 + 2 := by omega
theorem nx_D_total_24 {rd : Nat} (hrd : rd < 8) : 19 + 3 * rd + 1 ≠ 10 := by omega
theorem nx_D_total_25 {rd : Nat} (hrd : rd < 8) : 19 + 3 * rd + 1 ≠ 10 + 1 := by omega
theorem nx_D_total_26 {rd : Nat} (hrd : rd < 8) : 19 + 3 * rd + 1 ≠ 10 + 2 := by omega
theorem nx_D_total_27 {rd : Nat} (hrd : rd < 8) : 19 + 3 * rd + 2 ≠ 10 := by omega
theorem nx_D_total_28 {rd : Nat} (hrd : rd < 8) : 19 + 3 * rd + 2 ≠ 10 + 1 := by omega
theorem nx_D_total_29 {rd : Nat} (hrd : rd < 8) : 19 + 3 * rd + 2 ≠ 10 + 2 := by omega
theorem nx_D_total_30 {rd : Nat} (hrd : rd < 8) : 0 ≠ 19 + 3 * rd := by omega
theorem nx_D_total_31 {rd : Nat} (hrd : rd < 8) : 0 ≠ 19 + 3 * rd + 1 := by omega
theorem nx_D_total_32 {rd : Nat} (hrd : rd < 8) : 0 ≠ 19 + 3 * rd + 2 := by omega
theorem nx_D_total_33 {rd : Nat} (hrd : rd < 8) : 1 ≠ 19 + 3 * rd := by omega
theorem nx_D_total_34 {rd : Nat} (hrd : rd < 8) : 1 ≠ 19 + 3 * rd + 1 := by omega
theorem nx_D_total_35 {rd : Nat} (hrd : rd < 8) : 1 ≠ 19 + 3 * rd + 2 := by omega
theorem nx_D_total_36 {rd : Nat} (hrd : rd < 8) : 2 ≠ 19 + 3 * rd := by omega
theorem nx_D_total_37 {rd : Nat} (hrd : rd < 8) : 2 ≠ 19 + 3 * rd + 1 := by omega
theorem nx_D_total_38 {rd : Nat} (hrd : rd < 8) : 2 ≠ 19 + 3 * rd + 2 := by omega
theorem nx_D_total_39 {rd : Nat} (hrd : rd < 8) : 10 ≠ 19 + 3 * rd := by omega
theorem nx_D_total_40 {rd : Nat} (hrd : rd < 8) : 10 ≠ 19 + 3 * rd + 1 := by omega
theorem nx_D_total_41 {rd : Nat} (hrd : rd < 8) : 10 ≠ 19 + 3 * rd + 2 := by omega
theorem nx_D_total_42 {rd : Nat} (hrd : rd < 8) : 10 + 1 ≠ 19 + 3 * rd := by omega
theorem nx_D_total_43 {rd : Nat} (hrd : rd < 8) : 10 + 1 ≠ 19 + 3 * rd + 1 := by omega
theorem nx_D_total_44 {rd : Nat} (hrd : rd < 8) : 10 + 1 ≠ 19 + 3 * rd + 2 := by omega
theorem nx_D_total_45 {rd : Nat} (hrd : rd < 8) : 10 + 2 ≠ 19 + 3 * rd := by omega
theorem nx_D_total_46 {rd : Nat} (hrd : rd < 8) : 10 + 2 ≠ 19 + 3 * rd + 1 := by omega
theorem nx_D_total_47 {rd : Nat} (hrd : rd < 8) : 10 + 2 ≠ 19 + 3 * rd + 2 := by omega
theorem nx_D_total_48 {ks rd : Nat} (hrd : rd < 8) : 43 + 4 * ks ≠ 19 + 3 * rd := by omega
theorem nx_D_total_49 {ks rd : Nat} (hrd : rd < 8) : 43 + 4 * ks ≠ 19 + 3 * rd + 1 := by omega
theorem nx_D_total_50 {ks rd : Nat} (hrd : rd < 8) : 43 + 4 * ks ≠ 19 + 3 * rd + 2 := by omega
theorem nx_D_total_51 {ks rd : Nat} (hrd : rd < 8) : 43 + 4 * ks + 1 ≠ 19 + 3 * rd := by omega
theorem nx_D_total_52 {ks rd : Nat} (hrd : rd < 8) : 43 + 4 * ks + 1 ≠ 19 + 3 * rd + 1 := by omega
theorem nx_D_total_53 {ks rd : Nat} (hrd : rd < 8) : 43 + 4 * ks + 1 ≠ 19 + 3 * rd + 2 := by omega
theorem nx_D_total_54 {ks rd : Nat} (hrd : rd < 8) : 43 + 4 * ks + 2 ≠ 19 + 3 * rd := by omega
theorem nx_D_total_55 {ks rd : Nat} (hrd : rd < 8) : 43 + 4 * ks + 2 ≠ 19 + 3 * rd + 1 := by omega
theorem nx_D_total_56 {ks rd : Nat} (hrd : rd < 8) : 43 + 4 * ks + 2 ≠ 19 + 3 * rd + 2 := by omega
theorem nx_D_total_57 {ks rd : Nat} (hrd : rd < 8) : 43 + 4 * ks + 3 ≠ 19 + 3 * rd := by omega
theorem nx_D_total_58 {ks rd : Nat} (hrd : rd < 8) : 43 + 4 * ks + 3 ≠ 19 + 3 * rd + 1 := by omega
theorem nx_D_total_59 {ks rd : Nat} (hrd : rd < 8) : 43 + 4 * ks + 3 ≠ 19 + 3 * rd + 2 := by omega
def rm_D_total : Room := { frames := 6, cells := 0, slots := 0, locals := 127 }
set_option maxHeartbeats 4000000 in
set_option maxRecDepth 100000 in
theorem c_D_total (l : Launch) (E : zE) (w0 : zW) (fq : Nat → Option Nat) (fs : Nat → Option Nat) (kt : Nat) (plt nt : Int) (ft : Int → Int) (ks : Nat) (sn sz : Int) (sf cn : Int → Int) (rd : Nat) (kd : Nat) (pld nd : Int) (fd : Int → Int) (hzn : 73 ≤ zn E) (c0 : w0 0 = .inr (5, [.ref (ad E 1), .ref (ad E 2), .ref (ad E 3), .ref (ad E 5), .ref (ad E 10), .ref (ad E 13), .ref (ad E 16)])) (c1 : w0 1 = zaq E 3 8 fq) (c2 : w0 2 = zaq E 4 4 fs) (c3 : w0 10 = .inr (1, [.ref (zg E (1 + kt)), .int (iI plt), .ref (ad E (10 + 1))])) (c4 : w0 (10 + 1) = .inr (0, [.ref (ad E (10 + 2)), .int (iI nt)])) (c5 : w0 (10 + 2) = zar E 15 ft) (c6 : w0 (43 + 4 * ks) = .inr (2, [.ref (ad E (43 + 4 * ks + 1)), .ref (ad E (43 + 4 * ks + 3)), .int (iI sz)])) (c7 : w0 (43 + 4 * ks + 1) = .inr (0, [.ref (ad E (43 + 4 * ks + 2)), .int (iI sn)])) (c8 : w0 (43 + 4 * ks + 2) = zar E 15 sf) (c9 : w0 (43 + 4 * ks + 3) = zar E 28 cn) (c10 : w0 (19 + 3 * rd) = .inr (1, [.ref (zg E (1 + kd)), .int (iI pld), .ref (ad E (19 + 3 * rd + 1))])) (c11 : w0 (19 + 3 * rd + 1) = .inr (0, [.ref (ad E (19 + 3 * rd + 2)), .int (iI nd)])) (c12 : w0 (19 + 3 * rd + 2) = zar E 15 fd) (hfq : ∀ k : Nat, k < 8 → fq k = some (ad E (19 + 3 * k))) (hfs : ∀ k : Nat, k < 4 → fs k = some (ad E (43 + 4 * k))) (bft : bd ft 15 0 9999) (hkt : kt < 4) (hnt : nt = 0 ∨ nt = 1) (bs : bd sf 15 0 9999) (hsn : sn = 0 ∨ sn = 1) (bc : bd cn 28 0 sz) (hsz : 0 ≤ sz ∧ sz ≤ 1000) (hks : ks < 4) (bfd : bd fd 15 0 9999) (hkd : kd < 4) (hnd : nd = 0 ∨ nd = 1) (hrd : rd < 8) : zM l y_D_total ws_D_total rm_D_total E [.ref (ad E 0), .int (iI ((rd : Int))), .int (iI ((ks : Int)))] w0 (zQi E w0 (fun z w' => (∃ (kt' : Nat) (plt' : Int) (nt' : Int) (ft' : Int → Int) (k' : Nat) (p' : Int) (n' : Int) (f' : Int → Int), w' 10 = .inr (1, [.ref (zg E (1 + kt')), .int (iI plt'), .ref (ad E (10 + 1))]) ∧ w' (10 + 1) = .inr (0, [.ref (ad E (10 + 2)), .int (iI nt')]) ∧ w' (10 + 2) = zar E 15 ft' ∧ w' (19 + 3 * rd) = .inr (1, [.ref (zg E (1 + k')), .int (iI p'), .ref (ad E (19 + 3 * rd + 1))]) ∧ w' (19 + 3 * rd + 1) = .inr (0, [.ref (ad E (19 + 3 * rd + 2)), .int (iI n')]) ∧ w' (19 + 3 * rd + 2) = zar E 15 f' ∧ bd ft' 15 0 9999 ∧ bd f' 15 0 9999 ∧ (kt' < 4 ∧ (nt' = 0 ∨ nt' = 1) ∧ Nf z kt' plt' nt' (V ft' 15) ∧ SrR z kt' plt' nt' (V ft' 15) sn (V sf 15) cn ∧ StoR z kt' plt' nt' (V ft' 15) kd pld nd (V fd 15) k' p' n' (V f' 15))) ∧ ∀ k, k ≠ 10 → k ≠ (10 + 1) → k ≠ (10 + 2) → k ≠ (19 + 3 * rd) → k ≠ (19 + 3 * rd + 1) → k ≠ (19 + 3 * rd + 2) → w' k = w0 k)) := by
  refine z_met (cc := b_D_total) (maxL := 3) (ret := (some .int)) (by decide +kernel) rfl (Nat.le_of_ble_eq_true rfl) ?_
  intro p e s m below meth cd ls a Qf hQ hC hl hH
  obtain ⟨hF, hr, hlk, hK, hG, hn⟩ := hC
  obtain ⟨hx, hb, hml, hown, hts⟩ := hF
  have hg : ∀ w ∈ GW, w.before a s = true := fun w h => hts w (List.mem_cons_of_mem _ h)
  have hA : ∀ q, s.heap.size ≤ q → va_A (wl E w0) s.heap.size q := fun q h => Or.inr h
  have hl : lv_has ls 3 [(0, .ref (ad E 0)), (1, .int (iI ((rd : Int)))), (2, .int (iI ((ks : Int))))] := hl
  have q0lt : 0 < zn E := by omega
  have q1lt : 1 < zn E := by omega
  have q2lt : 2 < zn E := by omega
  have q3lt : 10 < zn E := by omega
  have q4lt : 10 + 1 < zn E := by omega
  have q5lt : 10 + 2 < zn E := by omega
  have q6lt : 43 + 4 * ks < zn E := by omega
  have q7lt : 43 + 4 * ks + 1 < zn E := by omega
  have q8lt : 43 + 4 * ks + 2 < zn E := by omega
  have q9lt : 43 + 4 * ks + 3 < zn E := by omega
  have q10lt : 19 + 3 * rd < zn E := by omega
  have q11lt : 19 + 3 * rd + 1 < zn E := by omega
  have q12lt : 19 + 3 * rd + 2 < zn E := by omega
  refine lv_iload_n hx hb d_D_total_0 rfl (lv_at hl 1 rfl) ?_
  refine z_calli (va_runS (As := [.int (iI ((rd : Int)))]) (rest := []) ⟨hx, hb, hml, hown, hts⟩ (c_D_isRegister (l := l) (E := E) (w0 := w0) (r := (rd : Int)) (hr0 := by omega) s.heap.size) (z_cwS 1 hg wm_164 wm_162 wm_1 wm_163 (by decide +kernel) ⟨Nat.le_of_ble_eq_true rfl, Nat.le_of_ble_eq_true rfl⟩) (z_preS hK hG hn hH hA) rfl rfl hl.1 rfl (lv_room (Nat.le_of_ble_eq_true rfl)) d_D_total_1 ⟨Nat.zero_le _, Nat.zero_le _⟩) hH hA (fun z5 w3 H1 lc2 hH4 p1 => ?_)
  obtain ⟨ew6, p1⟩ := p1
  rw [ew6] at hH4
  replace p1 : (z5 = 1 ∧ 0 ≤ ((rd : Int)) ∧ ((rd : Int)) < 8) ∨ (z5 = 0 ∧ ¬ (0 ≤ ((rd : Int)) ∧ ((rd : Int)) < 8)) := p1
  refine zv_if_eq (tgt := 14) hx hb d_D_total_4 rfl (by omega) (fun h7 => absurd h7 (by omega)) (fun h7 => ?_)
  refine lv_iload_n hx hb d_D_total_7 rfl (lv_at hl 2 rfl) ?_
  refine z_calli (va_runS (As := [.int (iI ((ks : Int)))]) (rest := []) ⟨hx, hb, hml, hown, hts⟩ (c_D_isSum (l := l) (E := E) (w0 := w0) (r := (ks : Int)) (hr0 := by omega) H1.size) (z_cwS 1 hg wm_599 wm_597 wm_1 wm_598 (by decide +kernel) ⟨Nat.le_of_ble_eq_true rfl, Nat.le_of_ble_eq_true rfl⟩) (z_preS hK hG hn hH4 hA) rfl rfl hl.1 rfl (lv_room (Nat.le_of_ble_eq_true rfl)) d_D_total_8 ⟨Nat.zero_le _, Nat.zero_le _⟩) hH4 hA (fun z12 w10 H8 lc9 hH11 p8 => ?_)
  obtain ⟨ew13, p8⟩ := p8
  rw [ew13] at hH11
  replace p8 : (z12 = 1 ∧ 0 ≤ ((ks : Int)) ∧ ((ks : Int)) < 4) ∨ (z12 = 0 ∧ ¬ (0 ≤ ((ks : Int)) ∧ ((ks : Int)) < 4)) := p8
  refine zv_if_ne (tgt := 16) hx hb d_D_total_11 rfl (by omega) (fun h14 => ?_) (fun h14 => absurd h14 (by omega))
  refine lv_aload_n hx hb d_D_total_16 rfl (lv_at hl 0 rfl) ?_
  refine lv_iload_n hx hb d_D_total_17 rfl (lv_at hl 1 rfl) ?_
  refine lv_aload_n hx hb d_D_total_18 rfl (lv_at hl 0 rfl) ?_
  refine zv_get (C := "ScaledNumeralDesk") (T := TD) (N := 7) hx hb hg uD_in hown hK hH11 q0lt c0 rfl 1 (by decide) (hg _ wm_129) (fun _ h9 => h9) rfl d_D_total_19 ?_
  refine lv_iload_n hx hb d_D_total_22 rfl (lv_at hl 2 rfl) ?_
  refine zv_aald (i := ks) hx hb hK hH11 q2lt c2 rfl (by omega) (by omega) (hfs ks (by omega)) d_D_total_23 ?_
  refine lv_aload_n hx hb d_D_total_24 rfl (lv_at hl 0 rfl) ?_
  refine zv_get (C := "ScaledNumeralDesk") (T := TD) (N := 7) hx hb hg uD_in hown hK hH11 q0lt c0 rfl 4 (by decide) (hg _ wm_132) (fun _ h9 => h9) rfl d_D_total_25 ?_
  refine z_calli (va_runV (As := [.ref (ad E 10)]) (rest := [.int (iI ((rd : Int))), .ref (ad E 0)]) ⟨hx, hb, hml, hown, hts⟩ (c_S_result (l := l) (E := E) (w0 := w0) (y := 43 + 4 * ks) (sn := sn) (sz := sz) (sf := sf) (cn := cn) (q := 10) (kd := kt) (pl := plt) (ng := nt) (f := ft) (q0lt := q6lt) (q1lt := q7lt) (q2lt := q8lt) (q3lt := q9lt) (q4lt := q3lt) (q5lt := q4lt) (q6lt := q5lt) (c0 := c6) (c1 := c7) (c2 := c8) (c3 := c9) (c4 := c3) (c5 := c4) (c6 := c5) (bs := bs) (hsn := by omega) (bc := bc) (hsz := by omega) (bf := bft) (hkd := by omega) (hng := by omega) (hqy := by omega) H8.size) (z_cwV (C := "ScaledNumeralDesk$Sum") 1 hg wm_656 wm_653 wm_6 wm_654 wm_655 (by decide +kernel) ⟨Nat.le_of_ble_eq_true rfl, Nat.le_of_ble_eq_true rfl⟩) (z_preV (r := ("ScaledNumeralDesk$Sum", TS, 3)) hK hG hn hH11 hA q6lt c6 rfl) rfl rfl hl.1 rfl (lv_room (Nat.le_of_ble_eq_true rfl)) d_D_total_28 ⟨Nat.zero_le _, Nat.zero_le _⟩) hH11 hA (fun z28 w17 H15 lc16 hH18 p28 => ?_)
  obtain ⟨⟨k1, p1x, n1, f1, e19, e20, e21, bd22, p28⟩, hg23⟩ := p28
  replace bd22 : bd f1 15 0 9999 := bd22
  replace p28 : k1 < 4 ∧ (n1 = 0 ∨ n1 = 1) ∧ Nf z28 k1 p1x n1 (V f1 15) ∧ ((z28 = -6 ∧ Sm cn 28 = 0) ∨ (Sm cn 28 ≠ 0 ∧ ((z28 = 0 ∧ k1 = 3 ∧ (cn 25 ≠ 0 ∨ (cn 26 ≠ 0 ∧ cn 27 ≠ 0))) ∨ (cn 25 = 0 ∧ z28 = 0 ∧ k1 = 0 ∧ cn 26 = 0 ∧ cn 27 ≠ 0) ∨ (cn 25 = 0 ∧ z28 = 0 ∧ k1 = 2 ∧ cn 26 ≠ 0 ∧ cn 27 = 0) ∨ (cn 25 = 0 ∧ cn 26 = 0 ∧ cn 27 = 0 ∧ k1 = 1 ∧ ∃ g : Int, 0 ≤ g ∧ g ≤ 24 ∧ (g = 0 ∨ cn g ≠ 0) ∧ (∀ k : Int, g < k → k ≤ 24 → cn k = 0) ∧ p1x = g ∧ V f1 15 = Rn (V sf 15) (24 - g) % Bp 15 ∧ (V f1 15 = 0 → n1 = 0) ∧ (0 < V f1 15 → n1 = sn) ∧ ((z28 = -3 ∧ Tp 56 ≤ V f1 15) ∨ (z28 = 0 ∧ V f1 15 < Tp 56)))))) := p28
  have e24 : w17 0 = .inr (5, [.ref (ad E 1), .ref (ad E 2), .ref (ad E 3), .ref (ad E 5), .ref (ad E 10), .ref (ad E 13), .ref (ad E 16)]) := (hg23 0 (nx_D_total_0 hrd) (nx_D_total_1 hrd) (nx_D_total_2 hrd)).trans c0
  have e25 : w17 1 = zaq E 3 8 fq := (hg23 1 (nx_D_total_3 hrd) (nx_D_total_4 hrd) (nx_D_total_5 hrd)).trans c1
  have e26 : w17 2 = zaq E 4 4 fs := (hg23 2 (nx_D_total_6 hrd) (nx_D_total_7 hrd) (nx_D_total_8 hrd)).trans c2
  have e27 : w17 (43 + 4 * ks) = .inr (2, [.ref (ad E (43 + 4 * ks + 1)), .ref (ad E (43 + 4 * ks + 3)), .int (iI sz)]) := (hg23 (43 + 4 * ks) (nx_D_total_9 hrd) (nx_D_total_10 hrd) (nx_D_total_11 hrd)).trans c6
  have e28 : w17 (43 + 4 * ks + 1) = .inr (0, [.ref (ad E (43 + 4 * ks + 2)), .int (iI sn)]) := (hg23 (43 + 4 * ks + 1) (nx_D_total_12 hrd) (nx_D_total_13 hrd) (nx_D_total_14 hrd)).trans c7
  have e29 : w17 (43 + 4 * ks + 2) = zar E 15 sf := (hg23 (43 + 4 * ks + 2) (nx_D_total_15 hrd) (nx_D_total_16 hrd) (nx_D_total_17 hrd)).trans c8
  have e30 : w17 (43 + 4 * ks + 3) = zar E 28 cn := (hg23 (43 + 4 * ks + 3) (nx_D_total_18 hrd) (nx_D_total_19 hrd) (nx_D_total_20 hrd)).trans c9
  have e31 : w17 (19 + 3 * rd) = .inr (1, [.ref (zg E (1 + kd)), .int (iI pld), .ref (ad E (19 + 3 * rd + 1))]) := (hg23 (19 + 3 * rd) (nx_D_total_21 hrd) (nx_D_total_22 hrd) (nx_D_total_23 hrd)).trans c10
  have e32 : w17 (19 + 3 * rd + 1) = .inr (0, [.ref (ad E (19 + 3 * rd + 2)), .int (iI nd)]) := (hg23 (19 + 3 * rd + 1) (nx_D_total_24 hrd) (nx_D_total_25 hrd) (nx_D_total_26 hrd)).trans c11
  have e33 : w17 (19 + 3 * rd + 2) = zar E 15 fd := (hg23 (19 + 3 * rd + 2) (nx_D_total_27 hrd) (nx_D_total_28 hrd) (nx_D_total_29 hrd)).trans c12
  have hf34 : ∀ k, k ≠ 10 → k ≠ (10 + 1) → k ≠ (10 + 2) → w17 k = w0 k := fun k g0 g1 g2 => hg23 k g0 g1 g2
  replace p28 : k1 < 4 ∧ (n1 = 0 ∨ n1 = 1) ∧ Nf z28 k1 p1x n1 (V f1 15) ∧ SrR z28 k1 p1x n1 (V f1 15) sn (V sf 15) cn := p28
  have z9 := SrR_z p28.2.2.2
  refine z_calli (va_runV (As := [.int (iI ((rd : Int))), .int (iI z28)]) (rest := []) ⟨hx, hb, hml, hown, hts⟩ (c_D_store (l := l) (E := E) (w0 := w17) (fq := fq) (kt := k1) (plt := p1x) (nt := n1) (ft := f1) (rd := rd) (kd := kd) (pld := pld) (nd := nd) (fd := fd) (an := z28) (hzn := hzn) (c0 := e24) (c1 := e25) (c2 := e19) (c3 := e20) (c4 := e21) (c5 := e31) (c6 := e32) (c7 := e33) (hfq := hfq) (bft := bd22) (hkt := by omega) (hnt := by omega) (bfd := bfd) (hkd := by omega) (hnd := by omega) (hrd := by omega) (han := by omega) H15.size) (z_cwV (C := "ScaledNumeralDesk") 2 hg wm_320 wm_317 wm_1 wm_319 wm_s8 (by decide +kernel) ⟨Nat.le_of_ble_eq_true rfl, Nat.le_of_ble_eq_true rfl⟩) (z_preV (r := ("ScaledNumeralDesk", TD, 7)) hK hG hn hH18 hA q0lt e24 rfl) rfl rfl hl.1 rfl (lv_room (Nat.le_of_ble_eq_true rfl)) d_D_total_31 ⟨Nat.zero_le _, Nat.zero_le _⟩) hH18 hA (fun z39 w37 H35 lc36 hH38 p31 => ?_)
  obtain ⟨⟨k_40, p_41, n_42, f_43, e44, e45, e46, bd47, p31⟩, hg48⟩ := p31
  replace bd47 : bd f_43 15 0 9999 := bd47
  replace p31 : z39 = z28 ∧ StoR z28 k1 p1x n1 (V f1 15) kd pld nd (V fd 15) k_40 p_41 n_42 (V f_43 15) := p31
  have e49 : w37 0 = .inr (5, [.ref (ad E 1), .ref (ad E 2), .ref (ad E 3), .ref (ad E 5), .ref (ad E 10), .ref (ad E 13), .ref (ad E 16)]) := (hg48 0 (nx_D_total_30 hrd) (nx_D_total_31 hrd) (nx_D_total_32 hrd)).trans e24
  have e50 : w37 1 = zaq E 3 8 fq := (hg48 1 (nx_D_total_33 hrd) (nx_D_total_34 hrd) (nx_D_total_35 hrd)).trans e25
  have e51 : w37 2 = zaq E 4 4 fs := (hg48 2 (nx_D_total_36 hrd) (nx_D_total_37 hrd) (nx_D_total_38 hrd)).trans e26
  have e52 : w37 10 = .inr (1, [.ref (zg E (1 + k1)), .int (iI p1x), .ref (ad E (10 + 1))]) := (hg48 10 (nx_D_total_39 hrd) (nx_D_total_40 hrd) (nx_D_total_41 hrd)).trans e19
  have e53 : w37 (10 + 1) = .inr (0, [.ref (ad E (10 + 2)), .int (iI n1)]) := (hg48 (10 + 1) (nx_D_total_42 hrd) (nx_D_total_43 hrd) (nx_D_total_44 hrd)).trans e20
  have e54 : w37 (10 + 2) = zar E 15 f1 := (hg48 (10 + 2) (nx_D_total_45 hrd) (nx_D_total_46 hrd) (nx_D_total_47 hrd)).trans e21
  have e55 : w37 (43 + 4 * ks) = .inr (2, [.ref (ad E (43 + 4 * ks + 1)), .ref (ad E (43 + 4 * ks + 3)), .int (iI sz)]) := (hg48 (43 + 4 * ks) (nx_D_total_48 hrd) (nx_D_total_49 hrd) (nx_D_total_50 hrd)).trans e27
  have e56 : w37 (43 + 4 * ks + 1) = .inr (0, [.ref (ad E (43 + 4 * ks + 2)), .int (iI sn)]) := (hg48 (43 + 4 * ks + 1) (nx_D_total_51 hrd) (nx_D_total_52 hrd) (nx_D_total_53 hrd)).trans e28
  have e57 : w37 (43 + 4 * ks + 2) = zar E 15 sf := (hg48 (43 + 4 * ks + 2) (nx_D_total_54 hrd) (nx_D_total_55 hrd) (nx_D_total_56 hrd)).trans e29
  have e58 : w37 (43 + 4 * ks + 3) = zar E 28 cn := (hg48 (43 + 4 * ks + 3) (nx_D_total_57 hrd) (nx_D_total_58 hrd) (nx_D_total_59 hrd)).trans e30
  have hf59 : ∀ k, k ≠ 10 → k ≠ (10 + 1) → k ≠ (10 + 2) → k ≠ (19 + 3 * rd) → k ≠ (19 + 3 * rd + 1) → k ≠ (19 + 3 * rd + 2) → w37 k = w0 k := fun k g0 g1 g2 g3 g4 g5 => (hg48 k g3 g4 g5).trans (hf34 k g0 g1 g2)
  rw [hQ]
  exact z_iret hx hb hr hlk hH38 (⟨⟨k1, p1x, n1, f1, k_40, p_41, n_42, f_43, e52, e53, e54, e44, e45, e46, bd22, bd47, by rw [p31.1]; exact ⟨p28.1, p28.2.1, p28.2.2.1, p28.2.2.2, p31.2⟩⟩, (fun k g0 g1 g2 g3 g4 g5 => hf59 k g0 g1 g2 g3 g4 g5)⟩) d_D_total_34
theorem nx_D_average_0 {rd : Nat} (hrd : rd < 8) : 0 ≠ 10 := by omega
theorem nx_D_average_1 {rd : Nat} (hrd : rd < 8) : 0 ≠ 10 + 1 := by omega
theorem nx_D_average_2 {rd : Nat} (hrd : rd < 8) : 0 ≠ 10 + 2 := by omega
theorem nx_D_average_3 {rd : Nat} (hrd : rd < 8) : 1 ≠ 10 := by omega
theorem nx_D_average_4 {rd : Nat} (hrd : rd < 8) : 1 ≠ 10 + 1 := by omega
theorem nx_D_average_5 {rd : Nat} (hrd : rd < 8) : 1 ≠ 10 + 2 := by omega
theorem nx_D_average_6 {rd : Nat} (hrd : rd < 8) : 2 ≠ 10 := by omega
theorem nx_D_average_7 {rd : Nat} (hrd : rd < 8) : 2 ≠ 10 + 1 := by omega
theorem nx_D_average_8 {rd : Nat} (hrd : rd < 8) : 2 ≠ 10 + 2 := by omega
theorem nx_D_average_9 {rd : Nat} (hrd : rd < 8) : 5 ≠ 10 := by omega
theorem nx_D_average_10 {rd : Nat} (hrd : rd < 8) : 5 ≠ 10 + 1 := by omega
theorem nx_D_average_11 {rd : Nat} (hrd : rd < 8) : 5 ≠ 10 + 2 := by omega
theorem nx_D_average_12 {rd : Nat} (hrd : rd < 8) : 5 + 1 ≠ 10 := by omega
theorem nx_D_average_13 {rd : Nat} (hrd : rd < 8) : 5 + 1 ≠ 10 + 1 := by omega
theorem nx_D_average_14 {rd : Nat} (hrd : rd < 8) : 5 + 1 ≠ 10 + 2 := by omega
theorem nx_D_average_15 {rd : Nat} (hrd : rd < 8) : 5 + 2 ≠ 10 := by omega
theorem nx_D_average_16 {rd : Nat} (hrd : rd < 8) : 5 + 2 ≠ 10 + 1 := by omega
theorem nx_D_average_17 {rd : Nat} (hrd : rd < 8) : 5 + 2 ≠ 10 + 2 := by omega
theorem nx_D_average_18 {rd : Nat} (hrd : rd < 8) : 5 + 3 ≠ 10 := by omega
theorem nx_D_average_19 {rd : Nat} (hrd : rd < 8) : 5 + 3 ≠ 10 + 1 := by omega
theorem nx_D_average_20 {rd : Nat} (hrd : rd < 8) : 5 + 3 ≠ 10 + 2 := by omega
theorem nx_D_average_21 {rd : Nat} (hrd : rd < 8) : 5 + 4 ≠ 10 := by omega
theorem nx_D_average_22 {rd : Nat} (hrd : rd < 8) : 5 + 4 ≠ 10 + 1 := by omega
theorem nx_D_average_23 {rd : Nat} (hrd : rd < 8) : 5 + 4 ≠ 10 + 2 := by omega
theorem nx_D_average_24 {rd : Nat} (hrd : rd < 8) : 13 ≠ 10 := by omega
theorem nx_D_average_25 {rd : Nat} (hrd : rd < 8) : 13 ≠ 10 + 1 := by omega
theorem nx_D_average_26 {rd : Nat} (hrd : rd < 8) : 13 ≠ 10 + 2 := by omega
theorem nx_D_average_27 {rd : Nat} (hrd : rd < 8) : 13 + 1 ≠ 10 := by omega
theorem nx_D_average_28 {rd : Nat} (hrd : rd < 8) : 13 + 1 ≠ 10 + 1 := by omega
theorem nx_D_average_29 {rd : Nat} (hrd : rd < 8) : 13 + 1 ≠ 10 + 2 := by omega
theorem nx_D_average_30 {rd : Nat} (hrd : rd < 8) : 13 + 2 ≠ 10 := by omega
theorem nx_D_average_31 {rd : Nat} (hrd : rd < 8) : 13 + 2 ≠ 10 + 1 := by omega
theorem nx_D_average_32 {rd : Nat} (hrd : rd < 8) : 13 + 2 ≠ 10 + 2 := by omega
theorem nx_D_average_33 {rd : Nat} (hrd : rd < 8) : 16 ≠ 10 := by omega
theorem nx_D_average_34 {rd : Nat} (hrd : rd < 8) : 16 ≠ 10 + 1 := by omega
theorem nx_D_average_35 {rd : Nat} (hrd : rd < 8) : 16 ≠ 10 + 2 := by omega
theorem nx_D_average_36 {rd : Nat} (hrd : rd < 8) : 16 + 1 ≠ 10 := by omega
theorem nx_D_average_37 {rd : Nat} (hrd : rd < 8) : 16 + 1 ≠ 10 + 1 := by omega
theorem nx_D_average_38 {rd : Nat} (hrd : rd < 8) : 16 + 1 ≠ 10 + 2 := by omega
theorem nx_D_average_39 {rd : Nat} (hrd : rd < 8) : 16 + 2 ≠ 10 := by omega
theorem nx_D_average_40 {rd : Nat} (hrd : rd < 8) : 16 + 2 ≠ 10 + 1 := by omega
theorem nx_D_average_41 {rd : Nat} (hrd : rd < 8) : 16 + 2 ≠ 10 + 2 := by omega
theorem nx_D_average_42 {ks rd : Nat} (hrd : rd < 8) : 43 + 4 * ks ≠ 10 := by omega
theorem nx_D_average_43 {ks rd : Nat} (hrd : rd < 8) : 43 + 4 * ks ≠ 10 + 1 := by omega
theorem nx_D_average_44 {ks rd : Nat} (hrd : rd < 8) : 43 + 4 * ks ≠ 10 + 2 := by omega
theorem nx_D_average_45 {ks rd : Nat} (hrd : rd < 8) : 43 + 4 * ks + 1 ≠ 10 := by omega
theorem nx_D_average_46 {ks rd : Nat} (hrd : rd < 8) : 43 + 4 * ks + 1 ≠ 10 + 1 := by omega
theorem nx_D_average_47 {ks rd : Nat} (hrd : rd < 8) : 43 + 4 * ks + 1 ≠ 10 + 2 := by omega
theorem nx_D_average_48 {ks rd : Nat} (hrd : rd < 8) : 43 + 4 * ks + 2 ≠ 10 := by omega
theorem nx_D_average_49 {ks rd : Nat} (hrd : rd < 8) : 43 + 4 * ks + 2 ≠ 10 + 1 := by omega
theorem nx_D_average_50 {ks rd : Nat} (hrd : rd < 8) : 43 + 4 * ks + 2 ≠ 10 + 2 := by omega
theorem nx_D_average_51 {ks rd : Nat} (hrd : rd < 8) : 43 + 4 * ks + 3 ≠ 10 := by omega
theorem nx_D_average_52 {ks rd : Nat} (hrd : rd < 8) : 43 + 4 * ks + 3 ≠ 10 + 1 := by omega
theorem nx_D_average_53 {ks rd : Nat} (hrd : rd < 8) : 43 + 4 * ks + 3 ≠ 10 + 2 := by omega
theorem nx_D_average_54 {rd : Nat} (hrd : rd < 8) : 19 + 3 * rd ≠ 10 := by omega
theorem nx_D_average_55 {rd : Nat} (hrd : rd < 8) : 19 + 3 * rd ≠ 10 + 1 := by omega
theorem nx_D_average_56 {rd : Nat} (hrd : rd < 8) : 19 + 3 * rd ≠ 10 + 2 := by omega
theorem nx_D_average_57 {rd : Nat} (hrd : rd < 8) : 19 + 3 * rd + 1 ≠ 10 := by omega
theorem nx_D_average_58 {rd : Nat} (hrd : rd < 8) : 19 + 3 * rd + 1 ≠ 10 + 1 := by omega
theorem nx_D_average_59 {rd : Nat} (hrd : rd < 8) : 19 + 3 * rd + 1 ≠ 10 + 2 := by omega
theorem nx_D_average_60 {rd : Nat} (hrd : rd < 8) : 19 + 3 * rd + 2 ≠ 10 := by omega
theorem nx_D_average_61 {rd : Nat} (hrd : rd < 8) : 19 + 3 * rd + 2 ≠ 10 + 1 := by omega
theorem nx_D_average_62 {rd : Nat} (hrd : rd < 8) : 19 + 3 * rd + 2 ≠ 10 + 2 := by omega
theorem nx_D_average_63 {rd : Nat} (hrd : rd < 8) : 0 ≠ 19 + 3 * rd := by omega
theorem nx_D_average_64 {rd : Nat} (hrd : rd < 8) : 0 ≠ 19 + 3 * rd + 1 := by omega
theorem nx_D_average_65 {rd : Nat} (hrd : rd < 8) : 0 ≠ 19 + 3 * rd + 2 := by omega
theorem nx_D_average_66 {rd : Nat} (hrd : rd < 8) : 1 ≠ 19 + 3 * rd := by omega
theorem nx_D_average_67 {rd : Nat} (hrd : rd < 8) : 1 ≠ 19 + 3 * rd + 1 := by omega
theorem nx_D_average_68 {rd : Nat} (hrd : rd < 8) : 1 ≠ 19 + 3 * rd + 2 := by omega
theorem nx_D_average_69 {rd : Nat} (hrd : rd < 8) : 2 ≠ 19 + 3 * rd := by omega
theorem nx_D_average_70 {rd : Nat} (hrd : rd < 8) : 2 ≠ 19 + 3 * rd + 1 := by omega
theorem nx_D_average_71 {rd : Nat} (hrd : rd < 8) : 2 ≠ 19 + 3 * rd + 2 := by omega
theorem nx_D_average_72 {rd : Nat} (hrd : rd < 8) : 5 ≠ 19 + 3 * rd := by omega
theorem nx_D_average_73 {rd : Nat} (hrd : rd < 8) : 5 ≠ 19 + 3 * rd + 1 := by omega
theorem nx_D_average_74 {rd : Nat} (hrd : rd < 8) : 5 ≠ 19 + 3 * rd + 2 := by omega
theorem nx_D_average_75 {rd : Nat} (hrd : rd < 8) : 5 + 1 ≠ 19 + 3 * rd := by omega
theorem nx_D_average_76 {rd : Nat} (hrd : rd < 8) : 5 + 1 ≠ 19 + 3 * rd + 1 := by omega
theorem nx_D_average_77 {rd : Nat} (hrd : rd < 8) : 5 + 1 ≠ 19 + 3 * rd + 2 := by omega
theorem nx_D_average_78 {rd : Nat} (hrd : rd < 8) : 5 + 2 ≠ 19 + 3 * rd := by omega
theorem nx_D_average_79 {rd : Nat} (hrd : rd < 8) : 5 + 2 ≠ 19 + 3 * rd + 1 := by omega
theorem nx_D_average_80 {rd : Nat} (hrd : rd < 8) : 5 + 2 ≠ 19 + 3 * rd + 2 := by omega
theorem nx_D_average_81 {rd : Nat} (hrd : rd < 8) : 5 + 3 ≠ 19 + 3 * rd := by omega
theorem nx_D_average_82 {rd : Nat} (hrd : rd < 8) : 5 + 3 ≠ 19 + 3 * rd + 1 := by omega
theorem nx_D_average_83 {rd : Nat} (hrd : rd < 8) : 5 + 3 ≠ 19 + 3 * rd + 2 := by omega
theorem nx_D_average_84 {rd : Nat} (hrd : rd < 8) : 5 + 4 ≠ 19 + 3 * rd := by omega
theorem nx_D_average_85 {rd : Nat} (hrd : rd < 8) : 5 + 4 ≠ 19 + 3 * rd + 1 := by omega
theorem nx_D_average_86 {rd : Nat} (hrd : rd < 8) : 5 + 4 ≠ 19 + 3 * rd + 2 := by omega
theorem nx_D_average_87 {rd : Nat} (hrd : rd < 8) : 10 ≠ 19 + 3 * rd := by omega
theorem nx_D_average_88 {rd : Nat} (hrd : rd < 8) : 10 ≠ 19 + 3 * rd + 1 := by omega
theorem nx_D_average_89 {rd : Nat} (hrd : rd < 8) : 10 ≠ 19 + 3 * rd + 2 := by omega
theorem nx_D_average_90 {rd : Nat} (hrd : rd < 8) : 10 + 1 ≠ 19 + 3 * rd := by omega
theorem nx_D_average_91 {rd : Nat} (hrd : rd < 8) : 10 + 1 ≠ 19 + 3 * rd + 1 := by omega
theorem nx_D_average_92 {rd : Nat} (hrd : rd < 8) : 10 + 1 ≠ 19 + 3 * rd + 2 := by omega
theorem nx_D_average_93 {rd : Nat} (hrd : rd < 8) : 10 + 2 ≠ 19 + 3 * rd := by omega
theorem nx_D_average_94 {rd : Nat} (hrd : rd < 8) : 10 + 2 ≠ 19 + 3 * rd + 1 := by omega
theorem nx_D_average_95 {rd : Nat} (hrd : rd < 8) : 10 + 2 ≠ 19 + 3 * rd + 2 := by omega
theorem nx_D_average_96 {rd : Nat} (hrd : rd < 8) : 13 ≠ 19 + 3 * rd := by omega
theorem nx_D_average_97 {rd : Nat} (hrd : rd < 8) : 13 ≠ 19 + 3 * rd + 1 := by omega
theorem nx_D_average_98 {rd : Nat} (hrd : rd < 8) : 13 ≠ 19 + 3 * rd + 2 := by omega
theorem nx_D_average_99 {rd : Nat} (hrd : rd < 8) : 13 + 1 ≠ 19 + 3 * rd := by omega
theorem nx_D_average_100 {rd : Nat} (hrd : rd < 8) : 13 + 1 ≠ 19 + 3 * rd + 1 := by omega
theorem nx_D_average_101 {rd : Nat} (hrd : rd < 8) : 13 + 1 ≠ 19 + 3 * rd + 2 := by omega
theorem nx_D_average_102 {rd : Nat} (hrd : rd < 8) : 13 + 2 ≠ 19 + 3 * rd := by omega
theorem nx_D_average_103 {rd : Nat} (hrd : rd < 8) : 13 + 2 ≠ 19 + 3 * rd + 1 := by omega
theorem nx_D_average_104 {rd : Nat} (hrd : rd < 8) : 13 + 2 ≠ 19 + 3 * rd + 2 := by omega
theorem nx_D_average_105 {rd : Nat} (hrd : rd < 8) : 16 ≠ 19 + 3 * rd := by omega
theorem nx_D_average_106 {rd : Nat} (hrd : rd < 8) : 16 ≠ 19 + 3 * rd + 1 := by omega
theorem nx_D_average_107 {rd : Nat} (hrd : rd < 8) : 16 ≠ 19 + 3 * rd + 2 := by omega
theorem nx_D_average_108 {rd : Nat} (hrd : rd < 8) : 16 + 1 ≠ 19 + 3 * rd := by omega
theorem nx_D_average_109 {rd : Nat} (hrd : rd < 8) : 16 + 1 ≠ 19 + 3 * rd + 1 := by omega
theorem nx_D_average_110 {rd : Nat} (hrd : rd < 8) : 16 + 1 ≠ 19 + 3 * rd + 2 := by omega
theorem nx_D_average_111 {rd : Nat} (hrd : rd < 8) : 16 + 2 ≠ 19 + 3 * rd := by omega
theorem nx_D_average_112 {rd : Nat} (hrd : rd < 8) : 16 + 2 ≠ 19 + 3 * rd + 1 := by omega
theorem nx_D_average_113 {rd : Nat} (hrd : rd < 8) : 16 + 2 ≠ 19 + 3 * rd + 2 := by omega
theorem nx_D_average_114 {ks rd : Nat} (hrd : rd < 8) : 43 + 4 * ks ≠ 19 + 3 * rd := by omega
theorem nx_D_average_115 {ks rd : Nat} (hrd : rd < 8) : 43 + 4 * ks ≠ 19 + 3 * rd + 1 := by omega
theorem nx_D_average_116 {ks rd : Nat} (hrd : rd < 8) : 43 + 4 * ks ≠ 19 + 3 * rd + 2 := by omega
theorem nx_D_average_117 {ks rd : Nat} (hrd : rd < 8) : 43 + 4 * ks + 1 ≠ 19 + 3 * rd := by omega
theorem nx_D_average_118 {ks rd : Nat} (hrd : rd < 8) : 43 + 4 * ks + 1 ≠ 19 + 3 * rd + 1 := by omega
theorem nx_D_average_119 {ks rd : Nat} (hrd : rd < 8) : 43 + 4 * ks + 1 ≠ 19 + 3 * rd + 2 := by omega
theorem nx_D_average_120 {ks rd : Nat} (hrd : rd < 8) : 43 + 4 * ks + 2 ≠ 19 + 3 * rd := by omega
theorem nx_D_average_121 {ks rd : Nat} (hrd : rd < 8) : 43 + 4 * ks + 2 ≠ 19 + 3 * rd + 1 := by omega
theorem nx_D_average_122 {ks rd : Nat} (hrd : rd < 8) : 43 + 4 * ks + 2 ≠ 19 + 3 * rd + 2 := by omega
theorem nx_D_average_123 {ks rd : Nat} (hrd : rd < 8) : 43 + 4 * ks + 3 ≠ 19 + 3 * rd := by omega
theorem nx_D_average_124 {ks rd : Nat} (hrd : rd < 8) : 43 + 4 * ks + 3 ≠ 19 + 3 * rd + 1 := by omega
theorem nx_D_average_125 {ks rd : Nat} (hrd : rd < 8) : 43 + 4 * ks + 3 ≠ 19 + 3 * rd + 2 := by omega
theorem nx_D_average_126 {rd : Nat} (hrd : rd < 8) : 0 ≠ 13 := by omega
theorem nx_D_average_127 {rd : Nat} (hrd : rd < 8) : 0 ≠ 13 + 1 := by omega
theorem nx_D_average_128 {rd : Nat} (hrd : rd < 8) : 0 ≠ 13 + 2 := by omega
theorem nx_D_average_129 {rd : Nat} (hrd : rd < 8) : 1 ≠ 13 := by omega
theorem nx_D_average_130 {rd : Nat} (hrd : rd < 8) : 1 ≠ 13 + 1 := by omega
theorem nx_D_average_131 {rd : Nat} (hrd : rd < 8) : 1 ≠ 13 + 2 := by omega
theorem nx_D_average_132 {rd : Nat} (hrd : rd < 8) : 2 ≠ 13 := by omega
theorem nx_D_average_133 {rd : Nat} (hrd : rd < 8) : 2 ≠ 13 + 1 := by omega
theorem nx_D_average_134 {rd : Nat} (hrd : rd < 8) : 2 ≠ 13 + 2 := by omega
theorem nx_D_average_135 {rd : Nat} (hrd : rd < 8) : 5 ≠ 13 := by omega
theorem nx_D_average_136 {rd : Nat} (hrd : rd < 8) : 5 ≠ 13 + 1 := by omega
theorem nx_D_average_137 {rd : Nat} (hrd : rd < 8) : 5 ≠ 13 + 2 := by omega
theorem nx_D_average_138 {rd : Nat} (hrd : rd < 8) : 5 + 1 ≠ 13 := by omega
theorem nx_D_average_139 {rd : Nat} (hrd : rd < 8) : 5 + 1 ≠ 13 + 1 := by omega
theorem nx_D_average_140 {rd : Nat} (hrd : rd < 8) : 5 + 1 ≠ 13 + 2 := by omega
theorem nx_D_average_141 {rd : Nat} (hrd : rd < 8) : 5 + 2 ≠ 13 := by omega
theorem nx_D_average_142 {rd : Nat} (hrd : rd < 8) : 5 + 2 ≠ 13 + 1 := by omega
theorem nx_D_average_143 {rd : Nat} (hrd : rd < 8) : 5 + 2 ≠ 13 + 2 := by omega
theorem nx_D_average_144 {rd : Nat} (hrd : rd < 8) : 5 + 3 ≠ 13 := by omega
theorem nx_D_average_145 {rd : Nat} (hrd : rd < 8) : 5 + 3 ≠ 13 + 1 := by omega
theorem nx_D_average_146 {rd : Nat} (hrd : rd < 8) : 5 + 3 ≠ 13 + 2 := by omega
theorem nx_D_average_147 {rd : Nat} (hrd : rd < 8) : 5 + 4 ≠ 13 := by omega
theorem nx_D_average_148 {rd : Nat} (hrd : rd < 8) : 5 + 4 ≠ 13 + 1 := by omega
theorem nx_D_average_149 {rd : Nat} (hrd : rd < 8) : 5 + 4 ≠ 13 + 2 := by omega
theorem nx_D_average_150 {rd : Nat} (hrd : rd < 8) : 10 ≠ 13 := by omega
theorem nx_D_average_151 {rd : Nat} (hrd : rd < 8) : 10 ≠ 13 + 1 := by omega
theorem nx_D_average_152 {rd : Nat} (hrd : rd < 8) : 10 ≠ 13 + 2 := by omega
theorem nx_D_average_153 {rd : Nat} (hrd : rd < 8) : 10 + 1 ≠ 13 := by omega
theorem nx_D_average_154 {rd : Nat} (hrd : rd < 8) : 10 + 1 ≠ 13 + 1 := by omega
theorem nx_D_average_155 {rd : Nat} (hrd : rd < 8) : 10 + 1 ≠ 13 + 2 := by omega
theorem nx_D_average_156 {rd : Nat} (hrd : rd < 8) : 10 + 2 ≠ 13 := by omega
theorem nx_D_average_157 {rd : Nat} (hrd : rd < 8) : 10 + 2 ≠ 13 + 1 := by omega
theorem nx_D_average_158 {rd : Nat} (hrd : rd < 8) : 10 + 2 ≠ 13 + 2 := by omega
theorem nx_D_average_159 {rd : Nat} (hrd : rd < 8) : 16 ≠ 13 := by omega
theorem nx_D_average_160 {rd : Nat} (hrd : rd < 8) : 16 ≠ 13 + 1 := by omega
theorem nx_D_average_161 {rd : Nat} (hrd : rd < 8) : 16 ≠ 13 + 2 := by omega
theorem nx_D_average_162 {rd : Nat} (hrd : rd < 8) : 16 + 1 ≠ 13 := by omega
theorem nx_D_average_163 {rd : Nat} (hrd : rd < 8) : 16 + 1 ≠ 13 + 1 := by omega
theorem nx_D_average_164 {rd : Nat} (hrd : rd < 8) : 16 + 1 ≠ 13 + 2 := by omega
theorem nx_D_average_165 {rd : Nat} (hrd : rd < 8) : 16 + 2 ≠ 13 := by omega
theorem nx_D_average_166 {rd : Nat} (hrd : rd < 8) : 16 + 2 ≠ 13 + 1 := by omega
theorem nx_D_average_167 {rd : Nat} (hrd : rd < 8) : 16 + 2 ≠ 13 + 2 := by omega
theorem nx_D_average_168 {ks rd : Nat} (hrd : rd < 8) : 43 + 4 * ks ≠ 13 := by omega
theorem nx_D_average_169 {ks rd : Nat} (hrd : rd < 8) : 43 + 4 * ks ≠ 13 + 1 := by omega
theorem nx_D_average_170 {ks rd : Nat} (hrd : rd < 8) : 43 + 4 * ks ≠ 13 + 2 := by omega
theorem nx_D_average_171 {ks rd : Nat} (hrd : rd < 8) : 43 + 4 * ks + 1 ≠ 13 := by omega
theorem nx_D_average_172 {ks rd : Nat} (hrd : rd < 8) : 43 + 4 * ks + 1 ≠ 13 + 1 := by omega
theorem nx_D_average_173 {ks rd : Nat} (hrd : rd < 8) : 43 + 4 * ks + 1 ≠ 13 + 2 := by omega
theorem nx_D_average_174 {ks rd : Nat} (hrd : rd < 8) : 43 + 4 * ks + 2 ≠ 13 := by omega
theorem nx_D_average_175 {ks rd : Nat} (hrd : rd < 8) : 43 + 4 * ks + 2 ≠ 13 + 1 := by omega
theorem nx_D_average_176 {ks rd : Nat} (hrd : rd < 8) : 43 + 4 * ks + 2 ≠ 13 + 2 := by omega
theorem nx_D_average_177 {ks rd : Nat} (hrd : rd < 8) : 43 + 4 * ks + 3 ≠ 13 := by omega
theorem nx_D_average_178 {ks rd : Nat} (hrd : rd < 8) : 43 + 4 * ks + 3 ≠ 13 + 1 := by omega
theorem nx_D_average_179 {ks rd : Nat} (hrd : rd < 8) : 43 + 4 * ks + 3 ≠ 13 + 2 := by omega
theorem nx_D_average_180 {rd : Nat} (hrd : rd < 8) : 19 + 3 * rd ≠ 13 := by omega
theorem nx_D_average_181 {rd : Nat} (hrd : rd < 8) : 19 + 3 * rd ≠ 13 + 1 := by omega
theorem nx_D_average_182 {rd : Nat} (hrd : rd < 8) : 19 + 3 * rd ≠ 13 + 2 := by omega
theorem nx_D_average_183 {rd : Nat} (hrd : rd < 8) : 19 + 3 * rd + 1 ≠ 13 := by omega
theorem nx_D_average_184 {rd : Nat} (hrd : rd < 8) : 19 + 3 * rd + 1 ≠ 13 + 1 := by omega
theorem nx_D_average_185 {rd : Nat} (hrd : rd < 8) : 19 + 3 * rd + 1 ≠ 13 + 2 := by omega
theorem nx_D_average_186 {rd : Nat} (hrd : rd < 8) : 19 + 3 * rd + 2 ≠ 13 := by omega
theorem nx_D_average_187 {rd : Nat} (hrd : rd < 8) : 19 + 3 * rd + 2 ≠ 13 + 1 := by omega
theorem nx_D_average_188 {rd : Nat} (hrd : rd < 8) : 19 + 3 * rd + 2 ≠ 13 + 2 := by omega
theorem nx_D_average_189 {rd : Nat} (hrd : rd < 8) : 0 ≠ 16 := by omega
theorem nx_D_average_190 {rd : Nat} (hrd : rd < 8) : 0 ≠ 16 + 1 := by omega
theorem nx_D_average_191 {rd : Nat} (hrd : rd < 8) : 0 ≠ 16 + 2 := by omega
theorem nx_D_average_192 {rd : Nat} (hrd : rd < 8) : 1 ≠ 16 := by omega
theorem nx_D_average_193 {rd : Nat} (hrd : rd < 8) : 1 ≠ 16 + 1 := by omega
theorem nx_D_average_194 {rd : Nat} (hrd : rd < 8) : 1 ≠ 16 + 2 := by omega
theorem nx_D_average_195 {rd : Nat} (hrd : rd < 8) : 2 ≠ 16 := by omega
theorem nx_D_average_196 {rd : Nat} (hrd : rd < 8) : 2 ≠ 16 + 1 := by omega
theorem nx_D_average_197 {rd : Nat} (hrd : rd < 8) : 2 ≠ 16 + 2 := by omega
theorem nx_D_average_198 {rd : Nat} (hrd : rd < 8) : 5 ≠ 16 := by omega
theorem nx_D_average_199 {rd : Nat} (hrd : rd < 8) : 5 ≠ 16 + 1 := by omega
theorem nx_D_average_200 {rd : Nat} (hrd : rd < 8) : 5 ≠ 16 + 2 := by omega
theorem nx_D_average_201 {rd : Nat} (hrd : rd < 8) : 5 + 1 ≠ 16 := by omega
theorem nx_D_average_202 {rd : Nat} (hrd : rd < 8) : 5 + 1 ≠ 16 + 1 := by omega
theorem nx_D_average_203 {rd : Nat} (hrd : rd < 8) : 5 + 1 ≠ 16 + 2 := by omega
theorem nx_D_average_204 {rd : Nat} (hrd : rd < 8) : 5 + 2 ≠ 16 := by omega
theorem nx_D_average_205 {rd : Nat} (hrd : rd < 8) : 5 + 2 ≠ 16 + 1 := by omega
theorem nx_D_average_206 {rd : Nat} (hrd : rd < 8) : 5 + 2 ≠ 16 + 2 := by omega
theorem nx_D_average_207 {rd : Nat} (hrd : rd < 8) : 5 + 3 ≠ 16 := by omega
theorem nx_D_average_208 {rd : Nat} (hrd : rd < 8) : 5 + 3 ≠ 16 + 1 := by omega
theorem nx_D_average_209 {rd : Nat} (hrd : rd < 8) : 5 + 3 ≠ 16 + 2 := by omega
theorem nx_D_average_210 {rd : Nat} (hrd : rd < 8) : 5 + 4 ≠ 16 := by omega
theorem nx_D_average_211 {rd : Nat} (hrd : rd < 8) : 5 + 4 ≠ 16 + 1 := by omega
theorem nx_D_average_212 {rd : Nat} (hrd : rd < 8) : 5 + 4 ≠ 16 + 2 := by omega
theorem nx_D_average_213 {rd : Nat} (hrd : rd < 8) : 10 ≠ 16 := by omega
theorem nx_D_average_214 {rd : Nat} (hrd : rd < 8) : 10 ≠ 16 + 1 := by omega
theorem nx_D_average_215 {rd : Nat} (hrd : rd < 8) : 10 ≠ 16 + 2 := by omega
theorem nx_D_average_216 {rd : Nat} (hrd : rd < 8) : 10 + 1 ≠ 16 := by omega
theorem nx_D_average_217 {rd : Nat} (hrd : rd < 8) : 10 + 1 ≠ 16 + 1 := by omega
theorem nx_D_average_218 {rd : Nat} (hrd : rd < 8) : 10 + 1 ≠ 16 + 2 := by omega
theorem nx_D_average_219 {rd : Nat} (hrd : rd < 8) : 10 + 2 ≠ 16 := by omega
theorem nx_D_average_220 {rd : Nat} (hrd : rd < 8) : 10 + 2 ≠ 16 + 1 := by omega
theorem nx_D_average_221 {rd : Nat} (hrd : rd < 8) : 10 + 2 ≠ 16 + 2 := by omega
theorem nx_D_average_222 {rd : Nat} (hrd : rd < 8) : 13 ≠ 16 := by omega
theorem nx_D_average_223 {rd : Nat} (hrd : rd < 8) : 13 ≠ 16 + 1 := by omega
theorem nx_D_average_224 {rd : Nat} (hrd : rd < 8) : 13 ≠ 16 + 2 := by omega
theorem nx_D_average_225 {rd : Nat} (hrd : rd < 8) : 13 + 1 ≠ 16 := by omega
theorem nx_D_average_226 {rd : Nat} (hrd : rd < 8) : 13 + 1 ≠ 16 + 1 := by omega
theorem nx_D_average_227 {rd : Nat} (hrd : rd < 8) : 13 + 1 ≠ 16 + 2 := by omega
theorem nx_D_average_228 {rd : Nat} (hrd : rd < 8) : 13 + 2 ≠ 16 := by omega
theorem nx_D_average_229 {rd : Nat} (hrd : rd < 8) : 13 + 2 ≠ 16 + 1 := by omega
theorem nx_D_average_230 {rd : Nat} (hrd : rd < 8) : 13 + 2 ≠ 16 + 2 := by omega
theorem nx_D_average_231 {ks rd : Nat} (hrd : rd < 8) : 43 + 4 * ks ≠ 16 := by omega
theorem nx_D_average_232 {ks rd : Nat} (hrd : rd < 8) : 43 + 4 * ks ≠ 16 + 1 := by omega
theorem nx_D_average_233 {ks rd : Nat} (hrd : rd < 8) : 43 + 4 * ks ≠ 16 + 2 := by omega
theorem nx_D_average_234 {ks rd : Nat} (hrd : rd < 8) : 43 + 4 * ks + 1 ≠ 16 := by omega
theorem nx_D_average_235 {ks rd : Nat} (hrd : rd < 8) : 43 + 4 * ks + 1 ≠ 16 + 1 := by omega
theorem nx_D_average_236 {ks rd : Nat} (hrd : rd < 8) : 43 + 4 * ks + 1 ≠ 16 + 2 := by omega
theorem nx_D_average_237 {ks rd : Nat} (hrd : rd < 8) : 43 + 4 * ks + 2 ≠ 16 := by omega
theorem nx_D_average_238 {ks rd : Nat} (hrd : rd < 8) : 43 + 4 * ks + 2 ≠ 16 + 1 := by omega
theorem nx_D_average_239 {ks rd : Nat} (hrd : rd < 8) : 43 + 4 * ks + 2 ≠ 16 + 2 := by omega
theorem nx_D_average_240 {ks rd : Nat} (hrd : rd < 8) : 43 + 4 * ks + 3 ≠ 16 := by omega
theorem nx_D_average_241 {ks rd : Nat} (hrd : rd < 8) : 43 + 4 * ks + 3 ≠ 16 + 1 := by omega
theorem nx_D_average_242 {ks rd : Nat} (hrd : rd < 8) : 43 + 4 * ks + 3 ≠ 16 + 2 := by omega
theorem nx_D_average_243 {rd : Nat} (hrd : rd < 8) : 19 + 3 * rd ≠ 16 := by omega
theorem nx_D_average_244 {rd : Nat} (hrd : rd < 8) : 19 + 3 * rd ≠ 16 + 1 := by omega
theorem nx_D_average_245 {rd : Nat} (hrd : rd < 8) : 19 + 3 * rd ≠ 16 + 2 := by omega
theorem nx_D_average_246 {rd : Nat} (hrd : rd < 8) : 19 + 3 * rd + 1 ≠ 16 := by omega
theorem nx_D_average_247 {rd : Nat} (hrd : rd < 8) : 19 + 3 * rd + 1 ≠ 16 + 1 := by omega
theorem nx_D_average_248 {rd : Nat} (hrd : rd < 8) : 19 + 3 * rd + 1 ≠ 16 + 2 := by omega
theorem nx_D_average_249 {rd : Nat} (hrd : rd < 8) : 19 + 3 * rd + 2 ≠ 16 := by omega
theorem nx_D_average_250 {rd : Nat} (hrd : rd < 8) : 19 + 3 * rd + 2 ≠ 16 + 1 := by omega
theorem nx_D_average_251 {rd : Nat} (hrd : rd < 8) : 19 + 3 * rd + 2 ≠ 16 + 2 := by omega
theorem nx_D_average_252 {rd : Nat} (hrd : rd < 8) : 0 ≠ 5 + 1 := by omega
theorem nx_D_average_253 {rd : Nat} (hrd : rd < 8) : 0 ≠ 5 + 2 := by omega
theorem nx_D_average_254 {rd : Nat} (hrd : rd < 8) : 1 ≠ 5 + 1 := by omega
theorem nx_D_average_255 {rd : Nat} (hrd : rd < 8) : 1 ≠ 5 + 2 := by omega
theorem nx_D_average_256 {rd : Nat} (hrd : rd < 8) : 2 ≠ 5 + 1 := by omega
theorem nx_D_average_257 {rd : Nat} (hrd : rd < 8) : 2 ≠ 5 + 2 := by omega
theorem nx_D_average_258 {rd : Nat} (hrd : rd < 8) : 5 ≠ 5 + 1 := by omega
theorem nx_D_average_259 {rd : Nat} (hrd : rd < 8) : 5 ≠ 5 + 2 := by omega
theorem nx_D_average_260 {rd : Nat} (hrd : rd < 8) : 5 + 3 ≠ 5 + 1 := by omega
theorem nx_D_average_261 {rd : Nat} (hrd : rd < 8) : 5 + 3 ≠ 5 + 2 := by omega
theorem nx_D_average_262 {rd : Nat} (hrd : rd < 8) : 5 + 4 ≠ 5 + 1 := by omega
theorem nx_D_average_263 {rd : Nat} (hrd : rd < 8) : 5 + 4 ≠ 5 + 2 := by omega
theorem nx_D_average_264 {rd : Nat} (hrd : rd < 8) : 13 ≠ 5 + 1 := by omega
theorem nx_D_average_265 {rd : Nat} (hrd : rd < 8) : 13 ≠ 5 + 2 := by omega
theorem nx_D_average_266 {rd : Nat} (hrd : rd < 8) : 13 + 1 ≠ 5 + 1 := by omega
theorem nx_D_average_267 {rd : Nat} (hrd : rd < 8) : 13 + 1 ≠ 5 + 2 := by omega
theorem nx_D_average_268 {rd : Nat} (hrd : rd < 8) : 13 + 2 ≠ 5 + 1 := by omega
theorem nx_D_average_269 {rd : Nat} (hrd : rd < 8) : 13 + 2 ≠ 5 + 2 := by omega
theorem nx_D_average_270 {rd : Nat} (hrd : rd < 8) : 16 ≠ 5 + 1 := by omega
theorem nx_D_average_271 {rd : Nat} (hrd : rd < 8) : 16 ≠ 5 + 2 := by omega
theorem nx_D_average_272 {rd : Nat} (hrd : rd < 8) : 16 + 1 ≠ 5 + 1 := by omega
theorem nx_D_average_273 {rd : Nat} (hrd : rd < 8) : 16 + 1 ≠ 5 + 2 := by omega
theorem nx_D_average_274 {rd : Nat} (hrd : rd < 8) : 16 + 2 ≠ 5 + 1 := by omega
theorem nx_D_average_275 {rd : Nat} (hrd : rd < 8) : 16 + 2 ≠ 5 + 2 := by omega
theorem nx_D_average_276 {ks rd : Nat} (hrd : rd < 8) : 43 + 4 * ks ≠ 5 + 1 := by omega
theorem nx_D_average_277 {ks rd : Nat} (hrd : rd < 8) : 43 + 4 * ks ≠ 5 + 2 := by omega
theorem nx_D_average_278 {ks rd : Nat} (hrd : rd < 8) : 43 + 4 * ks + 1 ≠ 5 + 1 := by omega
theorem nx_D_average_279 {ks rd : Nat} (hrd : rd < 8) : 43 + 4 * ks + 1 ≠ 5 + 2 := by omega
theorem nx_D_average_280 {ks rd : Nat} (hrd : rd < 8) : 43 + 4 * ks + 2 ≠ 5 + 1 := by omega
theorem nx_D_average_281 {ks rd : Nat} (hrd : rd < 8) : 43 + 4 * ks + 2 ≠ 5 + 2 := by omega
theorem nx_D_average_282 {ks rd : Nat} (hrd : rd < 8) : 43 + 4 * ks + 3 ≠ 5 + 1 := by omega
theorem nx_D_average_283 {ks rd : Nat} (hrd : rd < 8) : 43 + 4 * ks + 3 ≠ 5 + 2 := by omega
theorem nx_D_average_284 {rd : Nat} (hrd : rd < 8) : 19 + 3 * rd ≠ 5 + 1 := by omega
theorem nx_D_average_285 {rd : Nat} (hrd : rd < 8) : 19 + 3 * rd ≠ 5 + 2 := by omega
theorem nx_D_average_286 {rd : Nat} (hrd : rd < 8) : 19 + 3 * rd + 1 ≠ 5 + 1 := by omega
theorem nx_D_average_287 {rd : Nat} (hrd : rd < 8) : 19 + 3 * rd + 1 ≠ 5 + 2 := by omega
theorem nx_D_average_288 {rd : Nat} (hrd : rd < 8) : 19 + 3 * rd + 2 ≠ 5 + 1 := by omega
theorem nx_D_average_289 {rd : Nat} (hrd : rd < 8) : 19 + 3 * rd + 2 ≠ 5 + 2 := by omega
def rm_D_average : Room := { frames := 7, cells := 0, slots := 0, locals := 164 }
set_option maxHeartbeats 4000000 in
set_option maxRecDepth 100000 in
theorem c_D_average (l : Launch) (E : zE) (w0 : zW) (fq : Nat → Option Nat) (fs : Nat → Option Nat) (r1 r2 r3 r4 : Int → Int) (kt : Nat) (plt nt : Int) (ft : Int → Int) (kv : Nat) (plv nv : Int) (fv : Int → Int) (kw : Nat) (plw nw : Int) (fw : Int → Int) (ks : Nat) (sn sz : Int) (sf cn : Int → Int) (rd : Nat) (kd : Nat) (pld nd : Int) (fd : Int → Int) (hzn : 73 ≤ zn E) (c0 : w0 0 = .inr (5, [.ref (ad E 1), .ref (ad E 2), .ref (ad E 3), .ref (ad E 5), .ref (ad E 10), .ref (ad E 13), .ref (ad E 16)])) (c1 : w0 1 = zaq E 3 8 fq) (c2 : w0 2 = zaq E 4 4 fs) (c3 : w0 5 = .inr (4, [.ref (ad E (5 + 1)), .ref (ad E (5 + 2)), .ref (ad E (5 + 3)), .ref (ad E (5 + 4))])) (c4 : w0 (5 + 1) = zar E 30 r1) (c5 : w0 (5 + 2) = zar E 30 r2) (c6 : w0 (5 + 3) = zar E 30 r3) (c7 : w0 (5 + 4) = zar E 30 r4) (c8 : w0 10 = .inr (1, [.ref (zg E (1 + kt)), .int (iI plt), .ref (ad E (10 + 1))])) (c9 : w0 (10 + 1) = .inr (0, [.ref (ad E (10 + 2)), .int (iI nt)])) (c10 : w0 (10 + 2) = zar E 15 ft) (c11 : w0 13 = .inr (1, [.ref (zg E (1 + kv)), .int (iI plv), .ref (ad E (13 + 1))])) (c12 : w0 (13 + 1) = .inr (0, [.ref (ad E (13 + 2)), .int (iI nv)])) (c13 : w0 (13 + 2) = zar E 15 fv) (c14 : w0 16 = .inr (1, [.ref (zg E (1 + kw)), .int (iI plw), .ref (ad E (16 + 1))])) (c15 : w0 (16 + 1) = .inr (0, [.ref (ad E (16 + 2)), .int (iI nw)])) (c16 : w0 (16 + 2) = zar E 15 fw) (c17 : w0 (43 + 4 * ks) = .inr (2, [.ref (ad E (43 + 4 * ks + 1)), .ref (ad E (43 + 4 * ks + 3)), .int (iI sz)])) (c18 : w0 (43 + 4 * ks + 1) = .inr (0, [.ref (ad E (43 + 4 * ks + 2)), .int (iI sn)])) (c19 : w0 (43 + 4 * ks + 2) = zar E 15 sf) (c20 : w0 (43 + 4 * ks + 3) = zar E 28 cn) (c21 : w0 (19 + 3 * rd) = .inr (1, [.ref (zg E (1 + kd)), .int (iI pld), .ref (ad E (19 + 3 * rd + 1))])) (c22 : w0 (19 + 3 * rd + 1) = .inr (0, [.ref (ad E (19 + 3 * rd + 2)), .int (iI nd)])) (c23 : w0 (19 + 3 * rd + 2) = zar E 15 fd) (hfq : ∀ k : Nat, k < 8 → fq k = some (ad E (19 + 3 * k))) (hfs : ∀ k : Nat, k < 4 → fs k = some (ad E (43 + 4 * k))) (br1 : bd r1 30 0 9999) (br2 : bd r2 30 0 9999) (br3 : bd r3 30 0 9999) (br4 : bd r4 30 0 9999) (bft : bd ft 15 0 9999) (hkt : kt < 4) (hnt : nt = 0 ∨ nt = 1) (bfv : bd fv 15 0 9999) (hkv : kv < 4) (hnv : nv = 0 ∨ nv = 1) (bfw : bd fw 15 0 9999) (hkw : kw < 4) (hnw : nw = 0 ∨ nw = 1) (bs : bd sf 15 0 9999) (hsn : sn = 0 ∨ sn = 1) (bc : bd cn 28 0 sz) (hsz : 0 ≤ sz ∧ sz ≤ 1000) (hks : ks < 4) (bfd : bd fd 15 0 9999) (hkd : kd < 4) (hnd : nd = 0 ∨ nd = 1) (hrd : rd < 8) (hcs : Sm cn 28 ≤ 1000) : zM l y_D_average ws_D_average rm_D_average E [.ref (ad E 0), .int (iI ((rd : Int))), .int (iI ((ks : Int)))] w0 (zQi E w0 (fun z w' => (∃ (r1' : Int → Int) (r2' : Int → Int) (kt' : Nat) (plt' : Int) (nt' : Int) (ft' : Int → Int) (kv' : Nat) (plv' : Int) (nv' : Int) (fv' : Int → Int) (kw' : Nat) (plw' : Int) (nw' : Int) (fw' : Int → Int) (k' : Nat) (p' : Int) (n' : Int) (f' : Int → Int), w' (5 + 1) = zar E 30 r1' ∧ w' (5 + 2) = zar E 30 r2' ∧ w' 10 = .inr (1, [.ref (zg E (1 + kt')), .int (iI plt'), .ref (ad E (10 + 1))]) ∧ w' (10 + 1) = .inr (0, [.ref (ad E (10 + 2)), .int (iI nt')]) ∧ w' (10 + 2) = zar E 15 ft' ∧ w' 13 = .inr (1, [.ref (zg E (1 + kv')), .int (iI plv'), .ref (ad E (13 + 1))]) ∧ w' (13 + 1) = .inr (0, [.ref (ad E (13 + 2)), .int (iI nv')]) ∧ w' (13 + 2) = zar E 15 fv' ∧ w' 16 = .inr (1, [.ref (zg E (1 + kw')), .int (iI plw'), .ref (ad E (16 + 1))]) ∧ w' (16 + 1) = .inr (0, [.ref (ad E (16 + 2)), .int (iI nw')]) ∧ w' (16 + 2) = zar E 15 fw' ∧ w' (19 + 3 * rd) = .inr (1, [.ref (zg E (1 + k')), .int (iI p'), .ref (ad E (19 + 3 * rd + 1))]) ∧ w' (19 + 3 * rd + 1) = .inr (0, [.ref (ad E (19 + 3 * rd + 2)), .int (iI n')]) ∧ w' (19 + 3 * rd + 2) = zar E 15 f' ∧ bd r1' 30 0 9999 ∧ bd r2' 30 0 9999 ∧ bd ft' 15 0 9999 ∧ bd fv' 15 0 9999 ∧ bd fw' 15 0 9999 ∧ bd f' 15 0 9999 ∧ (kt' < 4 ∧ (nt' = 0 ∨ nt' = 1) ∧ kv' < 4 ∧ (nv' = 0 ∨ nv' = 1) ∧ kw' < 4 ∧ (nw' = 0 ∨ nw' = 1) ∧ Nf z kt' plt' nt' (V ft' 15) ∧ (∃ (z1 : Int) (k1 : Nat) (p1 n1 v1 : Int), k1 < 4 ∧ (n1 = 0 ∨ n1 = 1) ∧ SrR z1 k1 p1 n1 v1 sn (V sf 15) cn ∧ (((z1 ≠ 0 ∨ k1 ≠ 1) ∧ z = z1 ∧ kt' = k1 ∧ plt' = p1 ∧ nt' = n1 ∧ V ft' 15 = v1) ∨ (z1 = 0 ∧ k1 = 1 ∧ CmR 3 z kt' plt' nt' (V ft' 15) k1 p1 n1 v1 1 0 0 (Sm cn 28 * Bp 6)))) ∧ StoR z kt' plt' nt' (V ft' 15) kd pld nd (V fd 15) k' p' n' (V f' 15))) ∧ ∀ k, k ≠ (5 + 1) → k ≠ (5 + 2) → k ≠ 10 → k ≠ (10 + 1) → k ≠ (10 + 2) → k ≠ 13 → k ≠ (13 + 1) → k ≠ (13 + 2) → k ≠ 16 → k ≠ (16 + 1) → k ≠ (16 + 2) → k ≠ (19 + 3 * rd) → k ≠ (19 + 3 * rd + 1) → k ≠ (19 + 3 * rd + 2) → w' k = w0 k)) := by
  refine z_met (cc := b_D_average) (maxL := 4) (ret := (some .int)) (by decide +kernel) rfl (Nat.le_of_ble_eq_true rfl) ?_
  intro p e s m below meth cd ls a Qf hQ hC hl hH
  obtain ⟨hF, hr, hlk, hK, hG, hn⟩ := hC
  obtain ⟨hx, hb, hml, hown, hts⟩ := hF
  have hg : ∀ w ∈ GW, w.before a s = true := fun w h => hts w (List.mem_cons_of_mem _ h)
  have hA : ∀ q, s.heap.size ≤ q → va_A (wl E w0) s.heap.size q := fun q h => Or.inr h
  have hl : lv_has ls 4 [(0, .ref (ad E 0)), (1, .int (iI ((rd : Int)))), (2, .int (iI ((ks : Int))))] := hl
  have q0lt : 0 < zn E := by omega
  have q1lt : 1 < zn E := by omega
  have q2lt : 2 < zn E := by omega
  have q3lt : 5 < zn E := by omega
  have q4lt : 5 + 1 < zn E := by omega
  have q5lt : 5 + 2 < zn E := by omega
  have q6lt : 5 + 3 < zn E := by omega
  have q7lt : 5 + 4 < zn E := by omega
  have q8lt : 10 < zn E := by omega
  have q9lt : 10 + 1 < zn E := by omega
  have q10lt : 10 + 2 < zn E := by omega
  have q11lt : 13 < zn E := by omega
  have q12lt : 13 + 1 < zn E := by omega
  have q13lt : 13 + 2 < zn E := by omega
  have q14lt : 16 < zn E := by omega
  have q15lt : 16 + 1 < zn E := by omega
  have q16lt : 16 + 2 < zn E := by omega
  have q17lt : 43 + 4 * ks < zn E := by omega
  have q18lt : 43 + 4 * ks + 1 < zn E := by omega
  have q19lt : 43 + 4 * ks + 2 < zn E := by omega
  have q20lt : 43 + 4 * ks + 3 < zn E := by omega
  have q21lt : 19 + 3 * rd < zn E := by omega
  have q22lt : 19 + 3 * rd + 1 < zn E := by omega
  have q23lt : 19 + 3 * rd + 2 < zn E := by omega
  refine lv_iload_n hx hb d_D_average_0 rfl (lv_at hl 1 rfl) ?_
  refine z_calli (va_runS (As := [.int (iI ((rd : Int)))]) (rest := []) ⟨hx, hb, hml, hown, hts⟩ (c_D_isRegister (l := l) (E := E) (w0 := w0) (r := (rd : Int)) (hr0 := by omega) s.heap.size) (z_cwS 1 hg wm_164 wm_162 wm_1 wm_163 (by decide +kernel) ⟨Nat.le_of_ble_eq_true rfl, Nat.le_of_ble_eq_true rfl⟩) (z_preS hK hG hn hH hA) rfl rfl hl.1 rfl (lv_room (Nat.le_of_ble_eq_true rfl)) d_D_average_1 ⟨Nat.zero_le _, Nat.zero_le _⟩) hH hA (fun z5 w3 H1 lc2 hH4 p1 => ?_)
  obtain ⟨ew6, p1⟩ := p1
  rw [ew6] at hH4
  replace p1 : (z5 = 1 ∧ 0 ≤ ((rd : Int)) ∧ ((rd : Int)) < 8) ∨ (z5 = 0 ∧ ¬ (0 ≤ ((rd : Int)) ∧ ((rd : Int)) < 8)) := p1
  refine zv_if_eq (tgt := 14) hx hb d_D_average_4 rfl (by omega) (fun h7 => absurd h7 (by omega)) (fun h7 => ?_)
  refine lv_iload_n hx hb d_D_average_7 rfl (lv_at hl 2 rfl) ?_
  refine z_calli (va_runS (As := [.int (iI ((ks : Int)))]) (rest := []) ⟨hx, hb, hml, hown, hts⟩ (c_D_isSum (l := l) (E := E) (w0 := w0) (r := (ks : Int)) (hr0 := by omega) H1.size) (z_cwS 1 hg wm_599 wm_597 wm_1 wm_598 (by decide +kernel) ⟨Nat.le_of_ble_eq_true rfl, Nat.le_of_ble_eq_true rfl⟩) (z_preS hK hG hn hH4 hA) rfl rfl hl.1 rfl (lv_room (Nat.le_of_ble_eq_true rfl)) d_D_average_8 ⟨Nat.zero_le _, Nat.zero_le _⟩) hH4 hA (fun z12 w10 H8 lc9 hH11 p8 => ?_)
  obtain ⟨ew13, p8⟩ := p8
  rw [ew13] at hH11
  replace p8 : (z12 = 1 ∧ 0 ≤ ((ks : Int)) ∧ ((ks : Int)) < 4) ∨ (z12 = 0 ∧ ¬ (0 ≤ ((ks : Int)) ∧ ((ks : Int)) < 4)) := p8
  refine zv_if_ne (tgt := 16) hx hb d_D_average_11 rfl (by omega) (fun h14 => ?_) (fun h14 => absurd h14 (by omega))
  refine lv_aload_n hx hb d_D_average_16 rfl (lv_at hl 0 rfl) ?_
  refine zv_get (C := "ScaledNumeralDesk") (T := TD) (N := 7) hx hb hg uD_in hown hK hH11 q0lt c0 rfl 1 (by decide) (hg _ wm_129) (fun _ h9 => h9) rfl d_D_average_17 ?_
  refine lv_iload_n hx hb d_D_average_20 rfl (lv_at hl 2 rfl) ?_
  refine zv_aald (i := ks) hx hb hK hH11 q2lt c2 rfl (by omega) (by omega) (hfs ks (by omega)) d_D_average_21 ?_
  refine lv_aload_n hx hb d_D_average_22 rfl (lv_at hl 0 rfl) ?_
  refine zv_get (C := "ScaledNumeralDesk") (T := TD) (N := 7) hx hb hg uD_in hown hK hH11 q0lt c0 rfl 4 (by decide) (hg _ wm_132) (fun _ h9 => h9) rfl d_D_average_23 ?_
  refine z_calli (va_runV (As := [.ref (ad E 10)]) (rest := []) ⟨hx, hb, hml, hown, hts⟩ (c_S_result (l := l) (E := E) (w0 := w0) (y := 43 + 4 * ks) (sn := sn) (sz := sz) (sf := sf) (cn := cn) (q := 10) (kd := kt) (pl := plt) (ng := nt) (f := ft) (q0lt := q17lt) (q1lt := q18lt) (q2lt := q19lt) (q3lt := q20lt) (q4lt := q8lt) (q5lt := q9lt) (q6lt := q10lt) (c0 := c17) (c1 := c18) (c2 := c19) (c3 := c20) (c4 := c8) (c5 := c9) (c6 := c10) (bs := bs) (hsn := by omega) (bc := bc) (hsz := by omega) (bf := bft) (hkd := by omega) (hng := by omega) (hqy := by omega) H8.size) (z_cwV (C := "ScaledNumeralDesk$Sum") 1 hg wm_656 wm_653 wm_6 wm_654 wm_655 (by decide +kernel) ⟨Nat.le_of_ble_eq_true rfl, Nat.le_of_ble_eq_true rfl⟩) (z_preV (r := ("ScaledNumeralDesk$Sum", TS, 3)) hK hG hn hH11 hA q17lt c17 rfl) rfl rfl hl.1 rfl (lv_room (Nat.le_of_ble_eq_true rfl)) d_D_average_26 ⟨Nat.zero_le _, Nat.zero_le _⟩) hH11 hA (fun z26 w17 H15 lc16 hH18 p26 => ?_)
  obtain ⟨⟨k1, p1x, n1, f1, e19, e20, e21, bd22, p26⟩, hg23⟩ := p26
  replace bd22 : bd f1 15 0 9999 := bd22
  replace p26 : k1 < 4 ∧ (n1 = 0 ∨ n1 = 1) ∧ Nf z26 k1 p1x n1 (V f1 15) ∧ ((z26 = -6 ∧ Sm cn 28 = 0) ∨ (Sm cn 28 ≠ 0 ∧ ((z26 = 0 ∧ k1 = 3 ∧ (cn 25 ≠ 0 ∨ (cn 26 ≠ 0 ∧ cn 27 ≠ 0))) ∨ (cn 25 = 0 ∧ z26 = 0 ∧ k1 = 0 ∧ cn 26 = 0 ∧ cn 27 ≠ 0) ∨ (cn 25 = 0 ∧ z26 = 0 ∧ k1 = 2 ∧ cn 26 ≠ 0 ∧ cn 27 = 0) ∨ (cn 25 = 0 ∧ cn 26 = 0 ∧ cn 27 = 0 ∧ k1 = 1 ∧ ∃ g : Int, 0 ≤ g ∧ g ≤ 24 ∧ (g = 0 ∨ cn g ≠ 0) ∧ (∀ k : Int, g < k → k ≤ 24 → cn k = 0) ∧ p1x = g ∧ V f1 15 = Rn (V sf 15) (24 - g) % Bp 15 ∧ (V f1 15 = 0 → n1 = 0) ∧ (0 < V f1 15 → n1 = sn) ∧ ((z26 = -3 ∧ Tp 56 ≤ V f1 15) ∨ (z26 = 0 ∧ V f1 15 < Tp 56)))))) := p26
  have e24 : w17 0 = .inr (5, [.ref (ad E 1), .ref (ad E 2), .ref (ad E 3), .ref (ad E 5), .ref (ad E 10), .ref (ad E 13), .ref (ad E 16)]) := (hg23 0 (nx_D_average_0 hrd) (nx_D_average_1 hrd) (nx_D_average_2 hrd)).trans c0
  have e25 : w17 1 = zaq E 3 8 fq := (hg23 1 (nx_D_average_3 hrd) (nx_D_average_4 hrd) (nx_D_average_5 hrd)).trans c1
  have e26 : w17 2 = zaq E 4 4 fs := (hg23 2 (nx_D_average_6 hrd) (nx_D_average_7 hrd) (nx_D_average_8 hrd)).trans c2
  have e27 : w17 5 = .inr (4, [.ref (ad E (5 + 1)), .ref (ad E (5 + 2)), .ref (ad E (5 + 3)), .ref (ad E (5 + 4))]) := (hg23 5 (nx_D_average_9 hrd) (nx_D_average_10 hrd) (nx_D_average_11 hrd)).trans c3
  have e28 : w17 (5 + 1) = zar E 30 r1 := (hg23 (5 + 1) (nx_D_average_12 hrd) (nx_D_average_13 hrd) (nx_D_average_14 hrd)).trans c4
  have e29 : w17 (5 + 2) = zar E 30 r2 := (hg23 (5 + 2) (nx_D_average_15 hrd) (nx_D_average_16 hrd) (nx_D_average_17 hrd)).trans c5
  have e30 : w17 (5 + 3) = zar E 30 r3 := (hg23 (5 + 3) (nx_D_average_18 hrd) (nx_D_average_19 hrd) (nx_D_average_20 hrd)).trans c6
  have e31 : w17 (5 + 4) = zar E 30 r4 := (hg23 (5 + 4) (nx_D_average_21 hrd) (nx_D_average_22 hrd) (nx_D_average_23 hrd)).trans c7
  have e32 : w17 13 = .inr (1, [.ref (zg E (1 + kv)), .int (iI plv), .ref (ad E (13 + 1))]) := (hg23 13 (nx_D_average_24 hrd) (nx_D_average_25 hrd) (nx_D_average_26 hrd)).trans c11
  have e33 : w17 (13 + 1) = .inr (0, [.ref (ad E (13 + 2)), .int (iI nv)]) := (hg23 (13 + 1) (nx_D_average_27 hrd) (nx_D_average_28 hrd) (nx_D_average_29 hrd)).trans c12
  have e34 : w17 (13 + 2) = zar E 15 fv := (hg23 (13 + 2) (nx_D_average_30 hrd) (nx_D_average_31 hrd) (nx_D_average_32 hrd)).trans c13
  have e35 : w17 16 = .inr (1, [.ref (zg E (1 + kw)), .int (iI plw), .ref (ad E (16 + 1))]) := (hg23 16 (nx_D_average_33 hrd) (nx_D_average_34 hrd) (nx_D_average_35 hrd)).trans c14
  have e36 : w17 (16 + 1) = .inr (0, [.ref (ad E (16 + 2)), .int (iI nw)]) := (hg23 (16 + 1) (nx_D_average_36 hrd) (nx_D_average_37 hrd) (nx_D_average_38 hrd)).trans c15
  have e37 : w17 (16 + 2) = zar E 15 fw := (hg23 (16 + 2) (nx_D_average_39 hrd) (nx_D_average_40 hrd) (nx_D_average_41 hrd)).trans c16
  have e38 : w17 (43 + 4 * ks) = .inr (2, [.ref (ad E (43 + 4 * ks + 1)), .ref (ad E (43 + 4 * ks + 3)), .int (iI sz)]) := (hg23 (43 + 4 * ks) (nx_D_average_42 hrd) (nx_D_average_43 hrd) (nx_D_average_44 hrd)).trans c17
  have e39 : w17 (43 + 4 * ks + 1) = .inr (0, [.ref (ad E (43 + 4 * ks + 2)), .int (iI sn)]) := (hg23 (43 + 4 * ks + 1) (nx_D_average_45 hrd) (nx_D_average_46 hrd) (nx_D_average_47 hrd)).trans c18
  have e40 : w17 (43 + 4 * ks + 2) = zar E 15 sf := (hg23 (43 + 4 * ks + 2) (nx_D_average_48 hrd) (nx_D_average_49 hrd) (nx_D_average_50 hrd)).trans c19
  have e41 : w17 (43 + 4 * ks + 3) = zar E 28 cn := (hg23 (43 + 4 * ks + 3) (nx_D_average_51 hrd) (nx_D_average_52 hrd) (nx_D_average_53 hrd)).trans c20
  have e42 : w17 (19 + 3 * rd) = .inr (1, [.ref (zg E (1 + kd)), .int (iI pld), .ref (ad E (19 + 3 * rd + 1))]) := (hg23 (19 + 3 * rd) (nx_D_average_54 hrd) (nx_D_average_55 hrd) (nx_D_average_56 hrd)).trans c21
  have e43 : w17 (19 + 3 * rd + 1) = .inr (0, [.ref (ad E (19 + 3 * rd + 2)), .int (iI nd)]) := (hg23 (19 + 3 * rd + 1) (nx_D_average_57 hrd) (nx_D_average_58 hrd) (nx_D_average_59 hrd)).trans c22
  have e44 : w17 (19 + 3 * rd + 2) = zar E 15 fd := (hg23 (19 + 3 * rd + 2) (nx_D_average_60 hrd) (nx_D_average_61 hrd) (nx_D_average_62 hrd)).trans c23
  have hf45 : ∀ k, k ≠ 10 → k ≠ (10 + 1) → k ≠ (10 + 2) → w17 k = w0 k := fun k g0 g1 g2 => hg23 k g0 g1 g2
  replace p26 : k1 < 4 ∧ (n1 = 0 ∨ n1 = 1) ∧ Nf z26 k1 p1x n1 (V f1 15) ∧ SrR z26 k1 p1x n1 (V f1 15) sn (V sf 15) cn := p26
  have sr := p26.2.2.2
  have z9 := SrR_z sr
  refine lv_istore_n (lv' := [(3, .int (iI z26)), (0, .ref (ad E 0)), (1, .int (iI ((rd : Int)))), (2, .int (iI ((ks : Int))))]) hx hb d_D_average_29 rfl hl (by decide) rfl (fun ls hl => ?_)
  refine lv_iload_n hx hb d_D_average_30 rfl (lv_at hl 0 rfl) ?_
  refine zv_if_ne (tgt := 92) hx hb d_D_average_31 rfl (by omega) (fun h46 => ?_) (fun h46 => ?_)
  · refine lv_aload_n hx hb d_D_average_92 rfl (lv_at hl 1 rfl) ?_
    refine lv_iload_n hx hb d_D_average_93 rfl (lv_at hl 2 rfl) ?_
    refine lv_iload_n hx hb d_D_average_94 rfl (lv_at hl 0 rfl) ?_
    refine z_calli (va_runV (As := [.int (iI ((rd : Int))), .int (iI z26)]) (rest := []) ⟨hx, hb, hml, hown, hts⟩ (c_D_store (l := l) (E := E) (w0 := w17) (fq := fq) (kt := k1) (plt := p1x) (nt := n1) (ft := f1) (rd := rd) (kd := kd) (pld := pld) (nd := nd) (fd := fd) (an := z26) (hzn := hzn) (c0 := e24) (c1 := e25) (c2 := e19) (c3 := e20) (c4 := e21) (c5 := e42) (c6 := e43) (c7 := e44) (hfq := hfq) (bft := bd22) (hkt := by omega) (hnt := by omega) (bfd := bfd) (hkd := by omega) (hnd := by omega) (hrd := by omega) (han := by omega) H15.size) (z_cwV (C := "ScaledNumeralDesk") 2 hg wm_320 wm_317 wm_1 wm_319 wm_s8 (by decide +kernel) ⟨Nat.le_of_ble_eq_true rfl, Nat.le_of_ble_eq_true rfl⟩) (z_preV (r := ("ScaledNumeralDesk", TD, 7)) hK hG hn hH18 hA q0lt e24 rfl) rfl rfl hl.1 rfl (lv_room (Nat.le_of_ble_eq_true rfl)) d_D_average_95 ⟨Nat.zero_le _, Nat.zero_le _⟩) hH18 hA (fun z51 w49 H47 lc48 hH50 p95 => ?_)
    obtain ⟨⟨k_52, p_53, n_54, f_55, e56, e57, e58, bd59, p95⟩, hg60⟩ := p95
    replace bd59 : bd f_55 15 0 9999 := bd59
    replace p95 : z51 = z26 ∧ StoR z26 k1 p1x n1 (V f1 15) kd pld nd (V fd 15) k_52 p_53 n_54 (V f_55 15) := p95
    have e61 : w49 0 = .inr (5, [.ref (ad E 1), .ref (ad E 2), .ref (ad E 3), .ref (ad E 5), .ref (ad E 10), .ref (ad E 13), .ref (ad E 16)]) := (hg60 0 (nx_D_average_63 hrd) (nx_D_average_64 hrd) (nx_D_average_65 hrd)).trans e24
    have e62 : w49 1 = zaq E 3 8 fq := (hg60 1 (nx_D_average_66 hrd) (nx_D_average_67 hrd) (nx_D_average_68 hrd)).trans e25
    have e63 : w49 2 = zaq E 4 4 fs := (hg60 2 (nx_D_average_69 hrd) (nx_D_average_70 hrd) (nx_D_average_71 hrd)).trans e26
    have e64 : w49 5 = .inr (4, [.ref (ad E (5 + 1)), .ref (ad E (5 + 2)), .ref (ad E (5 + 3)), .ref (ad E (5 + 4))]) := (hg60 5 (nx_D_average_72 hrd) (nx_D_average_73 hrd) (nx_D_average_74 hrd)).trans e27
    have e65 : w49 (5 + 1) = zar E 30 r1 := (hg60 (5 + 1) (nx_D_average_75 hrd) (nx_D_average_76 hrd) (nx_D_average_77 hrd)).trans e28
    have e66 : w49 (5 + 2) = zar E 30 r2 := (hg60 (5 + 2) (nx_D_average_78 hrd) (nx_D_average_79 hrd) (nx_D_average_80 hrd)).trans e29
    have e67 : w49 (5 + 3) = zar E 30 r3 := (hg60 (5 + 3) (nx_D_average_81 hrd) (nx_D_average_82 hrd) (nx_D_average_83 hrd)).trans e30
    have e68 : w49 (5 + 4) = zar E 30 r4 := (hg60 (5 + 4) (nx_D_average_84 hrd) (nx_D_average_85 hrd) (nx_D_average_86 hrd)).trans e31
    have e69 : w49 10 = .inr (1, [.ref (zg E (1 + k1)), .int (iI p1x), .ref (ad E (10 + 1))]) := (hg60 10 (nx_D_average_87 hrd) (nx_D_average_88 hrd) (nx_D_average_89 hrd)).trans e19
    have e70 : w49 (10 + 1) = .inr (0, [.ref (ad E (10 + 2)), .int (iI n1)]) := (hg60 (10 + 1) (nx_D_average_90 hrd) (nx_D_average_91 hrd) (nx_D_average_92 hrd)).trans e20
    have e71 : w49 (10 + 2) = zar E 15 f1 := (hg60 (10 + 2) (nx_D_average_93 hrd) (nx_D_average_94 hrd) (nx_D_average_95 hrd)).trans e21
    have e72 : w49 13 = .inr (1, [.ref (zg E (1 + kv)), .int (iI plv), .ref (ad E (13 + 1))]) := (hg60 13 (nx_D_average_96 hrd) (nx_D_average_97 hrd) (nx_D_average_98 hrd)).trans e32
    have e73 : w49 (13 + 1) = .inr (0, [.ref (ad E (13 + 2)), .int (iI nv)]) := (hg60 (13 + 1) (nx_D_average_99 hrd) (nx_D_average_100 hrd) (nx_D_average_101 hrd)).trans e33
    have e74 : w49 (13 + 2) = zar E 15 fv := (hg60 (13 + 2) (nx_D_average_102 hrd) (nx_D_average_103 hrd) (nx_D_average_104 hrd)).trans e34
    have e75 : w49 16 = .inr (1, [.ref (zg E (1 + kw)), .int (iI plw), .ref (ad E (16 + 1))]) := (hg60 16 (nx_D_average_105 hrd) (nx_D_average_106 hrd) (nx_D_average_107 hrd)).trans e35
    have e76 : w49 (16 + 1) = .inr (0, [.ref (ad E (16 + 2)), .int (iI nw)]) := (hg60 (16 + 1) (nx_D_average_108 hrd) (nx_D_average_109 hrd) (nx_D_average_110 hrd)).trans e36
    have e77 : w49 (16 + 2) = zar E 15 fw := (hg60 (16 + 2) (nx_D_average_111 hrd) (nx_D_average_112 hrd) (nx_D_average_113 hrd)).trans e37
    have e78 : w49 (43 + 4 * ks) = .inr (2, [.ref (ad E (43 + 4 * ks + 1)), .ref (ad E (43 + 4 * ks + 3)), .int (iI sz)]) := (hg60 (43 + 4 * ks) (nx_D_average_114 hrd) (nx_D_average_115 hrd) (nx_D_average_116 hrd)).trans e38
    have e79 : w49 (43 + 4 * ks + 1) = .inr (0, [.ref (ad E (43 + 4 * ks + 2)), .int (iI sn)]) := (hg60 (43 + 4 * ks + 1) (nx_D_average_117 hrd) (nx_D_average_118 hrd) (nx_D_average_119 hrd)).trans e39
    have e80 : w49 (43 + 4 * ks + 2) = zar E 15 sf := (hg60 (43 + 4 * ks + 2) (nx_D_average_120 hrd) (nx_D_average_121 hrd) (nx_D_average_122 hrd)).trans e40
    have e81 : w49 (43 + 4 * ks + 3) = zar E 28 cn := (hg60 (43 + 4 * ks + 3) (nx_D_average_123 hrd) (nx_D_average_124 hrd) (nx_D_average_125 hrd)).trans e41
    have hf82 : ∀ k, k ≠ 10 → k ≠ (10 + 1) → k ≠ (10 + 2) → k ≠ (19 + 3 * rd) → k ≠ (19 + 3 * rd + 1) → k ≠ (19 + 3 * rd + 2) → w49 k = w0 k := fun k g0 g1 g2 g3 g4 g5 => (hg60 k g3 g4 g5).trans (hf45 k g0 g1 g2)
    rw [hQ]
    exact z_iret hx hb hr hlk hH50 (⟨⟨r1, r2, k1, p1x, n1, f1, kv, plv, nv, fv, kw, plw, nw, fw, k_52, p_53, n_54, f_55, e65, e66, e69, e70, e71, e72, e73, e74, e75, e76, e77, e56, e57, e58, br1, br2, bd22, bfv, bfw, bd59, by rw [p95.1]; exact ⟨p26.1, p26.2.1, hkv, hnv, hkw, hnw, p26.2.2.1, ⟨z26, k1, p1x, n1, V f1 15, p26.1, p26.2.1, sr, Or.inl ⟨by omega, rfl, rfl, rfl, rfl, rfl⟩⟩, p95.2⟩⟩, (fun k g0 g1 g2 g3 g4 g5 g6 g7 g8 g9 g10 g11 g12 g13 => hf82 k g2 g3 g4 g11 g12 g13)⟩) d_D_average_98
  · refine lv_aload_n hx hb d_D_average_34 rfl (lv_at hl 1 rfl) ?_
    refine zv_get (C := "ScaledNumeralDesk") (T := TD) (N := 7) hx hb hg uD_in hown hK hH18 q0lt e24 rfl 4 (by decide) (hg _ wm_132) (fun _ h9 => h9) rfl d_D_average_35 ?_
    refine z_calli (va_runV (As := []) (rest := []) ⟨hx, hb, hml, hown, hts⟩ (c_N_isFinite (l := l) (E := E) (w0 := w17) (q := 10) (kd := k1) (pl := p1x) (ng := n1) (f := f1) (q0lt := q8lt) (q1lt := q9lt) (q2lt := q10lt) (c0 := e19) (c1 := e20) (c2 := e21) (bf := bd22) (hkd := by omega) (hng := by omega) H15.size) (z_cwV (C := "ScaledNumeralDesk$Numeral") 0 hg wm_344 wm_368 wm_2 wm_342 wm_343 (by decide +kernel) ⟨Nat.le_of_ble_eq_true rfl, Nat.le_of_ble_eq_true rfl⟩) (z_preV (r := ("ScaledNumeralDesk$Numeral", TN, 3)) hK hG hn hH18 hA q8lt e19 rfl) rfl rfl hl.1 rfl (lv_room (Nat.le_of_ble_eq_true rfl)) d_D_average_38 ⟨Nat.zero_le _, Nat.zero_le _⟩) hH18 hA (fun z87 w85 H83 lc84 hH86 p38 => ?_)
    obtain ⟨ew88, p38⟩ := p38
    rw [ew88] at hH86
    replace p38 : (z87 = 1 ∧ k1 = 1) ∨ (z87 = 0 ∧ k1 ≠ 1) := p38
    refine zv_if_eq (tgt := 92) hx hb d_D_average_41 rfl (by omega) (fun h89 => ?_) (fun h89 => ?_)
    · refine lv_aload_n hx hb d_D_average_92 rfl (lv_at hl 1 rfl) ?_
      refine lv_iload_n hx hb d_D_average_93 rfl (lv_at hl 2 rfl) ?_
      refine lv_iload_n hx hb d_D_average_94 rfl (lv_at hl 0 rfl) ?_
      refine z_calli (va_runV (As := [.int (iI ((rd : Int))), .int (iI z26)]) (rest := []) ⟨hx, hb, hml, hown, hts⟩ (c_D_store (l := l) (E := E) (w0 := w17) (fq := fq) (kt := k1) (plt := p1x) (nt := n1) (ft := f1) (rd := rd) (kd := kd) (pld := pld) (nd := nd) (fd := fd) (an := z26) (hzn := hzn) (c0 := e24) (c1 := e25) (c2 := e19) (c3 := e20) (c4 := e21) (c5 := e42) (c6 := e43) (c7 := e44) (hfq := hfq) (bft := bd22) (hkt := by omega) (hnt := by omega) (bfd := bfd) (hkd := by omega) (hnd := by omega) (hrd := by omega) (han := by omega) H83.size) (z_cwV (C := "ScaledNumeralDesk") 2 hg wm_320 wm_317 wm_1 wm_319 wm_s8 (by decide +kernel) ⟨Nat.le_of_ble_eq_true rfl, Nat.le_of_ble_eq_true rfl⟩) (z_preV (r := ("ScaledNumeralDesk", TD, 7)) hK hG hn hH86 hA q0lt e24 rfl) rfl rfl hl.1 rfl (lv_room (Nat.le_of_ble_eq_true rfl)) d_D_average_95 ⟨Nat.zero_le _, Nat.zero_le _⟩) hH86 hA (fun z94 w92 H90 lc91 hH93 p95 => ?_)
      obtain ⟨⟨k_95, p_96, n_97, f_98, e99, e100, e101, bd102, p95⟩, hg103⟩ := p95
      replace bd102 : bd f_98 15 0 9999 := bd102
      replace p95 : z94 = z26 ∧ StoR z26 k1 p1x n1 (V f1 15) kd pld nd (V fd 15) k_95 p_96 n_97 (V f_98 15) := p95
      have e104 : w92 0 = .inr (5, [.ref (ad E 1), .ref (ad E 2), .ref (ad E 3), .ref (ad E 5), .ref (ad E 10), .ref (ad E 13), .ref (ad E 16)]) := (hg103 0 (nx_D_average_63 hrd) (nx_D_average_64 hrd) (nx_D_average_65 hrd)).trans e24
      have e105 : w92 1 = zaq E 3 8 fq := (hg103 1 (nx_D_average_66 hrd) (nx_D_average_67 hrd) (nx_D_average_68 hrd)).trans e25
      have e106 : w92 2 = zaq E 4 4 fs := (hg103 2 (nx_D_average_69 hrd) (nx_D_average_70 hrd) (nx_D_average_71 hrd)).trans e26
      have e107 : w92 5 = .inr (4, [.ref (ad E (5 + 1)), .ref (ad E (5 + 2)), .ref (ad E (5 + 3)), .ref (ad E (5 + 4))]) := (hg103 5 (nx_D_average_72 hrd) (nx_D_average_73 hrd) (nx_D_average_74 hrd)).trans e27
      have e108 : w92 (5 + 1) = zar E 30 r1 := (hg103 (5 + 1) (nx_D_average_75 hrd) (nx_D_average_76 hrd) (nx_D_average_77 hrd)).trans e28
      have e109 : w92 (5 + 2) = zar E 30 r2 := (hg103 (5 + 2) (nx_D_average_78 hrd) (nx_D_average_79 hrd) (nx_D_average_80 hrd)).trans e29
      have e110 : w92 (5 + 3) = zar E 30 r3 := (hg103 (5 + 3) (nx_D_average_81 hrd) (nx_D_average_82 hrd) (nx_D_average_83 hrd)).trans e30
      have e111 : w92 (5 + 4) = zar E 30 r4 := (hg103 (5 + 4) (nx_D_average_84 hrd) (nx_D_average_85 hrd) (nx_D_average_86 hrd)).trans e31
      have e112 : w92 10 = .inr (1, [.ref (zg E (1 + k1)), .int (iI p1x), .ref (ad E (10 + 1))]) := (hg103 10 (nx_D_average_87 hrd) (nx_D_average_88 hrd) (nx_D_average_89 hrd)).trans e19
      have e113 : w92 (10 + 1) = .inr (0, [.ref (ad E (10 + 2)), .int (iI n1)]) := (hg103 (10 + 1) (nx_D_average_90 hrd) (nx_D_average_91 hrd) (nx_D_average_92 hrd)).trans e20
      have e114 : w92 (10 + 2) = zar E 15 f1 := (hg103 (10 + 2) (nx_D_average_93 hrd) (nx_D_average_94 hrd) (nx_D_average_95 hrd)).trans e21
      have e115 : w92 13 = .inr (1, [.ref (zg E (1 + kv)), .int (iI plv), .ref (ad E (13 + 1))]) := (hg103 13 (nx_D_average_96 hrd) (nx_D_average_97 hrd) (nx_D_average_98 hrd)).trans e32
      have e116 : w92 (13 + 1) = .inr (0, [.ref (ad E (13 + 2)), .int (iI nv)]) := (hg103 (13 + 1) (nx_D_average_99 hrd) (nx_D_average_100 hrd) (nx_D_average_101 hrd)).trans e33
      have e117 : w92 (13 + 2) = zar E 15 fv := (hg103 (13 + 2) (nx_D_average_102 hrd) (nx_D_average_103 hrd) (nx_D_average_104 hrd)).trans e34
      have e118 : w92 16 = .inr (1, [.ref (zg E (1 + kw)), .int (iI plw), .ref (ad E (16 + 1))]) := (hg103 16 (nx_D_average_105 hrd) (nx_D_average_106 hrd) (nx_D_average_107 hrd)).trans e35
      have e119 : w92 (16 + 1) = .inr (0, [.ref (ad E (16 + 2)), .int (iI nw)]) := (hg103 (16 + 1) (nx_D_average_108 hrd) (nx_D_average_109 hrd) (nx_D_average_110 hrd)).trans e36
      have e120 : w92 (16 + 2) = zar E 15 fw := (hg103 (16 + 2) (nx_D_average_111 hrd) (nx_D_average_112 hrd) (nx_D_average_113 hrd)).trans e37
      have e121 : w92 (43 + 4 * ks) = .inr (2, [.ref (ad E (43 + 4 * ks + 1)), .ref (ad E (43 + 4 * ks + 3)), .int (iI sz)]) := (hg103 (43 + 4 * ks) (nx_D_average_114 hrd) (nx_D_average_115 hrd) (nx_D_average_116 hrd)).trans e38
      have e122 : w92 (43 + 4 * ks + 1) = .inr (0, [.ref (ad E (43 + 4 * ks + 2)), .int (iI sn)]) := (hg103 (43 + 4 * ks + 1) (nx_D_average_117 hrd) (nx_D_average_118 hrd) (nx_D_average_119 hrd)).trans e39
      have e123 : w92 (43 + 4 * ks + 2) = zar E 15 sf := (hg103 (43 + 4 * ks + 2) (nx_D_average_120 hrd) (nx_D_average_121 hrd) (nx_D_average_122 hrd)).trans e40
      have e124 : w92 (43 + 4 * ks + 3) = zar E 28 cn := (hg103 (43 + 4 * ks + 3) (nx_D_average_123 hrd) (nx_D_average_124 hrd) (nx_D_average_125 hrd)).trans e41
      have hf125 : ∀ k, k ≠ 10 → k ≠ (10 + 1) → k ≠ (10 + 2) → k ≠ (19 + 3 * rd) → k ≠ (19 + 3 * rd + 1) → k ≠ (19 + 3 * rd + 2) → w92 k = w0 k := fun k g0 g1 g2 g3 g4 g5 => (hg103 k g3 g4 g5).trans (hf45 k g0 g1 g2)
      rw [hQ]
      exact z_iret hx hb hr hlk hH93 (⟨⟨r1, r2, k1, p1x, n1, f1, kv, plv, nv, fv, kw, plw, nw, fw, k_95, p_96, n_97, f_98, e108, e109, e112, e113, e114, e115, e116, e117, e118, e119, e120, e99, e100, e101, br1, br2, bd22, bfv, bfw, bd102, by rw [p95.1]; exact ⟨p26.1, p26.2.1, hkv, hnv, hkw, hnw, p26.2.2.1, ⟨z26, k1, p1x, n1, V f1 15, p26.1, p26.2.1, sr, Or.inl ⟨by omega, rfl, rfl, rfl, rfl, rfl⟩⟩, p95.2⟩⟩, (fun k g0 g1 g2 g3 g4 g5 g6 g7 g8 g9 g10 g11 g12 g13 => hf125 k g2 g3 g4 g11 g12 g13)⟩) d_D_average_98
    · refine lv_aload_n hx hb d_D_average_44 rfl (lv_at hl 1 rfl) ?_
      refine zv_get (C := "ScaledNumeralDesk") (T := TD) (N := 7) hx hb hg uD_in hown hK hH86 q0lt e24 rfl 5 (by decide) (hg _ wm_133) (fun _ h9 => h9) rfl d_D_average_45 ?_
      refine lv_aload_n hx hb d_D_average_48 rfl (lv_at hl 1 rfl) ?_
      refine zv_get (C := "ScaledNumeralDesk") (T := TD) (N := 7) hx hb hg uD_in hown hK hH86 q0lt e24 rfl 4 (by decide) (hg _ wm_132) (fun _ h9 => h9) rfl d_D_average_49 ?_
      refine z_callv (va_runV (As := [.ref (ad E 10)]) (rest := []) ⟨hx, hb, hml, hown, hts⟩ (c_N_take (l := l) (E := E) (w0 := w17) (q := 13) (r := 10) (kd := kv) (ko := k1) (pl := plv) (po := p1x) (ng := nv) (no := n1) (f := fv) (g := f1) (q0lt := q11lt) (q1lt := q12lt) (q2lt := q13lt) (q3lt := q8lt) (q4lt := q9lt) (q5lt := q10lt) (c0 := e32) (c1 := e33) (c2 := e34) (c3 := e19) (c4 := e20) (c5 := e21) (bf := bfv) (hkd := by omega) (hng := by omega) (bg := bd22) (hko := by omega) (hno := by omega) (hqr := by omega) H83.size) (z_cwV (C := "ScaledNumeralDesk$Numeral") 1 hg wm_324 wm_321 wm_2 wm_322 wm_323 (by decide +kernel) ⟨Nat.le_of_ble_eq_true rfl, Nat.le_of_ble_eq_true rfl⟩) (z_preV (r := ("ScaledNumeralDesk$Numeral", TN, 3)) hK hG hn hH86 hA q11lt e32 rfl) rfl rfl hl.1 rfl (lv_room (Nat.le_of_ble_eq_true rfl)) d_D_average_52 ⟨Nat.zero_le _, Nat.zero_le _⟩) hH86 hA (fun  w128 H126 lc127 hH129 p52 => ?_)
      obtain ⟨⟨f2, e130, e131, e132, bd133, p52⟩, hg134⟩ := p52
      replace bd133 : bd f2 15 0 9999 := bd133
      replace p52 : V f2 15 = V f1 15 := p52
      have e135 : w128 0 = .inr (5, [.ref (ad E 1), .ref (ad E 2), .ref (ad E 3), .ref (ad E 5), .ref (ad E 10), .ref (ad E 13), .ref (ad E 16)]) := (hg134 0 (nx_D_average_126 hrd) (nx_D_average_127 hrd) (nx_D_average_128 hrd)).trans e24
      have e136 : w128 1 = zaq E 3 8 fq := (hg134 1 (nx_D_average_129 hrd) (nx_D_average_130 hrd) (nx_D_average_131 hrd)).trans e25
      have e137 : w128 2 = zaq E 4 4 fs := (hg134 2 (nx_D_average_132 hrd) (nx_D_average_133 hrd) (nx_D_average_134 hrd)).trans e26
      have e138 : w128 5 = .inr (4, [.ref (ad E (5 + 1)), .ref (ad E (5 + 2)), .ref (ad E (5 + 3)), .ref (ad E (5 + 4))]) := (hg134 5 (nx_D_average_135 hrd) (nx_D_average_136 hrd) (nx_D_average_137 hrd)).trans e27
      have e139 : w128 (5 + 1) = zar E 30 r1 := (hg134 (5 + 1) (nx_D_average_138 hrd) (nx_D_average_139 hrd) (nx_D_average_140 hrd)).trans e28
      have e140 : w128 (5 + 2) = zar E 30 r2 := (hg134 (5 + 2) (nx_D_average_141 hrd) (nx_D_average_142 hrd) (nx_D_average_143 hrd)).trans e29
      have e141 : w128 (5 + 3) = zar E 30 r3 := (hg134 (5 + 3) (nx_D_average_144 hrd) (nx_D_average_145 hrd) (nx_D_average_146 hrd)).trans e30
      have e142 : w128 (5 + 4) = zar E 30 r4 := (hg134 (5 + 4) (nx_D_average_147 hrd) (nx_D_average_148 hrd) (nx_D_average_149 hrd)).trans e31
      have e143 : w128 10 = .inr (1, [.ref (zg E (1 + k1)), .int (iI p1x), .ref (ad E (10 + 1))]) := (hg134 10 (nx_D_average_150 hrd) (nx_D_average_151 hrd) (nx_D_average_152 hrd)).trans e19
      have e144 : w128 (10 + 1) = .inr (0, [.ref (ad E (10 + 2)), .int (iI n1)]) := (hg134 (10 + 1) (nx_D_average_153 hrd) (nx_D_average_154 hrd) (nx_D_average_155 hrd)).trans e20
      have e145 : w128 (10 + 2) = zar E 15 f1 := (hg134 (10 + 2) (nx_D_average_156 hrd) (nx_D_average_157 hrd) (nx_D_average_158 hrd)).trans e21
      have e146 : w128 16 = .inr (1, [.ref (zg E (1 + kw)), .int (iI plw), .ref (ad E (16 + 1))]) := (hg134 16 (nx_D_average_159 hrd) (nx_D_average_160 hrd) (nx_D_average_161 hrd)).trans e35
      have e147 : w128 (16 + 1) = .inr (0, [.ref (ad E (16 + 2)), .int (iI nw)]) := (hg134 (16 + 1) (nx_D_average_162 hrd) (nx_D_average_163 hrd) (nx_D_average_164 hrd)).trans e36
      have e148 : w128 (16 + 2) = zar E 15 fw := (hg134 (16 + 2) (nx_D_average_165 hrd) (nx_D_average_166 hrd) (nx_D_average_167 hrd)).trans e37
      have e149 : w128 (43 + 4 * ks) = .inr (2, [.ref (ad E (43 + 4 * ks + 1)), .ref (ad E (43 + 4 * ks + 3)), .int (iI sz)]) := (hg134 (43 + 4 * ks) (nx_D_average_168 hrd) (nx_D_average_169 hrd) (nx_D_average_170 hrd)).trans e38
      have e150 : w128 (43 + 4 * ks + 1) = .inr (0, [.ref (ad E (43 + 4 * ks + 2)), .int (iI sn)]) := (hg134 (43 + 4 * ks + 1) (nx_D_average_171 hrd) (nx_D_average_172 hrd) (nx_D_average_173 hrd)).trans e39
      have e151 : w128 (43 + 4 * ks + 2) = zar E 15 sf := (hg134 (43 + 4 * ks + 2) (nx_D_average_174 hrd) (nx_D_average_175 hrd) (nx_D_average_176 hrd)).trans e40
      have e152 : w128 (43 + 4 * ks + 3) = zar E 28 cn := (hg134 (43 + 4 * ks + 3) (nx_D_average_177 hrd) (nx_D_average_178 hrd) (nx_D_average_179 hrd)).trans e41
      have e153 : w128 (19 + 3 * rd) = .inr (1, [.ref (zg E (1 + kd)), .int (iI pld), .ref (ad E (19 + 3 * rd + 1))]) := (hg134 (19 + 3 * rd) (nx_D_average_180 hrd) (nx_D_average_181 hrd) (nx_D_average_182 hrd)).trans e42
      have e154 : w128 (19 + 3 * rd + 1) = .inr (0, [.ref (ad E (19 + 3 * rd + 2)), .int (iI nd)]) := (hg134 (19 + 3 * rd + 1) (nx_D_average_183 hrd) (nx_D_average_184 hrd) (nx_D_average_185 hrd)).trans e43
      have e155 : w128 (19 + 3 * rd + 2) = zar E 15 fd := (hg134 (19 + 3 * rd + 2) (nx_D_average_186 hrd) (nx_D_average_187 hrd) (nx_D_average_188 hrd)).trans e44
      have hf156 : ∀ k, k ≠ 10 → k ≠ (10 + 1) → k ≠ (10 + 2) → k ≠ 13 → k ≠ (13 + 1) → k ≠ (13 + 2) → w128 k = w0 k := fun k g0 g1 g2 g3 g4 g5 => (hg134 k g3 g4 g5).trans (hf45 k g0 g1 g2)
      have srf := SrR_f sr (by omega) (by omega)
      rw [← p52] at srf
      refine lv_aload_n hx hb d_D_average_55 rfl (lv_at hl 1 rfl) ?_
      refine zv_get (C := "ScaledNumeralDesk") (T := TD) (N := 7) hx hb hg uD_in hown hK hH129 q0lt e135 rfl 6 (by decide) (hg _ wm_134) (fun _ h9 => h9) rfl d_D_average_56 ?_
      refine lv_aload_n hx hb d_D_average_59 rfl (lv_at hl 1 rfl) ?_
      refine zv_get (C := "ScaledNumeralDesk") (T := TD) (N := 7) hx hb hg uD_in hown hK hH129 q0lt e135 rfl 1 (by decide) (hg _ wm_129) (fun _ h9 => h9) rfl d_D_average_60 ?_
      refine lv_iload_n hx hb d_D_average_63 rfl (lv_at hl 3 rfl) ?_
      refine zv_aald (i := ks) hx hb hK hH129 q2lt e137 rfl (by omega) (by omega) (hfs ks (by omega)) d_D_average_64 ?_
      refine z_calli (va_runV (As := []) (rest := [.ref (ad E 16)]) ⟨hx, hb, hml, hown, hts⟩ (c_S_members (l := l) (E := E) (w0 := w128) (y := 43 + 4 * ks) (sn := sn) (sz := sz) (sf := sf) (cn := cn) (q0lt := q17lt) (q1lt := q18lt) (q2lt := q19lt) (q3lt := q20lt) (c0 := e149) (c1 := e150) (c2 := e151) (c3 := e152) (bs := bs) (hsn := by omega) (bc := bc) (hsz := by omega) H126.size) (z_cwV (C := "ScaledNumeralDesk$Sum") 0 hg wm_648 wm_645 wm_6 wm_646 wm_647 (by decide +kernel) ⟨Nat.le_of_ble_eq_true rfl, Nat.le_of_ble_eq_true rfl⟩) (z_preV (r := ("ScaledNumeralDesk$Sum", TS, 3)) hK hG hn hH129 hA q17lt e149 rfl) rfl rfl hl.1 rfl (lv_room (Nat.le_of_ble_eq_true rfl)) d_D_average_65 ⟨Nat.zero_le _, Nat.zero_le _⟩) hH129 hA (fun z65 w159 H157 lc158 hH160 p65 => ?_)
      obtain ⟨ew161, p65⟩ := p65
      rw [ew161] at hH160
      replace p65 : z65 = Sm cn 28 ∧ 0 ≤ z65 ∧ z65 ≤ 28000 := p65
      have hm9 : z65 ≤ 1000 := by rw [p65.1]; exact hcs
      refine z_callv (va_runV (As := [.int (iI z65)]) (rest := []) ⟨hx, hb, hml, hown, hts⟩ (c_N_becomeSmall (l := l) (E := E) (w0 := w128) (q := 16) (kd := kw) (pl := plw) (ng := nw) (x := z65) (f := fw) (q0lt := q14lt) (q1lt := q15lt) (q2lt := q16lt) (c0 := e146) (c1 := e147) (c2 := e148) (bf := bfw) (hkd := by omega) (hng := by omega) (hx0 := by omega) H157.size) (z_cwV (C := "ScaledNumeralDesk$Numeral") 1 hg wm_675 wm_672 wm_2 wm_673 wm_674 (by decide +kernel) ⟨Nat.le_of_ble_eq_true rfl, Nat.le_of_ble_eq_true rfl⟩) (z_preV (r := ("ScaledNumeralDesk$Numeral", TN, 3)) hK hG hn hH160 hA q14lt e146 rfl) rfl rfl hl.1 rfl (lv_room (Nat.le_of_ble_eq_true rfl)) d_D_average_68 ⟨Nat.zero_le _, Nat.zero_le _⟩) hH160 hA (fun  w164 H162 lc163 hH165 p68 => ?_)
      obtain ⟨⟨f3, e166, e167, e168, bd169, p68⟩, hg170⟩ := p68
      replace bd169 : bd f3 15 0 9999 := bd169
      replace p68 : V f3 15 = z65 * Bp 6 := p68
      have e171 : w164 0 = .inr (5, [.ref (ad E 1), .ref (ad E 2), .ref (ad E 3), .ref (ad E 5), .ref (ad E 10), .ref (ad E 13), .ref (ad E 16)]) := (hg170 0 (nx_D_average_189 hrd) (nx_D_average_190 hrd) (nx_D_average_191 hrd)).trans e135
      have e172 : w164 1 = zaq E 3 8 fq := (hg170 1 (nx_D_average_192 hrd) (nx_D_average_193 hrd) (nx_D_average_194 hrd)).trans e136
      have e173 : w164 2 = zaq E 4 4 fs := (hg170 2 (nx_D_average_195 hrd) (nx_D_average_196 hrd) (nx_D_average_197 hrd)).trans e137
      have e174 : w164 5 = .inr (4, [.ref (ad E (5 + 1)), .ref (ad E (5 + 2)), .ref (ad E (5 + 3)), .ref (ad E (5 + 4))]) := (hg170 5 (nx_D_average_198 hrd) (nx_D_average_199 hrd) (nx_D_average_200 hrd)).trans e138
      have e175 : w164 (5 + 1) = zar E 30 r1 := (hg170 (5 + 1) (nx_D_average_201 hrd) (nx_D_average_202 hrd) (nx_D_average_203 hrd)).trans e139
      have e176 : w164 (5 + 2) = zar E 30 r2 := (hg170 (5 + 2) (nx_D_average_204 hrd) (nx_D_average_205 hrd) (nx_D_average_206 hrd)).trans e140
      have e177 : w164 (5 + 3) = zar E 30 r3 := (hg170 (5 + 3) (nx_D_average_207 hrd) (nx_D_average_208 hrd) (nx_D_average_209 hrd)).trans e141
      have e178 : w164 (5 + 4) = zar E 30 r4 := (hg170 (5 + 4) (nx_D_average_210 hrd) (nx_D_average_211 hrd) (nx_D_average_212 hrd)).trans e142
      have e179 : w164 10 = .inr (1, [.ref (zg E (1 + k1)), .int (iI p1x), .ref (ad E (10 + 1))]) := (hg170 10 (nx_D_average_213 hrd) (nx_D_average_214 hrd) (nx_D_average_215 hrd)).trans e143
      have e180 : w164 (10 + 1) = .inr (0, [.ref (ad E (10 + 2)), .int (iI n1)]) := (hg170 (10 + 1) (nx_D_average_216 hrd) (nx_D_average_217 hrd) (nx_D_average_218 hrd)).trans e144
      have e181 : w164 (10 + 2) = zar E 15 f1 := (hg170 (10 + 2) (nx_D_average_219 hrd) (nx_D_average_220 hrd) (nx_D_average_221 hrd)).trans e145
      have e182 : w164 13 = .inr (1, [.ref (zg E (1 + k1)), .int (iI p1x), .ref (ad E (13 + 1))]) := (hg170 13 (nx_D_average_222 hrd) (nx_D_average_223 hrd) (nx_D_average_224 hrd)).trans e130
      have e183 : w164 (13 + 1) = .inr (0, [.ref (ad E (13 + 2)), .int (iI n1)]) := (hg170 (13 + 1) (nx_D_average_225 hrd) (nx_D_average_226 hrd) (nx_D_average_227 hrd)).trans e131
      have e184 : w164 (13 + 2) = zar E 15 f2 := (hg170 (13 + 2) (nx_D_average_228 hrd) (nx_D_average_229 hrd) (nx_D_average_230 hrd)).trans e132
      have e185 : w164 (43 + 4 * ks) = .inr (2, [.ref (ad E (43 + 4 * ks + 1)), .ref (ad E (43 + 4 * ks + 3)), .int (iI sz)]) := (hg170 (43 + 4 * ks) (nx_D_average_231 hrd) (nx_D_average_232 hrd) (nx_D_average_233 hrd)).trans e149
      have e186 : w164 (43 + 4 * ks + 1) = .inr (0, [.ref (ad E (43 + 4 * ks + 2)), .int (iI sn)]) := (hg170 (43 + 4 * ks + 1) (nx_D_average_234 hrd) (nx_D_average_235 hrd) (nx_D_average_236 hrd)).trans e150
      have e187 : w164 (43 + 4 * ks + 2) = zar E 15 sf := (hg170 (43 + 4 * ks + 2) (nx_D_average_237 hrd) (nx_D_average_238 hrd) (nx_D_average_239 hrd)).trans e151
      have e188 : w164 (43 + 4 * ks + 3) = zar E 28 cn := (hg170 (43 + 4 * ks + 3) (nx_D_average_240 hrd) (nx_D_average_241 hrd) (nx_D_average_242 hrd)).trans e152
      have e189 : w164 (19 + 3 * rd) = .inr (1, [.ref (zg E (1 + kd)), .int (iI pld), .ref (ad E (19 + 3 * rd + 1))]) := (hg170 (19 + 3 * rd) (nx_D_average_243 hrd) (nx_D_average_244 hrd) (nx_D_average_245 hrd)).trans e153
      have e190 : w164 (19 + 3 * rd + 1) = .inr (0, [.ref (ad E (19 + 3 * rd + 2)), .int (iI nd)]) := (hg170 (19 + 3 * rd + 1) (nx_D_average_246 hrd) (nx_D_average_247 hrd) (nx_D_average_248 hrd)).trans e154
      have e191 : w164 (19 + 3 * rd + 2) = zar E 15 fd := (hg170 (19 + 3 * rd + 2) (nx_D_average_249 hrd) (nx_D_average_250 hrd) (nx_D_average_251 hrd)).trans e155
      have hf192 : ∀ k, k ≠ 10 → k ≠ (10 + 1) → k ≠ (10 + 2) → k ≠ 13 → k ≠ (13 + 1) → k ≠ (13 + 2) → k ≠ 16 → k ≠ (16 + 1) → k ≠ (16 + 2) → w164 k = w0 k := fun k g0 g1 g2 g3 g4 g5 g6 g7 g8 => (hg170 k g6 g7 g8).trans (hf156 k g0 g1 g2 g3 g4 g5)
      have v68 : V f3 15 < Bp 14 := by rw [p68]; exact small_lt ⟨p65.2.1, hm9⟩
      refine lv_aload_n hx hb d_D_average_71 rfl (lv_at hl 1 rfl) ?_
      refine zv_get (C := "ScaledNumeralDesk") (T := TD) (N := 7) hx hb hg uD_in hown hK hH165 q0lt e171 rfl 3 (by decide) (hg _ wm_131) (fun _ h9 => h9) rfl d_D_average_72 ?_
      refine zv_iconst hx hb d_D_average_75 ?_
      refine lv_aload_n hx hb d_D_average_76 rfl (lv_at hl 1 rfl) ?_
      refine zv_get (C := "ScaledNumeralDesk") (T := TD) (N := 7) hx hb hg uD_in hown hK hH165 q0lt e171 rfl 5 (by decide) (hg _ wm_133) (fun _ h9 => h9) rfl d_D_average_77 ?_
      refine lv_aload_n hx hb d_D_average_80 rfl (lv_at hl 1 rfl) ?_
      refine zv_get (C := "ScaledNumeralDesk") (T := TD) (N := 7) hx hb hg uD_in hown hK hH165 q0lt e171 rfl 6 (by decide) (hg _ wm_134) (fun _ h9 => h9) rfl d_D_average_81 ?_
      refine lv_aload_n hx hb d_D_average_84 rfl (lv_at hl 1 rfl) ?_
      refine zv_get (C := "ScaledNumeralDesk") (T := TD) (N := 7) hx hb hg uD_in hown hK hH165 q0lt e171 rfl 4 (by decide) (hg _ wm_132) (fun _ h9 => h9) rfl d_D_average_85 ?_
      refine z_calli (va_runV (As := [.int (iI 3), .ref (ad E 13), .ref (ad E 16), .ref (ad E 10)]) (rest := []) ⟨hx, hb, hml, hown, hts⟩ (c_B_combine (l := l) (E := E) (w0 := w164) (op := 3) (b := 5) (r1 := r1) (r2 := r2) (r3 := r3) (r4 := r4) (q := 13) (kd := k1) (pl := p1x) (ng := n1) (f := f2) (r := 16) (ko := 1) (po := 0) (no := 0) (g := f3) (t := 10) (kt := k1) (pt := p1x) (nt := n1) (h := f1) (q0lt := q3lt) (q1lt := q4lt) (q2lt := q5lt) (q3lt := q6lt) (q4lt := q7lt) (q5lt := q11lt) (q6lt := q12lt) (q7lt := q13lt) (q8lt := q14lt) (q9lt := q15lt) (q10lt := q16lt) (q11lt := q8lt) (q12lt := q9lt) (q13lt := q10lt) (c0 := e174) (c1 := e175) (c2 := e176) (c3 := e177) (c4 := e178) (c5 := e182) (c6 := e183) (c7 := e184) (c8 := e166) (c9 := e167) (c10 := e168) (c11 := e179) (c12 := e180) (c13 := e181) (br1 := br1) (br2 := br2) (br3 := br3) (br4 := br4) (bf := bd133) (hkd := by omega) (hng := by omega) (hpl := by omega) (vA := by omega) (bg := bd169) (hko := by omega) (hno := by omega) (hpo := by omega) (vB := by omega) (bh := bd22) (hkt := by omega) (hnt := by omega) (hqt := by omega) (hrt := by omega) (hbt := by omega) (hop := by omega) H162.size) (z_cwV (C := "ScaledNumeralDesk$Bench") 4 hg wm_376 wm_373 wm_8 wm_374 wm_375 (by decide +kernel) ⟨Nat.le_of_ble_eq_true rfl, Nat.le_of_ble_eq_true rfl⟩) (z_preV (r := ("ScaledNumeralDesk$Bench", TB, 4)) hK hG hn hH165 hA q3lt e174 rfl) rfl rfl hl.1 rfl (lv_room (Nat.le_of_ble_eq_true rfl)) d_D_average_88 ⟨Nat.zero_le _, Nat.zero_le _⟩) hH165 hA (fun z88 w195 H193 lc194 hH196 p88 => ?_)
      obtain ⟨⟨r_197, r_198, k_199, p_200, n_201, f_202, e203, e204, e205, e206, e207, bd208, bd209, bd210, p88⟩, hg211⟩ := p88
      replace bd208 : bd r_197 30 0 9999 := bd208
      replace bd209 : bd r_198 30 0 9999 := bd209
      replace bd210 : bd f_202 15 0 9999 := bd210
      replace p88 : k_199 < 4 ∧ (n_201 = 0 ∨ n_201 = 1) ∧ Nf z88 k_199 p_200 n_201 (V f_202 15) ∧ CmR (3 : Int) z88 k_199 p_200 n_201 (V f_202 15) k1 p1x n1 (V f2 15) 1 (0 : Int) (0 : Int) (V f3 15) := p88
      have e212 : w195 0 = .inr (5, [.ref (ad E 1), .ref (ad E 2), .ref (ad E 3), .ref (ad E 5), .ref (ad E 10), .ref (ad E 13), .ref (ad E 16)]) := (hg211 0 (nx_D_average_252 hrd) (nx_D_average_253 hrd) (nx_D_average_0 hrd) (nx_D_average_1 hrd) (nx_D_average_2 hrd)).trans e171
      have e213 : w195 1 = zaq E 3 8 fq := (hg211 1 (nx_D_average_254 hrd) (nx_D_average_255 hrd) (nx_D_average_3 hrd) (nx_D_average_4 hrd) (nx_D_average_5 hrd)).trans e172
      have e214 : w195 2 = zaq E 4 4 fs := (hg211 2 (nx_D_average_256 hrd) (nx_D_average_257 hrd) (nx_D_average_6 hrd) (nx_D_average_7 hrd) (nx_D_average_8 hrd)).trans e173
      have e215 : w195 5 = .inr (4, [.ref (ad E (5 + 1)), .ref (ad E (5 + 2)), .ref (ad E (5 + 3)), .ref (ad E (5 + 4))]) := (hg211 5 (nx_D_average_258 hrd) (nx_D_average_259 hrd) (nx_D_average_9 hrd) (nx_D_average_10 hrd) (nx_D_average_11 hrd)).trans e174
      have e216 : w195 (5 + 3) = zar E 30 r3 := (hg211 (5 + 3) (nx_D_average_260 hrd) (nx_D_average_261 hrd) (nx_D_average_18 hrd) (nx_D_average_19 hrd) (nx_D_average_20 hrd)).trans e177
      have e217 : w195 (5 + 4) = zar E 30 r4 := (hg211 (5 + 4) (nx_D_average_262 hrd) (nx_D_average_263 hrd) (nx_D_average_21 hrd) (nx_D_average_22 hrd) (nx_D_average_23 hrd)).trans e178
      have e218 : w195 13 = .inr (1, [.ref (zg E (1 + k1)), .int (iI p1x), .ref (ad E (13 + 1))]) := (hg211 13 (nx_D_average_264 hrd) (nx_D_average_265 hrd) (nx_D_average_24 hrd) (nx_D_average_25 hrd) (nx_D_average_26 hrd)).trans e182
      have e219 : w195 (13 + 1) = .inr (0, [.ref (ad E (13 + 2)), .int (iI n1)]) := (hg211 (13 + 1) (nx_D_average_266 hrd) (nx_D_average_267 hrd) (nx_D_average_27 hrd) (nx_D_average_28 hrd) (nx_D_average_29 hrd)).trans e183
      have e220 : w195 (13 + 2) = zar E 15 f2 := (hg211 (13 + 2) (nx_D_average_268 hrd) (nx_D_average_269 hrd) (nx_D_average_30 hrd) (nx_D_average_31 hrd) (nx_D_average_32 hrd)).trans e184
      have e221 : w195 16 = .inr (1, [.ref (zg E (1 + 1)), .int (iI 0), .ref (ad E (16 + 1))]) := (hg211 16 (nx_D_average_270 hrd) (nx_D_average_271 hrd) (nx_D_average_33 hrd) (nx_D_average_34 hrd) (nx_D_average_35 hrd)).trans e166
      have e222 : w195 (16 + 1) = .inr (0, [.ref (ad E (16 + 2)), .int (iI 0)]) := (hg211 (16 + 1) (nx_D_average_272 hrd) (nx_D_average_273 hrd) (nx_D_average_36 hrd) (nx_D_average_37 hrd) (nx_D_average_38 hrd)).trans e167
      have e223 : w195 (16 + 2) = zar E 15 f3 := (hg211 (16 + 2) (nx_D_average_274 hrd) (nx_D_average_275 hrd) (nx_D_average_39 hrd) (nx_D_average_40 hrd) (nx_D_average_41 hrd)).trans e168
      have e224 : w195 (43 + 4 * ks) = .inr (2, [.ref (ad E (43 + 4 * ks + 1)), .ref (ad E (43 + 4 * ks + 3)), .int (iI sz)]) := (hg211 (43 + 4 * ks) (nx_D_average_276 hrd) (nx_D_average_277 hrd) (nx_D_average_42 hrd) (nx_D_average_43 hrd) (nx_D_average_44 hrd)).trans e185
      have e225 : w195 (43 + 4 * ks + 1) = .inr (0, [.ref (ad E (43 + 4 * ks + 2)), .int (iI sn)]) := (hg211 (43 + 4 * ks + 1) (nx_D_average_278 hrd) (nx_D_average_279 hrd) (nx_D_average_45 hrd) (nx_D_average_46 hrd) (nx_D_average_47 hrd)).trans e186
      have e226 : w195 (43 + 4 * ks + 2) = zar E 15 sf := (hg211 (43 + 4 * ks + 2) (nx_D_average_280 hrd) (nx_D_average_281 hrd) (nx_D_average_48 hrd) (nx_D_average_49 hrd) (nx_D_average_50 hrd)).trans e187
      have e227 : w195 (43 + 4 * ks + 3) = zar E 28 cn := (hg211 (43 + 4 * ks + 3) (nx_D_average_282 hrd) (nx_D_average_283 hrd) (nx_D_average_51 hrd) (nx_D_average_52 hrd) (nx_D_average_53 hrd)).trans e188
      have e228 : w195 (19 + 3 * rd) = .inr (1, [.ref (zg E (1 + kd)), .int (iI pld), .ref (ad E (19 + 3 * rd + 1))]) := (hg211 (19 + 3 * rd) (nx_D_average_284 hrd) (nx_D_average_285 hrd) (nx_D_average_54 hrd) (nx_D_average_55 hrd) (nx_D_average_56 hrd)).trans e189
      have e229 : w195 (19 + 3 * rd + 1) = .inr (0, [.ref (ad E (19 + 3 * rd + 2)), .int (iI nd)]) := (hg211 (19 + 3 * rd + 1) (nx_D_average_286 hrd) (nx_D_average_287 hrd) (nx_D_average_57 hrd) (nx_D_average_58 hrd) (nx_D_average_59 hrd)).trans e190
      have e230 : w195 (19 + 3 * rd + 2) = zar E 15 fd := (hg211 (19 + 3 * rd + 2) (nx_D_average_288 hrd) (nx_D_average_289 hrd) (nx_D_average_60 hrd) (nx_D_average_61 hrd) (nx_D_average_62 hrd)).trans e191
      have hf231 : ∀ k, k ≠ 10 → k ≠ (10 + 1) → k ≠ (10 + 2) → k ≠ 13 → k ≠ (13 + 1) → k ≠ (13 + 2) → k ≠ 16 → k ≠ (16 + 1) → k ≠ (16 + 2) → k ≠ (5 + 1) → k ≠ (5 + 2) → w195 k = w0 k := fun k g0 g1 g2 g3 g4 g5 g6 g7 g8 g9 g10 => (hg211 k g9 g10 g0 g1 g2).trans (hf192 k g0 g1 g2 g3 g4 g5 g6 g7 g8)
      have z8 := CmR_z p88.2.2.2
      rw [p52, p68, p65.1] at p88
      refine lv_istore_n (lv' := [(3, .int (iI z88)), (0, .ref (ad E 0)), (1, .int (iI ((rd : Int)))), (2, .int (iI ((ks : Int))))]) hx hb d_D_average_91 rfl hl (by decide) rfl (fun ls hl => ?_)
      refine lv_aload_n hx hb d_D_average_92 rfl (lv_at hl 1 rfl) ?_
      refine lv_iload_n hx hb d_D_average_93 rfl (lv_at hl 2 rfl) ?_
      refine lv_iload_n hx hb d_D_average_94 rfl (lv_at hl 0 rfl) ?_
      refine z_calli (va_runV (As := [.int (iI ((rd : Int))), .int (iI z88)]) (rest := []) ⟨hx, hb, hml, hown, hts⟩ (c_D_store (l := l) (E := E) (w0 := w195) (fq := fq) (kt := k_199) (plt := p_200) (nt := n_201) (ft := f_202) (rd := rd) (kd := kd) (pld := pld) (nd := nd) (fd := fd) (an := z88) (hzn := hzn) (c0 := e212) (c1 := e213) (c2 := e205) (c3 := e206) (c4 := e207) (c5 := e228) (c6 := e229) (c7 := e230) (hfq := hfq) (bft := bd210) (hkt := by omega) (hnt := by omega) (bfd := bfd) (hkd := by omega) (hnd := by omega) (hrd := by omega) (han := by omega) H193.size) (z_cwV (C := "ScaledNumeralDesk") 2 hg wm_320 wm_317 wm_1 wm_319 wm_s8 (by decide +kernel) ⟨Nat.le_of_ble_eq_true rfl, Nat.le_of_ble_eq_true rfl⟩) (z_preV (r := ("ScaledNumeralDesk", TD, 7)) hK hG hn hH196 hA q0lt e212 rfl) rfl rfl hl.1 rfl (lv_room (Nat.le_of_ble_eq_true rfl)) d_D_average_95 ⟨Nat.zero_le _, Nat.zero_le _⟩) hH196 hA (fun z236 w234 H232 lc233 hH235 p95 => ?_)
      obtain ⟨⟨k_237, p_238, n_239, f_240, e241, e242, e243, bd244, p95⟩, hg245⟩ := p95
      replace bd244 : bd f_240 15 0 9999 := bd244
      replace p95 : z236 = z88 ∧ StoR z88 k_199 p_200 n_201 (V f_202 15) kd pld nd (V fd 15) k_237 p_238 n_239 (V f_240 15) := p95
      have e246 : w234 0 = .inr (5, [.ref (ad E 1), .ref (ad E 2), .ref (ad E 3), .ref (ad E 5), .ref (ad E 10), .ref (ad E 13), .ref (ad E 16)]) := (hg245 0 (nx_D_average_63 hrd) (nx_D_average_64 hrd) (nx_D_average_65 hrd)).trans e212
      have e247 : w234 1 = zaq E 3 8 fq := (hg245 1 (nx_D_average_66 hrd) (nx_D_average_67 hrd) (nx_D_average_68 hrd)).trans e213
      have e248 : w234 2 = zaq E 4 4 fs := (hg245 2 (nx_D_average_69 hrd) (nx_D_average_70 hrd) (nx_D_average_71 hrd)).trans e214
      have e249 : w234 5 = .inr (4, [.ref (ad E (5 + 1)), .ref (ad E (5 + 2)), .ref (ad E (5 + 3)), .ref (ad E (5 + 4))]) := (hg245 5 (nx_D_average_72 hrd) (nx_D_average_73 hrd) (nx_D_average_74 hrd)).trans e215
      have e250 : w234 (5 + 1) = zar E 30 r_197 := (hg245 (5 + 1) (nx_D_average_75 hrd) (nx_D_average_76 hrd) (nx_D_average_77 hrd)).trans e203
      have e251 : w234 (5 + 2) = zar E 30 r_198 := (hg245 (5 + 2) (nx_D_average_78 hrd) (nx_D_average_79 hrd) (nx_D_average_80 hrd)).trans e204
      have e252 : w234 (5 + 3) = zar E 30 r3 := (hg245 (5 + 3) (nx_D_average_81 hrd) (nx_D_average_82 hrd) (nx_D_average_83 hrd)).trans e216
      have e253 : w234 (5 + 4) = zar E 30 r4 := (hg245 (5 + 4) (nx_D_average_84 hrd) (nx_D_average_85 hrd) (nx_D_average_86 hrd)).trans e217
      have e254 : w234 10 = .inr (1, [.ref (zg E (1 + k_199)), .int (iI p_200), .ref (ad E (10 + 1))]) := (hg245 10 (nx_D_average_87 hrd) (nx_D_average_88 hrd) (nx_D_average_89 hrd)).trans e205
      have e255 : w234 (10 + 1) = .inr (0, [.ref (ad E (10 + 2)), .int (iI n_201)]) := (hg245 (10 + 1) (nx_D_average_90 hrd) (nx_D_average_91 hrd) (nx_D_average_92 hrd)).trans e206
      have e256 : w234 (10 + 2) = zar E 15 f_202 := (hg245 (10 + 2) (nx_D_average_93 hrd) (nx_D_average_94 hrd) (nx_D_average_95 hrd)).trans e207
      have e257 : w234 13 = .inr (1, [.ref (zg E (1 + k1)), .int (iI p1x), .ref (ad E (13 + 1))]) := (hg245 13 (nx_D_average_96 hrd) (nx_D_average_97 hrd) (nx_D_average_98 hrd)).trans e218
      have e258 : w234 (13 + 1) = .inr (0, [.ref (ad E (13 + 2)), .int (iI n1)]) := (hg245 (13 + 1) (nx_D_average_99 hrd) (nx_D_average_100 hrd) (nx_D_average_101 hrd)).trans e219
      have e259 : w234 (13 + 2) = zar E 15 f2 := (hg245 (13 + 2) (nx_D_average_102 hrd) (nx_D_average_103 hrd) (nx_D_average_104 hrd)).trans e220
      have e260 : w234 16 = .inr (1, [.ref (zg E (1 + 1)), .int (iI 0), .ref (ad E (16 + 1))]) := (hg245 16 (nx_D_average_105 hrd) (nx_D_average_106 hrd) (nx_D_average_107 hrd)).trans e221
      have e261 : w234 (16 + 1) = .inr (0, [.ref (ad E (16 + 2)), .int (iI 0)]) := (hg245 (16 + 1) (nx_D_average_108 hrd) (nx_D_average_109 hrd) (nx_D_average_110 hrd)).trans e222
      have e262 : w234 (16 + 2) = zar E 15 f3 := (hg245 (16 + 2) (nx_D_average_111 hrd) (nx_D_average_112 hrd) (nx_D_average_113 hrd)).trans e223
      have e263 : w234 (43 + 4 * ks) = .inr (2, [.ref (ad E (43 + 4 * ks + 1)), .ref (ad E (43 + 4 * ks + 3)), .int (iI sz)]) := (hg245 (43 + 4 * ks) (nx_D_average_114 hrd) (nx_D_average_115 hrd) (nx_D_average_116 hrd)).trans e224
      have e264 : w234 (43 + 4 * ks + 1) = .inr (0, [.ref (ad E (43 + 4 * ks + 2)), .int (iI sn)]) := (hg245 (43 + 4 * ks + 1) (nx_D_average_117 hrd) (nx_D_average_118 hrd) (nx_D_average_119 hrd)).trans e225
      have e265 : w234 (43 + 4 * ks + 2) = zar E 15 sf := (hg245 (43 + 4 * ks + 2) (nx_D_average_120 hrd) (nx_D_average_121 hrd) (nx_D_average_122 hrd)).trans e226
      have e266 : w234 (43 + 4 * ks + 3) = zar E 28 cn := (hg245 (43 + 4 * ks + 3) (nx_D_average_123 hrd) (nx_D_average_124 hrd) (nx_D_average_125 hrd)).trans e227
      have hf267 : ∀ k, k ≠ 10 → k ≠ (10 + 1) → k ≠ (10 + 2) → k ≠ 13 → k ≠ (13 + 1) → k ≠ (13 + 2) → k ≠ 16 → k ≠ (16 + 1) → k ≠ (16 + 2) → k ≠ (5 + 1) → k ≠ (5 + 2) → k ≠ (19 + 3 * rd) → k ≠ (19 + 3 * rd + 1) → k ≠ (19 + 3 * rd + 2) → w234 k = w0 k := fun k g0 g1 g2 g3 g4 g5 g6 g7 g8 g9 g10 g11 g12 g13 => (hg245 k g11 g12 g13).trans (hf231 k g0 g1 g2 g3 g4 g5 g6 g7 g8 g9 g10)
      rw [hQ]
      exact z_iret hx hb hr hlk hH235 (⟨⟨r_197, r_198, k_199, p_200, n_201, f_202, k1, p1x, n1, f2, 1, 0, 0, f3, k_237, p_238, n_239, f_240, e250, e251, e254, e255, e256, e257, e258, e259, e260, e261, e262, e241, e242, e243, bd208, bd209, bd210, bd133, bd169, bd244, by rw [p95.1]; exact ⟨p88.1, p88.2.1, p26.1, p26.2.1, by decide, Or.inl rfl, p88.2.2.1, ⟨z26, k1, p1x, n1, V f1 15, p26.1, p26.2.1, sr, Or.inr ⟨by omega, by omega, p88.2.2.2⟩⟩, p95.2⟩⟩, (fun k g0 g1 g2 g3 g4 g5 g6 g7 g8 g9 g10 g11 g12 g13 => hf267 k g2 g3 g4 g5 g6 g7 g8 g9 g10 g0 g1 g11 g12 g13)⟩) d_D_average_98
