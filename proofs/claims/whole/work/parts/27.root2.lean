theorem nx_B_root_0 {b q t : Nat} (hqt : t + 2 < q) (hbt : b + 4 < t) : b ≠ b + 1 := by omega
theorem nx_B_root_1 {b q t : Nat} (hqt : t + 2 < q) (hbt : b + 4 < t) : b + 2 ≠ b + 1 := by omega
theorem nx_B_root_2 {b q t : Nat} (hqt : t + 2 < q) (hbt : b + 4 < t) : b + 3 ≠ b + 1 := by omega
theorem nx_B_root_3 {b q t : Nat} (hqt : t + 2 < q) (hbt : b + 4 < t) : b + 4 ≠ b + 1 := by omega
theorem nx_B_root_4 {b q t : Nat} (hqt : t + 2 < q) (hbt : b + 4 < t) : q ≠ b + 1 := by omega
theorem nx_B_root_5 {b q t : Nat} (hqt : t + 2 < q) (hbt : b + 4 < t) : q + 1 ≠ b + 1 := by omega
theorem nx_B_root_6 {b q t : Nat} (hqt : t + 2 < q) (hbt : b + 4 < t) : q + 2 ≠ b + 1 := by omega
theorem nx_B_root_7 {b q t : Nat} (hqt : t + 2 < q) (hbt : b + 4 < t) : t ≠ b + 1 := by omega
theorem nx_B_root_8 {b q t : Nat} (hqt : t + 2 < q) (hbt : b + 4 < t) : t + 1 ≠ b + 1 := by omega
theorem nx_B_root_9 {b q t : Nat} (hqt : t + 2 < q) (hbt : b + 4 < t) : t + 2 ≠ b + 1 := by omega
theorem nx_B_root_10 {b q t : Nat} (hqt : t + 2 < q) (hbt : b + 4 < t) : b ≠ b + 2 := by omega
theorem nx_B_root_11 {b q t : Nat} (hqt : t + 2 < q) (hbt : b + 4 < t) : b + 1 ≠ b + 2 := by omega
theorem nx_B_root_12 {b q t : Nat} (hqt : t + 2 < q) (hbt : b + 4 < t) : b + 3 ≠ b + 2 := by omega
theorem nx_B_root_13 {b q t : Nat} (hqt : t + 2 < q) (hbt : b + 4 < t) : b + 4 ≠ b + 2 := by omega
theorem nx_B_root_14 {b q t : Nat} (hqt : t + 2 < q) (hbt : b + 4 < t) : q ≠ b + 2 := by omega
theorem nx_B_root_15 {b q t : Nat} (hqt : t + 2 < q) (hbt : b + 4 < t) : q + 1 ≠ b + 2 := by omega
theorem nx_B_root_16 {b q t : Nat} (hqt : t + 2 < q) (hbt : b + 4 < t) : q + 2 ≠ b + 2 := by omega
theorem nx_B_root_17 {b q t : Nat} (hqt : t + 2 < q) (hbt : b + 4 < t) : t ≠ b + 2 := by omega
theorem nx_B_root_18 {b q t : Nat} (hqt : t + 2 < q) (hbt : b + 4 < t) : t + 1 ≠ b + 2 := by omega
theorem nx_B_root_19 {b q t : Nat} (hqt : t + 2 < q) (hbt : b + 4 < t) : t + 2 ≠ b + 2 := by omega
theorem nx_B_root_20 {b q t : Nat} (hqt : t + 2 < q) (hbt : b + 4 < t) : b ≠ b + 3 := by omega
theorem nx_B_root_21 {b q t : Nat} (hqt : t + 2 < q) (hbt : b + 4 < t) : b + 1 ≠ b + 3 := by omega
theorem nx_B_root_22 {b q t : Nat} (hqt : t + 2 < q) (hbt : b + 4 < t) : b + 2 ≠ b + 3 := by omega
theorem nx_B_root_23 {b q t : Nat} (hqt : t + 2 < q) (hbt : b + 4 < t) : b + 4 ≠ b + 3 := by omega
theorem nx_B_root_24 {b q t : Nat} (hqt : t + 2 < q) (hbt : b + 4 < t) : q ≠ b + 3 := by omega
theorem nx_B_root_25 {b q t : Nat} (hqt : t + 2 < q) (hbt : b + 4 < t) : q + 1 ≠ b + 3 := by omega
theorem nx_B_root_26 {b q t : Nat} (hqt : t + 2 < q) (hbt : b + 4 < t) : q + 2 ≠ b + 3 := by omega
theorem nx_B_root_27 {b q t : Nat} (hqt : t + 2 < q) (hbt : b + 4 < t) : t ≠ b + 3 := by omega
theorem nx_B_root_28 {b q t : Nat} (hqt : t + 2 < q) (hbt : b + 4 < t) : t + 1 ≠ b + 3 := by omega
theorem nx_B_root_29 {b q t : Nat} (hqt : t + 2 < q) (hbt : b + 4 < t) : t + 2 ≠ b + 3 := by omega
theorem nx_B_root_30 {b q t : Nat} (hqt : t + 2 < q) (hbt : b + 4 < t) : b ≠ t := by omega
theorem nx_B_root_31 {b q t : Nat} (hqt : t + 2 < q) (hbt : b + 4 < t) : b ≠ t + 1 := by omega
theorem nx_B_root_32 {b q t : Nat} (hqt : t + 2 < q) (hbt : b + 4 < t) : b ≠ t + 2 := by omega
theorem nx_B_root_33 {b q t : Nat} (hqt : t + 2 < q) (hbt : b + 4 < t) : b + 1 ≠ t := by omega
theorem nx_B_root_34 {b q t : Nat} (hqt : t + 2 < q) (hbt : b + 4 < t) : b + 1 ≠ t + 1 := by omega
theorem nx_B_root_35 {b q t : Nat} (hqt : t + 2 < q) (hbt : b + 4 < t) : b + 1 ≠ t + 2 := by omega
theorem nx_B_root_36 {b q t : Nat} (hqt : t + 2 < q) (hbt : b + 4 < t) : b + 3 ≠ t := by omega
theorem nx_B_root_37 {b q t : Nat} (hqt : t + 2 < q) (hbt : b + 4 < t) : b + 3 ≠ t + 1 := by omega
theorem nx_B_root_38 {b q t : Nat} (hqt : t + 2 < q) (hbt : b + 4 < t) : b + 3 ≠ t + 2 := by omega
theorem nx_B_root_39 {b q t : Nat} (hqt : t + 2 < q) (hbt : b + 4 < t) : b + 4 ≠ t := by omega
theorem nx_B_root_40 {b q t : Nat} (hqt : t + 2 < q) (hbt : b + 4 < t) : b + 4 ≠ t + 1 := by omega
theorem nx_B_root_41 {b q t : Nat} (hqt : t + 2 < q) (hbt : b + 4 < t) : b + 4 ≠ t + 2 := by omega
theorem nx_B_root_42 {b q t : Nat} (hqt : t + 2 < q) (hbt : b + 4 < t) : q ≠ t := by omega
theorem nx_B_root_43 {b q t : Nat} (hqt : t + 2 < q) (hbt : b + 4 < t) : q ≠ t + 1 := by omega
theorem nx_B_root_44 {b q t : Nat} (hqt : t + 2 < q) (hbt : b + 4 < t) : q ≠ t + 2 := by omega
theorem nx_B_root_45 {b q t : Nat} (hqt : t + 2 < q) (hbt : b + 4 < t) : q + 1 ≠ t := by omega
theorem nx_B_root_46 {b q t : Nat} (hqt : t + 2 < q) (hbt : b + 4 < t) : q + 1 ≠ t + 1 := by omega
theorem nx_B_root_47 {b q t : Nat} (hqt : t + 2 < q) (hbt : b + 4 < t) : q + 1 ≠ t + 2 := by omega
theorem nx_B_root_48 {b q t : Nat} (hqt : t + 2 < q) (hbt : b + 4 < t) : q + 2 ≠ t := by omega
theorem nx_B_root_49 {b q t : Nat} (hqt : t + 2 < q) (hbt : b + 4 < t) : q + 2 ≠ t + 1 := by omega
theorem nx_B_root_50 {b q t : Nat} (hqt : t + 2 < q) (hbt : b + 4 < t) : q + 2 ≠ t + 2 := by omega
theorem nx_B_root_51 {b q t : Nat} (hqt : t + 2 < q) (hbt : b + 4 < t) : b ≠ b + 4 := by omega
theorem nx_B_root_52 {b q t : Nat} (hqt : t + 2 < q) (hbt : b + 4 < t) : b + 2 ≠ b + 4 := by omega
theorem nx_B_root_53 {b q t : Nat} (hqt : t + 2 < q) (hbt : b + 4 < t) : q ≠ b + 4 := by omega
theorem nx_B_root_54 {b q t : Nat} (hqt : t + 2 < q) (hbt : b + 4 < t) : q + 1 ≠ b + 4 := by omega
theorem nx_B_root_55 {b q t : Nat} (hqt : t + 2 < q) (hbt : b + 4 < t) : q + 2 ≠ b + 4 := by omega
theorem nx_B_root_56 {b q t : Nat} (hqt : t + 2 < q) (hbt : b + 4 < t) : t ≠ b + 4 := by omega
theorem nx_B_root_57 {b q t : Nat} (hqt : t + 2 < q) (hbt : b + 4 < t) : t + 1 ≠ b + 4 := by omega
theorem nx_B_root_58 {b q t : Nat} (hqt : t + 2 < q) (hbt : b + 4 < t) : t + 2 ≠ b + 4 := by omega
def rm_B_root : Room := { frames := 4, cells := 0, slots := 0, locals := 95 }
set_option maxHeartbeats 4000000 in
set_option maxRecDepth 100000 in
theorem c_B_root (l : Launch) (E : zE) (w0 : zW) (b : Nat) (r1 r2 r3 r4 : Int → Int) (q : Nat) (kd : Nat) (pl ng : Int) (f : Int → Int) (t : Nat) (kt : Nat) (pt nt : Int) (h : Int → Int) (q0lt : b < zn E) (q1lt : b + 1 < zn E) (q2lt : b + 2 < zn E) (q3lt : b + 3 < zn E) (q4lt : b + 4 < zn E) (q5lt : q < zn E) (q6lt : q + 1 < zn E) (q7lt : q + 2 < zn E) (q8lt : t < zn E) (q9lt : t + 1 < zn E) (q10lt : t + 2 < zn E) (c0 : w0 b = .inr (4, [.ref (ad E (b + 1)), .ref (ad E (b + 2)), .ref (ad E (b + 3)), .ref (ad E (b + 4))])) (c1 : w0 (b + 1) = zar E 30 r1) (c2 : w0 (b + 2) = zar E 30 r2) (c3 : w0 (b + 3) = zar E 30 r3) (c4 : w0 (b + 4) = zar E 30 r4) (c5 : w0 q = .inr (1, [.ref (zg E (1 + kd)), .int (iI pl), .ref (ad E (q + 1))])) (c6 : w0 (q + 1) = .inr (0, [.ref (ad E (q + 2)), .int (iI ng)])) (c7 : w0 (q + 2) = zar E 15 f) (c8 : w0 t = .inr (1, [.ref (zg E (1 + kt)), .int (iI pt), .ref (ad E (t + 1))])) (c9 : w0 (t + 1) = .inr (0, [.ref (ad E (t + 2)), .int (iI nt)])) (c10 : w0 (t + 2) = zar E 15 h) (br1 : bd r1 30 0 9999) (br2 : bd r2 30 0 9999) (br3 : bd r3 30 0 9999) (br4 : bd r4 30 0 9999) (bf : bd f 15 0 9999) (hkd : kd < 4) (hng : ng = 0 ∨ ng = 1) (hpl : 0 ≤ pl ∧ pl ≤ 24) (vA : V f 15 < Bp 14) (bh : bd h 15 0 9999) (hkt : kt < 4) (hnt : nt = 0 ∨ nt = 1) (hqt : t + 2 < q) (hbt : b + 4 < t) : zM l y_B_root ws_B_root rm_B_root E [.ref (ad E b), .ref (ad E q), .ref (ad E t)] w0 (zQi E w0 (fun z w' => (∃ (r1' : Int → Int) (r2' : Int → Int) (r3' : Int → Int) (r4' : Int → Int) (k' : Nat) (p' : Int) (n' : Int) (f' : Int → Int), w' (b + 1) = zar E 30 r1' ∧ w' (b + 2) = zar E 30 r2' ∧ w' (b + 3) = zar E 30 r3' ∧ w' (b + 4) = zar E 30 r4' ∧ w' t = .inr (1, [.ref (zg E (1 + k')), .int (iI p'), .ref (ad E (t + 1))]) ∧ w' (t + 1) = .inr (0, [.ref (ad E (t + 2)), .int (iI n')]) ∧ w' (t + 2) = zar E 15 f' ∧ bd r1' 30 0 9999 ∧ bd r2' 30 0 9999 ∧ bd r3' 30 0 9999 ∧ bd r4' 30 0 9999 ∧ bd f' 15 0 9999 ∧ (k' < 4 ∧ (n' = 0 ∨ n' = 1) ∧ ∃ S w : Int, 0 ≤ S ∧ S * S ≤ V f 15 * Bp 8 ∧ V f 15 * Bp 8 < (S + 1) * (S + 1) ∧ Wt (V f 15) w ∧ St z k' p' n' (V f' 15) (Rn S (7 * 4 - rp w pl)) 7 (rp w pl) 0)) ∧ ∀ k, k ≠ (b + 1) → k ≠ (b + 2) → k ≠ (b + 3) → k ≠ (b + 4) → k ≠ t → k ≠ (t + 1) → k ≠ (t + 2) → w' k = w0 k)) := by
  refine z_met (cc := b_B_root) (maxL := 4) (ret := (some .int)) (by decide +kernel) rfl (Nat.le_of_ble_eq_true rfl) ?_
  intro p e s m below meth cd ls a Qf hQ hC hl hH
  obtain ⟨hF, hr, hlk, hK, hG, hn⟩ := hC
  obtain ⟨hx, hb, hml, hown, hts⟩ := hF
  have hg : ∀ w ∈ GW, w.before a s = true := fun w h => hts w (List.mem_cons_of_mem _ h)
  have hA : ∀ q, s.heap.size ≤ q → va_A (wl E w0) s.heap.size q := fun q h => Or.inr h
  have hl : lv_has ls 4 [(0, .ref (ad E b)), (1, .ref (ad E q)), (2, .ref (ad E t))] := hl
  have vf := V_in bf (show (0 : Int) ≤ 15 by decide) (Int.le_refl 15)
  have xx := x22 vA
  have x0 : 0 ≤ V f 15 * Bp 8 := Int.mul_nonneg vf.1 (Int.le_of_lt (Bp_pos 8))
  refine lv_aload_n hx hb d_B_root_0 rfl (lv_at hl 0 rfl) ?_
  refine lv_aload_n hx hb d_B_root_1 rfl (lv_at hl 1 rfl) ?_
  refine zv_bipush hx hb d_B_root_2 rfl ?_
  refine z_callv (va_runV (As := [.ref (ad E q), .int (iI 8)]) (rest := []) ⟨hx, hb, hml, hown, hts⟩ (c_B_load (l := l) (E := E) (w0 := w0) (b := b) (r1 := r1) (r2 := r2) (r3 := r3) (r4 := r4) (q := q) (kd := kd) (pl := pl) (ng := ng) (f := f) (x := 8) (q0lt := q0lt) (q1lt := q1lt) (q2lt := q2lt) (q3lt := q3lt) (q4lt := q4lt) (q5lt := q5lt) (q6lt := q6lt) (q7lt := q7lt) (c0 := c0) (c1 := c1) (c2 := c2) (c3 := c3) (c4 := c4) (c5 := c5) (c6 := c6) (c7 := c7) (br1 := br1) (br2 := br2) (br3 := br3) (br4 := br4) (bf := bf) (hkd := by omega) (hng := by omega) (hbq := by omega) (hx0 := by omega) s.heap.size) (z_cwV (C := "ScaledNumeralDesk$Bench") 2 hg wm_465 wm_462 wm_8 wm_464 wm_s16 (by decide +kernel) ⟨Nat.le_of_ble_eq_true rfl, Nat.le_of_ble_eq_true rfl⟩) (z_preV (r := ("ScaledNumeralDesk$Bench", TB, 4)) hK hG hn hH hA q0lt c0 rfl) rfl rfl hl.1 rfl (lv_room (Nat.le_of_ble_eq_true rfl)) d_B_root_4 ⟨Nat.zero_le _, Nat.zero_le _⟩) hH hA (fun  w3 H1 lc2 hH4 p4 => ?_)
  obtain ⟨⟨a1, e5, bd6, p4⟩, hg7⟩ := p4
  replace bd6 : bd a1 30 0 9999 := bd6
  replace p4 : V a1 30 = V f 15 * Bp (8 : Int) := p4
  have e8 : w3 b = .inr (4, [.ref (ad E (b + 1)), .ref (ad E (b + 2)), .ref (ad E (b + 3)), .ref (ad E (b + 4))]) := (hg7 b (nx_B_root_0 hqt hbt)).trans c0
  have e9 : w3 (b + 2) = zar E 30 r2 := (hg7 (b + 2) (nx_B_root_1 hqt hbt)).trans c2
  have e10 : w3 (b + 3) = zar E 30 r3 := (hg7 (b + 3) (nx_B_root_2 hqt hbt)).trans c3
  have e11 : w3 (b + 4) = zar E 30 r4 := (hg7 (b + 4) (nx_B_root_3 hqt hbt)).trans c4
  have e12 : w3 q = .inr (1, [.ref (zg E (1 + kd)), .int (iI pl), .ref (ad E (q + 1))]) := (hg7 q (nx_B_root_4 hqt hbt)).trans c5
  have e13 : w3 (q + 1) = .inr (0, [.ref (ad E (q + 2)), .int (iI ng)]) := (hg7 (q + 1) (nx_B_root_5 hqt hbt)).trans c6
  have e14 : w3 (q + 2) = zar E 15 f := (hg7 (q + 2) (nx_B_root_6 hqt hbt)).trans c7
  have e15 : w3 t = .inr (1, [.ref (zg E (1 + kt)), .int (iI pt), .ref (ad E (t + 1))]) := (hg7 t (nx_B_root_7 hqt hbt)).trans c8
  have e16 : w3 (t + 1) = .inr (0, [.ref (ad E (t + 2)), .int (iI nt)]) := (hg7 (t + 1) (nx_B_root_8 hqt hbt)).trans c9
  have e17 : w3 (t + 2) = zar E 15 h := (hg7 (t + 2) (nx_B_root_9 hqt hbt)).trans c10
  have hf18 : ∀ k, k ≠ (b + 1) → w3 k = w0 k := fun k g0 => hg7 k g0
  refine lv_aload_n hx hb d_B_root_7 rfl (lv_at hl 0 rfl) ?_
  refine zv_get (C := "ScaledNumeralDesk$Bench") (T := TB) (N := 4) hx hb hg uB_in hown hK hH4 q0lt e8 rfl 1 (by decide) (hg _ wm_116) (fun _ h9 => h9) rfl d_B_root_8 ?_
  refine zv_iconst hx hb d_B_root_11 ?_
  refine z_callv (va_runS (As := [.ref (ad E (b + 2)), .int (iI 0)]) (rest := []) ⟨hx, hb, hml, hown, hts⟩ (c_fill (l := l) (E := E) (w0 := w3) (q := b + 2) (N := 30) (f := r2) (v := 0) (q0lt := q2lt) (c0 := e9) (hN := by omega) H1.size) (z_cwS 2 hg wm_237 wm_466 wm_14 wm_236 (by decide +kernel) ⟨Nat.le_of_ble_eq_true rfl, Nat.le_of_ble_eq_true rfl⟩) (z_preS hK hG hn hH4 hA) rfl rfl hl.1 rfl (lv_room (Nat.le_of_ble_eq_true rfl)) d_B_root_12 ⟨Nat.zero_le _, Nat.zero_le _⟩) hH4 hA (fun  w21 H19 lc20 hH22 p12 => ?_)
  obtain ⟨⟨a2, e23, p12⟩, hg24⟩ := p12
  replace p12 : ∀ j : Int, 0 ≤ j → j < 30 → a2 j = (0 : Int) := p12
  have e25 : w21 b = .inr (4, [.ref (ad E (b + 1)), .ref (ad E (b + 2)), .ref (ad E (b + 3)), .ref (ad E (b + 4))]) := (hg24 b (nx_B_root_10 hqt hbt)).trans e8
  have e26 : w21 (b + 1) = zar E 30 a1 := (hg24 (b + 1) (nx_B_root_11 hqt hbt)).trans e5
  have e27 : w21 (b + 3) = zar E 30 r3 := (hg24 (b + 3) (nx_B_root_12 hqt hbt)).trans e10
  have e28 : w21 (b + 4) = zar E 30 r4 := (hg24 (b + 4) (nx_B_root_13 hqt hbt)).trans e11
  have e29 : w21 q = .inr (1, [.ref (zg E (1 + kd)), .int (iI pl), .ref (ad E (q + 1))]) := (hg24 q (nx_B_root_14 hqt hbt)).trans e12
  have e30 : w21 (q + 1) = .inr (0, [.ref (ad E (q + 2)), .int (iI ng)]) := (hg24 (q + 1) (nx_B_root_15 hqt hbt)).trans e13
  have e31 : w21 (q + 2) = zar E 15 f := (hg24 (q + 2) (nx_B_root_16 hqt hbt)).trans e14
  have e32 : w21 t = .inr (1, [.ref (zg E (1 + kt)), .int (iI pt), .ref (ad E (t + 1))]) := (hg24 t (nx_B_root_17 hqt hbt)).trans e15
  have e33 : w21 (t + 1) = .inr (0, [.ref (ad E (t + 2)), .int (iI nt)]) := (hg24 (t + 1) (nx_B_root_18 hqt hbt)).trans e16
  have e34 : w21 (t + 2) = zar E 15 h := (hg24 (t + 2) (nx_B_root_19 hqt hbt)).trans e17
  have hf35 : ∀ k, k ≠ (b + 1) → k ≠ (b + 2) → w21 k = w0 k := fun k g0 g1 => (hg24 k g1).trans (hf18 k g0)
  have ba2 : bd a2 30 0 9999 := fun i a1 a2 => by rw [p12 i a1 a2]; decide
  refine lv_aload_n hx hb d_B_root_15 rfl (lv_at hl 0 rfl) ?_
  refine zv_get (C := "ScaledNumeralDesk$Bench") (T := TB) (N := 4) hx hb hg uB_in hown hK hH22 q0lt e25 rfl 2 (by decide) (hg _ wm_117) (fun _ h9 => h9) rfl d_B_root_16 ?_
  refine zv_iconst hx hb d_B_root_19 ?_
  refine z_callv (va_runS (As := [.ref (ad E (b + 3)), .int (iI 0)]) (rest := []) ⟨hx, hb, hml, hown, hts⟩ (c_fill (l := l) (E := E) (w0 := w21) (q := b + 3) (N := 30) (f := r3) (v := 0) (q0lt := q3lt) (c0 := e27) (hN := by omega) H19.size) (z_cwS 2 hg wm_237 wm_466 wm_14 wm_236 (by decide +kernel) ⟨Nat.le_of_ble_eq_true rfl, Nat.le_of_ble_eq_true rfl⟩) (z_preS hK hG hn hH22 hA) rfl rfl hl.1 rfl (lv_room (Nat.le_of_ble_eq_true rfl)) d_B_root_20 ⟨Nat.zero_le _, Nat.zero_le _⟩) hH22 hA (fun  w38 H36 lc37 hH39 p20 => ?_)
  obtain ⟨⟨a3, e40, p20⟩, hg41⟩ := p20
  replace p20 : ∀ j : Int, 0 ≤ j → j < 30 → a3 j = (0 : Int) := p20
  have e42 : w38 b = .inr (4, [.ref (ad E (b + 1)), .ref (ad E (b + 2)), .ref (ad E (b + 3)), .ref (ad E (b + 4))]) := (hg41 b (nx_B_root_20 hqt hbt)).trans e25
  have e43 : w38 (b + 1) = zar E 30 a1 := (hg41 (b + 1) (nx_B_root_21 hqt hbt)).trans e26
  have e44 : w38 (b + 2) = zar E 30 a2 := (hg41 (b + 2) (nx_B_root_22 hqt hbt)).trans e23
  have e45 : w38 (b + 4) = zar E 30 r4 := (hg41 (b + 4) (nx_B_root_23 hqt hbt)).trans e28
  have e46 : w38 q = .inr (1, [.ref (zg E (1 + kd)), .int (iI pl), .ref (ad E (q + 1))]) := (hg41 q (nx_B_root_24 hqt hbt)).trans e29
  have e47 : w38 (q + 1) = .inr (0, [.ref (ad E (q + 2)), .int (iI ng)]) := (hg41 (q + 1) (nx_B_root_25 hqt hbt)).trans e30
  have e48 : w38 (q + 2) = zar E 15 f := (hg41 (q + 2) (nx_B_root_26 hqt hbt)).trans e31
  have e49 : w38 t = .inr (1, [.ref (zg E (1 + kt)), .int (iI pt), .ref (ad E (t + 1))]) := (hg41 t (nx_B_root_27 hqt hbt)).trans e32
  have e50 : w38 (t + 1) = .inr (0, [.ref (ad E (t + 2)), .int (iI nt)]) := (hg41 (t + 1) (nx_B_root_28 hqt hbt)).trans e33
  have e51 : w38 (t + 2) = zar E 15 h := (hg41 (t + 2) (nx_B_root_29 hqt hbt)).trans e34
  have hf52 : ∀ k, k ≠ (b + 1) → k ≠ (b + 2) → k ≠ (b + 3) → w38 k = w0 k := fun k g0 g1 g2 => (hg41 k g2).trans (hf35 k g0 g1)
  have ba3 : bd a3 30 0 9999 := fun i a1 a2 => by rw [p20 i a1 a2]; decide
  refine zv_bipush hx hb d_B_root_23 rfl ?_
  refine lv_istore_n (lv' := [(3, .int (iI 10)), (0, .ref (ad E b)), (1, .ref (ad E q)), (2, .ref (ad E t))]) hx hb d_B_root_25 rfl hl (by decide) rfl (fun ls hl => ?_)
  have L26 : ∀ (fu : Nat) (i : Int) (S : Int) (c1 : Int → Int) (c2 : Int → Int) (c3 : Int → Int) (c4 : Int → Int) (ls : Array Slot) (H53 : Heap) (lc54 : List Loc) (w55 : zW), (lv_has ls 4 [(3, .int (iI i)), (0, .ref (ad E b)), (1, .ref (ad E q)), (2, .ref (ad E t))]) → (zH E w55 (va_A (wl E w0) s.heap.size) s.heap H53 lc54) → (w55 b = .inr (4, [.ref (ad E (b + 1)), .ref (ad E (b + 2)), .ref (ad E (b + 3)), .ref (ad E (b + 4))])) → (w55 (b + 1) = zar E 30 c1) → (w55 (b + 2) = zar E 30 c2) → (w55 (b + 3) = zar E 30 c3) → (w55 (b + 4) = zar E 30 c4) → (w55 q = .inr (1, [.ref (zg E (1 + kd)), .int (iI pl), .ref (ad E (q + 1))])) → (w55 (q + 1) = .inr (0, [.ref (ad E (q + 2)), .int (iI ng)])) → (w55 (q + 2) = zar E 15 f) → (w55 t = .inr (1, [.ref (zg E (1 + kt)), .int (iI pt), .ref (ad E (t + 1))])) → (w55 (t + 1) = .inr (0, [.ref (ad E (t + 2)), .int (iI nt)])) → (w55 (t + 2) = zar E 15 h) → (∀ k, k ≠ (b + 1) → k ≠ (b + 2) → k ≠ (b + 3) → k ≠ (b + 4) → w55 k = w0 k) → (bd c1 30 0 9999) → (bd c2 30 0 9999) → (bd c3 30 0 9999) → (bd c4 30 0 9999) → (-1 ≤ i ∧ i ≤ 10) → (0 ≤ S ∧ S * S ≤ V f 15 * Bp 8) → (V f 15 * Bp 8 < (S + Bp (i + 1)) * (S + Bp (i + 1))) → (S % Bp (i + 1) = 0) → (V c1 30 = V f 15 * Bp 8 - S * S) → (V c2 30 = S) → (V c3 30 = 2 * S) → (i + 1 < (fu : Int)) → W p l e rm_B_root s m a below meth cd H53 lc54 0 0 Qf (F0 m 26 ls []) := by
    intro fu
    induction fu with
    | zero => intro i S c1 c2 c3 c4 ls H53 lc54 w55 hl hH e56 e57 e58 e59 e60 e61 e62 e63 e64 e65 e66 hf67 bc1 bc2 bc3 bc4 hi hS hX hM h1 h2 h3 hm; exact absurd hm (by omega)
    | succ fu ih =>
      intro i S c1 c2 c3 c4 ls H53 lc54 w55 hl hH e56 e57 e58 e59 e60 e61 e62 e63 e64 e65 e66 hf67 bc1 bc2 bc3 bc4 hi hS hX hM h1 h2 h3 hm
      refine lv_iload_n hx hb d_B_root_26 rfl (lv_at hl 0 rfl) ?_
      refine zv_if_lt (tgt := 47) hx hb d_B_root_27 rfl (by omega) (fun h68 => ?_) (fun h68 => ?_)
      · refine zv_bipush hx hb d_B_root_47 rfl ?_
        refine zv_iconst hx hb d_B_root_49 ?_
        refine lv_aload_n hx hb d_B_root_50 rfl (lv_at hl 2 rfl) ?_
        refine zv_get (C := "ScaledNumeralDesk$Numeral") (T := TN) (N := 3) hx hb hg uN_in hown hK hH q5lt e61 rfl 2 (by decide) (hg _ wm_65) (fun _ h9 => h9) rfl d_B_root_51 ?_
        refine z_calli (va_runV (As := []) (rest := [.int (iI 2), .int (iI 16)]) ⟨hx, hb, hml, hown, hts⟩ (c_A_weight (l := l) (E := E) (w0 := w55) (q := q + 1) (f := f) (ng := ng) (q0lt := q6lt) (q1lt := q7lt) (c0 := e62) (c1 := e63) (bf := bf) H53.size) (z_cwV (C := "ScaledNumeralDesk$Amount") 0 hg wm_489 wm_486 wm_5 wm_487 wm_488 (by decide +kernel) ⟨Nat.le_of_ble_eq_true rfl, Nat.le_of_ble_eq_true rfl⟩) (z_preV (r := ("ScaledNumeralDesk$Amount", TA, 2)) hK hG hn hH hA q6lt e62 rfl) rfl rfl hl.1 rfl (lv_room (Nat.le_of_ble_eq_true rfl)) d_B_root_54 ⟨Nat.zero_le _, Nat.zero_le _⟩) hH hA (fun w w71 H69 lc70 hH72 p54 => ?_)
        obtain ⟨ew73, p54⟩ := p54
        rw [ew73] at hH72
        replace p54 : Wt (V f 15) w := p54
        have w4 := Wt_in p54
        refine zv_imul hx hb d_B_root_57 ?_
        refine zv_isub hx hb d_B_root_58 ?_
        refine lv_aload_n hx hb d_B_root_59 rfl (lv_at hl 2 rfl) ?_
        refine zv_get (C := "ScaledNumeralDesk$Numeral") (T := TN) (N := 3) hx hb hg uN_in hown hK hH72 q5lt e61 rfl 1 (by decide) (hg _ wm_60) (fun _ h9 => h9) rfl d_B_root_60 ?_
        refine z_calli (va_runS (As := [.int (iI (16 - (2 * w))), .int (iI pl)]) (rest := []) ⟨hx, hb, hml, hown, hts⟩ (c_max (l := l) (E := E) (w0 := w55) (x := 16 - (2 * w)) (y := pl) (zx := by omega) (zy := by omega) H69.size) (z_cwS 2 hg wm_275 wm_400 wm_15 wm_274 (by decide +kernel) ⟨Nat.le_of_ble_eq_true rfl, Nat.le_of_ble_eq_true rfl⟩) (z_preS hK hG hn hH72 hA) rfl rfl hl.1 rfl (lv_room (Nat.le_of_ble_eq_true rfl)) d_B_root_63 ⟨Nat.zero_le _, Nat.zero_le _⟩) hH72 hA (fun pm w76 H74 lc75 hH77 p63 => ?_)
        obtain ⟨ew78, p63⟩ := p63
        rw [ew78] at hH77
        replace p63 : pm = max (16 - (2 * w)) pl := p63
        refine lv_istore_n (lv' := [(3, .int (iI pm)), (0, .ref (ad E b)), (1, .ref (ad E q)), (2, .ref (ad E t))]) hx hb d_B_root_66 rfl hl (by decide) rfl (fun ls hl => ?_)
        refine lv_aload_n hx hb d_B_root_67 rfl (lv_at hl 1 rfl) ?_
        refine zv_get (C := "ScaledNumeralDesk$Bench") (T := TB) (N := 4) hx hb hg uB_in hown hK hH77 q0lt e56 rfl 1 (by decide) (hg _ wm_116) (fun _ h9 => h9) rfl d_B_root_68 ?_
        refine zv_bipush hx hb d_B_root_71 rfl ?_
        refine lv_iload_n hx hb d_B_root_73 rfl (lv_at hl 0 rfl) ?_
        refine zv_bipush hx hb d_B_root_74 rfl ?_
        refine z_calli (va_runS (As := [.int (iI pm), .int (iI 24)]) (rest := [.int (iI 7), .ref (ad E (b + 2))]) ⟨hx, hb, hml, hown, hts⟩ (c_min (l := l) (E := E) (w0 := w55) (x := pm) (y := 24) (zx := by omega) (zy := by omega) H74.size) (z_cwS 2 hg wm_279 wm_429 wm_15 wm_278 (by decide +kernel) ⟨Nat.le_of_ble_eq_true rfl, Nat.le_of_ble_eq_true rfl⟩) (z_preS hK hG hn hH77 hA) rfl rfl hl.1 rfl (lv_room (Nat.le_of_ble_eq_true rfl)) d_B_root_76 ⟨Nat.zero_le _, Nat.zero_le _⟩) hH77 hA (fun pz w81 H79 lc80 hH82 p76 => ?_)
        obtain ⟨ew83, p76⟩ := p76
        rw [ew83] at hH82
        replace p76 : pz = min pm (24 : Int) := p76
        have rpi := rp_in (w := w) hpl
        have e76 : pz = rp w pl := by rw [p76, p63]; rfl
        rw [← e76] at rpi
        refine zv_iconst hx hb d_B_root_79 ?_
        refine lv_aload_n hx hb d_B_root_80 rfl (lv_at hl 3 rfl) ?_
        refine z_calli (va_runS (As := [.ref (ad E (b + 2)), .int (iI 7), .int (iI pz), .int (iI 0), .ref (ad E t)]) (rest := []) ⟨hx, hb, hml, hown, hts⟩ (c_B_settle (l := l) (E := E) (w0 := w55) (y := b + 2) (u := c2) (x := 7) (ps := pz) (mn := 0) (t := t) (kt := kt) (pt := pt) (nt := nt) (h := h) (q0lt := q2lt) (q1lt := q8lt) (q2lt := q9lt) (q3lt := q10lt) (c0 := e58) (c1 := e64) (c2 := e65) (c3 := e66) (bu := bc2) (bh := bh) (hkt := by omega) (hnt := by omega) (hyt := by omega) (hx0 := by omega) (hps := by omega) (hmn := by omega) (hu := (by rw [h2]; exact S29 (sq_lt hS.1 hS.2 xx))) H79.size) (z_cwS 5 hg wm_432 wm_430 wm_8 wm_431 (by decide +kernel) ⟨Nat.le_of_ble_eq_true rfl, Nat.le_of_ble_eq_true rfl⟩) (z_preS hK hG hn hH82 hA) rfl rfl hl.1 rfl (lv_room (Nat.le_of_ble_eq_true rfl)) d_B_root_81 ⟨Nat.zero_le _, Nat.zero_le _⟩) hH82 hA (fun z88 w86 H84 lc85 hH87 p81 => ?_)
        obtain ⟨⟨u_89, k_90, p_91, n_92, f_93, e94, e95, e96, e97, bd98, bd99, p81⟩, hg100⟩ := p81
        replace bd98 : bd u_89 30 0 9999 := bd98
        replace bd99 : bd f_93 15 0 9999 := bd99
        replace p81 : k_90 < 4 ∧ (n_92 = 0 ∨ n_92 = 1) ∧ St z88 k_90 p_91 n_92 (V f_93 15) (Rn (V c2 30) ((7 : Int) * 4 - pz)) (7 : Int) pz (0 : Int) := p81
        have e101 : w86 b = .inr (4, [.ref (ad E (b + 1)), .ref (ad E (b + 2)), .ref (ad E (b + 3)), .ref (ad E (b + 4))]) := (hg100 b (nx_B_root_10 hqt hbt) (nx_B_root_30 hqt hbt) (nx_B_root_31 hqt hbt) (nx_B_root_32 hqt hbt)).trans e56
        have e102 : w86 (b + 1) = zar E 30 c1 := (hg100 (b + 1) (nx_B_root_11 hqt hbt) (nx_B_root_33 hqt hbt) (nx_B_root_34 hqt hbt) (nx_B_root_35 hqt hbt)).trans e57
        have e103 : w86 (b + 3) = zar E 30 c3 := (hg100 (b + 3) (nx_B_root_12 hqt hbt) (nx_B_root_36 hqt hbt) (nx_B_root_37 hqt hbt) (nx_B_root_38 hqt hbt)).trans e59
        have e104 : w86 (b + 4) = zar E 30 c4 := (hg100 (b + 4) (nx_B_root_13 hqt hbt) (nx_B_root_39 hqt hbt) (nx_B_root_40 hqt hbt) (nx_B_root_41 hqt hbt)).trans e60
        have e105 : w86 q = .inr (1, [.ref (zg E (1 + kd)), .int (iI pl), .ref (ad E (q + 1))]) := (hg100 q (nx_B_root_14 hqt hbt) (nx_B_root_42 hqt hbt) (nx_B_root_43 hqt hbt) (nx_B_root_44 hqt hbt)).trans e61
        have e106 : w86 (q + 1) = .inr (0, [.ref (ad E (q + 2)), .int (iI ng)]) := (hg100 (q + 1) (nx_B_root_15 hqt hbt) (nx_B_root_45 hqt hbt) (nx_B_root_46 hqt hbt) (nx_B_root_47 hqt hbt)).trans e62
        have e107 : w86 (q + 2) = zar E 15 f := (hg100 (q + 2) (nx_B_root_16 hqt hbt) (nx_B_root_48 hqt hbt) (nx_B_root_49 hqt hbt) (nx_B_root_50 hqt hbt)).trans e63
        have hf108 : ∀ k, k ≠ (b + 1) → k ≠ (b + 2) → k ≠ (b + 3) → k ≠ (b + 4) → k ≠ t → k ≠ (t + 1) → k ≠ (t + 2) → w86 k = w0 k := fun k g0 g1 g2 g3 g4 g5 g6 => (hg100 k g1 g4 g5 g6).trans (hf67 k g0 g1 g2 g3)
        rw [h2, e76] at p81
        have i9 : i = -1 := by omega
        rw [i9] at hX
        rw [hQ]
        exact z_iret hx hb hr hlk hH87 (⟨⟨c1, u_89, c3, c4, k_90, p_91, n_92, f_93, e102, e94, e103, e104, e95, e96, e97, bc1, bd98, bc3, bc4, bd99, ⟨p81.1, p81.2.1, S, w, hS.1, hS.2, hX, p54, p81.2.2⟩⟩, (fun k g0 g1 g2 g3 g4 g5 g6 => hf108 k g0 g1 g2 g3 g4 g5 g6)⟩) d_B_root_84
      · refine lv_aload_n hx hb d_B_root_30 rfl (lv_at hl 1 rfl) ?_
        refine zv_get (C := "ScaledNumeralDesk$Bench") (T := TB) (N := 4) hx hb hg uB_in hown hK hH q0lt e56 rfl 1 (by decide) (hg _ wm_116) (fun _ h9 => h9) rfl d_B_root_31 ?_
        refine lv_iload_n hx hb d_B_root_34 rfl (lv_at hl 0 rfl) ?_
        refine lv_aload_n hx hb d_B_root_35 rfl (lv_at hl 1 rfl) ?_
        refine lv_iload_n hx hb d_B_root_36 rfl (lv_at hl 0 rfl) ?_
        refine z_calli (va_runV (As := [.int (iI i)]) (rest := [.int (iI i), .ref (ad E (b + 2))]) ⟨hx, hb, hml, hown, hts⟩ (c_B_nextLimb (l := l) (E := E) (w0 := w55) (b := b) (r1 := c1) (r2 := c2) (r3 := c3) (r4 := c4) (i := i) (S := S) (q0lt := q0lt) (q1lt := q1lt) (q2lt := q2lt) (q3lt := q3lt) (q4lt := q4lt) (c0 := e56) (c1 := e57) (c2 := e58) (c3 := e59) (c4 := e60) (br1 := bc1) (br2 := bc2) (br3 := bc3) (br4 := bc4) (hi := by omega) (hS := ⟨hS.1, sq_lt hS.1 hS.2 xx⟩) (hD := h3) (hM := hM) H53.size) (z_cwV (C := "ScaledNumeralDesk$Bench") 1 hg wm_559 wm_556 wm_8 wm_558 wm_s25 (by decide +kernel) ⟨Nat.le_of_ble_eq_true rfl, Nat.le_of_ble_eq_true rfl⟩) (z_preV (r := ("ScaledNumeralDesk$Bench", TB, 4)) hK hG hn hH hA q0lt e56 rfl) rfl rfl hl.1 rfl (lv_room (Nat.le_of_ble_eq_true rfl)) d_B_root_37 ⟨Nat.zero_le _, Nat.zero_le _⟩) hH hA (fun zz w111 H109 lc110 hH112 p37 => ?_)
        obtain ⟨⟨r_113, r_114, r_115, e116, e117, e118, bd119, bd120, bd121, p37⟩, hg122⟩ := p37
        replace bd119 : bd r_113 30 0 9999 := bd119
        replace bd120 : bd r_114 30 0 9999 := bd120
        replace bd121 : bd r_115 30 0 9999 := bd121
        replace p37 : 0 ≤ zz ∧ zz ≤ 9999 ∧ Pf S i (V c1 30) zz ∧ (∀ l : Int, 0 ≤ l → l ≤ 9999 → Pf S i (V c1 30) l → l ≤ zz) ∧ V r_113 30 = V c1 30 - Pv S i zz ∧ V r_114 30 = 2 * (S + zz * Bp i) := p37
        have e123 : w111 b = .inr (4, [.ref (ad E (b + 1)), .ref (ad E (b + 2)), .ref (ad E (b + 3)), .ref (ad E (b + 4))]) := (hg122 b (nx_B_root_0 hqt hbt) (nx_B_root_20 hqt hbt) (nx_B_root_51 hqt hbt)).trans e56
        have e124 : w111 (b + 2) = zar E 30 c2 := (hg122 (b + 2) (nx_B_root_1 hqt hbt) (nx_B_root_22 hqt hbt) (nx_B_root_52 hqt hbt)).trans e58
        have e125 : w111 q = .inr (1, [.ref (zg E (1 + kd)), .int (iI pl), .ref (ad E (q + 1))]) := (hg122 q (nx_B_root_4 hqt hbt) (nx_B_root_24 hqt hbt) (nx_B_root_53 hqt hbt)).trans e61
        have e126 : w111 (q + 1) = .inr (0, [.ref (ad E (q + 2)), .int (iI ng)]) := (hg122 (q + 1) (nx_B_root_5 hqt hbt) (nx_B_root_25 hqt hbt) (nx_B_root_54 hqt hbt)).trans e62
        have e127 : w111 (q + 2) = zar E 15 f := (hg122 (q + 2) (nx_B_root_6 hqt hbt) (nx_B_root_26 hqt hbt) (nx_B_root_55 hqt hbt)).trans e63
        have e128 : w111 t = .inr (1, [.ref (zg E (1 + kt)), .int (iI pt), .ref (ad E (t + 1))]) := (hg122 t (nx_B_root_7 hqt hbt) (nx_B_root_27 hqt hbt) (nx_B_root_56 hqt hbt)).trans e64
        have e129 : w111 (t + 1) = .inr (0, [.ref (ad E (t + 2)), .int (iI nt)]) := (hg122 (t + 1) (nx_B_root_8 hqt hbt) (nx_B_root_28 hqt hbt) (nx_B_root_57 hqt hbt)).trans e65
        have e130 : w111 (t + 2) = zar E 15 h := (hg122 (t + 2) (nx_B_root_9 hqt hbt) (nx_B_root_29 hqt hbt) (nx_B_root_58 hqt hbt)).trans e66
        have hf131 : ∀ k, k ≠ (b + 1) → k ≠ (b + 2) → k ≠ (b + 3) → k ≠ (b + 4) → w111 k = w0 k := fun k g0 g1 g2 g3 => (hg122 k g0 g2 g3).trans (hf67 k g0 g1 g2 g3)
        have z2 := V_mod bc2 (i := i + 1) (by omega) (by omega) (by rw [h2]; exact hM) i (by omega) (by omega)
        have pz9 : Pv S i zz ≤ V f 15 * Bp 8 - S * S := by have := p37.2.2.1; unfold Pf at this; omega
        rw [Pv_sq] at pz9
        have nn : 0 ≤ zz * Bp i := Int.mul_nonneg p37.1 (Int.le_of_lt (Bp_pos i))
        refine zv_iast hx hb hK hH112 q2lt e124 (by omega) (by omega) (by omega) d_B_root_40 (fun H133 lc134 w132 hH135 e136 hg137 => ?_)
        have bd138 := bd_up bc2 i zz (by omega)
        have e139 : w132 b = .inr (4, [.ref (ad E (b + 1)), .ref (ad E (b + 2)), .ref (ad E (b + 3)), .ref (ad E (b + 4))]) := (hg137 b (nx_B_root_10 hqt hbt)).trans e123
        have e140 : w132 (b + 1) = zar E 30 r_113 := (hg137 (b + 1) (nx_B_root_11 hqt hbt)).trans e116
        have e141 : w132 (b + 3) = zar E 30 r_114 := (hg137 (b + 3) (nx_B_root_12 hqt hbt)).trans e117
        have e142 : w132 (b + 4) = zar E 30 r_115 := (hg137 (b + 4) (nx_B_root_13 hqt hbt)).trans e118
        have e143 : w132 q = .inr (1, [.ref (zg E (1 + kd)), .int (iI pl), .ref (ad E (q + 1))]) := (hg137 q (nx_B_root_14 hqt hbt)).trans e125
        have e144 : w132 (q + 1) = .inr (0, [.ref (ad E (q + 2)), .int (iI ng)]) := (hg137 (q + 1) (nx_B_root_15 hqt hbt)).trans e126
        have e145 : w132 (q + 2) = zar E 15 f := (hg137 (q + 2) (nx_B_root_16 hqt hbt)).trans e127
        have e146 : w132 t = .inr (1, [.ref (zg E (1 + kt)), .int (iI pt), .ref (ad E (t + 1))]) := (hg137 t (nx_B_root_17 hqt hbt)).trans e128
        have e147 : w132 (t + 1) = .inr (0, [.ref (ad E (t + 2)), .int (iI nt)]) := (hg137 (t + 1) (nx_B_root_18 hqt hbt)).trans e129
        have e148 : w132 (t + 2) = zar E 15 h := (hg137 (t + 2) (nx_B_root_19 hqt hbt)).trans e130
        have hf149 : ∀ k, k ≠ (b + 1) → k ≠ (b + 2) → k ≠ (b + 3) → k ≠ (b + 4) → w132 k = w0 k := fun k g0 g1 g2 g3 => (hg137 k g1).trans (hf131 k g0 g1 g2 g3)
        refine zv_iinc (k := 0) (lv' := [(3, .int (iI (i + (-1)))), (0, .ref (ad E b)), (1, .ref (ad E q)), (2, .ref (ad E t))]) hx hb d_B_root_41 hl rfl (by decide) rfl (fun ls hl => ?_)
        refine lv_goto (tgt := 26) hx hb d_B_root_44 rfl ?_
        exact ih  (i + (-1)) (S + zz * Bp i) r_113 (up c2 i zz) r_114 r_115 _ H133 lc134 w132 (lv_sub hl [0, 1, 2, 3] rfl) hH135 e139 e140 e136 e141 e142 e143 e144 e145 e146 e147 e148 (fun k g0 g1 g2 g3 => hf149 k g0 g1 g2 g3) (by assumption) (by assumption) (by assumption) (by assumption) (by omega) (by exact ⟨by omega, by omega⟩) (by rw [show i + (-1) + 1 = i by omega]; exact rt_next hS.1 (by omega) hX ⟨p37.1, p37.2.1⟩ (by rw [← h1]; exact p37.2.2.2.1)) (by rw [show i + (-1) + 1 = i by omega]; exact mod_step (by omega) hM) (by rw [p37.2.2.2.2.1, h1, Pv_sq]; omega) (by rw [V_set c2 (by omega) (by omega), z2, h2]; omega) (by exact p37.2.2.2.2.2) (by omega)
  exact L26 ((10 + 1 : Int).toNat + 1) 10 0 a1 a2 a3 r4 _ H36 lc37 w38 (lv_sub hl [0, 1, 2, 3] rfl) hH39 e42 e43 e44 e40 e45 e46 e47 e48 e49 e50 e51 (fun k g0 g1 g2 g3 => hf52 k g0 g1 g2) (by assumption) (by exact ba2) (by exact ba3) (by exact br4) (by omega) (by exact ⟨Int.le_refl 0, by omega⟩) (by show _ < (0 + Bp 11) * (0 + Bp 11); rw [Int.zero_add, ← Bp_add (i := 11) (j := 11) (by decide) (by decide)]; exact xx) (by exact Int.zero_emod _) (by rw [p4]; omega) (by exact V_zero (by decide) p12) (by rw [V_zero (by decide) p20]; rfl) (by omega)
