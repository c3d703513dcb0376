theorem nx_U_finite_0 {q y : Nat} (hyq : y + 1 < q) : y ≠ q := by omega
theorem nx_U_finite_1 {q y : Nat} (hyq : y + 1 < q) : y ≠ q + 1 := by omega
theorem nx_U_finite_2 {q y : Nat} (hyq : y + 1 < q) : y ≠ q + 2 := by omega
theorem nx_U_finite_3 {q y : Nat} (hyq : y + 1 < q) : y + 1 ≠ q := by omega
theorem nx_U_finite_4 {q y : Nat} (hyq : y + 1 < q) : y + 1 ≠ q + 1 := by omega
theorem nx_U_finite_5 {q y : Nat} (hyq : y + 1 < q) : y + 1 ≠ q + 2 := by omega
theorem nx_U_finite_6 {q y : Nat} (hyq : y + 1 < q) : q + 1 ≠ q := by omega
theorem nx_U_finite_7 {q y : Nat} (hyq : y + 1 < q) : q + 2 ≠ q := by omega
theorem nx_U_finite_8 {q y : Nat} (hyq : y + 1 < q) : q ≠ q + 2 := by omega
theorem nx_U_finite_9 {q y : Nat} (hyq : y + 1 < q) : q + 1 ≠ q + 2 := by omega
theorem nx_U_finite_10 {q y : Nat} (hyq : y + 1 < q) : q ≠ q + 1 := by omega
theorem nx_U_finite_11 {q y : Nat} (hyq : y + 1 < q) : q + 2 ≠ q + 1 := by omega
def rm_U_finite : Room := { frames := 4, cells := 0, slots := 0, locals := 85 }
set_option maxHeartbeats 4000000 in
set_option maxRecDepth 100000 in
theorem c_U_finite (l : Launch) (E : zE) (w0 : zW) (y : Nat) (us : Int) (ch : Int → Int) (q : Nat) (kd : Nat) (pl ng : Int) (f : Int → Int) (st1 mn : Int) (q0lt : y < zn E) (q1lt : y + 1 < zn E) (q2lt : q < zn E) (q3lt : q + 1 < zn E) (q4lt : q + 2 < zn E) (c0 : w0 y = .inr (3, [.ref (ad E (y + 1)), .int (iI us)])) (c1 : w0 (y + 1) = zac E 80 ch) (c2 : w0 q = .inr (1, [.ref (zg E (1 + kd)), .int (iI pl), .ref (ad E (q + 1))])) (c3 : w0 (q + 1) = .inr (0, [.ref (ad E (q + 2)), .int (iI ng)])) (c4 : w0 (q + 2) = zar E 15 f) (bch : bd ch 80 0 126) (hus : 0 ≤ us ∧ us ≤ 80) (bf : bd f 15 0 9999) (hkd : kd < 4) (hng : ng = 0 ∨ ng = 1) (hse : 0 ≤ st1 ∧ st1 ≤ us) (hmn : mn = 0 ∨ mn = 1) (hyq : y + 1 < q) : zM l y_U_readFinite ws_U_readFinite rm_U_finite E [.ref (ad E y), .int (iI st1), .int (iI mn), .ref (ad E q)] w0 (zQi E w0 (fun z w' => (∃ (k' : Nat) (p' : Int) (n' : Int) (f' : Int → Int), w' q = .inr (1, [.ref (zg E (1 + k')), .int (iI p'), .ref (ad E (q + 1))]) ∧ w' (q + 1) = .inr (0, [.ref (ad E (q + 2)), .int (iI n')]) ∧ w' (q + 2) = zar E 15 f' ∧ bd f' 15 0 9999 ∧ (k' < 4 ∧ (n' = 0 ∨ n' = 1) ∧ RfR ch us st1 mn z k' p' n' (V f' 15))) ∧ ∀ k, k ≠ q → k ≠ (q + 1) → k ≠ (q + 2) → w' k = w0 k)) := by
  refine z_met (cc := b_U_readFinite) (maxL := 11) (ret := (some .int)) (by decide +kernel) rfl (Nat.le_of_ble_eq_true rfl) ?_
  intro p e s m below meth cd ls a Qf hQ hC hl hH
  obtain ⟨hF, hr, hlk, hK, hG, hn⟩ := hC
  obtain ⟨hx, hb, hml, hown, hts⟩ := hF
  have hg : ∀ w ∈ GW, w.before a s = true := fun w h => hts w (List.mem_cons_of_mem _ h)
  have hA : ∀ q, s.heap.size ≤ q → va_A (wl E w0) s.heap.size q := fun q h => Or.inr h
  have hl : lv_has ls 11 [(0, .ref (ad E y)), (1, .int (iI st1)), (2, .int (iI mn)), (3, .ref (ad E q))] := hl
  refine lv_aload_n hx hb d_U_readFinite_0 rfl (lv_at hl 0 rfl) ?_
  refine lv_iload_n hx hb d_U_readFinite_1 rfl (lv_at hl 1 rfl) ?_
  refine z_calli (va_runV (As := [.int (iI st1)]) (rest := []) ⟨hx, hb, hml, hown, hts⟩ (c_U_end (l := l) (E := E) (w0 := w0) (y := y) (us := us) (ch := ch) (st1 := st1) (q0lt := q0lt) (q1lt := q1lt) (c0 := c0) (c1 := c1) (bch := bch) (hus := by omega) (hse := by omega) s.heap.size) (z_cwV (C := "ScaledNumeralDesk$Buffer") 1 hg wm_260 wm_257 wm_7 wm_259 wm_s3 (by decide +kernel) ⟨Nat.le_of_ble_eq_true rfl, Nat.le_of_ble_eq_true rfl⟩) (z_preV (r := ("ScaledNumeralDesk$Buffer", TU, 2)) hK hG hn hH hA q0lt c0 rfl) rfl rfl hl.1 rfl (lv_room (Nat.le_of_ble_eq_true rfl)) d_U_readFinite_2 ⟨Nat.zero_le _, Nat.zero_le _⟩) hH hA (fun e1 w3 H1 lc2 hH4 p2 => ?_)
  obtain ⟨ew5, p2⟩ := p2
  rw [ew5] at hH4
  replace p2 : st1 ≤ e1 ∧ e1 ≤ us ∧ ∃ pt : Int, NumR ch us st1 e1 pt := p2
  obtain ⟨p2a, p2b, pt0, nr⟩ := p2
  refine lv_istore (lv' := [(4, .int (iI e1)), (0, .ref (ad E y)), (1, .int (iI st1)), (2, .int (iI mn)), (3, .ref (ad E q))]) hx hb d_U_readFinite_5 hl (by decide) rfl (fun ls hl => ?_)
  refine lv_aload_n hx hb d_U_readFinite_7 rfl (lv_at hl 1 rfl) ?_
  refine lv_iload_n hx hb d_U_readFinite_8 rfl (lv_at hl 2 rfl) ?_
  refine lv_iload hx hb d_U_readFinite_9 (lv_at hl 0 rfl) ?_
  refine z_calli (va_runV (As := [.int (iI st1), .int (iI e1)]) (rest := []) ⟨hx, hb, hml, hown, hts⟩ (c_U_point (l := l) (E := E) (w0 := w0) (y := y) (us := us) (ch := ch) (st1 := st1) (en := e1) (q0lt := q0lt) (q1lt := q1lt) (c0 := c0) (c1 := c1) (bch := bch) (hus := by omega) (hse := by omega) H1.size) (z_cwV (C := "ScaledNumeralDesk$Buffer") 2 hg wm_268 wm_265 wm_7 wm_267 wm_s5 (by decide +kernel) ⟨Nat.le_of_ble_eq_true rfl, Nat.le_of_ble_eq_true rfl⟩) (z_preV (r := ("ScaledNumeralDesk$Buffer", TU, 2)) hK hG hn hH4 hA q0lt c0 rfl) rfl rfl hl.1 rfl (lv_room (Nat.le_of_ble_eq_true rfl)) d_U_readFinite_11 ⟨Nat.zero_le _, Nat.zero_le _⟩) hH4 hA (fun pt w8 H6 lc7 hH9 p11 => ?_)
  obtain ⟨ew10, p11⟩ := p11
  rw [ew10] at hH9
  replace p11 : st1 ≤ pt ∧ pt ≤ e1 ∧ (∀ j : Int, st1 ≤ j → j < pt → ch j ≠ 46) ∧ (pt < e1 → ch pt = 46) := p11
  have epp := NumR_pt nr p11.1 p11.2.1 p11.2.2.1 p11.2.2.2
  rw [epp] at nr
  clear epp
  refine lv_istore (lv' := [(5, .int (iI pt)), (4, .int (iI e1)), (0, .ref (ad E y)), (1, .int (iI st1)), (2, .int (iI mn)), (3, .ref (ad E q))]) hx hb d_U_readFinite_14 hl (by decide) rfl (fun ls hl => ?_)
  refine lv_iload hx hb d_U_readFinite_16 (lv_at hl 1 rfl) ?_
  refine lv_iload_n hx hb d_U_readFinite_18 rfl (lv_at hl 3 rfl) ?_
  refine zv_isub hx hb d_U_readFinite_19 ?_
  have L32 : ∀ (fl : Int) (ls : Array Slot) (H11 : Heap) (lc12 : List Loc), (lv_has ls 11 [(5, .int (iI pt)), (4, .int (iI e1)), (0, .ref (ad E y)), (1, .int (iI st1)), (2, .int (iI mn)), (3, .ref (ad E q))]) → (zH E w0 (va_A (wl E w0) s.heap.size) s.heap H11 lc12) → ((fl = 1 ∧ pt < e1) ∨ (fl = 0 ∧ e1 ≤ pt)) → W p l e rm_U_finite s m a below meth cd H11 lc12 0 0 Qf (F0 m 32 ls [.int (iI fl), .int (iI (e1 - st1))]) := by
    intro fl ls H11 lc12 hl hH hfl
    have hcn : Cn pt st1 e1 = e1 - st1 - fl := by rcases hfl with h9 | h9; rw [Cn_y h9.2, h9.1]; rw [Cn_n h9.2, h9.1]
    refine zv_isub hx hb d_U_readFinite_32 ?_
    refine lv_istore (lv' := [(6, .int (iI ((e1 - st1) - fl))), (5, .int (iI pt)), (4, .int (iI e1)), (0, .ref (ad E y)), (1, .int (iI st1)), (2, .int (iI mn)), (3, .ref (ad E q))]) hx hb d_U_readFinite_33 hl (by decide) rfl (fun ls hl => ?_)
    refine lv_aload_n hx hb d_U_readFinite_35 rfl (lv_at hl 3 rfl) ?_
    refine lv_iload hx hb d_U_readFinite_36 (lv_at hl 2 rfl) ?_
    refine z_calli (va_runV (As := [.int (iI e1)]) (rest := []) ⟨hx, hb, hml, hown, hts⟩ (c_U_exp (l := l) (E := E) (w0 := w0) (y := y) (us := us) (ch := ch) (e1 := e1) (q0lt := q0lt) (q1lt := q1lt) (c0 := c0) (c1 := c1) (bch := bch) (hus := by omega) (he1 := by omega) H11.size) (z_cwV (C := "ScaledNumeralDesk$Buffer") 1 hg wm_272 wm_269 wm_7 wm_271 wm_s6 (by decide +kernel) ⟨Nat.le_of_ble_eq_true rfl, Nat.le_of_ble_eq_true rfl⟩) (z_preV (r := ("ScaledNumeralDesk$Buffer", TU, 2)) hK hG hn hH hA q0lt c0 rfl) rfl rfl hl.1 rfl (lv_room (Nat.le_of_ble_eq_true rfl)) d_U_readFinite_38 ⟨Nat.zero_le _, Nat.zero_le _⟩) hH hA (fun x1 w15 H13 lc14 hH16 p38 => ?_)
    obtain ⟨ew17, p38⟩ := p38
    rw [ew17] at hH16
    replace p38 : ExpR ch us e1 x1 ∧ -999 ≤ x1 ∧ x1 ≤ 1000 := p38
    refine lv_istore (lv' := [(7, .int (iI x1)), (6, .int (iI ((e1 - st1) - fl))), (5, .int (iI pt)), (4, .int (iI e1)), (0, .ref (ad E y)), (1, .int (iI st1)), (2, .int (iI mn)), (3, .ref (ad E q))]) hx hb d_U_readFinite_41 hl (by decide) rfl (fun ls hl => ?_)
    refine lv_iload hx hb d_U_readFinite_43 (lv_at hl 1 rfl) ?_
    refine zv_if_eq (tgt := 56) hx hb d_U_readFinite_45 rfl (by omega) (fun h18 => ?_) (fun h18 => ?_)
    · refine zv_bipush hx hb d_U_readFinite_56 rfl ?_
      rw [hQ]
      exact z_iret hx hb hr hlk hH16 (⟨⟨kd, pl, ng, f, c2, c3, c4, bf, ⟨hkd, hng, e1, pt, x1, nr, p38.1, Or.inl ⟨rfl, by omega⟩⟩⟩, (fun k _ _ _ => rfl)⟩) d_U_readFinite_58
    · refine lv_iload hx hb d_U_readFinite_48 (lv_at hl 0 rfl) ?_
      refine zv_sipush hx hb d_U_readFinite_50 rfl ?_
      refine zv_icmp_ne (tgt := 59) hx hb d_U_readFinite_53 rfl (by omega) (by omega) (fun h19 => ?_) (fun h19 => ?_)
      · refine lv_iload hx hb d_U_readFinite_59 (lv_at hl 3 rfl) ?_
        refine lv_iload hx hb d_U_readFinite_61 (lv_at hl 2 rfl) ?_
        refine zv_isub hx hb d_U_readFinite_63 ?_
        refine zv_iconst hx hb d_U_readFinite_64 ?_
        refine zv_isub hx hb d_U_readFinite_65 ?_
        refine zv_iconst hx hb d_U_readFinite_66 ?_
        refine z_calli (va_runS (As := [.int (iI ((e1 - pt) - 1)), .int (iI 0)]) (rest := []) ⟨hx, hb, hml, hown, hts⟩ (c_max (l := l) (E := E) (w0 := w0) (x := (e1 - pt) - 1) (y := 0) (zx := by omega) (zy := by omega) H13.size) (z_cwS 2 hg wm_275 wm_273 wm_15 wm_274 (by decide +kernel) ⟨Nat.le_of_ble_eq_true rfl, Nat.le_of_ble_eq_true rfl⟩) (z_preS hK hG hn hH16 hA) rfl rfl hl.1 rfl (lv_room (Nat.le_of_ble_eq_true rfl)) d_U_readFinite_67 ⟨Nat.zero_le _, Nat.zero_le _⟩) hH16 hA (fun bh1 w22 H20 lc21 hH23 p67 => ?_)
        obtain ⟨ew24, p67⟩ := p67
        rw [ew24] at hH23
        replace p67 : bh1 = max ((e1 - pt) - 1) (0 : Int) := p67
        have b67 : 0 ≤ bh1 ∧ bh1 ≤ 80 := by omega
        replace p67 : bh1 = mx0 (e1 - pt - 1) := p67
        refine lv_istore (lv' := [(8, .int (iI bh1)), (7, .int (iI x1)), (6, .int (iI ((e1 - st1) - fl))), (5, .int (iI pt)), (4, .int (iI e1)), (0, .ref (ad E y)), (1, .int (iI st1)), (2, .int (iI mn)), (3, .ref (ad E q))]) hx hb d_U_readFinite_70 hl (by decide) rfl (fun ls hl => ?_)
        refine lv_iload hx hb d_U_readFinite_72 (lv_at hl 0 rfl) ?_
        refine lv_iload hx hb d_U_readFinite_74 (lv_at hl 1 rfl) ?_
        refine zv_isub hx hb d_U_readFinite_76 ?_
        refine lv_istore (lv' := [(9, .int (iI (bh1 - x1))), (8, .int (iI bh1)), (7, .int (iI x1)), (6, .int (iI ((e1 - st1) - fl))), (5, .int (iI pt)), (4, .int (iI e1)), (0, .ref (ad E y)), (1, .int (iI st1)), (2, .int (iI mn)), (3, .ref (ad E q))]) hx hb d_U_readFinite_77 hl (by decide) rfl (fun ls hl => ?_)
        refine lv_aload_n hx hb d_U_readFinite_79 rfl (lv_at hl 9 rfl) ?_
        refine zv_kind hx hb hG hH23 hown 1 (by decide) (hg _ wm_276) (fun _ h9 => h9) d_U_readFinite_80 ?_
        refine z_callv (va_runV (As := [.ref (zg E (1 + 1))]) (rest := []) ⟨hx, hb, hml, hown, hts⟩ (c_N_become (l := l) (E := E) (w0 := w0) (q := q) (kd := kd) (k2 := 1) (pl := pl) (ng := ng) (f := f) (q0lt := q2lt) (q1lt := q3lt) (q2lt := q4lt) (c0 := c2) (c1 := c3) (c2 := c4) (bf := bf) (hkd := by omega) (hng := by omega) H20.size) (z_cwV (C := "ScaledNumeralDesk$Numeral") 1 hg wm_230 wm_227 wm_2 wm_228 wm_229 (by decide +kernel) ⟨Nat.le_of_ble_eq_true rfl, Nat.le_of_ble_eq_true rfl⟩) (z_preV (r := ("ScaledNumeralDesk$Numeral", TN, 3)) hK hG hn hH23 hA q2lt c2 rfl) rfl rfl hl.1 rfl (lv_room (Nat.le_of_ble_eq_true rfl)) d_U_readFinite_83 ⟨Nat.zero_le _, Nat.zero_le _⟩) hH23 hA (fun  w27 H25 lc26 hH28 p83 => ?_)
        obtain ⟨⟨f1, e29, e30, e31, bd32, p83⟩, hg33⟩ := p83
        replace bd32 : bd f1 15 0 9999 := bd32
        replace p83 : ∀ j : Int, 0 ≤ j → j < 15 → f1 j = 0 := p83
        have e34 : w27 y = .inr (3, [.ref (ad E (y + 1)), .int (iI us)]) := (hg33 y (nx_U_finite_0 hyq) (nx_U_finite_1 hyq) (nx_U_finite_2 hyq)).trans c0
        have e35 : w27 (y + 1) = zac E 80 ch := (hg33 (y + 1) (nx_U_finite_3 hyq) (nx_U_finite_4 hyq) (nx_U_finite_5 hyq)).trans c1
        have hf36 : ∀ k, k ≠ q → k ≠ (q + 1) → k ≠ (q + 2) → w27 k = w0 k := fun k g0 g1 g2 => hg33 k g0 g1 g2
        refine lv_aload_n hx hb d_U_readFinite_86 rfl (lv_at hl 9 rfl) ?_
        refine zv_iconst hx hb d_U_readFinite_87 ?_
        refine lv_iload hx hb d_U_readFinite_88 (lv_at hl 0 rfl) ?_
        refine zv_bipush hx hb d_U_readFinite_90 rfl ?_
        refine z_calli (va_runS (As := [.int (iI (bh1 - x1)), .int (iI 24)]) (rest := [.int (iI 0), .ref (ad E q)]) ⟨hx, hb, hml, hown, hts⟩ (c_min (l := l) (E := E) (w0 := w27) (x := bh1 - x1) (y := 24) (zx := by omega) (zy := by omega) H25.size) (z_cwS 2 hg wm_279 wm_277 wm_15 wm_278 (by decide +kernel) ⟨Nat.le_of_ble_eq_true rfl, Nat.le_of_ble_eq_true rfl⟩) (z_preS hK hG hn hH28 hA) rfl rfl hl.1 rfl (lv_room (Nat.le_of_ble_eq_true rfl)) d_U_readFinite_92 ⟨Nat.zero_le _, Nat.zero_le _⟩) hH28 hA (fun m92 w39 H37 lc38 hH40 p92 => ?_)
        obtain ⟨ew41, p92⟩ := p92
        rw [ew41] at hH40
        replace p92 : m92 = min (bh1 - x1) (24 : Int) := p92
        refine z_calli (va_runS (As := [.int (iI 0), .int (iI m92)]) (rest := [.ref (ad E q)]) ⟨hx, hb, hml, hown, hts⟩ (c_max (l := l) (E := E) (w0 := w27) (x := 0) (y := m92) (zx := by omega) (zy := by omega) H37.size) (z_cwS 2 hg wm_275 wm_273 wm_15 wm_274 (by decide +kernel) ⟨Nat.le_of_ble_eq_true rfl, Nat.le_of_ble_eq_true rfl⟩) (z_preS hK hG hn hH40 hA) rfl rfl hl.1 rfl (lv_room (Nat.le_of_ble_eq_true rfl)) d_U_readFinite_95 ⟨Nat.zero_le _, Nat.zero_le _⟩) hH40 hA (fun m95 w44 H42 lc43 hH45 p95 => ?_)
        obtain ⟨ew46, p95⟩ := p95
        rw [ew46] at hH45
        replace p95 : m95 = max (0 : Int) m92 := p95
        have e95 : m95 = cl24 (bh1 - x1) := by rw [p95, p92]; rfl
        have c95 := cl24_in (bh1 - x1)
        rw [← e95] at c95
        clear p95 p92
        refine zv_put (C := "ScaledNumeralDesk$Numeral") (T := TN) (N := 3) (fs' := [.ref (zg E (1 + 1)), .int (iI m95), .ref (ad E (q + 1))]) hx hb hg uN_in tyN tyN_ok nmN hown hK hH45 q2lt e29 rfl 1 (by decide) (hg _ wm_61) (fun _ h9 => h9) rfl (ty := tyN 1) (by decide +kernel) (rfl) (by rfl) (Nat.le_of_ble_eq_true rfl) d_U_readFinite_98 rfl (fun H48 lc49 w47 hH50 e51 hg52 => ?_)
        have e53 : w47 y = .inr (3, [.ref (ad E (y + 1)), .int (iI us)]) := (hg52 y (nx_U_finite_0 hyq)).trans e34
        have e54 : w47 (y + 1) = zac E 80 ch := (hg52 (y + 1) (nx_U_finite_3 hyq)).trans e35
        have e55 : w47 (q + 1) = .inr (0, [.ref (ad E (q + 2)), .int (iI 0)]) := (hg52 (q + 1) (nx_U_finite_6 hyq)).trans e30
        have e56 : w47 (q + 2) = zar E 15 f1 := (hg52 (q + 2) (nx_U_finite_7 hyq)).trans e31
        have hf57 : ∀ k, k ≠ q → k ≠ (q + 1) → k ≠ (q + 2) → w47 k = w0 k := fun k g0 g1 g2 => (hg52 k g0).trans (hf36 k g0 g1 g2)
        refine lv_aload_n hx hb d_U_readFinite_101 rfl (lv_at hl 6 rfl) ?_
        refine lv_iload_n hx hb d_U_readFinite_102 rfl (lv_at hl 7 rfl) ?_
        refine lv_iload hx hb d_U_readFinite_103 (lv_at hl 5 rfl) ?_
        refine lv_iload hx hb d_U_readFinite_105 (lv_at hl 3 rfl) ?_
        refine zv_iconst hx hb d_U_readFinite_107 ?_
        refine zv_isub hx hb d_U_readFinite_108 ?_
        refine zv_bipush hx hb d_U_readFinite_109 rfl ?_
        refine zv_iadd hx hb d_U_readFinite_111 ?_
        refine lv_iload hx hb d_U_readFinite_112 (lv_at hl 0 rfl) ?_
        refine zv_isub hx hb d_U_readFinite_114 ?_
        refine lv_aload_n hx hb d_U_readFinite_115 rfl (lv_at hl 9 rfl) ?_
        refine zv_get (C := "ScaledNumeralDesk$Numeral") (T := TN) (N := 3) hx hb hg uN_in hown hK hH50 q2lt e51 rfl 2 (by decide) (hg _ wm_67) (fun _ h9 => h9) rfl d_U_readFinite_116 ?_
        refine zv_get (C := "ScaledNumeralDesk$Amount") (T := TA) (N := 2) hx hb hg uA_in hown hK hH50 q3lt e55 rfl 0 (by decide) (hg _ wm_43) (fun _ h9 => h9) rfl d_U_readFinite_119 ?_
        refine z_calli (va_runV (As := [.int (iI st1), .int (iI e1), .int (iI (((((e1 - st1) - fl) - 1) + 24) - (bh1 - x1))), .ref (ad E (q + 2))]) (rest := []) ⟨hx, hb, hml, hown, hts⟩ (c_U_place (l := l) (E := E) (w0 := w47) (y := y) (us := us) (ch := ch) (lq := q + 2) (st1 := st1) (en := e1) (fi := ((((e1 - st1) - fl) - 1) + 24) - (bh1 - x1)) (pt := pt) (f := f1) (q0lt := q0lt) (q1lt := q1lt) (q2lt := q4lt) (c0 := e53) (c1 := e54) (c2 := e56) (bch := bch) (hus := by omega) (bf := bd32) (hly := by omega) (hN := nr) (h0 := by omega) (hfi := (by omega)) (hf0 := (V0_of p83)) H48.size) (z_cwV (C := "ScaledNumeralDesk$Buffer") 4 hg wm_283 wm_280 wm_7 wm_282 wm_s7 (by decide +kernel) ⟨Nat.le_of_ble_eq_true rfl, Nat.le_of_ble_eq_true rfl⟩) (z_preV (r := ("ScaledNumeralDesk$Buffer", TU, 2)) hK hG hn hH50 hA q0lt e53 rfl) rfl rfl hl.1 rfl (lv_room (Nat.le_of_ble_eq_true rfl)) d_U_readFinite_122 ⟨Nat.zero_le _, Nat.zero_le _⟩) hH50 hA (fun h122 w60 H58 lc59 hH61 p122 => ?_)
        obtain ⟨⟨f2, e62, bd63, p122⟩, hg64⟩ := p122
        replace bd63 : bd f2 15 0 9999 := bd63
        replace p122 : (h122 = 0 ∧ BigR (Dg ch pt st1 e1) ((((((e1 - st1) - fl) - 1) + 24) - (bh1 - x1)) + 1 - Cn pt st1 e1)) ∨ (h122 = 1 ∧ V f2 15 = PdV (Dg ch pt st1 e1) ((((((e1 - st1) - fl) - 1) + 24) - (bh1 - x1)) + 1 - Cn pt st1 e1) ∧ V f2 15 ≤ Tp 56) := p122
        have e65 : w60 y = .inr (3, [.ref (ad E (y + 1)), .int (iI us)]) := (hg64 y (nx_U_finite_2 hyq)).trans e53
        have e66 : w60 (y + 1) = zac E 80 ch := (hg64 (y + 1) (nx_U_finite_5 hyq)).trans e54
        have e67 : w60 q = .inr (1, [.ref (zg E (1 + 1)), .int (iI m95), .ref (ad E (q + 1))]) := (hg64 q (nx_U_finite_8 hyq)).trans e51
        have e68 : w60 (q + 1) = .inr (0, [.ref (ad E (q + 2)), .int (iI 0)]) := (hg64 (q + 1) (nx_U_finite_9 hyq)).trans e55
        have hf69 : ∀ k, k ≠ q → k ≠ (q + 1) → k ≠ (q + 2) → w60 k = w0 k := fun k g0 g1 g2 => (hg64 k g2).trans (hf57 k g0 g1 g2)
        rw [show (e1 - st1 - fl - 1 + 24 - (bh1 - x1)) + 1 - Cn pt st1 e1 = 24 - (bh1 - x1) by omega] at p122
        refine lv_istore (lv' := [(10, .int (iI h122)), (9, .int (iI (bh1 - x1))), (8, .int (iI bh1)), (7, .int (iI x1)), (6, .int (iI ((e1 - st1) - fl))), (5, .int (iI pt)), (4, .int (iI e1)), (0, .ref (ad E y)), (1, .int (iI st1)), (2, .int (iI mn)), (3, .ref (ad E q))]) hx hb d_U_readFinite_125 hl (by decide) rfl (fun ls hl => ?_)
        refine lv_aload_n hx hb d_U_readFinite_127 rfl (lv_at hl 10 rfl) ?_
        refine zv_get (C := "ScaledNumeralDesk$Numeral") (T := TN) (N := 3) hx hb hg uN_in hown hK hH61 q2lt e67 rfl 2 (by decide) (hg _ wm_67) (fun _ h9 => h9) rfl d_U_readFinite_128 ?_
        refine lv_iload_n hx hb d_U_readFinite_131 rfl (lv_at hl 9 rfl) ?_
        refine z_callv (va_runV (As := [.int (iI mn)]) (rest := []) ⟨hx, hb, hml, hown, hts⟩ (c_A_signAs (l := l) (E := E) (w0 := w60) (q := q + 1) (f := f2) (ng := 0) (mn := mn) (q0lt := q3lt) (q1lt := q4lt) (c0 := e68) (c1 := e62) (bf := bd63) (hmn := by omega) H58.size) (z_cwV (C := "ScaledNumeralDesk$Amount") 1 hg wm_293 wm_290 wm_5 wm_291 wm_292 (by decide +kernel) ⟨Nat.le_of_ble_eq_true rfl, Nat.le_of_ble_eq_true rfl⟩) (z_preV (r := ("ScaledNumeralDesk$Amount", TA, 2)) hK hG hn hH61 hA q3lt e68 rfl) rfl rfl hl.1 rfl (lv_room (Nat.le_of_ble_eq_true rfl)) d_U_readFinite_132 ⟨Nat.zero_le _, Nat.zero_le _⟩) hH61 hA (fun  w72 H70 lc71 hH73 p132 => ?_)
        obtain ⟨⟨n_74, e75, p132⟩, hg76⟩ := p132
        replace p132 : (n_74 = 0 ∨ n_74 = 1) ∧ (V f2 15 = 0 → n_74 = 0) ∧ (0 < V f2 15 → n_74 = mn) := p132
        have e77 : w72 y = .inr (3, [.ref (ad E (y + 1)), .int (iI us)]) := (hg76 y (nx_U_finite_1 hyq)).trans e65
        have e78 : w72 (y + 1) = zac E 80 ch := (hg76 (y + 1) (nx_U_finite_4 hyq)).trans e66
        have e79 : w72 q = .inr (1, [.ref (zg E (1 + 1)), .int (iI m95), .ref (ad E (q + 1))]) := (hg76 q (nx_U_finite_10 hyq)).trans e67
        have e80 : w72 (q + 2) = zar E 15 f2 := (hg76 (q + 2) (nx_U_finite_11 hyq)).trans e62
        have hf81 : ∀ k, k ≠ q → k ≠ (q + 1) → k ≠ (q + 2) → w72 k = w0 k := fun k g0 g1 g2 => (hg76 k g1).trans (hf69 k g0 g1 g2)
        refine lv_iload hx hb d_U_readFinite_135 (lv_at hl 0 rfl) ?_
        refine zv_if_eq (tgt := 151) hx hb d_U_readFinite_137 rfl (by omega) (fun h82 => ?_) (fun h82 => ?_)
        · refine zv_bipush hx hb d_U_readFinite_151 rfl ?_
          rw [hQ]
          exact z_iret hx hb hr hlk hH73 (⟨⟨1, m95, n_74, f2, e79, e75, e80, bd63, ⟨by decide, p132.1, e1, pt, x1, nr, p38.1, Or.inr ⟨by omega, by omega, Or.inl ⟨rfl, by rw [← p67]; rcases p122 with h8 | h8; exact h8.2; exact absurd h8.1 (by omega)⟩⟩⟩⟩, (fun k g0 g1 g2 => hf81 k g0 g1 g2)⟩) d_U_readFinite_153
        · refine lv_aload_n hx hb d_U_readFinite_140 rfl (lv_at hl 10 rfl) ?_
          refine z_calli (va_runV (As := []) (rest := []) ⟨hx, hb, hml, hown, hts⟩ (c_N_isTooLarge (l := l) (E := E) (w0 := w72) (q := q) (kd := 1) (pl := m95) (ng := n_74) (f := f2) (q0lt := q2lt) (q1lt := q3lt) (q2lt := q4lt) (c0 := e79) (c1 := e75) (c2 := e80) (bf := bd63) (hkd := by omega) (hng := by omega) H70.size) (z_cwV (C := "ScaledNumeralDesk$Numeral") 0 hg wm_304 wm_301 wm_2 wm_302 wm_303 (by decide +kernel) ⟨Nat.le_of_ble_eq_true rfl, Nat.le_of_ble_eq_true rfl⟩) (z_preV (r := ("ScaledNumeralDesk$Numeral", TN, 3)) hK hG hn hH73 hA q2lt e79 rfl) rfl rfl hl.1 rfl (lv_room (Nat.le_of_ble_eq_true rfl)) d_U_readFinite_141 ⟨Nat.zero_le _, Nat.zero_le _⟩) hH73 hA (fun z87 w85 H83 lc84 hH86 p141 => ?_)
          obtain ⟨ew88, p141⟩ := p141
          rw [ew88] at hH86
          replace p141 : (z87 = 1 ∧ Tp 56 ≤ V f2 15) ∨ (z87 = 0 ∧ V f2 15 < Tp 56) := p141
          refine zv_if_ne (tgt := 151) hx hb d_U_readFinite_144 rfl (by omega) (fun h89 => ?_) (fun h89 => ?_)
          · refine zv_bipush hx hb d_U_readFinite_151 rfl ?_
            rw [hQ]
            exact z_iret hx hb hr hlk hH86 (⟨⟨1, m95, n_74, f2, e79, e75, e80, bd63, ⟨by decide, p132.1, e1, pt, x1, nr, p38.1, Or.inr ⟨by omega, by omega, Or.inr ⟨rfl, by rw [e95, p67], by rw [← p67]; rcases p122 with h8 | h8; exact absurd h8.1 (by omega); exact h8.2.1, p132.2.1, p132.2.2, by omega⟩⟩⟩⟩, (fun k g0 g1 g2 => hf81 k g0 g1 g2)⟩) d_U_readFinite_153
          · refine zv_iconst hx hb d_U_readFinite_147 ?_
            refine lv_goto (tgt := 153) hx hb d_U_readFinite_148 rfl ?_
            rw [hQ]
            exact z_iret hx hb hr hlk hH86 (⟨⟨1, m95, n_74, f2, e79, e75, e80, bd63, ⟨by decide, p132.1, e1, pt, x1, nr, p38.1, Or.inr ⟨by omega, by omega, Or.inr ⟨rfl, by rw [e95, p67], by rw [← p67]; rcases p122 with h8 | h8; exact absurd h8.1 (by omega); exact h8.2.1, p132.2.1, p132.2.2, by omega⟩⟩⟩⟩, (fun k g0 g1 g2 => hf81 k g0 g1 g2)⟩) d_U_readFinite_153
      · refine zv_bipush hx hb d_U_readFinite_56 rfl ?_
        rw [hQ]
        exact z_iret hx hb hr hlk hH16 (⟨⟨kd, pl, ng, f, c2, c3, c4, bf, ⟨hkd, hng, e1, pt, x1, nr, p38.1, Or.inl ⟨rfl, by omega⟩⟩⟩, (fun k _ _ _ => rfl)⟩) d_U_readFinite_58
  refine lv_iload hx hb d_U_readFinite_20 (lv_at hl 0 rfl) ?_
  refine lv_iload hx hb d_U_readFinite_22 (lv_at hl 1 rfl) ?_
  refine zv_icmp_ge (tgt := 31) hx hb d_U_readFinite_24 rfl (by omega) (by omega) (fun h90 => ?_) (fun h90 => ?_)
  · refine zv_iconst hx hb d_U_readFinite_31 ?_
    exact L32 0 _ H6 lc7 (lv_sub hl [0, 1, 2, 3, 4, 5] rfl) hH9 (by omega)
  · refine zv_iconst hx hb d_U_readFinite_27 ?_
    refine lv_goto (tgt := 32) hx hb d_U_readFinite_28 rfl ?_
    exact L32 1 _ H6 lc7 (lv_sub hl [0, 1, 2, 3, 4, 5] rfl) hH9 (by omega)
theorem nx_U_read_0 {q y : Nat} (hyq : y + 1 < q) : y ≠ q := by omega
theorem nx_U_read_1 {q y : Nat} (hyq : y + 1 < q) : y ≠ q + 1 := by omega
theorem nx_U_read_2 {q y : Nat} (hyq : y + 1 < q) : y ≠ q + 2 := by omega
theorem nx_U_read_3 {q y : Nat} (hyq : y + 1 < q) : y + 1 ≠ q := by omega
theorem nx_U_read_4 {q y : Nat} (hyq : y + 1 < q) : y + 1 ≠ q + 1 := by omega
theorem nx_U_read_5 {q y : Nat} (hyq : y + 1 < q) : y + 1 ≠ q + 2 := by omega
def rm_U_read : Room := { frames := 5, cells := 0, slots := 0, locals := 115 }
set_option maxHeartbeats 4000000 in
set_option maxRecDepth 100000 in
theorem c_U_read (l : Launch) (E : zE) (w0 : zW) (y : Nat) (us : Int) (ch : Int → Int) (q : Nat) (kd : Nat) (pl ng : Int) (f : Int → Int) (q0lt : y < zn E) (q1lt : y + 1 < zn E) (q2lt : q < zn E) (q3lt : q + 1 < zn E) (q4lt : q + 2 < zn E) (c0 : w0 y = .inr (3, [.ref (ad E (y + 1)), .int (iI us)])) (c1 : w0 (y + 1) = zac E 80 ch) (c2 : w0 q = .inr (1, [.ref (zg E (1 + kd)), .int (iI pl), .ref (ad E (q + 1))])) (c3 : w0 (q + 1) = .inr (0, [.ref (ad E (q + 2)), .int (iI ng)])) (c4 : w0 (q + 2) = zar E 15 f) (bch : bd ch 80 0 126) (hus : 0 ≤ us ∧ us ≤ 80) (bf : bd f 15 0 9999) (hkd : kd < 4) (hng : ng = 0 ∨ ng = 1) (hyq : y + 1 < q) : zM l y_U_readInto ws_U_readInto rm_U_read E [.ref (ad E y), .ref (ad E q)] w0 (zQi E w0 (fun z w' => (∃ (k' : Nat) (p' : Int) (n' : Int) (f' : Int → Int), w' q = .inr (1, [.ref (zg E (1 + k')), .int (iI p'), .ref (ad E (q + 1))]) ∧ w' (q + 1) = .inr (0, [.ref (ad E (q + 2)), .int (iI n')]) ∧ w' (q + 2) = zar E 15 f' ∧ bd f' 15 0 9999 ∧ (k' < 4 ∧ (n' = 0 ∨ n' = 1) ∧ Nf z k' p' n' (V f' 15) ∧ RiR ch us z k' p' n' (V f' 15))) ∧ ∀ k, k ≠ q → k ≠ (q + 1) → k ≠ (q + 2) → w' k = w0 k)) := by
  refine z_met (cc := b_U_readInto) (maxL := 4) (ret := (some .int)) (by decide +kernel) rfl (Nat.le_of_ble_eq_true rfl) ?_
  intro p e s m below meth cd ls a Qf hQ hC hl hH
  obtain ⟨hF, hr, hlk, hK, hG, hn⟩ := hC
  obtain ⟨hx, hb, hml, hown, hts⟩ := hF
  have hg : ∀ w ∈ GW, w.before a s = true := fun w h => hts w (List.mem_cons_of_mem _ h)
  have hA : ∀ q, s.heap.size ≤ q → va_A (wl E w0) s.heap.size q := fun q h => Or.inr h
  have hl : lv_has ls 4 [(0, .ref (ad E y)), (1, .ref (ad E q))] := hl
  refine lv_aload_n hx hb d_U_readInto_0 rfl (lv_at hl 0 rfl) ?_
  refine zv_iconst hx hb d_U_readInto_1 ?_
  refine va_ldcS (q := zg E (5 + 4)) hx hb hown hn.2.2.1 d_U_readInto_2 ?_
  refine z_calli (va_runV (As := [.int (iI 0), .ref (zg E (5 + 4))]) (rest := []) ⟨hx, hb, hml, hown, hts⟩ (c_U_word (l := l) (E := E) (w0 := w0) (y := y) (us := us) (ch := ch) (st1 := 0) (wi := 4) (q0lt := q0lt) (q1lt := q1lt) (c0 := c0) (c1 := c1) (bch := bch) (hus := by omega) (hse := by omega) (hwi := by omega) s.heap.size) (z_cwV (C := "ScaledNumeralDesk$Buffer") 2 hg wm_173 wm_170 wm_7 wm_172 wm_s0 (by decide +kernel) ⟨Nat.le_of_ble_eq_true rfl, Nat.le_of_ble_eq_true rfl⟩) (z_preV (r := ("ScaledNumeralDesk$Buffer", TU, 2)) hK hG hn hH hA q0lt c0 rfl) rfl rfl hl.1 rfl (lv_room (Nat.le_of_ble_eq_true rfl)) d_U_readInto_4 ⟨Nat.zero_le _, Nat.zero_le _⟩) hH hA (fun z4 w3 H1 lc2 hH4 p4 => ?_)
  obtain ⟨ew5, p4⟩ := p4
  rw [ew5] at hH4
  replace p4 : (z4 = 1 ∧ WdR ch us (0 : Int) 4) ∨ (z4 = 0 ∧ ¬ WdR ch us (0 : Int) 4) := p4
  refine zv_if_eq (tgt := 19) hx hb d_U_readInto_7 rfl (by omega) (fun h6 => ?_) (fun h6 => ?_)
  · have nw : ¬ WdR ch us 0 4 := by rcases p4 with h8 | h8; exact absurd h8.1 (by omega); exact h8.2
    have L32 : ∀ (st1 : Int) (ls : Array Slot) (H7 : Heap) (lc8 : List Loc), (lv_has ls 4 [(0, .ref (ad E y)), (1, .ref (ad E q))]) → (zH E w0 (va_A (wl E w0) s.heap.size) s.heap H7 lc8) → ((st1 = 1 ∧ 0 < us ∧ (ch 0 = 43 ∨ ch 0 = 45)) ∨ (st1 = 0 ∧ ¬ (0 < us ∧ (ch 0 = 43 ∨ ch 0 = 45)))) → W p l e rm_U_read s m a below meth cd H7 lc8 0 0 Qf (F0 m 32 ls [.int (iI st1)]) := by
      intro st1 ls H7 lc8 hl hH hst
      refine lv_istore_n (lv' := [(2, .int (iI st1)), (0, .ref (ad E y)), (1, .ref (ad E q))]) hx hb d_U_readInto_32 rfl hl (by decide) rfl (fun ls hl => ?_)
      have L54 : ∀ (mn : Int) (ls : Array Slot) (H9 : Heap) (lc10 : List Loc), (lv_has ls 4 [(2, .int (iI st1)), (0, .ref (ad E y)), (1, .ref (ad E q))]) → (zH E w0 (va_A (wl E w0) s.heap.size) s.heap H9 lc10) → ((mn = 1 ∧ st1 = 1 ∧ ch 0 = 45) ∨ (mn = 0 ∧ ¬ (st1 = 1 ∧ ch 0 = 45))) → W p l e rm_U_read s m a below meth cd H9 lc10 0 0 Qf (F0 m 54 ls [.int (iI mn)]) := by
        intro mn ls H9 lc10 hl hH hmn2
        refine lv_istore_n (lv' := [(3, .int (iI mn)), (2, .int (iI st1)), (0, .ref (ad E y)), (1, .ref (ad E q))]) hx hb d_U_readInto_54 rfl hl (by decide) rfl (fun ls hl => ?_)
        have L75 : ∀  (ls : Array Slot) (H11 : Heap) (lc12 : List Loc), (lv_has ls 4 [(3, .int (iI mn)), (2, .int (iI st1)), (0, .ref (ad E y)), (1, .ref (ad E q))]) → (zH E w0 (va_A (wl E w0) s.heap.size) s.heap H11 lc12) → (WdR ch us st1 5 ∨ WdR ch us st1 6) → W p l e rm_U_read s m a below meth cd H11 lc12 0 0 Qf (F0 m 75 ls []) := by
          intro ls H11 lc12 hl hH hyi
          refine lv_aload_n hx hb d_U_readInto_75 rfl (lv_at hl 3 rfl) ?_
          refine lv_iload_n hx hb d_U_readInto_76 rfl (lv_at hl 0 rfl) ?_
          refine zv_if_eq (tgt := 84) hx hb d_U_readInto_77 rfl (by omega) (fun h13 => ?_) (fun h13 => ?_)
          · refine zv_iconst hx hb d_U_readInto_84 ?_
            refine z_callv (va_runV (As := [.int (iI 1)]) (rest := []) ⟨hx, hb, hml, hown, hts⟩ (c_N_becomeInf (l := l) (E := E) (w0 := w0) (q := q) (kd := kd) (pl := pl) (ng := ng) (sg := 1) (f := f) (q0lt := q2lt) (q1lt := q3lt) (q2lt := q4lt) (c0 := c2) (c1 := c3) (c2 := c4) (bf := bf) (hkd := by omega) (hng := by omega) (hsg := by omega) H11.size) (z_cwV (C := "ScaledNumeralDesk$Numeral") 1 hg wm_247 wm_244 wm_2 wm_245 wm_246 (by decide +kernel) ⟨Nat.le_of_ble_eq_true rfl, Nat.le_of_ble_eq_true rfl⟩) (z_preV (r := ("ScaledNumeralDesk$Numeral", TN, 3)) hK hG hn hH hA q2lt c2 rfl) rfl rfl hl.1 rfl (lv_room (Nat.le_of_ble_eq_true rfl)) d_U_readInto_85 ⟨Nat.zero_le _, Nat.zero_le _⟩) hH hA (fun  w16 H14 lc15 hH17 p85 => ?_)
            obtain ⟨⟨k_18, f_19, e20, e21, e22, bd23, p85⟩, hg24⟩ := p85
            replace bd23 : bd f_19 15 0 9999 := bd23
            replace p85 : (∀ j : Int, 0 ≤ j → j < 15 → f_19 j = 0) ∧ (((1 : Int) < 0 ∧ k_18 = 0) ∨ (0 ≤ (1 : Int) ∧ k_18 = 2)) := p85
            have e25 : w16 y = .inr (3, [.ref (ad E (y + 1)), .int (iI us)]) := (hg24 y (nx_U_read_0 hyq) (nx_U_read_1 hyq) (nx_U_read_2 hyq)).trans c0
            have e26 : w16 (y + 1) = zac E 80 ch := (hg24 (y + 1) (nx_U_read_3 hyq) (nx_U_read_4 hyq) (nx_U_read_5 hyq)).trans c1
            have hf27 : ∀ k, k ≠ q → k ≠ (q + 1) → k ≠ (q + 2) → w16 k = w0 k := fun k g0 g1 g2 => hg24 k g0 g1 g2
            refine zv_iconst hx hb d_U_readInto_88 ?_
            rw [hQ]
            exact z_iret hx hb hr hlk hH17 (⟨⟨k_18, 0, 0, f_19, e20, e21, e22, bd23, ⟨by omega, Or.inl rfl, (by first | exact Nf_0 (V0_of p85) | exact Nf_0 (V0_of p85.1)), Or.inr ⟨nw, st1, mn, hst, hmn2, Or.inl ⟨hyi, rfl, by omega⟩⟩⟩⟩, (fun k g0 g1 g2 => hf27 k g0 g1 g2)⟩) d_U_readInto_89
          · refine zv_iconst hx hb d_U_readInto_80 ?_
            refine lv_goto (tgt := 85) hx hb d_U_readInto_81 rfl ?_
            refine z_callv (va_runV (As := [.int (iI (-1))]) (rest := []) ⟨hx, hb, hml, hown, hts⟩ (c_N_becomeInf (l := l) (E := E) (w0 := w0) (q := q) (kd := kd) (pl := pl) (ng := ng) (sg := -1) (f := f) (q0lt := q2lt) (q1lt := q3lt) (q2lt := q4lt) (c0 := c2) (c1 := c3) (c2 := c4) (bf := bf) (hkd := by omega) (hng := by omega) (hsg := by omega) H11.size) (z_cwV (C := "ScaledNumeralDesk$Numeral") 1 hg wm_247 wm_244 wm_2 wm_245 wm_246 (by decide +kernel) ⟨Nat.le_of_ble_eq_true rfl, Nat.le_of_ble_eq_true rfl⟩) (z_preV (r := ("ScaledNumeralDesk$Numeral", TN, 3)) hK hG hn hH hA q2lt c2 rfl) rfl rfl hl.1 rfl (lv_room (Nat.le_of_ble_eq_true rfl)) d_U_readInto_85 ⟨Nat.zero_le _, Nat.zero_le _⟩) hH hA (fun  w30 H28 lc29 hH31 p85 => ?_)
            obtain ⟨⟨k_32, f_33, e34, e35, e36, bd37, p85⟩, hg38⟩ := p85
            replace bd37 : bd f_33 15 0 9999 := bd37
            replace p85 : (∀ j : Int, 0 ≤ j → j < 15 → f_33 j = 0) ∧ (((-1 : Int) < 0 ∧ k_32 = 0) ∨ (0 ≤ (-1 : Int) ∧ k_32 = 2)) := p85
            have e39 : w30 y = .inr (3, [.ref (ad E (y + 1)), .int (iI us)]) := (hg38 y (nx_U_read_0 hyq) (nx_U_read_1 hyq) (nx_U_read_2 hyq)).trans c0
            have e40 : w30 (y + 1) = zac E 80 ch := (hg38 (y + 1) (nx_U_read_3 hyq) (nx_U_read_4 hyq) (nx_U_read_5 hyq)).trans c1
            have hf41 : ∀ k, k ≠ q → k ≠ (q + 1) → k ≠ (q + 2) → w30 k = w0 k := fun k g0 g1 g2 => hg38 k g0 g1 g2
            refine zv_iconst hx hb d_U_readInto_88 ?_
            rw [hQ]
            exact z_iret hx hb hr hlk hH31 (⟨⟨k_32, 0, 0, f_33, e34, e35, e36, bd37, ⟨by omega, Or.inl rfl, (by first | exact Nf_0 (V0_of p85) | exact Nf_0 (V0_of p85.1)), Or.inr ⟨nw, st1, mn, hst, hmn2, Or.inl ⟨hyi, rfl, by omega⟩⟩⟩⟩, (fun k g0 g1 g2 => hf41 k g0 g1 g2)⟩) d_U_readInto_89
        refine lv_aload_n hx hb d_U_readInto_55 rfl (lv_at hl 2 rfl) ?_
        refine lv_iload_n hx hb d_U_readInto_56 rfl (lv_at hl 1 rfl) ?_
        refine va_ldcS (q := zg E (5 + 5)) hx hb hown hn.2.2.2.1 d_U_readInto_57 ?_
        refine z_calli (va_runV (As := [.int (iI st1), .ref (zg E (5 + 5))]) (rest := []) ⟨hx, hb, hml, hown, hts⟩ (c_U_word (l := l) (E := E) (w0 := w0) (y := y) (us := us) (ch := ch) (st1 := st1) (wi := 5) (q0lt := q0lt) (q1lt := q1lt) (c0 := c0) (c1 := c1) (bch := bch) (hus := by omega) (hse := by omega) (hwi := by omega) H9.size) (z_cwV (C := "ScaledNumeralDesk$Buffer") 2 hg wm_173 wm_170 wm_7 wm_172 wm_s0 (by decide +kernel) ⟨Nat.le_of_ble_eq_true rfl, Nat.le_of_ble_eq_true rfl⟩) (z_preV (r := ("ScaledNumeralDesk$Buffer", TU, 2)) hK hG hn hH hA q0lt c0 rfl) rfl rfl hl.1 rfl (lv_room (Nat.le_of_ble_eq_true rfl)) d_U_readInto_59 ⟨Nat.zero_le _, Nat.zero_le _⟩) hH hA (fun z59 w44 H42 lc43 hH45 p59 => ?_)
        obtain ⟨ew46, p59⟩ := p59
        rw [ew46] at hH45
        replace p59 : (z59 = 1 ∧ WdR ch us st1 5) ∨ (z59 = 0 ∧ ¬ WdR ch us st1 5) := p59
        refine zv_if_ne (tgt := 75) hx hb d_U_readInto_62 rfl (by omega) (fun h47 => ?_) (fun h47 => ?_)
        · have yi : WdR ch us st1 5 ∨ WdR ch us st1 6 := by rcases p59 with h8 | h8; exact Or.inl h8.2; exact absurd h8.1 (by omega)
          exact L75 _ H42 lc43 (lv_sub hl [0, 1, 2, 3] rfl) hH45 (by exact yi)
        · refine lv_aload_n hx hb d_U_readInto_65 rfl (lv_at hl 2 rfl) ?_
          refine lv_iload_n hx hb d_U_readInto_66 rfl (lv_at hl 1 rfl) ?_
          refine va_ldcS (q := zg E (5 + 6)) hx hb hown hn.2.2.2.2 d_U_readInto_67 ?_
          refine z_calli (va_runV (As := [.int (iI st1), .ref (zg E (5 + 6))]) (rest := []) ⟨hx, hb, hml, hown, hts⟩ (c_U_word (l := l) (E := E) (w0 := w0) (y := y) (us := us) (ch := ch) (st1 := st1) (wi := 6) (q0lt := q0lt) (q1lt := q1lt) (c0 := c0) (c1 := c1) (bch := bch) (hus := by omega) (hse := by omega) (hwi := by omega) H42.size) (z_cwV (C := "ScaledNumeralDesk$Buffer") 2 hg wm_173 wm_170 wm_7 wm_172 wm_s0 (by decide +kernel) ⟨Nat.le_of_ble_eq_true rfl, Nat.le_of_ble_eq_true rfl⟩) (z_preV (r := ("ScaledNumeralDesk$Buffer", TU, 2)) hK hG hn hH45 hA q0lt c0 rfl) rfl rfl hl.1 rfl (lv_room (Nat.le_of_ble_eq_true rfl)) d_U_readInto_69 ⟨Nat.zero_le _, Nat.zero_le _⟩) hH45 hA (fun z69 w50 H48 lc49 hH51 p69 => ?_)
          obtain ⟨ew52, p69⟩ := p69
          rw [ew52] at hH51
          replace p69 : (z69 = 1 ∧ WdR ch us st1 6) ∨ (z69 = 0 ∧ ¬ WdR ch us st1 6) := p69
          refine zv_if_eq (tgt := 90) hx hb d_U_readInto_72 rfl (by omega) (fun h53 => ?_) (fun h53 => ?_)
          · have ni : ¬ (WdR ch us st1 5 ∨ WdR ch us st1 6) := by intro h7; rcases h7 with h7 | h7; rcases p59 with h8 | h8; omega; exact h8.2 h7; rcases p69 with h8 | h8; omega; exact h8.2 h7
            refine lv_aload_n hx hb d_U_readInto_90 rfl (lv_at hl 2 rfl) ?_
            refine lv_iload_n hx hb d_U_readInto_91 rfl (lv_at hl 1 rfl) ?_
            refine lv_iload_n hx hb d_U_readInto_92 rfl (lv_at hl 0 rfl) ?_
            refine lv_aload_n hx hb d_U_readInto_93 rfl (lv_at hl 3 rfl) ?_
            refine z_calli (va_runV (As := [.int (iI st1), .int (iI mn), .ref (ad E q)]) (rest := []) ⟨hx, hb, hml, hown, hts⟩ (c_U_finite (l := l) (E := E) (w0 := w0) (y := y) (us := us) (ch := ch) (q := q) (kd := kd) (pl := pl) (ng := ng) (f := f) (st1 := st1) (mn := mn) (q0lt := q0lt) (q1lt := q1lt) (q2lt := q2lt) (q3lt := q3lt) (q4lt := q4lt) (c0 := c0) (c1 := c1) (c2 := c2) (c3 := c3) (c4 := c4) (bch := bch) (hus := by omega) (bf := bf) (hkd := by omega) (hng := by omega) (hse := by omega) (hmn := by omega) (hyq := by omega) H48.size) (z_cwV (C := "ScaledNumeralDesk$Buffer") 3 hg wm_256 wm_253 wm_7 wm_255 wm_s2 (by decide +kernel) ⟨Nat.le_of_ble_eq_true rfl, Nat.le_of_ble_eq_true rfl⟩) (z_preV (r := ("ScaledNumeralDesk$Buffer", TU, 2)) hK hG hn hH51 hA q0lt c0 rfl) rfl rfl hl.1 rfl (lv_room (Nat.le_of_ble_eq_true rfl)) d_U_readInto_94 ⟨Nat.zero_le _, Nat.zero_le _⟩) hH51 hA (fun z58 w56 H54 lc55 hH57 p94 => ?_)
            obtain ⟨⟨k_59, p_60, n_61, f_62, e63, e64, e65, bd66, p94⟩, hg67⟩ := p94
            replace bd66 : bd f_62 15 0 9999 := bd66
            replace p94 : k_59 < 4 ∧ (n_61 = 0 ∨ n_61 = 1) ∧ RfR ch us st1 mn z58 k_59 p_60 n_61 (V f_62 15) := p94
            have e68 : w56 y = .inr (3, [.ref (ad E (y + 1)), .int (iI us)]) := (hg67 y (nx_U_read_0 hyq) (nx_U_read_1 hyq) (nx_U_read_2 hyq)).trans c0
            have e69 : w56 (y + 1) = zac E 80 ch := (hg67 (y + 1) (nx_U_read_3 hyq) (nx_U_read_4 hyq) (nx_U_read_5 hyq)).trans c1
            have hf70 : ∀ k, k ≠ q → k ≠ (q + 1) → k ≠ (q + 2) → w56 k = w0 k := fun k g0 g1 g2 => hg67 k g0 g1 g2
            rw [hQ]
            exact z_iret hx hb hr hlk hH57 (⟨⟨k_59, p_60, n_61, f_62, e63, e64, e65, bd66, ⟨p94.1, p94.2.1, RfR_Nf p94.2.2, Or.inr ⟨nw, st1, mn, hst, hmn2, Or.inr ⟨ni, p94.2.2⟩⟩⟩⟩, (fun k g0 g1 g2 => hf70 k g0 g1 g2)⟩) d_U_readInto_97
          · have yi : WdR ch us st1 5 ∨ WdR ch us st1 6 := by rcases p69 with h8 | h8; exact Or.inr h8.2; exact absurd h8.1 (by omega)
            exact L75 _ H48 lc49 (lv_sub hl [0, 1, 2, 3] rfl) hH51 (by exact yi)
      refine lv_iload_n hx hb d_U_readInto_33 rfl (lv_at hl 0 rfl) ?_
      refine zv_iconst hx hb d_U_readInto_34 ?_
      refine zv_icmp_ne (tgt := 53) hx hb d_U_readInto_35 rfl (by omega) (by omega) (fun h71 => ?_) (fun h71 => ?_)
      · refine zv_iconst hx hb d_U_readInto_53 ?_
        exact L54 0 _ H7 lc8 (lv_sub hl [0, 1, 2] rfl) hH (by omega)
      · refine lv_aload_n hx hb d_U_readInto_38 rfl (lv_at hl 1 rfl) ?_
        refine zv_get (C := "ScaledNumeralDesk$Buffer") (T := TU) (N := 2) hx hb hg uU_in hown hK hH q0lt c0 rfl 0 (by decide) (hg _ wm_101) (fun _ h9 => h9) rfl d_U_readInto_39 ?_
        refine zv_iconst hx hb d_U_readInto_42 ?_
        refine zv_cald hx hb hK hH q1lt c1 (by omega) (by omega) (by omega) d_U_readInto_43 ?_
        have b72 := bch 0 (by omega) (by omega)
        refine zv_bipush hx hb d_U_readInto_44 rfl ?_
        refine zv_icmp_ne (tgt := 53) hx hb d_U_readInto_46 rfl (by omega) (by omega) (fun h73 => ?_) (fun h73 => ?_)
        · refine zv_iconst hx hb d_U_readInto_53 ?_
          exact L54 0 _ H7 lc8 (lv_sub hl [0, 1, 2] rfl) hH (by omega)
        · refine zv_iconst hx hb d_U_readInto_49 ?_
          refine lv_goto (tgt := 54) hx hb d_U_readInto_50 rfl ?_
          exact L54 1 _ H7 lc8 (lv_sub hl [0, 1, 2] rfl) hH (by omega)
    refine lv_aload_n hx hb d_U_readInto_19 rfl (lv_at hl 0 rfl) ?_
    refine zv_iconst hx hb d_U_readInto_20 ?_
    refine z_calli (va_runV (As := [.int (iI 0)]) (rest := []) ⟨hx, hb, hml, hown, hts⟩ (c_U_isSign (l := l) (E := E) (w0 := w0) (y := y) (us := us) (ch := ch) (i := 0) (q0lt := q0lt) (q1lt := q1lt) (c0 := c0) (c1 := c1) (bch := bch) (hus := by omega) (hi0 := by omega) H1.size) (z_cwV (C := "ScaledNumeralDesk$Buffer") 1 hg wm_241 wm_238 wm_7 wm_240 wm_s1 (by decide +kernel) ⟨Nat.le_of_ble_eq_true rfl, Nat.le_of_ble_eq_true rfl⟩) (z_preV (r := ("ScaledNumeralDesk$Buffer", TU, 2)) hK hG hn hH4 hA q0lt c0 rfl) rfl rfl hl.1 rfl (lv_room (Nat.le_of_ble_eq_true rfl)) d_U_readInto_21 ⟨Nat.zero_le _, Nat.zero_le _⟩) hH4 hA (fun z78 w76 H74 lc75 hH77 p21 => ?_)
    obtain ⟨ew79, p21⟩ := p21
    rw [ew79] at hH77
    replace p21 : (z78 = 1 ∧ (0 : Int) < us ∧ (ch (0 : Int) = 43 ∨ ch (0 : Int) = 45)) ∨ (z78 = 0 ∧ ¬ ((0 : Int) < us ∧ (ch (0 : Int) = 43 ∨ ch (0 : Int) = 45))) := p21
    refine zv_if_eq (tgt := 31) hx hb d_U_readInto_24 rfl (by omega) (fun h80 => ?_) (fun h80 => ?_)
    · refine zv_iconst hx hb d_U_readInto_31 ?_
      exact L32 0 _ H74 lc75 (lv_sub hl [0, 1] rfl) hH77 (by omega)
    · refine zv_iconst hx hb d_U_readInto_27 ?_
      refine lv_goto (tgt := 32) hx hb d_U_readInto_28 rfl ?_
      exact L32 1 _ H74 lc75 (lv_sub hl [0, 1] rfl) hH77 (by omega)
  · have yw : WdR ch us 0 4 := by rcases p4 with h8 | h8; exact h8.2; exact absurd h8.1 (by omega)
    refine lv_aload_n hx hb d_U_readInto_10 rfl (lv_at hl 1 rfl) ?_
    refine zv_kind hx hb hG hH4 hown 3 (by decide) (hg _ wm_225) (fun _ h9 => h9) d_U_readInto_11 ?_
    refine z_callv (va_runV (As := [.ref (zg E (1 + 3))]) (rest := []) ⟨hx, hb, hml, hown, hts⟩ (c_N_become (l := l) (E := E) (w0 := w0) (q := q) (kd := kd) (k2 := 3) (pl := pl) (ng := ng) (f := f) (q0lt := q2lt) (q1lt := q3lt) (q2lt := q4lt) (c0 := c2) (c1 := c3) (c2 := c4) (bf := bf) (hkd := by omega) (hng := by omega) H1.size) (z_cwV (C := "ScaledNumeralDesk$Numeral") 1 hg wm_230 wm_227 wm_2 wm_228 wm_229 (by decide +kernel) ⟨Nat.le_of_ble_eq_true rfl, Nat.le_of_ble_eq_true rfl⟩) (z_preV (r := ("ScaledNumeralDesk$Numeral", TN, 3)) hK hG hn hH4 hA q2lt c2 rfl) rfl rfl hl.1 rfl (lv_room (Nat.le_of_ble_eq_true rfl)) d_U_readInto_14 ⟨Nat.zero_le _, Nat.zero_le _⟩) hH4 hA (fun  w83 H81 lc82 hH84 p14 => ?_)
    obtain ⟨⟨f_85, e86, e87, e88, bd89, p14⟩, hg90⟩ := p14
    replace bd89 : bd f_85 15 0 9999 := bd89
    replace p14 : ∀ j : Int, 0 ≤ j → j < 15 → f_85 j = 0 := p14
    have e91 : w83 y = .inr (3, [.ref (ad E (y + 1)), .int (iI us)]) := (hg90 y (nx_U_read_0 hyq) (nx_U_read_1 hyq) (nx_U_read_2 hyq)).trans c0
    have e92 : w83 (y + 1) = zac E 80 ch := (hg90 (y + 1) (nx_U_read_3 hyq) (nx_U_read_4 hyq) (nx_U_read_5 hyq)).trans c1
    have hf93 : ∀ k, k ≠ q → k ≠ (q + 1) → k ≠ (q + 2) → w83 k = w0 k := fun k g0 g1 g2 => hg90 k g0 g1 g2
    refine zv_iconst hx hb d_U_readInto_17 ?_
    rw [hQ]
    exact z_iret hx hb hr hlk hH84 (⟨⟨3, 0, 0, f_85, e86, e87, e88, bd89, ⟨by decide, Or.inl rfl, (by first | exact Nf_0 (V0_of p14) | exact Nf_0 (V0_of p14.1)), Or.inl ⟨yw, rfl, rfl⟩⟩⟩, (fun k g0 g1 g2 => hf93 k g0 g1 g2)⟩) d_U_readInto_18
