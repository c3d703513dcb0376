def rm_D_isRegister : Room := { frames := 0, cells := 0, slots := 0, locals := 0 }
set_option maxHeartbeats 4000000 in
set_option maxRecDepth 100000 in
theorem c_D_isRegister (l : Launch) (E : zE) (w0 : zW) (r : Int)   (hr0 : zr r) : zM l y_D_isRegister ws_D_isRegister rm_D_isRegister E [.int (iI r)] w0 (zQi E w0 (fun z w' => w' = w0 ∧ ((z = 1 ∧ 0 ≤ r ∧ r < 8) ∨ (z = 0 ∧ ¬ (0 ≤ r ∧ r < 8))))) := by
  refine z_met (cc := b_D_isRegister) (maxL := 1) (ret := (some .boolean)) (by decide +kernel) rfl (Nat.le_of_ble_eq_true rfl) ?_
  intro p e s m below meth cd ls a Qf hQ hC hl hH
  obtain ⟨hF, hr, hlk, hK, hG, hn⟩ := hC
  obtain ⟨hx, hb, hml, hown, hts⟩ := hF
  have hg : ∀ w ∈ GW, w.before a s = true := fun w h => hts w (List.mem_cons_of_mem _ h)
  have hA : ∀ q, s.heap.size ≤ q → va_A (wl E w0) s.heap.size q := fun q h => Or.inr h
  have hl : lv_has ls 1 [(0, .int (iI r))] := hl
  refine lv_iload_n hx hb d_D_isRegister_0 rfl (lv_at hl 0 rfl) ?_
  refine zv_if_lt (tgt := 14) hx hb d_D_isRegister_1 rfl (by omega) (fun h1 => ?_) (fun h1 => ?_)
  · refine zv_iconst hx hb d_D_isRegister_14 ?_
    rw [hQ]
    exact z_zret hx hb hr hlk hH (⟨rfl, by omega⟩) (by exact nar_z (by omega)) d_D_isRegister_15
  · refine lv_iload_n hx hb d_D_isRegister_4 rfl (lv_at hl 0 rfl) ?_
    refine zv_bipush hx hb d_D_isRegister_5 rfl ?_
    refine zv_icmp_ge (tgt := 14) hx hb d_D_isRegister_7 rfl (by omega) (by omega) (fun h2 => ?_) (fun h2 => ?_)
    · refine zv_iconst hx hb d_D_isRegister_14 ?_
      rw [hQ]
      exact z_zret hx hb hr hlk hH (⟨rfl, by omega⟩) (by exact nar_z (by omega)) d_D_isRegister_15
    · refine zv_iconst hx hb d_D_isRegister_10 ?_
      refine lv_goto (tgt := 15) hx hb d_D_isRegister_11 rfl ?_
      rw [hQ]
      exact z_zret hx hb hr hlk hH (⟨rfl, by omega⟩) (by exact nar_z (by omega)) d_D_isRegister_15
def rm_D_isSum : Room := { frames := 0, cells := 0, slots := 0, locals := 0 }
set_option maxHeartbeats 4000000 in
set_option maxRecDepth 100000 in
theorem c_D_isSum (l : Launch) (E : zE) (w0 : zW) (r : Int)   (hr0 : zr r) : zM l y_D_isSum ws_D_isSum rm_D_isSum E [.int (iI r)] w0 (zQi E w0 (fun z w' => w' = w0 ∧ ((z = 1 ∧ 0 ≤ r ∧ r < 4) ∨ (z = 0 ∧ ¬ (0 ≤ r ∧ r < 4))))) := by
  refine z_met (cc := b_D_isSum) (maxL := 1) (ret := (some .boolean)) (by decide +kernel) rfl (Nat.le_of_ble_eq_true rfl) ?_
  intro p e s m below meth cd ls a Qf hQ hC hl hH
  obtain ⟨hF, hr, hlk, hK, hG, hn⟩ := hC
  obtain ⟨hx, hb, hml, hown, hts⟩ := hF
  have hg : ∀ w ∈ GW, w.before a s = true := fun w h => hts w (List.mem_cons_of_mem _ h)
  have hA : ∀ q, s.heap.size ≤ q → va_A (wl E w0) s.heap.size q := fun q h => Or.inr h
  have hl : lv_has ls 1 [(0, .int (iI r))] := hl
  refine lv_iload_n hx hb d_D_isSum_0 rfl (lv_at hl 0 rfl) ?_
  refine zv_if_lt (tgt := 13) hx hb d_D_isSum_1 rfl (by omega) (fun h1 => ?_) (fun h1 => ?_)
  · refine zv_iconst hx hb d_D_isSum_13 ?_
    rw [hQ]
    exact z_zret hx hb hr hlk hH (⟨rfl, by omega⟩) (by exact nar_z (by omega)) d_D_isSum_14
  · refine lv_iload_n hx hb d_D_isSum_4 rfl (lv_at hl 0 rfl) ?_
    refine zv_iconst hx hb d_D_isSum_5 ?_
    refine zv_icmp_ge (tgt := 13) hx hb d_D_isSum_6 rfl (by omega) (by omega) (fun h2 => ?_) (fun h2 => ?_)
    · refine zv_iconst hx hb d_D_isSum_13 ?_
      rw [hQ]
      exact z_zret hx hb hr hlk hH (⟨rfl, by omega⟩) (by exact nar_z (by omega)) d_D_isSum_14
    · refine zv_iconst hx hb d_D_isSum_9 ?_
      refine lv_goto (tgt := 14) hx hb d_D_isSum_10 rfl ?_
      rw [hQ]
      exact z_zret hx hb hr hlk hH (⟨rfl, by omega⟩) (by exact nar_z (by omega)) d_D_isSum_14
theorem nx_D_store_0 {rd : Nat}  : 0 ≠ 19 + 3 * rd := by omega
theorem nx_D_store_1 {rd : Nat}  : 0 ≠ 19 + 3 * rd + 1 := by omega
theorem nx_D_store_2 {rd : Nat}  : 0 ≠ 19 + 3 * rd + 2 := by omega
theorem nx_D_store_3 {rd : Nat}  : 1 ≠ 19 + 3 * rd := by omega
theorem nx_D_store_4 {rd : Nat}  : 1 ≠ 19 + 3 * rd + 1 := by omega
theorem nx_D_store_5 {rd : Nat}  : 1 ≠ 19 + 3 * rd + 2 := by omega
theorem nx_D_store_6 {rd : Nat}  : 10 ≠ 19 + 3 * rd := by omega
theorem nx_D_store_7 {rd : Nat}  : 10 ≠ 19 + 3 * rd + 1 := by omega
theorem nx_D_store_8 {rd : Nat}  : 10 ≠ 19 + 3 * rd + 2 := by omega
theorem nx_D_store_9 {rd : Nat}  : 10 + 1 ≠ 19 + 3 * rd := by omega
theorem nx_D_store_10 {rd : Nat}  : 10 + 1 ≠ 19 + 3 * rd + 1 := by omega
theorem nx_D_store_11 {rd : Nat}  : 10 + 1 ≠ 19 + 3 * rd + 2 := by omega
theorem nx_D_store_12 {rd : Nat}  : 10 + 2 ≠ 19 + 3 * rd := by omega
theorem nx_D_store_13 {rd : Nat}  : 10 + 2 ≠ 19 + 3 * rd + 1 := by omega
theorem nx_D_store_14 {rd : Nat}  : 10 + 2 ≠ 19 + 3 * rd + 2 := by omega
def rm_D_store : Room := { frames := 3, cells := 0, slots := 0, locals := 68 }
set_option maxHeartbeats 4000000 in
set_option maxRecDepth 100000 in
theorem c_D_store (l : Launch) (E : zE) (w0 : zW) (fq : Nat → Option Nat) (kt : Nat) (plt nt : Int) (ft : Int → Int) (rd : Nat) (kd : Nat) (pld nd : Int) (fd : Int → Int) (an : Int) (hzn : 73 ≤ zn E) (c0 : w0 0 = .inr (5, [.ref (ad E 1), .ref (ad E 2), .ref (ad E 3), .ref (ad E 5), .ref (ad E 10), .ref (ad E 13), .ref (ad E 16)])) (c1 : w0 1 = zaq E 3 8 fq) (c2 : w0 10 = .inr (1, [.ref (zg E (1 + kt)), .int (iI plt), .ref (ad E (10 + 1))])) (c3 : w0 (10 + 1) = .inr (0, [.ref (ad E (10 + 2)), .int (iI nt)])) (c4 : w0 (10 + 2) = zar E 15 ft) (c5 : w0 (19 + 3 * rd) = .inr (1, [.ref (zg E (1 + kd)), .int (iI pld), .ref (ad E (19 + 3 * rd + 1))])) (c6 : w0 (19 + 3 * rd + 1) = .inr (0, [.ref (ad E (19 + 3 * rd + 2)), .int (iI nd)])) (c7 : w0 (19 + 3 * rd + 2) = zar E 15 fd) (hfq : ∀ k : Nat, k < 8 → fq k = some (ad E (19 + 3 * k))) (bft : bd ft 15 0 9999) (hkt : kt < 4) (hnt : nt = 0 ∨ nt = 1) (bfd : bd fd 15 0 9999) (hkd : kd < 4) (hnd : nd = 0 ∨ nd = 1) (hrd : rd < 8) (han : zr an) : zM l y_D_store ws_D_store rm_D_store E [.ref (ad E 0), .int (iI ((rd : Int))), .int (iI an)] w0 (zQi E w0 (fun z w' => (∃ (k' : Nat) (p' : Int) (n' : Int) (f' : Int → Int), w' (19 + 3 * rd) = .inr (1, [.ref (zg E (1 + k')), .int (iI p'), .ref (ad E (19 + 3 * rd + 1))]) ∧ w' (19 + 3 * rd + 1) = .inr (0, [.ref (ad E (19 + 3 * rd + 2)), .int (iI n')]) ∧ w' (19 + 3 * rd + 2) = zar E 15 f' ∧ bd f' 15 0 9999 ∧ (z = an ∧ StoR an kt plt nt (V ft 15) kd pld nd (V fd 15) k' p' n' (V f' 15))) ∧ ∀ k, k ≠ (19 + 3 * rd) → k ≠ (19 + 3 * rd + 1) → k ≠ (19 + 3 * rd + 2) → w' k = w0 k)) := by
  refine z_met (cc := b_D_store) (maxL := 3) (ret := (some .int)) (by decide +kernel) rfl (Nat.le_of_ble_eq_true rfl) ?_
  intro p e s m below meth cd ls a Qf hQ hC hl hH
  obtain ⟨hF, hr, hlk, hK, hG, hn⟩ := hC
  obtain ⟨hx, hb, hml, hown, hts⟩ := hF
  have hg : ∀ w ∈ GW, w.before a s = true := fun w h => hts w (List.mem_cons_of_mem _ h)
  have hA : ∀ q, s.heap.size ≤ q → va_A (wl E w0) s.heap.size q := fun q h => Or.inr h
  have hl : lv_has ls 3 [(0, .ref (ad E 0)), (1, .int (iI ((rd : Int)))), (2, .int (iI an))] := hl
  have q0lt : 0 < zn E := by omega
  have q1lt : 1 < zn E := by omega
  have q2lt : 10 < zn E := by omega
  have q3lt : 10 + 1 < zn E := by omega
  have q4lt : 10 + 2 < zn E := by omega
  have q5lt : 19 + 3 * rd < zn E := by omega
  have q6lt : 19 + 3 * rd + 1 < zn E := by omega
  have q7lt : 19 + 3 * rd + 2 < zn E := by omega
  refine lv_iload_n hx hb d_D_store_0 rfl (lv_at hl 2 rfl) ?_
  refine zv_if_ne (tgt := 17) hx hb d_D_store_1 rfl (by omega) (fun h1 => ?_) (fun h1 => ?_)
  · refine lv_iload_n hx hb d_D_store_17 rfl (lv_at hl 2 rfl) ?_
    rw [hQ]
    exact z_iret hx hb hr hlk hH (⟨⟨kd, pld, nd, fd, c5, c6, c7, bfd, ⟨rfl, Or.inr ⟨by omega, rfl, rfl, rfl, rfl⟩⟩⟩, (fun k _ _ _ => rfl)⟩) d_D_store_18
  · refine lv_aload_n hx hb d_D_store_4 rfl (lv_at hl 0 rfl) ?_
    refine zv_get (C := "ScaledNumeralDesk") (T := TD) (N := 7) hx hb hg uD_in hown hK hH q0lt c0 rfl 0 (by decide) (hg _ wm_128) (fun _ h9 => h9) rfl d_D_store_5 ?_
    refine lv_iload_n hx hb d_D_store_8 rfl (lv_at hl 1 rfl) ?_
    refine zv_aald (i := rd) hx hb hK hH q1lt c1 rfl (by omega) (by omega) (hfq rd (by omega)) d_D_store_9 ?_
    refine lv_aload_n hx hb d_D_store_10 rfl (lv_at hl 0 rfl) ?_
    refine zv_get (C := "ScaledNumeralDesk") (T := TD) (N := 7) hx hb hg uD_in hown hK hH q0lt c0 rfl 4 (by decide) (hg _ wm_132) (fun _ h9 => h9) rfl d_D_store_11 ?_
    refine z_callv (va_runV (As := [.ref (ad E 10)]) (rest := []) ⟨hx, hb, hml, hown, hts⟩ (c_N_take (l := l) (E := E) (w0 := w0) (q := 19 + 3 * rd) (r := 10) (kd := kd) (ko := kt) (pl := pld) (po := plt) (ng := nd) (no := nt) (f := fd) (g := ft) (q0lt := q5lt) (q1lt := q6lt) (q2lt := q7lt) (q3lt := q2lt) (q4lt := q3lt) (q5lt := q4lt) (c0 := c5) (c1 := c6) (c2 := c7) (c3 := c2) (c4 := c3) (c5 := c4) (bf := bfd) (hkd := by omega) (hng := by omega) (bg := bft) (hko := by omega) (hno := by omega) (hqr := by omega) s.heap.size) (z_cwV (C := "ScaledNumeralDesk$Numeral") 1 hg wm_324 wm_321 wm_2 wm_322 wm_323 (by decide +kernel) ⟨Nat.le_of_ble_eq_true rfl, Nat.le_of_ble_eq_true rfl⟩) (z_preV (r := ("ScaledNumeralDesk$Numeral", TN, 3)) hK hG hn hH hA q5lt c5 rfl) rfl rfl hl.1 rfl (lv_room (Nat.le_of_ble_eq_true rfl)) d_D_store_14 ⟨Nat.zero_le _, Nat.zero_le _⟩) hH hA (fun  w4 H2 lc3 hH5 p14 => ?_)
    obtain ⟨⟨f_6, e7, e8, e9, bd10, p14⟩, hg11⟩ := p14
    replace bd10 : bd f_6 15 0 9999 := bd10
    replace p14 : V f_6 15 = V ft 15 := p14
    have e12 : w4 0 = .inr (5, [.ref (ad E 1), .ref (ad E 2), .ref (ad E 3), .ref (ad E 5), .ref (ad E 10), .ref (ad E 13), .ref (ad E 16)]) := (hg11 0 (nx_D_store_0 ) (nx_D_store_1 ) (nx_D_store_2 )).trans c0
    have e13 : w4 1 = zaq E 3 8 fq := (hg11 1 (nx_D_store_3 ) (nx_D_store_4 ) (nx_D_store_5 )).trans c1
    have e14 : w4 10 = .inr (1, [.ref (zg E (1 + kt)), .int (iI plt), .ref (ad E (10 + 1))]) := (hg11 10 (nx_D_store_6 ) (nx_D_store_7 ) (nx_D_store_8 )).trans c2
    have e15 : w4 (10 + 1) = .inr (0, [.ref (ad E (10 + 2)), .int (iI nt)]) := (hg11 (10 + 1) (nx_D_store_9 ) (nx_D_store_10 ) (nx_D_store_11 )).trans c3
    have e16 : w4 (10 + 2) = zar E 15 ft := (hg11 (10 + 2) (nx_D_store_12 ) (nx_D_store_13 ) (nx_D_store_14 )).trans c4
    have hf17 : ∀ k, k ≠ (19 + 3 * rd) → k ≠ (19 + 3 * rd + 1) → k ≠ (19 + 3 * rd + 2) → w4 k = w0 k := fun k g0 g1 g2 => hg11 k g0 g1 g2
    refine lv_iload_n hx hb d_D_store_17 rfl (lv_at hl 2 rfl) ?_
    rw [hQ]
    exact z_iret hx hb hr hlk hH5 (⟨⟨kt, plt, nt, f_6, e7, e8, e9, bd10, ⟨rfl, Or.inl ⟨by omega, rfl, rfl, rfl, p14⟩⟩⟩, (fun k g0 g1 g2 => hf17 k g0 g1 g2)⟩) d_D_store_18
theorem nx_D_type_0  : 0 ≠ 3 := by omega
theorem nx_D_type_1  : 0 ≠ 3 + 1 := by omega
def rm_D_type : Room := { frames := 1, cells := 0, slots := 0, locals := 21 }
set_option maxHeartbeats 4000000 in
set_option maxRecDepth 100000 in
theorem c_D_type (l : Launch) (E : zE) (w0 : zW) (us : Int) (ch : Int → Int) (x : Int) (hzn : 73 ≤ zn E) (c0 : w0 0 = .inr (5, [.ref (ad E 1), .ref (ad E 2), .ref (ad E 3), .ref (ad E 5), .ref (ad E 10), .ref (ad E 13), .ref (ad E 16)])) (c1 : w0 3 = .inr (3, [.ref (ad E (3 + 1)), .int (iI us)])) (c2 : w0 (3 + 1) = zac E 80 ch) (bch : bd ch 80 0 126) (hus : 0 ≤ us ∧ us ≤ 80) (hx0 : 0 ≤ x ∧ x < 65536) : zM l y_D_type ws_D_type rm_D_type E [.ref (ad E 0), .int (iI x)] w0 (zQi E w0 (fun z w' => (∃ (u' : Int) (c' : Int → Int), w' 3 = .inr (3, [.ref (ad E (3 + 1)), .int (iI u')]) ∧ w' (3 + 1) = zac E 80 c' ∧ bd c' 80 0 126 ∧ ((z = 0 ∧ (us = 80 ∨ x < 32 ∨ 126 < x) ∧ u' = us ∧ c' = ch) ∨ (z = 1 ∧ us < 80 ∧ 32 ≤ x ∧ x ≤ 126 ∧ u' = us + 1 ∧ c' = up ch us x))) ∧ ∀ k, k ≠ 3 → k ≠ (3 + 1) → w' k = w0 k)) := by
  refine z_met (cc := b_D_type) (maxL := 2) (ret := (some .boolean)) (by decide +kernel) rfl (Nat.le_of_ble_eq_true rfl) ?_
  intro p e s m below meth cd ls a Qf hQ hC hl hH
  obtain ⟨hF, hr, hlk, hK, hG, hn⟩ := hC
  obtain ⟨hx, hb, hml, hown, hts⟩ := hF
  have hg : ∀ w ∈ GW, w.before a s = true := fun w h => hts w (List.mem_cons_of_mem _ h)
  have hA : ∀ q, s.heap.size ≤ q → va_A (wl E w0) s.heap.size q := fun q h => Or.inr h
  have hl : lv_has ls 2 [(0, .ref (ad E 0)), (1, .int (iI x))] := hl
  have q0lt : 0 < zn E := by omega
  have q1lt : 3 < zn E := by omega
  have q2lt : 3 + 1 < zn E := by omega
  refine lv_aload_n hx hb d_D_type_0 rfl (lv_at hl 0 rfl) ?_
  refine zv_get (C := "ScaledNumeralDesk") (T := TD) (N := 7) hx hb hg uD_in hown hK hH q0lt c0 rfl 2 (by decide) (hg _ wm_130) (fun _ h9 => h9) rfl d_D_type_1 ?_
  refine lv_iload_n hx hb d_D_type_4 rfl (lv_at hl 1 rfl) ?_
  refine z_calli (va_runV (As := [.int (iI x)]) (rest := []) ⟨hx, hb, hml, hown, hts⟩ (c_U_append (l := l) (E := E) (w0 := w0) (y := 3) (us := us) (ch := ch) (x := x) (q0lt := q1lt) (q1lt := q2lt) (c0 := c1) (c1 := c2) (bch := bch) (hus := by omega) (hx0 := by omega) s.heap.size) (z_cwV (C := "ScaledNumeralDesk$Buffer") 1 hg wm_157 wm_154 wm_7 wm_155 wm_156 (by decide +kernel) ⟨Nat.le_of_ble_eq_true rfl, Nat.le_of_ble_eq_true rfl⟩) (z_preV (r := ("ScaledNumeralDesk$Buffer", TU, 2)) hK hG hn hH hA q1lt c1 rfl) rfl rfl hl.1 rfl (lv_room (Nat.le_of_ble_eq_true rfl)) d_D_type_5 ⟨Nat.zero_le _, Nat.zero_le _⟩) hH hA (fun z5 w3 H1 lc2 hH4 p5 => ?_)
  obtain ⟨⟨u_6, c_7, e8, e9, bd10, p5⟩, hg11⟩ := p5
  replace bd10 : bd c_7 80 0 126 := bd10
  replace p5 : (z5 = 0 ∧ (us = 80 ∨ x < 32 ∨ 126 < x) ∧ u_6 = us ∧ c_7 = ch) ∨ (z5 = 1 ∧ us < 80 ∧ 32 ≤ x ∧ x ≤ 126 ∧ u_6 = us + 1 ∧ c_7 = up ch us x) := p5
  have e12 : w3 0 = .inr (5, [.ref (ad E 1), .ref (ad E 2), .ref (ad E 3), .ref (ad E 5), .ref (ad E 10), .ref (ad E 13), .ref (ad E 16)]) := (hg11 0 (nx_D_type_0 ) (nx_D_type_1 )).trans c0
  have hf13 : ∀ k, k ≠ 3 → k ≠ (3 + 1) → w3 k = w0 k := fun k g0 g1 => hg11 k g0 g1
  rw [hQ]
  exact z_zret hx hb hr hlk hH4 (⟨⟨u_6, c_7, e8, e9, bd10, p5⟩, (fun k g0 g1 => hf13 k g0 g1)⟩) (by exact nar_z (by omega)) d_D_type_8
theorem nx_D_enter_0  : 0 ≠ 10 := by omega
theorem nx_D_enter_1  : 0 ≠ 10 + 1 := by omega
theorem nx_D_enter_2  : 0 ≠ 10 + 2 := by omega
theorem nx_D_enter_3  : 1 ≠ 10 := by omega
theorem nx_D_enter_4  : 1 ≠ 10 + 1 := by omega
theorem nx_D_enter_5  : 1 ≠ 10 + 2 := by omega
theorem nx_D_enter_6  : 3 ≠ 10 := by omega
theorem nx_D_enter_7  : 3 ≠ 10 + 1 := by omega
theorem nx_D_enter_8  : 3 ≠ 10 + 2 := by omega
theorem nx_D_enter_9  : 3 + 1 ≠ 10 := by omega
theorem nx_D_enter_10  : 3 + 1 ≠ 10 + 1 := by omega
theorem nx_D_enter_11  : 3 + 1 ≠ 10 + 2 := by omega
theorem nx_D_enter_12 {rd : Nat}  : 19 + 3 * rd ≠ 10 := by omega
theorem nx_D_enter_13 {rd : Nat}  : 19 + 3 * rd ≠ 10 + 1 := by omega
theorem nx_D_enter_14 {rd : Nat}  : 19 + 3 * rd ≠ 10 + 2 := by omega
theorem nx_D_enter_15 {rd : Nat}  : 19 + 3 * rd + 1 ≠ 10 := by omega
theorem nx_D_enter_16 {rd : Nat}  : 19 + 3 * rd + 1 ≠ 10 + 1 := by omega
theorem nx_D_enter_17 {rd : Nat}  : 19 + 3 * rd + 1 ≠ 10 + 2 := by omega
theorem nx_D_enter_18 {rd : Nat}  : 19 + 3 * rd + 2 ≠ 10 := by omega
theorem nx_D_enter_19 {rd : Nat}  : 19 + 3 * rd + 2 ≠ 10 + 1 := by omega
theorem nx_D_enter_20 {rd : Nat}  : 19 + 3 * rd + 2 ≠ 10 + 2 := by omega
theorem nx_D_enter_21  : 0 ≠ 3 := by omega
theorem nx_D_enter_22  : 1 ≠ 3 := by omega
theorem nx_D_enter_23  : 3 + 1 ≠ 3 := by omega
theorem nx_D_enter_24  : 10 ≠ 3 := by omega
theorem nx_D_enter_25  : 10 + 1 ≠ 3 := by omega
theorem nx_D_enter_26  : 10 + 2 ≠ 3 := by omega
theorem nx_D_enter_27 {rd : Nat}  : 19 + 3 * rd ≠ 3 := by omega
theorem nx_D_enter_28 {rd : Nat}  : 19 + 3 * rd + 1 ≠ 3 := by omega
theorem nx_D_enter_29 {rd : Nat}  : 19 + 3 * rd + 2 ≠ 3 := by omega
theorem nx_D_enter_30 {rd : Nat}  : 0 ≠ 19 + 3 * rd := by omega
theorem nx_D_enter_31 {rd : Nat}  : 0 ≠ 19 + 3 * rd + 1 := by omega
theorem nx_D_enter_32 {rd : Nat}  : 0 ≠ 19 + 3 * rd + 2 := by omega
theorem nx_D_enter_33 {rd : Nat}  : 1 ≠ 19 + 3 * rd := by omega
theorem nx_D_enter_34 {rd : Nat}  : 1 ≠ 19 + 3 * rd + 1 := by omega
theorem nx_D_enter_35 {rd : Nat}  : 1 ≠ 19 + 3 * rd + 2 := by omega
theorem nx_D_enter_36 {rd : Nat}  : 3 ≠ 19 + 3 * rd := by omega
theorem nx_D_enter_37 {rd : Nat}  : 3 ≠ 19 + 3 * rd + 1 := by omega
theorem nx_D_enter_38 {rd : Nat}  : 3 ≠ 19 + 3 * rd + 2 := by omega
theorem nx_D_enter_39 {rd : Nat}  : 3 + 1 ≠ 19 + 3 * rd := by omega
theorem nx_D_enter_40 {rd : Nat}  : 3 + 1 ≠ 19 + 3 * rd + 1 := by omega
theorem nx_D_enter_41 {rd : Nat}  : 3 + 1 ≠ 19 + 3 * rd + 2 := by omega
theorem nx_D_enter_42 {rd : Nat}  : 10 ≠ 19 + 3 * rd := by omega
theorem nx_D_enter_43 {rd : Nat}  : 10 ≠ 19 + 3 * rd + 1 := by omega
theorem nx_D_enter_44 {rd : Nat}  : 10 ≠ 19 + 3 * rd + 2 := by omega
theorem nx_D_enter_45 {rd : Nat}  : 10 + 1 ≠ 19 + 3 * rd := by omega
theorem nx_D_enter_46 {rd : Nat}  : 10 + 1 ≠ 19 + 3 * rd + 1 := by omega
theorem nx_D_enter_47 {rd : Nat}  : 10 + 1 ≠ 19 + 3 * rd + 2 := by omega
theorem nx_D_enter_48 {rd : Nat}  : 10 + 2 ≠ 19 + 3 * rd := by omega
theorem nx_D_enter_49 {rd : Nat}  : 10 + 2 ≠ 19 + 3 * rd + 1 := by omega
theorem nx_D_enter_50 {rd : Nat}  : 10 + 2 ≠ 19 + 3 * rd + 2 := by omega
def rm_D_enter : Room := { frames := 6, cells := 0, slots := 0, locals := 138 }
set_option maxHeartbeats 4000000 in
set_option maxRecDepth 100000 in
theorem c_D_enter (l : Launch) (E : zE) (w0 : zW) (fq : Nat → Option Nat) (us : Int) (ch : Int → Int) (kt : Nat) (plt nt : Int) (ft : Int → Int) (rd : Nat) (kd : Nat) (pld nd : Int) (fd : Int → Int) (hzn : 73 ≤ zn E) (c0 : w0 0 = .inr (5, [.ref (ad E 1), .ref (ad E 2), .ref (ad E 3), .ref (ad E 5), .ref (ad E 10), .ref (ad E 13), .ref (ad E 16)])) (c1 : w0 1 = zaq E 3 8 fq) (c2 : w0 3 = .inr (3, [.ref (ad E (3 + 1)), .int (iI us)])) (c3 : w0 (3 + 1) = zac E 80 ch) (c4 : w0 10 = .inr (1, [.ref (zg E (1 + kt)), .int (iI plt), .ref (ad E (10 + 1))])) (c5 : w0 (10 + 1) = .inr (0, [.ref (ad E (10 + 2)), .int (iI nt)])) (c6 : w0 (10 + 2) = zar E 15 ft) (c7 : w0 (19 + 3 * rd) = .inr (1, [.ref (zg E (1 + kd)), .int (iI pld), .ref (ad E (19 + 3 * rd + 1))])) (c8 : w0 (19 + 3 * rd + 1) = .inr (0, [.ref (ad E (19 + 3 * rd + 2)), .int (iI nd)])) (c9 : w0 (19 + 3 * rd + 2) = zar E 15 fd) (hfq : ∀ k : Nat, k < 8 → fq k = some (ad E (19 + 3 * k))) (bch : bd ch 80 0 126) (hus : 0 ≤ us ∧ us ≤ 80) (bft : bd ft 15 0 9999) (hkt : kt < 4) (hnt : nt = 0 ∨ nt = 1) (bfd : bd fd 15 0 9999) (hkd : kd < 4) (hnd : nd = 0 ∨ nd = 1) (hrd : rd < 8) : zM l y_D_enter ws_D_enter rm_D_enter E [.ref (ad E 0), .int (iI ((rd : Int)))] w0 (zQi E w0 (fun z w' => (∃ (kt' : Nat) (plt' : Int) (nt' : Int) (ft' : Int → Int) (k' : Nat) (p' : Int) (n' : Int) (f' : Int → Int), w' 3 = .inr (3, [.ref (ad E (3 + 1)), .int (iI 0)]) ∧ w' 10 = .inr (1, [.ref (zg E (1 + kt')), .int (iI plt'), .ref (ad E (10 + 1))]) ∧ w' (10 + 1) = .inr (0, [.ref (ad E (10 + 2)), .int (iI nt')]) ∧ w' (10 + 2) = zar E 15 ft' ∧ w' (19 + 3 * rd) = .inr (1, [.ref (zg E (1 + k')), .int (iI p'), .ref (ad E (19 + 3 * rd + 1))]) ∧ w' (19 + 3 * rd + 1) = .inr (0, [.ref (ad E (19 + 3 * rd + 2)), .int (iI n')]) ∧ w' (19 + 3 * rd + 2) = zar E 15 f' ∧ bd ft' 15 0 9999 ∧ bd f' 15 0 9999 ∧ (kt' < 4 ∧ (nt' = 0 ∨ nt' = 1) ∧ Nf z kt' plt' nt' (V ft' 15) ∧ RiR ch us z kt' plt' nt' (V ft' 15) ∧ StoR z kt' plt' nt' (V ft' 15) kd pld nd (V fd 15) k' p' n' (V f' 15))) ∧ ∀ k, k ≠ 3 → k ≠ 10 → k ≠ (10 + 1) → k ≠ (10 + 2) → k ≠ (19 + 3 * rd) → k ≠ (19 + 3 * rd + 1) → k ≠ (19 + 3 * rd + 2) → w' k = w0 k)) := by
  refine z_met (cc := b_D_enter) (maxL := 3) (ret := (some .int)) (by decide +kernel) rfl (Nat.le_of_ble_eq_true rfl) ?_
  intro p e s m below meth cd ls a Qf hQ hC hl hH
  obtain ⟨hF, hr, hlk, hK, hG, hn⟩ := hC
  obtain ⟨hx, hb, hml, hown, hts⟩ := hF
  have hg : ∀ w ∈ GW, w.before a s = true := fun w h => hts w (List.mem_cons_of_mem _ h)
  have hA : ∀ q, s.heap.size ≤ q → va_A (wl E w0) s.heap.size q := fun q h => Or.inr h
  have hl : lv_has ls 3 [(0, .ref (ad E 0)), (1, .int (iI ((rd : Int))))] := hl
  have q0lt : 0 < zn E := by omega
  have q1lt : 1 < zn E := by omega
  have q2lt : 3 < zn E := by omega
  have q3lt : 3 + 1 < zn E := by omega
  have q4lt : 10 < zn E := by omega
  have q5lt : 10 + 1 < zn E := by omega
  have q6lt : 10 + 2 < zn E := by omega
  have q7lt : 19 + 3 * rd < zn E := by omega
  have q8lt : 19 + 3 * rd + 1 < zn E := by omega
  have q9lt : 19 + 3 * rd + 2 < zn E := by omega
  refine lv_iload_n hx hb d_D_enter_0 rfl (lv_at hl 1 rfl) ?_
  refine z_calli (va_runS (As := [.int (iI ((rd : Int)))]) (rest := []) ⟨hx, hb, hml, hown, hts⟩ (c_D_isRegister (l := l) (E := E) (w0 := w0) (r := (rd : Int)) (hr0 := by omega) s.heap.size) (z_cwS 1 hg wm_164 wm_162 wm_1 wm_163 (by decide +kernel) ⟨Nat.le_of_ble_eq_true rfl, Nat.le_of_ble_eq_true rfl⟩) (z_preS hK hG hn hH hA) rfl rfl hl.1 rfl (lv_room (Nat.le_of_ble_eq_true rfl)) d_D_enter_1 ⟨Nat.zero_le _, Nat.zero_le _⟩) hH hA (fun z5 w3 H1 lc2 hH4 p1 => ?_)
  obtain ⟨ew6, p1⟩ := p1
  rw [ew6] at hH4
  replace p1 : (z5 = 1 ∧ 0 ≤ ((rd : Int)) ∧ ((rd : Int)) < 8) ∨ (z5 = 0 ∧ ¬ (0 ≤ ((rd : Int)) ∧ ((rd : Int)) < 8)) := p1
  refine zv_if_ne (tgt := 9) hx hb d_D_enter_4 rfl (by omega) (fun h7 => ?_) (fun h7 => absurd h7 (by omega))
  refine lv_aload_n hx hb d_D_enter_9 rfl (lv_at hl 0 rfl) ?_
  refine zv_get (C := "ScaledNumeralDesk") (T := TD) (N := 7) hx hb hg uD_in hown hK hH4 q0lt c0 rfl 2 (by decide) (hg _ wm_130) (fun _ h9 => h9) rfl d_D_enter_10 ?_
  refine lv_aload_n hx hb d_D_enter_13 rfl (lv_at hl 0 rfl) ?_
  refine zv_get (C := "ScaledNumeralDesk") (T := TD) (N := 7) hx hb hg uD_in hown hK hH4 q0lt c0 rfl 4 (by decide) (hg _ wm_132) (fun _ h9 => h9) rfl d_D_enter_14 ?_
  refine z_calli (va_runV (As := [.ref (ad E 10)]) (rest := []) ⟨hx, hb, hml, hown, hts⟩ (c_U_read (l := l) (E := E) (w0 := w0) (y := 3) (us := us) (ch := ch) (q := 10) (kd := kt) (pl := plt) (ng := nt) (f := ft) (q0lt := q2lt) (q1lt := q3lt) (q2lt := q4lt) (q3lt := q5lt) (q4lt := q6lt) (c0 := c2) (c1 := c3) (c2 := c4) (c3 := c5) (c4 := c6) (bch := bch) (hus := by omega) (bf := bft) (hkd := by omega) (hng := by omega) (hyq := by omega) H1.size) (z_cwV (C := "ScaledNumeralDesk$Buffer") 1 hg wm_168 wm_165 wm_7 wm_166 wm_167 (by decide +kernel) ⟨Nat.le_of_ble_eq_true rfl, Nat.le_of_ble_eq_true rfl⟩) (z_preV (r := ("ScaledNumeralDesk$Buffer", TU, 2)) hK hG hn hH4 hA q2lt c2 rfl) rfl rfl hl.1 rfl (lv_room (Nat.le_of_ble_eq_true rfl)) d_D_enter_17 ⟨Nat.zero_le _, Nat.zero_le _⟩) hH4 hA (fun z17 w10 H8 lc9 hH11 p17 => ?_)
  obtain ⟨⟨k_12, p_13, n_14, f_15, e16, e17, e18, bd19, p17⟩, hg20⟩ := p17
  replace bd19 : bd f_15 15 0 9999 := bd19
  replace p17 : k_12 < 4 ∧ (n_14 = 0 ∨ n_14 = 1) ∧ Nf z17 k_12 p_13 n_14 (V f_15 15) ∧ RiR ch us z17 k_12 p_13 n_14 (V f_15 15) := p17
  have e21 : w10 0 = .inr (5, [.ref (ad E 1), .ref (ad E 2), .ref (ad E 3), .ref (ad E 5), .ref (ad E 10), .ref (ad E 13), .ref (ad E 16)]) := (hg20 0 (nx_D_enter_0 ) (nx_D_enter_1 ) (nx_D_enter_2 )).trans c0
  have e22 : w10 1 = zaq E 3 8 fq := (hg20 1 (nx_D_enter_3 ) (nx_D_enter_4 ) (nx_D_enter_5 )).trans c1
  have e23 : w10 3 = .inr (3, [.ref (ad E (3 + 1)), .int (iI us)]) := (hg20 3 (nx_D_enter_6 ) (nx_D_enter_7 ) (nx_D_enter_8 )).trans c2
  have e24 : w10 (3 + 1) = zac E 80 ch := (hg20 (3 + 1) (nx_D_enter_9 ) (nx_D_enter_10 ) (nx_D_enter_11 )).trans c3
  have e25 : w10 (19 + 3 * rd) = .inr (1, [.ref (zg E (1 + kd)), .int (iI pld), .ref (ad E (19 + 3 * rd + 1))]) := (hg20 (19 + 3 * rd) (nx_D_enter_12 ) (nx_D_enter_13 ) (nx_D_enter_14 )).trans c7
  have e26 : w10 (19 + 3 * rd + 1) = .inr (0, [.ref (ad E (19 + 3 * rd + 2)), .int (iI nd)]) := (hg20 (19 + 3 * rd + 1) (nx_D_enter_15 ) (nx_D_enter_16 ) (nx_D_enter_17 )).trans c8
  have e27 : w10 (19 + 3 * rd + 2) = zar E 15 fd := (hg20 (19 + 3 * rd + 2) (nx_D_enter_18 ) (nx_D_enter_19 ) (nx_D_enter_20 )).trans c9
  have hf28 : ∀ k, k ≠ 10 → k ≠ (10 + 1) → k ≠ (10 + 2) → w10 k = w0 k := fun k g0 g1 g2 => hg20 k g0 g1 g2
  have z9 := RiR_z p17.2.2.2
  refine lv_istore_n (lv' := [(2, .int (iI z17)), (0, .ref (ad E 0)), (1, .int (iI ((rd : Int))))]) hx hb d_D_enter_20 rfl hl (by decide) rfl (fun ls hl => ?_)
  refine lv_aload_n hx hb d_D_enter_21 rfl (lv_at hl 1 rfl) ?_
  refine zv_get (C := "ScaledNumeralDesk") (T := TD) (N := 7) hx hb hg uD_in hown hK hH11 q0lt e21 rfl 2 (by decide) (hg _ wm_130) (fun _ h9 => h9) rfl d_D_enter_22 ?_
  refine z_callv (va_runV (As := []) (rest := []) ⟨hx, hb, hml, hown, hts⟩ (c_U_empty (l := l) (E := E) (w0 := w10) (y := 3) (us := us) (ch := ch) (q0lt := q2lt) (q1lt := q3lt) (c0 := e23) (c1 := e24) (bch := bch) (hus := by omega) H8.size) (z_cwV (C := "ScaledNumeralDesk$Buffer") 0 hg wm_316 wm_313 wm_7 wm_314 wm_315 (by decide +kernel) ⟨Nat.le_of_ble_eq_true rfl, Nat.le_of_ble_eq_true rfl⟩) (z_preV (r := ("ScaledNumeralDesk$Buffer", TU, 2)) hK hG hn hH11 hA q2lt e23 rfl) rfl rfl hl.1 rfl (lv_room (Nat.le_of_ble_eq_true rfl)) d_D_enter_25 ⟨Nat.zero_le _, Nat.zero_le _⟩) hH11 hA (fun  w31 H29 lc30 hH32 hp33 => ?_)
  obtain ⟨⟨e34, hp33⟩, hg35⟩ := hp33
  have e36 : w31 0 = .inr (5, [.ref (ad E 1), .ref (ad E 2), .ref (ad E 3), .ref (ad E 5), .ref (ad E 10), .ref (ad E 13), .ref (ad E 16)]) := (hg35 0 (nx_D_enter_21 )).trans e21
  have e37 : w31 1 = zaq E 3 8 fq := (hg35 1 (nx_D_enter_22 )).trans e22
  have e38 : w31 (3 + 1) = zac E 80 ch := (hg35 (3 + 1) (nx_D_enter_23 )).trans e24
  have e39 : w31 10 = .inr (1, [.ref (zg E (1 + k_12)), .int (iI p_13), .ref (ad E (10 + 1))]) := (hg35 10 (nx_D_enter_24 )).trans e16
  have e40 : w31 (10 + 1) = .inr (0, [.ref (ad E (10 + 2)), .int (iI n_14)]) := (hg35 (10 + 1) (nx_D_enter_25 )).trans e17
  have e41 : w31 (10 + 2) = zar E 15 f_15 := (hg35 (10 + 2) (nx_D_enter_26 )).trans e18
  have e42 : w31 (19 + 3 * rd) = .inr (1, [.ref (zg E (1 + kd)), .int (iI pld), .ref (ad E (19 + 3 * rd + 1))]) := (hg35 (19 + 3 * rd) (nx_D_enter_27 )).trans e25
  have e43 : w31 (19 + 3 * rd + 1) = .inr (0, [.ref (ad E (19 + 3 * rd + 2)), .int (iI nd)]) := (hg35 (19 + 3 * rd + 1) (nx_D_enter_28 )).trans e26
  have e44 : w31 (19 + 3 * rd + 2) = zar E 15 fd := (hg35 (19 + 3 * rd + 2) (nx_D_enter_29 )).trans e27
  have hf45 : ∀ k, k ≠ 10 → k ≠ (10 + 1) → k ≠ (10 + 2) → k ≠ 3 → w31 k = w0 k := fun k g0 g1 g2 g3 => (hg35 k g3).trans (hf28 k g0 g1 g2)
  refine lv_aload_n hx hb d_D_enter_28 rfl (lv_at hl 1 rfl) ?_
  refine lv_iload_n hx hb d_D_enter_29 rfl (lv_at hl 2 rfl) ?_
  refine lv_iload_n hx hb d_D_enter_30 rfl (lv_at hl 0 rfl) ?_
  refine z_calli (va_runV (As := [.int (iI ((rd : Int))), .int (iI z17)]) (rest := []) ⟨hx, hb, hml, hown, hts⟩ (c_D_store (l := l) (E := E) (w0 := w31) (fq := fq) (kt := k_12) (plt := p_13) (nt := n_14) (ft := f_15) (rd := rd) (kd := kd) (pld := pld) (nd := nd) (fd := fd) (an := z17) (hzn := hzn) (c0 := e36) (c1 := e37) (c2 := e39) (c3 := e40) (c4 := e41) (c5 := e42) (c6 := e43) (c7 := e44) (hfq := hfq) (bft := bd19) (hkt := by omega) (hnt := by omega) (bfd := bfd) (hkd := by omega) (hnd := by omega) (hrd := by omega) (han := by omega) H29.size) (z_cwV (C := "ScaledNumeralDesk") 2 hg wm_320 wm_317 wm_1 wm_319 wm_s8 (by decide +kernel) ⟨Nat.le_of_ble_eq_true rfl, Nat.le_of_ble_eq_true rfl⟩) (z_preV (r := ("ScaledNumeralDesk", TD, 7)) hK hG hn hH32 hA q0lt e36 rfl) rfl rfl hl.1 rfl (lv_room (Nat.le_of_ble_eq_true rfl)) d_D_enter_31 ⟨Nat.zero_le _, Nat.zero_le _⟩) hH32 hA (fun z50 w48 H46 lc47 hH49 p31 => ?_)
  obtain ⟨⟨k_51, p_52, n_53, f_54, e55, e56, e57, bd58, p31⟩, hg59⟩ := p31
  replace bd58 : bd f_54 15 0 9999 := bd58
  replace p31 : z50 = z17 ∧ StoR z17 k_12 p_13 n_14 (V f_15 15) kd pld nd (V fd 15) k_51 p_52 n_53 (V f_54 15) := p31
  have e60 : w48 0 = .inr (5, [.ref (ad E 1), .ref (ad E 2), .ref (ad E 3), .ref (ad E 5), .ref (ad E 10), .ref (ad E 13), .ref (ad E 16)]) := (hg59 0 (nx_D_enter_30 ) (nx_D_enter_31 ) (nx_D_enter_32 )).trans e36
  have e61 : w48 1 = zaq E 3 8 fq := (hg59 1 (nx_D_enter_33 ) (nx_D_enter_34 ) (nx_D_enter_35 )).trans e37
  have e62 : w48 3 = .inr (3, [.ref (ad E (3 + 1)), .int (iI 0)]) := (hg59 3 (nx_D_enter_36 ) (nx_D_enter_37 ) (nx_D_enter_38 )).trans e34
  have e63 : w48 (3 + 1) = zac E 80 ch := (hg59 (3 + 1) (nx_D_enter_39 ) (nx_D_enter_40 ) (nx_D_enter_41 )).trans e38
  have e64 : w48 10 = .inr (1, [.ref (zg E (1 + k_12)), .int (iI p_13), .ref (ad E (10 + 1))]) := (hg59 10 (nx_D_enter_42 ) (nx_D_enter_43 ) (nx_D_enter_44 )).trans e39
  have e65 : w48 (10 + 1) = .inr (0, [.ref (ad E (10 + 2)), .int (iI n_14)]) := (hg59 (10 + 1) (nx_D_enter_45 ) (nx_D_enter_46 ) (nx_D_enter_47 )).trans e40
  have e66 : w48 (10 + 2) = zar E 15 f_15 := (hg59 (10 + 2) (nx_D_enter_48 ) (nx_D_enter_49 ) (nx_D_enter_50 )).trans e41
  have hf67 : ∀ k, k ≠ 10 → k ≠ (10 + 1) → k ≠ (10 + 2) → k ≠ 3 → k ≠ (19 + 3 * rd) → k ≠ (19 + 3 * rd + 1) → k ≠ (19 + 3 * rd + 2) → w48 k = w0 k := fun k g0 g1 g2 g3 g4 g5 g6 => (hg59 k g4 g5 g6).trans (hf45 k g0 g1 g2 g3)
  rw [hQ]
  exact z_iret hx hb hr hlk hH49 (⟨⟨k_12, p_13, n_14, f_15, k_51, p_52, n_53, f_54, e62, e64, e65, e66, e55, e56, e57, bd19, bd58, by rw [p31.1]; exact ⟨p17.1, p17.2.1, p17.2.2.1, p17.2.2.2, p31.2⟩⟩, (fun k g0 g1 g2 g3 g4 g5 g6 => hf67 k g1 g2 g3 g0 g4 g5 g6)⟩) d_D_enter_34
def rm_D_length : Room := { frames := 4, cells := 0, slots := 0, locals := 85 }
set_option maxHeartbeats 4000000 in
set_option maxRecDepth 100000 in
theorem c_D_length (l : Launch) (E : zE) (w0 : zW) (fq : Nat → Option Nat) (ra : Nat) (ka : Nat) (pla na : Int) (fa : Int → Int) (hzn : 73 ≤ zn E) (c0 : w0 0 = .inr (5, [.ref (ad E 1), .ref (ad E 2), .ref (ad E 3), .ref (ad E 5), .ref (ad E 10), .ref (ad E 13), .ref (ad E 16)])) (c1 : w0 1 = zaq E 3 8 fq) (c2 : w0 (19 + 3 * ra) = .inr (1, [.ref (zg E (1 + ka)), .int (iI pla), .ref (ad E (19 + 3 * ra + 1))])) (c3 : w0 (19 + 3 * ra + 1) = .inr (0, [.ref (ad E (19 + 3 * ra + 2)), .int (iI na)])) (c4 : w0 (19 + 3 * ra + 2) = zar E 15 fa) (hfq : ∀ k : Nat, k < 8 → fq k = some (ad E (19 + 3 * k))) (bfa : bd fa 15 0 9999) (hka : ka < 4) (hna : na = 0 ∨ na = 1) (hra : ra < 8) (hpa : 0 ≤ pla ∧ pla ≤ 24) (hva : V fa 15 < Bp 14) (hca : V fa 15 = 0 → na = 0) (hfa : ka ≠ 1 → pla = 0 ∧ na = 0 ∧ V fa 15 = 0) : zM l y_D_length ws_D_length rm_D_length E [.ref (ad E 0), .int (iI ((ra : Int)))] w0 (zQi E w0 (fun z w' => w' = w0 ∧ (TlR ka pla na (V fa 15) z))) := by
  refine z_met (cc := b_D_length) (maxL := 2) (ret := (some .int)) (by decide +kernel) rfl (Nat.le_of_ble_eq_true rfl) ?_
  intro p e s m below meth cd ls a Qf hQ hC hl hH
  obtain ⟨hF, hr, hlk, hK, hG, hn⟩ := hC
  obtain ⟨hx, hb, hml, hown, hts⟩ := hF
  have hg : ∀ w ∈ GW, w.before a s = true := fun w h => hts w (List.mem_cons_of_mem _ h)
  have hA : ∀ q, s.heap.size ≤ q → va_A (wl E w0) s.heap.size q := fun q h => Or.inr h
  have hl : lv_has ls 2 [(0, .ref (ad E 0)), (1, .int (iI ((ra : Int))))] := hl
  have q0lt : 0 < zn E := by omega
  have q1lt : 1 < zn E := by omega
  have q2lt : 19 + 3 * ra < zn E := by omega
  have q3lt : 19 + 3 * ra + 1 < zn E := by omega
  have q4lt : 19 + 3 * ra + 2 < zn E := by omega
  refine lv_iload_n hx hb d_D_length_0 rfl (lv_at hl 1 rfl) ?_
  refine z_calli (va_runS (As := [.int (iI ((ra : Int)))]) (rest := []) ⟨hx, hb, hml, hown, hts⟩ (c_D_isRegister (l := l) (E := E) (w0 := w0) (r := (ra : Int)) (hr0 := by omega) s.heap.size) (z_cwS 1 hg wm_164 wm_162 wm_1 wm_163 (by decide +kernel) ⟨Nat.le_of_ble_eq_true rfl, Nat.le_of_ble_eq_true rfl⟩) (z_preS hK hG hn hH hA) rfl rfl hl.1 rfl (lv_room (Nat.le_of_ble_eq_true rfl)) d_D_length_1 ⟨Nat.zero_le _, Nat.zero_le _⟩) hH hA (fun z5 w3 H1 lc2 hH4 p1 => ?_)
  obtain ⟨ew6, p1⟩ := p1
  rw [ew6] at hH4
  replace p1 : (z5 = 1 ∧ 0 ≤ ((ra : Int)) ∧ ((ra : Int)) < 8) ∨ (z5 = 0 ∧ ¬ (0 ≤ ((ra : Int)) ∧ ((ra : Int)) < 8)) := p1
  refine zv_if_eq (tgt := 19) hx hb d_D_length_4 rfl (by omega) (fun h7 => absurd h7 (by omega)) (fun h7 => ?_)
  refine lv_aload_n hx hb d_D_length_7 rfl (lv_at hl 0 rfl) ?_
  refine zv_get (C := "ScaledNumeralDesk") (T := TD) (N := 7) hx hb hg uD_in hown hK hH4 q0lt c0 rfl 0 (by decide) (hg _ wm_128) (fun _ h9 => h9) rfl d_D_length_8 ?_
  refine lv_iload_n hx hb d_D_length_11 rfl (lv_at hl 1 rfl) ?_
  refine zv_aald (i := ra) hx hb hK hH4 q1lt c1 rfl (by omega) (by omega) (hfq ra (by omega)) d_D_length_12 ?_
  refine z_calli (va_runV (As := []) (rest := []) ⟨hx, hb, hml, hown, hts⟩ (c_N_textLength (l := l) (E := E) (w0 := w0) (q := 19 + 3 * ra) (kd := ka) (pl := pla) (ng := na) (f := fa) (q0lt := q2lt) (q1lt := q3lt) (q2lt := q4lt) (c0 := c2) (c1 := c3) (c2 := c4) (bf := bfa) (hkd := by omega) (hng := by omega) (hpl := by omega) H1.size) (z_cwV (C := "ScaledNumeralDesk$Numeral") 0 hg wm_340 wm_337 wm_2 wm_338 wm_339 (by decide +kernel) ⟨Nat.le_of_ble_eq_true rfl, Nat.le_of_ble_eq_true rfl⟩) (z_preV (r := ("ScaledNumeralDesk$Numeral", TN, 3)) hK hG hn hH4 hA q2lt c2 rfl) rfl rfl hl.1 rfl (lv_room (Nat.le_of_ble_eq_true rfl)) d_D_length_13 ⟨Nat.zero_le _, Nat.zero_le _⟩) hH4 hA (fun z12 w10 H8 lc9 hH11 p13 => ?_)
  obtain ⟨ew13, p13⟩ := p13
  rw [ew13] at hH11
  replace p13 : (ka ≠ 1 ∧ z12 = lenZ ka) ∨ (ka = 1 ∧ ∃ n : Int, Wh (V fa 15) n ∧ 1 ≤ n ∧ n ≤ 36 ∧ z12 = na + n + ptl pla) := p13
  refine lv_goto (tgt := 20) hx hb d_D_length_16 rfl ?_
  rw [hQ]
  exact z_iret hx hb hr hlk hH11 (⟨rfl, p13⟩) d_D_length_20
def rm_D_character : Room := { frames := 5, cells := 0, slots := 0, locals := 108 }
set_option maxHeartbeats 4000000 in
set_option maxRecDepth 100000 in
theorem c_D_character (l : Launch) (E : zE) (w0 : zW) (fq : Nat → Option Nat) (ra : Nat) (ka : Nat) (pla na : Int) (fa : Int → Int) (i : Int) (hzn : 73 ≤ zn E) (c0 : w0 0 = .inr (5, [.ref (ad E 1), .ref (ad E 2), .ref (ad E 3), .ref (ad E 5), .ref (ad E 10), .ref (ad E 13), .ref (ad E 16)])) (c1 : w0 1 = zaq E 3 8 fq) (c2 : w0 (19 + 3 * ra) = .inr (1, [.ref (zg E (1 + ka)), .int (iI pla), .ref (ad E (19 + 3 * ra + 1))])) (c3 : w0 (19 + 3 * ra + 1) = .inr (0, [.ref (ad E (19 + 3 * ra + 2)), .int (iI na)])) (c4 : w0 (19 + 3 * ra + 2) = zar E 15 fa) (hfq : ∀ k : Nat, k < 8 → fq k = some (ad E (19 + 3 * k))) (bfa : bd fa 15 0 9999) (hka : ka < 4) (hna : na = 0 ∨ na = 1) (hra : ra < 8) (hpa : 0 ≤ pla ∧ pla ≤ 24) (hva : V fa 15 < Bp 14) (hca : V fa 15 = 0 → na = 0) (hfa : ka ≠ 1 → pla = 0 ∧ na = 0 ∧ V fa 15 = 0) (hi0 : zr i) : zM l y_D_character ws_D_character rm_D_character E [.ref (ad E 0), .int (iI ((ra : Int))), .int (iI i)] w0 (zQi E w0 (fun z w' => w' = w0 ∧ ((z = -1 ∧ (i < 0 ∨ ∃ L : Int, TlR ka pla na (V fa 15) L ∧ L ≤ i)) ∨ (0 ≤ i ∧ (∃ L : Int, TlR ka pla na (V fa 15) L ∧ i < L) ∧ TkR ka na (V fa 15) i z)))) := by
  refine z_met (cc := b_D_character) (maxL := 3) (ret := (some .int)) (by decide +kernel) rfl (Nat.le_of_ble_eq_true rfl) ?_
  intro p e s m below meth cd ls a Qf hQ hC hl hH
  obtain ⟨hF, hr, hlk, hK, hG, hn⟩ := hC
  obtain ⟨hx, hb, hml, hown, hts⟩ := hF
  have hg : ∀ w ∈ GW, w.before a s = true := fun w h => hts w (List.mem_cons_of_mem _ h)
  have hA : ∀ q, s.heap.size ≤ q → va_A (wl E w0) s.heap.size q := fun q h => Or.inr h
  have hl : lv_has ls 3 [(0, .ref (ad E 0)), (1, .int (iI ((ra : Int)))), (2, .int (iI i))] := hl
  have q0lt : 0 < zn E := by omega
  have q1lt : 1 < zn E := by omega
  have q2lt : 19 + 3 * ra < zn E := by omega
  have q3lt : 19 + 3 * ra + 1 < zn E := by omega
  have q4lt : 19 + 3 * ra + 2 < zn E := by omega
  refine lv_iload_n hx hb d_D_character_0 rfl (lv_at hl 1 rfl) ?_
  refine z_calli (va_runS (As := [.int (iI ((ra : Int)))]) (rest := []) ⟨hx, hb, hml, hown, hts⟩ (c_D_isRegister (l := l) (E := E) (w0 := w0) (r := (ra : Int)) (hr0 := by omega) s.heap.size) (z_cwS 1 hg wm_164 wm_162 wm_1 wm_163 (by decide +kernel) ⟨Nat.le_of_ble_eq_true rfl, Nat.le_of_ble_eq_true rfl⟩) (z_preS hK hG hn hH hA) rfl rfl hl.1 rfl (lv_room (Nat.le_of_ble_eq_true rfl)) d_D_character_1 ⟨Nat.zero_le _, Nat.zero_le _⟩) hH hA (fun z5 w3 H1 lc2 hH4 p1 => ?_)
  obtain ⟨ew6, p1⟩ := p1
  rw [ew6] at hH4
  replace p1 : (z5 = 1 ∧ 0 ≤ ((ra : Int)) ∧ ((ra : Int)) < 8) ∨ (z5 = 0 ∧ ¬ (0 ≤ ((ra : Int)) ∧ ((ra : Int)) < 8)) := p1
  refine zv_if_eq (tgt := 24) hx hb d_D_character_4 rfl (by omega) (fun h7 => absurd h7 (by omega)) (fun h7 => ?_)
  refine lv_iload_n hx hb d_D_character_7 rfl (lv_at hl 2 rfl) ?_
  refine zv_if_lt (tgt := 24) hx hb d_D_character_8 rfl (by omega) (fun h8 => ?_) (fun h8 => ?_)
  · refine zv_iconst hx hb d_D_character_24 ?_
    rw [hQ]
    exact z_iret hx hb hr hlk hH4 (⟨rfl, Or.inl ⟨rfl, Or.inl (by omega)⟩⟩) d_D_character_25
  · refine lv_iload_n hx hb d_D_character_11 rfl (lv_at hl 2 rfl) ?_
    refine lv_aload_n hx hb d_D_character_12 rfl (lv_at hl 0 rfl) ?_
    refine zv_get (C := "ScaledNumeralDesk") (T := TD) (N := 7) hx hb hg uD_in hown hK hH4 q0lt c0 rfl 0 (by decide) (hg _ wm_128) (fun _ h9 => h9) rfl d_D_character_13 ?_
    refine lv_iload_n hx hb d_D_character_16 rfl (lv_at hl 1 rfl) ?_
    refine zv_aald (i := ra) hx hb hK hH4 q1lt c1 rfl (by omega) (by omega) (hfq ra (by omega)) d_D_character_17 ?_
    refine z_calli (va_runV (As := []) (rest := [.int (iI i)]) ⟨hx, hb, hml, hown, hts⟩ (c_N_textLength (l := l) (E := E) (w0 := w0) (q := 19 + 3 * ra) (kd := ka) (pl := pla) (ng := na) (f := fa) (q0lt := q2lt) (q1lt := q3lt) (q2lt := q4lt) (c0 := c2) (c1 := c3) (c2 := c4) (bf := bfa) (hkd := by omega) (hng := by omega) (hpl := by omega) H1.size) (z_cwV (C := "ScaledNumeralDesk$Numeral") 0 hg wm_340 wm_337 wm_2 wm_338 wm_339 (by decide +kernel) ⟨Nat.le_of_ble_eq_true rfl, Nat.le_of_ble_eq_true rfl⟩) (z_preV (r := ("ScaledNumeralDesk$Numeral", TN, 3)) hK hG hn hH4 hA q2lt c2 rfl) rfl rfl hl.1 rfl (lv_room (Nat.le_of_ble_eq_true rfl)) d_D_character_18 ⟨Nat.zero_le _, Nat.zero_le _⟩) hH4 hA (fun lg w11 H9 lc10 hH12 p18 => ?_)
    obtain ⟨ew13, p18⟩ := p18
    rw [ew13] at hH12
    replace p18 : (ka ≠ 1 ∧ lg = lenZ ka) ∨ (ka = 1 ∧ ∃ n : Int, Wh (V fa 15) n ∧ 1 ≤ n ∧ n ≤ 36 ∧ lg = na + n + ptl pla) := p18
    replace p18 : TlR ka pla na (V fa 15) lg := p18
    have lgi := TlR_in p18 hka hpa hna
    refine zv_icmp_lt (tgt := 26) hx hb d_D_character_21 rfl (by omega) (by omega) (fun h14 => ?_) (fun h14 => ?_)
    · refine lv_aload_n hx hb d_D_character_26 rfl (lv_at hl 0 rfl) ?_
      refine zv_get (C := "ScaledNumeralDesk") (T := TD) (N := 7) hx hb hg uD_in hown hK hH12 q0lt c0 rfl 0 (by decide) (hg _ wm_128) (fun _ h9 => h9) rfl d_D_character_27 ?_
      refine lv_iload_n hx hb d_D_character_30 rfl (lv_at hl 1 rfl) ?_
      refine zv_aald (i := ra) hx hb hK hH12 q1lt c1 rfl (by omega) (by omega) (hfq ra (by omega)) d_D_character_31 ?_
      refine lv_iload_n hx hb d_D_character_32 rfl (lv_at hl 2 rfl) ?_
      refine z_calli (va_runV (As := [.int (iI i)]) (rest := []) ⟨hx, hb, hml, hown, hts⟩ (c_N_textChar (l := l) (E := E) (w0 := w0) (q := 19 + 3 * ra) (kd := ka) (pl := pla) (ng := na) (f := fa) (i := i) (q0lt := q2lt) (q1lt := q3lt) (q2lt := q4lt) (c0 := c2) (c1 := c3) (c2 := c4) (bf := bfa) (hkd := by omega) (hng := by omega) (hpl := by omega) (hi0 := ⟨by omega, fun h9 => TlR_i0 p18 (by omega) h9⟩) (hi1 := (TlR_i1 p18 (by omega))) H9.size) (z_cwV (C := "ScaledNumeralDesk$Numeral") 1 hg wm_359 wm_356 wm_2 wm_357 wm_358 (by decide +kernel) ⟨Nat.le_of_ble_eq_true rfl, Nat.le_of_ble_eq_true rfl⟩) (z_preV (r := ("ScaledNumeralDesk$Numeral", TN, 3)) hK hG hn hH12 hA q2lt c2 rfl) rfl rfl hl.1 rfl (lv_room (Nat.le_of_ble_eq_true rfl)) d_D_character_33 ⟨Nat.zero_le _, Nat.zero_le _⟩) hH12 hA (fun z19 w17 H15 lc16 hH18 p33 => ?_)
      obtain ⟨ew20, p33⟩ := p33
      rw [ew20] at hH18
      replace p33 : (ka ≠ 1 ∧ z19 = chZ ka i) ∨ (ka = 1 ∧ ∃ n : Int, Wh (V fa 15) n ∧ TcR na (V fa 15) n i z19) := p33
      rw [hQ]
      exact z_iret hx hb hr hlk hH18 (⟨rfl, Or.inr ⟨by omega, ⟨lg, p18, by omega⟩, p33⟩⟩) d_D_character_36
    · refine zv_iconst hx hb d_D_character_24 ?_
      rw [hQ]
      exact z_iret hx hb hr hlk hH12 (⟨rfl, Or.inl ⟨rfl, Or.inr ⟨lg, p18, by omega⟩⟩⟩) d_D_character_25
def rm_D_scale : Room := { frames := 1, cells := 0, slots := 0, locals := 20 }
set_option maxHeartbeats 4000000 in
set_option maxRecDepth 100000 in
theorem c_D_scale (l : Launch) (E : zE) (w0 : zW) (fq : Nat → Option Nat) (ra : Nat) (ka : Nat) (pla na : Int) (fa : Int → Int) (hzn : 73 ≤ zn E) (c0 : w0 0 = .inr (5, [.ref (ad E 1), .ref (ad E 2), .ref (ad E 3), .ref (ad E 5), .ref (ad E 10), .ref (ad E 13), .ref (ad E 16)])) (c1 : w0 1 = zaq E 3 8 fq) (c2 : w0 (19 + 3 * ra) = .inr (1, [.ref (zg E (1 + ka)), .int (iI pla), .ref (ad E (19 + 3 * ra + 1))])) (c3 : w0 (19 + 3 * ra + 1) = .inr (0, [.ref (ad E (19 + 3 * ra + 2)), .int (iI na)])) (c4 : w0 (19 + 3 * ra + 2) = zar E 15 fa) (hfq : ∀ k : Nat, k < 8 → fq k = some (ad E (19 + 3 * k))) (bfa : bd fa 15 0 9999) (hka : ka < 4) (hna : na = 0 ∨ na = 1) (hra : ra < 8) (hpa : 0 ≤ pla ∧ pla ≤ 24) (hva : V fa 15 < Bp 14) (hca : V fa 15 = 0 → na = 0) (hfa : ka ≠ 1 → pla = 0 ∧ na = 0 ∧ V fa 15 = 0) : zM l y_D_scale ws_D_scale rm_D_scale E [.ref (ad E 0), .int (iI ((ra : Int)))] w0 (zQi E w0 (fun z w' => w' = w0 ∧ ((ka ≠ 1 ∧ z = -1) ∨ (ka = 1 ∧ z = pla)))) := by
  refine z_met (cc := b_D_scale) (maxL := 2) (ret := (some .int)) (by decide +kernel) rfl (Nat.le_of_ble_eq_true rfl) ?_
  intro p e s m below meth cd ls a Qf hQ hC hl hH
  obtain ⟨hF, hr, hlk, hK, hG, hn⟩ := hC
  obtain ⟨hx, hb, hml, hown, hts⟩ := hF
  have hg : ∀ w ∈ GW, w.before a s = true := fun w h => hts w (List.mem_cons_of_mem _ h)
  have hA : ∀ q, s.heap.size ≤ q → va_A (wl E w0) s.heap.size q := fun q h => Or.inr h
  have hl : lv_has ls 2 [(0, .ref (ad E 0)), (1, .int (iI ((ra : Int))))] := hl
  have q0lt : 0 < zn E := by omega
  have q1lt : 1 < zn E := by omega
  have q2lt : 19 + 3 * ra < zn E := by omega
  have q3lt : 19 + 3 * ra + 1 < zn E := by omega
  have q4lt : 19 + 3 * ra + 2 < zn E := by omega
  refine lv_iload_n hx hb d_D_scale_0 rfl (lv_at hl 1 rfl) ?_
  refine z_calli (va_runS (As := [.int (iI ((ra : Int)))]) (rest := []) ⟨hx, hb, hml, hown, hts⟩ (c_D_isRegister (l := l) (E := E) (w0 := w0) (r := (ra : Int)) (hr0 := by omega) s.heap.size) (z_cwS 1 hg wm_164 wm_162 wm_1 wm_163 (by decide +kernel) ⟨Nat.le_of_ble_eq_true rfl, Nat.le_of_ble_eq_true rfl⟩) (z_preS hK hG hn hH hA) rfl rfl hl.1 rfl (lv_room (Nat.le_of_ble_eq_true rfl)) d_D_scale_1 ⟨Nat.zero_le _, Nat.zero_le _⟩) hH hA (fun z5 w3 H1 lc2 hH4 p1 => ?_)
  obtain ⟨ew6, p1⟩ := p1
  rw [ew6] at hH4
  replace p1 : (z5 = 1 ∧ 0 ≤ ((ra : Int)) ∧ ((ra : Int)) < 8) ∨ (z5 = 0 ∧ ¬ (0 ≤ ((ra : Int)) ∧ ((ra : Int)) < 8)) := p1
  refine zv_if_eq (tgt := 19) hx hb d_D_scale_4 rfl (by omega) (fun h7 => absurd h7 (by omega)) (fun h7 => ?_)
  refine lv_aload_n hx hb d_D_scale_7 rfl (lv_at hl 0 rfl) ?_
  refine zv_get (C := "ScaledNumeralDesk") (T := TD) (N := 7) hx hb hg uD_in hown hK hH4 q0lt c0 rfl 0 (by decide) (hg _ wm_128) (fun _ h9 => h9) rfl d_D_scale_8 ?_
  refine lv_iload_n hx hb d_D_scale_11 rfl (lv_at hl 1 rfl) ?_
  refine zv_aald (i := ra) hx hb hK hH4 q1lt c1 rfl (by omega) (by omega) (hfq ra (by omega)) d_D_scale_12 ?_
  refine z_calli (va_runV (As := []) (rest := []) ⟨hx, hb, hml, hown, hts⟩ (c_N_isFinite (l := l) (E := E) (w0 := w0) (q := 19 + 3 * ra) (kd := ka) (pl := pla) (ng := na) (f := fa) (q0lt := q2lt) (q1lt := q3lt) (q2lt := q4lt) (c0 := c2) (c1 := c3) (c2 := c4) (bf := bfa) (hkd := by omega) (hng := by omega) H1.size) (z_cwV (C := "ScaledNumeralDesk$Numeral") 0 hg wm_344 wm_368 wm_2 wm_342 wm_343 (by decide +kernel) ⟨Nat.le_of_ble_eq_true rfl, Nat.le_of_ble_eq_true rfl⟩) (z_preV (r := ("ScaledNumeralDesk$Numeral", TN, 3)) hK hG hn hH4 hA q2lt c2 rfl) rfl rfl hl.1 rfl (lv_room (Nat.le_of_ble_eq_true rfl)) d_D_scale_13 ⟨Nat.zero_le _, Nat.zero_le _⟩) hH4 hA (fun z12 w10 H8 lc9 hH11 p13 => ?_)
  obtain ⟨ew13, p13⟩ := p13
  rw [ew13] at hH11
  replace p13 : (z12 = 1 ∧ ka = 1) ∨ (z12 = 0 ∧ ka ≠ 1) := p13
  refine zv_if_ne (tgt := 21) hx hb d_D_scale_16 rfl (by omega) (fun h14 => ?_) (fun h14 => ?_)
  · refine lv_aload_n hx hb d_D_scale_21 rfl (lv_at hl 0 rfl) ?_
    refine zv_get (C := "ScaledNumeralDesk") (T := TD) (N := 7) hx hb hg uD_in hown hK hH11 q0lt c0 rfl 0 (by decide) (hg _ wm_128) (fun _ h9 => h9) rfl d_D_scale_22 ?_
    refine lv_iload_n hx hb d_D_scale_25 rfl (lv_at hl 1 rfl) ?_
    refine zv_aald (i := ra) hx hb hK hH11 q1lt c1 rfl (by omega) (by omega) (hfq ra (by omega)) d_D_scale_26 ?_
    refine zv_get (C := "ScaledNumeralDesk$Numeral") (T := TN) (N := 3) hx hb hg uN_in hown hK hH11 q2lt c2 rfl 1 (by decide) (hg _ wm_63) (fun _ h9 => h9) rfl d_D_scale_27 ?_
    rw [hQ]
    exact z_iret hx hb hr hlk hH11 (⟨rfl, by omega⟩) d_D_scale_30
  · refine zv_iconst hx hb d_D_scale_19 ?_
    rw [hQ]
    exact z_iret hx hb hr hlk hH11 (⟨rfl, by omega⟩) d_D_scale_20
