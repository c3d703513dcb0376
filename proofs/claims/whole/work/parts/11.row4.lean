def rm_multiply : Room := { frames := 1, cells := 0, slots := 0, locals := 27 }
set_option maxHeartbeats 4000000 in
set_option maxRecDepth 100000 in
theorem c_multiply (l : Launch) (E : zE) (w0 : zW) (q r t N M K : Nat) (f g h : Int → Int) (q0lt : q < zn E) (q1lt : r < zn E) (q2lt : t < zn E) (c0 : w0 q = zar E N f) (c1 : w0 r = zar E M g) (c2 : w0 t = zar E K h) (hN : 0 < N ∧ N < 100000) (hM : 0 < M ∧ 0 < K ∧ M + K ≤ N) (bg : bd g M 0 9999) (bh : bd h K 0 9999) (hqr : q ≠ r ∧ q ≠ t) : zM l y_R_multiply ws_R_multiply rm_multiply E [.ref (ad E q), .ref (ad E r), .ref (ad E t)] w0 (zQv E w0 (fun w' => (∃ (f' : Int → Int), w' q = zar E N f' ∧ bd f' N 0 9999 ∧ (V f' N = V g M * V h K)) ∧ ∀ k, k ≠ q → w' k = w0 k)) := by
  refine z_met (cc := b_R_multiply) (maxL := 4) (ret := none) (by decide +kernel) rfl (Nat.le_of_ble_eq_true rfl) ?_
  intro p e s m below meth cd ls a Qf hQ hC hl hH
  obtain ⟨hF, hr, hlk, hK, hG, hn⟩ := hC
  obtain ⟨hx, hb, hml, hown, hts⟩ := hF
  have hg : ∀ w ∈ GW, w.before a s = true := fun w h => hts w (List.mem_cons_of_mem _ h)
  have hA : ∀ q, s.heap.size ≤ q → va_A (wl E w0) s.heap.size q := fun q h => Or.inr h
  have hl : lv_has ls 4 [(0, .ref (ad E q)), (1, .ref (ad E r)), (2, .ref (ad E t))] := hl
  refine lv_aload_n hx hb d_R_multiply_0 rfl (lv_at hl 0 rfl) ?_
  refine zv_iconst hx hb d_R_multiply_1 ?_
  refine z_callv (va_runS (As := [.ref (ad E q), .int (iI 0)]) (rest := []) ⟨hx, hb, hml, hown, hts⟩ (c_fill (l := l) (E := E) (w0 := w0) (q := q) (N := N) (f := f) (v := 0) (q0lt := q0lt) (c0 := c0) (hN := by omega) s.heap.size) (z_cwS 2 hg wm_237 wm_425 wm_14 wm_236 (by decide +kernel) ⟨Nat.le_of_ble_eq_true rfl, Nat.le_of_ble_eq_true rfl⟩) (z_preS hK hG hn hH hA) rfl rfl hl.1 rfl (lv_room (Nat.le_of_ble_eq_true rfl)) d_R_multiply_2 ⟨Nat.zero_le _, Nat.zero_le _⟩) hH hA (fun  w3 H1 lc2 hH4 h1 => ?_)
  obtain ⟨⟨f1, e5, h1⟩, hg6⟩ := h1
  replace h1 : ∀ j : Int, 0 ≤ j → j < N → f1 j = (0 : Int) := h1
  have e7 : w3 r = zar E M g := (hg6 r (by omega)).trans c1
  have e8 : w3 t = zar E K h := (hg6 t (by omega)).trans c2
  have hf9 : ∀ k, k ≠ q → w3 k = w0 k := fun k g0 => hg6 k g0
  refine zv_iconst hx hb d_R_multiply_5 ?_
  refine lv_istore_n (lv' := [(3, .int (iI 0)), (0, .ref (ad E q)), (1, .ref (ad E r)), (2, .ref (ad E t))]) hx hb d_R_multiply_6 rfl hl (by decide) rfl (fun ls hl => ?_)
  have L7 : ∀ (fu : Nat) (i : Int) (u : Int → Int) (ls : Array Slot) (H10 : Heap) (lc11 : List Loc) (w12 : zW), (lv_has ls 4 [(3, .int (iI i)), (0, .ref (ad E q)), (1, .ref (ad E r)), (2, .ref (ad E t))]) → (zH E w12 (va_A (wl E w0) s.heap.size) s.heap H10 lc11) → (w12 q = zar E N u) → (w12 r = zar E M g) → (w12 t = zar E K h) → (∀ k, k ≠ q → w12 k = w0 k) → (bd u N 0 9999) → (0 ≤ i ∧ i ≤ K) → (V u N = V g M * V h i) → ((K : Int) - i < (fu : Int)) → W p l e rm_multiply s m a below meth cd H10 lc11 0 0 Qf (F0 m 7 ls []) := by
    intro fu
    induction fu with
    | zero => intro i u ls H10 lc11 w12 hl hH e13 e14 e15 hf16 bp hi hv hm; exact absurd hm (by omega)
    | succ fu ih =>
      intro i u ls H10 lc11 w12 hl hH e13 e14 e15 hf16 bp hi hv hm
      refine lv_iload_n hx hb d_R_multiply_7 rfl (lv_at hl 0 rfl) ?_
      refine lv_aload_n hx hb d_R_multiply_8 rfl (lv_at hl 3 rfl) ?_
      refine zv_alen hx hb hK hH q2lt e15 d_R_multiply_9 ?_
      refine zv_icmp_ge (tgt := 34) hx hb d_R_multiply_10 rfl (by omega) (by omega) (fun h17 => ?_) (fun h17 => ?_)
      · have e9 : i = K := by omega
        subst e9
        rw [hQ]
        exact z_vret hx hb hr hlk hH (⟨⟨u, e13, bp, hv⟩, (fun k g0 => hf16 k g0)⟩) d_R_multiply_34
      · refine lv_aload_n hx hb d_R_multiply_13 rfl (lv_at hl 3 rfl) ?_
        refine lv_iload_n hx hb d_R_multiply_14 rfl (lv_at hl 0 rfl) ?_
        refine zv_iald hx hb hK hH q2lt e15 (by omega) (by omega) (by omega) d_R_multiply_15 ?_
        have b18 := bh i (by omega) (by omega)
        refine zv_if_eq (tgt := 28) hx hb d_R_multiply_16 rfl (by omega) (fun h19 => ?_) (fun h19 => ?_)
        · refine zv_iinc (k := 0) (lv' := [(3, .int (iI (i + 1))), (0, .ref (ad E q)), (1, .ref (ad E r)), (2, .ref (ad E t))]) hx hb d_R_multiply_28 hl rfl (by decide) rfl (fun ls hl => ?_)
          refine lv_goto (tgt := 7) hx hb d_R_multiply_31 rfl ?_
          exact ih  (i + 1) u _ H10 lc11 w12 (lv_sub hl [0, 1, 2, 3] rfl) hH e13 e14 e15 (fun k g0 => hf16 k g0) (by assumption) (by omega) (by first | (rw [h2, hv]; exact mu_step bg bh (by omega) hi.1 (by omega) (by omega)) | (rw [hv, V_s h hi.1, show h i = 0 by assumption, Int.zero_mul, Int.add_zero])) (by omega)
        · refine lv_aload_n hx hb d_R_multiply_19 rfl (lv_at hl 1 rfl) ?_
          refine lv_aload_n hx hb d_R_multiply_20 rfl (lv_at hl 2 rfl) ?_
          refine lv_aload_n hx hb d_R_multiply_21 rfl (lv_at hl 3 rfl) ?_
          refine lv_iload_n hx hb d_R_multiply_22 rfl (lv_at hl 0 rfl) ?_
          refine zv_iald hx hb hK hH q2lt e15 (by omega) (by omega) (by omega) d_R_multiply_23 ?_
          have b20 := bh i (by omega) (by omega)
          refine lv_iload_n hx hb d_R_multiply_24 rfl (lv_at hl 0 rfl) ?_
          refine z_callv (va_runS (As := [.ref (ad E q), .ref (ad E r), .int (iI (h i)), .int (iI i)]) (rest := []) ⟨hx, hb, hml, hown, hts⟩ (c_addMultiple (l := l) (E := E) (w0 := w12) (q := q) (r := r) (N := N) (M := M) (f := u) (g := g) (L := h i) (x := i) (q0lt := q0lt) (q1lt := q1lt) (c0 := e13) (c1 := e14) (hN := by omega) (hM := by omega) (bf := bp) (bg := bg) (hqr := by omega) (hL := by omega) (hx0 := (by omega)) H10.size) (z_cwS 4 hg wm_428 wm_426 wm_16 wm_427 (by decide +kernel) ⟨Nat.le_of_ble_eq_true rfl, Nat.le_of_ble_eq_true rfl⟩) (z_preS hK hG hn hH hA) rfl rfl hl.1 rfl (lv_room (Nat.le_of_ble_eq_true rfl)) d_R_multiply_25 ⟨Nat.zero_le _, Nat.zero_le _⟩) hH hA (fun  w23 H21 lc22 hH24 h2 => ?_)
          obtain ⟨⟨f_25, e26, bd27, h2⟩, hg28⟩ := h2
          replace bd27 : bd f_25 N 0 9999 := bd27
          replace h2 : V f_25 N = (V u N + (h i) * V g M * Bp i) % Bp N := h2
          have e29 : w23 r = zar E M g := (hg28 r (by omega)).trans e14
          have e30 : w23 t = zar E K h := (hg28 t (by omega)).trans e15
          have hf31 : ∀ k, k ≠ q → w23 k = w0 k := fun k g0 => (hg28 k g0).trans (hf16 k g0)
          refine zv_iinc (k := 0) (lv' := [(3, .int (iI (i + 1))), (0, .ref (ad E q)), (1, .ref (ad E r)), (2, .ref (ad E t))]) hx hb d_R_multiply_28 hl rfl (by decide) rfl (fun ls hl => ?_)
          refine lv_goto (tgt := 7) hx hb d_R_multiply_31 rfl ?_
          exact ih  (i + 1) f_25 _ H21 lc22 w23 (lv_sub hl [0, 1, 2, 3] rfl) hH24 e26 e29 e30 (fun k g0 => hf31 k g0) (by assumption) (by omega) (by first | (rw [h2, hv]; exact mu_step bg bh (by omega) hi.1 (by omega) (by omega)) | (rw [hv, V_s h hi.1, show h i = 0 by assumption, Int.zero_mul, Int.add_zero])) (by omega)
  exact L7 (((K : Int) - 0 : Int).toNat + 1) 0 f1 _ H1 lc2 w3 (lv_sub hl [0, 1, 2, 3] rfl) hH4 e5 e7 e8 (fun k g0 => hf9 k g0) (by intro i g1 g2; rw [h1 i g1 g2]; decide) (by omega) (by rw [V_0, Int.mul_zero]; exact V_zero (by omega) h1) (by omega)
def rm_rowDivide : Room := { frames := 2, cells := 0, slots := 0, locals := 49 }
set_option maxHeartbeats 4000000 in
set_option maxRecDepth 100000 in
theorem c_rowDivide (l : Launch) (E : zE) (w0 : zW) (q r t N K : Nat) (f k0 g : Int → Int) (q0lt : q < zn E) (q1lt : r < zn E) (q2lt : t < zn E) (c0 : w0 q = zar E N f) (c1 : w0 r = zar E N k0) (c2 : w0 t = zar E K g) (hN : 0 < N ∧ N < 100000) (hK0 : 0 < K ∧ K ≤ N) (bf : bd f N 0 9999) (bg : bd g K 0 9999) (hqr : q ≠ r ∧ q ≠ t ∧ r ≠ t) (hD : V g K ≠ 0) : zM l y_R_divide ws_R_divide rm_rowDivide E [.ref (ad E q), .ref (ad E r), .ref (ad E t)] w0 (zQv E w0 (fun w' => (∃ (f' : Int → Int) (k' : Int → Int), w' q = zar E N f' ∧ w' r = zar E N k' ∧ bd f' N 0 9999 ∧ bd k' N 0 9999 ∧ (V k' N = V f N / V g K ∧ V f' N = V f N % V g K)) ∧ ∀ k, k ≠ q → k ≠ r → w' k = w0 k)) := by
  refine z_met (cc := b_R_divide) (maxL := 8) (ret := none) (by decide +kernel) rfl (Nat.le_of_ble_eq_true rfl) ?_
  intro p e s m below meth cd ls a Qf hQ hC hl hH
  obtain ⟨hF, hr, hlk, hK, hG, hn⟩ := hC
  obtain ⟨hx, hb, hml, hown, hts⟩ := hF
  have hg : ∀ w ∈ GW, w.before a s = true := fun w h => hts w (List.mem_cons_of_mem _ h)
  have hA : ∀ q, s.heap.size ≤ q → va_A (wl E w0) s.heap.size q := fun q h => Or.inr h
  have hl : lv_has ls 8 [(0, .ref (ad E q)), (1, .ref (ad E r)), (2, .ref (ad E t))] := hl
  refine lv_aload_n hx hb d_R_divide_0 rfl (lv_at hl 1 rfl) ?_
  refine zv_iconst hx hb d_R_divide_1 ?_
  refine z_callv (va_runS (As := [.ref (ad E r), .int (iI 0)]) (rest := []) ⟨hx, hb, hml, hown, hts⟩ (c_fill (l := l) (E := E) (w0 := w0) (q := r) (N := N) (f := k0) (v := 0) (q0lt := q1lt) (c0 := c1) (hN := by omega) s.heap.size) (z_cwS 2 hg wm_237 wm_425 wm_14 wm_236 (by decide +kernel) ⟨Nat.le_of_ble_eq_true rfl, Nat.le_of_ble_eq_true rfl⟩) (z_preS hK hG hn hH hA) rfl rfl hl.1 rfl (lv_room (Nat.le_of_ble_eq_true rfl)) d_R_divide_2 ⟨Nat.zero_le _, Nat.zero_le _⟩) hH hA (fun  w3 H1 lc2 hH4 p2 => ?_)
  obtain ⟨⟨k1, e5, p2⟩, hg6⟩ := p2
  replace p2 : ∀ j : Int, 0 ≤ j → j < N → k1 j = (0 : Int) := p2
  have e7 : w3 q = zar E N f := (hg6 q (by omega)).trans c0
  have e8 : w3 t = zar E K g := (hg6 t (by omega)).trans c2
  have hf9 : ∀ k, k ≠ r → w3 k = w0 k := fun k g0 => hg6 k g0
  refine lv_aload_n hx hb d_R_divide_5 rfl (lv_at hl 2 rfl) ?_
  refine z_calli (va_runS (As := [.ref (ad E t)]) (rest := []) ⟨hx, hb, hml, hown, hts⟩ (c_topLimb (l := l) (E := E) (w0 := w3) (q := t) (N := K) (f := g) (q0lt := q2lt) (c0 := e8) (hN := by omega) (bf := bg) H1.size) (z_cwS 1 hg wm_300 wm_312 wm_16 wm_299 (by decide +kernel) ⟨Nat.le_of_ble_eq_true rfl, Nat.le_of_ble_eq_true rfl⟩) (z_preS hK hG hn hH4 hA) rfl rfl hl.1 rfl (lv_room (Nat.le_of_ble_eq_true rfl)) d_R_divide_6 ⟨Nat.zero_le _, Nat.zero_le _⟩) hH4 hA (fun T w12 H10 lc11 hH13 hT => ?_)
  obtain ⟨ew14, hT⟩ := hT
  rw [ew14] at hH13
  replace hT : -1 ≤ T ∧ T < K ∧ (∀ j, T < j → j < K → g j = 0) ∧ (0 ≤ T → g T ≠ 0) := hT
  refine lv_istore_n (lv' := [(3, .int (iI T)), (0, .ref (ad E q)), (1, .ref (ad E r)), (2, .ref (ad E t))]) hx hb d_R_divide_9 rfl hl (by decide) rfl (fun ls hl => ?_)
  refine lv_iload_n hx hb d_R_divide_10 rfl (lv_at hl 0 rfl) ?_
  refine zv_if_ge (tgt := 15) hx hb d_R_divide_11 rfl (by omega) (fun h15 => ?_) (fun h15 => absurd h15 (by intro hh; exact hD (V_zero (by omega) (fun j g1 g2 => hT.2.2.1 j (by omega) g2))))
  refine lv_aload_n hx hb d_R_divide_15 rfl (lv_at hl 3 rfl) ?_
  refine lv_iload_n hx hb d_R_divide_16 rfl (lv_at hl 0 rfl) ?_
  refine zv_iconst hx hb d_R_divide_17 ?_
  refine z_calll (va_runS (As := [.ref (ad E t), .int (iI T), .int (iI 3)]) (rest := []) ⟨hx, hb, hml, hown, hts⟩ (c_head (l := l) (E := E) (w0 := w3) (q := t) (N := K) (f := g) (t := T) (k := 3) (q0lt := q2lt) (c0 := e8) (hN := by omega) (bf := bg) (ht := by omega) (hk := by omega) H10.size) (z_cwS 3 hg wm_472 wm_470 wm_16 wm_471 (by decide +kernel) ⟨Nat.le_of_ble_eq_true rfl, Nat.le_of_ble_eq_true rfl⟩) (z_preS hK hG hn hH13 hA) rfl rfl hl.1 rfl (lv_room (Nat.le_of_ble_eq_true rfl)) d_R_divide_18 ⟨Nat.zero_le _, Nat.zero_le _⟩) hH13 hA (fun z18 w18 H16 lc17 hH19 p18 => ?_)
  obtain ⟨ew20, p18⟩ := p18
  rw [ew20] at hH19
  replace p18 : z18 = Hd g K T (Int.toNat (3 : Int)) := p18
  have p18 : z18 = Hd g K T 3 := p18
  subst p18
  refine zv_lconst_1 hx hb d_R_divide_21 ?_
  refine zv_ladd hx hb d_R_divide_22 ?_
  refine lv_lstore (lv' := [(4, .long (Int64.ofInt ((Hd g K T 3) + 1))), (3, .int (iI T)), (0, .ref (ad E q)), (1, .ref (ad E r)), (2, .ref (ad E t))]) hx hb d_R_divide_23 hl (by decide) rfl (fun ls hl => ?_)
  refine lv_aload_n hx hb d_R_divide_25 rfl (lv_at hl 2 rfl) ?_
  refine z_calli (va_runS (As := [.ref (ad E q)]) (rest := []) ⟨hx, hb, hml, hown, hts⟩ (c_topLimb (l := l) (E := E) (w0 := w3) (q := q) (N := N) (f := f) (q0lt := q0lt) (c0 := e7) (hN := by omega) (bf := bf) H16.size) (z_cwS 1 hg wm_300 wm_312 wm_16 wm_299 (by decide +kernel) ⟨Nat.le_of_ble_eq_true rfl, Nat.le_of_ble_eq_true rfl⟩) (z_preS hK hG hn hH19 hA) rfl rfl hl.1 rfl (lv_room (Nat.le_of_ble_eq_true rfl)) d_R_divide_26 ⟨Nat.zero_le _, Nat.zero_le _⟩) hH19 hA (fun U w23 H21 lc22 hH24 hU => ?_)
  obtain ⟨ew25, hU⟩ := hU
  rw [ew25] at hH24
  replace hU : -1 ≤ U ∧ U < N ∧ (∀ j, U < j → j < N → f j = 0) ∧ (0 ≤ U → f U ≠ 0) := hU
  refine lv_iload_n hx hb d_R_divide_29 rfl (lv_at hl 1 rfl) ?_
  refine zv_isub hx hb d_R_divide_30 ?_
  refine lv_istore (lv' := [(6, .int (iI (U - T))), (4, .long (Int64.ofInt ((Hd g K T 3) + 1))), (3, .int (iI T)), (0, .ref (ad E q)), (1, .ref (ad E r)), (2, .ref (ad E t))]) hx hb d_R_divide_31 hl (by decide) rfl (fun ls hl => ?_)
  have L33 : ∀ (fu : Nat) (s1 : Int) (h : Int → Int) (k : Int → Int) (ls : Array Slot) (H26 : Heap) (lc27 : List Loc) (w28 : zW), (lv_has ls 8 [(0, .ref (ad E q)), (1, .ref (ad E r)), (2, .ref (ad E t)), (3, .int (iI T)), (4, .long (Int64.ofInt ((Hd g K T 3) + 1))), (6, .int (iI s1))]) → (zH E w28 (va_A (wl E w0) s.heap.size) s.heap H26 lc27) → (w28 q = zar E N h) → (w28 r = zar E N k) → (w28 t = zar E K g) → (∀ k, k ≠ r → k ≠ q → w28 k = w0 k) → (bd h N 0 9999) → (bd k N 0 9999) → (-100000 ≤ s1 ∧ s1 + T < N) → (V h N < V g K * Bp (s1 + 1)) → (V f N = V k N * V g K + V h N) → (∀ j : Int, 0 ≤ j → j ≤ s1 → k j = 0) → (max (s1 + 1) 0 < (fu : Int)) → W p l e rm_rowDivide s m a below meth cd H26 lc27 0 0 Qf (F0 m 33 ls []) := by
    intro fu
    induction fu with
    | zero => intro s1 h k ls H26 lc27 w28 hl hH e29 e30 e31 hf32 bh bk hs hR hQv hk hm; exact absurd hm (by omega)
    | succ fu ih =>
      intro s1 h k ls H26 lc27 w28 hl hH e29 e30 e31 hf32 bh bk hs hR hQv hk hm
      have eg : V g (T + 1) = V g K := by rw [← V_exTop (f := g) (N := K) (t := T) (by omega) (by omega) hT.2.2.1, V_ex (by omega)]
      have tD : V g K < Bp (T + 1) := by rw [← eg]; exact (V_in bg (by omega) (by omega)).2
      have vD := V_in bg (show (0 : Int) ≤ K by omega) (Int.le_refl (K : Int))
      have pD : 0 < V g K := by omega
      have bG := Hd_bd bg T 3
      rw [Bp_3] at bG
      refine lv_iload hx hb d_R_divide_33 (lv_at hl 5 rfl) ?_
      refine zv_if_lt (tgt := 100) hx hb d_R_divide_35 rfl (by omega) (fun h33 => ?_) (fun h33 => ?_)
      · rw [Bp_neg (show s1 + 1 ≤ 0 by omega), Int.mul_one] at hR
        have b9 := V_in bh (show (0 : Int) ≤ N by omega) (Int.le_refl (N : Int))
        rw [hQ]
        exact z_vret hx hb hr hlk hH (⟨⟨h, k, e29, e30, bh, bk, dv_end hQv b9.1 hR⟩, (fun k g0 g1 => hf32 k g1 g0)⟩) d_R_divide_100
      · have gs := guess_step bg bh (by omega) (by omega) (by omega) (hT.2.2.2 (by omega)) hT.2.2.1 (show 0 ≤ s1 by omega) hR
        have bA := Hd_bd bh (s1 + T + 1) 4
        rw [Bp_4] at bA
        have pb := Bp_pos s1
        have pDb : 0 < V g K * Bp s1 := Int.mul_pos pD pb
        refine lv_aload_n hx hb d_R_divide_38 rfl (lv_at hl 0 rfl) ?_
        refine lv_iload hx hb d_R_divide_39 (lv_at hl 5 rfl) ?_
        refine lv_iload_n hx hb d_R_divide_41 rfl (lv_at hl 3 rfl) ?_
        refine zv_iadd hx hb d_R_divide_42 ?_
        refine zv_iconst hx hb d_R_divide_43 ?_
        refine zv_iadd hx hb d_R_divide_44 ?_
        refine zv_iconst hx hb d_R_divide_45 ?_
        refine z_calll (va_runS (As := [.ref (ad E q), .int (iI ((s1 + T) + 1)), .int (iI 4)]) (rest := []) ⟨hx, hb, hml, hown, hts⟩ (c_head (l := l) (E := E) (w0 := w28) (q := q) (N := N) (f := h) (t := (s1 + T) + 1) (k := 4) (q0lt := q0lt) (c0 := e29) (hN := by omega) (bf := bh) (ht := by omega) (hk := by omega) H26.size) (z_cwS 3 hg wm_472 wm_470 wm_16 wm_471 (by decide +kernel) ⟨Nat.le_of_ble_eq_true rfl, Nat.le_of_ble_eq_true rfl⟩) (z_preS hK hG hn hH hA) rfl rfl hl.1 rfl (lv_room (Nat.le_of_ble_eq_true rfl)) d_R_divide_46 ⟨Nat.zero_le _, Nat.zero_le _⟩) hH hA (fun z46 w36 H34 lc35 hH37 p46 => ?_)
        obtain ⟨ew38, p46⟩ := p46
        rw [ew38] at hH37
        replace p46 : z46 = Hd h N ((s1 + T) + 1) (Int.toNat (4 : Int)) := p46
        have p46 : z46 = Hd h N ((s1 + T) + 1) 4 := p46
        subst p46
        refine lv_lload hx hb d_R_divide_49 (lv_at hl 4 rfl) ?_
        refine zv_ldiv hx hb (by omega) (by omega) (by omega) (by omega) d_R_divide_51 ?_
        refine zv_l2i hx hb d_R_divide_52 ?_
        refine lv_istore (lv' := [(7, .int (iI ((Hd h N ((s1 + T) + 1) 4) / ((Hd g K T 3) + 1)))), (0, .ref (ad E q)), (1, .ref (ad E r)), (2, .ref (ad E t)), (3, .int (iI T)), (4, .long (Int64.ofInt ((Hd g K T 3) + 1))), (6, .int (iI s1))]) hx hb d_R_divide_53 hl (by decide) rfl (fun ls hl => ?_)
        refine lv_aload_n hx hb d_R_divide_55 rfl (lv_at hl 1 rfl) ?_
        refine lv_aload_n hx hb d_R_divide_56 rfl (lv_at hl 3 rfl) ?_
        refine lv_iload hx hb d_R_divide_57 (lv_at hl 0 rfl) ?_
        refine lv_iload hx hb d_R_divide_59 (lv_at hl 6 rfl) ?_
        refine lv_iload_n hx hb d_R_divide_61 rfl (lv_at hl 4 rfl) ?_
        refine z_callv (va_runS (As := [.ref (ad E q), .ref (ad E t), .int (iI ((Hd h N ((s1 + T) + 1) 4) / ((Hd g K T 3) + 1))), .int (iI s1), .int (iI T)]) (rest := []) ⟨hx, hb, hml, hown, hts⟩ (c_takeMultiple (l := l) (E := E) (w0 := w28) (q := q) (r := t) (N := N) (K := K) (f := h) (g := g) (L := (Hd h N ((s1 + T) + 1) 4) / ((Hd g K T 3) + 1)) (x := s1) (t := T) (q0lt := q0lt) (q1lt := q2lt) (c0 := e29) (c1 := e31) (hN := by omega) (hK0 := by omega) (bf := bh) (bg := bg) (hqr := by omega) (hL := ⟨gs.1, gs.2.1⟩) (hx0 := by omega) (hz := (fun j g1 g2 => dv_z bh tD (by omega) (by omega) hR j (by omega) g2)) (hY := (by rw [eg, Int.mul_assoc]; exact gs.2.2.1)) H34.size) (z_cwS 5 hg wm_476 wm_474 wm_16 wm_475 (by decide +kernel) ⟨Nat.le_of_ble_eq_true rfl, Nat.le_of_ble_eq_true rfl⟩) (z_preS hK hG hn hH37 hA) rfl rfl hl.1 rfl (lv_room (Nat.le_of_ble_eq_true rfl)) d_R_divide_62 ⟨Nat.zero_le _, Nat.zero_le _⟩) hH37 hA (fun  w41 H39 lc40 hH42 p62 => ?_)
        obtain ⟨⟨h1, e43, bd44, p62⟩, hg45⟩ := p62
        replace bd44 : bd h1 N 0 9999 := bd44
        replace p62 : V h1 N = V h N - ((Hd h N ((s1 + T) + 1) 4) / ((Hd g K T 3) + 1)) * V g (T + 1) * Bp s1 := p62
        have e46 : w41 r = zar E N k := (hg45 r (by omega)).trans e30
        have e47 : w41 t = zar E K g := (hg45 t (by omega)).trans e31
        have hf48 : ∀ k, k ≠ r → k ≠ q → w41 k = w0 k := fun k g0 g1 => (hg45 k g1).trans (hf32 k g0 g1)
        have r1 : V h1 N = V h N - ((Hd h N ((s1 + T) + 1) 4) / (Hd g K T 3 + 1)) * (V g K * Bp s1) := by rw [p62, eg, Int.mul_assoc]
        have n1 : 0 ≤ ((Hd h N ((s1 + T) + 1) 4) / (Hd g K T 3 + 1)) * (V g K * Bp s1) := Int.mul_nonneg gs.1 (Int.le_of_lt pDb)
        have r1b : V h1 N < V g K * Bp (s1 + 1) := by omega
        refine lv_aload_n hx hb d_R_divide_65 rfl (lv_at hl 1 rfl) ?_
        refine lv_aload_n hx hb d_R_divide_66 rfl (lv_at hl 3 rfl) ?_
        refine lv_iload hx hb d_R_divide_67 (lv_at hl 6 rfl) ?_
        refine lv_iload_n hx hb d_R_divide_69 rfl (lv_at hl 4 rfl) ?_
        refine z_calli (va_runS (As := [.ref (ad E q), .ref (ad E t), .int (iI s1), .int (iI T)]) (rest := []) ⟨hx, hb, hml, hown, hts⟩ (c_isStillIn (l := l) (E := E) (w0 := w41) (q := q) (r := t) (N := N) (K := K) (f := h1) (g := g) (x := s1) (t := T) (q0lt := q0lt) (q1lt := q2lt) (c0 := e43) (c1 := e47) (hN := by omega) (hK0 := by omega) (bf := bd44) (bg := bg) (hx0 := by omega) (hz := (fun j g1 g2 => dv_z (by assumption) tD (by omega) (by omega) r1b j (by omega) g2)) H39.size) (z_cwS 4 hg wm_482 wm_480 wm_16 wm_481 (by decide +kernel) ⟨Nat.le_of_ble_eq_true rfl, Nat.le_of_ble_eq_true rfl⟩) (z_preS hK hG hn hH42 hA) rfl rfl hl.1 rfl (lv_room (Nat.le_of_ble_eq_true rfl)) d_R_divide_70 ⟨Nat.zero_le _, Nat.zero_le _⟩) hH42 hA (fun z70 w51 H49 lc50 hH52 p70 => ?_)
        obtain ⟨ew53, p70⟩ := p70
        rw [ew53] at hH52
        replace p70 : (z70 = 1 ∧ V g (T + 1) * Bp s1 ≤ V h1 N) ∨ (z70 = 0 ∧ V h1 N < V g (T + 1) * Bp s1) := p70
        refine zv_if_eq (tgt := 88) hx hb d_R_divide_73 rfl (by omega) (fun h54 => ?_) (fun h54 => ?_)
        · have q70 : V h1 N < V g K * Bp s1 := by rw [← eg]; omega
          have hRn := q70
          have hQn : V h N = ((Hd h N ((s1 + T) + 1) 4) / (Hd g K T 3 + 1)) * (V g K * Bp s1) + V h1 N := by omega
          have hyb : 0 ≤ (Hd h N ((s1 + T) + 1) 4) / (Hd g K T 3 + 1) ∧ (Hd h N ((s1 + T) + 1) 4) / (Hd g K T 3 + 1) ≤ 9999 := ⟨gs.1, gs.2.1⟩
          refine lv_aload_n hx hb d_R_divide_88 rfl (lv_at hl 2 rfl) ?_
          refine lv_iload hx hb d_R_divide_89 (lv_at hl 6 rfl) ?_
          refine lv_iload hx hb d_R_divide_91 (lv_at hl 0 rfl) ?_
          refine zv_iast hx hb hK hH52 q1lt e46 (by omega) (by omega) (by omega) d_R_divide_93 (fun H56 lc57 w55 hH58 e59 hg60 => ?_)
          have bd61 := bd_up bk s1 ((Hd h N ((s1 + T) + 1) 4) / ((Hd g K T 3) + 1)) (by omega)
          have e62 : w55 q = zar E N h1 := (hg60 q (by omega)).trans e43
          have e63 : w55 t = zar E K g := (hg60 t (by omega)).trans e47
          have hf64 : ∀ k, k ≠ r → k ≠ q → w55 k = w0 k := fun k g0 g1 => (hg60 k g0).trans (hf48 k g0 g1)
          refine zv_iinc (k := 6) (lv' := [(6, .int (iI (s1 + (-1)))), (7, .int (iI ((Hd h N ((s1 + T) + 1) 4) / ((Hd g K T 3) + 1)))), (0, .ref (ad E q)), (1, .ref (ad E r)), (2, .ref (ad E t)), (3, .int (iI T)), (4, .long (Int64.ofInt ((Hd g K T 3) + 1)))]) hx hb d_R_divide_94 hl rfl (by decide) rfl (fun ls hl => ?_)
          refine lv_goto (tgt := 33) hx hb d_R_divide_97 rfl ?_
          exact ih  (s1 + (-1)) h1 (up k s1 ((Hd h N ((s1 + T) + 1) 4) / ((Hd g K T 3) + 1))) _ H56 lc57 w55 (lv_sub hl [2, 3, 4, 5, 6, 0] rfl) hH58 e62 e59 e63 (fun k g0 g1 => hf64 k g0 g1) (by assumption) (by assumption) (by omega) (by rw [show s1 + (-1) + 1 = s1 by omega]; exact hRn) (by rw [V_set k (by omega) (by omega), hk s1 (by omega) (Int.le_refl s1)]; exact dv_fin hQv hQn) (by intro j g1 g2; rw [up_ne (by omega)]; exact hk j g1 (by omega)) (by omega)
        · have q70 : V g K * Bp s1 ≤ V h1 N := by rw [← eg]; omega
          refine lv_aload_n hx hb d_R_divide_76 rfl (lv_at hl 1 rfl) ?_
          refine lv_aload_n hx hb d_R_divide_77 rfl (lv_at hl 3 rfl) ?_
          refine zv_iconst hx hb d_R_divide_78 ?_
          refine lv_iload hx hb d_R_divide_79 (lv_at hl 6 rfl) ?_
          refine lv_iload_n hx hb d_R_divide_81 rfl (lv_at hl 4 rfl) ?_
          refine z_callv (va_runS (As := [.ref (ad E q), .ref (ad E t), .int (iI 1), .int (iI s1), .int (iI T)]) (rest := []) ⟨hx, hb, hml, hown, hts⟩ (c_takeMultiple (l := l) (E := E) (w0 := w41) (q := q) (r := t) (N := N) (K := K) (f := h1) (g := g) (L := 1) (x := s1) (t := T) (q0lt := q0lt) (q1lt := q2lt) (c0 := e43) (c1 := e47) (hN := by omega) (hK0 := by omega) (bf := bd44) (bg := bg) (hqr := by omega) (hL := (by omega)) (hx0 := by omega) (hz := (fun j g1 g2 => dv_z (by assumption) tD (by omega) (by omega) r1b j (by omega) g2)) (hY := (by rw [eg, Int.one_mul]; exact q70)) H49.size) (z_cwS 5 hg wm_476 wm_474 wm_16 wm_475 (by decide +kernel) ⟨Nat.le_of_ble_eq_true rfl, Nat.le_of_ble_eq_true rfl⟩) (z_preS hK hG hn hH52 hA) rfl rfl hl.1 rfl (lv_room (Nat.le_of_ble_eq_true rfl)) d_R_divide_82 ⟨Nat.zero_le _, Nat.zero_le _⟩) hH52 hA (fun  w67 H65 lc66 hH68 p82 => ?_)
          obtain ⟨⟨h2, e69, bd70, p82⟩, hg71⟩ := p82
          replace bd70 : bd h2 N 0 9999 := bd70
          replace p82 : V h2 N = V h1 N - (1 : Int) * V g (T + 1) * Bp s1 := p82
          have e72 : w67 r = zar E N k := (hg71 r (by omega)).trans e46
          have e73 : w67 t = zar E K g := (hg71 t (by omega)).trans e47
          have hf74 : ∀ k, k ≠ r → k ≠ q → w67 k = w0 k := fun k g0 g1 => (hg71 k g1).trans (hf48 k g0 g1)
          have r2 : V h2 N = V h1 N - V g K * Bp s1 := by rw [p82, eg, Int.one_mul]
          have gt9 := gs.2.2.2
          rw [Int.add_mul] at gt9
          have hRn : V h2 N < V g K * Bp s1 := by omega
          have b2 := V_in (f := h2) (by assumption) (show (0 : Int) ≤ N by omega) (Int.le_refl (N : Int))
          have hQn : V h N = ((Hd h N ((s1 + T) + 1) 4) / (Hd g K T 3 + 1) + 1) * (V g K * Bp s1) + V h2 N := by rw [Int.add_mul]; omega
          have hyb : 0 ≤ (Hd h N ((s1 + T) + 1) 4) / (Hd g K T 3 + 1) + 1 ∧ (Hd h N ((s1 + T) + 1) 4) / (Hd g K T 3 + 1) + 1 ≤ 9999 := ⟨by have := gs.1; omega, by
              refine Int.not_lt.mp (fun hh => ?_)
              have m9 := mul_le_r (show 10000 ≤ (Hd h N ((s1 + T) + 1) 4) / (Hd g K T 3 + 1) + 1 by omega) (Int.le_of_lt pDb)
              have hR9 := hR
              rw [Bp_s (by omega), ← Int.mul_assoc, Int.mul_comm (V g K) 10000, Int.mul_assoc] at hR9
              omega⟩
          refine zv_iinc (k := 0) (lv' := [(7, .int (iI (((Hd h N ((s1 + T) + 1) 4) / ((Hd g K T 3) + 1)) + 1))), (0, .ref (ad E q)), (1, .ref (ad E r)), (2, .ref (ad E t)), (3, .int (iI T)), (4, .long (Int64.ofInt ((Hd g K T 3) + 1))), (6, .int (iI s1))]) hx hb d_R_divide_85 hl rfl (by decide) rfl (fun ls hl => ?_)
          refine lv_aload_n hx hb d_R_divide_88 rfl (lv_at hl 2 rfl) ?_
          refine lv_iload hx hb d_R_divide_89 (lv_at hl 6 rfl) ?_
          refine lv_iload hx hb d_R_divide_91 (lv_at hl 0 rfl) ?_
          refine zv_iast hx hb hK hH68 q1lt e72 (by omega) (by omega) (by omega) d_R_divide_93 (fun H76 lc77 w75 hH78 e79 hg80 => ?_)
          have bd81 := bd_up bk s1 (((Hd h N ((s1 + T) + 1) 4) / ((Hd g K T 3) + 1)) + 1) (by omega)
          have e82 : w75 q = zar E N h2 := (hg80 q (by omega)).trans e69
          have e83 : w75 t = zar E K g := (hg80 t (by omega)).trans e73
          have hf84 : ∀ k, k ≠ r → k ≠ q → w75 k = w0 k := fun k g0 g1 => (hg80 k g0).trans (hf74 k g0 g1)
          refine zv_iinc (k := 6) (lv' := [(6, .int (iI (s1 + (-1)))), (7, .int (iI (((Hd h N ((s1 + T) + 1) 4) / ((Hd g K T 3) + 1)) + 1))), (0, .ref (ad E q)), (1, .ref (ad E r)), (2, .ref (ad E t)), (3, .int (iI T)), (4, .long (Int64.ofInt ((Hd g K T 3) + 1)))]) hx hb d_R_divide_94 hl rfl (by decide) rfl (fun ls hl => ?_)
          refine lv_goto (tgt := 33) hx hb d_R_divide_97 rfl ?_
          exact ih  (s1 + (-1)) h2 (up k s1 (((Hd h N ((s1 + T) + 1) 4) / ((Hd g K T 3) + 1)) + 1)) _ H76 lc77 w75 (lv_sub hl [2, 3, 4, 5, 6, 0] rfl) hH78 e82 e79 e83 (fun k g0 g1 => hf84 k g0 g1) (by assumption) (by assumption) (by omega) (by rw [show s1 + (-1) + 1 = s1 by omega]; exact hRn) (by rw [V_set k (by omega) (by omega), hk s1 (by omega) (Int.le_refl s1)]; exact dv_fin hQv hQn) (by intro j g1 g2; rw [up_ne (by omega)]; exact hk j g1 (by omega)) (by omega)
  exact L33 ((max ((U - T) + 1) 0 : Int).toNat + 1) (U - T) f k1 _ H21 lc22 w3 (lv_sub hl [3, 4, 5, 2, 1, 0] rfl) hH24 e7 e5 e8 (fun k g0 g1 => hf9 k g0) (by exact bf) (by intro i g1 g2; rw [p2 i g1 g2]; decide) (by omega) (by exact dv_start bf bg (by omega) hU.1 hU.2.1 hU.2.2.1 (by omega) (by omega) hT.2.2.1 (hT.2.2.2 (by omega))) (by rw [V_zero (f := k1) (by omega) p2]; omega) (by intro j g1 g2; exact p2 j g1 (by omega)) (by omega)
