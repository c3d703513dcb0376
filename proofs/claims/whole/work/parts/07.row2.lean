def rm_floorDiv : Room := { frames := 0, cells := 0, slots := 0, locals := 0 }
set_option maxHeartbeats 4000000 in
set_option maxRecDepth 100000 in
theorem c_floorDiv (l : Launch) (E : zE) (w0 : zW) (x y : Int)   (zx : -2147483648 < x ∧ x < 2147483648) (zy : 0 < y ∧ y < 2147483648) : zM l y_JM_floorDiv ws_JM_floorDiv rm_floorDiv E [.int (iI x), .int (iI y)] w0 (zQi E w0 (fun z w' => w' = w0 ∧ (z = x / y))) := by
  refine z_met (cc := b_JM_floorDiv) (maxL := 3) (ret := (some .int)) (by decide +kernel) rfl (Nat.le_of_ble_eq_true rfl) ?_
  intro p e s m below meth cd ls a Qf hQ hC hl hH
  obtain ⟨hF, hr, hlk, hK, hG, hn⟩ := hC
  obtain ⟨hx, hb, hml, hown, hts⟩ := hF
  have hg : ∀ w ∈ GW, w.before a s = true := fun w h => hts w (List.mem_cons_of_mem _ h)
  have hA : ∀ q, s.heap.size ≤ q → va_A (wl E w0) s.heap.size q := fun q h => Or.inr h
  have hl : lv_has ls 3 [(0, .int (iI x)), (1, .int (iI y))] := hl
  have k9 := fl_rng (x := x) (y := y) (by omega) (by omega)
  refine lv_iload_n hx hb d_JM_floorDiv_0 rfl (lv_at hl 0 rfl) ?_
  refine lv_iload_n hx hb d_JM_floorDiv_1 rfl (lv_at hl 1 rfl) ?_
  refine zv_idivS hx hb (by omega) (by omega) (by omega) (by omega) d_JM_floorDiv_2 ?_
  refine lv_istore_n (lv' := [(2, .int (iI (Int.tdiv x y))), (0, .int (iI x)), (1, .int (iI y))]) hx hb d_JM_floorDiv_3 rfl hl (by decide) rfl (fun ls hl => ?_)
  refine lv_iload_n hx hb d_JM_floorDiv_4 rfl (lv_at hl 1 rfl) ?_
  refine lv_iload_n hx hb d_JM_floorDiv_5 rfl (lv_at hl 2 rfl) ?_
  refine zv_ixorS hx hb (by omega) (by omega) d_JM_floorDiv_6 (fun v1 hv2 hv3 => ?_)
  refine zv_if_ge (tgt := 21) hx hb d_JM_floorDiv_7 rfl (by omega) (fun h4 => ?_) (fun h4 => ?_)
  · refine lv_iload_n hx hb d_JM_floorDiv_21 rfl (lv_at hl 0 rfl) ?_
    rw [hQ]
    exact z_iret hx hb hr hlk hH (⟨rfl, fl_dn zy.1 rfl (by first | exact Or.inl (by omega) | exact Or.inr (by omega))⟩) d_JM_floorDiv_22
  · refine lv_iload_n hx hb d_JM_floorDiv_10 rfl (lv_at hl 0 rfl) ?_
    refine lv_iload_n hx hb d_JM_floorDiv_11 rfl (lv_at hl 2 rfl) ?_
    refine zv_imul hx hb d_JM_floorDiv_12 ?_
    refine lv_iload_n hx hb d_JM_floorDiv_13 rfl (lv_at hl 1 rfl) ?_
    refine zv_icmp_eq (tgt := 21) hx hb d_JM_floorDiv_14 rfl (by omega) (by omega) (fun h5 => ?_) (fun h5 => ?_)
    · refine lv_iload_n hx hb d_JM_floorDiv_21 rfl (lv_at hl 0 rfl) ?_
      rw [hQ]
      exact z_iret hx hb hr hlk hH (⟨rfl, fl_dn zy.1 rfl (by first | exact Or.inl (by omega) | exact Or.inr (by omega))⟩) d_JM_floorDiv_22
    · refine lv_iload_n hx hb d_JM_floorDiv_17 rfl (lv_at hl 0 rfl) ?_
      refine zv_iconst hx hb d_JM_floorDiv_18 ?_
      refine zv_isub hx hb d_JM_floorDiv_19 ?_
      rw [hQ]
      exact z_iret hx hb hr hlk hH (⟨rfl, fl_up zy.1 rfl (by omega) (by assumption)⟩) d_JM_floorDiv_20
def rm_fill : Room := { frames := 0, cells := 0, slots := 0, locals := 0 }
set_option maxHeartbeats 4000000 in
set_option maxRecDepth 100000 in
theorem c_fill (l : Launch) (E : zE) (w0 : zW) (q N : Nat) (f : Int → Int) (v : Int) (q0lt : q < zn E) (c0 : w0 q = zar E N f) (hN : 0 < N ∧ N < 100000) : zM l y_JA_fill ws_JA_fill rm_fill E [.ref (ad E q), .int (iI v)] w0 (zQv E w0 (fun w' => (∃ (f' : Int → Int), w' q = zar E N f' ∧ (∀ j : Int, 0 ≤ j → j < N → f' j = v)) ∧ ∀ k, k ≠ q → w' k = w0 k)) := by
  refine z_met (cc := b_JA_fill) (maxL := 4) (ret := none) (by decide +kernel) rfl (Nat.le_of_ble_eq_true rfl) ?_
  intro p e s m below meth cd ls a Qf hQ hC hl hH
  obtain ⟨hF, hr, hlk, hK, hG, hn⟩ := hC
  obtain ⟨hx, hb, hml, hown, hts⟩ := hF
  have hg : ∀ w ∈ GW, w.before a s = true := fun w h => hts w (List.mem_cons_of_mem _ h)
  have hA : ∀ q, s.heap.size ≤ q → va_A (wl E w0) s.heap.size q := fun q h => Or.inr h
  have hl : lv_has ls 4 [(0, .ref (ad E q)), (1, .int (iI v))] := hl
  refine zv_iconst hx hb d_JA_fill_0 ?_
  refine lv_istore_n (lv' := [(2, .int (iI 0)), (0, .ref (ad E q)), (1, .int (iI v))]) hx hb d_JA_fill_1 rfl hl (by decide) rfl (fun ls hl => ?_)
  refine lv_aload_n hx hb d_JA_fill_2 rfl (lv_at hl 1 rfl) ?_
  refine zv_alen hx hb hK hH q0lt c0 d_JA_fill_3 ?_
  refine lv_istore_n (lv' := [(3, .int (iI ((N : Int)))), (2, .int (iI 0)), (0, .ref (ad E q)), (1, .int (iI v))]) hx hb d_JA_fill_4 rfl hl (by decide) rfl (fun ls hl => ?_)
  have L5 : ∀ (fu : Nat) (i : Int) (h : Int → Int) (ls : Array Slot) (H1 : Heap) (lc2 : List Loc) (w3 : zW), (lv_has ls 4 [(3, .int (iI ((N : Int)))), (2, .int (iI i)), (0, .ref (ad E q)), (1, .int (iI v))]) → (zH E w3 (va_A (wl E w0) s.heap.size) s.heap H1 lc2) → (w3 q = zar E N h) → (∀ k, k ≠ q → w3 k = w0 k) → (0 ≤ i ∧ i ≤ N) → (∀ j : Int, 0 ≤ j → j < i → h j = v) → ((N : Int) - i < (fu : Int)) → W p l e rm_fill s m a below meth cd H1 lc2 0 0 Qf (F0 m 5 ls []) := by
    intro fu
    induction fu with
    | zero => intro i h ls H1 lc2 w3 hl hH e4 hf5 hi hz hm; exact absurd hm (by omega)
    | succ fu ih =>
      intro i h ls H1 lc2 w3 hl hH e4 hf5 hi hz hm
      refine lv_iload_n hx hb d_JA_fill_5 rfl (lv_at hl 1 rfl) ?_
      refine lv_iload_n hx hb d_JA_fill_6 rfl (lv_at hl 0 rfl) ?_
      refine zv_icmp_ge (tgt := 20) hx hb d_JA_fill_7 rfl (by omega) (by omega) (fun h6 => ?_) (fun h6 => ?_)
      · rw [hQ]
        exact z_vret hx hb hr hlk hH (⟨⟨h, e4, fun j g1 g2 => hz j g1 (by omega)⟩, (fun k g0 => hf5 k g0)⟩) d_JA_fill_20
      · refine lv_aload_n hx hb d_JA_fill_10 rfl (lv_at hl 2 rfl) ?_
        refine lv_iload_n hx hb d_JA_fill_11 rfl (lv_at hl 1 rfl) ?_
        refine lv_iload_n hx hb d_JA_fill_12 rfl (lv_at hl 3 rfl) ?_
        refine zv_iast hx hb hK hH q0lt e4 (by omega) (by omega) (by omega) d_JA_fill_13 (fun H8 lc9 w7 hH10 e11 hg12 => ?_)
        have hf13 : ∀ k, k ≠ q → w7 k = w0 k := fun k g0 => (hg12 k g0).trans (hf5 k g0)
        refine zv_iinc (k := 1) (lv' := [(2, .int (iI (i + 1))), (3, .int (iI ((N : Int)))), (0, .ref (ad E q)), (1, .int (iI v))]) hx hb d_JA_fill_14 hl rfl (by decide) rfl (fun ls hl => ?_)
        refine lv_goto (tgt := 5) hx hb d_JA_fill_17 rfl ?_
        exact ih  (i + 1) (up h i v) _ H8 lc9 w7 (lv_sub hl [1, 0, 2, 3] rfl) hH10 e11 (fun k g0 => hf13 k g0) (by omega) (v_step hz) (by omega)
  exact L5 (((N : Int) - 0 : Int).toNat + 1) 0 f _ s.heap ([]) w0 (lv_sub hl [0, 1, 2, 3] rfl) hH c0 (fun k _ => rfl) (by omega) (by intro j g1 g2; omega) (by omega)
def rm_digits : Room := { frames := 1, cells := 0, slots := 0, locals := 21 }
set_option maxHeartbeats 4000000 in
set_option maxRecDepth 100000 in
theorem c_digits (l : Launch) (E : zE) (w0 : zW) (q N : Nat) (f : Int → Int) (q0lt : q < zn E) (c0 : w0 q = zar E N f) (hN : 0 < N ∧ N < 100000) (bf : bd f N 0 9999) : zM l y_R_digits ws_R_digits rm_digits E [.ref (ad E q)] w0 (zQi E w0 (fun z w' => w' = w0 ∧ (dgs (V f N) z ∧ 0 ≤ z ∧ z ≤ N * 4))) := by
  refine z_met (cc := b_R_digits) (maxL := 4) (ret := (some .int)) (by decide +kernel) rfl (Nat.le_of_ble_eq_true rfl) ?_
  intro p e s m below meth cd ls a Qf hQ hC hl hH
  obtain ⟨hF, hr, hlk, hK, hG, hn⟩ := hC
  obtain ⟨hx, hb, hml, hown, hts⟩ := hF
  have hg : ∀ w ∈ GW, w.before a s = true := fun w h => hts w (List.mem_cons_of_mem _ h)
  have hA : ∀ q, s.heap.size ≤ q → va_A (wl E w0) s.heap.size q := fun q h => Or.inr h
  have hl : lv_has ls 4 [(0, .ref (ad E q))] := hl
  refine lv_aload_n hx hb d_R_digits_0 rfl (lv_at hl 0 rfl) ?_
  refine z_calli (va_runS (As := [.ref (ad E q)]) (rest := []) ⟨hx, hb, hml, hown, hts⟩ (c_topLimb (l := l) (E := E) (w0 := w0) (q := q) (N := N) (f := f) (q0lt := q0lt) (c0 := c0) (hN := by omega) (bf := bf) s.heap.size) (z_cwS 1 hg wm_300 wm_312 wm_16 wm_299 (by decide +kernel) ⟨Nat.le_of_ble_eq_true rfl, Nat.le_of_ble_eq_true rfl⟩) (z_preS hK hG hn hH hA) rfl rfl hl.1 rfl (lv_room (Nat.le_of_ble_eq_true rfl)) d_R_digits_1 ⟨Nat.zero_le _, Nat.zero_le _⟩) hH hA (fun t w3 H1 lc2 hH4 ht => ?_)
  obtain ⟨ew5, ht⟩ := ht
  rw [ew5] at hH4
  replace ht : -1 ≤ t ∧ t < N ∧ (∀ j, t < j → j < N → f j = 0) ∧ (0 ≤ t → f t ≠ 0) := ht
  refine lv_istore_n (lv' := [(1, .int (iI t)), (0, .ref (ad E q))]) hx hb d_R_digits_4 rfl hl (by decide) rfl (fun ls hl => ?_)
  refine lv_iload_n hx hb d_R_digits_5 rfl (lv_at hl 0 rfl) ?_
  refine zv_if_ge (tgt := 11) hx hb d_R_digits_6 rfl (by omega) (fun h6 => ?_) (fun h6 => ?_)
  · have ft0 := bf t (by omega) (by omega)
    have ft1 := ht.2.2.2 (by omega)
    refine lv_iload_n hx hb d_R_digits_11 rfl (lv_at hl 0 rfl) ?_
    refine zv_iconst hx hb d_R_digits_12 ?_
    refine zv_imul hx hb d_R_digits_13 ?_
    refine zv_iconst hx hb d_R_digits_14 ?_
    refine zv_iadd hx hb d_R_digits_15 ?_
    refine lv_istore_n (lv' := [(2, .int (iI ((t * 4) + 1))), (1, .int (iI t)), (0, .ref (ad E q))]) hx hb d_R_digits_16 rfl hl (by decide) rfl (fun ls hl => ?_)
    refine zv_iconst hx hb d_R_digits_17 ?_
    refine lv_istore_n (lv' := [(3, .int (iI 1)), (2, .int (iI ((t * 4) + 1))), (1, .int (iI t)), (0, .ref (ad E q))]) hx hb d_R_digits_18 rfl hl (by decide) rfl (fun ls hl => ?_)
    have L19 : ∀ (fu : Nat) (k : Int) (d : Int) (ls : Array Slot) (H7 : Heap) (lc8 : List Loc), (lv_has ls 4 [(3, .int (iI k)), (2, .int (iI d)), (1, .int (iI t)), (0, .ref (ad E q))]) → (zH E w0 (va_A (wl E w0) s.heap.size) s.heap H7 lc8) → (1 ≤ k ∧ k ≤ 4) → (d = t * 4 + k) → (Tp (k - 1) ≤ f t) → (4 - k < (fu : Int)) → W p l e rm_digits s m a below meth cd H7 lc8 0 0 Qf (F0 m 19 ls []) := by
      intro fu
      induction fu with
      | zero => intro k d ls H7 lc8 hl hH hk hd h1 hm; exact absurd hm (by omega)
      | succ fu ih =>
        intro k d ls H7 lc8 hl hH hk hd h1 hm
        refine lv_iload_n hx hb d_R_digits_19 rfl (lv_at hl 0 rfl) ?_
        refine zv_iconst hx hb d_R_digits_20 ?_
        refine zv_icmp_ge (tgt := 44) hx hb d_R_digits_21 rfl (by omega) (by omega) (fun h9 => ?_) (fun h9 => ?_)
        · refine lv_iload_n hx hb d_R_digits_44 rfl (lv_at hl 1 rfl) ?_
          subst hd
          have g9 : f t < Tp k := by first | assumption | (rw [show k = 4 by omega]; show f t < 10000; omega)
          rw [hQ]
          exact z_iret hx hb hr hlk hH (⟨rfl, ⟨Or.inr ⟨by omega, dg_end bf (by omega) (by omega) ht.2.2.1 hk.1 h1 g9⟩, by omega, by omega⟩⟩) d_R_digits_45
        · refine lv_aload_n hx hb d_R_digits_24 rfl (lv_at hl 3 rfl) ?_
          refine lv_iload_n hx hb d_R_digits_25 rfl (lv_at hl 2 rfl) ?_
          refine zv_iald hx hb hK hH q0lt c0 (by omega) (by omega) (by omega) d_R_digits_26 ?_
          have b10 := bf t (by omega) (by omega)
          refine zv_tens hx hb hG hH hown (hn.1.use rfl) (fun _ h9 => h9) d_R_digits_27 ?_
          refine lv_iload_n hx hb d_R_digits_30 rfl (lv_at hl 0 rfl) ?_
          refine zv_tenld hx hb hG hH (by omega) (by omega) d_R_digits_31 ?_
          have b11 := Tp_in (i := k) (by omega) (by omega)
          refine zv_icmp_lt (tgt := 44) hx hb d_R_digits_32 rfl (by omega) (by omega) (fun h12 => ?_) (fun h12 => ?_)
          · refine lv_iload_n hx hb d_R_digits_44 rfl (lv_at hl 1 rfl) ?_
            subst hd
            have g9 : f t < Tp k := by first | assumption | (rw [show k = 4 by omega]; show f t < 10000; omega)
            rw [hQ]
            exact z_iret hx hb hr hlk hH (⟨rfl, ⟨Or.inr ⟨by omega, dg_end bf (by omega) (by omega) ht.2.2.1 hk.1 h1 g9⟩, by omega, by omega⟩⟩) d_R_digits_45
          · refine zv_iinc (k := 1) (lv' := [(2, .int (iI (d + 1))), (3, .int (iI k)), (1, .int (iI t)), (0, .ref (ad E q))]) hx hb d_R_digits_35 hl rfl (by decide) rfl (fun ls hl => ?_)
            refine zv_iinc (k := 1) (lv' := [(3, .int (iI (k + 1))), (2, .int (iI (d + 1))), (1, .int (iI t)), (0, .ref (ad E q))]) hx hb d_R_digits_38 hl rfl (by decide) rfl (fun ls hl => ?_)
            refine lv_goto (tgt := 19) hx hb d_R_digits_41 rfl ?_
            exact ih  (k + 1) (d + 1) _ H7 lc8 (lv_sub hl [0, 1, 2, 3] rfl) hH (by omega) (by omega) (by rw [show k + 1 - 1 = k by omega]; omega) (by omega)
    exact L19 ((4 - 1 : Int).toNat + 1) 1 ((t * 4) + 1) _ H1 lc2 (lv_sub hl [0, 1, 2, 3] rfl) hH4 (by omega) (by omega) (by show Tp 0 ≤ f t; rw [Tp_0]; omega) (by omega)
  · refine zv_iconst hx hb d_R_digits_9 ?_
    rw [hQ]
    exact z_iret hx hb hr hlk hH4 (⟨rfl, ⟨Or.inl ⟨rfl, V_zero (by omega) (fun j g1 g2 => ht.2.2.1 j (by omega) g2)⟩, by omega, by omega⟩⟩) d_R_digits_10
def rm_roundOff : Room := { frames := 2, cells := 0, slots := 0, locals := 44 }
set_option maxHeartbeats 4000000 in
set_option maxRecDepth 100000 in
theorem c_roundOff (l : Launch) (E : zE) (w0 : zW) (q N : Nat) (f : Int → Int) (x : Int) (q0lt : q < zn E) (c0 : w0 q = zar E N f) (hN : 0 < N ∧ N < 100000) (bf : bd f N 0 9999) (hp : -100000 ≤ x ∧ x < N * 4) : zM l y_R_roundOff ws_R_roundOff rm_roundOff E [.ref (ad E q), .int (iI x)] w0 (zQv E w0 (fun w' => (∃ (f' : Int → Int), w' q = zar E N f' ∧ bd f' N 0 9999 ∧ (V f' N = Rn (V f N) x % Bp N)) ∧ ∀ k, k ≠ q → w' k = w0 k)) := by
  refine z_met (cc := b_R_roundOff) (maxL := 3) (ret := none) (by decide +kernel) rfl (Nat.le_of_ble_eq_true rfl) ?_
  intro p e s m below meth cd ls a Qf hQ hC hl hH
  obtain ⟨hF, hr, hlk, hK, hG, hn⟩ := hC
  obtain ⟨hx, hb, hml, hown, hts⟩ := hF
  have hg : ∀ w ∈ GW, w.before a s = true := fun w h => hts w (List.mem_cons_of_mem _ h)
  have hA : ∀ q, s.heap.size ≤ q → va_A (wl E w0) s.heap.size q := fun q h => Or.inr h
  have hl : lv_has ls 3 [(0, .ref (ad E q)), (1, .int (iI x))] := hl
  refine lv_aload_n hx hb d_R_roundOff_0 rfl (lv_at hl 0 rfl) ?_
  refine lv_iload_n hx hb d_R_roundOff_1 rfl (lv_at hl 1 rfl) ?_
  refine zv_iconst hx hb d_R_roundOff_2 ?_
  refine zv_isub hx hb d_R_roundOff_3 ?_
  refine z_calli (va_runS (As := [.ref (ad E q), .int (iI (x - 1))]) (rest := []) ⟨hx, hb, hml, hown, hts⟩ (c_digitAt (l := l) (E := E) (w0 := w0) (q := q) (N := N) (f := f) (x := x - 1) (q0lt := q0lt) (c0 := c0) (hN := by omega) (bf := bf) (hp := by omega) s.heap.size) (z_cwS 2 hg wm_363 wm_436 wm_16 wm_362 (by decide +kernel) ⟨Nat.le_of_ble_eq_true rfl, Nat.le_of_ble_eq_true rfl⟩) (z_preS hK hG hn hH hA) rfl rfl hl.1 rfl (lv_room (Nat.le_of_ble_eq_true rfl)) d_R_roundOff_4 ⟨Nat.zero_le _, Nat.zero_le _⟩) hH hA (fun u w3 H1 lc2 hH4 hu => ?_)
  obtain ⟨ew5, hu⟩ := hu
  rw [ew5] at hH4
  replace hu : u = (if (x - 1) < 0 then 0 else V f N / Tp (x - 1) % 10) := hu
  refine zv_iconst hx hb d_R_roundOff_7 ?_
  refine zv_icmp_lt (tgt := 15) hx hb d_R_roundOff_8 rfl (by omega) (by omega) (fun h6 => ?_) (fun h6 => ?_)
  · refine zv_iconst hx hb d_R_roundOff_15 ?_
    refine lv_istore_n (lv' := [(2, .int (iI 0)), (0, .ref (ad E q)), (1, .int (iI x))]) hx hb d_R_roundOff_16 rfl hl (by decide) rfl (fun ls hl => ?_)
    refine lv_aload_n hx hb d_R_roundOff_17 rfl (lv_at hl 1 rfl) ?_
    refine lv_iload_n hx hb d_R_roundOff_18 rfl (lv_at hl 2 rfl) ?_
    refine z_callv (va_runS (As := [.ref (ad E q), .int (iI x)]) (rest := []) ⟨hx, hb, hml, hown, hts⟩ (c_cut (l := l) (E := E) (w0 := w0) (q := q) (N := N) (f := f) (x := x) (q0lt := q0lt) (c0 := c0) (hN := by omega) (bf := bf) (hp := by omega) H1.size) (z_cwS 2 hg wm_439 wm_437 wm_16 wm_438 (by decide +kernel) ⟨Nat.le_of_ble_eq_true rfl, Nat.le_of_ble_eq_true rfl⟩) (z_preS hK hG hn hH4 hA) rfl rfl hl.1 rfl (lv_room (Nat.le_of_ble_eq_true rfl)) d_R_roundOff_19 ⟨Nat.zero_le _, Nat.zero_le _⟩) hH4 hA (fun  w9 H7 lc8 hH10 h1 => ?_)
    obtain ⟨⟨f_11, e12, bd13, h1⟩, hg14⟩ := h1
    replace bd13 : bd f_11 N 0 9999 := bd13
    replace h1 : V f_11 N = (if x ≤ 0 then V f N else V f N / Tp x * Tp x) := h1
    have hf15 : ∀ k, k ≠ q → w9 k = w0 k := fun k g0 => hg14 k g0
    refine lv_iload_n hx hb d_R_roundOff_22 rfl (lv_at hl 0 rfl) ?_
    refine zv_if_eq (tgt := 31) hx hb d_R_roundOff_23 rfl (by omega) (fun h16 => ?_) (fun h16 => absurd h16 (by omega))
    have b9 := V_in bf (Int.le_of_lt (by omega : (0 : Int) < N)) (Int.le_refl (N : Int))
    rw [hQ]
    exact z_vret hx hb hr hlk hH10 (⟨⟨f_11, e12, bd13, by rw [h1]; exact Rn_dn b9.1 b9.2 (by by_cases hh : x ≤ 0; exact Or.inl hh; rw [if_neg (by omega)] at hu; exact Or.inr (by omega))⟩, (fun k g0 => hf15 k g0)⟩) d_R_roundOff_31
  · refine zv_iconst hx hb d_R_roundOff_11 ?_
    refine lv_goto (tgt := 16) hx hb d_R_roundOff_12 rfl ?_
    refine lv_istore_n (lv' := [(2, .int (iI 1)), (0, .ref (ad E q)), (1, .int (iI x))]) hx hb d_R_roundOff_16 rfl hl (by decide) rfl (fun ls hl => ?_)
    refine lv_aload_n hx hb d_R_roundOff_17 rfl (lv_at hl 1 rfl) ?_
    refine lv_iload_n hx hb d_R_roundOff_18 rfl (lv_at hl 2 rfl) ?_
    refine z_callv (va_runS (As := [.ref (ad E q), .int (iI x)]) (rest := []) ⟨hx, hb, hml, hown, hts⟩ (c_cut (l := l) (E := E) (w0 := w0) (q := q) (N := N) (f := f) (x := x) (q0lt := q0lt) (c0 := c0) (hN := by omega) (bf := bf) (hp := by omega) H1.size) (z_cwS 2 hg wm_439 wm_437 wm_16 wm_438 (by decide +kernel) ⟨Nat.le_of_ble_eq_true rfl, Nat.le_of_ble_eq_true rfl⟩) (z_preS hK hG hn hH4 hA) rfl rfl hl.1 rfl (lv_room (Nat.le_of_ble_eq_true rfl)) d_R_roundOff_19 ⟨Nat.zero_le _, Nat.zero_le _⟩) hH4 hA (fun  w19 H17 lc18 hH20 h1 => ?_)
    obtain ⟨⟨f_21, e22, bd23, h1⟩, hg24⟩ := h1
    replace bd23 : bd f_21 N 0 9999 := bd23
    replace h1 : V f_21 N = (if x ≤ 0 then V f N else V f N / Tp x * Tp x) := h1
    have hf25 : ∀ k, k ≠ q → w19 k = w0 k := fun k g0 => hg24 k g0
    refine lv_iload_n hx hb d_R_roundOff_22 rfl (lv_at hl 0 rfl) ?_
    refine zv_if_eq (tgt := 31) hx hb d_R_roundOff_23 rfl (by omega) (fun h26 => absurd h26 (by omega)) (fun h26 => ?_)
    refine lv_aload_n hx hb d_R_roundOff_26 rfl (lv_at hl 1 rfl) ?_
    refine lv_iload_n hx hb d_R_roundOff_27 rfl (lv_at hl 2 rfl) ?_
    refine z_callv (va_runS (As := [.ref (ad E q), .int (iI x)]) (rest := []) ⟨hx, hb, hml, hown, hts⟩ (c_addOneAt (l := l) (E := E) (w0 := w19) (q := q) (N := N) (f := f_21) (x := x) (q0lt := q0lt) (c0 := e22) (hN := by omega) (bf := bd23) (hp := by omega) H17.size) (z_cwS 2 hg wm_288 wm_440 wm_16 wm_287 (by decide +kernel) ⟨Nat.le_of_ble_eq_true rfl, Nat.le_of_ble_eq_true rfl⟩) (z_preS hK hG hn hH20 hA) rfl rfl hl.1 rfl (lv_room (Nat.le_of_ble_eq_true rfl)) d_R_roundOff_28 ⟨Nat.zero_le _, Nat.zero_le _⟩) hH20 hA (fun  w29 H27 lc28 hH30 h2 => ?_)
    obtain ⟨⟨f_31, e32, bd33, h2⟩, hg34⟩ := h2
    replace bd33 : bd f_31 N 0 9999 := bd33
    replace h2 : V f_31 N = (if x < 0 then V f_21 N else (V f_21 N + Tp x) % Bp N) := h2
    have hf35 : ∀ k, k ≠ q → w29 k = w0 k := fun k g0 => (hg34 k g0).trans (hf25 k g0)
    have hx9 : 0 < x := by
        refine Int.not_le.mp (fun hh => ?_)
        rw [if_pos (by omega)] at hu
        omega
    rw [if_neg (by omega)] at hu h1 h2
    rw [hQ]
    exact z_vret hx hb hr hlk hH30 (⟨⟨f_31, e32, bd33, by rw [h2, h1]; exact Rn_up hx9 (by omega)⟩, (fun k g0 => hf35 k g0)⟩) d_R_roundOff_31
def rm_multiplyByLimb : Room := { frames := 1, cells := 0, slots := 0, locals := 27 }
set_option maxHeartbeats 4000000 in
set_option maxRecDepth 100000 in
theorem c_multiplyByLimb (l : Launch) (E : zE) (w0 : zW) (q r N M : Nat) (f g : Int → Int) (L x : Int) (q0lt : q < zn E) (q1lt : r < zn E) (c0 : w0 q = zar E N f) (c1 : w0 r = zar E M g) (hN : 0 < N ∧ N < 100000) (hM : 0 < M ∧ M < 100000) (bg : bd g M 0 9999) (hqr : q ≠ r) (hL : 0 ≤ L ∧ L ≤ 9999) (hx0 : 0 ≤ x ∧ x ≤ N) : zM l y_R_multiplyByLimb ws_R_multiplyByLimb rm_multiplyByLimb E [.ref (ad E q), .ref (ad E r), .int (iI L), .int (iI x)] w0 (zQv E w0 (fun w' => (∃ (f' : Int → Int), w' q = zar E N f' ∧ bd f' N 0 9999 ∧ (V f' N = (L * V g M * Bp x) % Bp N)) ∧ ∀ k, k ≠ q → w' k = w0 k)) := by
  refine z_met (cc := b_R_multiplyByLimb) (maxL := 4) (ret := none) (by decide +kernel) rfl (Nat.le_of_ble_eq_true rfl) ?_
  intro p e s m below meth cd ls a Qf hQ hC hl hH
  obtain ⟨hF, hr, hlk, hK, hG, hn⟩ := hC
  obtain ⟨hx, hb, hml, hown, hts⟩ := hF
  have hg : ∀ w ∈ GW, w.before a s = true := fun w h => hts w (List.mem_cons_of_mem _ h)
  have hA : ∀ q, s.heap.size ≤ q → va_A (wl E w0) s.heap.size q := fun q h => Or.inr h
  have hl : lv_has ls 4 [(0, .ref (ad E q)), (1, .ref (ad E r)), (2, .int (iI L)), (3, .int (iI x))] := hl
  refine lv_aload_n hx hb d_R_multiplyByLimb_0 rfl (lv_at hl 0 rfl) ?_
  refine zv_iconst hx hb d_R_multiplyByLimb_1 ?_
  refine z_callv (va_runS (As := [.ref (ad E q), .int (iI 0)]) (rest := []) ⟨hx, hb, hml, hown, hts⟩ (c_fill (l := l) (E := E) (w0 := w0) (q := q) (N := N) (f := f) (v := 0) (q0lt := q0lt) (c0 := c0) (hN := by omega) s.heap.size) (z_cwS 2 hg wm_237 wm_425 wm_14 wm_236 (by decide +kernel) ⟨Nat.le_of_ble_eq_true rfl, Nat.le_of_ble_eq_true rfl⟩) (z_preS hK hG hn hH hA) rfl rfl hl.1 rfl (lv_room (Nat.le_of_ble_eq_true rfl)) d_R_multiplyByLimb_2 ⟨Nat.zero_le _, Nat.zero_le _⟩) hH hA (fun  w3 H1 lc2 hH4 h1 => ?_)
  obtain ⟨⟨f1, e5, h1⟩, hg6⟩ := h1
  replace h1 : ∀ j : Int, 0 ≤ j → j < N → f1 j = (0 : Int) := h1
  have e7 : w3 r = zar E M g := (hg6 r (by omega)).trans c1
  have hf8 : ∀ k, k ≠ q → w3 k = w0 k := fun k g0 => hg6 k g0
  refine lv_aload_n hx hb d_R_multiplyByLimb_5 rfl (lv_at hl 0 rfl) ?_
  refine lv_aload_n hx hb d_R_multiplyByLimb_6 rfl (lv_at hl 1 rfl) ?_
  refine lv_iload_n hx hb d_R_multiplyByLimb_7 rfl (lv_at hl 2 rfl) ?_
  refine lv_iload_n hx hb d_R_multiplyByLimb_8 rfl (lv_at hl 3 rfl) ?_
  refine z_callv (va_runS (As := [.ref (ad E q), .ref (ad E r), .int (iI L), .int (iI x)]) (rest := []) ⟨hx, hb, hml, hown, hts⟩ (c_addMultiple (l := l) (E := E) (w0 := w3) (q := q) (r := r) (N := N) (M := M) (f := f1) (g := g) (L := L) (x := x) (q0lt := q0lt) (q1lt := q1lt) (c0 := e5) (c1 := e7) (hN := by omega) (hM := by omega) (bf := fun i g1 g2 => by rw [h1 i g1 g2]; decide) (bg := bg) (hqr := by omega) (hL := by omega) (hx0 := by omega) H1.size) (z_cwS 4 hg wm_428 wm_426 wm_16 wm_427 (by decide +kernel) ⟨Nat.le_of_ble_eq_true rfl, Nat.le_of_ble_eq_true rfl⟩) (z_preS hK hG hn hH4 hA) rfl rfl hl.1 rfl (lv_room (Nat.le_of_ble_eq_true rfl)) d_R_multiplyByLimb_9 ⟨Nat.zero_le _, Nat.zero_le _⟩) hH4 hA (fun  w11 H9 lc10 hH12 h2 => ?_)
  obtain ⟨⟨f_13, e14, bd15, h2⟩, hg16⟩ := h2
  replace bd15 : bd f_13 N 0 9999 := bd15
  replace h2 : V f_13 N = (V f1 N + L * V g M * Bp x) % Bp N := h2
  have e17 : w11 r = zar E M g := (hg16 r (by omega)).trans e7
  have hf18 : ∀ k, k ≠ q → w11 k = w0 k := fun k g0 => (hg16 k g0).trans (hf8 k g0)
  rw [hQ]
  exact z_vret hx hb hr hlk hH12 (⟨⟨f_13, e14, bd15, by rw [h2, V_zero (by omega) (fun j g1 g2 => h1 j g1 g2), Int.zero_add]⟩, (fun k g0 => hf18 k g0)⟩) d_R_multiplyByLimb_12
