def rm_min : Room := { frames := 0, cells := 0, slots := 0, locals := 0 }
set_option maxHeartbeats 4000000 in
set_option maxRecDepth 100000 in
theorem c_min (l : Launch) (E : zE) (w0 : zW) (x y : Int)   (zx : zr x) (zy : zr y) : zM l y_JM_min ws_JM_min rm_min E [.int (iI x), .int (iI y)] w0 (zQi E w0 (fun z w' => w' = w0 ∧ (z = min x y))) := by
  refine z_met (cc := b_JM_min) (maxL := 2) (ret := (some .int)) (by decide +kernel) rfl (Nat.le_of_ble_eq_true rfl) ?_
  intro p e s m below meth cd ls a Qf hQ hC hl hH
  obtain ⟨hF, hr, hlk, hK, hG, hn⟩ := hC
  obtain ⟨hx, hb, hml, hown, hts⟩ := hF
  have hg : ∀ w ∈ GW, w.before a s = true := fun w h => hts w (List.mem_cons_of_mem _ h)
  have hA : ∀ q, s.heap.size ≤ q → va_A (wl E w0) s.heap.size q := fun q h => Or.inr h
  have hl : lv_has ls 2 [(0, .int (iI x)), (1, .int (iI y))] := hl
  refine lv_iload_n hx hb d_JM_min_0 rfl (lv_at hl 0 rfl) ?_
  refine lv_iload_n hx hb d_JM_min_1 rfl (lv_at hl 1 rfl) ?_
  refine zv_icmp_gt (tgt := 9) hx hb d_JM_min_2 rfl (by omega) (by omega) (fun h1 => ?_) (fun h1 => ?_)
  · refine lv_iload_n hx hb d_JM_min_9 rfl (lv_at hl 1 rfl) ?_
    rw [hQ]
    exact z_iret hx hb hr hlk hH (⟨rfl, by omega⟩) d_JM_min_10
  · refine lv_iload_n hx hb d_JM_min_5 rfl (lv_at hl 0 rfl) ?_
    refine lv_goto (tgt := 10) hx hb d_JM_min_6 rfl ?_
    rw [hQ]
    exact z_iret hx hb hr hlk hH (⟨rfl, by omega⟩) d_JM_min_10
def rm_max : Room := { frames := 0, cells := 0, slots := 0, locals := 0 }
set_option maxHeartbeats 4000000 in
set_option maxRecDepth 100000 in
theorem c_max (l : Launch) (E : zE) (w0 : zW) (x y : Int)   (zx : zr x) (zy : zr y) : zM l y_JM_max ws_JM_max rm_max E [.int (iI x), .int (iI y)] w0 (zQi E w0 (fun z w' => w' = w0 ∧ (z = max x y))) := by
  refine z_met (cc := b_JM_max) (maxL := 2) (ret := (some .int)) (by decide +kernel) rfl (Nat.le_of_ble_eq_true rfl) ?_
  intro p e s m below meth cd ls a Qf hQ hC hl hH
  obtain ⟨hF, hr, hlk, hK, hG, hn⟩ := hC
  obtain ⟨hx, hb, hml, hown, hts⟩ := hF
  have hg : ∀ w ∈ GW, w.before a s = true := fun w h => hts w (List.mem_cons_of_mem _ h)
  have hA : ∀ q, s.heap.size ≤ q → va_A (wl E w0) s.heap.size q := fun q h => Or.inr h
  have hl : lv_has ls 2 [(0, .int (iI x)), (1, .int (iI y))] := hl
  refine lv_iload_n hx hb d_JM_max_0 rfl (lv_at hl 0 rfl) ?_
  refine lv_iload_n hx hb d_JM_max_1 rfl (lv_at hl 1 rfl) ?_
  refine zv_icmp_lt (tgt := 9) hx hb d_JM_max_2 rfl (by omega) (by omega) (fun h1 => ?_) (fun h1 => ?_)
  · refine lv_iload_n hx hb d_JM_max_9 rfl (lv_at hl 1 rfl) ?_
    rw [hQ]
    exact z_iret hx hb hr hlk hH (⟨rfl, by omega⟩) d_JM_max_10
  · refine lv_iload_n hx hb d_JM_max_5 rfl (lv_at hl 0 rfl) ?_
    refine lv_goto (tgt := 10) hx hb d_JM_max_6 rfl ?_
    rw [hQ]
    exact z_iret hx hb hr hlk hH (⟨rfl, by omega⟩) d_JM_max_10
def rm_topLimb : Room := { frames := 0, cells := 0, slots := 0, locals := 0 }
set_option maxHeartbeats 4000000 in
set_option maxRecDepth 100000 in
theorem c_topLimb (l : Launch) (E : zE) (w0 : zW) (q N : Nat) (f : Int → Int) (q0lt : q < zn E) (c0 : w0 q = zar E N f) (hN : 0 < N ∧ N < 100000) (bf : bd f N 0 9999) : zM l y_R_topLimb ws_R_topLimb rm_topLimb E [.ref (ad E q)] w0 (zQi E w0 (fun z w' => w' = w0 ∧ (-1 ≤ z ∧ z < N ∧ (∀ j, z < j → j < N → f j = 0) ∧ (0 ≤ z → f z ≠ 0)))) := by
  refine z_met (cc := b_R_topLimb) (maxL := 2) (ret := (some .int)) (by decide +kernel) rfl (Nat.le_of_ble_eq_true rfl) ?_
  intro p e s m below meth cd ls a Qf hQ hC hl hH
  obtain ⟨hF, hr, hlk, hK, hG, hn⟩ := hC
  obtain ⟨hx, hb, hml, hown, hts⟩ := hF
  have hg : ∀ w ∈ GW, w.before a s = true := fun w h => hts w (List.mem_cons_of_mem _ h)
  have hA : ∀ q, s.heap.size ≤ q → va_A (wl E w0) s.heap.size q := fun q h => Or.inr h
  have hl : lv_has ls 2 [(0, .ref (ad E q))] := hl
  refine lv_aload_n hx hb d_R_topLimb_0 rfl (lv_at hl 0 rfl) ?_
  refine zv_alen hx hb hK hH q0lt c0 d_R_topLimb_1 ?_
  refine zv_iconst hx hb d_R_topLimb_2 ?_
  refine zv_isub hx hb d_R_topLimb_3 ?_
  refine lv_istore_n (lv' := [(1, .int (iI (((N : Int)) - 1))), (0, .ref (ad E q))]) hx hb d_R_topLimb_4 rfl hl (by decide) rfl (fun ls hl => ?_)
  have L5 : ∀ (fu : Nat) (t : Int) (ls : Array Slot) (H1 : Heap) (lc2 : List Loc), (lv_has ls 2 [(1, .int (iI t)), (0, .ref (ad E q))]) → (zH E w0 (va_A (wl E w0) s.heap.size) s.heap H1 lc2) → (-1 ≤ t ∧ t < N) → (∀ j, t < j → j < N → f j = 0) → (t + 1 < (fu : Int)) → W p l e rm_topLimb s m a below meth cd H1 lc2 0 0 Qf (F0 m 5 ls []) := by
    intro fu
    induction fu with
    | zero => intro t ls H1 lc2 hl hH h1 h2 hm; exact absurd hm (by omega)
    | succ fu ih =>
      intro t ls H1 lc2 hl hH h1 h2 hm
      refine lv_iload_n hx hb d_R_topLimb_5 rfl (lv_at hl 0 rfl) ?_
      refine zv_if_lt (tgt := 21) hx hb d_R_topLimb_6 rfl (by omega) (fun h3 => ?_) (fun h3 => ?_)
      · refine lv_iload_n hx hb d_R_topLimb_21 rfl (lv_at hl 0 rfl) ?_
        rw [hQ]
        exact z_iret hx hb hr hlk hH (⟨rfl, ⟨by omega, by omega, h2, fun h0 => by first | (exfalso; omega) | assumption⟩⟩) d_R_topLimb_22
      · refine lv_aload_n hx hb d_R_topLimb_9 rfl (lv_at hl 1 rfl) ?_
        refine lv_iload_n hx hb d_R_topLimb_10 rfl (lv_at hl 0 rfl) ?_
        refine zv_iald hx hb hK hH q0lt c0 (by omega) (by omega) (by omega) d_R_topLimb_11 ?_
        have b4 := bf t (by omega) (by omega)
        refine zv_if_ne (tgt := 21) hx hb d_R_topLimb_12 rfl (by omega) (fun h5 => ?_) (fun h5 => ?_)
        · refine lv_iload_n hx hb d_R_topLimb_21 rfl (lv_at hl 0 rfl) ?_
          rw [hQ]
          exact z_iret hx hb hr hlk hH (⟨rfl, ⟨by omega, by omega, h2, fun h0 => by first | (exfalso; omega) | assumption⟩⟩) d_R_topLimb_22
        · refine zv_iinc (k := 0) (lv' := [(1, .int (iI (t + (-1)))), (0, .ref (ad E q))]) hx hb d_R_topLimb_15 hl rfl (by decide) rfl (fun ls hl => ?_)
          refine lv_goto (tgt := 5) hx hb d_R_topLimb_18 rfl ?_
          exact ih  (t + (-1)) _ H1 lc2 (lv_sub hl [0, 1] rfl) hH (by omega) (tl_step h2 (by assumption)) (by omega)
  exact L5 (((((N : Int)) - 1) + 1 : Int).toNat + 1) (((N : Int)) - 1) _ s.heap ([]) (lv_sub hl [0, 1] rfl) hH (by omega) (by intro j g1 g2; exact absurd g2 (by omega)) (by omega)
def rm_add : Room := { frames := 0, cells := 0, slots := 0, locals := 0 }
set_option maxHeartbeats 4000000 in
set_option maxRecDepth 100000 in
theorem c_add (l : Launch) (E : zE) (w0 : zW) (q r N : Nat) (f g : Int → Int) (q0lt : q < zn E) (q1lt : r < zn E) (c0 : w0 q = zar E N f) (c1 : w0 r = zar E N g) (hN : 0 < N ∧ N < 100000) (bf : bd f N 0 9999) (bg : bd g N 0 9999) (hqr : q ≠ r) : zM l y_R_add ws_R_add rm_add E [.ref (ad E q), .ref (ad E r)] w0 (zQv E w0 (fun w' => (∃ (f' : Int → Int), w' q = zar E N f' ∧ bd f' N 0 9999 ∧ (V f' N = (V f N + V g N) % Bp N)) ∧ ∀ k, k ≠ q → w' k = w0 k)) := by
  refine z_met (cc := b_R_add) (maxL := 5) (ret := none) (by decide +kernel) rfl (Nat.le_of_ble_eq_true rfl) ?_
  intro p e s m below meth cd ls a Qf hQ hC hl hH
  obtain ⟨hF, hr, hlk, hK, hG, hn⟩ := hC
  obtain ⟨hx, hb, hml, hown, hts⟩ := hF
  have hg : ∀ w ∈ GW, w.before a s = true := fun w h => hts w (List.mem_cons_of_mem _ h)
  have hA : ∀ q, s.heap.size ≤ q → va_A (wl E w0) s.heap.size q := fun q h => Or.inr h
  have hl : lv_has ls 5 [(0, .ref (ad E q)), (1, .ref (ad E r))] := hl
  refine zv_iconst hx hb d_R_add_0 ?_
  refine lv_istore_n (lv' := [(2, .int (iI 0)), (0, .ref (ad E q)), (1, .ref (ad E r))]) hx hb d_R_add_1 rfl hl (by decide) rfl (fun ls hl => ?_)
  refine zv_iconst hx hb d_R_add_2 ?_
  refine lv_istore_n (lv' := [(3, .int (iI 0)), (2, .int (iI 0)), (0, .ref (ad E q)), (1, .ref (ad E r))]) hx hb d_R_add_3 rfl hl (by decide) rfl (fun ls hl => ?_)
  have L4 : ∀ (fu : Nat) (i : Int) (c : Int) (h : Int → Int) (ls : Array Slot) (H1 : Heap) (lc2 : List Loc) (w3 : zW), (lv_has ls 5 [(0, .ref (ad E q)), (1, .ref (ad E r)), (2, .int (iI c)), (3, .int (iI i))]) → (zH E w3 (va_A (wl E w0) s.heap.size) s.heap H1 lc2) → (w3 q = zar E N h) → (w3 r = zar E N g) → (∀ k, k ≠ q → w3 k = w0 k) → (bd h N 0 9999) → (0 ≤ i ∧ i ≤ N) → (0 ≤ c ∧ c ≤ 1) → (∀ j, i ≤ j → h j = f j) → (V h i + c * Bp i = V f i + V g i) → ((N : Int) - i < (fu : Int)) → W p l e rm_add s m a below meth cd H1 lc2 0 0 Qf (F0 m 4 ls []) := by
    intro fu
    induction fu with
    | zero => intro i c h ls H1 lc2 w3 hl hH e4 e5 hf6 bh hi hc hs hv hm; exact absurd hm (by omega)
    | succ fu ih =>
      intro i c h ls H1 lc2 w3 hl hH e4 e5 hf6 bh hi hc hs hv hm
      refine lv_iload_n hx hb d_R_add_4 rfl (lv_at hl 3 rfl) ?_
      refine lv_aload_n hx hb d_R_add_5 rfl (lv_at hl 0 rfl) ?_
      refine zv_alen hx hb hK hH q0lt e4 d_R_add_6 ?_
      refine zv_icmp_ge (tgt := 49) hx hb d_R_add_7 rfl (by omega) (by omega) (fun h7 => ?_) (fun h7 => ?_)
      · have e9 : i = N := by omega
        have b9 := V_in bh (Int.le_of_lt (by omega : (0 : Int) < N)) (Int.le_refl (N : Int))
        subst e9
        rw [hQ]
        exact z_vret hx hb hr hlk hH (⟨⟨h, e4, bh, md_of hv b9.1 b9.2⟩, (fun k g0 => hf6 k g0)⟩) d_R_add_49
      · refine lv_iload_n hx hb d_R_add_10 rfl (lv_at hl 3 rfl) ?_
        refine lv_aload_n hx hb d_R_add_11 rfl (lv_at hl 1 rfl) ?_
        refine zv_alen hx hb hK hH q1lt e5 d_R_add_12 ?_
        refine zv_icmp_ge (tgt := 49) hx hb d_R_add_13 rfl (by omega) (by omega) (fun h8 => absurd h8 (by omega)) (fun h8 => ?_)
        refine lv_aload_n hx hb d_R_add_16 rfl (lv_at hl 0 rfl) ?_
        refine lv_iload_n hx hb d_R_add_17 rfl (lv_at hl 3 rfl) ?_
        refine zv_iald hx hb hK hH q0lt e4 (by omega) (by omega) (by omega) d_R_add_18 ?_
        have b9 := bh i (by omega) (by omega)
        refine lv_aload_n hx hb d_R_add_19 rfl (lv_at hl 1 rfl) ?_
        refine lv_iload_n hx hb d_R_add_20 rfl (lv_at hl 3 rfl) ?_
        refine zv_iald hx hb hK hH q1lt e5 (by omega) (by omega) (by omega) d_R_add_21 ?_
        have b10 := bg i (by omega) (by omega)
        refine zv_iadd hx hb d_R_add_22 ?_
        refine lv_iload_n hx hb d_R_add_23 rfl (lv_at hl 2 rfl) ?_
        refine zv_iadd hx hb d_R_add_24 ?_
        refine lv_istore (lv' := [(4, .int (iI (((h i) + (g i)) + c))), (0, .ref (ad E q)), (1, .ref (ad E r)), (2, .int (iI c)), (3, .int (iI i))]) hx hb d_R_add_25 hl (by decide) rfl (fun ls hl => ?_)
        refine lv_iload hx hb d_R_add_27 (lv_at hl 0 rfl) ?_
        refine zv_sipush hx hb d_R_add_29 rfl ?_
        refine zv_idiv hx hb (by omega) (by omega) (by omega) (by omega) d_R_add_32 ?_
        refine lv_istore_n (lv' := [(2, .int (iI ((((h i) + (g i)) + c) / 10000))), (4, .int (iI (((h i) + (g i)) + c))), (0, .ref (ad E q)), (1, .ref (ad E r)), (3, .int (iI i))]) hx hb d_R_add_33 rfl hl (by decide) rfl (fun ls hl => ?_)
        refine lv_aload_n hx hb d_R_add_34 rfl (lv_at hl 2 rfl) ?_
        refine lv_iload_n hx hb d_R_add_35 rfl (lv_at hl 4 rfl) ?_
        refine lv_iload hx hb d_R_add_36 (lv_at hl 1 rfl) ?_
        refine zv_sipush hx hb d_R_add_38 rfl ?_
        refine zv_irem hx hb (by omega) (by omega) (by omega) (by omega) d_R_add_41 ?_
        refine zv_iast hx hb hK hH q0lt e4 (by omega) (by omega) (by omega) d_R_add_42 (fun H12 lc13 w11 hH14 e15 hg16 => ?_)
        have bd17 := bd_up bh i ((((h i) + (g i)) + c) % 10000) (by omega)
        have e18 : w11 r = zar E N g := (hg16 r (by omega)).trans e5
        have hf19 : ∀ k, k ≠ q → w11 k = w0 k := fun k g0 => (hg16 k g0).trans (hf6 k g0)
        refine zv_iinc (k := 4) (lv' := [(3, .int (iI (i + 1))), (2, .int (iI ((((h i) + (g i)) + c) / 10000))), (4, .int (iI (((h i) + (g i)) + c))), (0, .ref (ad E q)), (1, .ref (ad E r))]) hx hb d_R_add_43 hl rfl (by decide) rfl (fun ls hl => ?_)
        refine lv_goto (tgt := 4) hx hb d_R_add_46 rfl ?_
        exact ih  (i + 1) ((((h i) + (g i)) + c) / 10000) (up h i ((((h i) + (g i)) + c) % 10000)) _ H12 lc13 w11 (lv_sub hl [3, 4, 1, 0] rfl) hH14 e15 e18 (fun k g0 => hf19 k g0) (by assumption) (by omega) (by omega) (ks_step hs) (add_step hi.1 (hs i (by omega)) hv) (by omega)
  exact L4 (((N : Int) - 0 : Int).toNat + 1) 0 0 f _ s.heap ([]) w0 (lv_sub hl [2, 3, 1, 0] rfl) hH c0 c1 (fun k _ => rfl) (by exact bf) (by omega) (by omega) (by intro j _; rfl) (by rfl) (by omega)
def rm_addAA : Room := { frames := 0, cells := 0, slots := 0, locals := 0 }
set_option maxHeartbeats 4000000 in
set_option maxRecDepth 100000 in
theorem c_addAA (l : Launch) (E : zE) (w0 : zW) (q N : Nat) (f : Int → Int) (q0lt : q < zn E) (c0 : w0 q = zar E N f) (hN : 0 < N ∧ N < 100000) (bf : bd f N 0 9999) : zM l y_R_add ws_R_add rm_addAA E [.ref (ad E q), .ref (ad E q)] w0 (zQv E w0 (fun w' => (∃ (f' : Int → Int), w' q = zar E N f' ∧ bd f' N 0 9999 ∧ (V f' N = (V f N + V f N) % Bp N)) ∧ ∀ k, k ≠ q → w' k = w0 k)) := by
  refine z_met (cc := b_R_add) (maxL := 5) (ret := none) (by decide +kernel) rfl (Nat.le_of_ble_eq_true rfl) ?_
  intro p e s m below meth cd ls a Qf hQ hC hl hH
  obtain ⟨hF, hr, hlk, hK, hG, hn⟩ := hC
  obtain ⟨hx, hb, hml, hown, hts⟩ := hF
  have hg : ∀ w ∈ GW, w.before a s = true := fun w h => hts w (List.mem_cons_of_mem _ h)
  have hA : ∀ q, s.heap.size ≤ q → va_A (wl E w0) s.heap.size q := fun q h => Or.inr h
  have hl : lv_has ls 5 [(0, .ref (ad E q)), (1, .ref (ad E q))] := hl
  refine zv_iconst hx hb d_R_add_0 ?_
  refine lv_istore_n (lv' := [(2, .int (iI 0)), (0, .ref (ad E q)), (1, .ref (ad E q))]) hx hb d_R_add_1 rfl hl (by decide) rfl (fun ls hl => ?_)
  refine zv_iconst hx hb d_R_add_2 ?_
  refine lv_istore_n (lv' := [(3, .int (iI 0)), (2, .int (iI 0)), (0, .ref (ad E q)), (1, .ref (ad E q))]) hx hb d_R_add_3 rfl hl (by decide) rfl (fun ls hl => ?_)
  have L4 : ∀ (fu : Nat) (i : Int) (c : Int) (h : Int → Int) (ls : Array Slot) (H1 : Heap) (lc2 : List Loc) (w3 : zW), (lv_has ls 5 [(0, .ref (ad E q)), (1, .ref (ad E q)), (2, .int (iI c)), (3, .int (iI i))]) → (zH E w3 (va_A (wl E w0) s.heap.size) s.heap H1 lc2) → (w3 q = zar E N h) → (∀ k, k ≠ q → w3 k = w0 k) → (bd h N 0 9999) → (0 ≤ i ∧ i ≤ N) → (0 ≤ c ∧ c ≤ 1) → (∀ j, i ≤ j → h j = f j) → (V h i + c * Bp i = V f i + V f i) → ((N : Int) - i < (fu : Int)) → W p l e rm_addAA s m a below meth cd H1 lc2 0 0 Qf (F0 m 4 ls []) := by
    intro fu
    induction fu with
    | zero => intro i c h ls H1 lc2 w3 hl hH e4 hf5 bh hi hc hs hv hm; exact absurd hm (by omega)
    | succ fu ih =>
      intro i c h ls H1 lc2 w3 hl hH e4 hf5 bh hi hc hs hv hm
      refine lv_iload_n hx hb d_R_add_4 rfl (lv_at hl 3 rfl) ?_
      refine lv_aload_n hx hb d_R_add_5 rfl (lv_at hl 0 rfl) ?_
      refine zv_alen hx hb hK hH q0lt e4 d_R_add_6 ?_
      refine zv_icmp_ge (tgt := 49) hx hb d_R_add_7 rfl (by omega) (by omega) (fun h6 => ?_) (fun h6 => ?_)
      · have e9 : i = N := by omega
        have b9 := V_in bh (Int.le_of_lt (by omega : (0 : Int) < N)) (Int.le_refl (N : Int))
        subst e9
        rw [hQ]
        exact z_vret hx hb hr hlk hH (⟨⟨h, e4, bh, md_of hv b9.1 b9.2⟩, (fun k g0 => hf5 k g0)⟩) d_R_add_49
      · refine lv_iload_n hx hb d_R_add_10 rfl (lv_at hl 3 rfl) ?_
        refine lv_aload_n hx hb d_R_add_11 rfl (lv_at hl 1 rfl) ?_
        refine zv_alen hx hb hK hH q0lt e4 d_R_add_12 ?_
        refine zv_icmp_ge (tgt := 49) hx hb d_R_add_13 rfl (by omega) (by omega) (fun h7 => absurd h7 (by omega)) (fun h7 => ?_)
        refine lv_aload_n hx hb d_R_add_16 rfl (lv_at hl 0 rfl) ?_
        refine lv_iload_n hx hb d_R_add_17 rfl (lv_at hl 3 rfl) ?_
        refine zv_iald hx hb hK hH q0lt e4 (by omega) (by omega) (by omega) d_R_add_18 ?_
        have b8 := bh i (by omega) (by omega)
        refine lv_aload_n hx hb d_R_add_19 rfl (lv_at hl 1 rfl) ?_
        refine lv_iload_n hx hb d_R_add_20 rfl (lv_at hl 3 rfl) ?_
        refine zv_iald hx hb hK hH q0lt e4 (by omega) (by omega) (by omega) d_R_add_21 ?_
        have b9 := bh i (by omega) (by omega)
        refine zv_iadd hx hb d_R_add_22 ?_
        refine lv_iload_n hx hb d_R_add_23 rfl (lv_at hl 2 rfl) ?_
        refine zv_iadd hx hb d_R_add_24 ?_
        refine lv_istore (lv' := [(4, .int (iI (((h i) + (h i)) + c))), (0, .ref (ad E q)), (1, .ref (ad E q)), (2, .int (iI c)), (3, .int (iI i))]) hx hb d_R_add_25 hl (by decide) rfl (fun ls hl => ?_)
        refine lv_iload hx hb d_R_add_27 (lv_at hl 0 rfl) ?_
        refine zv_sipush hx hb d_R_add_29 rfl ?_
        refine zv_idiv hx hb (by omega) (by omega) (by omega) (by omega) d_R_add_32 ?_
        refine lv_istore_n (lv' := [(2, .int (iI ((((h i) + (h i)) + c) / 10000))), (4, .int (iI (((h i) + (h i)) + c))), (0, .ref (ad E q)), (1, .ref (ad E q)), (3, .int (iI i))]) hx hb d_R_add_33 rfl hl (by decide) rfl (fun ls hl => ?_)
        refine lv_aload_n hx hb d_R_add_34 rfl (lv_at hl 2 rfl) ?_
        refine lv_iload_n hx hb d_R_add_35 rfl (lv_at hl 4 rfl) ?_
        refine lv_iload hx hb d_R_add_36 (lv_at hl 1 rfl) ?_
        refine zv_sipush hx hb d_R_add_38 rfl ?_
        refine zv_irem hx hb (by omega) (by omega) (by omega) (by omega) d_R_add_41 ?_
        refine zv_iast hx hb hK hH q0lt e4 (by omega) (by omega) (by omega) d_R_add_42 (fun H11 lc12 w10 hH13 e14 hg15 => ?_)
        have bd16 := bd_up bh i ((((h i) + (h i)) + c) % 10000) (by omega)
        have hf17 : ∀ k, k ≠ q → w10 k = w0 k := fun k g0 => (hg15 k g0).trans (hf5 k g0)
        refine zv_iinc (k := 4) (lv' := [(3, .int (iI (i + 1))), (2, .int (iI ((((h i) + (h i)) + c) / 10000))), (4, .int (iI (((h i) + (h i)) + c))), (0, .ref (ad E q)), (1, .ref (ad E q))]) hx hb d_R_add_43 hl rfl (by decide) rfl (fun ls hl => ?_)
        refine lv_goto (tgt := 4) hx hb d_R_add_46 rfl ?_
        exact ih  (i + 1) ((((h i) + (h i)) + c) / 10000) (up h i ((((h i) + (h i)) + c) % 10000)) _ H11 lc12 w10 (lv_sub hl [3, 4, 1, 0] rfl) hH13 e14 (fun k g0 => hf17 k g0) (by assumption) (by omega) (by omega) (ks_step hs) (addAA_step hi.1 (hs i (by omega)) hv) (by omega)
  exact L4 (((N : Int) - 0 : Int).toNat + 1) 0 0 f _ s.heap ([]) w0 (lv_sub hl [2, 3, 1, 0] rfl) hH c0 (fun k _ => rfl) (by exact bf) (by omega) (by omega) (by intro j _; rfl) (by rfl) (by omega)
def rm_subG : Room := { frames := 0, cells := 0, slots := 0, locals := 0 }
set_option maxHeartbeats 4000000 in
set_option maxRecDepth 100000 in
theorem c_subG (l : Launch) (E : zE) (w0 : zW) (q r N : Nat) (f g : Int → Int) (q0lt : q < zn E) (q1lt : r < zn E) (c0 : w0 q = zar E N f) (c1 : w0 r = zar E N g) (hN : 0 < N ∧ N < 100000) (bf : bd f N 0 9999) (bg : bd g N 0 9999) (hqr : q ≠ r) : zM l y_R_subtract ws_R_subtract rm_subG E [.ref (ad E q), .ref (ad E q), .ref (ad E r)] w0 (zQv E w0 (fun w' => (∃ (f' : Int → Int), w' q = zar E N f' ∧ bd f' N 0 9999 ∧ (V f' N = (V f N - V g N) % Bp N)) ∧ ∀ k, k ≠ q → w' k = w0 k)) := by
  refine z_met (cc := b_R_subtract) (maxL := 6) (ret := none) (by decide +kernel) rfl (Nat.le_of_ble_eq_true rfl) ?_
  intro p e s m below meth cd ls a Qf hQ hC hl hH
  obtain ⟨hF, hr, hlk, hK, hG, hn⟩ := hC
  obtain ⟨hx, hb, hml, hown, hts⟩ := hF
  have hg : ∀ w ∈ GW, w.before a s = true := fun w h => hts w (List.mem_cons_of_mem _ h)
  have hA : ∀ q, s.heap.size ≤ q → va_A (wl E w0) s.heap.size q := fun q h => Or.inr h
  have hl : lv_has ls 6 [(0, .ref (ad E q)), (1, .ref (ad E q)), (2, .ref (ad E r))] := hl
  refine zv_iconst hx hb d_R_subtract_0 ?_
  refine lv_istore_n (lv' := [(3, .int (iI 0)), (0, .ref (ad E q)), (1, .ref (ad E q)), (2, .ref (ad E r))]) hx hb d_R_subtract_1 rfl hl (by decide) rfl (fun ls hl => ?_)
  refine zv_iconst hx hb d_R_subtract_2 ?_
  refine lv_istore (lv' := [(4, .int (iI 0)), (3, .int (iI 0)), (0, .ref (ad E q)), (1, .ref (ad E q)), (2, .ref (ad E r))]) hx hb d_R_subtract_3 hl (by decide) rfl (fun ls hl => ?_)
  have L5 : ∀ (fu : Nat) (i : Int) (c : Int) (h : Int → Int) (ls : Array Slot) (H1 : Heap) (lc2 : List Loc) (w3 : zW), (lv_has ls 6 [(0, .ref (ad E q)), (1, .ref (ad E q)), (2, .ref (ad E r)), (3, .int (iI c)), (4, .int (iI i))]) → (zH E w3 (va_A (wl E w0) s.heap.size) s.heap H1 lc2) → (w3 q = zar E N h) → (w3 r = zar E N g) → (∀ k, k ≠ q → w3 k = w0 k) → (bd h N 0 9999) → (0 ≤ i ∧ i ≤ N) → (0 ≤ c ∧ c ≤ 1) → (∀ j, i ≤ j → h j = f j) → (V h i - c * Bp i = V f i - V g i) → ((N : Int) - i < (fu : Int)) → W p l e rm_subG s m a below meth cd H1 lc2 0 0 Qf (F0 m 5 ls []) := by
    intro fu
    induction fu with
    | zero => intro i c h ls H1 lc2 w3 hl hH e4 e5 hf6 bh hi hc hs hv hm; exact absurd hm (by omega)
    | succ fu ih =>
      intro i c h ls H1 lc2 w3 hl hH e4 e5 hf6 bh hi hc hs hv hm
      refine lv_iload hx hb d_R_subtract_5 (lv_at hl 4 rfl) ?_
      refine lv_aload_n hx hb d_R_subtract_7 rfl (lv_at hl 0 rfl) ?_
      refine zv_alen hx hb hK hH q0lt e4 d_R_subtract_8 ?_
      refine zv_icmp_ge (tgt := 68) hx hb d_R_subtract_9 rfl (by omega) (by omega) (fun h7 => ?_) (fun h7 => ?_)
      · have e9 : i = N := by omega
        have b9 := V_in bh (Int.le_of_lt (by omega : (0 : Int) < N)) (Int.le_refl (N : Int))
        subst e9
        rw [hQ]
        exact z_vret hx hb hr hlk hH (⟨⟨h, e4, bh, md_of (c := -c) (by rw [Int.neg_mul]; omega) b9.1 b9.2⟩, (fun k g0 => hf6 k g0)⟩) d_R_subtract_68
      · refine lv_iload hx hb d_R_subtract_12 (lv_at hl 4 rfl) ?_
        refine lv_aload_n hx hb d_R_subtract_14 rfl (lv_at hl 1 rfl) ?_
        refine zv_alen hx hb hK hH q0lt e4 d_R_subtract_15 ?_
        refine zv_icmp_ge (tgt := 68) hx hb d_R_subtract_16 rfl (by omega) (by omega) (fun h8 => absurd h8 (by omega)) (fun h8 => ?_)
        refine lv_iload hx hb d_R_subtract_19 (lv_at hl 4 rfl) ?_
        refine lv_aload_n hx hb d_R_subtract_21 rfl (lv_at hl 2 rfl) ?_
        refine zv_alen hx hb hK hH q1lt e5 d_R_subtract_22 ?_
        refine zv_icmp_ge (tgt := 68) hx hb d_R_subtract_23 rfl (by omega) (by omega) (fun h9 => absurd h9 (by omega)) (fun h9 => ?_)
        refine lv_aload_n hx hb d_R_subtract_26 rfl (lv_at hl 1 rfl) ?_
        refine lv_iload hx hb d_R_subtract_27 (lv_at hl 4 rfl) ?_
        refine zv_iald hx hb hK hH q0lt e4 (by omega) (by omega) (by omega) d_R_subtract_29 ?_
        have b10 := bh i (by omega) (by omega)
        refine lv_aload_n hx hb d_R_subtract_30 rfl (lv_at hl 2 rfl) ?_
        refine lv_iload hx hb d_R_subtract_31 (lv_at hl 4 rfl) ?_
        refine zv_iald hx hb hK hH q1lt e5 (by omega) (by omega) (by omega) d_R_subtract_33 ?_
        have b11 := bg i (by omega) (by omega)
        refine zv_isub hx hb d_R_subtract_34 ?_
        refine lv_iload_n hx hb d_R_subtract_35 rfl (lv_at hl 3 rfl) ?_
        refine zv_isub hx hb d_R_subtract_36 ?_
        refine lv_istore (lv' := [(5, .int (iI (((h i) - (g i)) - c))), (0, .ref (ad E q)), (1, .ref (ad E q)), (2, .ref (ad E r)), (3, .int (iI c)), (4, .int (iI i))]) hx hb d_R_subtract_37 hl (by decide) rfl (fun ls hl => ?_)
        refine lv_iload hx hb d_R_subtract_39 (lv_at hl 0 rfl) ?_
        refine zv_if_ge (tgt := 48) hx hb d_R_subtract_41 rfl (by omega) (fun h12 => ?_) (fun h12 => ?_)
        · refine zv_iconst hx hb d_R_subtract_48 ?_
          refine lv_istore_n (lv' := [(3, .int (iI 0)), (5, .int (iI (((h i) - (g i)) - c))), (0, .ref (ad E q)), (1, .ref (ad E q)), (2, .ref (ad E r)), (4, .int (iI i))]) hx hb d_R_subtract_49 rfl hl (by decide) rfl (fun ls hl => ?_)
          refine lv_aload_n hx hb d_R_subtract_50 rfl (lv_at hl 2 rfl) ?_
          refine lv_iload hx hb d_R_subtract_51 (lv_at hl 5 rfl) ?_
          refine lv_iload hx hb d_R_subtract_53 (lv_at hl 1 rfl) ?_
          refine lv_iload_n hx hb d_R_subtract_55 rfl (lv_at hl 0 rfl) ?_
          refine zv_sipush hx hb d_R_subtract_56 rfl ?_
          refine zv_imul hx hb d_R_subtract_59 ?_
          refine zv_iadd hx hb d_R_subtract_60 ?_
          refine zv_iast hx hb hK hH q0lt e4 (by omega) (by omega) (by omega) d_R_subtract_61 (fun H14 lc15 w13 hH16 e17 hg18 => ?_)
          have bd19 := bd_up bh i ((((h i) - (g i)) - c) + (0 * 10000)) (by omega)
          have e20 : w13 r = zar E N g := (hg18 r (by omega)).trans e5
          have hf21 : ∀ k, k ≠ q → w13 k = w0 k := fun k g0 => (hg18 k g0).trans (hf6 k g0)
          refine zv_iinc (k := 5) (lv' := [(4, .int (iI (i + 1))), (3, .int (iI 0)), (5, .int (iI (((h i) - (g i)) - c))), (0, .ref (ad E q)), (1, .ref (ad E q)), (2, .ref (ad E r))]) hx hb d_R_subtract_62 hl rfl (by decide) rfl (fun ls hl => ?_)
          refine lv_goto (tgt := 5) hx hb d_R_subtract_65 rfl ?_
          exact ih  (i + 1) 0 (up h i ((((h i) - (g i)) - c) + (0 * 10000))) _ H14 lc15 w13 (lv_sub hl [3, 4, 5, 1, 0] rfl) hH16 e17 e20 (fun k g0 => hf21 k g0) (by assumption) (by omega) (by omega) (ks_step hs) (sub_step hi.1 (by rw [hs i (by omega)]) hv) (by omega)
        · refine zv_iconst hx hb d_R_subtract_44 ?_
          refine lv_goto (tgt := 49) hx hb d_R_subtract_45 rfl ?_
          refine lv_istore_n (lv' := [(3, .int (iI 1)), (5, .int (iI (((h i) - (g i)) - c))), (0, .ref (ad E q)), (1, .ref (ad E q)), (2, .ref (ad E r)), (4, .int (iI i))]) hx hb d_R_subtract_49 rfl hl (by decide) rfl (fun ls hl => ?_)
          refine lv_aload_n hx hb d_R_subtract_50 rfl (lv_at hl 2 rfl) ?_
          refine lv_iload hx hb d_R_subtract_51 (lv_at hl 5 rfl) ?_
          refine lv_iload hx hb d_R_subtract_53 (lv_at hl 1 rfl) ?_
          refine lv_iload_n hx hb d_R_subtract_55 rfl (lv_at hl 0 rfl) ?_
          refine zv_sipush hx hb d_R_subtract_56 rfl ?_
          refine zv_imul hx hb d_R_subtract_59 ?_
          refine zv_iadd hx hb d_R_subtract_60 ?_
          refine zv_iast hx hb hK hH q0lt e4 (by omega) (by omega) (by omega) d_R_subtract_61 (fun H23 lc24 w22 hH25 e26 hg27 => ?_)
          have bd28 := bd_up bh i ((((h i) - (g i)) - c) + (1 * 10000)) (by omega)
          have e29 : w22 r = zar E N g := (hg27 r (by omega)).trans e5
          have hf30 : ∀ k, k ≠ q → w22 k = w0 k := fun k g0 => (hg27 k g0).trans (hf6 k g0)
          refine zv_iinc (k := 5) (lv' := [(4, .int (iI (i + 1))), (3, .int (iI 1)), (5, .int (iI (((h i) - (g i)) - c))), (0, .ref (ad E q)), (1, .ref (ad E q)), (2, .ref (ad E r))]) hx hb d_R_subtract_62 hl rfl (by decide) rfl (fun ls hl => ?_)
          refine lv_goto (tgt := 5) hx hb d_R_subtract_65 rfl ?_
          exact ih  (i + 1) 1 (up h i ((((h i) - (g i)) - c) + (1 * 10000))) _ H23 lc24 w22 (lv_sub hl [3, 4, 5, 1, 0] rfl) hH25 e26 e29 (fun k g0 => hf30 k g0) (by assumption) (by omega) (by omega) (ks_step hs) (sub_step hi.1 (by rw [hs i (by omega)]) hv) (by omega)
  exact L5 (((N : Int) - 0 : Int).toNat + 1) 0 0 f _ s.heap ([]) w0 (lv_sub hl [2, 3, 4, 1, 0] rfl) hH c0 c1 (fun k _ => rfl) (by exact bf) (by omega) (by omega) (by intro j _; rfl) (by rfl) (by omega)
def rm_subS : Room := { frames := 0, cells := 0, slots := 0, locals := 0 }
set_option maxHeartbeats 4000000 in
set_option maxRecDepth 100000 in
theorem c_subS (l : Launch) (E : zE) (w0 : zW) (q r N : Nat) (f g : Int → Int) (q0lt : q < zn E) (q1lt : r < zn E) (c0 : w0 q = zar E N f) (c1 : w0 r = zar E N g) (hN : 0 < N ∧ N < 100000) (bf : bd f N 0 9999) (bg : bd g N 0 9999) (hqr : q ≠ r) : zM l y_R_subtract ws_R_subtract rm_subS E [.ref (ad E q), .ref (ad E r), .ref (ad E q)] w0 (zQv E w0 (fun w' => (∃ (f' : Int → Int), w' q = zar E N f' ∧ bd f' N 0 9999 ∧ (V f' N = (V g N - V f N) % Bp N)) ∧ ∀ k, k ≠ q → w' k = w0 k)) := by
  refine z_met (cc := b_R_subtract) (maxL := 6) (ret := none) (by decide +kernel) rfl (Nat.le_of_ble_eq_true rfl) ?_
  intro p e s m below meth cd ls a Qf hQ hC hl hH
  obtain ⟨hF, hr, hlk, hK, hG, hn⟩ := hC
  obtain ⟨hx, hb, hml, hown, hts⟩ := hF
  have hg : ∀ w ∈ GW, w.before a s = true := fun w h => hts w (List.mem_cons_of_mem _ h)
  have hA : ∀ q, s.heap.size ≤ q → va_A (wl E w0) s.heap.size q := fun q h => Or.inr h
  have hl : lv_has ls 6 [(0, .ref (ad E q)), (1, .ref (ad E r)), (2, .ref (ad E q))] := hl
  refine zv_iconst hx hb d_R_subtract_0 ?_
  refine lv_istore_n (lv' := [(3, .int (iI 0)), (0, .ref (ad E q)), (1, .ref (ad E r)), (2, .ref (ad E q))]) hx hb d_R_subtract_1 rfl hl (by decide) rfl (fun ls hl => ?_)
  refine zv_iconst hx hb d_R_subtract_2 ?_
  refine lv_istore (lv' := [(4, .int (iI 0)), (3, .int (iI 0)), (0, .ref (ad E q)), (1, .ref (ad E r)), (2, .ref (ad E q))]) hx hb d_R_subtract_3 hl (by decide) rfl (fun ls hl => ?_)
  have L5 : ∀ (fu : Nat) (i : Int) (c : Int) (h : Int → Int) (ls : Array Slot) (H1 : Heap) (lc2 : List Loc) (w3 : zW), (lv_has ls 6 [(0, .ref (ad E q)), (1, .ref (ad E r)), (2, .ref (ad E q)), (3, .int (iI c)), (4, .int (iI i))]) → (zH E w3 (va_A (wl E w0) s.heap.size) s.heap H1 lc2) → (w3 q = zar E N h) → (w3 r = zar E N g) → (∀ k, k ≠ q → w3 k = w0 k) → (bd h N 0 9999) → (0 ≤ i ∧ i ≤ N) → (0 ≤ c ∧ c ≤ 1) → (∀ j, i ≤ j → h j = f j) → (V h i - c * Bp i = V g i - V f i) → ((N : Int) - i < (fu : Int)) → W p l e rm_subS s m a below meth cd H1 lc2 0 0 Qf (F0 m 5 ls []) := by
    intro fu
    induction fu with
    | zero => intro i c h ls H1 lc2 w3 hl hH e4 e5 hf6 bh hi hc hs hv hm; exact absurd hm (by omega)
    | succ fu ih =>
      intro i c h ls H1 lc2 w3 hl hH e4 e5 hf6 bh hi hc hs hv hm
      refine lv_iload hx hb d_R_subtract_5 (lv_at hl 4 rfl) ?_
      refine lv_aload_n hx hb d_R_subtract_7 rfl (lv_at hl 0 rfl) ?_
      refine zv_alen hx hb hK hH q0lt e4 d_R_subtract_8 ?_
      refine zv_icmp_ge (tgt := 68) hx hb d_R_subtract_9 rfl (by omega) (by omega) (fun h7 => ?_) (fun h7 => ?_)
      · have e9 : i = N := by omega
        have b9 := V_in bh (Int.le_of_lt (by omega : (0 : Int) < N)) (Int.le_refl (N : Int))
        subst e9
        rw [hQ]
        exact z_vret hx hb hr hlk hH (⟨⟨h, e4, bh, md_of (c := -c) (by rw [Int.neg_mul]; omega) b9.1 b9.2⟩, (fun k g0 => hf6 k g0)⟩) d_R_subtract_68
      · refine lv_iload hx hb d_R_subtract_12 (lv_at hl 4 rfl) ?_
        refine lv_aload_n hx hb d_R_subtract_14 rfl (lv_at hl 1 rfl) ?_
        refine zv_alen hx hb hK hH q1lt e5 d_R_subtract_15 ?_
        refine zv_icmp_ge (tgt := 68) hx hb d_R_subtract_16 rfl (by omega) (by omega) (fun h8 => absurd h8 (by omega)) (fun h8 => ?_)
        refine lv_iload hx hb d_R_subtract_19 (lv_at hl 4 rfl) ?_
        refine lv_aload_n hx hb d_R_subtract_21 rfl (lv_at hl 2 rfl) ?_
        refine zv_alen hx hb hK hH q0lt e4 d_R_subtract_22 ?_
        refine zv_icmp_ge (tgt := 68) hx hb d_R_subtract_23 rfl (by omega) (by omega) (fun h9 => absurd h9 (by omega)) (fun h9 => ?_)
        refine lv_aload_n hx hb d_R_subtract_26 rfl (lv_at hl 1 rfl) ?_
        refine lv_iload hx hb d_R_subtract_27 (lv_at hl 4 rfl) ?_
        refine zv_iald hx hb hK hH q1lt e5 (by omega) (by omega) (by omega) d_R_subtract_29 ?_
        have b10 := bg i (by omega) (by omega)
        refine lv_aload_n hx hb d_R_subtract_30 rfl (lv_at hl 2 rfl) ?_
        refine lv_iload hx hb d_R_subtract_31 (lv_at hl 4 rfl) ?_
        refine zv_iald hx hb hK hH q0lt e4 (by omega) (by omega) (by omega) d_R_subtract_33 ?_
        have b11 := bh i (by omega) (by omega)
        refine zv_isub hx hb d_R_subtract_34 ?_
        refine lv_iload_n hx hb d_R_subtract_35 rfl (lv_at hl 3 rfl) ?_
        refine zv_isub hx hb d_R_subtract_36 ?_
        refine lv_istore (lv' := [(5, .int (iI (((g i) - (h i)) - c))), (0, .ref (ad E q)), (1, .ref (ad E r)), (2, .ref (ad E q)), (3, .int (iI c)), (4, .int (iI i))]) hx hb d_R_subtract_37 hl (by decide) rfl (fun ls hl => ?_)
        refine lv_iload hx hb d_R_subtract_39 (lv_at hl 0 rfl) ?_
        refine zv_if_ge (tgt := 48) hx hb d_R_subtract_41 rfl (by omega) (fun h12 => ?_) (fun h12 => ?_)
        · refine zv_iconst hx hb d_R_subtract_48 ?_
          refine lv_istore_n (lv' := [(3, .int (iI 0)), (5, .int (iI (((g i) - (h i)) - c))), (0, .ref (ad E q)), (1, .ref (ad E r)), (2, .ref (ad E q)), (4, .int (iI i))]) hx hb d_R_subtract_49 rfl hl (by decide) rfl (fun ls hl => ?_)
          refine lv_aload_n hx hb d_R_subtract_50 rfl (lv_at hl 2 rfl) ?_
          refine lv_iload hx hb d_R_subtract_51 (lv_at hl 5 rfl) ?_
          refine lv_iload hx hb d_R_subtract_53 (lv_at hl 1 rfl) ?_
          refine lv_iload_n hx hb d_R_subtract_55 rfl (lv_at hl 0 rfl) ?_
          refine zv_sipush hx hb d_R_subtract_56 rfl ?_
          refine zv_imul hx hb d_R_subtract_59 ?_
          refine zv_iadd hx hb d_R_subtract_60 ?_
          refine zv_iast hx hb hK hH q0lt e4 (by omega) (by omega) (by omega) d_R_subtract_61 (fun H14 lc15 w13 hH16 e17 hg18 => ?_)
          have bd19 := bd_up bh i ((((g i) - (h i)) - c) + (0 * 10000)) (by omega)
          have e20 : w13 r = zar E N g := (hg18 r (by omega)).trans e5
          have hf21 : ∀ k, k ≠ q → w13 k = w0 k := fun k g0 => (hg18 k g0).trans (hf6 k g0)
          refine zv_iinc (k := 5) (lv' := [(4, .int (iI (i + 1))), (3, .int (iI 0)), (5, .int (iI (((g i) - (h i)) - c))), (0, .ref (ad E q)), (1, .ref (ad E r)), (2, .ref (ad E q))]) hx hb d_R_subtract_62 hl rfl (by decide) rfl (fun ls hl => ?_)
          refine lv_goto (tgt := 5) hx hb d_R_subtract_65 rfl ?_
          exact ih  (i + 1) 0 (up h i ((((g i) - (h i)) - c) + (0 * 10000))) _ H14 lc15 w13 (lv_sub hl [3, 4, 5, 1, 0] rfl) hH16 e17 e20 (fun k g0 => hf21 k g0) (by assumption) (by omega) (by omega) (ks_step hs) (sub_step hi.1 (by rw [hs i (by omega)]) hv) (by omega)
        · refine zv_iconst hx hb d_R_subtract_44 ?_
          refine lv_goto (tgt := 49) hx hb d_R_subtract_45 rfl ?_
          refine lv_istore_n (lv' := [(3, .int (iI 1)), (5, .int (iI (((g i) - (h i)) - c))), (0, .ref (ad E q)), (1, .ref (ad E r)), (2, .ref (ad E q)), (4, .int (iI i))]) hx hb d_R_subtract_49 rfl hl (by decide) rfl (fun ls hl => ?_)
          refine lv_aload_n hx hb d_R_subtract_50 rfl (lv_at hl 2 rfl) ?_
          refine lv_iload hx hb d_R_subtract_51 (lv_at hl 5 rfl) ?_
          refine lv_iload hx hb d_R_subtract_53 (lv_at hl 1 rfl) ?_
          refine lv_iload_n hx hb d_R_subtract_55 rfl (lv_at hl 0 rfl) ?_
          refine zv_sipush hx hb d_R_subtract_56 rfl ?_
          refine zv_imul hx hb d_R_subtract_59 ?_
          refine zv_iadd hx hb d_R_subtract_60 ?_
          refine zv_iast hx hb hK hH q0lt e4 (by omega) (by omega) (by omega) d_R_subtract_61 (fun H23 lc24 w22 hH25 e26 hg27 => ?_)
          have bd28 := bd_up bh i ((((g i) - (h i)) - c) + (1 * 10000)) (by omega)
          have e29 : w22 r = zar E N g := (hg27 r (by omega)).trans e5
          have hf30 : ∀ k, k ≠ q → w22 k = w0 k := fun k g0 => (hg27 k g0).trans (hf6 k g0)
          refine zv_iinc (k := 5) (lv' := [(4, .int (iI (i + 1))), (3, .int (iI 1)), (5, .int (iI (((g i) - (h i)) - c))), (0, .ref (ad E q)), (1, .ref (ad E r)), (2, .ref (ad E q))]) hx hb d_R_subtract_62 hl rfl (by decide) rfl (fun ls hl => ?_)
          refine lv_goto (tgt := 5) hx hb d_R_subtract_65 rfl ?_
          exact ih  (i + 1) 1 (up h i ((((g i) - (h i)) - c) + (1 * 10000))) _ H23 lc24 w22 (lv_sub hl [3, 4, 5, 1, 0] rfl) hH25 e26 e29 (fun k g0 => hf30 k g0) (by assumption) (by omega) (by omega) (ks_step hs) (sub_step hi.1 (by rw [hs i (by omega)]) hv) (by omega)
  exact L5 (((N : Int) - 0 : Int).toNat + 1) 0 0 f _ s.heap ([]) w0 (lv_sub hl [2, 3, 4, 1, 0] rfl) hH c0 c1 (fun k _ => rfl) (by exact bf) (by omega) (by omega) (by intro j _; rfl) (by rfl) (by omega)
def rm_order : Room := { frames := 1, cells := 0, slots := 0, locals := 21 }
set_option maxHeartbeats 4000000 in
set_option maxRecDepth 100000 in
theorem c_order (l : Launch) (E : zE) (w0 : zW) (q r N : Nat) (f g : Int → Int) (q0lt : q < zn E) (q1lt : r < zn E) (c0 : w0 q = zar E N f) (c1 : w0 r = zar E N g) (hN : 0 < N ∧ N < 100000) (bf : bd f N 0 9999) (bg : bd g N 0 9999) : zM l y_R_order ws_R_order rm_order E [.ref (ad E q), .ref (ad E r)] w0 (zQi E w0 (fun z w' => w' = w0 ∧ ((z = -1 ∧ V f N < V g N) ∨ (z = 0 ∧ V f N = V g N) ∨ (z = 1 ∧ V g N < V f N)))) := by
  refine z_met (cc := b_R_order) (maxL := 3) (ret := (some .int)) (by decide +kernel) rfl (Nat.le_of_ble_eq_true rfl) ?_
  intro p e s m below meth cd ls a Qf hQ hC hl hH
  obtain ⟨hF, hr, hlk, hK, hG, hn⟩ := hC
  obtain ⟨hx, hb, hml, hown, hts⟩ := hF
  have hg : ∀ w ∈ GW, w.before a s = true := fun w h => hts w (List.mem_cons_of_mem _ h)
  have hA : ∀ q, s.heap.size ≤ q → va_A (wl E w0) s.heap.size q := fun q h => Or.inr h
  have hl : lv_has ls 3 [(0, .ref (ad E q)), (1, .ref (ad E r))] := hl
  refine lv_aload_n hx hb d_R_order_0 rfl (lv_at hl 0 rfl) ?_
  refine zv_alen hx hb hK hH q0lt c0 d_R_order_1 ?_
  refine lv_aload_n hx hb d_R_order_2 rfl (lv_at hl 1 rfl) ?_
  refine zv_alen hx hb hK hH q1lt c1 d_R_order_3 ?_
  refine z_calli (va_runS (As := [.int (iI ((N : Int))), .int (iI ((N : Int)))]) (rest := []) ⟨hx, hb, hml, hown, hts⟩ (c_min (l := l) (E := E) (w0 := w0) (x := (N : Int)) (y := (N : Int)) (zx := by omega) (zy := by omega) s.heap.size) (z_cwS 2 hg wm_279 wm_395 wm_15 wm_278 (by decide +kernel) ⟨Nat.le_of_ble_eq_true rfl, Nat.le_of_ble_eq_true rfl⟩) (z_preS hK hG hn hH hA) rfl rfl hl.1 rfl (lv_room (Nat.le_of_ble_eq_true rfl)) d_R_order_4 ⟨Nat.zero_le _, Nat.zero_le _⟩) hH hA (fun z6 w3 H1 lc2 hH4 hp5 => ?_)
  obtain ⟨ew7, hp5⟩ := hp5
  rw [ew7] at hH4
  replace hp5 : z6 = min ((N : Int)) ((N : Int)) := hp5
  refine zv_iconst hx hb d_R_order_7 ?_
  refine zv_isub hx hb d_R_order_8 ?_
  refine lv_istore_n (lv' := [(2, .int (iI (z6 - 1))), (0, .ref (ad E q)), (1, .ref (ad E r))]) hx hb d_R_order_9 rfl hl (by decide) rfl (fun ls hl => ?_)
  have L10 : ∀ (fu : Nat) (t : Int) (ls : Array Slot) (H8 : Heap) (lc9 : List Loc), (lv_has ls 3 [(2, .int (iI t)), (0, .ref (ad E q)), (1, .ref (ad E r))]) → (zH E w0 (va_A (wl E w0) s.heap.size) s.heap H8 lc9) → (-1 ≤ t ∧ t < N) → (∀ j, t < j → j < N → f j = g j) → (t + 1 < (fu : Int)) → W p l e rm_order s m a below meth cd H8 lc9 0 0 Qf (F0 m 10 ls []) := by
    intro fu
    induction fu with
    | zero => intro t ls H8 lc9 hl hH h1 h2 hm; exact absurd hm (by omega)
    | succ fu ih =>
      intro t ls H8 lc9 hl hH h1 h2 hm
      refine lv_iload_n hx hb d_R_order_10 rfl (lv_at hl 0 rfl) ?_
      refine zv_if_lt (tgt := 44) hx hb d_R_order_11 rfl (by omega) (fun h10 => ?_) (fun h10 => ?_)
      · refine zv_iconst hx hb d_R_order_44 ?_
        rw [hQ]
        exact z_iret hx hb hr hlk hH (⟨rfl, Or.inr (Or.inl ⟨rfl, V_eqv (fun j g1 g2 => h2 j (by omega) g2)⟩)⟩) d_R_order_45
      · refine lv_aload_n hx hb d_R_order_14 rfl (lv_at hl 1 rfl) ?_
        refine lv_iload_n hx hb d_R_order_15 rfl (lv_at hl 0 rfl) ?_
        refine zv_iald hx hb hK hH q0lt c0 (by omega) (by omega) (by omega) d_R_order_16 ?_
        have b11 := bf t (by omega) (by omega)
        refine lv_aload_n hx hb d_R_order_17 rfl (lv_at hl 2 rfl) ?_
        refine lv_iload_n hx hb d_R_order_18 rfl (lv_at hl 0 rfl) ?_
        refine zv_iald hx hb hK hH q1lt c1 (by omega) (by omega) (by omega) d_R_order_19 ?_
        have b12 := bg t (by omega) (by omega)
        refine zv_icmp_eq (tgt := 38) hx hb d_R_order_20 rfl (by omega) (by omega) (fun h13 => ?_) (fun h13 => ?_)
        · refine zv_iinc (k := 0) (lv' := [(2, .int (iI (t + (-1)))), (0, .ref (ad E q)), (1, .ref (ad E r))]) hx hb d_R_order_38 hl rfl (by decide) rfl (fun ls hl => ?_)
          refine lv_goto (tgt := 10) hx hb d_R_order_41 rfl ?_
          exact ih  (t + (-1)) _ H8 lc9 (lv_sub hl [0, 1, 2] rfl) hH (by omega) (eq_step h2 (by assumption)) (by omega)
        · refine lv_aload_n hx hb d_R_order_23 rfl (lv_at hl 1 rfl) ?_
          refine lv_iload_n hx hb d_R_order_24 rfl (lv_at hl 0 rfl) ?_
          refine zv_iald hx hb hK hH q0lt c0 (by omega) (by omega) (by omega) d_R_order_25 ?_
          have b14 := bf t (by omega) (by omega)
          refine lv_aload_n hx hb d_R_order_26 rfl (lv_at hl 2 rfl) ?_
          refine lv_iload_n hx hb d_R_order_27 rfl (lv_at hl 0 rfl) ?_
          refine zv_iald hx hb hK hH q1lt c1 (by omega) (by omega) (by omega) d_R_order_28 ?_
          have b15 := bg t (by omega) (by omega)
          refine zv_icmp_ge (tgt := 36) hx hb d_R_order_29 rfl (by omega) (by omega) (fun h16 => ?_) (fun h16 => ?_)
          · refine zv_iconst hx hb d_R_order_36 ?_
            rw [hQ]
            exact z_iret hx hb hr hlk hH (⟨rfl, Or.inr (Or.inr ⟨rfl, V_lt bg bf (by omega) (by omega) (fun j g1 g2 => (h2 j g1 g2).symm) (by omega)⟩)⟩) d_R_order_37
          · refine zv_iconst hx hb d_R_order_32 ?_
            refine lv_goto (tgt := 37) hx hb d_R_order_33 rfl ?_
            rw [hQ]
            exact z_iret hx hb hr hlk hH (⟨rfl, Or.inl ⟨rfl, V_lt bf bg (by omega) (by omega) h2 (by omega)⟩⟩) d_R_order_37
  exact L10 (((z6 - 1) + 1 : Int).toNat + 1) (z6 - 1) _ H1 lc2 (lv_sub hl [0, 1, 2] rfl) hH4 (by omega) (by intro j g1 g2; exact absurd g2 (by omega)) (by omega)
def rm_addOneAt : Room := { frames := 0, cells := 0, slots := 0, locals := 0 }
set_option maxHeartbeats 4000000 in
set_option maxRecDepth 100000 in
theorem c_addOneAt (l : Launch) (E : zE) (w0 : zW) (q N : Nat) (f : Int → Int) (x : Int) (q0lt : q < zn E) (c0 : w0 q = zar E N f) (hN : 0 < N ∧ N < 100000) (bf : bd f N 0 9999) (hp : -1000000 ≤ x ∧ x < N * 4) : zM l y_R_addOneAt ws_R_addOneAt rm_addOneAt E [.ref (ad E q), .int (iI x)] w0 (zQv E w0 (fun w' => (∃ (f' : Int → Int), w' q = zar E N f' ∧ bd f' N 0 9999 ∧ (V f' N = (if x < 0 then V f N else (V f N + Tp x) % Bp N))) ∧ ∀ k, k ≠ q → w' k = w0 k)) := by
  refine z_met (cc := b_R_addOneAt) (maxL := 5) (ret := none) (by decide +kernel) rfl (Nat.le_of_ble_eq_true rfl) ?_
  intro p e s m below meth cd ls a Qf hQ hC hl hH
  obtain ⟨hF, hr, hlk, hK, hG, hn⟩ := hC
  obtain ⟨hx, hb, hml, hown, hts⟩ := hF
  have hg : ∀ w ∈ GW, w.before a s = true := fun w h => hts w (List.mem_cons_of_mem _ h)
  have hA : ∀ q, s.heap.size ≤ q → va_A (wl E w0) s.heap.size q := fun q h => Or.inr h
  have hl : lv_has ls 5 [(0, .ref (ad E q)), (1, .int (iI x))] := hl
  refine lv_iload_n hx hb d_R_addOneAt_0 rfl (lv_at hl 1 rfl) ?_
  refine zv_if_ge (tgt := 5) hx hb d_R_addOneAt_1 rfl (by omega) (fun h1 => ?_) (fun h1 => ?_)
  · refine zv_tens hx hb hG hH hown (hn.1.use rfl) (fun _ h9 => h9) d_R_addOneAt_5 ?_
    refine lv_iload_n hx hb d_R_addOneAt_8 rfl (lv_at hl 1 rfl) ?_
    refine zv_iconst hx hb d_R_addOneAt_9 ?_
    refine zv_irem hx hb (by omega) (by omega) (by omega) (by omega) d_R_addOneAt_10 ?_
    refine zv_tenld hx hb hG hH (by omega) (by omega) d_R_addOneAt_11 ?_
    have b2 := Tp_in (i := x % 4) (by omega) (by omega)
    refine lv_istore_n (lv' := [(2, .int (iI (Tp (x % 4)))), (0, .ref (ad E q)), (1, .int (iI x))]) hx hb d_R_addOneAt_12 rfl hl (by decide) rfl (fun ls hl => ?_)
    refine lv_iload_n hx hb d_R_addOneAt_13 rfl (lv_at hl 2 rfl) ?_
    refine zv_iconst hx hb d_R_addOneAt_14 ?_
    refine zv_idiv hx hb (by omega) (by omega) (by omega) (by omega) d_R_addOneAt_15 ?_
    refine lv_istore_n (lv' := [(3, .int (iI (x / 4))), (2, .int (iI (Tp (x % 4)))), (0, .ref (ad E q)), (1, .int (iI x))]) hx hb d_R_addOneAt_16 rfl hl (by decide) rfl (fun ls hl => ?_)
    have L17 : ∀ (fu : Nat) (i : Int) (c : Int) (h : Int → Int) (ls : Array Slot) (H3 : Heap) (lc4 : List Loc) (w5 : zW), (lv_has ls 5 [(0, .ref (ad E q)), (1, .int (iI x)), (2, .int (iI c)), (3, .int (iI i))]) → (zH E w5 (va_A (wl E w0) s.heap.size) s.heap H3 lc4) → (w5 q = zar E N h) → (∀ k, k ≠ q → w5 k = w0 k) → (bd h N 0 9999) → (0 ≤ i ∧ i ≤ N) → (0 ≤ c ∧ c ≤ 1000) → (∀ j, i ≤ j → h j = f j) → (V h i + c * Bp i = V f i + Tp x) → ((N : Int) - i < (fu : Int)) → W p l e rm_addOneAt s m a below meth cd H3 lc4 0 0 Qf (F0 m 17 ls []) := by
      intro fu
      induction fu with
      | zero => intro i c h ls H3 lc4 w5 hl hH e6 hf7 bh hi hc hs hv hm; exact absurd hm (by omega)
      | succ fu ih =>
        intro i c h ls H3 lc4 w5 hl hH e6 hf7 bh hi hc hs hv hm
        refine lv_iload_n hx hb d_R_addOneAt_17 rfl (lv_at hl 3 rfl) ?_
        refine lv_aload_n hx hb d_R_addOneAt_18 rfl (lv_at hl 0 rfl) ?_
        refine zv_alen hx hb hK hH q0lt e6 d_R_addOneAt_19 ?_
        refine zv_icmp_ge (tgt := 56) hx hb d_R_addOneAt_20 rfl (by omega) (by omega) (fun h8 => ?_) (fun h8 => ?_)
        · have e9 : i = N := by omega
          have b9 := V_in bh (Int.le_of_lt (by omega : (0 : Int) < N)) (Int.le_refl (N : Int))
          subst e9
          rw [hQ]
          exact z_vret hx hb hr hlk hH (⟨⟨h, e6, bh, by rw [if_neg (by omega)]; exact md_of hv b9.1 b9.2⟩, (fun k g0 => hf7 k g0)⟩) d_R_addOneAt_56
        · refine lv_iload_n hx hb d_R_addOneAt_23 rfl (lv_at hl 2 rfl) ?_
          refine zv_if_le (tgt := 56) hx hb d_R_addOneAt_24 rfl (by omega) (fun h9 => ?_) (fun h9 => ?_)
          · have e9 : c = 0 := by omega
            subst e9
            rw [hQ]
            exact z_vret hx hb hr hlk hH (⟨⟨h, e6, bh, by rw [if_neg (by omega)]; exact one_end bh hi.1 hi.2 hs hv⟩, (fun k g0 => hf7 k g0)⟩) d_R_addOneAt_56
          · refine lv_aload_n hx hb d_R_addOneAt_27 rfl (lv_at hl 0 rfl) ?_
            refine lv_iload_n hx hb d_R_addOneAt_28 rfl (lv_at hl 3 rfl) ?_
            refine zv_iald hx hb hK hH q0lt e6 (by omega) (by omega) (by omega) d_R_addOneAt_29 ?_
            have b10 := bh i (by omega) (by omega)
            refine lv_iload_n hx hb d_R_addOneAt_30 rfl (lv_at hl 2 rfl) ?_
            refine zv_iadd hx hb d_R_addOneAt_31 ?_
            refine lv_istore (lv' := [(4, .int (iI ((h i) + c))), (0, .ref (ad E q)), (1, .int (iI x)), (2, .int (iI c)), (3, .int (iI i))]) hx hb d_R_addOneAt_32 hl (by decide) rfl (fun ls hl => ?_)
            refine lv_iload hx hb d_R_addOneAt_34 (lv_at hl 0 rfl) ?_
            refine zv_sipush hx hb d_R_addOneAt_36 rfl ?_
            refine zv_idiv hx hb (by omega) (by omega) (by omega) (by omega) d_R_addOneAt_39 ?_
            refine lv_istore_n (lv' := [(2, .int (iI (((h i) + c) / 10000))), (4, .int (iI ((h i) + c))), (0, .ref (ad E q)), (1, .int (iI x)), (3, .int (iI i))]) hx hb d_R_addOneAt_40 rfl hl (by decide) rfl (fun ls hl => ?_)
            refine lv_aload_n hx hb d_R_addOneAt_41 rfl (lv_at hl 2 rfl) ?_
            refine lv_iload_n hx hb d_R_addOneAt_42 rfl (lv_at hl 4 rfl) ?_
            refine lv_iload hx hb d_R_addOneAt_43 (lv_at hl 1 rfl) ?_
            refine zv_sipush hx hb d_R_addOneAt_45 rfl ?_
            refine zv_irem hx hb (by omega) (by omega) (by omega) (by omega) d_R_addOneAt_48 ?_
            refine zv_iast hx hb hK hH q0lt e6 (by omega) (by omega) (by omega) d_R_addOneAt_49 (fun H12 lc13 w11 hH14 e15 hg16 => ?_)
            have bd17 := bd_up bh i (((h i) + c) % 10000) (by omega)
            have hf18 : ∀ k, k ≠ q → w11 k = w0 k := fun k g0 => (hg16 k g0).trans (hf7 k g0)
            refine zv_iinc (k := 4) (lv' := [(3, .int (iI (i + 1))), (2, .int (iI (((h i) + c) / 10000))), (4, .int (iI ((h i) + c))), (0, .ref (ad E q)), (1, .int (iI x))]) hx hb d_R_addOneAt_50 hl rfl (by decide) rfl (fun ls hl => ?_)
            refine lv_goto (tgt := 17) hx hb d_R_addOneAt_53 rfl ?_
            exact ih  (i + 1) (((h i) + c) / 10000) (up h i (((h i) + c) % 10000)) _ H12 lc13 w11 (lv_sub hl [3, 4, 1, 0] rfl) hH14 e15 (fun k g0 => hf18 k g0) (by assumption) (by omega) (by omega) (ks_step hs) (one_step hi.1 (hs i (by omega)) hv) (by omega)
    exact L17 (((N : Int) - (x / 4) : Int).toNat + 1) (x / 4) (Tp (x % 4)) f _ s.heap ([]) w0 (lv_sub hl [2, 3, 1, 0] rfl) hH c0 (fun k _ => rfl) (by exact bf) (by omega) (by omega) (by intro j _; rfl) (by rw [Tp_q (by omega : 0 ≤ x)]) (by omega)
  · rw [hQ]
    exact z_vret hx hb hr hlk hH (⟨⟨f, c0, bf, by rw [if_pos (by omega)]⟩, (fun k _ => rfl)⟩) d_R_addOneAt_4
def rm_digitAt : Room := { frames := 0, cells := 0, slots := 0, locals := 0 }
set_option maxHeartbeats 4000000 in
set_option maxRecDepth 100000 in
theorem c_digitAt (l : Launch) (E : zE) (w0 : zW) (q N : Nat) (f : Int → Int) (x : Int) (q0lt : q < zn E) (c0 : w0 q = zar E N f) (hN : 0 < N ∧ N < 100000) (bf : bd f N 0 9999) (hp : -1000000 ≤ x ∧ x < 1000000) : zM l y_R_digitAt ws_R_digitAt rm_digitAt E [.ref (ad E q), .int (iI x)] w0 (zQi E w0 (fun z w' => w' = w0 ∧ (z = (if x < 0 then 0 else V f N / Tp x % 10)))) := by
  refine z_met (cc := b_R_digitAt) (maxL := 2) (ret := (some .int)) (by decide +kernel) rfl (Nat.le_of_ble_eq_true rfl) ?_
  intro p e s m below meth cd ls a Qf hQ hC hl hH
  obtain ⟨hF, hr, hlk, hK, hG, hn⟩ := hC
  obtain ⟨hx, hb, hml, hown, hts⟩ := hF
  have hg : ∀ w ∈ GW, w.before a s = true := fun w h => hts w (List.mem_cons_of_mem _ h)
  have hA : ∀ q, s.heap.size ≤ q → va_A (wl E w0) s.heap.size q := fun q h => Or.inr h
  have hl : lv_has ls 2 [(0, .ref (ad E q)), (1, .int (iI x))] := hl
  refine lv_iload_n hx hb d_R_digitAt_0 rfl (lv_at hl 1 rfl) ?_
  refine zv_if_lt (tgt := 12) hx hb d_R_digitAt_1 rfl (by omega) (fun h1 => ?_) (fun h1 => ?_)
  · refine zv_iconst hx hb d_R_digitAt_12 ?_
    rw [hQ]
    exact z_iret hx hb hr hlk hH (⟨rfl, by first | (rw [if_pos (by omega)]) | (rw [if_neg (by omega), V_big bf (by omega) (by omega)]; rfl)⟩) d_R_digitAt_13
  · refine lv_iload_n hx hb d_R_digitAt_4 rfl (lv_at hl 1 rfl) ?_
    refine lv_aload_n hx hb d_R_digitAt_5 rfl (lv_at hl 0 rfl) ?_
    refine zv_alen hx hb hK hH q0lt c0 d_R_digitAt_6 ?_
    refine zv_iconst hx hb d_R_digitAt_7 ?_
    refine zv_imul hx hb d_R_digitAt_8 ?_
    refine zv_icmp_lt (tgt := 14) hx hb d_R_digitAt_9 rfl (by omega) (by omega) (fun h2 => ?_) (fun h2 => ?_)
    · refine lv_aload_n hx hb d_R_digitAt_14 rfl (lv_at hl 0 rfl) ?_
      refine lv_iload_n hx hb d_R_digitAt_15 rfl (lv_at hl 1 rfl) ?_
      refine zv_iconst hx hb d_R_digitAt_16 ?_
      refine zv_idiv hx hb (by omega) (by omega) (by omega) (by omega) d_R_digitAt_17 ?_
      refine zv_iald hx hb hK hH q0lt c0 (by omega) (by omega) (by omega) d_R_digitAt_18 ?_
      have b3 := bf (x / 4) (by omega) (by omega)
      refine zv_tens hx hb hG hH hown (hn.1.use rfl) (fun _ h9 => h9) d_R_digitAt_19 ?_
      refine lv_iload_n hx hb d_R_digitAt_22 rfl (lv_at hl 1 rfl) ?_
      refine zv_iconst hx hb d_R_digitAt_23 ?_
      refine zv_irem hx hb (by omega) (by omega) (by omega) (by omega) d_R_digitAt_24 ?_
      refine zv_tenld hx hb hG hH (by omega) (by omega) d_R_digitAt_25 ?_
      have b4 := Tp_in (i := x % 4) (by omega) (by omega)
      have d9 : f (x / 4) / Tp (x % 4) ≤ f (x / 4) := Int.ediv_le_self _ (by omega)
      have d8 : 0 ≤ f (x / 4) / Tp (x % 4) := Int.ediv_nonneg (by omega) (by omega)
      refine zv_idiv hx hb (by omega) (by omega) (by omega) (by omega) d_R_digitAt_26 ?_
      refine zv_bipush hx hb d_R_digitAt_27 rfl ?_
      refine zv_irem hx hb (by omega) (by omega) (by omega) (by omega) d_R_digitAt_29 ?_
      rw [hQ]
      exact z_iret hx hb hr hlk hH (⟨rfl, by rw [if_neg (by omega)]; exact V_dig bf (by omega) (by omega)⟩) d_R_digitAt_30
    · refine zv_iconst hx hb d_R_digitAt_12 ?_
      rw [hQ]
      exact z_iret hx hb hr hlk hH (⟨rfl, by first | (rw [if_pos (by omega)]) | (rw [if_neg (by omega), V_big bf (by omega) (by omega)]; rfl)⟩) d_R_digitAt_13
def rm_cut : Room := { frames := 1, cells := 0, slots := 0, locals := 21 }
set_option maxHeartbeats 4000000 in
set_option maxRecDepth 100000 in
theorem c_cut (l : Launch) (E : zE) (w0 : zW) (q N : Nat) (f : Int → Int) (x : Int) (q0lt : q < zn E) (c0 : w0 q = zar E N f) (hN : 0 < N ∧ N < 100000) (bf : bd f N 0 9999) (hp : -1000000 ≤ x ∧ x < N * 4) : zM l y_R_cut ws_R_cut rm_cut E [.ref (ad E q), .int (iI x)] w0 (zQv E w0 (fun w' => (∃ (f' : Int → Int), w' q = zar E N f' ∧ bd f' N 0 9999 ∧ (V f' N = (if x ≤ 0 then V f N else V f N / Tp x * Tp x))) ∧ ∀ k, k ≠ q → w' k = w0 k)) := by
  refine z_met (cc := b_R_cut) (maxL := 4) (ret := none) (by decide +kernel) rfl (Nat.le_of_ble_eq_true rfl) ?_
  intro p e s m below meth cd ls a Qf hQ hC hl hH
  obtain ⟨hF, hr, hlk, hK, hG, hn⟩ := hC
  obtain ⟨hx, hb, hml, hown, hts⟩ := hF
  have hg : ∀ w ∈ GW, w.before a s = true := fun w h => hts w (List.mem_cons_of_mem _ h)
  have hA : ∀ q, s.heap.size ≤ q → va_A (wl E w0) s.heap.size q := fun q h => Or.inr h
  have hl : lv_has ls 4 [(0, .ref (ad E q)), (1, .int (iI x))] := hl
  refine lv_iload_n hx hb d_R_cut_0 rfl (lv_at hl 1 rfl) ?_
  refine zv_if_gt (tgt := 5) hx hb d_R_cut_1 rfl (by omega) (fun h1 => ?_) (fun h1 => ?_)
  · refine lv_iload_n hx hb d_R_cut_5 rfl (lv_at hl 1 rfl) ?_
    refine zv_iconst hx hb d_R_cut_6 ?_
    refine zv_idiv hx hb (by omega) (by omega) (by omega) (by omega) d_R_cut_7 ?_
    refine lv_aload_n hx hb d_R_cut_8 rfl (lv_at hl 0 rfl) ?_
    refine zv_alen hx hb hK hH q0lt c0 d_R_cut_9 ?_
    refine z_calli (va_runS (As := [.int (iI (x / 4)), .int (iI ((N : Int)))]) (rest := []) ⟨hx, hb, hml, hown, hts⟩ (c_min (l := l) (E := E) (w0 := w0) (x := x / 4) (y := (N : Int)) (zx := by omega) (zy := by omega) s.heap.size) (z_cwS 2 hg wm_279 wm_395 wm_15 wm_278 (by decide +kernel) ⟨Nat.le_of_ble_eq_true rfl, Nat.le_of_ble_eq_true rfl⟩) (z_preS hK hG hn hH hA) rfl rfl hl.1 rfl (lv_room (Nat.le_of_ble_eq_true rfl)) d_R_cut_10 ⟨Nat.zero_le _, Nat.zero_le _⟩) hH hA (fun z7 w4 H2 lc3 hH5 hp6 => ?_)
    obtain ⟨ew8, hp6⟩ := hp6
    rw [ew8] at hH5
    replace hp6 : z7 = min (x / 4) ((N : Int)) := hp6
    have e8 : z7 = x / 4 := by omega
    subst e8
    refine lv_istore_n (lv' := [(2, .int (iI (x / 4))), (0, .ref (ad E q)), (1, .int (iI x))]) hx hb d_R_cut_13 rfl hl (by decide) rfl (fun ls hl => ?_)
    refine zv_iconst hx hb d_R_cut_14 ?_
    refine lv_istore_n (lv' := [(3, .int (iI 0)), (2, .int (iI (x / 4))), (0, .ref (ad E q)), (1, .int (iI x))]) hx hb d_R_cut_15 rfl hl (by decide) rfl (fun ls hl => ?_)
    have L16 : ∀ (fu : Nat) (i : Int) (h : Int → Int) (ls : Array Slot) (H9 : Heap) (lc10 : List Loc) (w11 : zW), (lv_has ls 4 [(0, .ref (ad E q)), (1, .int (iI x)), (2, .int (iI (x / 4))), (3, .int (iI i))]) → (zH E w11 (va_A (wl E w0) s.heap.size) s.heap H9 lc10) → (w11 q = zar E N h) → (∀ k, k ≠ q → w11 k = w0 k) → (bd h N 0 9999) → (0 ≤ i ∧ i ≤ x / 4) → (∀ j, 0 ≤ j → j < i → h j = 0) → (∀ j, i ≤ j → h j = f j) → (x / 4 - i < (fu : Int)) → W p l e rm_cut s m a below meth cd H9 lc10 0 0 Qf (F0 m 16 ls []) := by
      intro fu
      induction fu with
      | zero => intro i h ls H9 lc10 w11 hl hH e12 hf13 bh hi hz hs hm; exact absurd hm (by omega)
      | succ fu ih =>
        intro i h ls H9 lc10 w11 hl hH e12 hf13 bh hi hz hs hm
        refine lv_iload_n hx hb d_R_cut_16 rfl (lv_at hl 3 rfl) ?_
        refine lv_iload_n hx hb d_R_cut_17 rfl (lv_at hl 2 rfl) ?_
        refine zv_icmp_ge (tgt := 31) hx hb d_R_cut_18 rfl (by omega) (by omega) (fun h14 => ?_) (fun h14 => ?_)
        · refine lv_iload_n hx hb d_R_cut_31 rfl (lv_at hl 2 rfl) ?_
          refine lv_aload_n hx hb d_R_cut_32 rfl (lv_at hl 0 rfl) ?_
          refine zv_alen hx hb hK hH q0lt e12 d_R_cut_33 ?_
          refine zv_icmp_ge (tgt := 54) hx hb d_R_cut_34 rfl (by omega) (by omega) (fun h15 => absurd h15 (by omega)) (fun h15 => ?_)
          refine lv_aload_n hx hb d_R_cut_37 rfl (lv_at hl 0 rfl) ?_
          refine lv_iload_n hx hb d_R_cut_38 rfl (lv_at hl 2 rfl) ?_
          refine lv_dup2_11 hx hb d_R_cut_39 rfl rfl ?_
          refine zv_iald hx hb hK hH q0lt e12 (by omega) (by omega) (by omega) d_R_cut_40 ?_
          have b16 := bh (x / 4) (by omega) (by omega)
          refine lv_aload_n hx hb d_R_cut_41 rfl (lv_at hl 0 rfl) ?_
          refine lv_iload_n hx hb d_R_cut_42 rfl (lv_at hl 2 rfl) ?_
          refine zv_iald hx hb hK hH q0lt e12 (by omega) (by omega) (by omega) d_R_cut_43 ?_
          have b17 := bh (x / 4) (by omega) (by omega)
          refine zv_tens hx hb hG hH hown (hn.1.use rfl) (fun _ h9 => h9) d_R_cut_44 ?_
          refine lv_iload_n hx hb d_R_cut_47 rfl (lv_at hl 1 rfl) ?_
          refine zv_iconst hx hb d_R_cut_48 ?_
          refine zv_irem hx hb (by omega) (by omega) (by omega) (by omega) d_R_cut_49 ?_
          refine zv_tenld hx hb hG hH (by omega) (by omega) d_R_cut_50 ?_
          have b18 := Tp_in (i := x % 4) (by omega) (by omega)
          have d9 := Int.emod_nonneg (h (x / 4)) (show Tp (x % 4) ≠ 0 by omega)
          have d8 := Int.emod_lt_of_pos (h (x / 4)) (show 0 < Tp (x % 4) by omega)
          have d7 : h (x / 4) % Tp (x % 4) ≤ h (x / 4) := emod_le (by omega) (by omega)
          refine zv_irem hx hb (by omega) (by omega) (by omega) (by omega) d_R_cut_51 ?_
          refine zv_isub hx hb d_R_cut_52 ?_
          refine zv_iast hx hb hK hH q0lt e12 (by omega) (by omega) (by omega) d_R_cut_53 (fun H20 lc21 w19 hH22 e23 hg24 => ?_)
          have bd25 := bd_up bh (x / 4) ((h (x / 4)) - ((h (x / 4)) % (Tp (x % 4)))) (by omega)
          have hf26 : ∀ k, k ≠ q → w19 k = w0 k := fun k g0 => (hg24 k g0).trans (hf13 k g0)
          have e9 : i = x / 4 := by omega
          subst e9
          rw [hQ]
          exact z_vret hx hb hr hlk hH22 (⟨⟨(up h (x / 4) ((h (x / 4)) - ((h (x / 4)) % (Tp (x % 4))))), e23, bd25, by rw [if_neg (by omega)]; exact V_cut bf (by omega) (by omega) hz hs⟩, (fun k g0 => hf26 k g0)⟩) d_R_cut_54
        · refine lv_aload_n hx hb d_R_cut_21 rfl (lv_at hl 0 rfl) ?_
          refine lv_iload_n hx hb d_R_cut_22 rfl (lv_at hl 3 rfl) ?_
          refine zv_iconst hx hb d_R_cut_23 ?_
          refine zv_iast hx hb hK hH q0lt e12 (by omega) (by omega) (by omega) d_R_cut_24 (fun H28 lc29 w27 hH30 e31 hg32 => ?_)
          have bd33 := bd_up bh i 0 (by omega)
          have hf34 : ∀ k, k ≠ q → w27 k = w0 k := fun k g0 => (hg32 k g0).trans (hf13 k g0)
          refine zv_iinc (k := 3) (lv' := [(3, .int (iI (i + 1))), (0, .ref (ad E q)), (1, .int (iI x)), (2, .int (iI (x / 4)))]) hx hb d_R_cut_25 hl rfl (by decide) rfl (fun ls hl => ?_)
          refine lv_goto (tgt := 16) hx hb d_R_cut_28 rfl ?_
          exact ih  (i + 1) (up h i 0) _ H28 lc29 w27 (lv_sub hl [1, 2, 3, 0] rfl) hH30 e31 (fun k g0 => hf34 k g0) (by assumption) (by omega) (z_step hz) (ks_step hs) (by omega)
    exact L16 ((x / 4 - 0 : Int).toNat + 1) 0 f _ H2 lc3 w0 (lv_sub hl [2, 3, 1, 0] rfl) hH5 c0 (fun k _ => rfl) (by exact bf) (by omega) (by intro j g1 g2; omega) (by intro j _; rfl) (by omega)
  · rw [hQ]
    exact z_vret hx hb hr hlk hH (⟨⟨f, c0, bf, by rw [if_pos (by omega)]⟩, (fun k _ => rfl)⟩) d_R_cut_4
def rm_addMultiple : Room := { frames := 0, cells := 0, slots := 0, locals := 0 }
set_option maxHeartbeats 4000000 in
set_option maxRecDepth 100000 in
theorem c_addMultiple (l : Launch) (E : zE) (w0 : zW) (q r N M : Nat) (f g : Int → Int) (L x : Int) (q0lt : q < zn E) (q1lt : r < zn E) (c0 : w0 q = zar E N f) (c1 : w0 r = zar E M g) (hN : 0 < N ∧ N < 100000) (hM : 0 < M ∧ M < 100000) (bf : bd f N 0 9999) (bg : bd g M 0 9999) (hqr : q ≠ r) (hL : 0 ≤ L ∧ L ≤ 9999) (hx0 : 0 ≤ x ∧ x ≤ N) : zM l y_R_addMultiple ws_R_addMultiple rm_addMultiple E [.ref (ad E q), .ref (ad E r), .int (iI L), .int (iI x)] w0 (zQv E w0 (fun w' => (∃ (f' : Int → Int), w' q = zar E N f' ∧ bd f' N 0 9999 ∧ (V f' N = (V f N + L * V g M * Bp x) % Bp N)) ∧ ∀ k, k ≠ q → w' k = w0 k)) := by
  refine z_met (cc := b_R_addMultiple) (maxL := 8) (ret := none) (by decide +kernel) rfl (Nat.le_of_ble_eq_true rfl) ?_
  intro p e s m below meth cd ls a Qf hQ hC hl hH
  obtain ⟨hF, hr, hlk, hK, hG, hn⟩ := hC
  obtain ⟨hx, hb, hml, hown, hts⟩ := hF
  have hg : ∀ w ∈ GW, w.before a s = true := fun w h => hts w (List.mem_cons_of_mem _ h)
  have hA : ∀ q, s.heap.size ≤ q → va_A (wl E w0) s.heap.size q := fun q h => Or.inr h
  have hl : lv_has ls 8 [(0, .ref (ad E q)), (1, .ref (ad E r)), (2, .int (iI L)), (3, .int (iI x))] := hl
  refine zv_iconst hx hb d_R_addMultiple_0 ?_
  refine lv_istore (lv' := [(4, .int (iI 0)), (0, .ref (ad E q)), (1, .ref (ad E r)), (2, .int (iI L)), (3, .int (iI x))]) hx hb d_R_addMultiple_1 hl (by decide) rfl (fun ls hl => ?_)
  refine lv_iload_n hx hb d_R_addMultiple_3 rfl (lv_at hl 4 rfl) ?_
  refine lv_istore (lv' := [(5, .int (iI x)), (4, .int (iI 0)), (0, .ref (ad E q)), (1, .ref (ad E r)), (2, .int (iI L)), (3, .int (iI x))]) hx hb d_R_addMultiple_4 hl (by decide) rfl (fun ls hl => ?_)
  have L6 : ∀ (fu : Nat) (i : Int) (c : Int) (h : Int → Int) (ls : Array Slot) (H1 : Heap) (lc2 : List Loc) (w3 : zW), (lv_has ls 8 [(0, .ref (ad E q)), (1, .ref (ad E r)), (2, .int (iI L)), (3, .int (iI x)), (4, .int (iI c)), (5, .int (iI i))]) → (zH E w3 (va_A (wl E w0) s.heap.size) s.heap H1 lc2) → (w3 q = zar E N h) → (w3 r = zar E M g) → (∀ k, k ≠ q → w3 k = w0 k) → (bd h N 0 9999) → (x ≤ i ∧ i ≤ N) → (0 ≤ c ∧ c ≤ 9999) → (∀ j, i ≤ j → h j = f j) → (V h i + c * Bp i = V f i + L * V (ex g M) (i - x) * Bp x) → ((N : Int) - i < (fu : Int)) → W p l e rm_addMultiple s m a below meth cd H1 lc2 0 0 Qf (F0 m 6 ls []) := by
    intro fu
    induction fu with
    | zero => intro i c h ls H1 lc2 w3 hl hH e4 e5 hf6 bh hi hc hs hv hm; exact absurd hm (by omega)
    | succ fu ih =>
      intro i c h ls H1 lc2 w3 hl hH e4 e5 hf6 bh hi hc hs hv hm
      refine lv_iload hx hb d_R_addMultiple_6 (lv_at hl 5 rfl) ?_
      refine lv_aload_n hx hb d_R_addMultiple_8 rfl (lv_at hl 0 rfl) ?_
      refine zv_alen hx hb hK hH q0lt e4 d_R_addMultiple_9 ?_
      refine zv_icmp_ge (tgt := 72) hx hb d_R_addMultiple_10 rfl (by omega) (by omega) (fun h7 => ?_) (fun h7 => ?_)
      · have e9 : i = N := by omega
        subst e9
        rw [hQ]
        exact z_vret hx hb hr hlk hH (⟨⟨h, e4, bh, am_end bh (by omega) hx0.1 hx0.2 hv⟩, (fun k g0 => hf6 k g0)⟩) d_R_addMultiple_72
      · have L32 : ∀ (y : Int) (ls : Array Slot) (H8 : Heap) (lc9 : List Loc), (lv_has ls 8 [(0, .ref (ad E q)), (1, .ref (ad E r)), (2, .int (iI L)), (3, .int (iI x)), (4, .int (iI c)), (5, .int (iI i))]) → (zH E w3 (va_A (wl E w0) s.heap.size) s.heap H8 lc9) → (y = ex g M (i - x)) → W p l e rm_addMultiple s m a below meth cd H8 lc9 0 0 Qf (F0 m 32 ls [.int (iI y)]) := by
          intro y ls H8 lc9 hl hH hy
          have hyb := ex_bd bg (show 0 ≤ i - x by omega)
          rw [← hy] at hyb
          have hyl := mul_bd hyb hL
          refine lv_istore (lv' := [(6, .int (iI y)), (0, .ref (ad E q)), (1, .ref (ad E r)), (2, .int (iI L)), (3, .int (iI x)), (4, .int (iI c)), (5, .int (iI i))]) hx hb d_R_addMultiple_32 hl (by decide) rfl (fun ls hl => ?_)
          refine lv_aload_n hx hb d_R_addMultiple_34 rfl (lv_at hl 1 rfl) ?_
          refine lv_iload hx hb d_R_addMultiple_35 (lv_at hl 6 rfl) ?_
          refine zv_iald hx hb hK hH q0lt e4 (by omega) (by omega) (by omega) d_R_addMultiple_37 ?_
          have b10 := bh i (by omega) (by omega)
          refine lv_iload hx hb d_R_addMultiple_38 (lv_at hl 0 rfl) ?_
          refine lv_iload_n hx hb d_R_addMultiple_40 rfl (lv_at hl 3 rfl) ?_
          refine zv_imul hx hb d_R_addMultiple_41 ?_
          refine zv_iadd hx hb d_R_addMultiple_42 ?_
          refine lv_iload hx hb d_R_addMultiple_43 (lv_at hl 5 rfl) ?_
          refine zv_iadd hx hb d_R_addMultiple_45 ?_
          refine lv_istore (lv' := [(7, .int (iI (((h i) + (y * L)) + c))), (6, .int (iI y)), (0, .ref (ad E q)), (1, .ref (ad E r)), (2, .int (iI L)), (3, .int (iI x)), (4, .int (iI c)), (5, .int (iI i))]) hx hb d_R_addMultiple_46 hl (by decide) rfl (fun ls hl => ?_)
          refine lv_iload hx hb d_R_addMultiple_48 (lv_at hl 0 rfl) ?_
          refine zv_sipush hx hb d_R_addMultiple_50 rfl ?_
          refine zv_idiv hx hb (by omega) (by omega) (by omega) (by omega) d_R_addMultiple_53 ?_
          refine lv_istore (lv' := [(4, .int (iI ((((h i) + (y * L)) + c) / 10000))), (7, .int (iI (((h i) + (y * L)) + c))), (6, .int (iI y)), (0, .ref (ad E q)), (1, .ref (ad E r)), (2, .int (iI L)), (3, .int (iI x)), (5, .int (iI i))]) hx hb d_R_addMultiple_54 hl (by decide) rfl (fun ls hl => ?_)
          refine lv_aload_n hx hb d_R_addMultiple_56 rfl (lv_at hl 3 rfl) ?_
          refine lv_iload hx hb d_R_addMultiple_57 (lv_at hl 7 rfl) ?_
          refine lv_iload hx hb d_R_addMultiple_59 (lv_at hl 1 rfl) ?_
          refine zv_sipush hx hb d_R_addMultiple_61 rfl ?_
          refine zv_irem hx hb (by omega) (by omega) (by omega) (by omega) d_R_addMultiple_64 ?_
          refine zv_iast hx hb hK hH q0lt e4 (by omega) (by omega) (by omega) d_R_addMultiple_65 (fun H12 lc13 w11 hH14 e15 hg16 => ?_)
          have bd17 := bd_up bh i ((((h i) + (y * L)) + c) % 10000) (by omega)
          have e18 : w11 r = zar E M g := (hg16 r (by omega)).trans e5
          have hf19 : ∀ k, k ≠ q → w11 k = w0 k := fun k g0 => (hg16 k g0).trans (hf6 k g0)
          refine zv_iinc (k := 7) (lv' := [(5, .int (iI (i + 1))), (4, .int (iI ((((h i) + (y * L)) + c) / 10000))), (7, .int (iI (((h i) + (y * L)) + c))), (6, .int (iI y)), (0, .ref (ad E q)), (1, .ref (ad E r)), (2, .int (iI L)), (3, .int (iI x))]) hx hb d_R_addMultiple_66 hl rfl (by decide) rfl (fun ls hl => ?_)
          refine lv_goto (tgt := 6) hx hb d_R_addMultiple_69 rfl ?_
          exact ih  (i + 1) ((((h i) + (y * L)) + c) / 10000) (up h i ((((h i) + (y * L)) + c) % 10000)) _ H12 lc13 w11 (lv_sub hl [4, 5, 6, 7, 1, 0] rfl) hH14 e15 e18 (fun k g0 => hf19 k g0) (by assumption) (by omega) (by omega) (ks_step hs) (am_step hx0.1 hi.1 (hs i (by omega)) hy hv) (by omega)
        refine lv_iload hx hb d_R_addMultiple_13 (lv_at hl 5 rfl) ?_
        refine lv_iload_n hx hb d_R_addMultiple_15 rfl (lv_at hl 3 rfl) ?_
        refine zv_isub hx hb d_R_addMultiple_16 ?_
        refine lv_aload_n hx hb d_R_addMultiple_17 rfl (lv_at hl 1 rfl) ?_
        refine zv_alen hx hb hK hH q1lt e5 d_R_addMultiple_18 ?_
        refine zv_icmp_ge (tgt := 31) hx hb d_R_addMultiple_19 rfl (by omega) (by omega) (fun h20 => ?_) (fun h20 => ?_)
        · refine zv_iconst hx hb d_R_addMultiple_31 ?_
          exact L32 0 _ H1 lc2 (lv_sub hl [0, 1, 2, 3, 4, 5] rfl) hH (by rw [ex_ge (by omega)])
        · refine lv_aload_n hx hb d_R_addMultiple_22 rfl (lv_at hl 1 rfl) ?_
          refine lv_iload hx hb d_R_addMultiple_23 (lv_at hl 5 rfl) ?_
          refine lv_iload_n hx hb d_R_addMultiple_25 rfl (lv_at hl 3 rfl) ?_
          refine zv_isub hx hb d_R_addMultiple_26 ?_
          refine zv_iald hx hb hK hH q1lt e5 (by omega) (by omega) (by omega) d_R_addMultiple_27 ?_
          have b21 := bg (i - x) (by omega) (by omega)
          refine lv_goto (tgt := 32) hx hb d_R_addMultiple_28 rfl ?_
          exact L32 (g (i - x)) _ H1 lc2 (lv_sub hl [0, 1, 2, 3, 4, 5] rfl) hH (by rw [ex_lt (by omega)])
  exact L6 (((N : Int) - x : Int).toNat + 1) x 0 f _ s.heap ([]) w0 (lv_sub hl [2, 3, 4, 5, 1, 0] rfl) hH c0 c1 (fun k _ => rfl) (by exact bf) (by omega) (by omega) (by intro j _; rfl) (by rw [show x - x = 0 by omega, V_0]; omega) (by omega)
