def rm_head : Room := { frames := 0, cells := 0, slots := 0, locals := 0 }
set_option maxHeartbeats 4000000 in
set_option maxRecDepth 100000 in
theorem c_head (l : Launch) (E : zE) (w0 : zW) (q N : Nat) (f : Int → Int) (t k : Int) (q0lt : q < zn E) (c0 : w0 q = zar E N f) (hN : 0 < N ∧ N < 100000) (bf : bd f N 0 9999) (ht : -100000 ≤ t ∧ t < 100000) (hk : 0 ≤ k ∧ k ≤ 4) : zM l y_R_head ws_R_head rm_head E [.ref (ad E q), .int (iI t), .int (iI k)] w0 (zQl E w0 (fun z w' => w' = w0 ∧ (z = Hd f N t (Int.toNat k)))) := by
  refine z_met (cc := b_R_head) (maxL := 6) (ret := (some .long)) (by decide +kernel) rfl (Nat.le_of_ble_eq_true rfl) ?_
  intro p e s m below meth cd ls a Qf hQ hC hl hH
  obtain ⟨hF, hr, hlk, hK, hG, hn⟩ := hC
  obtain ⟨hx, hb, hml, hown, hts⟩ := hF
  have hg : ∀ w ∈ GW, w.before a s = true := fun w h => hts w (List.mem_cons_of_mem _ h)
  have hA : ∀ q, s.heap.size ≤ q → va_A (wl E w0) s.heap.size q := fun q h => Or.inr h
  have hl : lv_has ls 6 [(0, .ref (ad E q)), (1, .int (iI t)), (2, .int (iI k))] := hl
  refine zv_lconst_0 hx hb d_R_head_0 ?_
  refine lv_lstore_n (lv' := [(3, .long (Int64.ofInt 0)), (0, .ref (ad E q)), (1, .int (iI t)), (2, .int (iI k))]) hx hb d_R_head_1 rfl hl (by decide) rfl (fun ls hl => ?_)
  refine lv_iload_n hx hb d_R_head_2 rfl (lv_at hl 2 rfl) ?_
  refine lv_istore (lv' := [(5, .int (iI t)), (3, .long (Int64.ofInt 0)), (0, .ref (ad E q)), (1, .int (iI t)), (2, .int (iI k))]) hx hb d_R_head_3 hl (by decide) rfl (fun ls hl => ?_)
  have L5 : ∀ (fu : Nat) (i : Int) (h : Int) (ls : Array Slot) (H1 : Heap) (lc2 : List Loc), (lv_has ls 6 [(0, .ref (ad E q)), (1, .int (iI t)), (2, .int (iI k)), (3, .long (Int64.ofInt h)), (5, .int (iI i))]) → (zH E w0 (va_A (wl E w0) s.heap.size) s.heap H1 lc2) → (t - k ≤ i ∧ i ≤ t) → (h = Hd f N t (t - i).toNat) → (i - (t - k) < (fu : Int)) → W p l e rm_head s m a below meth cd H1 lc2 0 0 Qf (F0 m 5 ls []) := by
    intro fu
    induction fu with
    | zero => intro i h ls H1 lc2 hl hH hi hh hm; exact absurd hm (by omega)
    | succ fu ih =>
      intro i h ls H1 lc2 hl hH hi hh hm
      refine lv_iload hx hb d_R_head_5 (lv_at hl 4 rfl) ?_
      refine lv_iload_n hx hb d_R_head_7 rfl (lv_at hl 1 rfl) ?_
      refine lv_iload_n hx hb d_R_head_8 rfl (lv_at hl 2 rfl) ?_
      refine zv_isub hx hb d_R_head_9 ?_
      refine zv_icmp_le (tgt := 47) hx hb d_R_head_10 rfl (by omega) (by omega) (fun h3 => ?_) (fun h3 => ?_)
      · refine lv_lload_n hx hb d_R_head_47 rfl (lv_at hl 3 rfl) ?_
        rw [hQ]
        exact z_lret hx hb hr hlk hH (⟨rfl, by rw [hh, show t - i = k by omega]⟩) d_R_head_48
      · refine lv_lload_n hx hb d_R_head_13 rfl (lv_at hl 3 rfl) ?_
        refine zv_ldc2 (v := 10000) hx hb hown (hg _ wm_473) d_R_head_14 ?_
        refine zv_lmul hx hb d_R_head_17 ?_
        have L38 : ∀ (y : Int) (ls : Array Slot) (H4 : Heap) (lc5 : List Loc), (lv_has ls 6 [(0, .ref (ad E q)), (1, .int (iI t)), (2, .int (iI k)), (3, .long (Int64.ofInt h)), (5, .int (iI i))]) → (zH E w0 (va_A (wl E w0) s.heap.size) s.heap H4 lc5) → (y = fz f N i) → W p l e rm_head s m a below meth cd H4 lc5 0 0 Qf (F0 m 38 ls [.int (iI y), .long (Int64.ofInt (h * 10000))]) := by
          intro y ls H4 lc5 hl hH hy
          have hyb := fz_bd bf i
          rw [← hy] at hyb
          refine zv_i2l hx hb (by omega) d_R_head_38 ?_
          refine zv_ladd hx hb d_R_head_39 ?_
          refine lv_lstore_n (lv' := [(3, .long (Int64.ofInt ((h * 10000) + y))), (0, .ref (ad E q)), (1, .int (iI t)), (2, .int (iI k)), (5, .int (iI i))]) hx hb d_R_head_40 rfl hl (by decide) rfl (fun ls hl => ?_)
          refine zv_iinc (k := 4) (lv' := [(5, .int (iI (i + (-1)))), (3, .long (Int64.ofInt ((h * 10000) + y))), (0, .ref (ad E q)), (1, .int (iI t)), (2, .int (iI k))]) hx hb d_R_head_41 hl rfl (by decide) rfl (fun ls hl => ?_)
          refine lv_goto (tgt := 5) hx hb d_R_head_44 rfl ?_
          exact ih  (i + (-1)) ((h * 10000) + y) _ H4 lc5 (lv_sub hl [2, 3, 4, 1, 0] rfl) hH (by omega) (hd_step hi.2 hh hy) (by omega)
        refine lv_iload hx hb d_R_head_18 (lv_at hl 4 rfl) ?_
        refine zv_if_lt (tgt := 37) hx hb d_R_head_20 rfl (by omega) (fun h6 => ?_) (fun h6 => ?_)
        · refine zv_iconst hx hb d_R_head_37 ?_
          exact L38 0 _ H1 lc2 (lv_sub hl [0, 1, 2, 3, 4] rfl) hH (by rw [fz_out (by omega)])
        · refine lv_iload hx hb d_R_head_23 (lv_at hl 4 rfl) ?_
          refine lv_aload_n hx hb d_R_head_25 rfl (lv_at hl 0 rfl) ?_
          refine zv_alen hx hb hK hH q0lt c0 d_R_head_26 ?_
          refine zv_icmp_ge (tgt := 37) hx hb d_R_head_27 rfl (by omega) (by omega) (fun h7 => ?_) (fun h7 => ?_)
          · refine zv_iconst hx hb d_R_head_37 ?_
            exact L38 0 _ H1 lc2 (lv_sub hl [0, 1, 2, 3, 4] rfl) hH (by rw [fz_out (by omega)])
          · refine lv_aload_n hx hb d_R_head_30 rfl (lv_at hl 0 rfl) ?_
            refine lv_iload hx hb d_R_head_31 (lv_at hl 4 rfl) ?_
            refine zv_iald hx hb hK hH q0lt c0 (by omega) (by omega) (by omega) d_R_head_33 ?_
            have b8 := bf i (by omega) (by omega)
            refine lv_goto (tgt := 38) hx hb d_R_head_34 rfl ?_
            exact L38 (f i) _ H1 lc2 (lv_sub hl [0, 1, 2, 3, 4] rfl) hH (by rw [fz_in (by omega) (by omega)])
  exact L5 ((t - (t - k) : Int).toNat + 1) t 0 _ s.heap ([]) (lv_sub hl [2, 3, 4, 1, 0] rfl) hH (by omega) (by rw [show t - t = 0 by omega]; rfl) (by omega)
def rm_takeMultiple : Room := { frames := 1, cells := 0, slots := 0, locals := 22 }
set_option maxHeartbeats 4000000 in
set_option maxRecDepth 100000 in
theorem c_takeMultiple (l : Launch) (E : zE) (w0 : zW) (q r N K : Nat) (f g : Int → Int) (L x t : Int) (q0lt : q < zn E) (q1lt : r < zn E) (c0 : w0 q = zar E N f) (c1 : w0 r = zar E K g) (hN : 0 < N ∧ N < 100000) (hK0 : 0 < K ∧ K < 100000) (bf : bd f N 0 9999) (bg : bd g K 0 9999) (hqr : q ≠ r) (hL : 0 ≤ L ∧ L ≤ 9999) (hx0 : 0 ≤ x ∧ 0 ≤ t ∧ t < K ∧ x + t < N) (hz : ∀ j : Int, x + t + 1 < j → j < N → f j = 0) (hY : L * V g (t + 1) * Bp x ≤ V f N) : zM l y_R_takeMultiple ws_R_takeMultiple rm_takeMultiple E [.ref (ad E q), .ref (ad E r), .int (iI L), .int (iI x), .int (iI t)] w0 (zQv E w0 (fun w' => (∃ (f' : Int → Int), w' q = zar E N f' ∧ bd f' N 0 9999 ∧ (V f' N = V f N - L * V g (t + 1) * Bp x)) ∧ ∀ k, k ≠ q → w' k = w0 k)) := by
  refine z_met (cc := b_R_takeMultiple) (maxL := 8) (ret := none) (by decide +kernel) rfl (Nat.le_of_ble_eq_true rfl) ?_
  intro p e s m below meth cd ls a Qf hQ hC hl hH
  obtain ⟨hF, hr, hlk, hK, hG, hn⟩ := hC
  obtain ⟨hx, hb, hml, hown, hts⟩ := hF
  have hg : ∀ w ∈ GW, w.before a s = true := fun w h => hts w (List.mem_cons_of_mem _ h)
  have hA : ∀ q, s.heap.size ≤ q → va_A (wl E w0) s.heap.size q := fun q h => Or.inr h
  have hl : lv_has ls 8 [(0, .ref (ad E q)), (1, .ref (ad E r)), (2, .int (iI L)), (3, .int (iI x)), (4, .int (iI t))] := hl
  refine zv_iconst hx hb d_R_takeMultiple_0 ?_
  refine lv_istore (lv' := [(5, .int (iI 0)), (0, .ref (ad E q)), (1, .ref (ad E r)), (2, .int (iI L)), (3, .int (iI x)), (4, .int (iI t))]) hx hb d_R_takeMultiple_1 hl (by decide) rfl (fun ls hl => ?_)
  refine zv_iconst hx hb d_R_takeMultiple_3 ?_
  refine lv_istore (lv' := [(6, .int (iI 0)), (5, .int (iI 0)), (0, .ref (ad E q)), (1, .ref (ad E r)), (2, .int (iI L)), (3, .int (iI x)), (4, .int (iI t))]) hx hb d_R_takeMultiple_4 hl (by decide) rfl (fun ls hl => ?_)
  have L6 : ∀ (fu : Nat) (i : Int) (c : Int) (h : Int → Int) (ls : Array Slot) (H1 : Heap) (lc2 : List Loc) (w3 : zW), (lv_has ls 8 [(0, .ref (ad E q)), (1, .ref (ad E r)), (2, .int (iI L)), (3, .int (iI x)), (4, .int (iI t)), (5, .int (iI c)), (6, .int (iI i))]) → (zH E w3 (va_A (wl E w0) s.heap.size) s.heap H1 lc2) → (w3 q = zar E N h) → (w3 r = zar E K g) → (∀ k, k ≠ q → w3 k = w0 k) → (bd h N 0 9999) → (0 ≤ i ∧ i ≤ t + 1) → (-9999 ≤ c ∧ c ≤ 0) → (∀ j, x + i ≤ j → h j = f j) → (V h (x + i) + c * Bp (x + i) = V f (x + i) - L * V g i * Bp x) → (t + 1 - i < (fu : Int)) → W p l e rm_takeMultiple s m a below meth cd H1 lc2 0 0 Qf (F0 m 6 ls []) := by
    intro fu
    induction fu with
    | zero => intro i c h ls H1 lc2 w3 hl hH e4 e5 hf6 bh hi hc hs hv hm; exact absurd hm (by omega)
    | succ fu ih =>
      intro i c h ls H1 lc2 w3 hl hH e4 e5 hf6 bh hi hc hs hv hm
      refine lv_iload hx hb d_R_takeMultiple_6 (lv_at hl 6 rfl) ?_
      refine lv_iload hx hb d_R_takeMultiple_8 (lv_at hl 4 rfl) ?_
      refine zv_icmp_gt (tgt := 62) hx hb d_R_takeMultiple_10 rfl (by omega) (by omega) (fun h7 => ?_) (fun h7 => ?_)
      · have e9 : i = t + 1 := by omega
        subst e9
        rw [show x + (t + 1) = x + t + 1 by omega] at hv hs
        refine lv_iload_n hx hb d_R_takeMultiple_62 rfl (lv_at hl 3 rfl) ?_
        refine lv_iload hx hb d_R_takeMultiple_63 (lv_at hl 4 rfl) ?_
        refine zv_iadd hx hb d_R_takeMultiple_65 ?_
        refine zv_iconst hx hb d_R_takeMultiple_66 ?_
        refine zv_iadd hx hb d_R_takeMultiple_67 ?_
        refine lv_aload_n hx hb d_R_takeMultiple_68 rfl (lv_at hl 0 rfl) ?_
        refine zv_alen hx hb hK hH q0lt e4 d_R_takeMultiple_69 ?_
        refine zv_icmp_ge (tgt := 86) hx hb d_R_takeMultiple_70 rfl (by omega) (by omega) (fun h8 => ?_) (fun h8 => ?_)
        · have e8 : x + t + 1 = N := by omega
          rw [e8] at hv
          rw [hQ]
          exact z_vret hx hb hr hlk hH (⟨⟨h, e4, bh, tm_end bh (by omega) hv hY hc.2⟩, (fun k g0 => hf6 k g0)⟩) d_R_takeMultiple_86
        · have tm9 := tm_top (g := g) bh (by omega) (by omega) hs hz hv hY hc.2
          have hb9 := bh (x + t + 1) (by omega) (by omega)
          refine lv_aload_n hx hb d_R_takeMultiple_73 rfl (lv_at hl 0 rfl) ?_
          refine lv_iload_n hx hb d_R_takeMultiple_74 rfl (lv_at hl 3 rfl) ?_
          refine lv_iload hx hb d_R_takeMultiple_75 (lv_at hl 4 rfl) ?_
          refine zv_iadd hx hb d_R_takeMultiple_77 ?_
          refine zv_iconst hx hb d_R_takeMultiple_78 ?_
          refine zv_iadd hx hb d_R_takeMultiple_79 ?_
          refine lv_dup2_11 hx hb d_R_takeMultiple_80 rfl rfl ?_
          refine zv_iald hx hb hK hH q0lt e4 (by omega) (by omega) (by omega) d_R_takeMultiple_81 ?_
          have b9 := bh ((x + t) + 1) (by omega) (by omega)
          refine lv_iload hx hb d_R_takeMultiple_82 (lv_at hl 5 rfl) ?_
          refine zv_iadd hx hb d_R_takeMultiple_84 ?_
          refine zv_iast hx hb hK hH q0lt e4 (by omega) (by omega) (by omega) d_R_takeMultiple_85 (fun H11 lc12 w10 hH13 e14 hg15 => ?_)
          have bd16 := bd_up bh ((x + t) + 1) ((h ((x + t) + 1)) + c) (by omega)
          have e17 : w10 r = zar E K g := (hg15 r (by omega)).trans e5
          have hf18 : ∀ k, k ≠ q → w10 k = w0 k := fun k g0 => (hg15 k g0).trans (hf6 k g0)
          rw [hQ]
          exact z_vret hx hb hr hlk hH13 (⟨⟨(up h ((x + t) + 1) ((h ((x + t) + 1)) + c)), e14, bd16, tm9.2⟩, (fun k g0 => hf18 k g0)⟩) d_R_takeMultiple_86
      · refine lv_aload_n hx hb d_R_takeMultiple_13 rfl (lv_at hl 0 rfl) ?_
        refine lv_iload_n hx hb d_R_takeMultiple_14 rfl (lv_at hl 3 rfl) ?_
        refine lv_iload hx hb d_R_takeMultiple_15 (lv_at hl 6 rfl) ?_
        refine zv_iadd hx hb d_R_takeMultiple_17 ?_
        refine zv_iald hx hb hK hH q0lt e4 (by omega) (by omega) (by omega) d_R_takeMultiple_18 ?_
        have b19 := bh (x + i) (by omega) (by omega)
        refine lv_aload_n hx hb d_R_takeMultiple_19 rfl (lv_at hl 1 rfl) ?_
        refine lv_iload hx hb d_R_takeMultiple_20 (lv_at hl 6 rfl) ?_
        refine zv_iald hx hb hK hH q1lt e5 (by omega) (by omega) (by omega) d_R_takeMultiple_22 ?_
        have b20 := bg i (by omega) (by omega)
        refine lv_iload_n hx hb d_R_takeMultiple_23 rfl (lv_at hl 2 rfl) ?_
        have gm := mul_bd (bg i (by omega) (by omega)) hL
        refine zv_imul hx hb d_R_takeMultiple_24 ?_
        refine zv_isub hx hb d_R_takeMultiple_25 ?_
        refine lv_iload hx hb d_R_takeMultiple_26 (lv_at hl 5 rfl) ?_
        refine zv_iadd hx hb d_R_takeMultiple_28 ?_
        refine lv_istore (lv' := [(7, .int (iI (((h (x + i)) - ((g i) * L)) + c))), (0, .ref (ad E q)), (1, .ref (ad E r)), (2, .int (iI L)), (3, .int (iI x)), (4, .int (iI t)), (5, .int (iI c)), (6, .int (iI i))]) hx hb d_R_takeMultiple_29 hl (by decide) rfl (fun ls hl => ?_)
        refine lv_iload hx hb d_R_takeMultiple_31 (lv_at hl 0 rfl) ?_
        refine zv_sipush hx hb d_R_takeMultiple_33 rfl ?_
        refine z_calli (va_runS (As := [.int (iI (((h (x + i)) - ((g i) * L)) + c)), .int (iI 10000)]) (rest := []) ⟨hx, hb, hml, hown, hts⟩ (c_floorDiv (l := l) (E := E) (w0 := w3) (x := ((h (x + i)) - ((g i) * L)) + c) (y := 10000) (zx := by omega) (zy := by omega) H1.size) (z_cwS 2 hg wm_479 wm_477 wm_15 wm_478 (by decide +kernel) ⟨Nat.le_of_ble_eq_true rfl, Nat.le_of_ble_eq_true rfl⟩) (z_preS hK hG hn hH hA) rfl rfl hl.1 rfl (lv_room (Nat.le_of_ble_eq_true rfl)) d_R_takeMultiple_36 ⟨Nat.zero_le _, Nat.zero_le _⟩) hH hA (fun u w23 H21 lc22 hH24 hu => ?_)
        obtain ⟨ew25, hu⟩ := hu
        rw [ew25] at hH24
        replace hu : u = (((h (x + i)) - ((g i) * L)) + c) / (10000 : Int) := hu
        subst hu
        refine lv_istore (lv' := [(5, .int (iI ((h (x + i) - g i * L + c) / 10000))), (7, .int (iI (((h (x + i)) - ((g i) * L)) + c))), (0, .ref (ad E q)), (1, .ref (ad E r)), (2, .int (iI L)), (3, .int (iI x)), (4, .int (iI t)), (6, .int (iI i))]) hx hb d_R_takeMultiple_39 hl (by decide) rfl (fun ls hl => ?_)
        refine lv_aload_n hx hb d_R_takeMultiple_41 rfl (lv_at hl 2 rfl) ?_
        refine lv_iload_n hx hb d_R_takeMultiple_42 rfl (lv_at hl 5 rfl) ?_
        refine lv_iload hx hb d_R_takeMultiple_43 (lv_at hl 7 rfl) ?_
        refine zv_iadd hx hb d_R_takeMultiple_45 ?_
        refine lv_iload hx hb d_R_takeMultiple_46 (lv_at hl 1 rfl) ?_
        refine lv_iload hx hb d_R_takeMultiple_48 (lv_at hl 0 rfl) ?_
        refine zv_sipush hx hb d_R_takeMultiple_50 rfl ?_
        refine zv_imul hx hb d_R_takeMultiple_53 ?_
        refine zv_isub hx hb d_R_takeMultiple_54 ?_
        refine zv_iast hx hb hK hH24 q0lt e4 (by omega) (by omega) (by omega) d_R_takeMultiple_55 (fun H27 lc28 w26 hH29 e30 hg31 => ?_)
        have bd32 := bd_up bh (x + i) ((((h (x + i)) - ((g i) * L)) + c) - (((h (x + i) - g i * L + c) / 10000) * 10000)) (by omega)
        have e33 : w26 r = zar E K g := (hg31 r (by omega)).trans e5
        have hf34 : ∀ k, k ≠ q → w26 k = w0 k := fun k g0 => (hg31 k g0).trans (hf6 k g0)
        refine zv_iinc (k := 7) (lv' := [(6, .int (iI (i + 1))), (5, .int (iI ((h (x + i) - g i * L + c) / 10000))), (7, .int (iI (((h (x + i)) - ((g i) * L)) + c))), (0, .ref (ad E q)), (1, .ref (ad E r)), (2, .int (iI L)), (3, .int (iI x)), (4, .int (iI t))]) hx hb d_R_takeMultiple_56 hl rfl (by decide) rfl (fun ls hl => ?_)
        refine lv_goto (tgt := 6) hx hb d_R_takeMultiple_59 rfl ?_
        exact ih  (i + 1) ((h (x + i) - g i * L + c) / 10000) (up h (x + i) ((((h (x + i)) - ((g i) * L)) + c) - (((h (x + i) - g i * L + c) / 10000) * 10000))) _ H27 lc28 w26 (lv_sub hl [3, 4, 5, 6, 7, 1, 0] rfl) hH29 e30 e33 (fun k g0 => hf34 k g0) (by assumption) (by omega) (by omega) (ks_stepx hs) (tm_step hx0.1 hi.1 (by rw [hs (x + i) (by omega)]) hv) (by omega)
  exact L6 ((t + 1 - 0 : Int).toNat + 1) 0 0 f _ s.heap ([]) w0 (lv_sub hl [2, 3, 4, 5, 6, 1, 0] rfl) hH c0 c1 (fun k _ => rfl) (by exact bf) (by omega) (by omega) (by intro j _; rfl) (by rw [V_0, Int.add_zero]; omega) (by omega)
def rm_isStillIn : Room := { frames := 0, cells := 0, slots := 0, locals := 0 }
set_option maxHeartbeats 4000000 in
set_option maxRecDepth 100000 in
theorem c_isStillIn (l : Launch) (E : zE) (w0 : zW) (q r N K : Nat) (f g : Int → Int) (x t : Int) (q0lt : q < zn E) (q1lt : r < zn E) (c0 : w0 q = zar E N f) (c1 : w0 r = zar E K g) (hN : 0 < N ∧ N < 100000) (hK0 : 0 < K ∧ K < 100000) (bf : bd f N 0 9999) (bg : bd g K 0 9999) (hx0 : 0 ≤ x ∧ 0 ≤ t ∧ t < K ∧ x + t < N) (hz : ∀ j : Int, x + t + 1 < j → j < N → f j = 0) : zM l y_R_isStillIn ws_R_isStillIn rm_isStillIn E [.ref (ad E q), .ref (ad E r), .int (iI x), .int (iI t)] w0 (zQi E w0 (fun z w' => w' = w0 ∧ ((z = 1 ∧ V g (t + 1) * Bp x ≤ V f N) ∨ (z = 0 ∧ V f N < V g (t + 1) * Bp x)))) := by
  refine z_met (cc := b_R_isStillIn) (maxL := 5) (ret := (some .boolean)) (by decide +kernel) rfl (Nat.le_of_ble_eq_true rfl) ?_
  intro p e s m below meth cd ls a Qf hQ hC hl hH
  obtain ⟨hF, hr, hlk, hK, hG, hn⟩ := hC
  obtain ⟨hx, hb, hml, hown, hts⟩ := hF
  have hg : ∀ w ∈ GW, w.before a s = true := fun w h => hts w (List.mem_cons_of_mem _ h)
  have hA : ∀ q, s.heap.size ≤ q → va_A (wl E w0) s.heap.size q := fun q h => Or.inr h
  have hl : lv_has ls 5 [(0, .ref (ad E q)), (1, .ref (ad E r)), (2, .int (iI x)), (3, .int (iI t))] := hl
  have L22 : ∀  (ls : Array Slot) (H1 : Heap) (lc2 : List Loc), (lv_has ls 5 [(0, .ref (ad E q)), (1, .ref (ad E r)), (2, .int (iI x)), (3, .int (iI t))]) → (zH E w0 (va_A (wl E w0) s.heap.size) s.heap H1 lc2) → (∀ j : Int, x + t + 1 ≤ j → j < N → f j = 0) → W p l e rm_isStillIn s m a below meth cd H1 lc2 0 0 Qf (F0 m 22 ls []) := by
    intro ls H1 lc2 hl hH hz2
    refine lv_iload_n hx hb d_R_isStillIn_22 rfl (lv_at hl 3 rfl) ?_
    refine lv_istore (lv' := [(4, .int (iI t)), (0, .ref (ad E q)), (1, .ref (ad E r)), (2, .int (iI x)), (3, .int (iI t))]) hx hb d_R_isStillIn_23 hl (by decide) rfl (fun ls hl => ?_)
    have L25 : ∀ (fu : Nat) (i : Int) (ls : Array Slot) (H3 : Heap) (lc4 : List Loc), (lv_has ls 5 [(4, .int (iI i)), (0, .ref (ad E q)), (1, .ref (ad E r)), (2, .int (iI x)), (3, .int (iI t))]) → (zH E w0 (va_A (wl E w0) s.heap.size) s.heap H3 lc4) → (-1 ≤ i ∧ i ≤ t) → (∀ j : Int, i < j → j < t + 1 → f (x + j) = g j) → (i + 1 < (fu : Int)) → W p l e rm_isStillIn s m a below meth cd H3 lc4 0 0 Qf (F0 m 25 ls []) := by
      intro fu
      induction fu with
      | zero => intro i ls H3 lc4 hl hH hi he hm; exact absurd hm (by omega)
      | succ fu ih =>
        intro i ls H3 lc4 hl hH hi he hm
        refine lv_iload hx hb d_R_isStillIn_25 (lv_at hl 0 rfl) ?_
        refine zv_if_lt (tgt := 68) hx hb d_R_isStillIn_27 rfl (by omega) (fun h5 => ?_) (fun h5 => ?_)
        · refine zv_iconst hx hb d_R_isStillIn_68 ?_
          rw [hQ]
          exact z_zret hx hb hr hlk hH (⟨rfl, Or.inl ⟨rfl, si_ge bf hx0.1 hx0.2.1 (by omega) hz2 (Int.le_of_eq (V_ext (fun j g1 g2 => (he j (by omega) g2).symm)))⟩⟩) (by decide) d_R_isStillIn_69
        · refine lv_aload_n hx hb d_R_isStillIn_30 rfl (lv_at hl 1 rfl) ?_
          refine lv_iload_n hx hb d_R_isStillIn_31 rfl (lv_at hl 3 rfl) ?_
          refine lv_iload hx hb d_R_isStillIn_32 (lv_at hl 0 rfl) ?_
          refine zv_iadd hx hb d_R_isStillIn_34 ?_
          refine zv_iald hx hb hK hH q0lt c0 (by omega) (by omega) (by omega) d_R_isStillIn_35 ?_
          have b6 := bf (x + i) (by omega) (by omega)
          refine lv_aload_n hx hb d_R_isStillIn_36 rfl (lv_at hl 2 rfl) ?_
          refine lv_iload hx hb d_R_isStillIn_37 (lv_at hl 0 rfl) ?_
          refine zv_iald hx hb hK hH q1lt c1 (by omega) (by omega) (by omega) d_R_isStillIn_39 ?_
          have b7 := bg i (by omega) (by omega)
          refine zv_icmp_eq (tgt := 62) hx hb d_R_isStillIn_40 rfl (by omega) (by omega) (fun h8 => ?_) (fun h8 => ?_)
          · refine zv_iinc (k := 0) (lv' := [(4, .int (iI (i + (-1)))), (0, .ref (ad E q)), (1, .ref (ad E r)), (2, .int (iI x)), (3, .int (iI t))]) hx hb d_R_isStillIn_62 hl rfl (by decide) rfl (fun ls hl => ?_)
            refine lv_goto (tgt := 25) hx hb d_R_isStillIn_65 rfl ?_
            exact ih  (i + (-1)) _ H3 lc4 (lv_sub hl [0, 1, 2, 3, 4] rfl) hH (by omega) (si_step he (by assumption)) (by omega)
          · refine lv_aload_n hx hb d_R_isStillIn_43 rfl (lv_at hl 1 rfl) ?_
            refine lv_iload_n hx hb d_R_isStillIn_44 rfl (lv_at hl 3 rfl) ?_
            refine lv_iload hx hb d_R_isStillIn_45 (lv_at hl 0 rfl) ?_
            refine zv_iadd hx hb d_R_isStillIn_47 ?_
            refine zv_iald hx hb hK hH q0lt c0 (by omega) (by omega) (by omega) d_R_isStillIn_48 ?_
            have b9 := bf (x + i) (by omega) (by omega)
            refine lv_aload_n hx hb d_R_isStillIn_49 rfl (lv_at hl 2 rfl) ?_
            refine lv_iload hx hb d_R_isStillIn_50 (lv_at hl 0 rfl) ?_
            refine zv_iald hx hb hK hH q1lt c1 (by omega) (by omega) (by omega) d_R_isStillIn_52 ?_
            have b10 := bg i (by omega) (by omega)
            refine zv_icmp_le (tgt := 60) hx hb d_R_isStillIn_53 rfl (by omega) (by omega) (fun h11 => ?_) (fun h11 => ?_)
            · refine zv_iconst hx hb d_R_isStillIn_60 ?_
              rw [hQ]
              exact z_zret hx hb hr hlk hH (⟨rfl, Or.inr ⟨rfl, si_lt bf hx0.1 hx0.2.1 (by omega) hz2 (V_lt (N := t + 1) (i := i) (fun j g1 g2 => bf (x + j) (by omega) (by omega)) (fun j g1 g2 => bg j g1 (by omega)) (by omega) (by omega) he (by omega))⟩⟩) (by decide) d_R_isStillIn_61
            · refine zv_iconst hx hb d_R_isStillIn_56 ?_
              refine lv_goto (tgt := 61) hx hb d_R_isStillIn_57 rfl ?_
              rw [hQ]
              exact z_zret hx hb hr hlk hH (⟨rfl, Or.inl ⟨rfl, si_ge bf hx0.1 hx0.2.1 (by omega) hz2 (Int.le_of_lt (V_lt (N := t + 1) (i := i) (fun j g1 g2 => bg j g1 (by omega)) (fun j g1 g2 => bf (x + j) (by omega) (by omega)) (by omega) (by omega) (fun j g1 g2 => (he j g1 g2).symm) (by omega)))⟩⟩) (by decide) d_R_isStillIn_61
    exact L25 ((t + 1 : Int).toNat + 1) t _ H1 lc2 (lv_sub hl [0, 1, 2, 3, 4] rfl) hH (by omega) (by intro j g1 g2; omega) (by omega)
  refine lv_iload_n hx hb d_R_isStillIn_0 rfl (lv_at hl 2 rfl) ?_
  refine lv_iload_n hx hb d_R_isStillIn_1 rfl (lv_at hl 3 rfl) ?_
  refine zv_iadd hx hb d_R_isStillIn_2 ?_
  refine zv_iconst hx hb d_R_isStillIn_3 ?_
  refine zv_iadd hx hb d_R_isStillIn_4 ?_
  refine lv_aload_n hx hb d_R_isStillIn_5 rfl (lv_at hl 0 rfl) ?_
  refine zv_alen hx hb hK hH q0lt c0 d_R_isStillIn_6 ?_
  refine zv_icmp_ge (tgt := 22) hx hb d_R_isStillIn_7 rfl (by omega) (by omega) (fun h12 => ?_) (fun h12 => ?_)
  · exact L22 _ s.heap ([]) (lv_sub hl [0, 1, 2, 3] rfl) hH (by intro j g1 g2; omega)
  · refine lv_aload_n hx hb d_R_isStillIn_10 rfl (lv_at hl 0 rfl) ?_
    refine lv_iload_n hx hb d_R_isStillIn_11 rfl (lv_at hl 2 rfl) ?_
    refine lv_iload_n hx hb d_R_isStillIn_12 rfl (lv_at hl 3 rfl) ?_
    refine zv_iadd hx hb d_R_isStillIn_13 ?_
    refine zv_iconst hx hb d_R_isStillIn_14 ?_
    refine zv_iadd hx hb d_R_isStillIn_15 ?_
    refine zv_iald hx hb hK hH q0lt c0 (by omega) (by omega) (by omega) d_R_isStillIn_16 ?_
    have b13 := bf ((x + t) + 1) (by omega) (by omega)
    refine zv_if_le (tgt := 22) hx hb d_R_isStillIn_17 rfl (by omega) (fun h14 => ?_) (fun h14 => ?_)
    · exact L22 _ s.heap ([]) (lv_sub hl [0, 1, 2, 3] rfl) hH (by intro j g1 g2; by_cases e9 : j = x + t + 1; rw [e9]; omega; exact hz j (by omega) g2)
    · refine zv_iconst hx hb d_R_isStillIn_20 ?_
      rw [hQ]
      exact z_zret hx hb hr hlk hH (⟨rfl, Or.inl ⟨rfl, si_big bf bg hx0.1 hx0.2.1 hx0.2.2.1 (by omega) (by omega)⟩⟩) (by decide) d_R_isStillIn_21
