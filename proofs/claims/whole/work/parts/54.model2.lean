theorem nx_M_roundAt_0 {g : Nat}  : g ≠ g + 11 := by omega
def rm_M_roundAt : Room := { frames := 2, cells := 0, slots := 0, locals := 45 }
set_option maxHeartbeats 4000000 in
set_option maxRecDepth 100000 in
theorem c_M_roundAt (l : Launch) (E : zE) (w0 : zW) (g : Nat) (ty xm ym ne : Int) (f : Int → Int) (n : Int) (q0lt : g < zn E) (q1lt : g + 11 < zn E) (c0 : w0 g = .inr (6, [.ref (ad E (g + 1)), .ref (ad E (g + 2)), .ref (ad E (g + 3)), .ref (ad E (g + 4)), .int (iI ty), .ref (ad E (g + 5)), .ref (ad E (g + 6)), .ref (ad E (g + 7)), .ref (ad E (g + 8)), .ref (ad E (g + 9)), .ref (ad E (g + 10)), .int (iI xm), .int (iI ym), .ref (ad E (g + 11)), .int (iI ne), .ref (ad E (g + 12)), .ref (ad E (g + 13))])) (c1 : w0 (g + 11) = zar E 140 f) (bf : bd f 140 (-1000000) 1000000) (hne : ne = 0 ∨ ne = 1) (hV : -Tp 139 < Vt f 140 ∧ Vt f 140 < Tp 139) (hn : -32 ≤ n ∧ n ≤ 24) : zM l y_M_roundAt ws_M_roundAt rm_M_roundAt E [.ref (ad E g), .int (iI n)] w0 (zQv E w0 (fun w' => (∃ (n' : Int) (f' : Int → Int), w' g = .inr (6, [.ref (ad E (g + 1)), .ref (ad E (g + 2)), .ref (ad E (g + 3)), .ref (ad E (g + 4)), .int (iI ty), .ref (ad E (g + 5)), .ref (ad E (g + 6)), .ref (ad E (g + 7)), .ref (ad E (g + 8)), .ref (ad E (g + 9)), .ref (ad E (g + 10)), .int (iI xm), .int (iI ym), .ref (ad E (g + 11)), .int (iI n'), .ref (ad E (g + 12)), .ref (ad E (g + 13))]) ∧ w' (g + 11) = zar E 140 f' ∧ bd f' 140 0 9 ∧ ((n' = 0 ∨ n' = 1) ∧ ∃ X : Int, AbR (Vt f 140) ne X n' ∧ Vt f' 140 = Rn X (48 - n) ∧ X < Tp 139)) ∧ ∀ k, k ≠ g → k ≠ (g + 11) → w' k = w0 k)) := by
  refine z_met (cc := b_M_roundAt) (maxL := 4) (ret := none) (by decide +kernel) rfl (Nat.le_of_ble_eq_true rfl) ?_
  intro p e s m below meth cd ls a Qf hQ hC hl hH
  obtain ⟨hF, hr, hlk, hK, hG, hn⟩ := hC
  obtain ⟨hx, hb, hml, hown, hts⟩ := hF
  have hg : ∀ w ∈ GW, w.before a s = true := fun w h => hts w (List.mem_cons_of_mem _ h)
  have hA : ∀ q, s.heap.size ≤ q → va_A (wl E w0) s.heap.size q := fun q h => Or.inr h
  have hl : lv_has ls 4 [(0, .ref (ad E g)), (1, .int (iI n))] := hl
  have t140 : Tp 140 = 10 * Tp 139 := Tp_s (i := 139) (by decide)
  have t139 := Tp_pos 139
  refine lv_aload_n hx hb d_M_roundAt_0 rfl (lv_at hl 0 rfl) ?_
  refine z_callv (va_runV (As := []) (rest := []) ⟨hx, hb, hml, hown, hts⟩ (c_M_settle (l := l) (E := E) (w0 := w0) (g := g) (ty := ty) (xm := xm) (ym := ym) (ne := ne) (f := f) (q0lt := q0lt) (q1lt := q1lt) (c0 := c0) (c1 := c1) (bf := bf) (hne := by omega) (hV := (by omega)) s.heap.size) (z_cwV (C := "ScaledNumeralDeskModel") 0 hg wm_794 wm_791 wm_9 wm_793 wm_s41 (by decide +kernel) ⟨Nat.le_of_ble_eq_true rfl, Nat.le_of_ble_eq_true rfl⟩) (z_preV (r := ("ScaledNumeralDeskModel", TM, 17)) hK hG hn hH hA q0lt c0 rfl) rfl rfl hl.1 rfl (lv_room (Nat.le_of_ble_eq_true rfl)) d_M_roundAt_1 ⟨Nat.zero_le _, Nat.zero_le _⟩) hH hA (fun  w3 H1 lc2 hH4 p1 => ?_)
  obtain ⟨⟨n1, f1, e5, e6, bd7, p1⟩, hg8⟩ := p1
  replace bd7 : bd f1 140 0 9 := bd7
  replace p1 : (n1 = 0 ∨ n1 = 1) ∧ ((0 ≤ Vt f 140 ∧ Vt f1 140 = Vt f 140 ∧ n1 = ne) ∨ (Vt f 140 < 0 ∧ Vt f1 140 = -Vt f 140 ∧ n1 = 1 - ne)) := p1
  have hf9 : ∀ k, k ≠ g → k ≠ (g + 11) → w3 k = w0 k := fun k g0 g1 => hg8 k g0 g1
  have bf1 : bd f1 140 0 9 := by assumption
  have ab : AbR (Vt f 140) ne (Vt f1 140) n1 := by unfold AbR; rcases p1.2 with h8 | h8; exact Or.inl ⟨h8.1, h8.2.1, h8.2.2⟩; exact Or.inr ⟨h8.1, h8.2.1, h8.2.2⟩
  have abi := AbR_in ab
  have abl : Vt f1 140 < Tp 139 := by unfold AbR at ab; omega
  have hdg := Vt_dig bf1 (p := 48 - n - 1) (by omega) (by omega)
  have rni := rn_in abi abl (p := 48 - n) (by omega)
  refine zv_bipush hx hb d_M_roundAt_4 rfl ?_
  refine lv_iload_n hx hb d_M_roundAt_6 rfl (lv_at hl 1 rfl) ?_
  refine zv_isub hx hb d_M_roundAt_7 ?_
  refine lv_istore_n (lv' := [(2, .int (iI (48 - n))), (0, .ref (ad E g)), (1, .int (iI n))]) hx hb d_M_roundAt_8 rfl hl (by decide) rfl (fun ls hl => ?_)
  refine lv_aload_n hx hb d_M_roundAt_9 rfl (lv_at hl 1 rfl) ?_
  refine zv_get (C := "ScaledNumeralDeskModel") (T := TM) (N := 17) hx hb hg uM_in hown hK hH4 q0lt e5 rfl 13 (by decide) (hg _ wm_695) (fun _ h9 => h9) rfl d_M_roundAt_10 ?_
  refine lv_iload_n hx hb d_M_roundAt_13 rfl (lv_at hl 0 rfl) ?_
  refine zv_iconst hx hb d_M_roundAt_14 ?_
  refine zv_isub hx hb d_M_roundAt_15 ?_
  refine zv_iald hx hb hK hH4 q1lt e6 (by omega) (by omega) (by omega) d_M_roundAt_16 ?_
  have b10 := bd7 ((48 - n) - 1) (by omega) (by omega)
  have L26 : ∀ (up1 : Int) (ls : Array Slot) (H11 : Heap) (lc12 : List Loc), (lv_has ls 4 [(2, .int (iI (48 - n))), (0, .ref (ad E g)), (1, .int (iI n))]) → (zH E w3 (va_A (wl E w0) s.heap.size) s.heap H11 lc12) → ((up1 = 1 ∧ 5 ≤ f1 (48 - n - 1)) ∨ (up1 = 0 ∧ ¬ 5 ≤ f1 (48 - n - 1))) → W p l e rm_M_roundAt s m a below meth cd H11 lc12 0 0 Qf (F0 m 26 ls [.int (iI up1)]) := by
    intro up1 ls H11 lc12 hl hH hup
    refine lv_istore_n (lv' := [(3, .int (iI up1)), (2, .int (iI (48 - n))), (0, .ref (ad E g)), (1, .int (iI n))]) hx hb d_M_roundAt_26 rfl hl (by decide) rfl (fun ls hl => ?_)
    refine lv_aload_n hx hb d_M_roundAt_27 rfl (lv_at hl 2 rfl) ?_
    refine lv_iload_n hx hb d_M_roundAt_28 rfl (lv_at hl 1 rfl) ?_
    refine z_callv (va_runV (As := [.int (iI (48 - n))]) (rest := []) ⟨hx, hb, hml, hown, hts⟩ (c_M_cut (l := l) (E := E) (w0 := w3) (g := g) (ty := ty) (xm := xm) (ym := ym) (ne := n1) (f := f1) (x := 48 - n) (q0lt := q0lt) (q1lt := q1lt) (c0 := e5) (c1 := e6) (bf := bd7) (hx0 := by omega) H11.size) (z_cwV (C := "ScaledNumeralDeskModel") 1 hg wm_802 wm_799 wm_9 wm_801 wm_s43 (by decide +kernel) ⟨Nat.le_of_ble_eq_true rfl, Nat.le_of_ble_eq_true rfl⟩) (z_preV (r := ("ScaledNumeralDeskModel", TM, 17)) hK hG hn hH hA q0lt e5 rfl) rfl rfl hl.1 rfl (lv_room (Nat.le_of_ble_eq_true rfl)) d_M_roundAt_29 ⟨Nat.zero_le _, Nat.zero_le _⟩) hH hA (fun  w15 H13 lc14 hH16 p29 => ?_)
    obtain ⟨⟨f2, e17, bd18, p29⟩, hg19⟩ := p29
    replace bd18 : bd f2 140 0 9 := bd18
    replace p29 : Vt f2 140 = Vt f1 140 / Tp (48 - n) * Tp (48 - n) ∧ ((48 - n) < 140 → f2 (48 - n) = f1 (48 - n)) := p29
    have e20 : w15 g = .inr (6, [.ref (ad E (g + 1)), .ref (ad E (g + 2)), .ref (ad E (g + 3)), .ref (ad E (g + 4)), .int (iI ty), .ref (ad E (g + 5)), .ref (ad E (g + 6)), .ref (ad E (g + 7)), .ref (ad E (g + 8)), .ref (ad E (g + 9)), .ref (ad E (g + 10)), .int (iI xm), .int (iI ym), .ref (ad E (g + 11)), .int (iI n1), .ref (ad E (g + 12)), .ref (ad E (g + 13))]) := (hg19 g (nx_M_roundAt_0 )).trans e5
    have hf21 : ∀ k, k ≠ g → k ≠ (g + 11) → w15 k = w0 k := fun k g0 g1 => (hg19 k g1).trans (hf9 k g0 g1)
    have bf2 : bd f2 140 0 9 := by assumption
    refine lv_aload_n hx hb d_M_roundAt_32 rfl (lv_at hl 2 rfl) ?_
    refine zv_get (C := "ScaledNumeralDeskModel") (T := TM) (N := 17) hx hb hg uM_in hown hK hH16 q0lt e20 rfl 13 (by decide) (hg _ wm_695) (fun _ h9 => h9) rfl d_M_roundAt_33 ?_
    refine lv_iload_n hx hb d_M_roundAt_36 rfl (lv_at hl 1 rfl) ?_
    refine lv_dup2_11 hx hb d_M_roundAt_37 rfl rfl ?_
    refine zv_iald hx hb hK hH16 q1lt e17 (by omega) (by omega) (by omega) d_M_roundAt_38 ?_
    have b22 := bd18 (48 - n) (by omega) (by omega)
    have L48 : ∀ (u2 : Int) (ls : Array Slot) (H23 : Heap) (lc24 : List Loc), (lv_has ls 4 [(3, .int (iI up1)), (2, .int (iI (48 - n))), (0, .ref (ad E g)), (1, .int (iI n))]) → (zH E w15 (va_A (wl E w0) s.heap.size) s.heap H23 lc24) → (u2 = up1) → W p l e rm_M_roundAt s m a below meth cd H23 lc24 0 0 Qf (F0 m 48 ls [.int (iI u2), .int (iI (f2 (48 - n))), .int (iI (48 - n)), .ref (ad E (g + 11))]) := by
      intro u2 ls H23 lc24 hl hH hu2
      refine zv_iadd hx hb d_M_roundAt_48 ?_
      have hv3 : Vt (up f2 (48 - n) (f2 (48 - n) + u2)) 140 = Rn (Vt f1 140) (48 - n) := by
        rw [Vt_set f2 (by omega) (by omega), Int.add_mul]
        rcases hup with h8 | h8
        · rw [← rn_up (show 0 < 48 - n by omega) p29.1 (by rw [← hdg]; exact h8.2), hu2, h8.1]; omega
        · rw [← rn_dn (show 0 < 48 - n by omega) p29.1 (by rw [← hdg]; exact h8.2), hu2, h8.1]; omega
      have bu2 : bd (up f2 (48 - n) (f2 (48 - n) + u2)) 140 0 10 := by
        intro j g1 g2
        by_cases e8 : j = 48 - n
        · rw [e8, up_at]; have := bf2 (48 - n) (by omega) (by omega); omega
        · rw [up_ne e8]; have := bf2 j g1 g2; omega
      refine zv_iast hx hb hK hH q1lt e17 (by omega) (by omega) (by omega) d_M_roundAt_49 (fun H26 lc27 w25 hH28 e29 hg30 => ?_)
      have e31 : w25 g = .inr (6, [.ref (ad E (g + 1)), .ref (ad E (g + 2)), .ref (ad E (g + 3)), .ref (ad E (g + 4)), .int (iI ty), .ref (ad E (g + 5)), .ref (ad E (g + 6)), .ref (ad E (g + 7)), .ref (ad E (g + 8)), .ref (ad E (g + 9)), .ref (ad E (g + 10)), .int (iI xm), .int (iI ym), .ref (ad E (g + 11)), .int (iI n1), .ref (ad E (g + 12)), .ref (ad E (g + 13))]) := (hg30 g (nx_M_roundAt_0 )).trans e20
      have hf32 : ∀ k, k ≠ g → k ≠ (g + 11) → w25 k = w0 k := fun k g0 g1 => (hg30 k g1).trans (hf21 k g0 g1)
      refine lv_aload_n hx hb d_M_roundAt_50 rfl (lv_at hl 2 rfl) ?_
      refine z_callv (va_runV (As := []) (rest := []) ⟨hx, hb, hml, hown, hts⟩ (c_M_settle (l := l) (E := E) (w0 := w25) (g := g) (ty := ty) (xm := xm) (ym := ym) (ne := n1) (f := up f2 (48 - n) ((f2 (48 - n)) + u2)) (q0lt := q0lt) (q1lt := q1lt) (c0 := e31) (c1 := e29) (bf := (fun j g1 g2 => by have := bu2 j g1 g2; omega)) (hne := by omega) (hV := (by rw [hv3]; omega)) H26.size) (z_cwV (C := "ScaledNumeralDeskModel") 0 hg wm_794 wm_791 wm_9 wm_793 wm_s41 (by decide +kernel) ⟨Nat.le_of_ble_eq_true rfl, Nat.le_of_ble_eq_true rfl⟩) (z_preV (r := ("ScaledNumeralDeskModel", TM, 17)) hK hG hn hH28 hA q0lt e31 rfl) rfl rfl hl.1 rfl (lv_room (Nat.le_of_ble_eq_true rfl)) d_M_roundAt_51 ⟨Nat.zero_le _, Nat.zero_le _⟩) hH28 hA (fun  w35 H33 lc34 hH36 p51 => ?_)
      obtain ⟨⟨n3, f3, e37, e38, bd39, p51⟩, hg40⟩ := p51
      replace bd39 : bd f3 140 0 9 := bd39
      replace p51 : (n3 = 0 ∨ n3 = 1) ∧ ((0 ≤ Vt (up f2 (48 - n) ((f2 (48 - n)) + u2)) 140 ∧ Vt f3 140 = Vt (up f2 (48 - n) ((f2 (48 - n)) + u2)) 140 ∧ n3 = n1) ∨ (Vt (up f2 (48 - n) ((f2 (48 - n)) + u2)) 140 < 0 ∧ Vt f3 140 = -Vt (up f2 (48 - n) ((f2 (48 - n)) + u2)) 140 ∧ n3 = 1 - n1)) := p51
      have hf41 : ∀ k, k ≠ g → k ≠ (g + 11) → w35 k = w0 k := fun k g0 g1 => (hg40 k g0 g1).trans (hf32 k g0 g1)
      rw [hv3] at p51
      have p52 : Vt f3 140 = Rn (Vt f1 140) (48 - n) ∧ n3 = n1 := by rcases p51.2 with h8 | h8; exact ⟨h8.2.1, h8.2.2⟩; exact absurd h8.1 (by omega)
      have n31 := p52.2
      subst n31
      rw [hQ]
      exact z_vret hx hb hr hlk hH36 (⟨⟨n3, f3, e37, e38, bd39, ⟨p51.1, Vt f1 140, ab, p52.1, abl⟩⟩, (fun k g0 g1 => hf41 k g0 g1)⟩) d_M_roundAt_54
    refine lv_iload_n hx hb d_M_roundAt_39 rfl (lv_at hl 0 rfl) ?_
    refine zv_if_eq (tgt := 47) hx hb d_M_roundAt_40 rfl (by omega) (fun h42 => ?_) (fun h42 => ?_)
    · refine zv_iconst hx hb d_M_roundAt_47 ?_
      exact L48 0 _ H13 lc14 (lv_sub hl [0, 1, 2, 3] rfl) hH16 (by omega)
    · refine zv_iconst hx hb d_M_roundAt_43 ?_
      refine lv_goto (tgt := 48) hx hb d_M_roundAt_44 rfl ?_
      exact L48 1 _ H13 lc14 (lv_sub hl [0, 1, 2, 3] rfl) hH16 (by omega)
  refine zv_iconst hx hb d_M_roundAt_17 ?_
  refine zv_icmp_lt (tgt := 25) hx hb d_M_roundAt_18 rfl (by omega) (by omega) (fun h43 => ?_) (fun h43 => ?_)
  · refine zv_iconst hx hb d_M_roundAt_25 ?_
    exact L26 0 _ H1 lc2 (lv_sub hl [0, 1, 2] rfl) hH4 (by omega)
  · refine zv_iconst hx hb d_M_roundAt_21 ?_
    refine lv_goto (tgt := 26) hx hb d_M_roundAt_22 rfl ?_
    exact L26 1 _ H1 lc2 (lv_sub hl [0, 1, 2] rfl) hH4 (by omega)
theorem nx_M_keep_0 {g : Nat}  : g ≠ g + 1 := by omega
theorem nx_M_keep_1 {g : Nat}  : g + 11 ≠ g + 1 := by omega
theorem nx_M_keep_2 {g : Nat}  : g + 2 ≠ g + 1 := by omega
theorem nx_M_keep_3 {g : Nat}  : g + 3 ≠ g + 1 := by omega
theorem nx_M_keep_4 {g : Nat}  : g + 4 ≠ g + 1 := by omega
theorem nx_M_keep_5 {g : Nat}  : g ≠ g + 3 := by omega
theorem nx_M_keep_6 {g : Nat}  : g + 11 ≠ g + 3 := by omega
theorem nx_M_keep_7 {g : Nat}  : g + 1 ≠ g + 3 := by omega
theorem nx_M_keep_8 {g : Nat}  : g + 2 ≠ g + 3 := by omega
theorem nx_M_keep_9 {g : Nat}  : g + 4 ≠ g + 3 := by omega
theorem nx_M_keep_10 {g : Nat}  : g ≠ g + 2 := by omega
theorem nx_M_keep_11 {g : Nat}  : g + 11 ≠ g + 2 := by omega
theorem nx_M_keep_12 {g : Nat}  : g + 1 ≠ g + 2 := by omega
theorem nx_M_keep_13 {g : Nat}  : g + 3 ≠ g + 2 := by omega
theorem nx_M_keep_14 {g : Nat}  : g + 4 ≠ g + 2 := by omega
theorem nx_M_keep_15 {g : Nat}  : g ≠ g + 4 := by omega
theorem nx_M_keep_16 {g : Nat}  : g + 11 ≠ g + 4 := by omega
theorem nx_M_keep_17 {g : Nat}  : g + 1 ≠ g + 4 := by omega
theorem nx_M_keep_18 {g : Nat}  : g + 2 ≠ g + 4 := by omega
theorem nx_M_keep_19 {g : Nat}  : g + 3 ≠ g + 4 := by omega
def rm_M_keep : Room := { frames := 1, cells := 0, slots := 0, locals := 22 }
set_option maxHeartbeats 4000000 in
set_option maxRecDepth 100000 in
theorem c_M_keep (l : Launch) (E : zE) (w0 : zW) (g : Nat) (ty xm ym ne : Int) (f kf mf sf G : Int → Int) (d sc : Int) (q0lt : g < zn E) (q1lt : g + 11 < zn E) (q2lt : g + 1 < zn E) (q3lt : g + 2 < zn E) (q4lt : g + 3 < zn E) (q5lt : g + 4 < zn E) (c0 : w0 g = .inr (6, [.ref (ad E (g + 1)), .ref (ad E (g + 2)), .ref (ad E (g + 3)), .ref (ad E (g + 4)), .int (iI ty), .ref (ad E (g + 5)), .ref (ad E (g + 6)), .ref (ad E (g + 7)), .ref (ad E (g + 8)), .ref (ad E (g + 9)), .ref (ad E (g + 10)), .int (iI xm), .int (iI ym), .ref (ad E (g + 11)), .int (iI ne), .ref (ad E (g + 12)), .ref (ad E (g + 13))])) (c1 : w0 (g + 11) = zar E 140 f) (c2 : w0 (g + 1) = zar E 8 kf) (c3 : w0 (g + 2) = zaz E 8 mf) (c4 : w0 (g + 3) = zar E 8 sf) (c5 : w0 (g + 4) = zar E 448 G) (bf : bd f 140 0 9) (bk : bd kf 8 0 3) (bm : bd mf 8 0 1) (bs : bd sf 8 0 24) (bG : bd G 448 0 9) (hne : ne = 0 ∨ ne = 1) (hd : 0 ≤ d ∧ d < 8) (hsc : 0 ≤ sc ∧ sc ≤ 24) : zM l y_M_keep ws_M_keep rm_M_keep E [.ref (ad E g), .int (iI d), .int (iI sc)] w0 (zQi E w0 (fun z w' => (∃ (k' : Int → Int) (m' : Int → Int) (s' : Int → Int) (G' : Int → Int), w' (g + 1) = zar E 8 k' ∧ w' (g + 2) = zaz E 8 m' ∧ w' (g + 3) = zar E 8 s' ∧ w' (g + 4) = zar E 448 G' ∧ bd k' 8 0 3 ∧ bd m' 8 0 1 ∧ bd s' 8 0 24 ∧ bd G' 448 0 9 ∧ (KpR z d sc ne (Vt f 140) kf sf mf G k' s' m' G')) ∧ ∀ k, k ≠ (g + 1) → k ≠ (g + 2) → k ≠ (g + 3) → k ≠ (g + 4) → w' k = w0 k)) := by
  refine z_met (cc := b_M_keep) (maxL := 4) (ret := (some .int)) (by decide +kernel) rfl (Nat.le_of_ble_eq_true rfl) ?_
  intro p e s m below meth cd ls a Qf hQ hC hl hH
  obtain ⟨hF, hr, hlk, hK, hG, hn⟩ := hC
  obtain ⟨hx, hb, hml, hown, hts⟩ := hF
  have hg : ∀ w ∈ GW, w.before a s = true := fun w h => hts w (List.mem_cons_of_mem _ h)
  have hA : ∀ q, s.heap.size ≤ q → va_A (wl E w0) s.heap.size q := fun q h => Or.inr h
  have hl : lv_has ls 4 [(0, .ref (ad E g)), (1, .int (iI d)), (2, .int (iI sc))] := hl
  have vf := Vt_in bf (show (0 : Int) ≤ 140 by decide) (Int.le_refl 140)
  refine lv_aload_n hx hb d_M_keep_0 rfl (lv_at hl 0 rfl) ?_
  refine zv_bipush hx hb d_M_keep_1 rfl ?_
  refine z_calli (va_runV (As := [.int (iI 80)]) (rest := []) ⟨hx, hb, hml, hown, hts⟩ (c_M_reaches (l := l) (E := E) (w0 := w0) (g := g) (ty := ty) (xm := xm) (ym := ym) (ne := ne) (f := f) (x := 80) (q0lt := q0lt) (q1lt := q1lt) (c0 := c0) (c1 := c1) (bf := bf) (hx0 := by omega) s.heap.size) (z_cwV (C := "ScaledNumeralDeskModel") 1 hg wm_810 wm_807 wm_9 wm_809 wm_s45 (by decide +kernel) ⟨Nat.le_of_ble_eq_true rfl, Nat.le_of_ble_eq_true rfl⟩) (z_preV (r := ("ScaledNumeralDeskModel", TM, 17)) hK hG hn hH hA q0lt c0 rfl) rfl rfl hl.1 rfl (lv_room (Nat.le_of_ble_eq_true rfl)) d_M_keep_3 ⟨Nat.zero_le _, Nat.zero_le _⟩) hH hA (fun z5 w3 H1 lc2 hH4 p3 => ?_)
  obtain ⟨ew6, p3⟩ := p3
  rw [ew6] at hH4
  replace p3 : (z5 = 1 ∧ Tp (80 : Int) ≤ Vt f 140) ∨ (z5 = 0 ∧ Vt f 140 < Tp (80 : Int)) := p3
  refine zv_if_eq (tgt := 12) hx hb d_M_keep_6 rfl (by omega) (fun h7 => ?_) (fun h7 => ?_)
  · refine lv_aload_n hx hb d_M_keep_12 rfl (lv_at hl 0 rfl) ?_
    refine zv_get (C := "ScaledNumeralDeskModel") (T := TM) (N := 17) hx hb hg uM_in hown hK hH4 q0lt c0 rfl 0 (by decide) (hg _ wm_682) (fun _ h9 => h9) rfl d_M_keep_13 ?_
    refine lv_iload_n hx hb d_M_keep_16 rfl (lv_at hl 1 rfl) ?_
    refine zv_iconst hx hb d_M_keep_17 ?_
    refine zv_iast hx hb hK hH4 q2lt c2 (by omega) (by omega) (by omega) d_M_keep_18 (fun H9 lc10 w8 hH11 e12 hg13 => ?_)
    have bd14 := bd_up bk d 0 (by omega)
    have e15 : w8 g = .inr (6, [.ref (ad E (g + 1)), .ref (ad E (g + 2)), .ref (ad E (g + 3)), .ref (ad E (g + 4)), .int (iI ty), .ref (ad E (g + 5)), .ref (ad E (g + 6)), .ref (ad E (g + 7)), .ref (ad E (g + 8)), .ref (ad E (g + 9)), .ref (ad E (g + 10)), .int (iI xm), .int (iI ym), .ref (ad E (g + 11)), .int (iI ne), .ref (ad E (g + 12)), .ref (ad E (g + 13))]) := (hg13 g (nx_M_keep_0 )).trans c0
    have e16 : w8 (g + 11) = zar E 140 f := (hg13 (g + 11) (nx_M_keep_1 )).trans c1
    have e17 : w8 (g + 2) = zaz E 8 mf := (hg13 (g + 2) (nx_M_keep_2 )).trans c3
    have e18 : w8 (g + 3) = zar E 8 sf := (hg13 (g + 3) (nx_M_keep_3 )).trans c4
    have e19 : w8 (g + 4) = zar E 448 G := (hg13 (g + 4) (nx_M_keep_4 )).trans c5
    have hf20 : ∀ k, k ≠ (g + 1) → w8 k = w0 k := fun k g0 => hg13 k g0
    refine lv_aload_n hx hb d_M_keep_19 rfl (lv_at hl 0 rfl) ?_
    refine zv_get (C := "ScaledNumeralDeskModel") (T := TM) (N := 17) hx hb hg uM_in hown hK hH11 q0lt e15 rfl 2 (by decide) (hg _ wm_684) (fun _ h9 => h9) rfl d_M_keep_20 ?_
    refine lv_iload_n hx hb d_M_keep_23 rfl (lv_at hl 1 rfl) ?_
    refine lv_iload_n hx hb d_M_keep_24 rfl (lv_at hl 2 rfl) ?_
    refine zv_iast hx hb hK hH11 q4lt e18 (by omega) (by omega) (by omega) d_M_keep_25 (fun H22 lc23 w21 hH24 e25 hg26 => ?_)
    have bd27 := bd_up bs d sc (by omega)
    have e28 : w21 g = .inr (6, [.ref (ad E (g + 1)), .ref (ad E (g + 2)), .ref (ad E (g + 3)), .ref (ad E (g + 4)), .int (iI ty), .ref (ad E (g + 5)), .ref (ad E (g + 6)), .ref (ad E (g + 7)), .ref (ad E (g + 8)), .ref (ad E (g + 9)), .ref (ad E (g + 10)), .int (iI xm), .int (iI ym), .ref (ad E (g + 11)), .int (iI ne), .ref (ad E (g + 12)), .ref (ad E (g + 13))]) := (hg26 g (nx_M_keep_5 )).trans e15
    have e29 : w21 (g + 11) = zar E 140 f := (hg26 (g + 11) (nx_M_keep_6 )).trans e16
    have e30 : w21 (g + 1) = zar E 8 (up kf d 0) := (hg26 (g + 1) (nx_M_keep_7 )).trans e12
    have e31 : w21 (g + 2) = zaz E 8 mf := (hg26 (g + 2) (nx_M_keep_8 )).trans e17
    have e32 : w21 (g + 4) = zar E 448 G := (hg26 (g + 4) (nx_M_keep_9 )).trans e19
    have hf33 : ∀ k, k ≠ (g + 1) → k ≠ (g + 3) → w21 k = w0 k := fun k g0 g1 => (hg26 k g1).trans (hf20 k g0)
    refine lv_aload_n hx hb d_M_keep_26 rfl (lv_at hl 0 rfl) ?_
    refine zv_get (C := "ScaledNumeralDeskModel") (T := TM) (N := 17) hx hb hg uM_in hown hK hH24 q0lt e28 rfl 1 (by decide) (hg _ wm_683) (fun _ h9 => h9) rfl d_M_keep_27 ?_
    refine lv_iload_n hx hb d_M_keep_30 rfl (lv_at hl 1 rfl) ?_
    have L52 : ∀ (mi : Int) (ls : Array Slot) (H34 : Heap) (lc35 : List Loc), (lv_has ls 4 [(0, .ref (ad E g)), (1, .int (iI d)), (2, .int (iI sc))]) → (zH E w21 (va_A (wl E w0) s.heap.size) s.heap H34 lc35) → ((mi = 0 ∧ Vt f 140 < Tp 24) ∨ (mi = ne ∧ Tp 24 ≤ Vt f 140) ∨ (mi = 0 ∧ ne = 0)) → (mi = 0 ∨ mi = 1) → W p l e rm_M_keep s m a below meth cd H34 lc35 0 0 Qf (F0 m 52 ls [.int (iI mi), .int (iI d), .ref (ad E (g + 2))]) := by
      intro mi ls H34 lc35 hl hH hmi hm2
      refine zv_zast hx hb hK hH q3lt e31 (by omega) (by omega) (by omega) (by omega) d_M_keep_52 (fun H37 lc38 w36 hH39 e40 hg41 => ?_)
      have bd42 := bd_up bm d mi (by omega)
      have e43 : w36 g = .inr (6, [.ref (ad E (g + 1)), .ref (ad E (g + 2)), .ref (ad E (g + 3)), .ref (ad E (g + 4)), .int (iI ty), .ref (ad E (g + 5)), .ref (ad E (g + 6)), .ref (ad E (g + 7)), .ref (ad E (g + 8)), .ref (ad E (g + 9)), .ref (ad E (g + 10)), .int (iI xm), .int (iI ym), .ref (ad E (g + 11)), .int (iI ne), .ref (ad E (g + 12)), .ref (ad E (g + 13))]) := (hg41 g (nx_M_keep_10 )).trans e28
      have e44 : w36 (g + 11) = zar E 140 f := (hg41 (g + 11) (nx_M_keep_11 )).trans e29
      have e45 : w36 (g + 1) = zar E 8 (up kf d 0) := (hg41 (g + 1) (nx_M_keep_12 )).trans e30
      have e46 : w36 (g + 3) = zar E 8 (up sf d sc) := (hg41 (g + 3) (nx_M_keep_13 )).trans e25
      have e47 : w36 (g + 4) = zar E 448 G := (hg41 (g + 4) (nx_M_keep_14 )).trans e32
      have hf48 : ∀ k, k ≠ (g + 1) → k ≠ (g + 3) → k ≠ (g + 2) → w36 k = w0 k := fun k g0 g1 g2 => (hg41 k g2).trans (hf33 k g0 g1)
      refine zv_iconst hx hb d_M_keep_53 ?_
      refine lv_istore_n (lv' := [(3, .int (iI 0)), (0, .ref (ad E g)), (1, .int (iI d)), (2, .int (iI sc))]) hx hb d_M_keep_54 rfl hl (by decide) rfl (fun ls hl => ?_)
      have L55 : ∀ (fu : Nat) (i : Int) (h : Int → Int) (ls : Array Slot) (H49 : Heap) (lc50 : List Loc) (w51 : zW), (lv_has ls 4 [(3, .int (iI i)), (0, .ref (ad E g)), (1, .int (iI d)), (2, .int (iI sc))]) → (zH E w51 (va_A (wl E w0) s.heap.size) s.heap H49 lc50) → (w51 g = .inr (6, [.ref (ad E (g + 1)), .ref (ad E (g + 2)), .ref (ad E (g + 3)), .ref (ad E (g + 4)), .int (iI ty), .ref (ad E (g + 5)), .ref (ad E (g + 6)), .ref (ad E (g + 7)), .ref (ad E (g + 8)), .ref (ad E (g + 9)), .ref (ad E (g + 10)), .int (iI xm), .int (iI ym), .ref (ad E (g + 11)), .int (iI ne), .ref (ad E (g + 12)), .ref (ad E (g + 13))])) → (w51 (g + 11) = zar E 140 f) → (w51 (g + 1) = zar E 8 (up kf d 0)) → (w51 (g + 2) = zaz E 8 (up mf d mi)) → (w51 (g + 3) = zar E 8 (up sf d sc)) → (w51 (g + 4) = zar E 448 h) → (∀ k, k ≠ (g + 1) → k ≠ (g + 3) → k ≠ (g + 2) → k ≠ (g + 4) → w51 k = w0 k) → (bd h 448 0 9) → (0 ≤ i ∧ i ≤ 56) → (∀ j : Int, 0 ≤ j → j < i → h (56 * d + j) = f (24 + j)) → (∀ j : Int, ¬ (56 * d ≤ j ∧ j < 56 * d + 56) → h j = G j) → (56 - i < (fu : Int)) → W p l e rm_M_keep s m a below meth cd H49 lc50 0 0 Qf (F0 m 55 ls []) := by
        intro fu
        induction fu with
        | zero => intro i h ls H49 lc50 w51 hl hH e52 e53 e54 e55 e56 e57 hf58 bh hi hk ho hm; exact absurd hm (by omega)
        | succ fu ih =>
          intro i h ls H49 lc50 w51 hl hH e52 e53 e54 e55 e56 e57 hf58 bh hi hk ho hm
          refine lv_iload_n hx hb d_M_keep_55 rfl (lv_at hl 0 rfl) ?_
          refine zv_bipush hx hb d_M_keep_56 rfl ?_
          refine zv_icmp_ge (tgt := 87) hx hb d_M_keep_58 rfl (by omega) (by omega) (fun h59 => ?_) (fun h59 => ?_)
          · refine zv_iconst hx hb d_M_keep_87 ?_
            rw [hQ]
            exact z_iret hx hb hr hlk hH (⟨⟨(up kf d 0), (up mf d mi), (up sf d sc), h, e54, e55, e56, e57, bd14, bd42, bd27, bh, Or.inr ⟨rfl, by omega, rfl, rfl, ⟨mi, rfl, hm2, kp_sg vf.1 hmi⟩, kp_V bf (by omega) (fun j g1 g2 => hk j g1 (by omega)), ho⟩⟩, (fun k g0 g1 g2 g3 => hf58 k g0 g2 g1 g3)⟩) d_M_keep_88
          · refine lv_aload_n hx hb d_M_keep_61 rfl (lv_at hl 1 rfl) ?_
            refine zv_get (C := "ScaledNumeralDeskModel") (T := TM) (N := 17) hx hb hg uM_in hown hK hH q0lt e52 rfl 3 (by decide) (hg _ wm_685) (fun _ h9 => h9) rfl d_M_keep_62 ?_
            refine zv_bipush hx hb d_M_keep_65 rfl ?_
            refine lv_iload_n hx hb d_M_keep_67 rfl (lv_at hl 2 rfl) ?_
            refine zv_imul hx hb d_M_keep_68 ?_
            refine lv_iload_n hx hb d_M_keep_69 rfl (lv_at hl 0 rfl) ?_
            refine zv_iadd hx hb d_M_keep_70 ?_
            refine lv_aload_n hx hb d_M_keep_71 rfl (lv_at hl 1 rfl) ?_
            refine zv_get (C := "ScaledNumeralDeskModel") (T := TM) (N := 17) hx hb hg uM_in hown hK hH q0lt e52 rfl 13 (by decide) (hg _ wm_695) (fun _ h9 => h9) rfl d_M_keep_72 ?_
            refine zv_bipush hx hb d_M_keep_75 rfl ?_
            refine lv_iload_n hx hb d_M_keep_77 rfl (lv_at hl 0 rfl) ?_
            refine zv_iadd hx hb d_M_keep_78 ?_
            refine zv_iald hx hb hK hH q1lt e53 (by omega) (by omega) (by omega) d_M_keep_79 ?_
            have b60 := bf (24 + i) (by omega) (by omega)
            refine zv_iast hx hb hK hH q5lt e57 (by omega) (by omega) (by omega) d_M_keep_80 (fun H62 lc63 w61 hH64 e65 hg66 => ?_)
            have bd67 := bd_up bh ((56 * d) + i) (f (24 + i)) (by omega)
            have e68 : w61 g = .inr (6, [.ref (ad E (g + 1)), .ref (ad E (g + 2)), .ref (ad E (g + 3)), .ref (ad E (g + 4)), .int (iI ty), .ref (ad E (g + 5)), .ref (ad E (g + 6)), .ref (ad E (g + 7)), .ref (ad E (g + 8)), .ref (ad E (g + 9)), .ref (ad E (g + 10)), .int (iI xm), .int (iI ym), .ref (ad E (g + 11)), .int (iI ne), .ref (ad E (g + 12)), .ref (ad E (g + 13))]) := (hg66 g (nx_M_keep_15 )).trans e52
            have e69 : w61 (g + 11) = zar E 140 f := (hg66 (g + 11) (nx_M_keep_16 )).trans e53
            have e70 : w61 (g + 1) = zar E 8 (up kf d 0) := (hg66 (g + 1) (nx_M_keep_17 )).trans e54
            have e71 : w61 (g + 2) = zaz E 8 (up mf d mi) := (hg66 (g + 2) (nx_M_keep_18 )).trans e55
            have e72 : w61 (g + 3) = zar E 8 (up sf d sc) := (hg66 (g + 3) (nx_M_keep_19 )).trans e56
            have hf73 : ∀ k, k ≠ (g + 1) → k ≠ (g + 3) → k ≠ (g + 2) → k ≠ (g + 4) → w61 k = w0 k := fun k g0 g1 g2 g3 => (hg66 k g3).trans (hf58 k g0 g1 g2 g3)
            refine zv_iinc (k := 0) (lv' := [(3, .int (iI (i + 1))), (0, .ref (ad E g)), (1, .int (iI d)), (2, .int (iI sc))]) hx hb d_M_keep_81 hl rfl (by decide) rfl (fun ls hl => ?_)
            refine lv_goto (tgt := 55) hx hb d_M_keep_84 rfl ?_
            exact ih  (i + 1) (up h ((56 * d) + i) (f (24 + i))) _ H62 lc63 w61 (lv_sub hl [0, 1, 2, 3] rfl) hH64 e68 e69 e70 e71 e72 e65 (fun k g0 g1 g2 g3 => hf73 k g0 g1 g2 g3) (by assumption) (by omega) (by intro j g1 g2; by_cases e8 : j = i; rw [e8, up_at]; rw [up_ne (by omega)]; exact hk j g1 (by omega)) (by intro j g1; rw [up_ne (by omega)]; exact ho j g1) (by omega)
      exact L55 ((56 - 0 : Int).toNat + 1) 0 G _ H37 lc38 w36 (lv_sub hl [0, 1, 2, 3] rfl) hH39 e43 e44 e45 e40 e46 e47 (fun k g0 g1 g2 g3 => hf48 k g0 g1 g2) (by exact bG) (by omega) (by intro j g1 g2; omega) (by intro j _; rfl) (by omega)
    refine lv_aload_n hx hb d_M_keep_31 rfl (lv_at hl 0 rfl) ?_
    refine zv_get (C := "ScaledNumeralDeskModel") (T := TM) (N := 17) hx hb hg uM_in hown hK hH24 q0lt e28 rfl 14 (by decide) (hg _ wm_696) (fun _ h9 => h9) rfl d_M_keep_32 ?_
    refine zv_if_eq (tgt := 51) hx hb d_M_keep_35 rfl (by omega) (fun h74 => ?_) (fun h74 => ?_)
    · refine zv_iconst hx hb d_M_keep_51 ?_
      exact L52 0 _ H22 lc23 (lv_sub hl [0, 1, 2] rfl) hH24 (by omega) (by omega)
    · refine lv_aload_n hx hb d_M_keep_38 rfl (lv_at hl 0 rfl) ?_
      refine zv_bipush hx hb d_M_keep_39 rfl ?_
      refine z_calli (va_runV (As := [.int (iI 24)]) (rest := [.int (iI d), .ref (ad E (g + 2))]) ⟨hx, hb, hml, hown, hts⟩ (c_M_reaches (l := l) (E := E) (w0 := w21) (g := g) (ty := ty) (xm := xm) (ym := ym) (ne := ne) (f := f) (x := 24) (q0lt := q0lt) (q1lt := q1lt) (c0 := e28) (c1 := e29) (bf := bf) (hx0 := by omega) H22.size) (z_cwV (C := "ScaledNumeralDeskModel") 1 hg wm_810 wm_807 wm_9 wm_809 wm_s45 (by decide +kernel) ⟨Nat.le_of_ble_eq_true rfl, Nat.le_of_ble_eq_true rfl⟩) (z_preV (r := ("ScaledNumeralDeskModel", TM, 17)) hK hG hn hH24 hA q0lt e28 rfl) rfl rfl hl.1 rfl (lv_room (Nat.le_of_ble_eq_true rfl)) d_M_keep_41 ⟨Nat.zero_le _, Nat.zero_le _⟩) hH24 hA (fun z79 w77 H75 lc76 hH78 p41 => ?_)
      obtain ⟨ew80, p41⟩ := p41
      rw [ew80] at hH78
      replace p41 : (z79 = 1 ∧ Tp (24 : Int) ≤ Vt f 140) ∨ (z79 = 0 ∧ Vt f 140 < Tp (24 : Int)) := p41
      refine zv_if_eq (tgt := 51) hx hb d_M_keep_44 rfl (by omega) (fun h81 => ?_) (fun h81 => ?_)
      · refine zv_iconst hx hb d_M_keep_51 ?_
        exact L52 0 _ H75 lc76 (lv_sub hl [0, 1, 2] rfl) hH78 (by omega) (by omega)
      · refine zv_iconst hx hb d_M_keep_47 ?_
        refine lv_goto (tgt := 52) hx hb d_M_keep_48 rfl ?_
        exact L52 1 _ H75 lc76 (lv_sub hl [0, 1, 2] rfl) hH78 (by omega) (by omega)
  · refine zv_bipush hx hb d_M_keep_9 rfl ?_
    rw [hQ]
    exact z_iret hx hb hr hlk hH4 (⟨⟨kf, mf, sf, G, c2, c3, c4, c5, bk, bm, bs, bG, Or.inl ⟨rfl, by omega, rfl, rfl, rfl, rfl⟩⟩, (fun k _ _ _ _ => rfl)⟩) d_M_keep_11
theorem nx_M_finish_0 {g : Nat}  : g + 1 ≠ g := by omega
theorem nx_M_finish_1 {g : Nat}  : g + 1 ≠ g + 11 := by omega
theorem nx_M_finish_2 {g : Nat}  : g + 2 ≠ g := by omega
theorem nx_M_finish_3 {g : Nat}  : g + 2 ≠ g + 11 := by omega
theorem nx_M_finish_4 {g : Nat}  : g + 3 ≠ g := by omega
theorem nx_M_finish_5 {g : Nat}  : g + 3 ≠ g + 11 := by omega
theorem nx_M_finish_6 {g : Nat}  : g + 4 ≠ g := by omega
theorem nx_M_finish_7 {g : Nat}  : g + 4 ≠ g + 11 := by omega
theorem nx_M_finish_8 {g : Nat}  : g ≠ g + 1 := by omega
theorem nx_M_finish_9 {g : Nat}  : g ≠ g + 2 := by omega
theorem nx_M_finish_10 {g : Nat}  : g ≠ g + 3 := by omega
theorem nx_M_finish_11 {g : Nat}  : g ≠ g + 4 := by omega
theorem nx_M_finish_12 {g : Nat}  : g + 11 ≠ g + 1 := by omega
theorem nx_M_finish_13 {g : Nat}  : g + 11 ≠ g + 2 := by omega
theorem nx_M_finish_14 {g : Nat}  : g + 11 ≠ g + 3 := by omega
theorem nx_M_finish_15 {g : Nat}  : g + 11 ≠ g + 4 := by omega
def rm_M_finish : Room := { frames := 3, cells := 0, slots := 0, locals := 68 }
set_option maxHeartbeats 4000000 in
set_option maxRecDepth 100000 in
theorem c_M_finish (l : Launch) (E : zE) (w0 : zW) (g : Nat) (ty xm ym ne : Int) (f kf mf sf G : Int → Int) (d n : Int) (q0lt : g < zn E) (q1lt : g + 11 < zn E) (q2lt : g + 1 < zn E) (q3lt : g + 2 < zn E) (q4lt : g + 3 < zn E) (q5lt : g + 4 < zn E) (c0 : w0 g = .inr (6, [.ref (ad E (g + 1)), .ref (ad E (g + 2)), .ref (ad E (g + 3)), .ref (ad E (g + 4)), .int (iI ty), .ref (ad E (g + 5)), .ref (ad E (g + 6)), .ref (ad E (g + 7)), .ref (ad E (g + 8)), .ref (ad E (g + 9)), .ref (ad E (g + 10)), .int (iI xm), .int (iI ym), .ref (ad E (g + 11)), .int (iI ne), .ref (ad E (g + 12)), .ref (ad E (g + 13))])) (c1 : w0 (g + 11) = zar E 140 f) (c2 : w0 (g + 1) = zar E 8 kf) (c3 : w0 (g + 2) = zaz E 8 mf) (c4 : w0 (g + 3) = zar E 8 sf) (c5 : w0 (g + 4) = zar E 448 G) (bf : bd f 140 (-1000000) 1000000) (bk : bd kf 8 0 3) (bm : bd mf 8 0 1) (bs : bd sf 8 0 24) (bG : bd G 448 0 9) (hne : ne = 0 ∨ ne = 1) (hV : -Tp 139 < Vt f 140 ∧ Vt f 140 < Tp 139) (hd : 0 ≤ d ∧ d < 8) (hn : -32 ≤ n ∧ n ≤ 24) : zM l y_M_finish ws_M_finish rm_M_finish E [.ref (ad E g), .int (iI d), .int (iI n)] w0 (zQi E w0 (fun z w' => (∃ (n' : Int) (f' : Int → Int) (k' : Int → Int) (m' : Int → Int) (s' : Int → Int) (G' : Int → Int), w' g = .inr (6, [.ref (ad E (g + 1)), .ref (ad E (g + 2)), .ref (ad E (g + 3)), .ref (ad E (g + 4)), .int (iI ty), .ref (ad E (g + 5)), .ref (ad E (g + 6)), .ref (ad E (g + 7)), .ref (ad E (g + 8)), .ref (ad E (g + 9)), .ref (ad E (g + 10)), .int (iI xm), .int (iI ym), .ref (ad E (g + 11)), .int (iI n'), .ref (ad E (g + 12)), .ref (ad E (g + 13))]) ∧ w' (g + 11) = zar E 140 f' ∧ w' (g + 1) = zar E 8 k' ∧ w' (g + 2) = zaz E 8 m' ∧ w' (g + 3) = zar E 8 s' ∧ w' (g + 4) = zar E 448 G' ∧ bd f' 140 0 9 ∧ bd k' 8 0 3 ∧ bd m' 8 0 1 ∧ bd s' 8 0 24 ∧ bd G' 448 0 9 ∧ ((n' = 0 ∨ n' = 1) ∧ ∃ X : Int, AbR (Vt f 140) ne X n' ∧ KpR z d (mx0 n) n' (Rn X (48 - n)) kf sf mf G k' s' m' G')) ∧ ∀ k, k ≠ g → k ≠ (g + 11) → k ≠ (g + 1) → k ≠ (g + 2) → k ≠ (g + 3) → k ≠ (g + 4) → w' k = w0 k)) := by
  refine z_met (cc := b_M_finish) (maxL := 3) (ret := (some .int)) (by decide +kernel) rfl (Nat.le_of_ble_eq_true rfl) ?_
  intro p e s m below meth cd ls a Qf hQ hC hl hH
  obtain ⟨hF, hr, hlk, hK, hG, hn⟩ := hC
  obtain ⟨hx, hb, hml, hown, hts⟩ := hF
  have hg : ∀ w ∈ GW, w.before a s = true := fun w h => hts w (List.mem_cons_of_mem _ h)
  have hA : ∀ q, s.heap.size ≤ q → va_A (wl E w0) s.heap.size q := fun q h => Or.inr h
  have hl : lv_has ls 3 [(0, .ref (ad E g)), (1, .int (iI d)), (2, .int (iI n))] := hl
  refine lv_aload_n hx hb d_M_finish_0 rfl (lv_at hl 0 rfl) ?_
  refine lv_iload_n hx hb d_M_finish_1 rfl (lv_at hl 2 rfl) ?_
  refine z_callv (va_runV (As := [.int (iI n)]) (rest := []) ⟨hx, hb, hml, hown, hts⟩ (c_M_roundAt (l := l) (E := E) (w0 := w0) (g := g) (ty := ty) (xm := xm) (ym := ym) (ne := ne) (f := f) (n := n) (q0lt := q0lt) (q1lt := q1lt) (c0 := c0) (c1 := c1) (bf := bf) (hne := by omega) (hV := by omega) (hn := by omega) s.heap.size) (z_cwV (C := "ScaledNumeralDeskModel") 1 hg wm_790 wm_787 wm_9 wm_789 wm_s40 (by decide +kernel) ⟨Nat.le_of_ble_eq_true rfl, Nat.le_of_ble_eq_true rfl⟩) (z_preV (r := ("ScaledNumeralDeskModel", TM, 17)) hK hG hn hH hA q0lt c0 rfl) rfl rfl hl.1 rfl (lv_room (Nat.le_of_ble_eq_true rfl)) d_M_finish_2 ⟨Nat.zero_le _, Nat.zero_le _⟩) hH hA (fun  w3 H1 lc2 hH4 p2 => ?_)
  obtain ⟨⟨n_5, f_6, e7, e8, bd9, p2⟩, hg10⟩ := p2
  replace bd9 : bd f_6 140 0 9 := bd9
  replace p2 : (n_5 = 0 ∨ n_5 = 1) ∧ ∃ X : Int, AbR (Vt f 140) ne X n_5 ∧ Vt f_6 140 = Rn X (48 - n) ∧ X < Tp 139 := p2
  have e11 : w3 (g + 1) = zar E 8 kf := (hg10 (g + 1) (nx_M_finish_0 ) (nx_M_finish_1 )).trans c2
  have e12 : w3 (g + 2) = zaz E 8 mf := (hg10 (g + 2) (nx_M_finish_2 ) (nx_M_finish_3 )).trans c3
  have e13 : w3 (g + 3) = zar E 8 sf := (hg10 (g + 3) (nx_M_finish_4 ) (nx_M_finish_5 )).trans c4
  have e14 : w3 (g + 4) = zar E 448 G := (hg10 (g + 4) (nx_M_finish_6 ) (nx_M_finish_7 )).trans c5
  have hf15 : ∀ k, k ≠ g → k ≠ (g + 11) → w3 k = w0 k := fun k g0 g1 => hg10 k g0 g1
  obtain ⟨p2a, X, p2b, p2c, p2d⟩ := p2
  refine lv_aload_n hx hb d_M_finish_5 rfl (lv_at hl 0 rfl) ?_
  refine lv_iload_n hx hb d_M_finish_6 rfl (lv_at hl 1 rfl) ?_
  have L16 : ∀ (mm : Int) (ls : Array Slot) (H16 : Heap) (lc17 : List Loc), (lv_has ls 3 [(0, .ref (ad E g)), (1, .int (iI d)), (2, .int (iI n))]) → (zH E w3 (va_A (wl E w0) s.heap.size) s.heap H16 lc17) → (mm = mx0 n) → (0 ≤ mm ∧ mm ≤ 24) → W p l e rm_M_finish s m a below meth cd H16 lc17 0 0 Qf (F0 m 16 ls [.int (iI mm), .int (iI d), .ref (ad E g)]) := by
    intro mm ls H16 lc17 hl hH hmm hm0
    refine z_calli (va_runV (As := [.int (iI d), .int (iI mm)]) (rest := []) ⟨hx, hb, hml, hown, hts⟩ (c_M_keep (l := l) (E := E) (w0 := w3) (g := g) (ty := ty) (xm := xm) (ym := ym) (ne := n_5) (f := f_6) (kf := kf) (mf := mf) (sf := sf) (G := G) (d := d) (sc := mm) (q0lt := q0lt) (q1lt := q1lt) (q2lt := q2lt) (q3lt := q3lt) (q4lt := q4lt) (q5lt := q5lt) (c0 := e7) (c1 := e8) (c2 := e11) (c3 := e12) (c4 := e13) (c5 := e14) (bf := bd9) (bk := bk) (bm := bm) (bs := bs) (bG := bG) (hne := by omega) (hd := by omega) (hsc := by omega) H16.size) (z_cwV (C := "ScaledNumeralDeskModel") 2 hg wm_806 wm_803 wm_9 wm_805 wm_s44 (by decide +kernel) ⟨Nat.le_of_ble_eq_true rfl, Nat.le_of_ble_eq_true rfl⟩) (z_preV (r := ("ScaledNumeralDeskModel", TM, 17)) hK hG hn hH hA q0lt e7 rfl) rfl rfl hl.1 rfl (lv_room (Nat.le_of_ble_eq_true rfl)) d_M_finish_16 ⟨Nat.zero_le _, Nat.zero_le _⟩) hH hA (fun z22 w20 H18 lc19 hH21 p16 => ?_)
    obtain ⟨⟨k_23, m_24, s_25, x_26, e27, e28, e29, e30, bd31, bd32, bd33, bd34, p16⟩, hg35⟩ := p16
    replace bd31 : bd k_23 8 0 3 := bd31
    replace bd32 : bd m_24 8 0 1 := bd32
    replace bd33 : bd s_25 8 0 24 := bd33
    replace bd34 : bd x_26 448 0 9 := bd34
    replace p16 : KpR z22 d mm n_5 (Vt f_6 140) kf sf mf G k_23 s_25 m_24 x_26 := p16
    have e36 : w20 g = .inr (6, [.ref (ad E (g + 1)), .ref (ad E (g + 2)), .ref (ad E (g + 3)), .ref (ad E (g + 4)), .int (iI ty), .ref (ad E (g + 5)), .ref (ad E (g + 6)), .ref (ad E (g + 7)), .ref (ad E (g + 8)), .ref (ad E (g + 9)), .ref (ad E (g + 10)), .int (iI xm), .int (iI ym), .ref (ad E (g + 11)), .int (iI n_5), .ref (ad E (g + 12)), .ref (ad E (g + 13))]) := (hg35 g (nx_M_finish_8 ) (nx_M_finish_9 ) (nx_M_finish_10 ) (nx_M_finish_11 )).trans e7
    have e37 : w20 (g + 11) = zar E 140 f_6 := (hg35 (g + 11) (nx_M_finish_12 ) (nx_M_finish_13 ) (nx_M_finish_14 ) (nx_M_finish_15 )).trans e8
    have hf38 : ∀ k, k ≠ g → k ≠ (g + 11) → k ≠ (g + 1) → k ≠ (g + 2) → k ≠ (g + 3) → k ≠ (g + 4) → w20 k = w0 k := fun k g0 g1 g2 g3 g4 g5 => (hg35 k g2 g3 g4 g5).trans (hf15 k g0 g1)
    rw [p2c, hmm] at p16
    rw [hQ]
    exact z_iret hx hb hr hlk hH21 (⟨⟨n_5, f_6, k_23, m_24, s_25, x_26, e36, e37, e27, e28, e29, e30, bd9, bd31, bd32, bd33, bd34, ⟨p2a, X, p2b, p16⟩⟩, (fun k g0 g1 g2 g3 g4 g5 => hf38 k g0 g1 g2 g3 g4 g5)⟩) d_M_finish_19
  refine lv_iload_n hx hb d_M_finish_7 rfl (lv_at hl 2 rfl) ?_
  refine zv_if_ge (tgt := 15) hx hb d_M_finish_8 rfl (by omega) (fun h39 => ?_) (fun h39 => ?_)
  · refine lv_iload_n hx hb d_M_finish_15 rfl (lv_at hl 2 rfl) ?_
    exact L16 n _ H1 lc2 (lv_sub hl [0, 1, 2] rfl) hH4 (by unfold mx0; omega) (by omega)
  · refine zv_iconst hx hb d_M_finish_11 ?_
    refine lv_goto (tgt := 16) hx hb d_M_finish_12 rfl ?_
    exact L16 0 _ H1 lc2 (lv_sub hl [0, 1, 2] rfl) hH4 (by unfold mx0; omega) (by omega)
theorem nx_M_takeX_0 {g : Nat}  : g + 2 ≠ g := by omega
theorem nx_M_takeX_1 {g : Nat}  : g + 4 ≠ g := by omega
theorem nx_M_takeX_2 {g : Nat}  : g + 9 ≠ g := by omega
theorem nx_M_takeX_3 {g : Nat}  : g ≠ g + 9 := by omega
theorem nx_M_takeX_4 {g : Nat}  : g + 2 ≠ g + 9 := by omega
theorem nx_M_takeX_5 {g : Nat}  : g + 4 ≠ g + 9 := by omega
def rm_M_takeX : Room := { frames := 0, cells := 0, slots := 0, locals := 0 }
set_option maxHeartbeats 4000000 in
set_option maxRecDepth 100000 in
theorem c_M_takeX (l : Launch) (E : zE) (w0 : zW) (g : Nat) (ty xm ym ne : Int) (mf G xf : Int → Int) (r : Int) (q0lt : g < zn E) (q1lt : g + 2 < zn E) (q2lt : g + 4 < zn E) (q3lt : g + 9 < zn E) (c0 : w0 g = .inr (6, [.ref (ad E (g + 1)), .ref (ad E (g + 2)), .ref (ad E (g + 3)), .ref (ad E (g + 4)), .int (iI ty), .ref (ad E (g + 5)), .ref (ad E (g + 6)), .ref (ad E (g + 7)), .ref (ad E (g + 8)), .ref (ad E (g + 9)), .ref (ad E (g + 10)), .int (iI xm), .int (iI ym), .ref (ad E (g + 11)), .int (iI ne), .ref (ad E (g + 12)), .ref (ad E (g + 13))])) (c1 : w0 (g + 2) = zaz E 8 mf) (c2 : w0 (g + 4) = zar E 448 G) (c3 : w0 (g + 9) = zar E 56 xf) (bm : bd mf 8 0 1) (bG : bd G 448 0 9) (hr0 : 0 ≤ r ∧ r < 8) : zM l y_M_takeX ws_M_takeX rm_M_takeX E [.ref (ad E g), .int (iI r)] w0 (zQv E w0 (fun w' => (∃ (x' : Int → Int), w' g = .inr (6, [.ref (ad E (g + 1)), .ref (ad E (g + 2)), .ref (ad E (g + 3)), .ref (ad E (g + 4)), .int (iI ty), .ref (ad E (g + 5)), .ref (ad E (g + 6)), .ref (ad E (g + 7)), .ref (ad E (g + 8)), .ref (ad E (g + 9)), .ref (ad E (g + 10)), .int (iI (mf r)), .int (iI ym), .ref (ad E (g + 11)), .int (iI ne), .ref (ad E (g + 12)), .ref (ad E (g + 13))]) ∧ w' (g + 9) = zar E 56 x' ∧ bd x' 56 0 9 ∧ (Vt x' 56 = Gt G r)) ∧ ∀ k, k ≠ g → k ≠ (g + 9) → w' k = w0 k)) := by
  refine z_met (cc := b_M_takeX) (maxL := 3) (ret := none) (by decide +kernel) rfl (Nat.le_of_ble_eq_true rfl) ?_
  intro p e s m below meth cd ls a Qf hQ hC hl hH
  obtain ⟨hF, hr, hlk, hK, hG, hn⟩ := hC
  obtain ⟨hx, hb, hml, hown, hts⟩ := hF
  have hg : ∀ w ∈ GW, w.before a s = true := fun w h => hts w (List.mem_cons_of_mem _ h)
  have hA : ∀ q, s.heap.size ≤ q → va_A (wl E w0) s.heap.size q := fun q h => Or.inr h
  have hl : lv_has ls 3 [(0, .ref (ad E g)), (1, .int (iI r))] := hl
  refine lv_aload_n hx hb d_M_takeX_0 rfl (lv_at hl 0 rfl) ?_
  refine lv_aload_n hx hb d_M_takeX_1 rfl (lv_at hl 0 rfl) ?_
  refine zv_get (C := "ScaledNumeralDeskModel") (T := TM) (N := 17) hx hb hg uM_in hown hK hH q0lt c0 rfl 1 (by decide) (hg _ wm_683) (fun _ h9 => h9) rfl d_M_takeX_2 ?_
  refine lv_iload_n hx hb d_M_takeX_5 rfl (lv_at hl 1 rfl) ?_
  refine zv_zald hx hb hK hH q1lt c1 (by omega) (by omega) (by omega) d_M_takeX_6 ?_
  have b1 := bm r (by omega) (by omega)
  refine zv_put (C := "ScaledNumeralDeskModel") (T := TM) (N := 17) (fs' := [.ref (ad E (g + 1)), .ref (ad E (g + 2)), .ref (ad E (g + 3)), .ref (ad E (g + 4)), .int (iI ty), .ref (ad E (g + 5)), .ref (ad E (g + 6)), .ref (ad E (g + 7)), .ref (ad E (g + 8)), .ref (ad E (g + 9)), .ref (ad E (g + 10)), .int (iI (mf r)), .int (iI ym), .ref (ad E (g + 11)), .int (iI ne), .ref (ad E (g + 12)), .ref (ad E (g + 13))]) hx hb hg uM_in tyM tyM_ok nmM hown hK hH q0lt c0 rfl 11 (by decide) (hg _ wm_693) (fun _ h9 => h9) rfl (ty := tyM 11) (by decide +kernel) (by exact nar_z (by omega)) (by exact fit_z (by omega)) (Nat.le_of_ble_eq_true rfl) d_M_takeX_7 rfl (fun H3 lc4 w2 hH5 e6 hg7 => ?_)
  have e8 : w2 (g + 2) = zaz E 8 mf := (hg7 (g + 2) (nx_M_takeX_0 )).trans c1
  have e9 : w2 (g + 4) = zar E 448 G := (hg7 (g + 4) (nx_M_takeX_1 )).trans c2
  have e10 : w2 (g + 9) = zar E 56 xf := (hg7 (g + 9) (nx_M_takeX_2 )).trans c3
  have hf11 : ∀ k, k ≠ g → w2 k = w0 k := fun k g0 => hg7 k g0
  refine zv_iconst hx hb d_M_takeX_10 ?_
  refine lv_istore_n (lv' := [(2, .int (iI 0)), (0, .ref (ad E g)), (1, .int (iI r))]) hx hb d_M_takeX_11 rfl hl (by decide) rfl (fun ls hl => ?_)
  have L12 : ∀ (fu : Nat) (i : Int) (h : Int → Int) (ls : Array Slot) (H12 : Heap) (lc13 : List Loc) (w14 : zW), (lv_has ls 3 [(2, .int (iI i)), (0, .ref (ad E g)), (1, .int (iI r))]) → (zH E w14 (va_A (wl E w0) s.heap.size) s.heap H12 lc13) → (w14 g = .inr (6, [.ref (ad E (g + 1)), .ref (ad E (g + 2)), .ref (ad E (g + 3)), .ref (ad E (g + 4)), .int (iI ty), .ref (ad E (g + 5)), .ref (ad E (g + 6)), .ref (ad E (g + 7)), .ref (ad E (g + 8)), .ref (ad E (g + 9)), .ref (ad E (g + 10)), .int (iI (mf r)), .int (iI ym), .ref (ad E (g + 11)), .int (iI ne), .ref (ad E (g + 12)), .ref (ad E (g + 13))])) → (w14 (g + 2) = zaz E 8 mf) → (w14 (g + 4) = zar E 448 G) → (w14 (g + 9) = zar E 56 h) → (∀ k, k ≠ g → k ≠ (g + 9) → w14 k = w0 k) → (0 ≤ i ∧ i ≤ 56) → (∀ j : Int, 0 ≤ j → j < i → h j = G (56 * r + j)) → (56 - i < (fu : Int)) → W p l e rm_M_takeX s m a below meth cd H12 lc13 0 0 Qf (F0 m 12 ls []) := by
    intro fu
    induction fu with
    | zero => intro i h ls H12 lc13 w14 hl hH e15 e16 e17 e18 hf19 hi hk hm; exact absurd hm (by omega)
    | succ fu ih =>
      intro i h ls H12 lc13 w14 hl hH e15 e16 e17 e18 hf19 hi hk hm
      refine lv_iload_n hx hb d_M_takeX_12 rfl (lv_at hl 0 rfl) ?_
      refine zv_bipush hx hb d_M_takeX_13 rfl ?_
      refine zv_icmp_ge (tgt := 41) hx hb d_M_takeX_15 rfl (by omega) (by omega) (fun h20 => ?_) (fun h20 => ?_)
      · have bh9 : bd h 56 0 9 := fun j g1 g2 => by rw [hk j g1 (by omega)]; exact bG _ (by omega) (by omega)
        rw [hQ]
        exact z_vret hx hb hr hlk hH (⟨⟨h, e15, e18, (by assumption), Vt_ext (fun j g1 g2 => hk j g1 (by omega))⟩, (fun k g0 g1 => hf19 k g0 g1)⟩) d_M_takeX_41
      · refine lv_aload_n hx hb d_M_takeX_18 rfl (lv_at hl 1 rfl) ?_
        refine zv_get (C := "ScaledNumeralDeskModel") (T := TM) (N := 17) hx hb hg uM_in hown hK hH q0lt e15 rfl 9 (by decide) (hg _ wm_691) (fun _ h9 => h9) rfl d_M_takeX_19 ?_
        refine lv_iload_n hx hb d_M_takeX_22 rfl (lv_at hl 0 rfl) ?_
        refine lv_aload_n hx hb d_M_takeX_23 rfl (lv_at hl 1 rfl) ?_
        refine zv_get (C := "ScaledNumeralDeskModel") (T := TM) (N := 17) hx hb hg uM_in hown hK hH q0lt e15 rfl 3 (by decide) (hg _ wm_685) (fun _ h9 => h9) rfl d_M_takeX_24 ?_
        refine zv_bipush hx hb d_M_takeX_27 rfl ?_
        refine lv_iload_n hx hb d_M_takeX_29 rfl (lv_at hl 2 rfl) ?_
        refine zv_imul hx hb d_M_takeX_30 ?_
        refine lv_iload_n hx hb d_M_takeX_31 rfl (lv_at hl 0 rfl) ?_
        refine zv_iadd hx hb d_M_takeX_32 ?_
        refine zv_iald hx hb hK hH q2lt e17 (by omega) (by omega) (by omega) d_M_takeX_33 ?_
        have b21 := bG ((56 * r) + i) (by omega) (by omega)
        refine zv_iast hx hb hK hH q3lt e18 (by omega) (by omega) (by omega) d_M_takeX_34 (fun H23 lc24 w22 hH25 e26 hg27 => ?_)
        have e28 : w22 g = .inr (6, [.ref (ad E (g + 1)), .ref (ad E (g + 2)), .ref (ad E (g + 3)), .ref (ad E (g + 4)), .int (iI ty), .ref (ad E (g + 5)), .ref (ad E (g + 6)), .ref (ad E (g + 7)), .ref (ad E (g + 8)), .ref (ad E (g + 9)), .ref (ad E (g + 10)), .int (iI (mf r)), .int (iI ym), .ref (ad E (g + 11)), .int (iI ne), .ref (ad E (g + 12)), .ref (ad E (g + 13))]) := (hg27 g (nx_M_takeX_3 )).trans e15
        have e29 : w22 (g + 2) = zaz E 8 mf := (hg27 (g + 2) (nx_M_takeX_4 )).trans e16
        have e30 : w22 (g + 4) = zar E 448 G := (hg27 (g + 4) (nx_M_takeX_5 )).trans e17
        have hf31 : ∀ k, k ≠ g → k ≠ (g + 9) → w22 k = w0 k := fun k g0 g1 => (hg27 k g1).trans (hf19 k g0 g1)
        refine zv_iinc (k := 0) (lv' := [(2, .int (iI (i + 1))), (0, .ref (ad E g)), (1, .int (iI r))]) hx hb d_M_takeX_35 hl rfl (by decide) rfl (fun ls hl => ?_)
        refine lv_goto (tgt := 12) hx hb d_M_takeX_38 rfl ?_
        exact ih  (i + 1) (up h i (G ((56 * r) + i))) _ H23 lc24 w22 (lv_sub hl [0, 1, 2] rfl) hH25 e28 e29 e30 e26 (fun k g0 g1 => hf31 k g0 g1) (by omega) (by intro j g1 g2; by_cases e8 : j = i; rw [e8, up_at]; rw [up_ne e8]; exact hk j g1 (by omega)) (by omega)
  exact L12 ((56 - 0 : Int).toNat + 1) 0 xf _ H3 lc4 w2 (lv_sub hl [0, 1, 2] rfl) hH5 e6 e8 e9 e10 (fun k g0 g1 => hf11 k g0) (by omega) (by intro j g1 g2; omega) (by omega)
theorem nx_M_takeY_0 {g : Nat}  : g + 2 ≠ g := by omega
theorem nx_M_takeY_1 {g : Nat}  : g + 4 ≠ g := by omega
theorem nx_M_takeY_2 {g : Nat}  : g + 10 ≠ g := by omega
theorem nx_M_takeY_3 {g : Nat}  : g ≠ g + 10 := by omega
theorem nx_M_takeY_4 {g : Nat}  : g + 2 ≠ g + 10 := by omega
theorem nx_M_takeY_5 {g : Nat}  : g + 4 ≠ g + 10 := by omega
def rm_M_takeY : Room := { frames := 0, cells := 0, slots := 0, locals := 0 }
set_option maxHeartbeats 4000000 in
set_option maxRecDepth 100000 in
theorem c_M_takeY (l : Launch) (E : zE) (w0 : zW) (g : Nat) (ty xm ym ne : Int) (mf G yf : Int → Int) (r : Int) (q0lt : g < zn E) (q1lt : g + 2 < zn E) (q2lt : g + 4 < zn E) (q3lt : g + 10 < zn E) (c0 : w0 g = .inr (6, [.ref (ad E (g + 1)), .ref (ad E (g + 2)), .ref (ad E (g + 3)), .ref (ad E (g + 4)), .int (iI ty), .ref (ad E (g + 5)), .ref (ad E (g + 6)), .ref (ad E (g + 7)), .ref (ad E (g + 8)), .ref (ad E (g + 9)), .ref (ad E (g + 10)), .int (iI xm), .int (iI ym), .ref (ad E (g + 11)), .int (iI ne), .ref (ad E (g + 12)), .ref (ad E (g + 13))])) (c1 : w0 (g + 2) = zaz E 8 mf) (c2 : w0 (g + 4) = zar E 448 G) (c3 : w0 (g + 10) = zar E 56 yf) (bm : bd mf 8 0 1) (bG : bd G 448 0 9) (hr0 : 0 ≤ r ∧ r < 8) : zM l y_M_takeY ws_M_takeY rm_M_takeY E [.ref (ad E g), .int (iI r)] w0 (zQv E w0 (fun w' => (∃ (y' : Int → Int), w' g = .inr (6, [.ref (ad E (g + 1)), .ref (ad E (g + 2)), .ref (ad E (g + 3)), .ref (ad E (g + 4)), .int (iI ty), .ref (ad E (g + 5)), .ref (ad E (g + 6)), .ref (ad E (g + 7)), .ref (ad E (g + 8)), .ref (ad E (g + 9)), .ref (ad E (g + 10)), .int (iI xm), .int (iI (mf r)), .ref (ad E (g + 11)), .int (iI ne), .ref (ad E (g + 12)), .ref (ad E (g + 13))]) ∧ w' (g + 10) = zar E 56 y' ∧ bd y' 56 0 9 ∧ (Vt y' 56 = Gt G r)) ∧ ∀ k, k ≠ g → k ≠ (g + 10) → w' k = w0 k)) := by
  refine z_met (cc := b_M_takeY) (maxL := 3) (ret := none) (by decide +kernel) rfl (Nat.le_of_ble_eq_true rfl) ?_
  intro p e s m below meth cd ls a Qf hQ hC hl hH
  obtain ⟨hF, hr, hlk, hK, hG, hn⟩ := hC
  obtain ⟨hx, hb, hml, hown, hts⟩ := hF
  have hg : ∀ w ∈ GW, w.before a s = true := fun w h => hts w (List.mem_cons_of_mem _ h)
  have hA : ∀ q, s.heap.size ≤ q → va_A (wl E w0) s.heap.size q := fun q h => Or.inr h
  have hl : lv_has ls 3 [(0, .ref (ad E g)), (1, .int (iI r))] := hl
  refine lv_aload_n hx hb d_M_takeY_0 rfl (lv_at hl 0 rfl) ?_
  refine lv_aload_n hx hb d_M_takeY_1 rfl (lv_at hl 0 rfl) ?_
  refine zv_get (C := "ScaledNumeralDeskModel") (T := TM) (N := 17) hx hb hg uM_in hown hK hH q0lt c0 rfl 1 (by decide) (hg _ wm_683) (fun _ h9 => h9) rfl d_M_takeY_2 ?_
  refine lv_iload_n hx hb d_M_takeY_5 rfl (lv_at hl 1 rfl) ?_
  refine zv_zald hx hb hK hH q1lt c1 (by omega) (by omega) (by omega) d_M_takeY_6 ?_
  have b1 := bm r (by omega) (by omega)
  refine zv_put (C := "ScaledNumeralDeskModel") (T := TM) (N := 17) (fs' := [.ref (ad E (g + 1)), .ref (ad E (g + 2)), .ref (ad E (g + 3)), .ref (ad E (g + 4)), .int (iI ty), .ref (ad E (g + 5)), .ref (ad E (g + 6)), .ref (ad E (g + 7)), .ref (ad E (g + 8)), .ref (ad E (g + 9)), .ref (ad E (g + 10)), .int (iI xm), .int (iI (mf r)), .ref (ad E (g + 11)), .int (iI ne), .ref (ad E (g + 12)), .ref (ad E (g + 13))]) hx hb hg uM_in tyM tyM_ok nmM hown hK hH q0lt c0 rfl 12 (by decide) (hg _ wm_694) (fun _ h9 => h9) rfl (ty := tyM 12) (by decide +kernel) (by exact nar_z (by omega)) (by exact fit_z (by omega)) (Nat.le_of_ble_eq_true rfl) d_M_takeY_7 rfl (fun H3 lc4 w2 hH5 e6 hg7 => ?_)
  have e8 : w2 (g + 2) = zaz E 8 mf := (hg7 (g + 2) (nx_M_takeY_0 )).trans c1
  have e9 : w2 (g + 4) = zar E 448 G := (hg7 (g + 4) (nx_M_takeY_1 )).trans c2
  have e10 : w2 (g + 10) = zar E 56 yf := (hg7 (g + 10) (nx_M_takeY_2 )).trans c3
  have hf11 : ∀ k, k ≠ g → w2 k = w0 k := fun k g0 => hg7 k g0
  refine zv_iconst hx hb d_M_takeY_10 ?_
  refine lv_istore_n (lv' := [(2, .int (iI 0)), (0, .ref (ad E g)), (1, .int (iI r))]) hx hb d_M_takeY_11 rfl hl (by decide) rfl (fun ls hl => ?_)
  have L12 : ∀ (fu : Nat) (i : Int) (h : Int → Int) (ls : Array Slot) (H12 : Heap) (lc13 : List Loc) (w14 : zW), (lv_has ls 3 [(2, .int (iI i)), (0, .ref (ad E g)), (1, .int (iI r))]) → (zH E w14 (va_A (wl E w0) s.heap.size) s.heap H12 lc13) → (w14 g = .inr (6, [.ref (ad E (g + 1)), .ref (ad E (g + 2)), .ref (ad E (g + 3)), .ref (ad E (g + 4)), .int (iI ty), .ref (ad E (g + 5)), .ref (ad E (g + 6)), .ref (ad E (g + 7)), .ref (ad E (g + 8)), .ref (ad E (g + 9)), .ref (ad E (g + 10)), .int (iI xm), .int (iI (mf r)), .ref (ad E (g + 11)), .int (iI ne), .ref (ad E (g + 12)), .ref (ad E (g + 13))])) → (w14 (g + 2) = zaz E 8 mf) → (w14 (g + 4) = zar E 448 G) → (w14 (g + 10) = zar E 56 h) → (∀ k, k ≠ g → k ≠ (g + 10) → w14 k = w0 k) → (0 ≤ i ∧ i ≤ 56) → (∀ j : Int, 0 ≤ j → j < i → h j = G (56 * r + j)) → (56 - i < (fu : Int)) → W p l e rm_M_takeY s m a below meth cd H12 lc13 0 0 Qf (F0 m 12 ls []) := by
    intro fu
    induction fu with
    | zero => intro i h ls H12 lc13 w14 hl hH e15 e16 e17 e18 hf19 hi hk hm; exact absurd hm (by omega)
    | succ fu ih =>
      intro i h ls H12 lc13 w14 hl hH e15 e16 e17 e18 hf19 hi hk hm
      refine lv_iload_n hx hb d_M_takeY_12 rfl (lv_at hl 0 rfl) ?_
      refine zv_bipush hx hb d_M_takeY_13 rfl ?_
      refine zv_icmp_ge (tgt := 41) hx hb d_M_takeY_15 rfl (by omega) (by omega) (fun h20 => ?_) (fun h20 => ?_)
      · have bh9 : bd h 56 0 9 := fun j g1 g2 => by rw [hk j g1 (by omega)]; exact bG _ (by omega) (by omega)
        rw [hQ]
        exact z_vret hx hb hr hlk hH (⟨⟨h, e15, e18, (by assumption), Vt_ext (fun j g1 g2 => hk j g1 (by omega))⟩, (fun k g0 g1 => hf19 k g0 g1)⟩) d_M_takeY_41
      · refine lv_aload_n hx hb d_M_takeY_18 rfl (lv_at hl 1 rfl) ?_
        refine zv_get (C := "ScaledNumeralDeskModel") (T := TM) (N := 17) hx hb hg uM_in hown hK hH q0lt e15 rfl 10 (by decide) (hg _ wm_692) (fun _ h9 => h9) rfl d_M_takeY_19 ?_
        refine lv_iload_n hx hb d_M_takeY_22 rfl (lv_at hl 0 rfl) ?_
        refine lv_aload_n hx hb d_M_takeY_23 rfl (lv_at hl 1 rfl) ?_
        refine zv_get (C := "ScaledNumeralDeskModel") (T := TM) (N := 17) hx hb hg uM_in hown hK hH q0lt e15 rfl 3 (by decide) (hg _ wm_685) (fun _ h9 => h9) rfl d_M_takeY_24 ?_
        refine zv_bipush hx hb d_M_takeY_27 rfl ?_
        refine lv_iload_n hx hb d_M_takeY_29 rfl (lv_at hl 2 rfl) ?_
        refine zv_imul hx hb d_M_takeY_30 ?_
        refine lv_iload_n hx hb d_M_takeY_31 rfl (lv_at hl 0 rfl) ?_
        refine zv_iadd hx hb d_M_takeY_32 ?_
        refine zv_iald hx hb hK hH q2lt e17 (by omega) (by omega) (by omega) d_M_takeY_33 ?_
        have b21 := bG ((56 * r) + i) (by omega) (by omega)
        refine zv_iast hx hb hK hH q3lt e18 (by omega) (by omega) (by omega) d_M_takeY_34 (fun H23 lc24 w22 hH25 e26 hg27 => ?_)
        have e28 : w22 g = .inr (6, [.ref (ad E (g + 1)), .ref (ad E (g + 2)), .ref (ad E (g + 3)), .ref (ad E (g + 4)), .int (iI ty), .ref (ad E (g + 5)), .ref (ad E (g + 6)), .ref (ad E (g + 7)), .ref (ad E (g + 8)), .ref (ad E (g + 9)), .ref (ad E (g + 10)), .int (iI xm), .int (iI (mf r)), .ref (ad E (g + 11)), .int (iI ne), .ref (ad E (g + 12)), .ref (ad E (g + 13))]) := (hg27 g (nx_M_takeY_3 )).trans e15
        have e29 : w22 (g + 2) = zaz E 8 mf := (hg27 (g + 2) (nx_M_takeY_4 )).trans e16
        have e30 : w22 (g + 4) = zar E 448 G := (hg27 (g + 4) (nx_M_takeY_5 )).trans e17
        have hf31 : ∀ k, k ≠ g → k ≠ (g + 10) → w22 k = w0 k := fun k g0 g1 => (hg27 k g1).trans (hf19 k g0 g1)
        refine zv_iinc (k := 0) (lv' := [(2, .int (iI (i + 1))), (0, .ref (ad E g)), (1, .int (iI r))]) hx hb d_M_takeY_35 hl rfl (by decide) rfl (fun ls hl => ?_)
        refine lv_goto (tgt := 12) hx hb d_M_takeY_38 rfl ?_
        exact ih  (i + 1) (up h i (G ((56 * r) + i))) _ H23 lc24 w22 (lv_sub hl [0, 1, 2] rfl) hH25 e28 e29 e30 e26 (fun k g0 g1 => hf31 k g0 g1) (by omega) (by intro j g1 g2; by_cases e8 : j = i; rw [e8, up_at]; rw [up_ne e8]; exact hk j g1 (by omega)) (by omega)
  exact L12 ((56 - 0 : Int).toNat + 1) 0 yf _ H3 lc4 w2 (lv_sub hl [0, 1, 2] rfl) hH5 e6 e8 e9 e10 (fun k g0 g1 => hf11 k g0) (by omega) (by intro j g1 g2; omega) (by omega)
theorem nx_M_spread_0 {g : Nat}  : g + 9 ≠ g := by omega
theorem nx_M_spread_1 {g : Nat}  : g + 9 ≠ g + 11 := by omega
theorem nx_M_spread_2 {g : Nat}  : g + 11 ≠ g := by omega
theorem nx_M_spread_3 {g : Nat}  : g ≠ g + 11 := by omega
def rm_M_spread : Room := { frames := 1, cells := 0, slots := 0, locals := 21 }
set_option maxHeartbeats 4000000 in
set_option maxRecDepth 100000 in
theorem c_M_spread (l : Launch) (E : zE) (w0 : zW) (g : Nat) (ty xm ym ne : Int) (xf f : Int → Int) (q0lt : g < zn E) (q1lt : g + 9 < zn E) (q2lt : g + 11 < zn E) (c0 : w0 g = .inr (6, [.ref (ad E (g + 1)), .ref (ad E (g + 2)), .ref (ad E (g + 3)), .ref (ad E (g + 4)), .int (iI ty), .ref (ad E (g + 5)), .ref (ad E (g + 6)), .ref (ad E (g + 7)), .ref (ad E (g + 8)), .ref (ad E (g + 9)), .ref (ad E (g + 10)), .int (iI xm), .int (iI ym), .ref (ad E (g + 11)), .int (iI ne), .ref (ad E (g + 12)), .ref (ad E (g + 13))])) (c1 : w0 (g + 9) = zar E 56 xf) (c2 : w0 (g + 11) = zar E 140 f) (bx : bd xf 56 0 9) (hxm : xm = 0 ∨ xm = 1) : zM l y_M_spread ws_M_spread rm_M_spread E [.ref (ad E g)] w0 (zQv E w0 (fun w' => (∃ (f' : Int → Int), w' g = .inr (6, [.ref (ad E (g + 1)), .ref (ad E (g + 2)), .ref (ad E (g + 3)), .ref (ad E (g + 4)), .int (iI ty), .ref (ad E (g + 5)), .ref (ad E (g + 6)), .ref (ad E (g + 7)), .ref (ad E (g + 8)), .ref (ad E (g + 9)), .ref (ad E (g + 10)), .int (iI xm), .int (iI ym), .ref (ad E (g + 11)), .int (iI xm), .ref (ad E (g + 12)), .ref (ad E (g + 13))]) ∧ w' (g + 11) = zar E 140 f' ∧ bd f' 140 0 9 ∧ (Vt f' 140 = Vt xf 56 * Tp 24)) ∧ ∀ k, k ≠ g → k ≠ (g + 11) → w' k = w0 k)) := by
  refine z_met (cc := b_M_spread) (maxL := 2) (ret := none) (by decide +kernel) rfl (Nat.le_of_ble_eq_true rfl) ?_
  intro p e s m below meth cd ls a Qf hQ hC hl hH
  obtain ⟨hF, hr, hlk, hK, hG, hn⟩ := hC
  obtain ⟨hx, hb, hml, hown, hts⟩ := hF
  have hg : ∀ w ∈ GW, w.before a s = true := fun w h => hts w (List.mem_cons_of_mem _ h)
  have hA : ∀ q, s.heap.size ≤ q → va_A (wl E w0) s.heap.size q := fun q h => Or.inr h
  have hl : lv_has ls 2 [(0, .ref (ad E g))] := hl
  refine lv_aload_n hx hb d_M_spread_0 rfl (lv_at hl 0 rfl) ?_
  refine z_callv (va_runV (As := []) (rest := []) ⟨hx, hb, hml, hown, hts⟩ (c_M_clear (l := l) (E := E) (w0 := w0) (g := g) (ty := ty) (xm := xm) (ym := ym) (ne := ne) (f := f) (q0lt := q0lt) (q1lt := q2lt) (c0 := c0) (c1 := c2) s.heap.size) (z_cwV (C := "ScaledNumeralDeskModel") 0 hg wm_778 wm_775 wm_9 wm_777 wm_s37 (by decide +kernel) ⟨Nat.le_of_ble_eq_true rfl, Nat.le_of_ble_eq_true rfl⟩) (z_preV (r := ("ScaledNumeralDeskModel", TM, 17)) hK hG hn hH hA q0lt c0 rfl) rfl rfl hl.1 rfl (lv_room (Nat.le_of_ble_eq_true rfl)) d_M_spread_1 ⟨Nat.zero_le _, Nat.zero_le _⟩) hH hA (fun  w3 H1 lc2 hH4 p1 => ?_)
  obtain ⟨⟨f1, e5, e6, p1⟩, hg7⟩ := p1
  replace p1 : ∀ j : Int, 0 ≤ j → j < 140 → f1 j = 0 := p1
  have e8 : w3 (g + 9) = zar E 56 xf := (hg7 (g + 9) (nx_M_spread_0 ) (nx_M_spread_1 )).trans c1
  have hf9 : ∀ k, k ≠ g → k ≠ (g + 11) → w3 k = w0 k := fun k g0 g1 => hg7 k g0 g1
  refine zv_iconst hx hb d_M_spread_4 ?_
  refine lv_istore_n (lv' := [(1, .int (iI 0)), (0, .ref (ad E g))]) hx hb d_M_spread_5 rfl hl (by decide) rfl (fun ls hl => ?_)
  have L6 : ∀ (fu : Nat) (i : Int) (h : Int → Int) (ls : Array Slot) (H10 : Heap) (lc11 : List Loc) (w12 : zW), (lv_has ls 2 [(1, .int (iI i)), (0, .ref (ad E g))]) → (zH E w12 (va_A (wl E w0) s.heap.size) s.heap H10 lc11) → (w12 g = .inr (6, [.ref (ad E (g + 1)), .ref (ad E (g + 2)), .ref (ad E (g + 3)), .ref (ad E (g + 4)), .int (iI ty), .ref (ad E (g + 5)), .ref (ad E (g + 6)), .ref (ad E (g + 7)), .ref (ad E (g + 8)), .ref (ad E (g + 9)), .ref (ad E (g + 10)), .int (iI xm), .int (iI ym), .ref (ad E (g + 11)), .int (iI 0), .ref (ad E (g + 12)), .ref (ad E (g + 13))])) → (w12 (g + 9) = zar E 56 xf) → (w12 (g + 11) = zar E 140 h) → (∀ k, k ≠ g → k ≠ (g + 11) → w12 k = w0 k) → (0 ≤ i ∧ i ≤ 56) → (∀ j : Int, 0 ≤ j → j < i → h (24 + j) = xf j) → (∀ j : Int, 0 ≤ j → j < 140 → ¬ (24 ≤ j ∧ j < 80) → h j = 0) → (56 - i < (fu : Int)) → W p l e rm_M_spread s m a below meth cd H10 lc11 0 0 Qf (F0 m 6 ls []) := by
    intro fu
    induction fu with
    | zero => intro i h ls H10 lc11 w12 hl hH e13 e14 e15 hf16 hi hk hz hm; exact absurd hm (by omega)
    | succ fu ih =>
      intro i h ls H10 lc11 w12 hl hH e13 e14 e15 hf16 hi hk hz hm
      refine lv_iload_n hx hb d_M_spread_6 rfl (lv_at hl 0 rfl) ?_
      refine zv_bipush hx hb d_M_spread_7 rfl ?_
      refine zv_icmp_ge (tgt := 33) hx hb d_M_spread_9 rfl (by omega) (by omega) (fun h17 => ?_) (fun h17 => ?_)
      · refine lv_aload_n hx hb d_M_spread_33 rfl (lv_at hl 1 rfl) ?_
        refine lv_aload_n hx hb d_M_spread_34 rfl (lv_at hl 1 rfl) ?_
        refine zv_get (C := "ScaledNumeralDeskModel") (T := TM) (N := 17) hx hb hg uM_in hown hK hH q0lt e13 rfl 11 (by decide) (hg _ wm_693) (fun _ h9 => h9) rfl d_M_spread_35 ?_
        refine zv_put (C := "ScaledNumeralDeskModel") (T := TM) (N := 17) (fs' := [.ref (ad E (g + 1)), .ref (ad E (g + 2)), .ref (ad E (g + 3)), .ref (ad E (g + 4)), .int (iI ty), .ref (ad E (g + 5)), .ref (ad E (g + 6)), .ref (ad E (g + 7)), .ref (ad E (g + 8)), .ref (ad E (g + 9)), .ref (ad E (g + 10)), .int (iI xm), .int (iI ym), .ref (ad E (g + 11)), .int (iI xm), .ref (ad E (g + 12)), .ref (ad E (g + 13))]) hx hb hg uM_in tyM tyM_ok nmM hown hK hH q0lt e13 rfl 14 (by decide) (hg _ wm_696) (fun _ h9 => h9) rfl (ty := tyM 14) (by decide +kernel) (by exact nar_z hxm) (by exact fit_z hxm) (Nat.le_of_ble_eq_true rfl) d_M_spread_38 rfl (fun H19 lc20 w18 hH21 e22 hg23 => ?_)
        have e24 : w18 (g + 9) = zar E 56 xf := (hg23 (g + 9) (nx_M_spread_0 )).trans e14
        have e25 : w18 (g + 11) = zar E 140 h := (hg23 (g + 11) (nx_M_spread_2 )).trans e15
        have hf26 : ∀ k, k ≠ g → k ≠ (g + 11) → w18 k = w0 k := fun k g0 g1 => (hg23 k g0).trans (hf16 k g0 g1)
        have bh9 : bd h 140 0 9 := fun j g1 g2 => by
          by_cases e8 : 24 ≤ j ∧ j < 80
          · have e7 := hk (j - 24) (by omega) (by omega)
            rw [show 24 + (j - 24) = j by omega] at e7
            rw [e7]; exact bx _ (by omega) (by omega)
          · rw [hz j g1 g2 e8]; decide
        rw [hQ]
        exact z_vret hx hb hr hlk hH21 (⟨⟨h, e22, e25, (by assumption), sp_V (n := 56) (by decide) (by decide) (fun j g1 g2 => hz j g1 (by omega) (by omega)) (fun j g1 g2 => hz j (by omega) g2 (by omega)) (fun j g1 g2 => hk j g1 (by omega))⟩, (fun k g0 g1 => hf26 k g0 g1)⟩) d_M_spread_41
      · refine lv_aload_n hx hb d_M_spread_12 rfl (lv_at hl 1 rfl) ?_
        refine zv_get (C := "ScaledNumeralDeskModel") (T := TM) (N := 17) hx hb hg uM_in hown hK hH q0lt e13 rfl 13 (by decide) (hg _ wm_695) (fun _ h9 => h9) rfl d_M_spread_13 ?_
        refine zv_bipush hx hb d_M_spread_16 rfl ?_
        refine lv_iload_n hx hb d_M_spread_18 rfl (lv_at hl 0 rfl) ?_
        refine zv_iadd hx hb d_M_spread_19 ?_
        refine lv_aload_n hx hb d_M_spread_20 rfl (lv_at hl 1 rfl) ?_
        refine zv_get (C := "ScaledNumeralDeskModel") (T := TM) (N := 17) hx hb hg uM_in hown hK hH q0lt e13 rfl 9 (by decide) (hg _ wm_691) (fun _ h9 => h9) rfl d_M_spread_21 ?_
        refine lv_iload_n hx hb d_M_spread_24 rfl (lv_at hl 0 rfl) ?_
        refine zv_iald hx hb hK hH q1lt e14 (by omega) (by omega) (by omega) d_M_spread_25 ?_
        have b27 := bx i (by omega) (by omega)
        refine zv_iast hx hb hK hH q2lt e15 (by omega) (by omega) (by omega) d_M_spread_26 (fun H29 lc30 w28 hH31 e32 hg33 => ?_)
        have e34 : w28 g = .inr (6, [.ref (ad E (g + 1)), .ref (ad E (g + 2)), .ref (ad E (g + 3)), .ref (ad E (g + 4)), .int (iI ty), .ref (ad E (g + 5)), .ref (ad E (g + 6)), .ref (ad E (g + 7)), .ref (ad E (g + 8)), .ref (ad E (g + 9)), .ref (ad E (g + 10)), .int (iI xm), .int (iI ym), .ref (ad E (g + 11)), .int (iI 0), .ref (ad E (g + 12)), .ref (ad E (g + 13))]) := (hg33 g (nx_M_spread_3 )).trans e13
        have e35 : w28 (g + 9) = zar E 56 xf := (hg33 (g + 9) (nx_M_spread_1 )).trans e14
        have hf36 : ∀ k, k ≠ g → k ≠ (g + 11) → w28 k = w0 k := fun k g0 g1 => (hg33 k g1).trans (hf16 k g0 g1)
        refine zv_iinc (k := 0) (lv' := [(1, .int (iI (i + 1))), (0, .ref (ad E g))]) hx hb d_M_spread_27 hl rfl (by decide) rfl (fun ls hl => ?_)
        refine lv_goto (tgt := 6) hx hb d_M_spread_30 rfl ?_
        exact ih  (i + 1) (up h (24 + i) (xf i)) _ H29 lc30 w28 (lv_sub hl [0, 1] rfl) hH31 e34 e35 e32 (fun k g0 g1 => hf36 k g0 g1) (by omega) (by intro j g1 g2; by_cases e8 : j = i; rw [e8, up_at]; rw [up_ne (by omega)]; exact hk j g1 (by omega)) (by intro j g1 g2 g3; rw [up_ne (by omega)]; exact hz j g1 g2 g3) (by omega)
  exact L6 ((56 - 0 : Int).toNat + 1) 0 f1 _ H1 lc2 w3 (lv_sub hl [0, 1] rfl) hH4 e5 e8 e6 (fun k g0 g1 => hf9 k g0 g1) (by omega) (by intro j g1 g2; omega) (by intro j g1 g2 _; exact p1 j g1 g2) (by omega)
