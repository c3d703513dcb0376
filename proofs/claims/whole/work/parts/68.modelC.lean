theorem nx_M_toWhole_0 {g : Nat}  : g ≠ g + 11 := by omega
theorem nx_M_toWhole_1 {g : Nat}  : g + 1 ≠ g + 11 := by omega
theorem nx_M_toWhole_2 {g : Nat}  : g + 2 ≠ g + 11 := by omega
theorem nx_M_toWhole_3 {g : Nat}  : g + 3 ≠ g + 11 := by omega
theorem nx_M_toWhole_4 {g : Nat}  : g + 4 ≠ g + 11 := by omega
theorem nx_M_toWhole_5 {g : Nat}  : g + 1 ≠ g := by omega
theorem nx_M_toWhole_6 {g : Nat}  : g + 2 ≠ g := by omega
theorem nx_M_toWhole_7 {g : Nat}  : g + 3 ≠ g := by omega
theorem nx_M_toWhole_8 {g : Nat}  : g + 4 ≠ g := by omega
theorem nx_M_toWhole_9 {g : Nat}  : g ≠ g + 1 := by omega
theorem nx_M_toWhole_10 {g : Nat}  : g ≠ g + 2 := by omega
theorem nx_M_toWhole_11 {g : Nat}  : g ≠ g + 3 := by omega
theorem nx_M_toWhole_12 {g : Nat}  : g ≠ g + 4 := by omega
theorem nx_M_toWhole_13 {g : Nat}  : g + 11 ≠ g + 1 := by omega
theorem nx_M_toWhole_14 {g : Nat}  : g + 11 ≠ g + 2 := by omega
theorem nx_M_toWhole_15 {g : Nat}  : g + 11 ≠ g + 3 := by omega
theorem nx_M_toWhole_16 {g : Nat}  : g + 11 ≠ g + 4 := by omega
def rm_M_toWhole : Room := { frames := 2, cells := 0, slots := 0, locals := 45 }
set_option maxHeartbeats 4000000 in
set_option maxRecDepth 100000 in
theorem c_M_toWhole (l : Launch) (E : zE) (w0 : zW) (g : Nat) (ty xm ym ne : Int) (f kf mf sf G : Int → Int) (d dn : Int) (q0lt : g < zn E) (q1lt : g + 11 < zn E) (q2lt : g + 1 < zn E) (q3lt : g + 2 < zn E) (q4lt : g + 3 < zn E) (q5lt : g + 4 < zn E) (c0 : w0 g = .inr (6, [.ref (ad E (g + 1)), .ref (ad E (g + 2)), .ref (ad E (g + 3)), .ref (ad E (g + 4)), .int (iI ty), .ref (ad E (g + 5)), .ref (ad E (g + 6)), .ref (ad E (g + 7)), .ref (ad E (g + 8)), .ref (ad E (g + 9)), .ref (ad E (g + 10)), .int (iI xm), .int (iI ym), .ref (ad E (g + 11)), .int (iI ne), .ref (ad E (g + 12)), .ref (ad E (g + 13))])) (c1 : w0 (g + 11) = zar E 140 f) (c2 : w0 (g + 1) = zar E 8 kf) (c3 : w0 (g + 2) = zaz E 8 mf) (c4 : w0 (g + 3) = zar E 8 sf) (c5 : w0 (g + 4) = zar E 448 G) (bf : bd f 140 0 9) (bk : bd kf 8 0 3) (bm : bd mf 8 0 1) (bs : bd sf 8 0 24) (bG : bd G 448 0 9) (hne : ne = 0 ∨ ne = 1) (hd : 0 ≤ d ∧ d < 8) (hdn : dn = 0 ∨ dn = 1) (hX0 : Vt f 140 < Tp 139) : zM l y_M_toWhole ws_M_toWhole rm_M_toWhole E [.ref (ad E g), .int (iI d), .int (iI dn)] w0 (zQi E w0 (fun z w' => (∃ (n' : Int) (f' : Int → Int) (k' : Int → Int) (m' : Int → Int) (s' : Int → Int) (G' : Int → Int), w' g = .inr (6, [.ref (ad E (g + 1)), .ref (ad E (g + 2)), .ref (ad E (g + 3)), .ref (ad E (g + 4)), .int (iI ty), .ref (ad E (g + 5)), .ref (ad E (g + 6)), .ref (ad E (g + 7)), .ref (ad E (g + 8)), .ref (ad E (g + 9)), .ref (ad E (g + 10)), .int (iI xm), .int (iI ym), .ref (ad E (g + 11)), .int (iI n'), .ref (ad E (g + 12)), .ref (ad E (g + 13))]) ∧ w' (g + 11) = zar E 140 f' ∧ w' (g + 1) = zar E 8 k' ∧ w' (g + 2) = zaz E 8 m' ∧ w' (g + 3) = zar E 8 s' ∧ w' (g + 4) = zar E 448 G' ∧ bd f' 140 0 9 ∧ bd k' 8 0 3 ∧ bd m' 8 0 1 ∧ bd s' 8 0 24 ∧ bd G' 448 0 9 ∧ ((n' = 0 ∨ n' = 1) ∧ ∃ X : Int, TwR ne dn (Vt f 140) X ∧ KpR z d 0 ne X kf sf mf G k' s' m' G')) ∧ ∀ k, k ≠ g → k ≠ (g + 11) → k ≠ (g + 1) → k ≠ (g + 2) → k ≠ (g + 3) → k ≠ (g + 4) → w' k = w0 k)) := by
  refine z_met (cc := b_M_toWhole) (maxL := 5) (ret := (some .int)) (by decide +kernel) rfl (Nat.le_of_ble_eq_true rfl) ?_
  intro p e s m below meth cd ls a Qf hQ hC hl hH
  obtain ⟨hF, hr, hlk, hK, hG, hn⟩ := hC
  obtain ⟨hx, hb, hml, hown, hts⟩ := hF
  have hg : ∀ w ∈ GW, w.before a s = true := fun w h => hts w (List.mem_cons_of_mem _ h)
  have hA : ∀ q, s.heap.size ≤ q → va_A (wl E w0) s.heap.size q := fun q h => Or.inr h
  have hl : lv_has ls 5 [(0, .ref (ad E g)), (1, .int (iI d)), (2, .int (iI dn))] := hl
  have vf := Vt_in bf (show (0 : Int) ≤ 140 by decide) (Int.le_refl 140)
  have t140 : Tp 140 = 10 * Tp 139 := Tp_s (i := 139) (by decide)
  have t48 : Tp 48 ≤ Tp 139 := Tp_mono (by decide) (by decide)
  have t48p := Tp_pos 48
  refine zv_iconst hx hb d_M_toWhole_0 ?_
  refine lv_istore_n (lv' := [(3, .int (iI 0)), (0, .ref (ad E g)), (1, .int (iI d)), (2, .int (iI dn))]) hx hb d_M_toWhole_1 rfl hl (by decide) rfl (fun ls hl => ?_)
  refine zv_iconst hx hb d_M_toWhole_2 ?_
  refine lv_istore (lv' := [(4, .int (iI 0)), (3, .int (iI 0)), (0, .ref (ad E g)), (1, .int (iI d)), (2, .int (iI dn))]) hx hb d_M_toWhole_3 hl (by decide) rfl (fun ls hl => ?_)
  have L5 : ∀ (fu : Nat) (i : Int) (so : Int) (ls : Array Slot) (H1 : Heap) (lc2 : List Loc), (lv_has ls 5 [(4, .int (iI i)), (3, .int (iI so)), (0, .ref (ad E g)), (1, .int (iI d)), (2, .int (iI dn))]) → (zH E w0 (va_A (wl E w0) s.heap.size) s.heap H1 lc2) → (0 ≤ i ∧ i ≤ 48) → ((so = 0 ∧ ∀ j : Int, 0 ≤ j → j < i → f j = 0) ∨ (so = 1 ∧ Vt f 140 % Tp 48 ≠ 0)) → (48 - i < (fu : Int)) → W p l e rm_M_toWhole s m a below meth cd H1 lc2 0 0 Qf (F0 m 5 ls []) := by
    intro fu
    induction fu with
    | zero => intro i so ls H1 lc2 hl hH hi hso hm; exact absurd hm (by omega)
    | succ fu ih =>
      intro i so ls H1 lc2 hl hH hi hso hm
      refine lv_iload hx hb d_M_toWhole_5 (lv_at hl 0 rfl) ?_
      refine zv_bipush hx hb d_M_toWhole_7 rfl ?_
      refine zv_icmp_ge (tgt := 38) hx hb d_M_toWhole_9 rfl (by omega) (by omega) (fun h3 => ?_) (fun h3 => ?_)
      · refine lv_aload_n hx hb d_M_toWhole_38 rfl (lv_at hl 2 rfl) ?_
        refine zv_bipush hx hb d_M_toWhole_39 rfl ?_
        refine z_callv (va_runV (As := [.int (iI 48)]) (rest := []) ⟨hx, hb, hml, hown, hts⟩ (c_M_cut (l := l) (E := E) (w0 := w0) (g := g) (ty := ty) (xm := xm) (ym := ym) (ne := ne) (f := f) (x := 48) (q0lt := q0lt) (q1lt := q1lt) (c0 := c0) (c1 := c1) (bf := bf) (hx0 := by omega) H1.size) (z_cwV (C := "ScaledNumeralDeskModel") 1 hg wm_802 wm_799 wm_9 wm_801 wm_s43 (by decide +kernel) ⟨Nat.le_of_ble_eq_true rfl, Nat.le_of_ble_eq_true rfl⟩) (z_preV (r := ("ScaledNumeralDeskModel", TM, 17)) hK hG hn hH hA q0lt c0 rfl) rfl rfl hl.1 rfl (lv_room (Nat.le_of_ble_eq_true rfl)) d_M_toWhole_41 ⟨Nat.zero_le _, Nat.zero_le _⟩) hH hA (fun  w6 H4 lc5 hH7 p41 => ?_)
        obtain ⟨⟨f1, e8, bd9, p41⟩, hg10⟩ := p41
        replace bd9 : bd f1 140 0 9 := bd9
        replace p41 : Vt f1 140 = Vt f 140 / Tp (48 : Int) * Tp (48 : Int) ∧ ((48 : Int) < 140 → f1 (48 : Int) = f (48 : Int)) := p41
        have e11 : w6 g = .inr (6, [.ref (ad E (g + 1)), .ref (ad E (g + 2)), .ref (ad E (g + 3)), .ref (ad E (g + 4)), .int (iI ty), .ref (ad E (g + 5)), .ref (ad E (g + 6)), .ref (ad E (g + 7)), .ref (ad E (g + 8)), .ref (ad E (g + 9)), .ref (ad E (g + 10)), .int (iI xm), .int (iI ym), .ref (ad E (g + 11)), .int (iI ne), .ref (ad E (g + 12)), .ref (ad E (g + 13))]) := (hg10 g (nx_M_toWhole_0 )).trans c0
        have e12 : w6 (g + 1) = zar E 8 kf := (hg10 (g + 1) (nx_M_toWhole_1 )).trans c2
        have e13 : w6 (g + 2) = zaz E 8 mf := (hg10 (g + 2) (nx_M_toWhole_2 )).trans c3
        have e14 : w6 (g + 3) = zar E 8 sf := (hg10 (g + 3) (nx_M_toWhole_3 )).trans c4
        have e15 : w6 (g + 4) = zar E 448 G := (hg10 (g + 4) (nx_M_toWhole_4 )).trans c5
        have hf16 : ∀ k, k ≠ (g + 11) → w6 k = w0 k := fun k g0 => hg10 k g0
        have bf1 : bd f1 140 0 9 := by assumption
        have cti := fl_in (x := 48) vf.1 hX0
        refine lv_aload_n hx hb d_M_toWhole_44 rfl (lv_at hl 2 rfl) ?_
        refine zv_get (C := "ScaledNumeralDeskModel") (T := TM) (N := 17) hx hb hg uM_in hown hK hH7 q0lt e11 rfl 13 (by decide) (hg _ wm_695) (fun _ h9 => h9) rfl d_M_toWhole_45 ?_
        refine zv_bipush hx hb d_M_toWhole_48 rfl ?_
        refine lv_dup2_11 hx hb d_M_toWhole_50 rfl rfl ?_
        refine zv_iald hx hb hK hH7 q1lt e8 (by omega) (by omega) (by omega) d_M_toWhole_51 ?_
        have b17 := bd9 48 (by omega) (by omega)
        have L69 : ∀ (u2 : Int) (ls : Array Slot) (H18 : Heap) (lc19 : List Loc), (lv_has ls 5 [(4, .int (iI i)), (3, .int (iI so)), (0, .ref (ad E g)), (1, .int (iI d)), (2, .int (iI dn))]) → (zH E w6 (va_A (wl E w0) s.heap.size) s.heap H18 lc19) → ((u2 = 1 ∧ ne = dn ∧ Vt f 140 % Tp 48 ≠ 0) ∨ (u2 = 0 ∧ ¬ (ne = dn ∧ Vt f 140 % Tp 48 ≠ 0))) → W p l e rm_M_toWhole s m a below meth cd H18 lc19 0 0 Qf (F0 m 69 ls [.int (iI u2), .int (iI (f1 48)), .int (iI 48), .ref (ad E (g + 11))]) := by
          intro u2 ls H18 lc19 hl hH hu2
          refine zv_iadd hx hb d_M_toWhole_69 ?_
          have hv3 : Vt (up f1 48 (f1 48 + u2)) 140 = Vt f 140 / Tp 48 * Tp 48 + u2 * Tp 48 := by rw [Vt_set f1 (by decide) (by decide), Int.add_mul, p41.1]; omega
          have hu3 : 0 ≤ u2 * Tp 48 ∧ u2 * Tp 48 ≤ Tp 48 := by rcases hu2 with h8 | h8; rw [h8.1]; omega; rw [h8.1]; omega
          have bu2 : bd (up f1 48 (f1 48 + u2)) 140 0 10 := by
            intro j g1 g2
            by_cases e8 : j = 48
            · rw [e8, up_at]; have := bf1 48 (by decide) (by decide); omega
            · rw [up_ne e8]; have := bf1 j g1 g2; omega
          refine zv_iast hx hb hK hH q1lt e8 (by omega) (by omega) (by omega) d_M_toWhole_70 (fun H21 lc22 w20 hH23 e24 hg25 => ?_)
          have e26 : w20 g = .inr (6, [.ref (ad E (g + 1)), .ref (ad E (g + 2)), .ref (ad E (g + 3)), .ref (ad E (g + 4)), .int (iI ty), .ref (ad E (g + 5)), .ref (ad E (g + 6)), .ref (ad E (g + 7)), .ref (ad E (g + 8)), .ref (ad E (g + 9)), .ref (ad E (g + 10)), .int (iI xm), .int (iI ym), .ref (ad E (g + 11)), .int (iI ne), .ref (ad E (g + 12)), .ref (ad E (g + 13))]) := (hg25 g (nx_M_toWhole_0 )).trans e11
          have e27 : w20 (g + 1) = zar E 8 kf := (hg25 (g + 1) (nx_M_toWhole_1 )).trans e12
          have e28 : w20 (g + 2) = zaz E 8 mf := (hg25 (g + 2) (nx_M_toWhole_2 )).trans e13
          have e29 : w20 (g + 3) = zar E 8 sf := (hg25 (g + 3) (nx_M_toWhole_3 )).trans e14
          have e30 : w20 (g + 4) = zar E 448 G := (hg25 (g + 4) (nx_M_toWhole_4 )).trans e15
          have hf31 : ∀ k, k ≠ (g + 11) → w20 k = w0 k := fun k g0 => (hg25 k g0).trans (hf16 k g0)
          refine lv_aload_n hx hb d_M_toWhole_71 rfl (lv_at hl 2 rfl) ?_
          refine z_callv (va_runV (As := []) (rest := []) ⟨hx, hb, hml, hown, hts⟩ (c_M_settle (l := l) (E := E) (w0 := w20) (g := g) (ty := ty) (xm := xm) (ym := ym) (ne := ne) (f := up f1 48 ((f1 48) + u2)) (q0lt := q0lt) (q1lt := q1lt) (c0 := e26) (c1 := e24) (bf := (fun j g1 g2 => by have := bu2 j g1 g2; omega)) (hne := by omega) (hV := (by rw [hv3]; omega)) H21.size) (z_cwV (C := "ScaledNumeralDeskModel") 0 hg wm_794 wm_791 wm_9 wm_793 wm_s41 (by decide +kernel) ⟨Nat.le_of_ble_eq_true rfl, Nat.le_of_ble_eq_true rfl⟩) (z_preV (r := ("ScaledNumeralDeskModel", TM, 17)) hK hG hn hH23 hA q0lt e26 rfl) rfl rfl hl.1 rfl (lv_room (Nat.le_of_ble_eq_true rfl)) d_M_toWhole_72 ⟨Nat.zero_le _, Nat.zero_le _⟩) hH23 hA (fun  w34 H32 lc33 hH35 p72 => ?_)
          obtain ⟨⟨n2, f2, e36, e37, bd38, p72⟩, hg39⟩ := p72
          replace bd38 : bd f2 140 0 9 := bd38
          replace p72 : (n2 = 0 ∨ n2 = 1) ∧ ((0 ≤ Vt (up f1 48 ((f1 48) + u2)) 140 ∧ Vt f2 140 = Vt (up f1 48 ((f1 48) + u2)) 140 ∧ n2 = ne) ∨ (Vt (up f1 48 ((f1 48) + u2)) 140 < 0 ∧ Vt f2 140 = -Vt (up f1 48 ((f1 48) + u2)) 140 ∧ n2 = 1 - ne)) := p72
          have e40 : w34 (g + 1) = zar E 8 kf := (hg39 (g + 1) (nx_M_toWhole_5 ) (nx_M_toWhole_1 )).trans e27
          have e41 : w34 (g + 2) = zaz E 8 mf := (hg39 (g + 2) (nx_M_toWhole_6 ) (nx_M_toWhole_2 )).trans e28
          have e42 : w34 (g + 3) = zar E 8 sf := (hg39 (g + 3) (nx_M_toWhole_7 ) (nx_M_toWhole_3 )).trans e29
          have e43 : w34 (g + 4) = zar E 448 G := (hg39 (g + 4) (nx_M_toWhole_8 ) (nx_M_toWhole_4 )).trans e30
          have hf44 : ∀ k, k ≠ (g + 11) → k ≠ g → w34 k = w0 k := fun k g0 g1 => (hg39 k g1 g0).trans (hf31 k g0)
          refine lv_aload_n hx hb d_M_toWhole_75 rfl (lv_at hl 2 rfl) ?_
          refine lv_iload_n hx hb d_M_toWhole_76 rfl (lv_at hl 3 rfl) ?_
          refine zv_iconst hx hb d_M_toWhole_77 ?_
          refine z_calli (va_runV (As := [.int (iI d), .int (iI 0)]) (rest := []) ⟨hx, hb, hml, hown, hts⟩ (c_M_keep (l := l) (E := E) (w0 := w34) (g := g) (ty := ty) (xm := xm) (ym := ym) (ne := n2) (f := f2) (kf := kf) (mf := mf) (sf := sf) (G := G) (d := d) (sc := 0) (q0lt := q0lt) (q1lt := q1lt) (q2lt := q2lt) (q3lt := q3lt) (q4lt := q4lt) (q5lt := q5lt) (c0 := e36) (c1 := e37) (c2 := e40) (c3 := e41) (c4 := e42) (c5 := e43) (bf := bd38) (bk := bk) (bm := bm) (bs := bs) (bG := bG) (hne := by omega) (hd := by omega) (hsc := by omega) H32.size) (z_cwV (C := "ScaledNumeralDeskModel") 2 hg wm_806 wm_803 wm_9 wm_805 wm_s44 (by decide +kernel) ⟨Nat.le_of_ble_eq_true rfl, Nat.le_of_ble_eq_true rfl⟩) (z_preV (r := ("ScaledNumeralDeskModel", TM, 17)) hK hG hn hH35 hA q0lt e36 rfl) rfl rfl hl.1 rfl (lv_room (Nat.le_of_ble_eq_true rfl)) d_M_toWhole_78 ⟨Nat.zero_le _, Nat.zero_le _⟩) hH35 hA (fun z49 w47 H45 lc46 hH48 p78 => ?_)
          obtain ⟨⟨k_50, m_51, s_52, x_53, e54, e55, e56, e57, bd58, bd59, bd60, bd61, p78⟩, hg62⟩ := p78
          replace bd58 : bd k_50 8 0 3 := bd58
          replace bd59 : bd m_51 8 0 1 := bd59
          replace bd60 : bd s_52 8 0 24 := bd60
          replace bd61 : bd x_53 448 0 9 := bd61
          replace p78 : KpR z49 d (0 : Int) n2 (Vt f2 140) kf sf mf G k_50 s_52 m_51 x_53 := p78
          have e63 : w47 g = .inr (6, [.ref (ad E (g + 1)), .ref (ad E (g + 2)), .ref (ad E (g + 3)), .ref (ad E (g + 4)), .int (iI ty), .ref (ad E (g + 5)), .ref (ad E (g + 6)), .ref (ad E (g + 7)), .ref (ad E (g + 8)), .ref (ad E (g + 9)), .ref (ad E (g + 10)), .int (iI xm), .int (iI ym), .ref (ad E (g + 11)), .int (iI n2), .ref (ad E (g + 12)), .ref (ad E (g + 13))]) := (hg62 g (nx_M_toWhole_9 ) (nx_M_toWhole_10 ) (nx_M_toWhole_11 ) (nx_M_toWhole_12 )).trans e36
          have e64 : w47 (g + 11) = zar E 140 f2 := (hg62 (g + 11) (nx_M_toWhole_13 ) (nx_M_toWhole_14 ) (nx_M_toWhole_15 ) (nx_M_toWhole_16 )).trans e37
          have hf65 : ∀ k, k ≠ (g + 11) → k ≠ g → k ≠ (g + 1) → k ≠ (g + 2) → k ≠ (g + 3) → k ≠ (g + 4) → w47 k = w0 k := fun k g0 g1 g2 g3 g4 g5 => (hg62 k g2 g3 g4 g5).trans (hf44 k g0 g1)
          rw [hv3] at p72
          have p73 : Vt f2 140 = Vt f 140 / Tp 48 * Tp 48 + u2 * Tp 48 ∧ n2 = ne := by rcases p72.2 with h8 | h8; exact ⟨h8.2.1, h8.2.2⟩; exact absurd h8.1 (by omega)
          have n21 := p73.2
          rw [p73.1, n21] at p78
          rw [hQ]
          exact z_iret hx hb hr hlk hH48 (⟨⟨n2, f2, k_50, m_51, s_52, x_53, e63, e64, e54, e55, e56, e57, bd38, bd58, bd59, bd60, bd61, ⟨p72.1, _, by rcases hu2 with h8 | h8; exact Or.inl ⟨h8.2.1, h8.2.2, by rw [h8.1]; omega⟩; exact Or.inr ⟨h8.2, by rw [h8.1]; omega⟩, p78⟩⟩, (fun k g0 g1 g2 g3 g4 g5 => hf65 k g1 g0 g2 g3 g4 g5)⟩) d_M_toWhole_81
        refine lv_iload_n hx hb d_M_toWhole_52 rfl (lv_at hl 1 rfl) ?_
        refine zv_if_eq (tgt := 68) hx hb d_M_toWhole_53 rfl (by omega) (fun h66 => ?_) (fun h66 => ?_)
        · refine zv_iconst hx hb d_M_toWhole_68 ?_
          have so9 : (so = 0 ∧ Vt f 140 % Tp 48 = 0) ∨ (so = 1 ∧ Vt f 140 % Tp 48 ≠ 0) := by rcases hso with h8 | h8; exact Or.inl ⟨h8.1, tw_0 bf (fun j g1 g2 => h8.2 j g1 (by omega))⟩; exact Or.inr h8
          exact L69 0 _ H4 lc5 (lv_sub hl [0, 1, 2, 3, 4] rfl) hH7 (by omega)
        · refine lv_aload_n hx hb d_M_toWhole_56 rfl (lv_at hl 2 rfl) ?_
          refine zv_get (C := "ScaledNumeralDeskModel") (T := TM) (N := 17) hx hb hg uM_in hown hK hH7 q0lt e11 rfl 14 (by decide) (hg _ wm_696) (fun _ h9 => h9) rfl d_M_toWhole_57 ?_
          refine lv_iload_n hx hb d_M_toWhole_60 rfl (lv_at hl 4 rfl) ?_
          refine zv_icmp_ne (tgt := 68) hx hb d_M_toWhole_61 rfl (by omega) (by omega) (fun h67 => ?_) (fun h67 => ?_)
          · refine zv_iconst hx hb d_M_toWhole_68 ?_
            have so9 : (so = 0 ∧ Vt f 140 % Tp 48 = 0) ∨ (so = 1 ∧ Vt f 140 % Tp 48 ≠ 0) := by rcases hso with h8 | h8; exact Or.inl ⟨h8.1, tw_0 bf (fun j g1 g2 => h8.2 j g1 (by omega))⟩; exact Or.inr h8
            exact L69 0 _ H4 lc5 (lv_sub hl [0, 1, 2, 3, 4] rfl) hH7 (by omega)
          · refine zv_iconst hx hb d_M_toWhole_64 ?_
            refine lv_goto (tgt := 69) hx hb d_M_toWhole_65 rfl ?_
            have so9 : (so = 0 ∧ Vt f 140 % Tp 48 = 0) ∨ (so = 1 ∧ Vt f 140 % Tp 48 ≠ 0) := by rcases hso with h8 | h8; exact Or.inl ⟨h8.1, tw_0 bf (fun j g1 g2 => h8.2 j g1 (by omega))⟩; exact Or.inr h8
            exact L69 1 _ H4 lc5 (lv_sub hl [0, 1, 2, 3, 4] rfl) hH7 (by omega)
      · have L31 : ∀ (s2 : Int) (ls : Array Slot) (H68 : Heap) (lc69 : List Loc), (lv_has ls 5 [(4, .int (iI i)), (3, .int (iI so)), (0, .ref (ad E g)), (1, .int (iI d)), (2, .int (iI dn))]) → (zH E w0 (va_A (wl E w0) s.heap.size) s.heap H68 lc69) → ((s2 = 0 ∧ ∀ j : Int, 0 ≤ j → j < i + 1 → f j = 0) ∨ (s2 = 1 ∧ Vt f 140 % Tp 48 ≠ 0)) → W p l e rm_M_toWhole s m a below meth cd H68 lc69 0 0 Qf (F0 m 31 ls [.int (iI s2)]) := by
          intro s2 ls H68 lc69 hl hH hs2
          refine lv_istore_n (lv' := [(3, .int (iI s2)), (4, .int (iI i)), (0, .ref (ad E g)), (1, .int (iI d)), (2, .int (iI dn))]) hx hb d_M_toWhole_31 rfl hl (by decide) rfl (fun ls hl => ?_)
          refine zv_iinc (k := 1) (lv' := [(4, .int (iI (i + 1))), (3, .int (iI s2)), (0, .ref (ad E g)), (1, .int (iI d)), (2, .int (iI dn))]) hx hb d_M_toWhole_32 hl rfl (by decide) rfl (fun ls hl => ?_)
          refine lv_goto (tgt := 5) hx hb d_M_toWhole_35 rfl ?_
          exact ih  (i + 1) s2 _ H68 lc69 (lv_sub hl [0, 1, 2, 3, 4] rfl) hH (by omega) (by exact hs2) (by omega)
        refine lv_iload_n hx hb d_M_toWhole_12 rfl (lv_at hl 1 rfl) ?_
        refine zv_if_ne (tgt := 26) hx hb d_M_toWhole_13 rfl (by omega) (fun h70 => ?_) (fun h70 => ?_)
        · refine zv_iconst hx hb d_M_toWhole_26 ?_
          refine lv_goto (tgt := 31) hx hb d_M_toWhole_27 rfl ?_
          exact L31 1 _ H1 lc2 (lv_sub hl [0, 1, 2, 3, 4] rfl) hH (by first | (rcases hso with h8 | h8; omega; exact Or.inr ⟨rfl, h8.2⟩) | exact Or.inr ⟨rfl, tw_1 bf hi.1 (by omega) (by assumption)⟩ | (rcases hso with h8 | h8; exact Or.inl ⟨rfl, fun j g1 g2 => by by_cases e8 : j = i; rw [e8]; assumption; exact h8.2 j g1 (by omega)⟩; omega))
        · refine lv_aload_n hx hb d_M_toWhole_16 rfl (lv_at hl 2 rfl) ?_
          refine zv_get (C := "ScaledNumeralDeskModel") (T := TM) (N := 17) hx hb hg uM_in hown hK hH q0lt c0 rfl 13 (by decide) (hg _ wm_695) (fun _ h9 => h9) rfl d_M_toWhole_17 ?_
          refine lv_iload hx hb d_M_toWhole_20 (lv_at hl 0 rfl) ?_
          refine zv_iald hx hb hK hH q1lt c1 (by omega) (by omega) (by omega) d_M_toWhole_22 ?_
          have b71 := bf i (by omega) (by omega)
          refine zv_if_eq (tgt := 30) hx hb d_M_toWhole_23 rfl (by omega) (fun h72 => ?_) (fun h72 => ?_)
          · refine zv_iconst hx hb d_M_toWhole_30 ?_
            exact L31 0 _ H1 lc2 (lv_sub hl [0, 1, 2, 3, 4] rfl) hH (by first | (rcases hso with h8 | h8; omega; exact Or.inr ⟨rfl, h8.2⟩) | exact Or.inr ⟨rfl, tw_1 bf hi.1 (by omega) (by assumption)⟩ | (rcases hso with h8 | h8; exact Or.inl ⟨rfl, fun j g1 g2 => by by_cases e8 : j = i; rw [e8]; assumption; exact h8.2 j g1 (by omega)⟩; omega))
          · refine zv_iconst hx hb d_M_toWhole_26 ?_
            refine lv_goto (tgt := 31) hx hb d_M_toWhole_27 rfl ?_
            exact L31 1 _ H1 lc2 (lv_sub hl [0, 1, 2, 3, 4] rfl) hH (by first | (rcases hso with h8 | h8; omega; exact Or.inr ⟨rfl, h8.2⟩) | exact Or.inr ⟨rfl, tw_1 bf hi.1 (by omega) (by assumption)⟩ | (rcases hso with h8 | h8; exact Or.inl ⟨rfl, fun j g1 g2 => by by_cases e8 : j = i; rw [e8]; assumption; exact h8.2 j g1 (by omega)⟩; omega))
  exact L5 ((48 - 0 : Int).toNat + 1) 0 0 _ s.heap ([]) (lv_sub hl [0, 1, 2, 3, 4] rfl) hH (by omega) (by exact Or.inl ⟨rfl, fun j g1 g2 => by omega⟩) (by omega)
def rm_M_least : Room := { frames := 0, cells := 0, slots := 0, locals := 0 }
set_option maxHeartbeats 4000000 in
set_option maxRecDepth 100000 in
theorem c_M_least (l : Launch) (E : zE) (w0 : zW) (g : Nat) (ty xm ym ne : Int) (f : Int → Int) (q0lt : g < zn E) (q1lt : g + 11 < zn E) (c0 : w0 g = .inr (6, [.ref (ad E (g + 1)), .ref (ad E (g + 2)), .ref (ad E (g + 3)), .ref (ad E (g + 4)), .int (iI ty), .ref (ad E (g + 5)), .ref (ad E (g + 6)), .ref (ad E (g + 7)), .ref (ad E (g + 8)), .ref (ad E (g + 9)), .ref (ad E (g + 10)), .int (iI xm), .int (iI ym), .ref (ad E (g + 11)), .int (iI ne), .ref (ad E (g + 12)), .ref (ad E (g + 13))])) (c1 : w0 (g + 11) = zar E 140 f) (bf : bd f 140 0 9) : zM l y_M_least ws_M_least rm_M_least E [.ref (ad E g)] w0 (zQi E w0 (fun z w' => w' = w0 ∧ (LeR (Vt f 140) z))) := by
  refine z_met (cc := b_M_least) (maxL := 3) (ret := (some .int)) (by decide +kernel) rfl (Nat.le_of_ble_eq_true rfl) ?_
  intro p e s m below meth cd ls a Qf hQ hC hl hH
  obtain ⟨hF, hr, hlk, hK, hG, hn⟩ := hC
  obtain ⟨hx, hb, hml, hown, hts⟩ := hF
  have hg : ∀ w ∈ GW, w.before a s = true := fun w h => hts w (List.mem_cons_of_mem _ h)
  have hA : ∀ q, s.heap.size ≤ q → va_A (wl E w0) s.heap.size q := fun q h => Or.inr h
  have hl : lv_has ls 3 [(0, .ref (ad E g))] := hl
  refine zv_iconst hx hb d_M_least_0 ?_
  refine lv_istore_n (lv' := [(1, .int (iI 0)), (0, .ref (ad E g))]) hx hb d_M_least_1 rfl hl (by decide) rfl (fun ls hl => ?_)
  refine zv_iconst hx hb d_M_least_2 ?_
  refine lv_istore_n (lv' := [(2, .int (iI 1)), (1, .int (iI 0)), (0, .ref (ad E g))]) hx hb d_M_least_3 rfl hl (by decide) rfl (fun ls hl => ?_)
  have L4 : ∀ (fu : Nat) (k : Int) (n : Int) (ls : Array Slot) (H1 : Heap) (lc2 : List Loc), (lv_has ls 3 [(2, .int (iI k)), (1, .int (iI n)), (0, .ref (ad E g))]) → (zH E w0 (va_A (wl E w0) s.heap.size) s.heap H1 lc2) → (1 ≤ k ∧ k ≤ 25) → (0 ≤ n ∧ n < k ∧ (n = 0 ∨ f (48 - n) ≠ 0)) → (∀ j : Int, n < j → j < k → f (48 - j) = 0) → (25 - k < (fu : Int)) → W p l e rm_M_least s m a below meth cd H1 lc2 0 0 Qf (F0 m 4 ls []) := by
    intro fu
    induction fu with
    | zero => intro k n ls H1 lc2 hl hH hk hn9 hz hm; exact absurd hm (by omega)
    | succ fu ih =>
      intro k n ls H1 lc2 hl hH hk hn9 hz hm
      refine lv_iload_n hx hb d_M_least_4 rfl (lv_at hl 0 rfl) ?_
      refine zv_bipush hx hb d_M_least_5 rfl ?_
      refine zv_icmp_gt (tgt := 34) hx hb d_M_least_7 rfl (by omega) (by omega) (fun h3 => ?_) (fun h3 => ?_)
      · refine lv_iload_n hx hb d_M_least_34 rfl (lv_at hl 1 rfl) ?_
        rw [hQ]
        exact z_iret hx hb hr hlk hH (⟨rfl, ⟨hn9.1, by omega, by rw [← Vt_dig bf (by omega) (by omega)]; exact hn9.2.2, fun j g1 g2 => by rw [← Vt_dig bf (by omega) (by omega)]; exact hz j g1 (by omega)⟩⟩) d_M_least_35
      · have L27 : ∀ (n2 : Int) (ls : Array Slot) (H4 : Heap) (lc5 : List Loc), (lv_has ls 3 [(2, .int (iI k)), (1, .int (iI n)), (0, .ref (ad E g))]) → (zH E w0 (va_A (wl E w0) s.heap.size) s.heap H4 lc5) → (0 ≤ n2 ∧ n2 < k + 1 ∧ (n2 = 0 ∨ f (48 - n2) ≠ 0)) → (∀ j : Int, n2 < j → j < k + 1 → f (48 - j) = 0) → W p l e rm_M_least s m a below meth cd H4 lc5 0 0 Qf (F0 m 27 ls [.int (iI n2)]) := by
          intro n2 ls H4 lc5 hl hH hn8 hz8
          refine lv_istore_n (lv' := [(1, .int (iI n2)), (2, .int (iI k)), (0, .ref (ad E g))]) hx hb d_M_least_27 rfl hl (by decide) rfl (fun ls hl => ?_)
          refine zv_iinc (k := 1) (lv' := [(2, .int (iI (k + 1))), (1, .int (iI n2)), (0, .ref (ad E g))]) hx hb d_M_least_28 hl rfl (by decide) rfl (fun ls hl => ?_)
          refine lv_goto (tgt := 4) hx hb d_M_least_31 rfl ?_
          exact ih  (k + 1) n2 _ H4 lc5 (lv_sub hl [0, 1, 2] rfl) hH (by omega) (by exact hn8) (by exact hz8) (by omega)
        refine lv_aload_n hx hb d_M_least_10 rfl (lv_at hl 2 rfl) ?_
        refine zv_get (C := "ScaledNumeralDeskModel") (T := TM) (N := 17) hx hb hg uM_in hown hK hH q0lt c0 rfl 13 (by decide) (hg _ wm_695) (fun _ h9 => h9) rfl d_M_least_11 ?_
        refine zv_bipush hx hb d_M_least_14 rfl ?_
        refine lv_iload_n hx hb d_M_least_16 rfl (lv_at hl 0 rfl) ?_
        refine zv_isub hx hb d_M_least_17 ?_
        refine zv_iald hx hb hK hH q1lt c1 (by omega) (by omega) (by omega) d_M_least_18 ?_
        have b6 := bf (48 - k) (by omega) (by omega)
        refine zv_if_eq (tgt := 26) hx hb d_M_least_19 rfl (by omega) (fun h7 => ?_) (fun h7 => ?_)
        · refine lv_iload_n hx hb d_M_least_26 rfl (lv_at hl 1 rfl) ?_
          exact L27 n _ H1 lc2 (lv_sub hl [0, 1, 2] rfl) hH (by first | exact ⟨by omega, by omega, Or.inr (by assumption)⟩ | exact ⟨by omega, by omega, hn9.2.2⟩) (by intro j g1 g2; first | omega | (by_cases e8 : j = k; rw [e8]; assumption; exact hz j g1 (by omega)))
        · refine lv_iload_n hx hb d_M_least_22 rfl (lv_at hl 0 rfl) ?_
          refine lv_goto (tgt := 27) hx hb d_M_least_23 rfl ?_
          exact L27 k _ H1 lc2 (lv_sub hl [0, 1, 2] rfl) hH (by first | exact ⟨by omega, by omega, Or.inr (by assumption)⟩ | exact ⟨by omega, by omega, hn9.2.2⟩) (by intro j g1 g2; first | omega | (by_cases e8 : j = k; rw [e8]; assumption; exact hz j g1 (by omega)))
  exact L4 ((25 - 1 : Int).toNat + 1) 1 0 _ s.heap ([]) (lv_sub hl [0, 1, 2] rfl) hH (by omega) (by omega) (by intro j g1 g2; omega) (by omega)
