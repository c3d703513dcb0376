theorem nx_M_infinite_0 {g : Nat}  : g ≠ g + 1 := by omega
theorem nx_M_infinite_1 {g : Nat}  : g + 9 ≠ g + 1 := by omega
theorem nx_M_infinite_2 {g : Nat}  : g + 11 ≠ g + 1 := by omega
theorem nx_M_infinite_3 {g : Nat}  : g + 2 ≠ g + 1 := by omega
theorem nx_M_infinite_4 {g : Nat}  : g + 3 ≠ g + 1 := by omega
theorem nx_M_infinite_5 {g : Nat}  : g + 4 ≠ g + 1 := by omega
theorem nx_M_infinite_6 {g : Nat}  : g + 9 ≠ g := by omega
theorem nx_M_infinite_7 {g : Nat}  : g + 9 ≠ g + 11 := by omega
theorem nx_M_infinite_8 {g : Nat}  : g + 9 ≠ g + 2 := by omega
theorem nx_M_infinite_9 {g : Nat}  : g + 9 ≠ g + 3 := by omega
theorem nx_M_infinite_10 {g : Nat}  : g + 9 ≠ g + 4 := by omega
def rm_M_infinite : Room := { frames := 3, cells := 0, slots := 0, locals := 67 }
set_option maxHeartbeats 4000000 in
set_option maxRecDepth 100000 in
theorem c_M_infinite (l : Launch) (E : zE) (w0 : zW) (g : Nat) (ty xm ym ne : Int) (xf f kf mf sf G : Int → Int) (op d ra rb : Int) (q0lt : g < zn E) (q1lt : g + 9 < zn E) (q2lt : g + 11 < zn E) (q3lt : g + 1 < zn E) (q4lt : g + 2 < zn E) (q5lt : g + 3 < zn E) (q6lt : g + 4 < zn E) (c0 : w0 g = .inr (6, [.ref (ad E (g + 1)), .ref (ad E (g + 2)), .ref (ad E (g + 3)), .ref (ad E (g + 4)), .int (iI ty), .ref (ad E (g + 5)), .ref (ad E (g + 6)), .ref (ad E (g + 7)), .ref (ad E (g + 8)), .ref (ad E (g + 9)), .ref (ad E (g + 10)), .int (iI xm), .int (iI ym), .ref (ad E (g + 11)), .int (iI ne), .ref (ad E (g + 12)), .ref (ad E (g + 13))])) (c1 : w0 (g + 9) = zar E 56 xf) (c2 : w0 (g + 11) = zar E 140 f) (c3 : w0 (g + 1) = zar E 8 kf) (c4 : w0 (g + 2) = zaz E 8 mf) (c5 : w0 (g + 3) = zar E 8 sf) (c6 : w0 (g + 4) = zar E 448 G) (bk : bd kf 8 0 3) (bm : bd mf 8 0 1) (bs : bd sf 8 0 24) (bG : bd G 448 0 9) (hxm : xm = 0 ∨ xm = 1) (hym : ym = 0 ∨ ym = 1) (hne : ne = 0 ∨ ne = 1) (bx : bd xf 56 0 9) (bf : bd f 140 0 9) (hd : 0 ≤ d ∧ d < 8) (hra : 0 ≤ ra ∧ ra < 8) (hrb : 0 ≤ rb ∧ rb < 8) (hop : 0 ≤ op ∧ op ≤ 5) (hk1 : kf ra ≠ 1 ∧ kf rb ≠ 1) : zM l y_M_infinite ws_M_infinite rm_M_infinite E [.ref (ad E g), .int (iI op), .int (iI d), .int (iI ra), .int (iI rb)] w0 (zQi E w0 (fun z w' => (∃ (u' : Int) (n' : Int) (x' : Int → Int) (f' : Int → Int) (k' : Int → Int) (m' : Int → Int) (s' : Int → Int) (G' : Int → Int), w' g = .inr (6, [.ref (ad E (g + 1)), .ref (ad E (g + 2)), .ref (ad E (g + 3)), .ref (ad E (g + 4)), .int (iI ty), .ref (ad E (g + 5)), .ref (ad E (g + 6)), .ref (ad E (g + 7)), .ref (ad E (g + 8)), .ref (ad E (g + 9)), .ref (ad E (g + 10)), .int (iI u'), .int (iI ym), .ref (ad E (g + 11)), .int (iI n'), .ref (ad E (g + 12)), .ref (ad E (g + 13))]) ∧ w' (g + 9) = zar E 56 x' ∧ w' (g + 11) = zar E 140 f' ∧ w' (g + 1) = zar E 8 k' ∧ w' (g + 2) = zaz E 8 m' ∧ w' (g + 3) = zar E 8 s' ∧ w' (g + 4) = zar E 448 G' ∧ bd x' 56 0 9 ∧ bd f' 140 0 9 ∧ bd k' 8 0 3 ∧ bd m' 8 0 1 ∧ bd s' 8 0 24 ∧ bd G' 448 0 9 ∧ ((u' = 0 ∨ u' = 1) ∧ (n' = 0 ∨ n' = 1) ∧ ∃ sa sb : Int, SgR (kf ra) (mf ra) (Gt G ra) sa ∧ SgR (kf rb) (mf rb) (Gt G rb) sb ∧ IfR op z d (kf ra) (kf rb) sa sb (sf ra) (mf ra) (Gt G ra) kf sf mf G k' s' m' G')) ∧ ∀ k, k ≠ g → k ≠ (g + 9) → k ≠ (g + 11) → k ≠ (g + 1) → k ≠ (g + 2) → k ≠ (g + 3) → k ≠ (g + 4) → w' k = w0 k)) := by
  refine z_met (cc := b_M_infinite) (maxL := 8) (ret := (some .int)) (by decide +kernel) rfl (Nat.le_of_ble_eq_true rfl) ?_
  intro p e s m below meth cd ls a Qf hQ hC hl hH
  obtain ⟨hF, hr, hlk, hK, hG, hn⟩ := hC
  obtain ⟨hx, hb, hml, hown, hts⟩ := hF
  have hg : ∀ w ∈ GW, w.before a s = true := fun w h => hts w (List.mem_cons_of_mem _ h)
  have hA : ∀ q, s.heap.size ≤ q → va_A (wl E w0) s.heap.size q := fun q h => Or.inr h
  have hl : lv_has ls 8 [(0, .ref (ad E g)), (1, .int (iI op)), (2, .int (iI d)), (3, .int (iI ra)), (4, .int (iI rb))] := hl
  have bka := bk ra hra.1 hra.2
  have bkb := bk rb hrb.1 hrb.2
  have bma := bm ra hra.1 hra.2
  refine lv_aload_n hx hb d_M_infinite_0 rfl (lv_at hl 0 rfl) ?_
  refine zv_get (C := "ScaledNumeralDeskModel") (T := TM) (N := 17) hx hb hg uM_in hown hK hH q0lt c0 rfl 0 (by decide) (hg _ wm_682) (fun _ h9 => h9) rfl d_M_infinite_1 ?_
  refine lv_iload_n hx hb d_M_infinite_4 rfl (lv_at hl 3 rfl) ?_
  refine zv_iald hx hb hK hH q3lt c3 (by omega) (by omega) (by omega) d_M_infinite_5 ?_
  have b1 := bk ra (by omega) (by omega)
  refine lv_istore (lv' := [(5, .int (iI (kf ra))), (0, .ref (ad E g)), (1, .int (iI op)), (2, .int (iI d)), (3, .int (iI ra)), (4, .int (iI rb))]) hx hb d_M_infinite_6 hl (by decide) rfl (fun ls hl => ?_)
  have L43 : ∀ (kb : Int) (ls : Array Slot) (H2 : Heap) (lc3 : List Loc), (lv_has ls 8 [(5, .int (iI (kf ra))), (0, .ref (ad E g)), (1, .int (iI op)), (2, .int (iI d)), (3, .int (iI ra)), (4, .int (iI rb))]) → (zH E w0 (va_A (wl E w0) s.heap.size) s.heap H2 lc3) → (kb = neg5 op (kf rb)) → (0 ≤ kb ∧ kb ≤ 3 ∧ (1 < kb ↔ 1 < kf rb)) → W p l e rm_M_infinite s m a below meth cd H2 lc3 0 0 Qf (F0 m 43 ls [.int (iI kb)]) := by
    intro kb ls H2 lc3 hl hH hkb hkr
    refine lv_istore (lv' := [(6, .int (iI kb)), (5, .int (iI (kf ra))), (0, .ref (ad E g)), (1, .int (iI op)), (2, .int (iI d)), (3, .int (iI ra)), (4, .int (iI rb))]) hx hb d_M_infinite_43 hl (by decide) rfl (fun ls hl => ?_)
    refine lv_aload_n hx hb d_M_infinite_45 rfl (lv_at hl 2 rfl) ?_
    refine lv_iload_n hx hb d_M_infinite_46 rfl (lv_at hl 5 rfl) ?_
    refine z_calli (va_runV (As := [.int (iI ra)]) (rest := []) ⟨hx, hb, hml, hown, hts⟩ (c_M_sign (l := l) (E := E) (w0 := w0) (g := g) (ty := ty) (xm := xm) (ym := ym) (ne := ne) (kf := kf) (mf := mf) (G := G) (r := ra) (q0lt := q0lt) (q1lt := q3lt) (q2lt := q4lt) (q3lt := q6lt) (c0 := c0) (c1 := c3) (c2 := c4) (c3 := c6) (bk := bk) (bm := bm) (bG := bG) (hr0 := by omega) H2.size) (z_cwV (C := "ScaledNumeralDeskModel") 1 hg wm_839 wm_836 wm_9 wm_838 wm_s48 (by decide +kernel) ⟨Nat.le_of_ble_eq_true rfl, Nat.le_of_ble_eq_true rfl⟩) (z_preV (r := ("ScaledNumeralDeskModel", TM, 17)) hK hG hn hH hA q0lt c0 rfl) rfl rfl hl.1 rfl (lv_room (Nat.le_of_ble_eq_true rfl)) d_M_infinite_47 ⟨Nat.zero_le _, Nat.zero_le _⟩) hH hA (fun sa w6 H4 lc5 hH7 p47 => ?_)
    obtain ⟨ew8, p47⟩ := p47
    rw [ew8] at hH7
    replace p47 : (kf ra = 2 ∧ sa = 1) ∨ (kf ra = 3 ∧ sa = -1) ∨ (kf ra ≤ 1 ∧ ((sa = 0 ∧ Gt G ra = 0) ∨ (0 < Gt G ra ∧ ((mf ra = 1 ∧ sa = -1) ∨ (mf ra = 0 ∧ sa = 1))))) := p47
    replace p47 : SgR (kf ra) (mf ra) (Gt G ra) sa := p47
    have s47 := SgR_in p47
    refine lv_aload_n hx hb d_M_infinite_50 rfl (lv_at hl 2 rfl) ?_
    refine lv_iload hx hb d_M_infinite_51 (lv_at hl 6 rfl) ?_
    refine z_calli (va_runV (As := [.int (iI rb)]) (rest := [.int (iI sa)]) ⟨hx, hb, hml, hown, hts⟩ (c_M_sign (l := l) (E := E) (w0 := w0) (g := g) (ty := ty) (xm := xm) (ym := ym) (ne := ne) (kf := kf) (mf := mf) (G := G) (r := rb) (q0lt := q0lt) (q1lt := q3lt) (q2lt := q4lt) (q3lt := q6lt) (c0 := c0) (c1 := c3) (c2 := c4) (c3 := c6) (bk := bk) (bm := bm) (bG := bG) (hr0 := by omega) H4.size) (z_cwV (C := "ScaledNumeralDeskModel") 1 hg wm_839 wm_836 wm_9 wm_838 wm_s48 (by decide +kernel) ⟨Nat.le_of_ble_eq_true rfl, Nat.le_of_ble_eq_true rfl⟩) (z_preV (r := ("ScaledNumeralDeskModel", TM, 17)) hK hG hn hH7 hA q0lt c0 rfl) rfl rfl hl.1 rfl (lv_room (Nat.le_of_ble_eq_true rfl)) d_M_infinite_53 ⟨Nat.zero_le _, Nat.zero_le _⟩) hH7 hA (fun sb w11 H9 lc10 hH12 p53 => ?_)
    obtain ⟨ew13, p53⟩ := p53
    rw [ew13] at hH12
    replace p53 : (kf rb = 2 ∧ sb = 1) ∨ (kf rb = 3 ∧ sb = -1) ∨ (kf rb ≤ 1 ∧ ((sb = 0 ∧ Gt G rb = 0) ∨ (0 < Gt G rb ∧ ((mf rb = 1 ∧ sb = -1) ∨ (mf rb = 0 ∧ sb = 1))))) := p53
    replace p53 : SgR (kf rb) (mf rb) (Gt G rb) sb := p53
    have s53 := SgR_in p53
    have m9 := mul_11 s47 s53
    refine zv_imul hx hb d_M_infinite_56 ?_
    refine lv_istore (lv' := [(7, .int (iI (sa * sb))), (6, .int (iI kb)), (5, .int (iI (kf ra))), (0, .ref (ad E g)), (1, .int (iI op)), (2, .int (iI d)), (3, .int (iI ra)), (4, .int (iI rb))]) hx hb d_M_infinite_57 hl (by decide) rfl (fun ls hl => ?_)
    refine lv_iload_n hx hb d_M_infinite_59 rfl (lv_at hl 4 rfl) ?_
    refine zv_iconst hx hb d_M_infinite_60 ?_
    refine zv_icmp_ge (tgt := 106) hx hb d_M_infinite_61 rfl (by omega) (by omega) (fun h14 => ?_) (fun h14 => ?_)
    · refine lv_iload_n hx hb d_M_infinite_106 rfl (lv_at hl 4 rfl) ?_
      refine zv_iconst hx hb d_M_infinite_107 ?_
      refine zv_icmp_ne (tgt := 136) hx hb d_M_infinite_108 rfl (by omega) (by omega) (fun h15 => ?_) (fun h15 => ?_)
      · have L150 : ∀  (ls : Array Slot) (H16 : Heap) (lc17 : List Loc), (lv_has ls 8 [(7, .int (iI (sa * sb))), (6, .int (iI kb)), (5, .int (iI (kf ra))), (0, .ref (ad E g)), (1, .int (iI op)), (2, .int (iI d)), (3, .int (iI ra)), (4, .int (iI rb))]) → (zH E w0 (va_A (wl E w0) s.heap.size) s.heap H16 lc17) → (2 < op ∧ ¬ (1 < kf ra ∧ sa * sb = 0)) → W p l e rm_M_infinite s m a below meth cd H16 lc17 0 0 Qf (F0 m 150 ls []) := by
          intro ls H16 lc17 hl hH h150
          refine lv_iload_n hx hb d_M_infinite_150 rfl (lv_at hl 4 rfl) ?_
          refine zv_iconst hx hb d_M_infinite_151 ?_
          refine zv_icmp_ne (tgt := 177) hx hb d_M_infinite_152 rfl (by omega) (by omega) (fun h18 => ?_) (fun h18 => ?_)
          · refine lv_iload hx hb d_M_infinite_177 (lv_at hl 2 rfl) ?_
            refine zv_if_ne (tgt := 188) hx hb d_M_infinite_179 rfl (by omega) (fun h19 => ?_) (fun h19 => ?_)
            · have L210 : ∀ (kc : Int) (ls : Array Slot) (H20 : Heap) (lc21 : List Loc), (lv_has ls 8 [(7, .int (iI (sa * sb))), (6, .int (iI kb)), (5, .int (iI (kf ra))), (0, .ref (ad E g)), (1, .int (iI op)), (2, .int (iI d)), (3, .int (iI ra)), (4, .int (iI rb))]) → (zH E w0 (va_A (wl E w0) s.heap.size) s.heap H20 lc21) → ((1 < kf rb ∧ kc = 1) ∨ (kf rb ≤ 1 ∧ 0 < sa * sb ∧ kc = 2) ∨ (kf rb ≤ 1 ∧ sa * sb ≤ 0 ∧ kc = 3)) → W p l e rm_M_infinite s m a below meth cd H20 lc21 0 0 Qf (F0 m 210 ls [.int (iI kc), .int (iI d), .ref (ad E g)]) := by
                intro kc ls H20 lc21 hl hH hkc
                refine z_calli (va_runV (As := [.int (iI d), .int (iI kc)]) (rest := []) ⟨hx, hb, hml, hown, hts⟩ (c_M_special (l := l) (E := E) (w0 := w0) (g := g) (ty := ty) (xm := xm) (ym := ym) (ne := ne) (f := kf) (d := d) (k := kc) (q0lt := q0lt) (q1lt := q3lt) (c0 := c0) (c1 := c3) (hd0 := by omega) H20.size) (z_cwV (C := "ScaledNumeralDeskModel") 2 hg wm_754 wm_751 wm_9 wm_753 wm_s31 (by decide +kernel) ⟨Nat.le_of_ble_eq_true rfl, Nat.le_of_ble_eq_true rfl⟩) (z_preV (r := ("ScaledNumeralDeskModel", TM, 17)) hK hG hn hH hA q0lt c0 rfl) rfl rfl hl.1 rfl (lv_room (Nat.le_of_ble_eq_true rfl)) d_M_infinite_210 ⟨Nat.zero_le _, Nat.zero_le _⟩) hH hA (fun z26 w24 H22 lc23 hH25 p210 => ?_)
                obtain ⟨⟨e27, p210⟩, hg28⟩ := p210
                replace p210 : z26 = 0 := p210
                have e29 : w24 g = .inr (6, [.ref (ad E (g + 1)), .ref (ad E (g + 2)), .ref (ad E (g + 3)), .ref (ad E (g + 4)), .int (iI ty), .ref (ad E (g + 5)), .ref (ad E (g + 6)), .ref (ad E (g + 7)), .ref (ad E (g + 8)), .ref (ad E (g + 9)), .ref (ad E (g + 10)), .int (iI xm), .int (iI ym), .ref (ad E (g + 11)), .int (iI ne), .ref (ad E (g + 12)), .ref (ad E (g + 13))]) := (hg28 g (nx_M_infinite_0 )).trans c0
                have e30 : w24 (g + 9) = zar E 56 xf := (hg28 (g + 9) (nx_M_infinite_1 )).trans c1
                have e31 : w24 (g + 11) = zar E 140 f := (hg28 (g + 11) (nx_M_infinite_2 )).trans c2
                have e32 : w24 (g + 2) = zaz E 8 mf := (hg28 (g + 2) (nx_M_infinite_3 )).trans c4
                have e33 : w24 (g + 3) = zar E 8 sf := (hg28 (g + 3) (nx_M_infinite_4 )).trans c5
                have e34 : w24 (g + 4) = zar E 448 G := (hg28 (g + 4) (nx_M_infinite_5 )).trans c6
                have hf35 : ∀ k, k ≠ (g + 1) → w24 k = w0 k := fun k g0 => hg28 k g0
                have bk9 := bd_up bk d kc (by omega)
                rw [hQ]
                exact z_iret hx hb hr hlk hH25 (⟨⟨xm, ne, xf, f, (up kf d kc), mf, sf, G, e29, e30, e31, e27, e32, e33, e34, (by assumption), (by assumption), (by assumption), bm, bs, bG, ⟨hxm, hne, sa, sb, p47, p53, Or.inr (Or.inr (Or.inr ⟨by omega, by omega, Or.inr ⟨by omega, Or.inr ⟨by omega, by rcases hkc with h8 | h8 | h8; exact Or.inl ⟨h8.1, p210, by rw [h8.2], rfl, rfl, rfl⟩; exact Or.inr (Or.inl ⟨h8.1, h8.2.1, p210, by rw [h8.2.2], rfl, rfl, rfl⟩); exact Or.inr (Or.inr ⟨h8.1, h8.2.1, p210, by rw [h8.2.2], rfl, rfl, rfl⟩)⟩⟩⟩))⟩⟩, (fun k g0 g1 g2 g3 g4 g5 g6 => hf35 k g3)⟩) d_M_infinite_213
              refine lv_aload_n hx hb d_M_infinite_188 rfl (lv_at hl 3 rfl) ?_
              refine lv_iload_n hx hb d_M_infinite_189 rfl (lv_at hl 5 rfl) ?_
              refine lv_iload hx hb d_M_infinite_190 (lv_at hl 1 rfl) ?_
              refine zv_iconst hx hb d_M_infinite_192 ?_
              refine zv_icmp_le (tgt := 200) hx hb d_M_infinite_193 rfl (by omega) (by omega) (fun h36 => ?_) (fun h36 => ?_)
              · refine lv_iload hx hb d_M_infinite_200 (lv_at hl 0 rfl) ?_
                refine zv_if_le (tgt := 209) hx hb d_M_infinite_202 rfl (by omega) (fun h37 => ?_) (fun h37 => ?_)
                · refine zv_iconst hx hb d_M_infinite_209 ?_
                  exact L210 3 _ H16 lc17 (lv_sub hl [0, 1, 2, 3, 4, 5, 6, 7] rfl) hH (by omega)
                · refine zv_iconst hx hb d_M_infinite_205 ?_
                  refine lv_goto (tgt := 210) hx hb d_M_infinite_206 rfl ?_
                  exact L210 2 _ H16 lc17 (lv_sub hl [0, 1, 2, 3, 4, 5, 6, 7] rfl) hH (by omega)
              · refine zv_iconst hx hb d_M_infinite_196 ?_
                refine lv_goto (tgt := 210) hx hb d_M_infinite_197 rfl ?_
                exact L210 1 _ H16 lc17 (lv_sub hl [0, 1, 2, 3, 4, 5, 6, 7] rfl) hH (by omega)
            · refine lv_aload_n hx hb d_M_infinite_182 rfl (lv_at hl 3 rfl) ?_
              refine lv_iload_n hx hb d_M_infinite_183 rfl (lv_at hl 5 rfl) ?_
              refine z_calli (va_runV (As := [.int (iI d)]) (rest := []) ⟨hx, hb, hml, hown, hts⟩ (c_M_zero (l := l) (E := E) (w0 := w0) (g := g) (ty := ty) (xm := xm) (ym := ym) (ne := ne) (f := f) (kf := kf) (mf := mf) (sf := sf) (G := G) (d := d) (q0lt := q0lt) (q1lt := q2lt) (q2lt := q3lt) (q3lt := q4lt) (q4lt := q5lt) (q5lt := q6lt) (c0 := c0) (c1 := c2) (c2 := c3) (c3 := c4) (c4 := c5) (c5 := c6) (bk := bk) (bm := bm) (bs := bs) (bG := bG) (hd := by omega) H16.size) (z_cwV (C := "ScaledNumeralDeskModel") 1 hg wm_855 wm_852 wm_9 wm_854 wm_s52 (by decide +kernel) ⟨Nat.le_of_ble_eq_true rfl, Nat.le_of_ble_eq_true rfl⟩) (z_preV (r := ("ScaledNumeralDeskModel", TM, 17)) hK hG hn hH hA q0lt c0 rfl) rfl rfl hl.1 rfl (lv_room (Nat.le_of_ble_eq_true rfl)) d_M_infinite_184 ⟨Nat.zero_le _, Nat.zero_le _⟩) hH hA (fun z42 w40 H38 lc39 hH41 p184 => ?_)
              obtain ⟨⟨f_43, k_44, m_45, s_46, x_47, e48, e49, e50, e51, e52, e53, bd54, bd55, bd56, bd57, bd58, p184⟩, hg59⟩ := p184
              replace bd54 : bd f_43 140 0 9 := bd54
              replace bd55 : bd k_44 8 0 3 := bd55
              replace bd56 : bd m_45 8 0 1 := bd56
              replace bd57 : bd s_46 8 0 24 := bd57
              replace bd58 : bd x_47 448 0 9 := bd58
              replace p184 : KpR z42 d 0 0 0 kf sf mf G k_44 s_46 m_45 x_47 := p184
              have e60 : w40 (g + 9) = zar E 56 xf := (hg59 (g + 9) (nx_M_infinite_6 ) (nx_M_infinite_7 ) (nx_M_infinite_1 ) (nx_M_infinite_8 ) (nx_M_infinite_9 ) (nx_M_infinite_10 )).trans c1
              have hf61 : ∀ k, k ≠ g → k ≠ (g + 11) → k ≠ (g + 1) → k ≠ (g + 2) → k ≠ (g + 3) → k ≠ (g + 4) → w40 k = w0 k := fun k g0 g1 g2 g3 g4 g5 => hg59 k g0 g1 g2 g3 g4 g5
              rw [hQ]
              exact z_iret hx hb hr hlk hH41 (⟨⟨xm, 0, xf, f_43, k_44, m_45, s_46, x_47, e48, e60, e49, e50, e51, e52, e53, (by assumption), bd54, bd55, bd56, bd57, bd58, ⟨hxm, Or.inl rfl, sa, sb, p47, p53, Or.inr (Or.inr (Or.inr ⟨by omega, by omega, Or.inr ⟨by omega, Or.inl ⟨by omega, p184⟩⟩⟩))⟩⟩, (fun k g0 g1 g2 g3 g4 g5 g6 => hf61 k g0 g2 g3 g4 g5 g6)⟩) d_M_infinite_187
          · refine lv_iload hx hb d_M_infinite_155 (lv_at hl 2 rfl) ?_
            refine zv_iconst hx hb d_M_infinite_157 ?_
            refine zv_icmp_le (tgt := 170) hx hb d_M_infinite_158 rfl (by omega) (by omega) (fun h62 => ?_) (fun h62 => ?_)
            · refine lv_aload_n hx hb d_M_infinite_170 rfl (lv_at hl 3 rfl) ?_
              refine lv_iload_n hx hb d_M_infinite_171 rfl (lv_at hl 5 rfl) ?_
              refine lv_iload_n hx hb d_M_infinite_172 rfl (lv_at hl 6 rfl) ?_
              refine z_calli (va_runV (As := [.int (iI d), .int (iI ra)]) (rest := []) ⟨hx, hb, hml, hown, hts⟩ (c_M_copy (l := l) (E := E) (w0 := w0) (g := g) (ty := ty) (xm := xm) (ym := ym) (ne := ne) (xf := xf) (f := f) (kf := kf) (mf := mf) (sf := sf) (G := G) (d := d) (ra := ra) (q0lt := q0lt) (q1lt := q1lt) (q2lt := q2lt) (q3lt := q3lt) (q4lt := q4lt) (q5lt := q5lt) (q6lt := q6lt) (c0 := c0) (c1 := c1) (c2 := c2) (c3 := c3) (c4 := c4) (c5 := c5) (c6 := c6) (bk := bk) (bm := bm) (bs := bs) (bG := bG) (hd := by omega) (hra := by omega) H16.size) (z_cwV (C := "ScaledNumeralDeskModel") 2 hg wm_843 wm_840 wm_9 wm_842 wm_s49 (by decide +kernel) ⟨Nat.le_of_ble_eq_true rfl, Nat.le_of_ble_eq_true rfl⟩) (z_preV (r := ("ScaledNumeralDeskModel", TM, 17)) hK hG hn hH hA q0lt c0 rfl) rfl rfl hl.1 rfl (lv_room (Nat.le_of_ble_eq_true rfl)) d_M_infinite_173 ⟨Nat.zero_le _, Nat.zero_le _⟩) hH hA (fun z67 w65 H63 lc64 hH66 p173 => ?_)
              obtain ⟨⟨x_68, f_69, k_70, m_71, s_72, x_73, e74, e75, e76, e77, e78, e79, e80, bd81, bd82, bd83, bd84, bd85, bd86, p173⟩, hg87⟩ := p173
              replace bd81 : bd x_68 56 0 9 := bd81
              replace bd82 : bd f_69 140 0 9 := bd82
              replace bd83 : bd k_70 8 0 3 := bd83
              replace bd84 : bd m_71 8 0 1 := bd84
              replace bd85 : bd s_72 8 0 24 := bd85
              replace bd86 : bd x_73 448 0 9 := bd86
              replace p173 : KpR z67 d (sf ra) (mf ra) (Gt G ra * Tp 24) kf sf mf G k_70 s_72 m_71 x_73 := p173
              have hf88 : ∀ k, k ≠ g → k ≠ (g + 9) → k ≠ (g + 11) → k ≠ (g + 1) → k ≠ (g + 2) → k ≠ (g + 3) → k ≠ (g + 4) → w65 k = w0 k := fun k g0 g1 g2 g3 g4 g5 g6 => hg87 k g0 g1 g2 g3 g4 g5 g6
              rw [hQ]
              exact z_iret hx hb hr hlk hH66 (⟨⟨(mf ra), (mf ra), x_68, f_69, k_70, m_71, s_72, x_73, e74, e75, e76, e77, e78, e79, e80, bd81, bd82, bd83, bd84, bd85, bd86, ⟨by omega, by omega, sa, sb, p47, p53, Or.inr (Or.inr (Or.inr ⟨by omega, by omega, Or.inl ⟨by omega, Or.inr ⟨by omega, p173⟩⟩⟩))⟩⟩, (fun k g0 g1 g2 g3 g4 g5 g6 => hf88 k g0 g1 g2 g3 g4 g5 g6)⟩) d_M_infinite_176
            · refine lv_aload_n hx hb d_M_infinite_161 rfl (lv_at hl 3 rfl) ?_
              refine lv_iload_n hx hb d_M_infinite_162 rfl (lv_at hl 5 rfl) ?_
              refine zv_iconst hx hb d_M_infinite_163 ?_
              refine z_calli (va_runV (As := [.int (iI d), .int (iI 1)]) (rest := []) ⟨hx, hb, hml, hown, hts⟩ (c_M_special (l := l) (E := E) (w0 := w0) (g := g) (ty := ty) (xm := xm) (ym := ym) (ne := ne) (f := kf) (d := d) (k := 1) (q0lt := q0lt) (q1lt := q3lt) (c0 := c0) (c1 := c3) (hd0 := by omega) H16.size) (z_cwV (C := "ScaledNumeralDeskModel") 2 hg wm_754 wm_751 wm_9 wm_753 wm_s31 (by decide +kernel) ⟨Nat.le_of_ble_eq_true rfl, Nat.le_of_ble_eq_true rfl⟩) (z_preV (r := ("ScaledNumeralDeskModel", TM, 17)) hK hG hn hH hA q0lt c0 rfl) rfl rfl hl.1 rfl (lv_room (Nat.le_of_ble_eq_true rfl)) d_M_infinite_164 ⟨Nat.zero_le _, Nat.zero_le _⟩) hH hA (fun z93 w91 H89 lc90 hH92 p164 => ?_)
              obtain ⟨⟨e94, p164⟩, hg95⟩ := p164
              replace p164 : z93 = 0 := p164
              have e96 : w91 g = .inr (6, [.ref (ad E (g + 1)), .ref (ad E (g + 2)), .ref (ad E (g + 3)), .ref (ad E (g + 4)), .int (iI ty), .ref (ad E (g + 5)), .ref (ad E (g + 6)), .ref (ad E (g + 7)), .ref (ad E (g + 8)), .ref (ad E (g + 9)), .ref (ad E (g + 10)), .int (iI xm), .int (iI ym), .ref (ad E (g + 11)), .int (iI ne), .ref (ad E (g + 12)), .ref (ad E (g + 13))]) := (hg95 g (nx_M_infinite_0 )).trans c0
              have e97 : w91 (g + 9) = zar E 56 xf := (hg95 (g + 9) (nx_M_infinite_1 )).trans c1
              have e98 : w91 (g + 11) = zar E 140 f := (hg95 (g + 11) (nx_M_infinite_2 )).trans c2
              have e99 : w91 (g + 2) = zaz E 8 mf := (hg95 (g + 2) (nx_M_infinite_3 )).trans c4
              have e100 : w91 (g + 3) = zar E 8 sf := (hg95 (g + 3) (nx_M_infinite_4 )).trans c5
              have e101 : w91 (g + 4) = zar E 448 G := (hg95 (g + 4) (nx_M_infinite_5 )).trans c6
              have hf102 : ∀ k, k ≠ (g + 1) → w91 k = w0 k := fun k g0 => hg95 k g0
              have bk9 := bd_up bk d 1 (by omega)
              refine lv_goto (tgt := 176) hx hb d_M_infinite_167 rfl ?_
              rw [hQ]
              exact z_iret hx hb hr hlk hH92 (⟨⟨xm, ne, xf, f, (up kf d (1 : Int)), mf, sf, G, e96, e97, e98, e94, e99, e100, e101, (by assumption), (by assumption), (by assumption), bm, bs, bG, ⟨hxm, hne, sa, sb, p47, p53, Or.inr (Or.inr (Or.inr ⟨by omega, by omega, Or.inl ⟨by omega, Or.inl ⟨by omega, p164, rfl, rfl, rfl, rfl⟩⟩⟩))⟩⟩, (fun k g0 g1 g2 g3 g4 g5 g6 => hf102 k g3)⟩) d_M_infinite_176
        refine lv_iload hx hb d_M_infinite_136 (lv_at hl 2 rfl) ?_
        refine zv_iconst hx hb d_M_infinite_138 ?_
        refine zv_icmp_le (tgt := 150) hx hb d_M_infinite_139 rfl (by omega) (by omega) (fun h103 => ?_) (fun h103 => ?_)
        · exact L150 _ H9 lc10 (lv_sub hl [0, 1, 2, 3, 4, 5, 6, 7] rfl) hH12 (by omega)
        · refine lv_iload hx hb d_M_infinite_142 (lv_at hl 0 rfl) ?_
          refine zv_if_ne (tgt := 150) hx hb d_M_infinite_144 rfl (by omega) (fun h104 => ?_) (fun h104 => ?_)
          · exact L150 _ H9 lc10 (lv_sub hl [0, 1, 2, 3, 4, 5, 6, 7] rfl) hH12 (by omega)
          · refine zv_bipush hx hb d_M_infinite_147 rfl ?_
            rw [hQ]
            exact z_iret hx hb hr hlk hH12 (⟨⟨xm, ne, xf, f, kf, mf, sf, G, c0, c1, c2, c3, c4, c5, c6, (by assumption), (by assumption), bk, bm, bs, bG, ⟨hxm, hne, sa, sb, p47, p53, Or.inr (Or.inr (Or.inl ⟨by omega, by omega, by omega, rfl, rfl, rfl, rfl, rfl⟩))⟩⟩, (fun k _ _ _ _ _ _ _ => rfl)⟩) d_M_infinite_149
      · have L132 : ∀ (kc : Int) (ls : Array Slot) (H105 : Heap) (lc106 : List Loc), (lv_has ls 8 [(7, .int (iI (sa * sb))), (6, .int (iI kb)), (5, .int (iI (kf ra))), (0, .ref (ad E g)), (1, .int (iI op)), (2, .int (iI d)), (3, .int (iI ra)), (4, .int (iI rb))]) → (zH E w0 (va_A (wl E w0) s.heap.size) s.heap H105 lc106) → ((sa * sb = 0 ∧ kc = 1) ∨ (0 < sa * sb ∧ kc = 2) ∨ (sa * sb < 0 ∧ kc = 3)) → W p l e rm_M_infinite s m a below meth cd H105 lc106 0 0 Qf (F0 m 132 ls [.int (iI kc), .int (iI d), .ref (ad E g)]) := by
          intro kc ls H105 lc106 hl hH hkc
          refine z_calli (va_runV (As := [.int (iI d), .int (iI kc)]) (rest := []) ⟨hx, hb, hml, hown, hts⟩ (c_M_special (l := l) (E := E) (w0 := w0) (g := g) (ty := ty) (xm := xm) (ym := ym) (ne := ne) (f := kf) (d := d) (k := kc) (q0lt := q0lt) (q1lt := q3lt) (c0 := c0) (c1 := c3) (hd0 := by omega) H105.size) (z_cwV (C := "ScaledNumeralDeskModel") 2 hg wm_754 wm_751 wm_9 wm_753 wm_s31 (by decide +kernel) ⟨Nat.le_of_ble_eq_true rfl, Nat.le_of_ble_eq_true rfl⟩) (z_preV (r := ("ScaledNumeralDeskModel", TM, 17)) hK hG hn hH hA q0lt c0 rfl) rfl rfl hl.1 rfl (lv_room (Nat.le_of_ble_eq_true rfl)) d_M_infinite_132 ⟨Nat.zero_le _, Nat.zero_le _⟩) hH hA (fun z111 w109 H107 lc108 hH110 p132 => ?_)
          obtain ⟨⟨e112, p132⟩, hg113⟩ := p132
          replace p132 : z111 = 0 := p132
          have e114 : w109 g = .inr (6, [.ref (ad E (g + 1)), .ref (ad E (g + 2)), .ref (ad E (g + 3)), .ref (ad E (g + 4)), .int (iI ty), .ref (ad E (g + 5)), .ref (ad E (g + 6)), .ref (ad E (g + 7)), .ref (ad E (g + 8)), .ref (ad E (g + 9)), .ref (ad E (g + 10)), .int (iI xm), .int (iI ym), .ref (ad E (g + 11)), .int (iI ne), .ref (ad E (g + 12)), .ref (ad E (g + 13))]) := (hg113 g (nx_M_infinite_0 )).trans c0
          have e115 : w109 (g + 9) = zar E 56 xf := (hg113 (g + 9) (nx_M_infinite_1 )).trans c1
          have e116 : w109 (g + 11) = zar E 140 f := (hg113 (g + 11) (nx_M_infinite_2 )).trans c2
          have e117 : w109 (g + 2) = zaz E 8 mf := (hg113 (g + 2) (nx_M_infinite_3 )).trans c4
          have e118 : w109 (g + 3) = zar E 8 sf := (hg113 (g + 3) (nx_M_infinite_4 )).trans c5
          have e119 : w109 (g + 4) = zar E 448 G := (hg113 (g + 4) (nx_M_infinite_5 )).trans c6
          have hf120 : ∀ k, k ≠ (g + 1) → w109 k = w0 k := fun k g0 => hg113 k g0
          have bk9 := bd_up bk d kc (by omega)
          rw [hQ]
          exact z_iret hx hb hr hlk hH110 (⟨⟨xm, ne, xf, f, (up kf d kc), mf, sf, G, e114, e115, e116, e112, e117, e118, e119, (by assumption), (by assumption), (by assumption), bm, bs, bG, ⟨hxm, hne, sa, sb, p47, p53, Or.inr (Or.inl ⟨by omega, by rcases hkc with h8 | h8 | h8; exact Or.inl ⟨h8.1, p132, by rw [h8.2], rfl, rfl, rfl⟩; exact Or.inr (Or.inl ⟨h8.1, p132, by rw [h8.2], rfl, rfl, rfl⟩); exact Or.inr (Or.inr ⟨h8.1, p132, by rw [h8.2], rfl, rfl, rfl⟩)⟩)⟩⟩, (fun k g0 g1 g2 g3 g4 g5 g6 => hf120 k g3)⟩) d_M_infinite_135
        refine lv_aload_n hx hb d_M_infinite_111 rfl (lv_at hl 3 rfl) ?_
        refine lv_iload_n hx hb d_M_infinite_112 rfl (lv_at hl 5 rfl) ?_
        refine lv_iload hx hb d_M_infinite_113 (lv_at hl 0 rfl) ?_
        refine zv_if_ne (tgt := 122) hx hb d_M_infinite_115 rfl (by omega) (fun h121 => ?_) (fun h121 => ?_)
        · refine lv_iload hx hb d_M_infinite_122 (lv_at hl 0 rfl) ?_
          refine zv_if_le (tgt := 131) hx hb d_M_infinite_124 rfl (by omega) (fun h122 => ?_) (fun h122 => ?_)
          · refine zv_iconst hx hb d_M_infinite_131 ?_
            exact L132 3 _ H9 lc10 (lv_sub hl [0, 1, 2, 3, 4, 5, 6, 7] rfl) hH12 (by omega)
          · refine zv_iconst hx hb d_M_infinite_127 ?_
            refine lv_goto (tgt := 132) hx hb d_M_infinite_128 rfl ?_
            exact L132 2 _ H9 lc10 (lv_sub hl [0, 1, 2, 3, 4, 5, 6, 7] rfl) hH12 (by omega)
        · refine zv_iconst hx hb d_M_infinite_118 ?_
          refine lv_goto (tgt := 132) hx hb d_M_infinite_119 rfl ?_
          exact L132 1 _ H9 lc10 (lv_sub hl [0, 1, 2, 3, 4, 5, 6, 7] rfl) hH12 (by omega)
    · have L102 : ∀ (kc : Int) (ls : Array Slot) (H123 : Heap) (lc124 : List Loc), (lv_has ls 8 [(7, .int (iI (sa * sb))), (6, .int (iI kb)), (5, .int (iI (kf ra))), (0, .ref (ad E g)), (1, .int (iI op)), (2, .int (iI d)), (3, .int (iI ra)), (4, .int (iI rb))]) → (zH E w0 (va_A (wl E w0) s.heap.size) s.heap H123 lc124) → ((1 < kf ra ∧ 1 < kb ∧ kf ra ≠ kb ∧ kc = 1) ∨ (¬ (1 < kf ra ∧ 1 < kb ∧ kf ra ≠ kb) ∧ ((1 < kf ra ∧ kc = kf ra) ∨ (kf ra ≤ 1 ∧ kc = kb)))) → W p l e rm_M_infinite s m a below meth cd H123 lc124 0 0 Qf (F0 m 102 ls [.int (iI kc), .int (iI d), .ref (ad E g)]) := by
        intro kc ls H123 lc124 hl hH hkc
        refine z_calli (va_runV (As := [.int (iI d), .int (iI kc)]) (rest := []) ⟨hx, hb, hml, hown, hts⟩ (c_M_special (l := l) (E := E) (w0 := w0) (g := g) (ty := ty) (xm := xm) (ym := ym) (ne := ne) (f := kf) (d := d) (k := kc) (q0lt := q0lt) (q1lt := q3lt) (c0 := c0) (c1 := c3) (hd0 := by omega) H123.size) (z_cwV (C := "ScaledNumeralDeskModel") 2 hg wm_754 wm_751 wm_9 wm_753 wm_s31 (by decide +kernel) ⟨Nat.le_of_ble_eq_true rfl, Nat.le_of_ble_eq_true rfl⟩) (z_preV (r := ("ScaledNumeralDeskModel", TM, 17)) hK hG hn hH hA q0lt c0 rfl) rfl rfl hl.1 rfl (lv_room (Nat.le_of_ble_eq_true rfl)) d_M_infinite_102 ⟨Nat.zero_le _, Nat.zero_le _⟩) hH hA (fun z129 w127 H125 lc126 hH128 p102 => ?_)
        obtain ⟨⟨e130, p102⟩, hg131⟩ := p102
        replace p102 : z129 = 0 := p102
        have e132 : w127 g = .inr (6, [.ref (ad E (g + 1)), .ref (ad E (g + 2)), .ref (ad E (g + 3)), .ref (ad E (g + 4)), .int (iI ty), .ref (ad E (g + 5)), .ref (ad E (g + 6)), .ref (ad E (g + 7)), .ref (ad E (g + 8)), .ref (ad E (g + 9)), .ref (ad E (g + 10)), .int (iI xm), .int (iI ym), .ref (ad E (g + 11)), .int (iI ne), .ref (ad E (g + 12)), .ref (ad E (g + 13))]) := (hg131 g (nx_M_infinite_0 )).trans c0
        have e133 : w127 (g + 9) = zar E 56 xf := (hg131 (g + 9) (nx_M_infinite_1 )).trans c1
        have e134 : w127 (g + 11) = zar E 140 f := (hg131 (g + 11) (nx_M_infinite_2 )).trans c2
        have e135 : w127 (g + 2) = zaz E 8 mf := (hg131 (g + 2) (nx_M_infinite_3 )).trans c4
        have e136 : w127 (g + 3) = zar E 8 sf := (hg131 (g + 3) (nx_M_infinite_4 )).trans c5
        have e137 : w127 (g + 4) = zar E 448 G := (hg131 (g + 4) (nx_M_infinite_5 )).trans c6
        have hf138 : ∀ k, k ≠ (g + 1) → w127 k = w0 k := fun k g0 => hg131 k g0
        have bk9 := bd_up bk d kc (by omega)
        rw [hQ]
        exact z_iret hx hb hr hlk hH128 (⟨⟨xm, ne, xf, f, (up kf d kc), mf, sf, G, e132, e133, e134, e130, e135, e136, e137, (by assumption), (by assumption), (by assumption), bm, bs, bG, ⟨hxm, hne, sa, sb, p47, p53, Or.inl ⟨by omega, by rw [← hkb]; rcases hkc with h8 | ⟨h7, h8 | h8⟩; exact Or.inl ⟨h8.1, h8.2.1, h8.2.2.1, p102, by rw [h8.2.2.2], rfl, rfl, rfl⟩; exact Or.inr ⟨h7, Or.inl ⟨h8.1, p102, by rw [h8.2], rfl, rfl, rfl⟩⟩; exact Or.inr ⟨h7, Or.inr ⟨h8.1, p102, by rw [h8.2], rfl, rfl, rfl⟩⟩⟩⟩⟩, (fun k g0 g1 g2 g3 g4 g5 g6 => hf138 k g3)⟩) d_M_infinite_105
      refine lv_aload_n hx hb d_M_infinite_64 rfl (lv_at hl 3 rfl) ?_
      refine lv_iload_n hx hb d_M_infinite_65 rfl (lv_at hl 5 rfl) ?_
      refine lv_iload hx hb d_M_infinite_66 (lv_at hl 2 rfl) ?_
      refine zv_iconst hx hb d_M_infinite_68 ?_
      refine zv_icmp_le (tgt := 89) hx hb d_M_infinite_69 rfl (by omega) (by omega) (fun h139 => ?_) (fun h139 => ?_)
      · refine lv_iload hx hb d_M_infinite_89 (lv_at hl 2 rfl) ?_
        refine zv_iconst hx hb d_M_infinite_91 ?_
        refine zv_icmp_le (tgt := 100) hx hb d_M_infinite_92 rfl (by omega) (by omega) (fun h140 => ?_) (fun h140 => ?_)
        · refine lv_iload hx hb d_M_infinite_100 (lv_at hl 1 rfl) ?_
          exact L102 kb _ H9 lc10 (lv_sub hl [0, 1, 2, 3, 4, 5, 6, 7] rfl) hH12 (by omega)
        · refine lv_iload hx hb d_M_infinite_95 (lv_at hl 2 rfl) ?_
          refine lv_goto (tgt := 102) hx hb d_M_infinite_97 rfl ?_
          exact L102 (kf ra) _ H9 lc10 (lv_sub hl [0, 1, 2, 3, 4, 5, 6, 7] rfl) hH12 (by omega)
      · refine lv_iload hx hb d_M_infinite_72 (lv_at hl 1 rfl) ?_
        refine zv_iconst hx hb d_M_infinite_74 ?_
        refine zv_icmp_le (tgt := 89) hx hb d_M_infinite_75 rfl (by omega) (by omega) (fun h141 => ?_) (fun h141 => ?_)
        · refine lv_iload hx hb d_M_infinite_89 (lv_at hl 2 rfl) ?_
          refine zv_iconst hx hb d_M_infinite_91 ?_
          refine zv_icmp_le (tgt := 100) hx hb d_M_infinite_92 rfl (by omega) (by omega) (fun h142 => ?_) (fun h142 => ?_)
          · refine lv_iload hx hb d_M_infinite_100 (lv_at hl 1 rfl) ?_
            exact L102 kb _ H9 lc10 (lv_sub hl [0, 1, 2, 3, 4, 5, 6, 7] rfl) hH12 (by omega)
          · refine lv_iload hx hb d_M_infinite_95 (lv_at hl 2 rfl) ?_
            refine lv_goto (tgt := 102) hx hb d_M_infinite_97 rfl ?_
            exact L102 (kf ra) _ H9 lc10 (lv_sub hl [0, 1, 2, 3, 4, 5, 6, 7] rfl) hH12 (by omega)
        · refine lv_iload hx hb d_M_infinite_78 (lv_at hl 2 rfl) ?_
          refine lv_iload hx hb d_M_infinite_80 (lv_at hl 1 rfl) ?_
          refine zv_icmp_eq (tgt := 89) hx hb d_M_infinite_82 rfl (by omega) (by omega) (fun h143 => ?_) (fun h143 => ?_)
          · refine lv_iload hx hb d_M_infinite_89 (lv_at hl 2 rfl) ?_
            refine zv_iconst hx hb d_M_infinite_91 ?_
            refine zv_icmp_le (tgt := 100) hx hb d_M_infinite_92 rfl (by omega) (by omega) (fun h144 => ?_) (fun h144 => ?_)
            · refine lv_iload hx hb d_M_infinite_100 (lv_at hl 1 rfl) ?_
              exact L102 kb _ H9 lc10 (lv_sub hl [0, 1, 2, 3, 4, 5, 6, 7] rfl) hH12 (by omega)
            · refine lv_iload hx hb d_M_infinite_95 (lv_at hl 2 rfl) ?_
              refine lv_goto (tgt := 102) hx hb d_M_infinite_97 rfl ?_
              exact L102 (kf ra) _ H9 lc10 (lv_sub hl [0, 1, 2, 3, 4, 5, 6, 7] rfl) hH12 (by omega)
          · refine zv_iconst hx hb d_M_infinite_85 ?_
            refine lv_goto (tgt := 102) hx hb d_M_infinite_86 rfl ?_
            exact L102 1 _ H9 lc10 (lv_sub hl [0, 1, 2, 3, 4, 5, 6, 7] rfl) hH12 (by omega)
  refine lv_iload_n hx hb d_M_infinite_8 rfl (lv_at hl 2 rfl) ?_
  refine zv_iconst hx hb d_M_infinite_9 ?_
  refine zv_icmp_ne (tgt := 36) hx hb d_M_infinite_10 rfl (by omega) (by omega) (fun h145 => ?_) (fun h145 => ?_)
  · refine lv_aload_n hx hb d_M_infinite_36 rfl (lv_at hl 1 rfl) ?_
    refine zv_get (C := "ScaledNumeralDeskModel") (T := TM) (N := 17) hx hb hg uM_in hown hK hH q0lt c0 rfl 0 (by decide) (hg _ wm_682) (fun _ h9 => h9) rfl d_M_infinite_37 ?_
    refine lv_iload hx hb d_M_infinite_40 (lv_at hl 5 rfl) ?_
    refine zv_iald hx hb hK hH q3lt c3 (by omega) (by omega) (by omega) d_M_infinite_42 ?_
    have b146 := bk rb (by omega) (by omega)
    exact L43 (kf rb) _ s.heap ([]) (lv_sub hl [0, 1, 2, 3, 4, 5] rfl) hH (by first | exact (neg5_y (by omega)).symm | exact (neg5_n (by omega)).symm) (by omega)
  · refine lv_aload_n hx hb d_M_infinite_13 rfl (lv_at hl 1 rfl) ?_
    refine zv_get (C := "ScaledNumeralDeskModel") (T := TM) (N := 17) hx hb hg uM_in hown hK hH q0lt c0 rfl 0 (by decide) (hg _ wm_682) (fun _ h9 => h9) rfl d_M_infinite_14 ?_
    refine lv_iload hx hb d_M_infinite_17 (lv_at hl 5 rfl) ?_
    refine zv_iald hx hb hK hH q3lt c3 (by omega) (by omega) (by omega) d_M_infinite_19 ?_
    have b147 := bk rb (by omega) (by omega)
    refine zv_iconst hx hb d_M_infinite_20 ?_
    refine zv_icmp_le (tgt := 36) hx hb d_M_infinite_21 rfl (by omega) (by omega) (fun h148 => ?_) (fun h148 => ?_)
    · refine lv_aload_n hx hb d_M_infinite_36 rfl (lv_at hl 1 rfl) ?_
      refine zv_get (C := "ScaledNumeralDeskModel") (T := TM) (N := 17) hx hb hg uM_in hown hK hH q0lt c0 rfl 0 (by decide) (hg _ wm_682) (fun _ h9 => h9) rfl d_M_infinite_37 ?_
      refine lv_iload hx hb d_M_infinite_40 (lv_at hl 5 rfl) ?_
      refine zv_iald hx hb hK hH q3lt c3 (by omega) (by omega) (by omega) d_M_infinite_42 ?_
      have b149 := bk rb (by omega) (by omega)
      exact L43 (kf rb) _ s.heap ([]) (lv_sub hl [0, 1, 2, 3, 4, 5] rfl) hH (by first | exact (neg5_y (by omega)).symm | exact (neg5_n (by omega)).symm) (by omega)
    · refine zv_iconst hx hb d_M_infinite_24 ?_
      refine lv_aload_n hx hb d_M_infinite_25 rfl (lv_at hl 1 rfl) ?_
      refine zv_get (C := "ScaledNumeralDeskModel") (T := TM) (N := 17) hx hb hg uM_in hown hK hH q0lt c0 rfl 0 (by decide) (hg _ wm_682) (fun _ h9 => h9) rfl d_M_infinite_26 ?_
      refine lv_iload hx hb d_M_infinite_29 (lv_at hl 5 rfl) ?_
      refine zv_iald hx hb hK hH q3lt c3 (by omega) (by omega) (by omega) d_M_infinite_31 ?_
      have b150 := bk rb (by omega) (by omega)
      refine zv_isub hx hb d_M_infinite_32 ?_
      refine lv_goto (tgt := 43) hx hb d_M_infinite_33 rfl ?_
      exact L43 (5 - (kf rb)) _ s.heap ([]) (lv_sub hl [0, 1, 2, 3, 4, 5] rfl) hH (by first | exact (neg5_y (by omega)).symm | exact (neg5_n (by omega)).symm) (by omega)
