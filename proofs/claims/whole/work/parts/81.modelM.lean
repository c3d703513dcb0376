theorem nx_M_number_0 {g : Nat}  : g + 5 ≠ g := by omega
theorem nx_M_number_1 {g : Nat}  : g + 5 ≠ g + 11 := by omega
theorem nx_M_number_2 {g : Nat}  : g + 1 ≠ g := by omega
theorem nx_M_number_3 {g : Nat}  : g + 1 ≠ g + 11 := by omega
theorem nx_M_number_4 {g : Nat}  : g + 2 ≠ g := by omega
theorem nx_M_number_5 {g : Nat}  : g + 2 ≠ g + 11 := by omega
theorem nx_M_number_6 {g : Nat}  : g + 3 ≠ g := by omega
theorem nx_M_number_7 {g : Nat}  : g + 3 ≠ g + 11 := by omega
theorem nx_M_number_8 {g : Nat}  : g + 4 ≠ g := by omega
theorem nx_M_number_9 {g : Nat}  : g + 4 ≠ g + 11 := by omega
theorem nx_M_number_10 {g : Nat}  : g + 11 ≠ g := by omega
theorem nx_M_number_11 {g : Nat}  : g ≠ g + 11 := by omega
theorem nx_M_number_12 {g : Nat}  : g + 5 ≠ g + 1 := by omega
theorem nx_M_number_13 {g : Nat}  : g + 5 ≠ g + 2 := by omega
theorem nx_M_number_14 {g : Nat}  : g + 5 ≠ g + 3 := by omega
theorem nx_M_number_15 {g : Nat}  : g + 5 ≠ g + 4 := by omega
def rm_M_number : Room := { frames := 4, cells := 0, slots := 0, locals := 90 }
set_option maxHeartbeats 4000000 in
set_option maxRecDepth 100000 in
theorem c_M_number (l : Launch) (E : zE) (w0 : zW) (g : Nat) (ty xm ym ne : Int) (ch f kf mf sf G : Int → Int) (d st mn : Int) (q0lt : g < zn E) (q1lt : g + 5 < zn E) (q2lt : g + 11 < zn E) (q3lt : g + 1 < zn E) (q4lt : g + 2 < zn E) (q5lt : g + 3 < zn E) (q6lt : g + 4 < zn E) (c0 : w0 g = .inr (6, [.ref (ad E (g + 1)), .ref (ad E (g + 2)), .ref (ad E (g + 3)), .ref (ad E (g + 4)), .int (iI ty), .ref (ad E (g + 5)), .ref (ad E (g + 6)), .ref (ad E (g + 7)), .ref (ad E (g + 8)), .ref (ad E (g + 9)), .ref (ad E (g + 10)), .int (iI xm), .int (iI ym), .ref (ad E (g + 11)), .int (iI ne), .ref (ad E (g + 12)), .ref (ad E (g + 13))])) (c1 : w0 (g + 5) = zar E 80 ch) (c2 : w0 (g + 11) = zar E 140 f) (c3 : w0 (g + 1) = zar E 8 kf) (c4 : w0 (g + 2) = zaz E 8 mf) (c5 : w0 (g + 3) = zar E 8 sf) (c6 : w0 (g + 4) = zar E 448 G) (bch : bd ch 80 0 126) (hty : 0 ≤ ty ∧ ty ≤ 80) (bf : bd f 140 0 9) (bk : bd kf 8 0 3) (bm : bd mf 8 0 1) (bs : bd sf 8 0 24) (bG : bd G 448 0 9) (hne : ne = 0 ∨ ne = 1) (hd : 0 ≤ d ∧ d < 8) (hst0 : 0 ≤ st ∧ st ≤ ty) (hmn : mn = 0 ∨ mn = 1) : zM l y_M_number ws_M_number rm_M_number E [.ref (ad E g), .int (iI d), .int (iI st), .int (iI mn)] w0 (zQi E w0 (fun z w' => (∃ (n' : Int) (f' : Int → Int) (k' : Int → Int) (m' : Int → Int) (s' : Int → Int) (G' : Int → Int), w' g = .inr (6, [.ref (ad E (g + 1)), .ref (ad E (g + 2)), .ref (ad E (g + 3)), .ref (ad E (g + 4)), .int (iI ty), .ref (ad E (g + 5)), .ref (ad E (g + 6)), .ref (ad E (g + 7)), .ref (ad E (g + 8)), .ref (ad E (g + 9)), .ref (ad E (g + 10)), .int (iI xm), .int (iI ym), .ref (ad E (g + 11)), .int (iI n'), .ref (ad E (g + 12)), .ref (ad E (g + 13))]) ∧ w' (g + 11) = zar E 140 f' ∧ w' (g + 1) = zar E 8 k' ∧ w' (g + 2) = zaz E 8 m' ∧ w' (g + 3) = zar E 8 s' ∧ w' (g + 4) = zar E 448 G' ∧ bd f' 140 0 9 ∧ bd k' 8 0 3 ∧ bd m' 8 0 1 ∧ bd s' 8 0 24 ∧ bd G' 448 0 9 ∧ ((n' = 0 ∨ n' = 1) ∧ NbR ch ty st mn z d kf sf mf G k' s' m' G')) ∧ ∀ k, k ≠ g → k ≠ (g + 11) → k ≠ (g + 1) → k ≠ (g + 2) → k ≠ (g + 3) → k ≠ (g + 4) → w' k = w0 k)) := by
  refine z_met (cc := b_M_number) (maxL := 12) (ret := (some .int)) (by decide +kernel) rfl (Nat.le_of_ble_eq_true rfl) ?_
  intro p e s m below meth cd ls a Qf hQ hC hl hH
  obtain ⟨hF, hr, hlk, hK, hG, hn⟩ := hC
  obtain ⟨hx, hb, hml, hown, hts⟩ := hF
  have hg : ∀ w ∈ GW, w.before a s = true := fun w h => hts w (List.mem_cons_of_mem _ h)
  have hA : ∀ q, s.heap.size ≤ q → va_A (wl E w0) s.heap.size q := fun q h => Or.inr h
  have hl : lv_has ls 12 [(0, .ref (ad E g)), (1, .int (iI d)), (2, .int (iI st)), (3, .int (iI mn))] := hl
  refine lv_iload_n hx hb d_M_number_0 rfl (lv_at hl 2 rfl) ?_
  refine lv_istore (lv' := [(4, .int (iI st)), (0, .ref (ad E g)), (1, .int (iI d)), (2, .int (iI st)), (3, .int (iI mn))]) hx hb d_M_number_1 hl (by decide) rfl (fun ls hl => ?_)
  refine zv_iconst hx hb d_M_number_3 ?_
  refine lv_istore (lv' := [(5, .int (iI 0)), (4, .int (iI st)), (0, .ref (ad E g)), (1, .int (iI d)), (2, .int (iI st)), (3, .int (iI mn))]) hx hb d_M_number_4 hl (by decide) rfl (fun ls hl => ?_)
  refine zv_iconst hx hb d_M_number_6 ?_
  refine lv_istore (lv' := [(6, .int (iI 0)), (5, .int (iI 0)), (4, .int (iI st)), (0, .ref (ad E g)), (1, .int (iI d)), (2, .int (iI st)), (3, .int (iI mn))]) hx hb d_M_number_7 hl (by decide) rfl (fun ls hl => ?_)
  refine zv_iconst hx hb d_M_number_9 ?_
  refine lv_istore (lv' := [(7, .int (iI 0)), (6, .int (iI 0)), (5, .int (iI 0)), (4, .int (iI st)), (0, .ref (ad E g)), (1, .int (iI d)), (2, .int (iI st)), (3, .int (iI mn))]) hx hb d_M_number_10 hl (by decide) rfl (fun ls hl => ?_)
  have L12 : ∀ (fu : Nat) (i : Int) (bf9 : Int) (bh9 : Int) (ps : Int) (ls : Array Slot) (H1 : Heap) (lc2 : List Loc), (lv_has ls 12 [(0, .ref (ad E g)), (1, .int (iI d)), (2, .int (iI st)), (3, .int (iI mn)), (4, .int (iI i)), (5, .int (iI bf9)), (6, .int (iI bh9)), (7, .int (iI ps))]) → (zH E w0 (va_A (wl E w0) s.heap.size) s.heap H1 lc2) → (st ≤ i ∧ i ≤ ty) → (ps = 0 ∨ ps = 1) → (EDc ch st i ps bf9 bh9) → (ty - i < (fu : Int)) → W p l e rm_M_number s m a below meth cd H1 lc2 0 0 Qf (F0 m 12 ls []) := by
    intro fu
    induction fu with
    | zero => intro i bf9 bh9 ps ls H1 lc2 hl hH hi hps hE hm; exact absurd hm (by omega)
    | succ fu ih =>
      intro i bf9 bh9 ps ls H1 lc2 hl hH hi hps hE hm
      have edi := EDc_in hE hi.1
      refine lv_aload_n hx hb d_M_number_12 rfl (lv_at hl 0 rfl) ?_
      refine lv_iload hx hb d_M_number_13 (lv_at hl 4 rfl) ?_
      refine z_calli (va_runV (As := [.int (iI i)]) (rest := []) ⟨hx, hb, hml, hown, hts⟩ (c_M_isDigit (l := l) (E := E) (w0 := w0) (g := g) (ty := ty) (xm := xm) (ym := ym) (ne := ne) (ch := ch) (i := i) (q0lt := q0lt) (q1lt := q1lt) (c0 := c0) (c1 := c1) (bch := bch) (hty := by omega) (hi0 := by omega) H1.size) (z_cwV (C := "ScaledNumeralDeskModel") 1 hg wm_774 wm_771 wm_9 wm_773 wm_s36 (by decide +kernel) ⟨Nat.le_of_ble_eq_true rfl, Nat.le_of_ble_eq_true rfl⟩) (z_preV (r := ("ScaledNumeralDeskModel", TM, 17)) hK hG hn hH hA q0lt c0 rfl) rfl rfl hl.1 rfl (lv_room (Nat.le_of_ble_eq_true rfl)) d_M_number_15 ⟨Nat.zero_le _, Nat.zero_le _⟩) hH hA (fun z7 w5 H3 lc4 hH6 p15 => ?_)
      obtain ⟨ew8, p15⟩ := p15
      rw [ew8] at hH6
      replace p15 : (z7 = 1 ∧ i < ty ∧ 48 ≤ ch i ∧ ch i ≤ 57) ∨ (z7 = 0 ∧ ¬ (i < ty ∧ 48 ≤ ch i ∧ ch i ≤ 57)) := p15
      have L47 : ∀  (ls : Array Slot) (H9 : Heap) (lc10 : List Loc), (lv_has ls 12 [(0, .ref (ad E g)), (1, .int (iI d)), (2, .int (iI st)), (3, .int (iI mn)), (4, .int (iI i)), (5, .int (iI bf9)), (6, .int (iI bh9)), (7, .int (iI ps))]) → (zH E w0 (va_A (wl E w0) s.heap.size) s.heap H9 lc10) → (i < ty ∧ ((48 ≤ ch i ∧ ch i ≤ 57) ∨ (ch i = 46 ∧ ps = 0))) → W p l e rm_M_number s m a below meth cd H9 lc10 0 0 Qf (F0 m 47 ls []) := by
        intro ls H9 lc10 hl hH h47
        refine lv_aload_n hx hb d_M_number_47 rfl (lv_at hl 0 rfl) ?_
        refine lv_iload hx hb d_M_number_48 (lv_at hl 4 rfl) ?_
        refine z_calli (va_runV (As := [.int (iI i)]) (rest := []) ⟨hx, hb, hml, hown, hts⟩ (c_M_isDigit (l := l) (E := E) (w0 := w0) (g := g) (ty := ty) (xm := xm) (ym := ym) (ne := ne) (ch := ch) (i := i) (q0lt := q0lt) (q1lt := q1lt) (c0 := c0) (c1 := c1) (bch := bch) (hty := by omega) (hi0 := by omega) H9.size) (z_cwV (C := "ScaledNumeralDeskModel") 1 hg wm_774 wm_771 wm_9 wm_773 wm_s36 (by decide +kernel) ⟨Nat.le_of_ble_eq_true rfl, Nat.le_of_ble_eq_true rfl⟩) (z_preV (r := ("ScaledNumeralDeskModel", TM, 17)) hK hG hn hH hA q0lt c0 rfl) rfl rfl hl.1 rfl (lv_room (Nat.le_of_ble_eq_true rfl)) d_M_number_50 ⟨Nat.zero_le _, Nat.zero_le _⟩) hH hA (fun z15 w13 H11 lc12 hH14 p50 => ?_)
        obtain ⟨ew16, p50⟩ := p50
        rw [ew16] at hH14
        replace p50 : (z15 = 1 ∧ i < ty ∧ 48 ≤ ch i ∧ ch i ≤ 57) ∨ (z15 = 0 ∧ ¬ (i < ty ∧ 48 ≤ ch i ∧ ch i ≤ 57)) := p50
        refine zv_if_ne (tgt := 62) hx hb d_M_number_53 rfl (by omega) (fun h17 => ?_) (fun h17 => ?_)
        · refine lv_iload hx hb d_M_number_62 (lv_at hl 7 rfl) ?_
          refine zv_if_eq (tgt := 73) hx hb d_M_number_64 rfl (by omega) (fun h18 => ?_) (fun h18 => ?_)
          · refine zv_iinc (k := 5) (lv' := [(5, .int (iI (bf9 + 1))), (0, .ref (ad E g)), (1, .int (iI d)), (2, .int (iI st)), (3, .int (iI mn)), (4, .int (iI i)), (6, .int (iI bh9)), (7, .int (iI ps))]) hx hb d_M_number_73 hl rfl (by decide) rfl (fun ls hl => ?_)
            refine zv_iinc (k := 5) (lv' := [(4, .int (iI (i + 1))), (5, .int (iI (bf9 + 1))), (0, .ref (ad E g)), (1, .int (iI d)), (2, .int (iI st)), (3, .int (iI mn)), (6, .int (iI bh9)), (7, .int (iI ps))]) hx hb d_M_number_76 hl rfl (by decide) rfl (fun ls hl => ?_)
            refine lv_goto (tgt := 12) hx hb d_M_number_79 rfl ?_
            exact ih  (i + 1) (bf9 + 1) bh9 ps _ H11 lc12 (lv_sub hl [2, 3, 4, 5, 0, 1, 6, 7] rfl) hH14 (by omega) (by omega) (by first | exact EDc_p (by rw [show ps = 0 by omega] at hE; exact hE) hi.1 (by omega) | (rw [show ps = 1 by omega] at hE ⊢; exact EDc_h hE (by omega)) | (rw [show ps = 0 by omega] at hE ⊢; exact EDc_b hE (by omega))) (by omega)
          · refine zv_iinc (k := 6) (lv' := [(6, .int (iI (bh9 + 1))), (0, .ref (ad E g)), (1, .int (iI d)), (2, .int (iI st)), (3, .int (iI mn)), (4, .int (iI i)), (5, .int (iI bf9)), (7, .int (iI ps))]) hx hb d_M_number_67 hl rfl (by decide) rfl (fun ls hl => ?_)
            refine lv_goto (tgt := 76) hx hb d_M_number_70 rfl ?_
            refine zv_iinc (k := 5) (lv' := [(4, .int (iI (i + 1))), (6, .int (iI (bh9 + 1))), (0, .ref (ad E g)), (1, .int (iI d)), (2, .int (iI st)), (3, .int (iI mn)), (5, .int (iI bf9)), (7, .int (iI ps))]) hx hb d_M_number_76 hl rfl (by decide) rfl (fun ls hl => ?_)
            refine lv_goto (tgt := 12) hx hb d_M_number_79 rfl ?_
            exact ih  (i + 1) bf9 (bh9 + 1) ps _ H11 lc12 (lv_sub hl [2, 3, 4, 5, 0, 6, 1, 7] rfl) hH14 (by omega) (by omega) (by first | exact EDc_p (by rw [show ps = 0 by omega] at hE; exact hE) hi.1 (by omega) | (rw [show ps = 1 by omega] at hE ⊢; exact EDc_h hE (by omega)) | (rw [show ps = 0 by omega] at hE ⊢; exact EDc_b hE (by omega))) (by omega)
        · refine zv_iconst hx hb d_M_number_56 ?_
          refine lv_istore (lv' := [(7, .int (iI 1)), (0, .ref (ad E g)), (1, .int (iI d)), (2, .int (iI st)), (3, .int (iI mn)), (4, .int (iI i)), (5, .int (iI bf9)), (6, .int (iI bh9))]) hx hb d_M_number_57 hl (by decide) rfl (fun ls hl => ?_)
          refine lv_goto (tgt := 76) hx hb d_M_number_59 rfl ?_
          refine zv_iinc (k := 5) (lv' := [(4, .int (iI (i + 1))), (7, .int (iI 1)), (0, .ref (ad E g)), (1, .int (iI d)), (2, .int (iI st)), (3, .int (iI mn)), (5, .int (iI bf9)), (6, .int (iI bh9))]) hx hb d_M_number_76 hl rfl (by decide) rfl (fun ls hl => ?_)
          refine lv_goto (tgt := 12) hx hb d_M_number_79 rfl ?_
          exact ih  (i + 1) bf9 bh9 1 _ H11 lc12 (lv_sub hl [2, 3, 4, 5, 0, 6, 7, 1] rfl) hH14 (by omega) (by omega) (by first | exact EDc_p (by rw [show ps = 0 by omega] at hE; exact hE) hi.1 (by omega) | (rw [show ps = 1 by omega] at hE ⊢; exact EDc_h hE (by omega)) | (rw [show ps = 0 by omega] at hE ⊢; exact EDc_b hE (by omega))) (by omega)
      have L82 : ∀  (ls : Array Slot) (H19 : Heap) (lc20 : List Loc), (lv_has ls 12 [(0, .ref (ad E g)), (1, .int (iI d)), (2, .int (iI st)), (3, .int (iI mn)), (4, .int (iI i)), (5, .int (iI bf9)), (6, .int (iI bh9)), (7, .int (iI ps))]) → (zH E w0 (va_A (wl E w0) s.heap.size) s.heap H19 lc20) → (i = ty ∨ (¬ (48 ≤ ch i ∧ ch i ≤ 57) ∧ ¬ (ch i = 46 ∧ ps = 0))) → W p l e rm_M_number s m a below meth cd H19 lc20 0 0 Qf (F0 m 82 ls []) := by
        intro ls H19 lc20 hl hH h82
        obtain ⟨pt, nr, eb, ebh, ecn⟩ := EDc_e hE hi.1 hi.2 h82
        refine lv_iload hx hb d_M_number_82 (lv_at hl 4 rfl) ?_
        refine lv_istore (lv' := [(8, .int (iI i)), (0, .ref (ad E g)), (1, .int (iI d)), (2, .int (iI st)), (3, .int (iI mn)), (4, .int (iI i)), (5, .int (iI bf9)), (6, .int (iI bh9)), (7, .int (iI ps))]) hx hb d_M_number_84 hl (by decide) rfl (fun ls hl => ?_)
        refine zv_iconst hx hb d_M_number_86 ?_
        refine lv_istore (lv' := [(9, .int (iI 0)), (8, .int (iI i)), (0, .ref (ad E g)), (1, .int (iI d)), (2, .int (iI st)), (3, .int (iI mn)), (4, .int (iI i)), (5, .int (iI bf9)), (6, .int (iI bh9)), (7, .int (iI ps))]) hx hb d_M_number_87 hl (by decide) rfl (fun ls hl => ?_)
        refine lv_aload_n hx hb d_M_number_89 rfl (lv_at hl 2 rfl) ?_
        refine lv_iload hx hb d_M_number_90 (lv_at hl 6 rfl) ?_
        refine zv_bipush hx hb d_M_number_92 rfl ?_
        refine z_calli (va_runV (As := [.int (iI i), .int (iI 101)]) (rest := []) ⟨hx, hb, hml, hown, hts⟩ (c_M_isLetter (l := l) (E := E) (w0 := w0) (g := g) (ty := ty) (xm := xm) (ym := ym) (ne := ne) (ch := ch) (i := i) (sm := 101) (q0lt := q0lt) (q1lt := q1lt) (c0 := c0) (c1 := c1) (bch := bch) (hty := by omega) (hi0 := by omega) (hsm := by omega) H19.size) (z_cwV (C := "ScaledNumeralDeskModel") 2 hg wm_750 wm_747 wm_9 wm_749 wm_s30 (by decide +kernel) ⟨Nat.le_of_ble_eq_true rfl, Nat.le_of_ble_eq_true rfl⟩) (z_preV (r := ("ScaledNumeralDeskModel", TM, 17)) hK hG hn hH hA q0lt c0 rfl) rfl rfl hl.1 rfl (lv_room (Nat.le_of_ble_eq_true rfl)) d_M_number_94 ⟨Nat.zero_le _, Nat.zero_le _⟩) hH hA (fun z25 w23 H21 lc22 hH24 p94 => ?_)
        obtain ⟨ew26, p94⟩ := p94
        rw [ew26] at hH24
        replace p94 : (z25 = 1 ∧ i < ty ∧ lw (ch i) = (101 : Int)) ∨ (z25 = 0 ∧ ¬ (i < ty ∧ lw (ch i) = (101 : Int))) := p94
        have L227 : ∀ (i3 : Int) (pw3 : Int) (ls : Array Slot) (H27 : Heap) (lc28 : List Loc), (lv_has ls 12 [(0, .ref (ad E g)), (1, .int (iI d)), (2, .int (iI st)), (3, .int (iI mn)), (4, .int (iI i3)), (5, .int (iI bf9)), (6, .int (iI bh9)), (7, .int (iI ps)), (8, .int (iI i)), (9, .int (iI pw3))]) → (zH E w0 (va_A (wl E w0) s.heap.size) s.heap H27 lc28) → (EpR ch ty i i3 pw3) → (-999 ≤ pw3 ∧ pw3 ≤ 999) → (-1 ≤ i3 ∧ i3 ≤ 200) → W p l e rm_M_number s m a below meth cd H27 lc28 0 0 Qf (F0 m 227 ls []) := by
          intro i3 pw3 ls H27 lc28 hl hH hEp hpw hi3
          obtain ⟨xx, exr, hxx⟩ := hEp
          refine lv_iload hx hb d_M_number_227 (lv_at hl 5 rfl) ?_
          refine lv_iload hx hb d_M_number_229 (lv_at hl 6 rfl) ?_
          refine zv_iadd hx hb d_M_number_231 ?_
          refine zv_if_eq (tgt := 244) hx hb d_M_number_232 rfl (by omega) (fun h29 => ?_) (fun h29 => ?_)
          · refine zv_bipush hx hb d_M_number_244 rfl ?_
            rw [hQ]
            exact z_iret hx hb hr hlk hH (⟨⟨ne, f, kf, mf, sf, G, c0, c2, c3, c4, c5, c6, bf, bk, bm, bs, bG, ⟨hne, i, pt, xx, nr, exr, Or.inl ⟨rfl, by omega, rfl, rfl, rfl, rfl⟩⟩⟩, (fun k _ _ _ _ _ _ => rfl)⟩) d_M_number_246
          · refine lv_iload hx hb d_M_number_235 (lv_at hl 4 rfl) ?_
            refine lv_aload_n hx hb d_M_number_237 rfl (lv_at hl 0 rfl) ?_
            refine zv_get (C := "ScaledNumeralDeskModel") (T := TM) (N := 17) hx hb hg uM_in hown hK hH q0lt c0 rfl 4 (by decide) (hg _ wm_686) (fun _ h9 => h9) rfl d_M_number_238 ?_
            refine zv_icmp_eq (tgt := 247) hx hb d_M_number_241 rfl (by omega) (by omega) (fun h30 => ?_) (fun h30 => ?_)
            · refine lv_aload_n hx hb d_M_number_247 rfl (lv_at hl 0 rfl) ?_
              refine z_callv (va_runV (As := []) (rest := []) ⟨hx, hb, hml, hown, hts⟩ (c_M_clear (l := l) (E := E) (w0 := w0) (g := g) (ty := ty) (xm := xm) (ym := ym) (ne := ne) (f := f) (q0lt := q0lt) (q1lt := q2lt) (c0 := c0) (c1 := c2) H27.size) (z_cwV (C := "ScaledNumeralDeskModel") 0 hg wm_778 wm_775 wm_9 wm_777 wm_s37 (by decide +kernel) ⟨Nat.le_of_ble_eq_true rfl, Nat.le_of_ble_eq_true rfl⟩) (z_preV (r := ("ScaledNumeralDeskModel", TM, 17)) hK hG hn hH hA q0lt c0 rfl) rfl rfl hl.1 rfl (lv_room (Nat.le_of_ble_eq_true rfl)) d_M_number_248 ⟨Nat.zero_le _, Nat.zero_le _⟩) hH hA (fun  w33 H31 lc32 hH34 p248 => ?_)
              obtain ⟨⟨f1, e35, e36, p248⟩, hg37⟩ := p248
              replace p248 : ∀ j : Int, 0 ≤ j → j < 140 → f1 j = 0 := p248
              have e38 : w33 (g + 5) = zar E 80 ch := (hg37 (g + 5) (nx_M_number_0 ) (nx_M_number_1 )).trans c1
              have e39 : w33 (g + 1) = zar E 8 kf := (hg37 (g + 1) (nx_M_number_2 ) (nx_M_number_3 )).trans c3
              have e40 : w33 (g + 2) = zaz E 8 mf := (hg37 (g + 2) (nx_M_number_4 ) (nx_M_number_5 )).trans c4
              have e41 : w33 (g + 3) = zar E 8 sf := (hg37 (g + 3) (nx_M_number_6 ) (nx_M_number_7 )).trans c5
              have e42 : w33 (g + 4) = zar E 448 G := (hg37 (g + 4) (nx_M_number_8 ) (nx_M_number_9 )).trans c6
              have hf43 : ∀ k, k ≠ g → k ≠ (g + 11) → w33 k = w0 k := fun k g0 g1 => hg37 k g0 g1
              refine lv_aload_n hx hb d_M_number_251 rfl (lv_at hl 0 rfl) ?_
              refine lv_iload_n hx hb d_M_number_252 rfl (lv_at hl 3 rfl) ?_
              refine zv_put (C := "ScaledNumeralDeskModel") (T := TM) (N := 17) (fs' := [.ref (ad E (g + 1)), .ref (ad E (g + 2)), .ref (ad E (g + 3)), .ref (ad E (g + 4)), .int (iI ty), .ref (ad E (g + 5)), .ref (ad E (g + 6)), .ref (ad E (g + 7)), .ref (ad E (g + 8)), .ref (ad E (g + 9)), .ref (ad E (g + 10)), .int (iI xm), .int (iI ym), .ref (ad E (g + 11)), .int (iI mn), .ref (ad E (g + 12)), .ref (ad E (g + 13))]) hx hb hg uM_in tyM tyM_ok nmM hown hK hH34 q0lt e35 rfl 14 (by decide) (hg _ wm_696) (fun _ h9 => h9) rfl (ty := tyM 14) (by decide +kernel) (by exact nar_z hmn) (by exact fit_z hmn) (Nat.le_of_ble_eq_true rfl) d_M_number_253 rfl (fun H45 lc46 w44 hH47 e48 hg49 => ?_)
              have e50 : w44 (g + 5) = zar E 80 ch := (hg49 (g + 5) (nx_M_number_0 )).trans e38
              have e51 : w44 (g + 11) = zar E 140 f1 := (hg49 (g + 11) (nx_M_number_10 )).trans e36
              have e52 : w44 (g + 1) = zar E 8 kf := (hg49 (g + 1) (nx_M_number_2 )).trans e39
              have e53 : w44 (g + 2) = zaz E 8 mf := (hg49 (g + 2) (nx_M_number_4 )).trans e40
              have e54 : w44 (g + 3) = zar E 8 sf := (hg49 (g + 3) (nx_M_number_6 )).trans e41
              have e55 : w44 (g + 4) = zar E 448 G := (hg49 (g + 4) (nx_M_number_8 )).trans e42
              have hf56 : ∀ k, k ≠ g → k ≠ (g + 11) → w44 k = w0 k := fun k g0 g1 => (hg49 k g0).trans (hf43 k g0 g1)
              refine lv_aload_n hx hb d_M_number_256 rfl (lv_at hl 0 rfl) ?_
              refine lv_iload_n hx hb d_M_number_257 rfl (lv_at hl 2 rfl) ?_
              refine lv_iload hx hb d_M_number_258 (lv_at hl 8 rfl) ?_
              refine lv_iload hx hb d_M_number_260 (lv_at hl 5 rfl) ?_
              refine lv_iload hx hb d_M_number_262 (lv_at hl 9 rfl) ?_
              refine zv_iadd hx hb d_M_number_264 ?_
              refine z_calli (va_runV (As := [.int (iI st), .int (iI i), .int (iI (bf9 + pw3))]) (rest := []) ⟨hx, hb, hml, hown, hts⟩ (c_M_writeDown (l := l) (E := E) (w0 := w44) (g := g) (ty := ty) (xm := xm) (ym := ym) (ne := mn) (ch := ch) (f := f1) (st := st) (en := i) (wh := bf9 + pw3) (pt := pt) (q0lt := q0lt) (q1lt := q1lt) (q2lt := q2lt) (c0 := e48) (c1 := e50) (c2 := e51) (bch := bch) (hty := by omega) (hN := nr) (h0 := by omega) (hwh := (by omega)) (hf0 := p248) H45.size) (z_cwV (C := "ScaledNumeralDeskModel") 3 hg wm_782 wm_779 wm_9 wm_781 wm_s38 (by decide +kernel) ⟨Nat.le_of_ble_eq_true rfl, Nat.le_of_ble_eq_true rfl⟩) (z_preV (r := ("ScaledNumeralDeskModel", TM, 17)) hK hG hn hH47 hA q0lt e48 rfl) rfl rfl hl.1 rfl (lv_room (Nat.le_of_ble_eq_true rfl)) d_M_number_265 ⟨Nat.zero_le _, Nat.zero_le _⟩) hH47 hA (fun z265 w59 H57 lc58 hH60 p265 => ?_)
              obtain ⟨⟨f2, e61, bd62, p265⟩, hg63⟩ := p265
              replace bd62 : bd f2 140 0 9 := bd62
              replace p265 : (z265 = 1 ∧ BigR (Dg ch pt st i) (24 + (bf9 + pw3) - Cn pt st i)) ∨ (z265 = 0 ∧ Vt f2 140 = PdX (Dg ch pt st i) (48 + (bf9 + pw3) - Cn pt st i) ∧ Vt f2 140 < Tp 80) := p265
              have e64 : w59 g = .inr (6, [.ref (ad E (g + 1)), .ref (ad E (g + 2)), .ref (ad E (g + 3)), .ref (ad E (g + 4)), .int (iI ty), .ref (ad E (g + 5)), .ref (ad E (g + 6)), .ref (ad E (g + 7)), .ref (ad E (g + 8)), .ref (ad E (g + 9)), .ref (ad E (g + 10)), .int (iI xm), .int (iI ym), .ref (ad E (g + 11)), .int (iI mn), .ref (ad E (g + 12)), .ref (ad E (g + 13))]) := (hg63 g (nx_M_number_11 )).trans e48
              have e65 : w59 (g + 5) = zar E 80 ch := (hg63 (g + 5) (nx_M_number_1 )).trans e50
              have e66 : w59 (g + 1) = zar E 8 kf := (hg63 (g + 1) (nx_M_number_3 )).trans e52
              have e67 : w59 (g + 2) = zaz E 8 mf := (hg63 (g + 2) (nx_M_number_5 )).trans e53
              have e68 : w59 (g + 3) = zar E 8 sf := (hg63 (g + 3) (nx_M_number_7 )).trans e54
              have e69 : w59 (g + 4) = zar E 448 G := (hg63 (g + 4) (nx_M_number_9 )).trans e55
              have hf70 : ∀ k, k ≠ g → k ≠ (g + 11) → w59 k = w0 k := fun k g0 g1 => (hg63 k g1).trans (hf56 k g0 g1)
              have bf2 : bd f2 140 0 9 := by assumption
              have vf2 := Vt_in bf2 (show (0 : Int) ≤ 140 by decide) (Int.le_refl 140)
              have t80 := T80_139
              rw [show 24 + (bf9 + pw3) - Cn pt st i = 24 - (mx0 (i - pt - 1) - xx) by omega, show 48 + (bf9 + pw3) - Cn pt st i = 48 - (mx0 (i - pt - 1) - xx) by omega] at p265
              refine lv_istore (lv' := [(10, .int (iI z265)), (0, .ref (ad E g)), (1, .int (iI d)), (2, .int (iI st)), (3, .int (iI mn)), (4, .int (iI i3)), (5, .int (iI bf9)), (6, .int (iI bh9)), (7, .int (iI ps)), (8, .int (iI i)), (9, .int (iI pw3))]) hx hb d_M_number_268 hl (by decide) rfl (fun ls hl => ?_)
              refine lv_iload hx hb d_M_number_270 (lv_at hl 7 rfl) ?_
              refine lv_iload hx hb d_M_number_272 (lv_at hl 10 rfl) ?_
              refine zv_isub hx hb d_M_number_274 ?_
              refine lv_istore (lv' := [(11, .int (iI (bh9 - pw3))), (10, .int (iI z265)), (0, .ref (ad E g)), (1, .int (iI d)), (2, .int (iI st)), (3, .int (iI mn)), (4, .int (iI i3)), (5, .int (iI bf9)), (6, .int (iI bh9)), (7, .int (iI ps)), (8, .int (iI i)), (9, .int (iI pw3))]) hx hb d_M_number_275 hl (by decide) rfl (fun ls hl => ?_)
              refine lv_iload hx hb d_M_number_277 (lv_at hl 1 rfl) ?_
              refine zv_if_eq (tgt := 287) hx hb d_M_number_279 rfl (by omega) (fun h71 => ?_) (fun h71 => ?_)
              · have sml : Vt f2 140 = PdX (Dg ch pt st i) (48 - (mx0 (i - pt - 1) - xx)) ∧ Vt f2 140 < Tp 80 := by rcases p265 with h8 | h8; exact absurd h8.1 (by omega); exact h8.2
                have L312 : ∀ (nn : Int) (ls : Array Slot) (H72 : Heap) (lc73 : List Loc), (lv_has ls 12 [(11, .int (iI (bh9 - pw3))), (10, .int (iI z265)), (0, .ref (ad E g)), (1, .int (iI d)), (2, .int (iI st)), (3, .int (iI mn)), (4, .int (iI i3)), (5, .int (iI bf9)), (6, .int (iI bh9)), (7, .int (iI ps)), (8, .int (iI i)), (9, .int (iI pw3))]) → (zH E w59 (va_A (wl E w0) s.heap.size) s.heap H72 lc73) → (nn = cl24 (bh9 - pw3)) → (0 ≤ nn ∧ nn ≤ 24) → W p l e rm_M_number s m a below meth cd H72 lc73 0 0 Qf (F0 m 312 ls [.int (iI nn), .int (iI d), .ref (ad E g)]) := by
                  intro nn ls H72 lc73 hl hH hnn hnn0
                  refine z_calli (va_runV (As := [.int (iI d), .int (iI nn)]) (rest := []) ⟨hx, hb, hml, hown, hts⟩ (c_M_finish (l := l) (E := E) (w0 := w59) (g := g) (ty := ty) (xm := xm) (ym := ym) (ne := mn) (f := f2) (kf := kf) (mf := mf) (sf := sf) (G := G) (d := d) (n := nn) (q0lt := q0lt) (q1lt := q2lt) (q2lt := q3lt) (q3lt := q4lt) (q4lt := q5lt) (q5lt := q6lt) (c0 := e64) (c1 := e61) (c2 := e66) (c3 := e67) (c4 := e68) (c5 := e69) (bf := (fun j g1 g2 => by have := bf2 j g1 g2; omega)) (bk := bk) (bm := bm) (bs := bs) (bG := bG) (hne := hmn) (hV := (by omega)) (hd := by omega) (hn := by omega) H72.size) (z_cwV (C := "ScaledNumeralDeskModel") 2 hg wm_786 wm_783 wm_9 wm_785 wm_s39 (by decide +kernel) ⟨Nat.le_of_ble_eq_true rfl, Nat.le_of_ble_eq_true rfl⟩) (z_preV (r := ("ScaledNumeralDeskModel", TM, 17)) hK hG hn hH hA q0lt e64 rfl) rfl rfl hl.1 rfl (lv_room (Nat.le_of_ble_eq_true rfl)) d_M_number_312 ⟨Nat.zero_le _, Nat.zero_le _⟩) hH hA (fun z312 w76 H74 lc75 hH77 p312 => ?_)
                  obtain ⟨⟨n_78, f_79, k_80, m_81, s_82, x_83, e84, e85, e86, e87, e88, e89, bd90, bd91, bd92, bd93, bd94, p312⟩, hg95⟩ := p312
                  replace bd90 : bd f_79 140 0 9 := bd90
                  replace bd91 : bd k_80 8 0 3 := bd91
                  replace bd92 : bd m_81 8 0 1 := bd92
                  replace bd93 : bd s_82 8 0 24 := bd93
                  replace bd94 : bd x_83 448 0 9 := bd94
                  replace p312 : (n_78 = 0 ∨ n_78 = 1) ∧ ∃ X : Int, AbR (Vt f2 140) mn X n_78 ∧ KpR z312 d (mx0 nn) n_78 (Rn X (48 - nn)) kf sf mf G k_80 s_82 m_81 x_83 := p312
                  have e96 : w76 (g + 5) = zar E 80 ch := (hg95 (g + 5) (nx_M_number_0 ) (nx_M_number_1 ) (nx_M_number_12 ) (nx_M_number_13 ) (nx_M_number_14 ) (nx_M_number_15 )).trans e65
                  have hf97 : ∀ k, k ≠ g → k ≠ (g + 11) → k ≠ (g + 1) → k ≠ (g + 2) → k ≠ (g + 3) → k ≠ (g + 4) → w76 k = w0 k := fun k g0 g1 g2 g3 g4 g5 => (hg95 k g0 g1 g2 g3 g4 g5).trans (hf70 k g0 g1)
                  obtain ⟨p312a, X, p312b, p312c⟩ := p312
                  have ab := AbR_p p312b vf2.1
                  rw [ab.1, ab.2, sml.1, mx0_p hnn0.1, hnn, show bh9 - pw3 = mx0 (i - pt - 1) - xx by omega] at p312c
                  rw [hQ]
                  exact z_iret hx hb hr hlk hH77 (⟨⟨n_78, f_79, k_80, m_81, s_82, x_83, e84, e85, e86, e87, e88, e89, bd90, bd91, bd92, bd93, bd94, ⟨p312a, i, pt, xx, nr, exr, Or.inr ⟨by omega, by omega, Or.inr p312c⟩⟩⟩, (fun k g0 g1 g2 g3 g4 g5 => hf97 k g0 g1 g2 g3 g4 g5)⟩) d_M_number_315
                refine lv_aload_n hx hb d_M_number_287 rfl (lv_at hl 2 rfl) ?_
                refine lv_iload_n hx hb d_M_number_288 rfl (lv_at hl 3 rfl) ?_
                refine lv_iload hx hb d_M_number_289 (lv_at hl 0 rfl) ?_
                refine zv_if_ge (tgt := 298) hx hb d_M_number_291 rfl (by omega) (fun h98 => ?_) (fun h98 => ?_)
                · refine lv_iload hx hb d_M_number_298 (lv_at hl 0 rfl) ?_
                  refine zv_bipush hx hb d_M_number_300 rfl ?_
                  refine zv_icmp_le (tgt := 310) hx hb d_M_number_302 rfl (by omega) (by omega) (fun h99 => ?_) (fun h99 => ?_)
                  · refine lv_iload hx hb d_M_number_310 (lv_at hl 0 rfl) ?_
                    exact L312 (bh9 - pw3) _ H57 lc58 (lv_sub hl [0, 1, 2, 3, 4, 5, 6, 7, 8, 9, 10, 11] rfl) hH60 (by exact cl24_of (by omega)) (by omega)
                  · refine zv_bipush hx hb d_M_number_305 rfl ?_
                    refine lv_goto (tgt := 312) hx hb d_M_number_307 rfl ?_
                    exact L312 24 _ H57 lc58 (lv_sub hl [0, 1, 2, 3, 4, 5, 6, 7, 8, 9, 10, 11] rfl) hH60 (by exact cl24_of (by omega)) (by omega)
                · refine zv_iconst hx hb d_M_number_294 ?_
                  refine lv_goto (tgt := 312) hx hb d_M_number_295 rfl ?_
                  exact L312 0 _ H57 lc58 (lv_sub hl [0, 1, 2, 3, 4, 5, 6, 7, 8, 9, 10, 11] rfl) hH60 (by exact cl24_of (by omega)) (by omega)
              · have big : BigR (Dg ch pt st i) (24 - (mx0 (i - pt - 1) - xx)) := by rcases p265 with h8 | h8; exact h8.2; exact absurd h8.1 (by omega)
                refine zv_bipush hx hb d_M_number_282 rfl ?_
                refine lv_goto (tgt := 315) hx hb d_M_number_284 rfl ?_
                rw [hQ]
                exact z_iret hx hb hr hlk hH60 (⟨⟨mn, f2, kf, mf, sf, G, e64, e61, e66, e67, e68, e69, bd62, bk, bm, bs, bG, ⟨hmn, i, pt, xx, nr, exr, Or.inr ⟨by omega, by omega, Or.inl ⟨rfl, big, rfl, rfl, rfl, rfl⟩⟩⟩⟩, (fun k g0 g1 g2 g3 g4 g5 => hf70 k g0 g1)⟩) d_M_number_315
            · refine zv_bipush hx hb d_M_number_244 rfl ?_
              rw [hQ]
              exact z_iret hx hb hr hlk hH (⟨⟨ne, f, kf, mf, sf, G, c0, c2, c3, c4, c5, c6, bf, bk, bm, bs, bG, ⟨hne, i, pt, xx, nr, exr, Or.inl ⟨rfl, by omega, rfl, rfl, rfl, rfl⟩⟩⟩, (fun k _ _ _ _ _ _ => rfl)⟩) d_M_number_246
        refine zv_if_eq (tgt := 227) hx hb d_M_number_97 rfl (by omega) (fun h100 => ?_) (fun h100 => ?_)
        · have eno : i = ty ∨ ¬ isE (ch i) := by
            by_cases c : i = ty
            · exact Or.inl c
            · refine Or.inr (fun h7 => ?_)
              have b := bch i (by omega) (by omega)
              rcases p94 with h8 | h8
              · omega
              · exact h8.2 ⟨by omega, (isE_lw b).mpr h7⟩
          exact L227 i 0 _ H21 lc22 (lv_sub hl [2, 3, 4, 5, 6, 7, 8, 9, 1, 0] rfl) hH24 (by exact EpR_no hi.2 eno) (by omega) (by omega)
        · have eye : i < ty ∧ isE (ch i) := by
            rcases p94 with h8 | h8
            · exact ⟨h8.2.1, (isE_lw (bch i (by omega) (by omega))).mp h8.2.2⟩
            · omega
          refine zv_iinc (k := 6) (lv' := [(4, .int (iI (i + 1))), (9, .int (iI 0)), (8, .int (iI i)), (0, .ref (ad E g)), (1, .int (iI d)), (2, .int (iI st)), (3, .int (iI mn)), (5, .int (iI bf9)), (6, .int (iI bh9)), (7, .int (iI ps))]) hx hb d_M_number_100 hl rfl (by decide) rfl (fun ls hl => ?_)
          refine lv_aload_n hx hb d_M_number_103 rfl (lv_at hl 3 rfl) ?_
          refine lv_iload hx hb d_M_number_104 (lv_at hl 0 rfl) ?_
          refine z_calli (va_runV (As := [.int (iI (i + 1))]) (rest := []) ⟨hx, hb, hml, hown, hts⟩ (c_M_isSign (l := l) (E := E) (w0 := w0) (g := g) (ty := ty) (xm := xm) (ym := ym) (ne := ne) (ch := ch) (i := i + 1) (q0lt := q0lt) (q1lt := q1lt) (c0 := c0) (c1 := c1) (bch := bch) (hty := by omega) (hi0 := by omega) H21.size) (z_cwV (C := "ScaledNumeralDeskModel") 1 hg wm_758 wm_755 wm_9 wm_757 wm_s32 (by decide +kernel) ⟨Nat.le_of_ble_eq_true rfl, Nat.le_of_ble_eq_true rfl⟩) (z_preV (r := ("ScaledNumeralDeskModel", TM, 17)) hK hG hn hH24 hA q0lt c0 rfl) rfl rfl hl.1 rfl (lv_room (Nat.le_of_ble_eq_true rfl)) d_M_number_106 ⟨Nat.zero_le _, Nat.zero_le _⟩) hH24 hA (fun z105 w103 H101 lc102 hH104 p106 => ?_)
          obtain ⟨ew106, p106⟩ := p106
          rw [ew106] at hH104
          replace p106 : (z105 = 1 ∧ (i + 1) < ty ∧ (ch (i + 1) = 43 ∨ ch (i + 1) = 45)) ∨ (z105 = 0 ∧ ¬ ((i + 1) < ty ∧ (ch (i + 1) = 43 ∨ ch (i + 1) = 45))) := p106
          have L129 : ∀ (dn : Int) (ls : Array Slot) (H107 : Heap) (lc108 : List Loc), (lv_has ls 12 [(4, .int (iI (i + 1))), (9, .int (iI 0)), (8, .int (iI i)), (0, .ref (ad E g)), (1, .int (iI d)), (2, .int (iI st)), (3, .int (iI mn)), (5, .int (iI bf9)), (6, .int (iI bh9)), (7, .int (iI ps))]) → (zH E w0 (va_A (wl E w0) s.heap.size) s.heap H107 lc108) → ((dn = 1 ∧ i + 1 < ty ∧ ch (i + 1) = 45) ∨ (dn = 0 ∧ ¬ (i + 1 < ty ∧ ch (i + 1) = 45))) → W p l e rm_M_number s m a below meth cd H107 lc108 0 0 Qf (F0 m 129 ls [.int (iI dn)]) := by
            intro dn ls H107 lc108 hl hH hdn
            refine lv_istore (lv' := [(10, .int (iI dn)), (4, .int (iI (i + 1))), (9, .int (iI 0)), (8, .int (iI i)), (0, .ref (ad E g)), (1, .int (iI d)), (2, .int (iI st)), (3, .int (iI mn)), (5, .int (iI bf9)), (6, .int (iI bh9)), (7, .int (iI ps))]) hx hb d_M_number_129 hl (by decide) rfl (fun ls hl => ?_)
            refine lv_aload_n hx hb d_M_number_131 rfl (lv_at hl 4 rfl) ?_
            refine lv_iload hx hb d_M_number_132 (lv_at hl 1 rfl) ?_
            refine z_calli (va_runV (As := [.int (iI (i + 1))]) (rest := []) ⟨hx, hb, hml, hown, hts⟩ (c_M_isSign (l := l) (E := E) (w0 := w0) (g := g) (ty := ty) (xm := xm) (ym := ym) (ne := ne) (ch := ch) (i := i + 1) (q0lt := q0lt) (q1lt := q1lt) (c0 := c0) (c1 := c1) (bch := bch) (hty := by omega) (hi0 := by omega) H107.size) (z_cwV (C := "ScaledNumeralDeskModel") 1 hg wm_758 wm_755 wm_9 wm_757 wm_s32 (by decide +kernel) ⟨Nat.le_of_ble_eq_true rfl, Nat.le_of_ble_eq_true rfl⟩) (z_preV (r := ("ScaledNumeralDeskModel", TM, 17)) hK hG hn hH hA q0lt c0 rfl) rfl rfl hl.1 rfl (lv_room (Nat.le_of_ble_eq_true rfl)) d_M_number_134 ⟨Nat.zero_le _, Nat.zero_le _⟩) hH hA (fun z113 w111 H109 lc110 hH112 p134 => ?_)
            obtain ⟨ew114, p134⟩ := p134
            rw [ew114] at hH112
            replace p134 : (z113 = 1 ∧ (i + 1) < ty ∧ (ch (i + 1) = 43 ∨ ch (i + 1) = 45)) ∨ (z113 = 0 ∧ ¬ ((i + 1) < ty ∧ (ch (i + 1) = 43 ∨ ch (i + 1) = 45))) := p134
            have L149 : ∀ (fe : Int) (ls : Array Slot) (H115 : Heap) (lc116 : List Loc), (lv_has ls 12 [(10, .int (iI dn)), (4, .int (iI (i + 1))), (9, .int (iI 0)), (8, .int (iI i)), (0, .ref (ad E g)), (1, .int (iI d)), (2, .int (iI st)), (3, .int (iI mn)), (5, .int (iI bf9)), (6, .int (iI bh9)), (7, .int (iI ps))]) → (zH E w0 (va_A (wl E w0) s.heap.size) s.heap H115 lc116) → ((fe = i + 2 ∧ i + 1 < ty ∧ (ch (i + 1) = 43 ∨ ch (i + 1) = 45)) ∨ (fe = i + 1 ∧ ¬ (i + 1 < ty ∧ (ch (i + 1) = 43 ∨ ch (i + 1) = 45)))) → W p l e rm_M_number s m a below meth cd H115 lc116 0 0 Qf (F0 m 149 ls [.int (iI fe)]) := by
              intro fe ls H115 lc116 hl hH hf9
              refine lv_istore (lv' := [(4, .int (iI fe)), (10, .int (iI dn)), (9, .int (iI 0)), (8, .int (iI i)), (0, .ref (ad E g)), (1, .int (iI d)), (2, .int (iI st)), (3, .int (iI mn)), (5, .int (iI bf9)), (6, .int (iI bh9)), (7, .int (iI ps))]) hx hb d_M_number_149 hl (by decide) rfl (fun ls hl => ?_)
              refine lv_iload hx hb d_M_number_151 (lv_at hl 0 rfl) ?_
              refine lv_istore (lv' := [(11, .int (iI fe)), (4, .int (iI fe)), (10, .int (iI dn)), (9, .int (iI 0)), (8, .int (iI i)), (0, .ref (ad E g)), (1, .int (iI d)), (2, .int (iI st)), (3, .int (iI mn)), (5, .int (iI bf9)), (6, .int (iI bh9)), (7, .int (iI ps))]) hx hb d_M_number_153 hl (by decide) rfl (fun ls hl => ?_)
              have L155 : ∀ (fu : Nat) (i2 : Int) (pw : Int) (ls : Array Slot) (H117 : Heap) (lc118 : List Loc), (lv_has ls 12 [(11, .int (iI fe)), (4, .int (iI i2)), (10, .int (iI dn)), (9, .int (iI pw)), (8, .int (iI i)), (0, .ref (ad E g)), (1, .int (iI d)), (2, .int (iI st)), (3, .int (iI mn)), (5, .int (iI bf9)), (6, .int (iI bh9)), (7, .int (iI ps))]) → (zH E w0 (va_A (wl E w0) s.heap.size) s.heap H117 lc118) → (fe ≤ i2 ∧ i2 ≤ fe + 3 ∧ (i2 ≤ ty ∨ i2 = fe)) → (∀ j : Int, fe ≤ j → j < i2 → dgc (ch j)) → (pw = Hz ch fe i2) → (0 ≤ pw ∧ ((i2 = fe ∧ pw = 0) ∨ (i2 = fe + 1 ∧ pw ≤ 9) ∨ (i2 = fe + 2 ∧ pw ≤ 99) ∨ (i2 = fe + 3 ∧ pw ≤ 999))) → (fe + 3 - i2 < (fu : Int)) → W p l e rm_M_number s m a below meth cd H117 lc118 0 0 Qf (F0 m 155 ls []) := by
                intro fu
                induction fu with
                | zero => intro i2 pw ls H117 lc118 hl hH hi2 hz hp9 hp8 hm; exact absurd hm (by omega)
                | succ fu ih155 =>
                  intro i2 pw ls H117 lc118 hl hH hi2 hz hp9 hp8 hm
                  refine lv_aload_n hx hb d_M_number_155 rfl (lv_at hl 5 rfl) ?_
                  refine lv_iload hx hb d_M_number_156 (lv_at hl 1 rfl) ?_
                  refine z_calli (va_runV (As := [.int (iI i2)]) (rest := []) ⟨hx, hb, hml, hown, hts⟩ (c_M_isDigit (l := l) (E := E) (w0 := w0) (g := g) (ty := ty) (xm := xm) (ym := ym) (ne := ne) (ch := ch) (i := i2) (q0lt := q0lt) (q1lt := q1lt) (c0 := c0) (c1 := c1) (bch := bch) (hty := by omega) (hi0 := by omega) H117.size) (z_cwV (C := "ScaledNumeralDeskModel") 1 hg wm_774 wm_771 wm_9 wm_773 wm_s36 (by decide +kernel) ⟨Nat.le_of_ble_eq_true rfl, Nat.le_of_ble_eq_true rfl⟩) (z_preV (r := ("ScaledNumeralDeskModel", TM, 17)) hK hG hn hH hA q0lt c0 rfl) rfl rfl hl.1 rfl (lv_room (Nat.le_of_ble_eq_true rfl)) d_M_number_158 ⟨Nat.zero_le _, Nat.zero_le _⟩) hH hA (fun z123 w121 H119 lc120 hH122 p158 => ?_)
                  obtain ⟨ew124, p158⟩ := p158
                  rw [ew124] at hH122
                  replace p158 : (z123 = 1 ∧ i2 < ty ∧ 48 ≤ ch i2 ∧ ch i2 ≤ 57) ∨ (z123 = 0 ∧ ¬ (i2 < ty ∧ 48 ≤ ch i2 ∧ ch i2 ≤ 57)) := p158
                  have L197 : ∀  (ls : Array Slot) (H125 : Heap) (lc126 : List Loc), (lv_has ls 12 [(11, .int (iI fe)), (4, .int (iI i2)), (10, .int (iI dn)), (9, .int (iI pw)), (8, .int (iI i)), (0, .ref (ad E g)), (1, .int (iI d)), (2, .int (iI st)), (3, .int (iI mn)), (5, .int (iI bf9)), (6, .int (iI bh9)), (7, .int (iI ps))]) → (zH E w0 (va_A (wl E w0) s.heap.size) s.heap H125 lc126) → (i2 = fe + 3 ∨ ¬ (i2 < ty ∧ dgc (ch i2))) → W p l e rm_M_number s m a below meth cd H125 lc126 0 0 Qf (F0 m 197 ls []) := by
                    intro ls H125 lc126 hl hH hend
                    have L210 : ∀ (p2 : Int) (ls : Array Slot) (H127 : Heap) (lc128 : List Loc), (lv_has ls 12 [(11, .int (iI fe)), (4, .int (iI i2)), (10, .int (iI dn)), (9, .int (iI pw)), (8, .int (iI i)), (0, .ref (ad E g)), (1, .int (iI d)), (2, .int (iI st)), (3, .int (iI mn)), (5, .int (iI bf9)), (6, .int (iI bh9)), (7, .int (iI ps))]) → (zH E w0 (va_A (wl E w0) s.heap.size) s.heap H127 lc128) → ((dn = 1 ∧ p2 = -pw) ∨ (dn = 0 ∧ p2 = pw)) → W p l e rm_M_number s m a below meth cd H127 lc128 0 0 Qf (F0 m 210 ls [.int (iI p2)]) := by
                      intro p2 ls H127 lc128 hl hH hp2
                      refine lv_istore (lv' := [(9, .int (iI p2)), (11, .int (iI fe)), (4, .int (iI i2)), (10, .int (iI dn)), (8, .int (iI i)), (0, .ref (ad E g)), (1, .int (iI d)), (2, .int (iI st)), (3, .int (iI mn)), (5, .int (iI bf9)), (6, .int (iI bh9)), (7, .int (iI ps))]) hx hb d_M_number_210 hl (by decide) rfl (fun ls hl => ?_)
                      have L225 : ∀ (i4 : Int) (ls : Array Slot) (H129 : Heap) (lc130 : List Loc), (lv_has ls 12 [(9, .int (iI p2)), (11, .int (iI fe)), (4, .int (iI i2)), (10, .int (iI dn)), (8, .int (iI i)), (0, .ref (ad E g)), (1, .int (iI d)), (2, .int (iI st)), (3, .int (iI mn)), (5, .int (iI bf9)), (6, .int (iI bh9)), (7, .int (iI ps))]) → (zH E w0 (va_A (wl E w0) s.heap.size) s.heap H129 lc130) → ((i2 = fe ∧ i4 = -1) ∨ (i2 ≠ fe ∧ i4 = i2)) → W p l e rm_M_number s m a below meth cd H129 lc130 0 0 Qf (F0 m 225 ls [.int (iI i4)]) := by
                        intro i4 ls H129 lc130 hl hH hi4
                        refine lv_istore (lv' := [(4, .int (iI i4)), (9, .int (iI p2)), (11, .int (iI fe)), (10, .int (iI dn)), (8, .int (iI i)), (0, .ref (ad E g)), (1, .int (iI d)), (2, .int (iI st)), (3, .int (iI mn)), (5, .int (iI bf9)), (6, .int (iI bh9)), (7, .int (iI ps))]) hx hb d_M_number_225 hl (by decide) rfl (fun ls hl => ?_)
                        exact L227 i4 p2 _ H129 lc130 (lv_sub hl [5, 6, 7, 8, 0, 9, 10, 11, 4, 1] rfl) hH (by exact EpR_yes eye.1 eye.2 hf9 hdn hi2 hz hend hp9 (by omega) hp2 hi4 (by omega)) (by omega) (by omega)
                      refine lv_iload hx hb d_M_number_212 (lv_at hl 2 rfl) ?_
                      refine lv_iload hx hb d_M_number_214 (lv_at hl 1 rfl) ?_
                      refine zv_icmp_ne (tgt := 223) hx hb d_M_number_216 rfl (by omega) (by omega) (fun h131 => ?_) (fun h131 => ?_)
                      · refine lv_iload hx hb d_M_number_223 (lv_at hl 2 rfl) ?_
                        exact L225 i2 _ H127 lc128 (lv_sub hl [0, 1, 2, 3, 4, 5, 6, 7, 8, 9, 10, 11] rfl) hH (by omega)
                      · refine zv_iconst hx hb d_M_number_219 ?_
                        refine lv_goto (tgt := 225) hx hb d_M_number_220 rfl ?_
                        exact L225 (-1) _ H127 lc128 (lv_sub hl [0, 1, 2, 3, 4, 5, 6, 7, 8, 9, 10, 11] rfl) hH (by omega)
                    refine lv_iload hx hb d_M_number_197 (lv_at hl 2 rfl) ?_
                    refine zv_if_eq (tgt := 208) hx hb d_M_number_199 rfl (by omega) (fun h132 => ?_) (fun h132 => ?_)
                    · refine lv_iload hx hb d_M_number_208 (lv_at hl 3 rfl) ?_
                      exact L210 pw _ H125 lc126 (lv_sub hl [0, 1, 2, 3, 4, 5, 6, 7, 8, 9, 10, 11] rfl) hH (by omega)
                    · refine lv_iload hx hb d_M_number_202 (lv_at hl 3 rfl) ?_
                      refine zv_ineg hx hb d_M_number_204 ?_
                      refine lv_goto (tgt := 210) hx hb d_M_number_205 rfl ?_
                      exact L210 (-pw) _ H125 lc126 (lv_sub hl [0, 1, 2, 3, 4, 5, 6, 7, 8, 9, 10, 11] rfl) hH (by omega)
                  refine zv_if_eq (tgt := 197) hx hb d_M_number_161 rfl (by omega) (fun h133 => ?_) (fun h133 => ?_)
                  · exact L197 _ H119 lc120 (lv_sub hl [0, 1, 2, 3, 4, 5, 6, 7, 8, 9, 10, 11] rfl) hH122 (by omega)
                  · refine lv_iload hx hb d_M_number_164 (lv_at hl 1 rfl) ?_
                    refine lv_iload hx hb d_M_number_166 (lv_at hl 0 rfl) ?_
                    refine zv_iconst hx hb d_M_number_168 ?_
                    refine zv_iadd hx hb d_M_number_169 ?_
                    refine zv_icmp_ge (tgt := 197) hx hb d_M_number_170 rfl (by omega) (by omega) (fun h134 => ?_) (fun h134 => ?_)
                    · exact L197 _ H119 lc120 (lv_sub hl [0, 1, 2, 3, 4, 5, 6, 7, 8, 9, 10, 11] rfl) hH122 (by omega)
                    · refine zv_bipush hx hb d_M_number_173 rfl ?_
                      refine lv_iload hx hb d_M_number_175 (lv_at hl 3 rfl) ?_
                      refine zv_imul hx hb d_M_number_177 ?_
                      refine lv_aload_n hx hb d_M_number_178 rfl (lv_at hl 5 rfl) ?_
                      refine zv_get (C := "ScaledNumeralDeskModel") (T := TM) (N := 17) hx hb hg uM_in hown hK hH122 q0lt c0 rfl 5 (by decide) (hg _ wm_687) (fun _ h9 => h9) rfl d_M_number_179 ?_
                      refine lv_iload hx hb d_M_number_182 (lv_at hl 1 rfl) ?_
                      refine zv_iald hx hb hK hH122 q1lt c1 (by omega) (by omega) (by omega) d_M_number_184 ?_
                      have b135 := bch i2 (by omega) (by omega)
                      refine zv_iadd hx hb d_M_number_185 ?_
                      refine zv_bipush hx hb d_M_number_186 rfl ?_
                      refine zv_isub hx hb d_M_number_188 ?_
                      refine lv_istore (lv' := [(9, .int (iI (((10 * pw) + (ch i2)) - 48))), (11, .int (iI fe)), (4, .int (iI i2)), (10, .int (iI dn)), (8, .int (iI i)), (0, .ref (ad E g)), (1, .int (iI d)), (2, .int (iI st)), (3, .int (iI mn)), (5, .int (iI bf9)), (6, .int (iI bh9)), (7, .int (iI ps))]) hx hb d_M_number_189 hl (by decide) rfl (fun ls hl => ?_)
                      refine zv_iinc (k := 2) (lv' := [(4, .int (iI (i2 + 1))), (9, .int (iI (((10 * pw) + (ch i2)) - 48))), (11, .int (iI fe)), (10, .int (iI dn)), (8, .int (iI i)), (0, .ref (ad E g)), (1, .int (iI d)), (2, .int (iI st)), (3, .int (iI mn)), (5, .int (iI bf9)), (6, .int (iI bh9)), (7, .int (iI ps))]) hx hb d_M_number_191 hl rfl (by decide) rfl (fun ls hl => ?_)
                      refine lv_goto (tgt := 155) hx hb d_M_number_194 rfl ?_
                      exact ih155  (i2 + 1) (((10 * pw) + (ch i2)) - 48) _ H119 lc120 (lv_sub hl [2, 0, 3, 1, 4, 5, 6, 7, 8, 9, 10, 11] rfl) hH122 (by omega) (by intro j g1 g2; by_cases e8 : j = i2; rw [e8]; omega; exact hz j g1 (by omega)) (by rw [Hz_s ch hi2.1, hp9]; omega) (by omega) (by omega)
              exact L155 ((fe + 3 - fe : Int).toNat + 1) fe 0 _ H115 lc116 (lv_sub hl [0, 1, 2, 3, 4, 5, 6, 7, 8, 9, 10, 11] rfl) hH (by omega) (by intro j g1 g2; omega) (by exact (Hz_0 ch fe).symm) (by omega) (by omega)
            refine zv_if_eq (tgt := 147) hx hb d_M_number_137 rfl (by omega) (fun h136 => ?_) (fun h136 => ?_)
            · refine lv_iload hx hb d_M_number_147 (lv_at hl 1 rfl) ?_
              exact L149 (i + 1) _ H109 lc110 (lv_sub hl [0, 1, 2, 3, 4, 5, 6, 7, 8, 9, 10] rfl) hH112 (by omega)
            · refine lv_iload hx hb d_M_number_140 (lv_at hl 1 rfl) ?_
              refine zv_iconst hx hb d_M_number_142 ?_
              refine zv_iadd hx hb d_M_number_143 ?_
              refine lv_goto (tgt := 149) hx hb d_M_number_144 rfl ?_
              exact L149 ((i + 1) + 1) _ H109 lc110 (lv_sub hl [0, 1, 2, 3, 4, 5, 6, 7, 8, 9, 10] rfl) hH112 (by omega)
          refine zv_if_eq (tgt := 128) hx hb d_M_number_109 rfl (by omega) (fun h137 => ?_) (fun h137 => ?_)
          · refine zv_iconst hx hb d_M_number_128 ?_
            exact L129 0 _ H101 lc102 (lv_sub hl [0, 1, 2, 3, 4, 5, 6, 7, 8, 9] rfl) hH104 (by omega)
          · refine lv_aload_n hx hb d_M_number_112 rfl (lv_at hl 3 rfl) ?_
            refine zv_get (C := "ScaledNumeralDeskModel") (T := TM) (N := 17) hx hb hg uM_in hown hK hH104 q0lt c0 rfl 5 (by decide) (hg _ wm_687) (fun _ h9 => h9) rfl d_M_number_113 ?_
            refine lv_iload hx hb d_M_number_116 (lv_at hl 0 rfl) ?_
            refine zv_iald hx hb hK hH104 q1lt c1 (by omega) (by omega) (by omega) d_M_number_118 ?_
            have b138 := bch (i + 1) (by omega) (by omega)
            refine zv_bipush hx hb d_M_number_119 rfl ?_
            refine zv_icmp_ne (tgt := 128) hx hb d_M_number_121 rfl (by omega) (by omega) (fun h139 => ?_) (fun h139 => ?_)
            · refine zv_iconst hx hb d_M_number_128 ?_
              exact L129 0 _ H101 lc102 (lv_sub hl [0, 1, 2, 3, 4, 5, 6, 7, 8, 9] rfl) hH104 (by omega)
            · refine zv_iconst hx hb d_M_number_124 ?_
              refine lv_goto (tgt := 129) hx hb d_M_number_125 rfl ?_
              exact L129 1 _ H101 lc102 (lv_sub hl [0, 1, 2, 3, 4, 5, 6, 7, 8, 9] rfl) hH104 (by omega)
      refine zv_if_ne (tgt := 47) hx hb d_M_number_18 rfl (by omega) (fun h140 => ?_) (fun h140 => ?_)
      · exact L47 _ H3 lc4 (lv_sub hl [0, 1, 2, 3, 4, 5, 6, 7] rfl) hH6 (by omega)
      · refine lv_iload hx hb d_M_number_21 (lv_at hl 7 rfl) ?_
        refine zv_if_ne (tgt := 82) hx hb d_M_number_23 rfl (by omega) (fun h141 => ?_) (fun h141 => ?_)
        · exact L82 _ H3 lc4 (lv_sub hl [0, 1, 2, 3, 4, 5, 6, 7] rfl) hH6 (by omega)
        · refine lv_iload hx hb d_M_number_26 (lv_at hl 4 rfl) ?_
          refine lv_aload_n hx hb d_M_number_28 rfl (lv_at hl 0 rfl) ?_
          refine zv_get (C := "ScaledNumeralDeskModel") (T := TM) (N := 17) hx hb hg uM_in hown hK hH6 q0lt c0 rfl 4 (by decide) (hg _ wm_686) (fun _ h9 => h9) rfl d_M_number_29 ?_
          refine zv_icmp_ge (tgt := 82) hx hb d_M_number_32 rfl (by omega) (by omega) (fun h142 => ?_) (fun h142 => ?_)
          · exact L82 _ H3 lc4 (lv_sub hl [0, 1, 2, 3, 4, 5, 6, 7] rfl) hH6 (by omega)
          · refine lv_aload_n hx hb d_M_number_35 rfl (lv_at hl 0 rfl) ?_
            refine zv_get (C := "ScaledNumeralDeskModel") (T := TM) (N := 17) hx hb hg uM_in hown hK hH6 q0lt c0 rfl 5 (by decide) (hg _ wm_687) (fun _ h9 => h9) rfl d_M_number_36 ?_
            refine lv_iload hx hb d_M_number_39 (lv_at hl 4 rfl) ?_
            refine zv_iald hx hb hK hH6 q1lt c1 (by omega) (by omega) (by omega) d_M_number_41 ?_
            have b143 := bch i (by omega) (by omega)
            refine zv_bipush hx hb d_M_number_42 rfl ?_
            refine zv_icmp_ne (tgt := 82) hx hb d_M_number_44 rfl (by omega) (by omega) (fun h144 => ?_) (fun h144 => ?_)
            · exact L82 _ H3 lc4 (lv_sub hl [0, 1, 2, 3, 4, 5, 6, 7] rfl) hH6 (by omega)
            · exact L47 _ H3 lc4 (lv_sub hl [0, 1, 2, 3, 4, 5, 6, 7] rfl) hH6 (by omega)
  exact L12 ((ty - st : Int).toNat + 1) st 0 0 0 _ s.heap ([]) (lv_sub hl [4, 5, 6, 7, 3, 2, 1, 0] rfl) hH (by omega) (by omega) (by exact EDc_0 ch st) (by omega)
theorem nx_M_enter_0 {g : Nat}  : g + 5 ≠ g := by omega
theorem nx_M_enter_1 {g : Nat}  : g + 5 ≠ g + 11 := by omega
theorem nx_M_enter_2 {g : Nat}  : g + 5 ≠ g + 1 := by omega
theorem nx_M_enter_3 {g : Nat}  : g + 5 ≠ g + 2 := by omega
theorem nx_M_enter_4 {g : Nat}  : g + 5 ≠ g + 3 := by omega
theorem nx_M_enter_5 {g : Nat}  : g + 5 ≠ g + 4 := by omega
theorem nx_M_enter_6 {g : Nat}  : g + 11 ≠ g := by omega
theorem nx_M_enter_7 {g : Nat}  : g + 1 ≠ g := by omega
theorem nx_M_enter_8 {g : Nat}  : g + 2 ≠ g := by omega
theorem nx_M_enter_9 {g : Nat}  : g + 3 ≠ g := by omega
theorem nx_M_enter_10 {g : Nat}  : g + 4 ≠ g := by omega
theorem nx_M_enter_11 {g : Nat}  : g ≠ g + 1 := by omega
theorem nx_M_enter_12 {g : Nat}  : g + 11 ≠ g + 1 := by omega
theorem nx_M_enter_13 {g : Nat}  : g + 2 ≠ g + 1 := by omega
theorem nx_M_enter_14 {g : Nat}  : g + 3 ≠ g + 1 := by omega
theorem nx_M_enter_15 {g : Nat}  : g + 4 ≠ g + 1 := by omega
def rm_M_enter : Room := { frames := 5, cells := 0, slots := 0, locals := 121 }
set_option maxHeartbeats 4000000 in
set_option maxRecDepth 100000 in
theorem c_M_enter (l : Launch) (E : zE) (w0 : zW) (g : Nat) (ty xm ym ne : Int) (ch f kf mf sf G : Int → Int) (d : Int) (q0lt : g < zn E) (q1lt : g + 5 < zn E) (q2lt : g + 11 < zn E) (q3lt : g + 1 < zn E) (q4lt : g + 2 < zn E) (q5lt : g + 3 < zn E) (q6lt : g + 4 < zn E) (c0 : w0 g = .inr (6, [.ref (ad E (g + 1)), .ref (ad E (g + 2)), .ref (ad E (g + 3)), .ref (ad E (g + 4)), .int (iI ty), .ref (ad E (g + 5)), .ref (ad E (g + 6)), .ref (ad E (g + 7)), .ref (ad E (g + 8)), .ref (ad E (g + 9)), .ref (ad E (g + 10)), .int (iI xm), .int (iI ym), .ref (ad E (g + 11)), .int (iI ne), .ref (ad E (g + 12)), .ref (ad E (g + 13))])) (c1 : w0 (g + 5) = zar E 80 ch) (c2 : w0 (g + 11) = zar E 140 f) (c3 : w0 (g + 1) = zar E 8 kf) (c4 : w0 (g + 2) = zaz E 8 mf) (c5 : w0 (g + 3) = zar E 8 sf) (c6 : w0 (g + 4) = zar E 448 G) (bch : bd ch 80 0 126) (hty : 0 ≤ ty ∧ ty ≤ 80) (bf : bd f 140 0 9) (bk : bd kf 8 0 3) (bm : bd mf 8 0 1) (bs : bd sf 8 0 24) (bG : bd G 448 0 9) (hne : ne = 0 ∨ ne = 1) (hd : 0 ≤ d ∧ d < 8) : zM l y_M_enter ws_M_enter rm_M_enter E [.ref (ad E g), .int (iI d)] w0 (zQi E w0 (fun z w' => (∃ (n' : Int) (f' : Int → Int) (k' : Int → Int) (m' : Int → Int) (s' : Int → Int) (G' : Int → Int), w' g = .inr (6, [.ref (ad E (g + 1)), .ref (ad E (g + 2)), .ref (ad E (g + 3)), .ref (ad E (g + 4)), .int (iI 0), .ref (ad E (g + 5)), .ref (ad E (g + 6)), .ref (ad E (g + 7)), .ref (ad E (g + 8)), .ref (ad E (g + 9)), .ref (ad E (g + 10)), .int (iI xm), .int (iI ym), .ref (ad E (g + 11)), .int (iI n'), .ref (ad E (g + 12)), .ref (ad E (g + 13))]) ∧ w' (g + 11) = zar E 140 f' ∧ w' (g + 1) = zar E 8 k' ∧ w' (g + 2) = zaz E 8 m' ∧ w' (g + 3) = zar E 8 s' ∧ w' (g + 4) = zar E 448 G' ∧ bd f' 140 0 9 ∧ bd k' 8 0 3 ∧ bd m' 8 0 1 ∧ bd s' 8 0 24 ∧ bd G' 448 0 9 ∧ ((n' = 0 ∨ n' = 1) ∧ EnR ch ty z d kf sf mf G k' s' m' G')) ∧ ∀ k, k ≠ g → k ≠ (g + 11) → k ≠ (g + 1) → k ≠ (g + 2) → k ≠ (g + 3) → k ≠ (g + 4) → w' k = w0 k)) := by
  refine z_met (cc := b_M_enter) (maxL := 5) (ret := (some .int)) (by decide +kernel) rfl (Nat.le_of_ble_eq_true rfl) ?_
  intro p e s m below meth cd ls a Qf hQ hC hl hH
  obtain ⟨hF, hr, hlk, hK, hG, hn⟩ := hC
  obtain ⟨hx, hb, hml, hown, hts⟩ := hF
  have hg : ∀ w ∈ GW, w.before a s = true := fun w h => hts w (List.mem_cons_of_mem _ h)
  have hA : ∀ q, s.heap.size ≤ q → va_A (wl E w0) s.heap.size q := fun q h => Or.inr h
  have hl : lv_has ls 5 [(0, .ref (ad E g)), (1, .int (iI d))] := hl
  refine lv_aload_n hx hb d_M_enter_0 rfl (lv_at hl 0 rfl) ?_
  refine lv_iload_n hx hb d_M_enter_1 rfl (lv_at hl 1 rfl) ?_
  refine zv_bipush hx hb d_M_enter_2 rfl ?_
  refine z_calli (va_runV (As := [.int (iI d), .int (iI 7)]) (rest := []) ⟨hx, hb, hml, hown, hts⟩ (c_M_out (l := l) (E := E) (w0 := w0) (g := g) (ty := ty) (xm := xm) (ym := ym) (ne := ne) (v := d) (mo := 7) (q0lt := q0lt) (c0 := c0) (hv := by omega) (hmo := by omega) s.heap.size) (z_cwV (C := "ScaledNumeralDeskModel") 2 hg wm_746 wm_743 wm_9 wm_745 wm_s29 (by decide +kernel) ⟨Nat.le_of_ble_eq_true rfl, Nat.le_of_ble_eq_true rfl⟩) (z_preV (r := ("ScaledNumeralDeskModel", TM, 17)) hK hG hn hH hA q0lt c0 rfl) rfl rfl hl.1 rfl (lv_room (Nat.le_of_ble_eq_true rfl)) d_M_enter_4 ⟨Nat.zero_le _, Nat.zero_le _⟩) hH hA (fun z5 w3 H1 lc2 hH4 q4 => ?_)
  obtain ⟨ew6, q4⟩ := q4
  rw [ew6] at hH4
  replace q4 : (z5 = 1 ∧ (d < 0 ∨ (7 : Int) < d)) ∨ (z5 = 0 ∧ 0 ≤ d ∧ d ≤ (7 : Int)) := q4
  refine zv_if_eq (tgt := 12) hx hb d_M_enter_7 rfl (by omega) (fun h7 => ?_) (fun h7 => absurd h7 (by omega))
  refine lv_aload_n hx hb d_M_enter_12 rfl (lv_at hl 0 rfl) ?_
  refine zv_get (C := "ScaledNumeralDeskModel") (T := TM) (N := 17) hx hb hg uM_in hown hK hH4 q0lt c0 rfl 4 (by decide) (hg _ wm_686) (fun _ h9 => h9) rfl d_M_enter_13 ?_
  refine zv_iconst hx hb d_M_enter_16 ?_
  have L60 : ∀  (ls : Array Slot) (H8 : Heap) (lc9 : List Loc), (lv_has ls 5 [(0, .ref (ad E g)), (1, .int (iI d))]) → (zH E w0 (va_A (wl E w0) s.heap.size) s.heap H8 lc9) → (¬ WdR ch ty 0 4) → W p l e rm_M_enter s m a below meth cd H8 lc9 0 0 Qf (F0 m 60 ls []) := by
    intro ls H8 lc9 hl hH nw
    refine lv_aload_n hx hb d_M_enter_60 rfl (lv_at hl 0 rfl) ?_
    refine zv_iconst hx hb d_M_enter_61 ?_
    refine z_calli (va_runV (As := [.int (iI 0)]) (rest := []) ⟨hx, hb, hml, hown, hts⟩ (c_M_isSign (l := l) (E := E) (w0 := w0) (g := g) (ty := ty) (xm := xm) (ym := ym) (ne := ne) (ch := ch) (i := 0) (q0lt := q0lt) (q1lt := q1lt) (c0 := c0) (c1 := c1) (bch := bch) (hty := by omega) (hi0 := by omega) H8.size) (z_cwV (C := "ScaledNumeralDeskModel") 1 hg wm_758 wm_755 wm_9 wm_757 wm_s32 (by decide +kernel) ⟨Nat.le_of_ble_eq_true rfl, Nat.le_of_ble_eq_true rfl⟩) (z_preV (r := ("ScaledNumeralDeskModel", TM, 17)) hK hG hn hH hA q0lt c0 rfl) rfl rfl hl.1 rfl (lv_room (Nat.le_of_ble_eq_true rfl)) d_M_enter_62 ⟨Nat.zero_le _, Nat.zero_le _⟩) hH hA (fun z14 w12 H10 lc11 hH13 p62 => ?_)
    obtain ⟨ew15, p62⟩ := p62
    rw [ew15] at hH13
    replace p62 : (z14 = 1 ∧ (0 : Int) < ty ∧ (ch (0 : Int) = 43 ∨ ch (0 : Int) = 45)) ∨ (z14 = 0 ∧ ¬ ((0 : Int) < ty ∧ (ch (0 : Int) = 43 ∨ ch (0 : Int) = 45))) := p62
    have L73 : ∀ (st : Int) (ls : Array Slot) (H16 : Heap) (lc17 : List Loc), (lv_has ls 5 [(0, .ref (ad E g)), (1, .int (iI d))]) → (zH E w0 (va_A (wl E w0) s.heap.size) s.heap H16 lc17) → ((st = 1 ∧ 0 < ty ∧ (ch 0 = 43 ∨ ch 0 = 45)) ∨ (st = 0 ∧ ¬ (0 < ty ∧ (ch 0 = 43 ∨ ch 0 = 45)))) → W p l e rm_M_enter s m a below meth cd H16 lc17 0 0 Qf (F0 m 73 ls [.int (iI st)]) := by
      intro st ls H16 lc17 hl hH hst
      refine lv_istore_n (lv' := [(3, .int (iI st)), (0, .ref (ad E g)), (1, .int (iI d))]) hx hb d_M_enter_73 rfl hl (by decide) rfl (fun ls hl => ?_)
      have L95 : ∀ (mn : Int) (ls : Array Slot) (H18 : Heap) (lc19 : List Loc), (lv_has ls 5 [(3, .int (iI st)), (0, .ref (ad E g)), (1, .int (iI d))]) → (zH E w0 (va_A (wl E w0) s.heap.size) s.heap H18 lc19) → ((mn = 1 ∧ st = 1 ∧ ch 0 = 45) ∨ (mn = 0 ∧ ¬ (st = 1 ∧ ch 0 = 45))) → W p l e rm_M_enter s m a below meth cd H18 lc19 0 0 Qf (F0 m 95 ls [.int (iI mn)]) := by
        intro mn ls H18 lc19 hl hH hmn2
        refine lv_istore (lv' := [(4, .int (iI mn)), (3, .int (iI st)), (0, .ref (ad E g)), (1, .int (iI d))]) hx hb d_M_enter_95 hl (by decide) rfl (fun ls hl => ?_)
        refine lv_aload_n hx hb d_M_enter_97 rfl (lv_at hl 2 rfl) ?_
        refine lv_iload_n hx hb d_M_enter_98 rfl (lv_at hl 1 rfl) ?_
        refine z_calli (va_runV (As := [.int (iI st)]) (rest := []) ⟨hx, hb, hml, hown, hts⟩ (c_M_infinity (l := l) (E := E) (w0 := w0) (g := g) (ty := ty) (xm := xm) (ym := ym) (ne := ne) (ch := ch) (i := st) (q0lt := q0lt) (q1lt := q1lt) (c0 := c0) (c1 := c1) (bch := bch) (hty := by omega) (hi0 := by omega) H18.size) (z_cwV (C := "ScaledNumeralDeskModel") 1 hg wm_762 wm_759 wm_9 wm_761 wm_s33 (by decide +kernel) ⟨Nat.le_of_ble_eq_true rfl, Nat.le_of_ble_eq_true rfl⟩) (z_preV (r := ("ScaledNumeralDeskModel", TM, 17)) hK hG hn hH hA q0lt c0 rfl) rfl rfl hl.1 rfl (lv_room (Nat.le_of_ble_eq_true rfl)) d_M_enter_99 ⟨Nat.zero_le _, Nat.zero_le _⟩) hH hA (fun z24 w22 H20 lc21 hH23 p99 => ?_)
        obtain ⟨ew25, p99⟩ := p99
        rw [ew25] at hH23
        replace p99 : (z24 = 1 ∧ (WdR ch ty st 5 ∨ WdR ch ty st 6)) ∨ (z24 = 0 ∧ ¬ (WdR ch ty st 5 ∨ WdR ch ty st 6)) := p99
        refine zv_if_eq (tgt := 123) hx hb d_M_enter_102 rfl (by omega) (fun h26 => ?_) (fun h26 => ?_)
        · have ni : ¬ (WdR ch ty st 5 ∨ WdR ch ty st 6) := by rcases p99 with h8 | h8; exact absurd h8.1 (by omega); exact h8.2
          refine lv_aload_n hx hb d_M_enter_123 rfl (lv_at hl 2 rfl) ?_
          refine lv_iload_n hx hb d_M_enter_124 rfl (lv_at hl 3 rfl) ?_
          refine lv_iload_n hx hb d_M_enter_125 rfl (lv_at hl 1 rfl) ?_
          refine lv_iload hx hb d_M_enter_126 (lv_at hl 0 rfl) ?_
          refine z_calli (va_runV (As := [.int (iI d), .int (iI st), .int (iI mn)]) (rest := []) ⟨hx, hb, hml, hown, hts⟩ (c_M_number (l := l) (E := E) (w0 := w0) (g := g) (ty := ty) (xm := xm) (ym := ym) (ne := ne) (ch := ch) (f := f) (kf := kf) (mf := mf) (sf := sf) (G := G) (d := d) (st := st) (mn := mn) (q0lt := q0lt) (q1lt := q1lt) (q2lt := q2lt) (q3lt := q3lt) (q4lt := q4lt) (q5lt := q5lt) (q6lt := q6lt) (c0 := c0) (c1 := c1) (c2 := c2) (c3 := c3) (c4 := c4) (c5 := c5) (c6 := c6) (bch := bch) (hty := by omega) (bf := bf) (bk := bk) (bm := bm) (bs := bs) (bG := bG) (hne := by omega) (hd := by omega) (hst0 := by omega) (hmn := by omega) H20.size) (z_cwV (C := "ScaledNumeralDeskModel") 3 hg wm_770 wm_767 wm_9 wm_769 wm_s35 (by decide +kernel) ⟨Nat.le_of_ble_eq_true rfl, Nat.le_of_ble_eq_true rfl⟩) (z_preV (r := ("ScaledNumeralDeskModel", TM, 17)) hK hG hn hH23 hA q0lt c0 rfl) rfl rfl hl.1 rfl (lv_room (Nat.le_of_ble_eq_true rfl)) d_M_enter_128 ⟨Nat.zero_le _, Nat.zero_le _⟩) hH23 hA (fun z128 w29 H27 lc28 hH30 p128 => ?_)
          obtain ⟨⟨n_31, f_32, k_33, m_34, s_35, x_36, e37, e38, e39, e40, e41, e42, bd43, bd44, bd45, bd46, bd47, p128⟩, hg48⟩ := p128
          replace bd43 : bd f_32 140 0 9 := bd43
          replace bd44 : bd k_33 8 0 3 := bd44
          replace bd45 : bd m_34 8 0 1 := bd45
          replace bd46 : bd s_35 8 0 24 := bd46
          replace bd47 : bd x_36 448 0 9 := bd47
          replace p128 : (n_31 = 0 ∨ n_31 = 1) ∧ NbR ch ty st mn z128 d kf sf mf G k_33 s_35 m_34 x_36 := p128
          have e49 : w29 (g + 5) = zar E 80 ch := (hg48 (g + 5) (nx_M_enter_0 ) (nx_M_enter_1 ) (nx_M_enter_2 ) (nx_M_enter_3 ) (nx_M_enter_4 ) (nx_M_enter_5 )).trans c1
          have hf50 : ∀ k, k ≠ g → k ≠ (g + 11) → k ≠ (g + 1) → k ≠ (g + 2) → k ≠ (g + 3) → k ≠ (g + 4) → w29 k = w0 k := fun k g0 g1 g2 g3 g4 g5 => hg48 k g0 g1 g2 g3 g4 g5
          refine lv_istore_n (lv' := [(2, .int (iI z128)), (4, .int (iI mn)), (3, .int (iI st)), (0, .ref (ad E g)), (1, .int (iI d))]) hx hb d_M_enter_131 rfl hl (by decide) rfl (fun ls hl => ?_)
          refine lv_aload_n hx hb d_M_enter_132 rfl (lv_at hl 3 rfl) ?_
          refine zv_iconst hx hb d_M_enter_133 ?_
          refine zv_put (C := "ScaledNumeralDeskModel") (T := TM) (N := 17) (fs' := [.ref (ad E (g + 1)), .ref (ad E (g + 2)), .ref (ad E (g + 3)), .ref (ad E (g + 4)), .int (iI 0), .ref (ad E (g + 5)), .ref (ad E (g + 6)), .ref (ad E (g + 7)), .ref (ad E (g + 8)), .ref (ad E (g + 9)), .ref (ad E (g + 10)), .int (iI xm), .int (iI ym), .ref (ad E (g + 11)), .int (iI n_31), .ref (ad E (g + 12)), .ref (ad E (g + 13))]) hx hb hg uM_in tyM tyM_ok nmM hown hK hH30 q0lt e37 rfl 4 (by decide) (hg _ wm_686) (fun _ h9 => h9) rfl (ty := tyM 4) (by decide +kernel) (rfl) (by rfl) (Nat.le_of_ble_eq_true rfl) d_M_enter_134 rfl (fun H52 lc53 w51 hH54 e55 hg56 => ?_)
          have e57 : w51 (g + 5) = zar E 80 ch := (hg56 (g + 5) (nx_M_enter_0 )).trans e49
          have e58 : w51 (g + 11) = zar E 140 f_32 := (hg56 (g + 11) (nx_M_enter_6 )).trans e38
          have e59 : w51 (g + 1) = zar E 8 k_33 := (hg56 (g + 1) (nx_M_enter_7 )).trans e39
          have e60 : w51 (g + 2) = zaz E 8 m_34 := (hg56 (g + 2) (nx_M_enter_8 )).trans e40
          have e61 : w51 (g + 3) = zar E 8 s_35 := (hg56 (g + 3) (nx_M_enter_9 )).trans e41
          have e62 : w51 (g + 4) = zar E 448 x_36 := (hg56 (g + 4) (nx_M_enter_10 )).trans e42
          have hf63 : ∀ k, k ≠ g → k ≠ (g + 11) → k ≠ (g + 1) → k ≠ (g + 2) → k ≠ (g + 3) → k ≠ (g + 4) → w51 k = w0 k := fun k g0 g1 g2 g3 g4 g5 => (hg56 k g0).trans (hf50 k g0 g1 g2 g3 g4 g5)
          refine lv_iload_n hx hb d_M_enter_137 rfl (lv_at hl 0 rfl) ?_
          rw [hQ]
          exact z_iret hx hb hr hlk hH54 (⟨⟨n_31, f_32, k_33, m_34, s_35, x_36, e55, e58, e59, e60, e61, e62, bd43, bd44, bd45, bd46, bd47, ⟨p128.1, Or.inr ⟨nw, st, mn, hst, hmn2, Or.inr ⟨ni, p128.2⟩⟩⟩⟩, (fun k g0 g1 g2 g3 g4 g5 => hf63 k g0 g1 g2 g3 g4 g5)⟩) d_M_enter_138
        · have yi : WdR ch ty st 5 ∨ WdR ch ty st 6 := by rcases p99 with h8 | h8; exact h8.2; exact absurd h8.1 (by omega)
          refine lv_aload_n hx hb d_M_enter_105 rfl (lv_at hl 2 rfl) ?_
          refine lv_iload_n hx hb d_M_enter_106 rfl (lv_at hl 3 rfl) ?_
          refine lv_iload hx hb d_M_enter_107 (lv_at hl 0 rfl) ?_
          refine zv_if_eq (tgt := 116) hx hb d_M_enter_109 rfl (by omega) (fun h64 => ?_) (fun h64 => ?_)
          · refine zv_iconst hx hb d_M_enter_116 ?_
            refine z_calli (va_runV (As := [.int (iI d), .int (iI 2)]) (rest := []) ⟨hx, hb, hml, hown, hts⟩ (c_M_special (l := l) (E := E) (w0 := w0) (g := g) (ty := ty) (xm := xm) (ym := ym) (ne := ne) (f := kf) (d := d) (k := 2) (q0lt := q0lt) (q1lt := q3lt) (c0 := c0) (c1 := c3) (hd0 := by omega) H20.size) (z_cwV (C := "ScaledNumeralDeskModel") 2 hg wm_754 wm_751 wm_9 wm_753 wm_s31 (by decide +kernel) ⟨Nat.le_of_ble_eq_true rfl, Nat.le_of_ble_eq_true rfl⟩) (z_preV (r := ("ScaledNumeralDeskModel", TM, 17)) hK hG hn hH23 hA q0lt c0 rfl) rfl rfl hl.1 rfl (lv_room (Nat.le_of_ble_eq_true rfl)) d_M_enter_117 ⟨Nat.zero_le _, Nat.zero_le _⟩) hH23 hA (fun z117 w67 H65 lc66 hH68 p117 => ?_)
            obtain ⟨⟨e69, p117⟩, hg70⟩ := p117
            replace p117 : z117 = 0 := p117
            have e71 : w67 g = .inr (6, [.ref (ad E (g + 1)), .ref (ad E (g + 2)), .ref (ad E (g + 3)), .ref (ad E (g + 4)), .int (iI ty), .ref (ad E (g + 5)), .ref (ad E (g + 6)), .ref (ad E (g + 7)), .ref (ad E (g + 8)), .ref (ad E (g + 9)), .ref (ad E (g + 10)), .int (iI xm), .int (iI ym), .ref (ad E (g + 11)), .int (iI ne), .ref (ad E (g + 12)), .ref (ad E (g + 13))]) := (hg70 g (nx_M_enter_11 )).trans c0
            have e72 : w67 (g + 5) = zar E 80 ch := (hg70 (g + 5) (nx_M_enter_2 )).trans c1
            have e73 : w67 (g + 11) = zar E 140 f := (hg70 (g + 11) (nx_M_enter_12 )).trans c2
            have e74 : w67 (g + 2) = zaz E 8 mf := (hg70 (g + 2) (nx_M_enter_13 )).trans c4
            have e75 : w67 (g + 3) = zar E 8 sf := (hg70 (g + 3) (nx_M_enter_14 )).trans c5
            have e76 : w67 (g + 4) = zar E 448 G := (hg70 (g + 4) (nx_M_enter_15 )).trans c6
            have hf77 : ∀ k, k ≠ (g + 1) → w67 k = w0 k := fun k g0 => hg70 k g0
            have bk92 := bd_up bk d 2 (by omega)
            have bk93 := bd_up bk d 3 (by omega)
            refine lv_goto (tgt := 131) hx hb d_M_enter_120 rfl ?_
            refine lv_istore_n (lv' := [(2, .int (iI z117)), (4, .int (iI mn)), (3, .int (iI st)), (0, .ref (ad E g)), (1, .int (iI d))]) hx hb d_M_enter_131 rfl hl (by decide) rfl (fun ls hl => ?_)
            refine lv_aload_n hx hb d_M_enter_132 rfl (lv_at hl 3 rfl) ?_
            refine zv_iconst hx hb d_M_enter_133 ?_
            refine zv_put (C := "ScaledNumeralDeskModel") (T := TM) (N := 17) (fs' := [.ref (ad E (g + 1)), .ref (ad E (g + 2)), .ref (ad E (g + 3)), .ref (ad E (g + 4)), .int (iI 0), .ref (ad E (g + 5)), .ref (ad E (g + 6)), .ref (ad E (g + 7)), .ref (ad E (g + 8)), .ref (ad E (g + 9)), .ref (ad E (g + 10)), .int (iI xm), .int (iI ym), .ref (ad E (g + 11)), .int (iI ne), .ref (ad E (g + 12)), .ref (ad E (g + 13))]) hx hb hg uM_in tyM tyM_ok nmM hown hK hH68 q0lt e71 rfl 4 (by decide) (hg _ wm_686) (fun _ h9 => h9) rfl (ty := tyM 4) (by decide +kernel) (rfl) (by rfl) (Nat.le_of_ble_eq_true rfl) d_M_enter_134 rfl (fun H79 lc80 w78 hH81 e82 hg83 => ?_)
            have e84 : w78 (g + 5) = zar E 80 ch := (hg83 (g + 5) (nx_M_enter_0 )).trans e72
            have e85 : w78 (g + 11) = zar E 140 f := (hg83 (g + 11) (nx_M_enter_6 )).trans e73
            have e86 : w78 (g + 1) = zar E 8 (up kf d (2 : Int)) := (hg83 (g + 1) (nx_M_enter_7 )).trans e69
            have e87 : w78 (g + 2) = zaz E 8 mf := (hg83 (g + 2) (nx_M_enter_8 )).trans e74
            have e88 : w78 (g + 3) = zar E 8 sf := (hg83 (g + 3) (nx_M_enter_9 )).trans e75
            have e89 : w78 (g + 4) = zar E 448 G := (hg83 (g + 4) (nx_M_enter_10 )).trans e76
            have hf90 : ∀ k, k ≠ (g + 1) → k ≠ g → w78 k = w0 k := fun k g0 g1 => (hg83 k g1).trans (hf77 k g0)
            refine lv_iload_n hx hb d_M_enter_137 rfl (lv_at hl 0 rfl) ?_
            rw [hQ]
            exact z_iret hx hb hr hlk hH81 (⟨⟨ne, f, (up kf d (2 : Int)), mf, sf, G, e82, e85, e86, e87, e88, e89, bf, (by assumption), bm, bs, bG, ⟨hne, Or.inr ⟨nw, st, mn, hst, hmn2, Or.inl ⟨yi, Or.inr ⟨by omega, p117, rfl, rfl, rfl, rfl⟩⟩⟩⟩⟩, (fun k g0 g1 g2 g3 g4 g5 => hf90 k g2 g0)⟩) d_M_enter_138
          · refine zv_iconst hx hb d_M_enter_112 ?_
            refine lv_goto (tgt := 117) hx hb d_M_enter_113 rfl ?_
            refine z_calli (va_runV (As := [.int (iI d), .int (iI 3)]) (rest := []) ⟨hx, hb, hml, hown, hts⟩ (c_M_special (l := l) (E := E) (w0 := w0) (g := g) (ty := ty) (xm := xm) (ym := ym) (ne := ne) (f := kf) (d := d) (k := 3) (q0lt := q0lt) (q1lt := q3lt) (c0 := c0) (c1 := c3) (hd0 := by omega) H20.size) (z_cwV (C := "ScaledNumeralDeskModel") 2 hg wm_754 wm_751 wm_9 wm_753 wm_s31 (by decide +kernel) ⟨Nat.le_of_ble_eq_true rfl, Nat.le_of_ble_eq_true rfl⟩) (z_preV (r := ("ScaledNumeralDeskModel", TM, 17)) hK hG hn hH23 hA q0lt c0 rfl) rfl rfl hl.1 rfl (lv_room (Nat.le_of_ble_eq_true rfl)) d_M_enter_117 ⟨Nat.zero_le _, Nat.zero_le _⟩) hH23 hA (fun z117 w93 H91 lc92 hH94 p117 => ?_)
            obtain ⟨⟨e95, p117⟩, hg96⟩ := p117
            replace p117 : z117 = 0 := p117
            have e97 : w93 g = .inr (6, [.ref (ad E (g + 1)), .ref (ad E (g + 2)), .ref (ad E (g + 3)), .ref (ad E (g + 4)), .int (iI ty), .ref (ad E (g + 5)), .ref (ad E (g + 6)), .ref (ad E (g + 7)), .ref (ad E (g + 8)), .ref (ad E (g + 9)), .ref (ad E (g + 10)), .int (iI xm), .int (iI ym), .ref (ad E (g + 11)), .int (iI ne), .ref (ad E (g + 12)), .ref (ad E (g + 13))]) := (hg96 g (nx_M_enter_11 )).trans c0
            have e98 : w93 (g + 5) = zar E 80 ch := (hg96 (g + 5) (nx_M_enter_2 )).trans c1
            have e99 : w93 (g + 11) = zar E 140 f := (hg96 (g + 11) (nx_M_enter_12 )).trans c2
            have e100 : w93 (g + 2) = zaz E 8 mf := (hg96 (g + 2) (nx_M_enter_13 )).trans c4
            have e101 : w93 (g + 3) = zar E 8 sf := (hg96 (g + 3) (nx_M_enter_14 )).trans c5
            have e102 : w93 (g + 4) = zar E 448 G := (hg96 (g + 4) (nx_M_enter_15 )).trans c6
            have hf103 : ∀ k, k ≠ (g + 1) → w93 k = w0 k := fun k g0 => hg96 k g0
            have bk92 := bd_up bk d 2 (by omega)
            have bk93 := bd_up bk d 3 (by omega)
            refine lv_goto (tgt := 131) hx hb d_M_enter_120 rfl ?_
            refine lv_istore_n (lv' := [(2, .int (iI z117)), (4, .int (iI mn)), (3, .int (iI st)), (0, .ref (ad E g)), (1, .int (iI d))]) hx hb d_M_enter_131 rfl hl (by decide) rfl (fun ls hl => ?_)
            refine lv_aload_n hx hb d_M_enter_132 rfl (lv_at hl 3 rfl) ?_
            refine zv_iconst hx hb d_M_enter_133 ?_
            refine zv_put (C := "ScaledNumeralDeskModel") (T := TM) (N := 17) (fs' := [.ref (ad E (g + 1)), .ref (ad E (g + 2)), .ref (ad E (g + 3)), .ref (ad E (g + 4)), .int (iI 0), .ref (ad E (g + 5)), .ref (ad E (g + 6)), .ref (ad E (g + 7)), .ref (ad E (g + 8)), .ref (ad E (g + 9)), .ref (ad E (g + 10)), .int (iI xm), .int (iI ym), .ref (ad E (g + 11)), .int (iI ne), .ref (ad E (g + 12)), .ref (ad E (g + 13))]) hx hb hg uM_in tyM tyM_ok nmM hown hK hH94 q0lt e97 rfl 4 (by decide) (hg _ wm_686) (fun _ h9 => h9) rfl (ty := tyM 4) (by decide +kernel) (rfl) (by rfl) (Nat.le_of_ble_eq_true rfl) d_M_enter_134 rfl (fun H105 lc106 w104 hH107 e108 hg109 => ?_)
            have e110 : w104 (g + 5) = zar E 80 ch := (hg109 (g + 5) (nx_M_enter_0 )).trans e98
            have e111 : w104 (g + 11) = zar E 140 f := (hg109 (g + 11) (nx_M_enter_6 )).trans e99
            have e112 : w104 (g + 1) = zar E 8 (up kf d (3 : Int)) := (hg109 (g + 1) (nx_M_enter_7 )).trans e95
            have e113 : w104 (g + 2) = zaz E 8 mf := (hg109 (g + 2) (nx_M_enter_8 )).trans e100
            have e114 : w104 (g + 3) = zar E 8 sf := (hg109 (g + 3) (nx_M_enter_9 )).trans e101
            have e115 : w104 (g + 4) = zar E 448 G := (hg109 (g + 4) (nx_M_enter_10 )).trans e102
            have hf116 : ∀ k, k ≠ (g + 1) → k ≠ g → w104 k = w0 k := fun k g0 g1 => (hg109 k g1).trans (hf103 k g0)
            refine lv_iload_n hx hb d_M_enter_137 rfl (lv_at hl 0 rfl) ?_
            rw [hQ]
            exact z_iret hx hb hr hlk hH107 (⟨⟨ne, f, (up kf d (3 : Int)), mf, sf, G, e108, e111, e112, e113, e114, e115, bf, (by assumption), bm, bs, bG, ⟨hne, Or.inr ⟨nw, st, mn, hst, hmn2, Or.inl ⟨yi, Or.inl ⟨by omega, p117, rfl, rfl, rfl, rfl⟩⟩⟩⟩⟩, (fun k g0 g1 g2 g3 g4 g5 => hf116 k g2 g0)⟩) d_M_enter_138
      refine lv_iload_n hx hb d_M_enter_74 rfl (lv_at hl 0 rfl) ?_
      refine zv_iconst hx hb d_M_enter_75 ?_
      refine zv_icmp_ne (tgt := 94) hx hb d_M_enter_76 rfl (by omega) (by omega) (fun h117 => ?_) (fun h117 => ?_)
      · refine zv_iconst hx hb d_M_enter_94 ?_
        exact L95 0 _ H16 lc17 (lv_sub hl [0, 1, 2] rfl) hH (by omega)
      · refine lv_aload_n hx hb d_M_enter_79 rfl (lv_at hl 1 rfl) ?_
        refine zv_get (C := "ScaledNumeralDeskModel") (T := TM) (N := 17) hx hb hg uM_in hown hK hH q0lt c0 rfl 5 (by decide) (hg _ wm_687) (fun _ h9 => h9) rfl d_M_enter_80 ?_
        refine zv_iconst hx hb d_M_enter_83 ?_
        refine zv_iald hx hb hK hH q1lt c1 (by omega) (by omega) (by omega) d_M_enter_84 ?_
        have b118 := bch 0 (by omega) (by omega)
        refine zv_bipush hx hb d_M_enter_85 rfl ?_
        refine zv_icmp_ne (tgt := 94) hx hb d_M_enter_87 rfl (by omega) (by omega) (fun h119 => ?_) (fun h119 => ?_)
        · refine zv_iconst hx hb d_M_enter_94 ?_
          exact L95 0 _ H16 lc17 (lv_sub hl [0, 1, 2] rfl) hH (by omega)
        · refine zv_iconst hx hb d_M_enter_90 ?_
          refine lv_goto (tgt := 95) hx hb d_M_enter_91 rfl ?_
          exact L95 1 _ H16 lc17 (lv_sub hl [0, 1, 2] rfl) hH (by omega)
    refine zv_if_eq (tgt := 72) hx hb d_M_enter_65 rfl (by omega) (fun h120 => ?_) (fun h120 => ?_)
    · refine zv_iconst hx hb d_M_enter_72 ?_
      exact L73 0 _ H10 lc11 (lv_sub hl [0, 1] rfl) hH13 (by omega)
    · refine zv_iconst hx hb d_M_enter_68 ?_
      refine lv_goto (tgt := 73) hx hb d_M_enter_69 rfl ?_
      exact L73 1 _ H10 lc11 (lv_sub hl [0, 1] rfl) hH13 (by omega)
  refine zv_icmp_ne (tgt := 60) hx hb d_M_enter_17 rfl (by omega) (by omega) (fun h121 => ?_) (fun h121 => ?_)
  · exact L60 _ H1 lc2 (lv_sub hl [0, 1] rfl) hH4 (by rw [wd_4]; omega)
  · refine lv_aload_n hx hb d_M_enter_20 rfl (lv_at hl 0 rfl) ?_
    refine zv_iconst hx hb d_M_enter_21 ?_
    refine zv_bipush hx hb d_M_enter_22 rfl ?_
    refine z_calli (va_runV (As := [.int (iI 0), .int (iI 110)]) (rest := []) ⟨hx, hb, hml, hown, hts⟩ (c_M_isLetter (l := l) (E := E) (w0 := w0) (g := g) (ty := ty) (xm := xm) (ym := ym) (ne := ne) (ch := ch) (i := 0) (sm := 110) (q0lt := q0lt) (q1lt := q1lt) (c0 := c0) (c1 := c1) (bch := bch) (hty := by omega) (hi0 := by omega) (hsm := by omega) H1.size) (z_cwV (C := "ScaledNumeralDeskModel") 2 hg wm_750 wm_747 wm_9 wm_749 wm_s30 (by decide +kernel) ⟨Nat.le_of_ble_eq_true rfl, Nat.le_of_ble_eq_true rfl⟩) (z_preV (r := ("ScaledNumeralDeskModel", TM, 17)) hK hG hn hH4 hA q0lt c0 rfl) rfl rfl hl.1 rfl (lv_room (Nat.le_of_ble_eq_true rfl)) d_M_enter_24 ⟨Nat.zero_le _, Nat.zero_le _⟩) hH4 hA (fun z126 w124 H122 lc123 hH125 p24 => ?_)
    obtain ⟨ew127, p24⟩ := p24
    rw [ew127] at hH125
    replace p24 : (z126 = 1 ∧ (0 : Int) < ty ∧ lw (ch (0 : Int)) = (110 : Int)) ∨ (z126 = 0 ∧ ¬ ((0 : Int) < ty ∧ lw (ch (0 : Int)) = (110 : Int))) := p24
    refine zv_if_eq (tgt := 60) hx hb d_M_enter_27 rfl (by omega) (fun h128 => ?_) (fun h128 => ?_)
    · exact L60 _ H122 lc123 (lv_sub hl [0, 1] rfl) hH125 (by rw [wd_4]; omega)
    · refine lv_aload_n hx hb d_M_enter_30 rfl (lv_at hl 0 rfl) ?_
      refine zv_iconst hx hb d_M_enter_31 ?_
      refine zv_bipush hx hb d_M_enter_32 rfl ?_
      refine z_calli (va_runV (As := [.int (iI 1), .int (iI 97)]) (rest := []) ⟨hx, hb, hml, hown, hts⟩ (c_M_isLetter (l := l) (E := E) (w0 := w0) (g := g) (ty := ty) (xm := xm) (ym := ym) (ne := ne) (ch := ch) (i := 1) (sm := 97) (q0lt := q0lt) (q1lt := q1lt) (c0 := c0) (c1 := c1) (bch := bch) (hty := by omega) (hi0 := by omega) (hsm := by omega) H122.size) (z_cwV (C := "ScaledNumeralDeskModel") 2 hg wm_750 wm_747 wm_9 wm_749 wm_s30 (by decide +kernel) ⟨Nat.le_of_ble_eq_true rfl, Nat.le_of_ble_eq_true rfl⟩) (z_preV (r := ("ScaledNumeralDeskModel", TM, 17)) hK hG hn hH125 hA q0lt c0 rfl) rfl rfl hl.1 rfl (lv_room (Nat.le_of_ble_eq_true rfl)) d_M_enter_34 ⟨Nat.zero_le _, Nat.zero_le _⟩) hH125 hA (fun z133 w131 H129 lc130 hH132 p34 => ?_)
      obtain ⟨ew134, p34⟩ := p34
      rw [ew134] at hH132
      replace p34 : (z133 = 1 ∧ (1 : Int) < ty ∧ lw (ch (1 : Int)) = (97 : Int)) ∨ (z133 = 0 ∧ ¬ ((1 : Int) < ty ∧ lw (ch (1 : Int)) = (97 : Int))) := p34
      refine zv_if_eq (tgt := 60) hx hb d_M_enter_37 rfl (by omega) (fun h135 => ?_) (fun h135 => ?_)
      · exact L60 _ H129 lc130 (lv_sub hl [0, 1] rfl) hH132 (by rw [wd_4]; omega)
      · refine lv_aload_n hx hb d_M_enter_40 rfl (lv_at hl 0 rfl) ?_
        refine zv_iconst hx hb d_M_enter_41 ?_
        refine zv_bipush hx hb d_M_enter_42 rfl ?_
        refine z_calli (va_runV (As := [.int (iI 2), .int (iI 110)]) (rest := []) ⟨hx, hb, hml, hown, hts⟩ (c_M_isLetter (l := l) (E := E) (w0 := w0) (g := g) (ty := ty) (xm := xm) (ym := ym) (ne := ne) (ch := ch) (i := 2) (sm := 110) (q0lt := q0lt) (q1lt := q1lt) (c0 := c0) (c1 := c1) (bch := bch) (hty := by omega) (hi0 := by omega) (hsm := by omega) H129.size) (z_cwV (C := "ScaledNumeralDeskModel") 2 hg wm_750 wm_747 wm_9 wm_749 wm_s30 (by decide +kernel) ⟨Nat.le_of_ble_eq_true rfl, Nat.le_of_ble_eq_true rfl⟩) (z_preV (r := ("ScaledNumeralDeskModel", TM, 17)) hK hG hn hH132 hA q0lt c0 rfl) rfl rfl hl.1 rfl (lv_room (Nat.le_of_ble_eq_true rfl)) d_M_enter_44 ⟨Nat.zero_le _, Nat.zero_le _⟩) hH132 hA (fun z140 w138 H136 lc137 hH139 p44 => ?_)
        obtain ⟨ew141, p44⟩ := p44
        rw [ew141] at hH139
        replace p44 : (z140 = 1 ∧ (2 : Int) < ty ∧ lw (ch (2 : Int)) = (110 : Int)) ∨ (z140 = 0 ∧ ¬ ((2 : Int) < ty ∧ lw (ch (2 : Int)) = (110 : Int))) := p44
        refine zv_if_eq (tgt := 60) hx hb d_M_enter_47 rfl (by omega) (fun h142 => ?_) (fun h142 => ?_)
        · exact L60 _ H136 lc137 (lv_sub hl [0, 1] rfl) hH139 (by rw [wd_4]; omega)
        · have yw : WdR ch ty 0 4 := by rw [wd_4]; omega
          refine lv_aload_n hx hb d_M_enter_50 rfl (lv_at hl 0 rfl) ?_
          refine lv_iload_n hx hb d_M_enter_51 rfl (lv_at hl 1 rfl) ?_
          refine zv_iconst hx hb d_M_enter_52 ?_
          refine z_calli (va_runV (As := [.int (iI d), .int (iI 1)]) (rest := []) ⟨hx, hb, hml, hown, hts⟩ (c_M_special (l := l) (E := E) (w0 := w0) (g := g) (ty := ty) (xm := xm) (ym := ym) (ne := ne) (f := kf) (d := d) (k := 1) (q0lt := q0lt) (q1lt := q3lt) (c0 := c0) (c1 := c3) (hd0 := by omega) H136.size) (z_cwV (C := "ScaledNumeralDeskModel") 2 hg wm_754 wm_751 wm_9 wm_753 wm_s31 (by decide +kernel) ⟨Nat.le_of_ble_eq_true rfl, Nat.le_of_ble_eq_true rfl⟩) (z_preV (r := ("ScaledNumeralDeskModel", TM, 17)) hK hG hn hH139 hA q0lt c0 rfl) rfl rfl hl.1 rfl (lv_room (Nat.le_of_ble_eq_true rfl)) d_M_enter_53 ⟨Nat.zero_le _, Nat.zero_le _⟩) hH139 hA (fun z53 w145 H143 lc144 hH146 p53 => ?_)
          obtain ⟨⟨e147, p53⟩, hg148⟩ := p53
          replace p53 : z53 = 0 := p53
          have e149 : w145 g = .inr (6, [.ref (ad E (g + 1)), .ref (ad E (g + 2)), .ref (ad E (g + 3)), .ref (ad E (g + 4)), .int (iI ty), .ref (ad E (g + 5)), .ref (ad E (g + 6)), .ref (ad E (g + 7)), .ref (ad E (g + 8)), .ref (ad E (g + 9)), .ref (ad E (g + 10)), .int (iI xm), .int (iI ym), .ref (ad E (g + 11)), .int (iI ne), .ref (ad E (g + 12)), .ref (ad E (g + 13))]) := (hg148 g (nx_M_enter_11 )).trans c0
          have e150 : w145 (g + 5) = zar E 80 ch := (hg148 (g + 5) (nx_M_enter_2 )).trans c1
          have e151 : w145 (g + 11) = zar E 140 f := (hg148 (g + 11) (nx_M_enter_12 )).trans c2
          have e152 : w145 (g + 2) = zaz E 8 mf := (hg148 (g + 2) (nx_M_enter_13 )).trans c4
          have e153 : w145 (g + 3) = zar E 8 sf := (hg148 (g + 3) (nx_M_enter_14 )).trans c5
          have e154 : w145 (g + 4) = zar E 448 G := (hg148 (g + 4) (nx_M_enter_15 )).trans c6
          have hf155 : ∀ k, k ≠ (g + 1) → w145 k = w0 k := fun k g0 => hg148 k g0
          have bk9 := bd_up bk d 1 (by omega)
          refine lv_istore_n (lv' := [(2, .int (iI z53)), (0, .ref (ad E g)), (1, .int (iI d))]) hx hb d_M_enter_56 rfl hl (by decide) rfl (fun ls hl => ?_)
          refine lv_goto (tgt := 132) hx hb d_M_enter_57 rfl ?_
          refine lv_aload_n hx hb d_M_enter_132 rfl (lv_at hl 1 rfl) ?_
          refine zv_iconst hx hb d_M_enter_133 ?_
          refine zv_put (C := "ScaledNumeralDeskModel") (T := TM) (N := 17) (fs' := [.ref (ad E (g + 1)), .ref (ad E (g + 2)), .ref (ad E (g + 3)), .ref (ad E (g + 4)), .int (iI 0), .ref (ad E (g + 5)), .ref (ad E (g + 6)), .ref (ad E (g + 7)), .ref (ad E (g + 8)), .ref (ad E (g + 9)), .ref (ad E (g + 10)), .int (iI xm), .int (iI ym), .ref (ad E (g + 11)), .int (iI ne), .ref (ad E (g + 12)), .ref (ad E (g + 13))]) hx hb hg uM_in tyM tyM_ok nmM hown hK hH146 q0lt e149 rfl 4 (by decide) (hg _ wm_686) (fun _ h9 => h9) rfl (ty := tyM 4) (by decide +kernel) (rfl) (by rfl) (Nat.le_of_ble_eq_true rfl) d_M_enter_134 rfl (fun H157 lc158 w156 hH159 e160 hg161 => ?_)
          have e162 : w156 (g + 5) = zar E 80 ch := (hg161 (g + 5) (nx_M_enter_0 )).trans e150
          have e163 : w156 (g + 11) = zar E 140 f := (hg161 (g + 11) (nx_M_enter_6 )).trans e151
          have e164 : w156 (g + 1) = zar E 8 (up kf d (1 : Int)) := (hg161 (g + 1) (nx_M_enter_7 )).trans e147
          have e165 : w156 (g + 2) = zaz E 8 mf := (hg161 (g + 2) (nx_M_enter_8 )).trans e152
          have e166 : w156 (g + 3) = zar E 8 sf := (hg161 (g + 3) (nx_M_enter_9 )).trans e153
          have e167 : w156 (g + 4) = zar E 448 G := (hg161 (g + 4) (nx_M_enter_10 )).trans e154
          have hf168 : ∀ k, k ≠ (g + 1) → k ≠ g → w156 k = w0 k := fun k g0 g1 => (hg161 k g1).trans (hf155 k g0)
          refine lv_iload_n hx hb d_M_enter_137 rfl (lv_at hl 0 rfl) ?_
          rw [hQ]
          exact z_iret hx hb hr hlk hH159 (⟨⟨ne, f, (up kf d (1 : Int)), mf, sf, G, e160, e163, e164, e165, e166, e167, bf, (by assumption), bm, bs, bG, ⟨hne, Or.inl ⟨yw, p53, rfl, rfl, rfl, rfl⟩⟩⟩, (fun k g0 g1 g2 g3 g4 g5 => hf168 k g2 g0)⟩) d_M_enter_138
