theorem nx_M_squareRoot_0 {g : Nat}  : g ≠ g + 12 := by omega
theorem nx_M_squareRoot_1 {g : Nat}  : g + 9 ≠ g + 12 := by omega
theorem nx_M_squareRoot_2 {g : Nat}  : g + 10 ≠ g + 12 := by omega
theorem nx_M_squareRoot_3 {g : Nat}  : g + 11 ≠ g + 12 := by omega
theorem nx_M_squareRoot_4 {g : Nat}  : g + 13 ≠ g + 12 := by omega
theorem nx_M_squareRoot_5 {g : Nat}  : g + 9 ≠ g := by omega
theorem nx_M_squareRoot_6 {g : Nat}  : g + 9 ≠ g + 11 := by omega
theorem nx_M_squareRoot_7 {g : Nat}  : g + 10 ≠ g := by omega
theorem nx_M_squareRoot_8 {g : Nat}  : g + 10 ≠ g + 11 := by omega
theorem nx_M_squareRoot_9 {g : Nat}  : g + 12 ≠ g := by omega
theorem nx_M_squareRoot_10 {g : Nat}  : g + 12 ≠ g + 11 := by omega
theorem nx_M_squareRoot_11 {g : Nat}  : g + 13 ≠ g := by omega
theorem nx_M_squareRoot_12 {g : Nat}  : g + 13 ≠ g + 11 := by omega
theorem nx_M_squareRoot_13 {g : Nat}  : g ≠ g + 11 := by omega
theorem nx_M_squareRoot_14 {g : Nat}  : g ≠ g + 10 := by omega
theorem nx_M_squareRoot_15 {g : Nat}  : g + 9 ≠ g + 10 := by omega
theorem nx_M_squareRoot_16 {g : Nat}  : g + 11 ≠ g + 10 := by omega
theorem nx_M_squareRoot_17 {g : Nat}  : g + 12 ≠ g + 10 := by omega
theorem nx_M_squareRoot_18 {g : Nat}  : g + 13 ≠ g + 10 := by omega
theorem nx_M_squareRoot_19 {g : Nat}  : g ≠ g + 13 := by omega
theorem nx_M_squareRoot_20 {g : Nat}  : g + 9 ≠ g + 13 := by omega
theorem nx_M_squareRoot_21 {g : Nat}  : g + 10 ≠ g + 13 := by omega
theorem nx_M_squareRoot_22 {g : Nat}  : g + 11 ≠ g + 13 := by omega
theorem nx_M_squareRoot_23 {g : Nat}  : g + 12 ≠ g + 13 := by omega
def rm_M_squareRoot : Room := { frames := 1, cells := 0, slots := 0, locals := 23 }
set_option maxHeartbeats 4000000 in
set_option maxRecDepth 100000 in
theorem c_M_squareRoot (l : Launch) (E : zE) (w0 : zW) (g : Nat) (ty xm ym ne : Int) (xf yf f rf tf : Int → Int) (n : Int) (q0lt : g < zn E) (q1lt : g + 9 < zn E) (q2lt : g + 10 < zn E) (q3lt : g + 11 < zn E) (q4lt : g + 12 < zn E) (q5lt : g + 13 < zn E) (c0 : w0 g = .inr (6, [.ref (ad E (g + 1)), .ref (ad E (g + 2)), .ref (ad E (g + 3)), .ref (ad E (g + 4)), .int (iI ty), .ref (ad E (g + 5)), .ref (ad E (g + 6)), .ref (ad E (g + 7)), .ref (ad E (g + 8)), .ref (ad E (g + 9)), .ref (ad E (g + 10)), .int (iI xm), .int (iI ym), .ref (ad E (g + 11)), .int (iI ne), .ref (ad E (g + 12)), .ref (ad E (g + 13))])) (c1 : w0 (g + 9) = zar E 56 xf) (c2 : w0 (g + 10) = zar E 56 yf) (c3 : w0 (g + 11) = zar E 140 f) (c4 : w0 (g + 12) = zar E 58 rf) (c5 : w0 (g + 13) = zar E 46 tf) (bx : bd xf 56 0 9) (by1 : bd yf 56 0 9) (hn0 : 1 ≤ n ∧ n ≤ 25) : zM l y_M_squareRoot ws_M_squareRoot rm_M_squareRoot E [.ref (ad E g), .int (iI n)] w0 (zQv E w0 (fun w' => (∃ (y' : Int → Int) (f' : Int → Int) (r' : Int → Int) (t' : Int → Int), w' g = .inr (6, [.ref (ad E (g + 1)), .ref (ad E (g + 2)), .ref (ad E (g + 3)), .ref (ad E (g + 4)), .int (iI ty), .ref (ad E (g + 5)), .ref (ad E (g + 6)), .ref (ad E (g + 7)), .ref (ad E (g + 8)), .ref (ad E (g + 9)), .ref (ad E (g + 10)), .int (iI xm), .int (iI ym), .ref (ad E (g + 11)), .int (iI 0), .ref (ad E (g + 12)), .ref (ad E (g + 13))]) ∧ w' (g + 10) = zar E 56 y' ∧ w' (g + 11) = zar E 140 f' ∧ w' (g + 12) = zar E 58 r' ∧ w' (g + 13) = zar E 46 t' ∧ bd y' 56 0 9 ∧ bd f' 140 0 9 ∧ bd r' 58 0 9 ∧ bd t' 46 0 9 ∧ (∃ S : Int, 0 ≤ S ∧ S * S ≤ Vt xf 56 * Tp (2 * n) / Tp 24 ∧ Vt xf 56 * Tp (2 * n) / Tp 24 < (S + 1) * (S + 1) ∧ Vt f' 140 = S * Tp (48 - n) ∧ S < Tp 42)) ∧ ∀ k, k ≠ g → k ≠ (g + 10) → k ≠ (g + 11) → k ≠ (g + 12) → k ≠ (g + 13) → w' k = w0 k)) := by
  refine z_met (cc := b_M_squareRoot) (maxL := 5) (ret := none) (by decide +kernel) rfl (Nat.le_of_ble_eq_true rfl) ?_
  intro p e s m below meth cd ls a Qf hQ hC hl hH
  obtain ⟨hF, hr, hlk, hK, hG, hn⟩ := hC
  obtain ⟨hx, hb, hml, hown, hts⟩ := hF
  have hg : ∀ w ∈ GW, w.before a s = true := fun w h => hts w (List.mem_cons_of_mem _ h)
  have hA : ∀ q, s.heap.size ≤ q → va_A (wl E w0) s.heap.size q := fun q h => Or.inr h
  have hl : lv_has ls 5 [(0, .ref (ad E g)), (1, .int (iI n))] := hl
  have vx := Vt_in bx (show (0 : Int) ≤ 56 by decide) (Int.le_refl 56)
  have t42 : Tp 42 = 10 * Tp 41 := Tp_s (i := 41) (by decide)
  have t43 : Tp 43 = 10 * Tp 42 := Tp_s (i := 42) (by decide)
  have t44 : Tp 44 = 10 * Tp 43 := Tp_s (i := 43) (by decide)
  have t45 : Tp 45 = 10 * Tp 44 := Tp_s (i := 44) (by decide)
  have t41 := Tp_pos 41
  have t45 : Tp 45 ≤ Tp 56 := Tp_mono (by decide) (by decide)
  have t44b : Tp 44 ≤ Tp 57 := Tp_mono (by decide) (by decide)
  have t45c : 10 * Tp 45 ≤ Tp 56 := by rw [← Tp_s (by decide)]; exact Tp_mono (by decide) (by decide)
  refine lv_aload_n hx hb d_M_squareRoot_0 rfl (lv_at hl 0 rfl) ?_
  refine z_callv (va_runV (As := []) (rest := []) ⟨hx, hb, hml, hown, hts⟩ (c_M_noRest (l := l) (E := E) (w0 := w0) (g := g) (ty := ty) (xm := xm) (ym := ym) (ne := ne) (rf := rf) (q0lt := q0lt) (q1lt := q4lt) (c0 := c0) (c1 := c4) s.heap.size) (z_cwV (C := "ScaledNumeralDeskModel") 0 hg wm_895 wm_892 wm_9 wm_894 wm_s62 (by decide +kernel) ⟨Nat.le_of_ble_eq_true rfl, Nat.le_of_ble_eq_true rfl⟩) (z_preV (r := ("ScaledNumeralDeskModel", TM, 17)) hK hG hn hH hA q0lt c0 rfl) rfl rfl hl.1 rfl (lv_room (Nat.le_of_ble_eq_true rfl)) d_M_squareRoot_1 ⟨Nat.zero_le _, Nat.zero_le _⟩) hH hA (fun  w3 H1 lc2 hH4 p1 => ?_)
  obtain ⟨⟨r1, e5, bd6, p1⟩, hg7⟩ := p1
  replace bd6 : bd r1 58 0 9 := bd6
  replace p1 : Vt r1 58 = 0 := p1
  have e8 : w3 g = .inr (6, [.ref (ad E (g + 1)), .ref (ad E (g + 2)), .ref (ad E (g + 3)), .ref (ad E (g + 4)), .int (iI ty), .ref (ad E (g + 5)), .ref (ad E (g + 6)), .ref (ad E (g + 7)), .ref (ad E (g + 8)), .ref (ad E (g + 9)), .ref (ad E (g + 10)), .int (iI xm), .int (iI ym), .ref (ad E (g + 11)), .int (iI ne), .ref (ad E (g + 12)), .ref (ad E (g + 13))]) := (hg7 g (nx_M_squareRoot_0 )).trans c0
  have e9 : w3 (g + 9) = zar E 56 xf := (hg7 (g + 9) (nx_M_squareRoot_1 )).trans c1
  have e10 : w3 (g + 10) = zar E 56 yf := (hg7 (g + 10) (nx_M_squareRoot_2 )).trans c2
  have e11 : w3 (g + 11) = zar E 140 f := (hg7 (g + 11) (nx_M_squareRoot_3 )).trans c3
  have e12 : w3 (g + 13) = zar E 46 tf := (hg7 (g + 13) (nx_M_squareRoot_4 )).trans c5
  have hf13 : ∀ k, k ≠ (g + 12) → w3 k = w0 k := fun k g0 => hg7 k g0
  have br1 : bd r1 58 0 9 := by assumption
  refine zv_iconst hx hb d_M_squareRoot_4 ?_
  refine lv_istore_n (lv' := [(2, .int (iI 0)), (0, .ref (ad E g)), (1, .int (iI n))]) hx hb d_M_squareRoot_5 rfl hl (by decide) rfl (fun ls hl => ?_)
  have L6 : ∀ (fu : Nat) (i : Int) (h : Int → Int) (ls : Array Slot) (H14 : Heap) (lc15 : List Loc) (w16 : zW), (lv_has ls 5 [(0, .ref (ad E g)), (1, .int (iI n)), (2, .int (iI i))]) → (zH E w16 (va_A (wl E w0) s.heap.size) s.heap H14 lc15) → (w16 g = .inr (6, [.ref (ad E (g + 1)), .ref (ad E (g + 2)), .ref (ad E (g + 3)), .ref (ad E (g + 4)), .int (iI ty), .ref (ad E (g + 5)), .ref (ad E (g + 6)), .ref (ad E (g + 7)), .ref (ad E (g + 8)), .ref (ad E (g + 9)), .ref (ad E (g + 10)), .int (iI xm), .int (iI ym), .ref (ad E (g + 11)), .int (iI ne), .ref (ad E (g + 12)), .ref (ad E (g + 13))])) → (w16 (g + 9) = zar E 56 xf) → (w16 (g + 10) = zar E 56 yf) → (w16 (g + 11) = zar E 140 f) → (w16 (g + 12) = zar E 58 r1) → (w16 (g + 13) = zar E 46 h) → (∀ k, k ≠ (g + 12) → k ≠ (g + 13) → w16 k = w0 k) → (0 ≤ i ∧ i ≤ 46) → (∀ j : Int, 0 ≤ j → j < i → h j = 0) → (46 - i < (fu : Int)) → W p l e rm_M_squareRoot s m a below meth cd H14 lc15 0 0 Qf (F0 m 6 ls []) := by
    intro fu
    induction fu with
    | zero => intro i h ls H14 lc15 w16 hl hH e17 e18 e19 e20 e21 e22 hf23 hi hz hm; exact absurd hm (by omega)
    | succ fu ih =>
      intro i h ls H14 lc15 w16 hl hH e17 e18 e19 e20 e21 e22 hf23 hi hz hm
      refine lv_iload_n hx hb d_M_squareRoot_6 rfl (lv_at hl 2 rfl) ?_
      refine zv_bipush hx hb d_M_squareRoot_7 rfl ?_
      refine zv_icmp_ge (tgt := 25) hx hb d_M_squareRoot_9 rfl (by omega) (by omega) (fun h24 => ?_) (fun h24 => ?_)
      · refine zv_bipush hx hb d_M_squareRoot_25 rfl ?_
        refine lv_istore_n (lv' := [(2, .int (iI 41)), (0, .ref (ad E g)), (1, .int (iI n))]) hx hb d_M_squareRoot_27 rfl hl (by decide) rfl (fun ls hl => ?_)
        have L28 : ∀ (fu : Nat) (pp : Int) (S : Int) (y1 : Int → Int) (r2 : Int → Int) (t2 : Int → Int) (ls : Array Slot) (H25 : Heap) (lc26 : List Loc) (w27 : zW), (lv_has ls 5 [(0, .ref (ad E g)), (1, .int (iI n)), (2, .int (iI pp))]) → (zH E w27 (va_A (wl E w0) s.heap.size) s.heap H25 lc26) → (w27 g = .inr (6, [.ref (ad E (g + 1)), .ref (ad E (g + 2)), .ref (ad E (g + 3)), .ref (ad E (g + 4)), .int (iI ty), .ref (ad E (g + 5)), .ref (ad E (g + 6)), .ref (ad E (g + 7)), .ref (ad E (g + 8)), .ref (ad E (g + 9)), .ref (ad E (g + 10)), .int (iI xm), .int (iI ym), .ref (ad E (g + 11)), .int (iI ne), .ref (ad E (g + 12)), .ref (ad E (g + 13))])) → (w27 (g + 9) = zar E 56 xf) → (w27 (g + 10) = zar E 56 y1) → (w27 (g + 11) = zar E 140 f) → (w27 (g + 12) = zar E 58 r2) → (w27 (g + 13) = zar E 46 t2) → (∀ k, k ≠ (g + 12) → k ≠ (g + 13) → k ≠ (g + 10) → w27 k = w0 k) → (bd y1 56 0 9) → (bd r2 58 0 9) → (bd t2 46 0 9) → (-1 ≤ pp ∧ pp ≤ 41) → (0 ≤ S ∧ S < Tp (41 - pp)) → (S * S ≤ Vt xf 56 * Tp (2 * n) / Tp (24 + 2 * pp + 2)) → (Vt xf 56 * Tp (2 * n) / Tp (24 + 2 * pp + 2) < (S + 1) * (S + 1)) → (Vt t2 46 = S) → (Vt r2 58 = Vt xf 56 * Tp (2 * n) / Tp (24 + 2 * pp + 2) - S * S) → (pp + 1 < (fu : Int)) → W p l e rm_M_squareRoot s m a below meth cd H25 lc26 0 0 Qf (F0 m 28 ls []) := by
          intro fu
          induction fu with
          | zero => intro pp S y1 r2 t2 ls H25 lc26 w27 hl hH e28 e29 e30 e31 e32 e33 hf34 by2 br2 bt2 hp hS hS2 hS3 hv2 hr2 hm; exact absurd hm (by omega)
          | succ fu ih28 =>
            intro pp S y1 r2 t2 ls H25 lc26 w27 hl hH e28 e29 e30 e31 e32 e33 hf34 by2 br2 bt2 hp hS hS2 hS3 hv2 hr2 hm
            have sqq := sq1 S
            refine lv_iload_n hx hb d_M_squareRoot_28 rfl (lv_at hl 2 rfl) ?_
            refine zv_if_lt (tgt := 169) hx hb d_M_squareRoot_29 rfl (by omega) (fun h35 => ?_) (fun h35 => ?_)
            · refine lv_aload_n hx hb d_M_squareRoot_169 rfl (lv_at hl 0 rfl) ?_
              refine z_callv (va_runV (As := []) (rest := []) ⟨hx, hb, hml, hown, hts⟩ (c_M_clear (l := l) (E := E) (w0 := w27) (g := g) (ty := ty) (xm := xm) (ym := ym) (ne := ne) (f := f) (q0lt := q0lt) (q1lt := q3lt) (c0 := e28) (c1 := e31) H25.size) (z_cwV (C := "ScaledNumeralDeskModel") 0 hg wm_778 wm_775 wm_9 wm_777 wm_s37 (by decide +kernel) ⟨Nat.le_of_ble_eq_true rfl, Nat.le_of_ble_eq_true rfl⟩) (z_preV (r := ("ScaledNumeralDeskModel", TM, 17)) hK hG hn hH hA q0lt e28 rfl) rfl rfl hl.1 rfl (lv_room (Nat.le_of_ble_eq_true rfl)) d_M_squareRoot_170 ⟨Nat.zero_le _, Nat.zero_le _⟩) hH hA (fun  w38 H36 lc37 hH39 p170 => ?_)
              obtain ⟨⟨f1, e40, e41, p170⟩, hg42⟩ := p170
              replace p170 : ∀ j : Int, 0 ≤ j → j < 140 → f1 j = 0 := p170
              have e43 : w38 (g + 9) = zar E 56 xf := (hg42 (g + 9) (nx_M_squareRoot_5 ) (nx_M_squareRoot_6 )).trans e29
              have e44 : w38 (g + 10) = zar E 56 y1 := (hg42 (g + 10) (nx_M_squareRoot_7 ) (nx_M_squareRoot_8 )).trans e30
              have e45 : w38 (g + 12) = zar E 58 r2 := (hg42 (g + 12) (nx_M_squareRoot_9 ) (nx_M_squareRoot_10 )).trans e32
              have e46 : w38 (g + 13) = zar E 46 t2 := (hg42 (g + 13) (nx_M_squareRoot_11 ) (nx_M_squareRoot_12 )).trans e33
              have hf47 : ∀ k, k ≠ (g + 12) → k ≠ (g + 13) → k ≠ (g + 10) → k ≠ g → k ≠ (g + 11) → w38 k = w0 k := fun k g0 g1 g2 g3 g4 => (hg42 k g3 g4).trans (hf34 k g0 g1 g2)
              refine zv_iconst hx hb d_M_squareRoot_173 ?_
              refine lv_istore_n (lv' := [(2, .int (iI 0)), (0, .ref (ad E g)), (1, .int (iI n))]) hx hb d_M_squareRoot_174 rfl hl (by decide) rfl (fun ls hl => ?_)
              have L175 : ∀ (fu : Nat) (i4 : Int) (h4 : Int → Int) (ls : Array Slot) (H48 : Heap) (lc49 : List Loc) (w50 : zW), (lv_has ls 5 [(0, .ref (ad E g)), (1, .int (iI n)), (2, .int (iI i4))]) → (zH E w50 (va_A (wl E w0) s.heap.size) s.heap H48 lc49) → (w50 g = .inr (6, [.ref (ad E (g + 1)), .ref (ad E (g + 2)), .ref (ad E (g + 3)), .ref (ad E (g + 4)), .int (iI ty), .ref (ad E (g + 5)), .ref (ad E (g + 6)), .ref (ad E (g + 7)), .ref (ad E (g + 8)), .ref (ad E (g + 9)), .ref (ad E (g + 10)), .int (iI xm), .int (iI ym), .ref (ad E (g + 11)), .int (iI 0), .ref (ad E (g + 12)), .ref (ad E (g + 13))])) → (w50 (g + 9) = zar E 56 xf) → (w50 (g + 10) = zar E 56 y1) → (w50 (g + 11) = zar E 140 h4) → (w50 (g + 12) = zar E 58 r2) → (w50 (g + 13) = zar E 46 t2) → (∀ k, k ≠ (g + 12) → k ≠ (g + 13) → k ≠ (g + 10) → k ≠ g → k ≠ (g + 11) → w50 k = w0 k) → (0 ≤ i4 ∧ i4 ≤ 46) → (∀ j : Int, 0 ≤ j → j < i4 → h4 (48 - n + j) = t2 j) → (∀ j : Int, 0 ≤ j → j < 140 → ¬ (48 - n ≤ j ∧ j < 94 - n) → h4 j = 0) → (46 - i4 < (fu : Int)) → W p l e rm_M_squareRoot s m a below meth cd H48 lc49 0 0 Qf (F0 m 175 ls []) := by
                intro fu
                induction fu with
                | zero => intro i4 h4 ls H48 lc49 w50 hl hH e51 e52 e53 e54 e55 e56 hf57 hi4 hk4 hz4 hm; exact absurd hm (by omega)
                | succ fu ih175 =>
                  intro i4 h4 ls H48 lc49 w50 hl hH e51 e52 e53 e54 e55 e56 hf57 hi4 hk4 hz4 hm
                  refine lv_iload_n hx hb d_M_squareRoot_175 rfl (lv_at hl 2 rfl) ?_
                  refine zv_bipush hx hb d_M_squareRoot_176 rfl ?_
                  refine zv_icmp_ge (tgt := 204) hx hb d_M_squareRoot_178 rfl (by omega) (by omega) (fun h58 => ?_) (fun h58 => ?_)
                  · have bh9 : bd h4 140 0 9 := fun j g1 g2 => by
                      by_cases e8 : 48 - n ≤ j ∧ j < 94 - n
                      · have e7 := hk4 (j - (48 - n)) (by omega) (by omega)
                        rw [show 48 - n + (j - (48 - n)) = j by omega] at e7
                        rw [e7]; exact bt2 _ (by omega) (by omega)
                      · rw [hz4 j g1 g2 e8]; decide
                    have p9 : pp = -1 := by omega
                    subst p9
                    rw [show 24 + 2 * (-1 : Int) + 2 = 24 by decide] at hS2 hS3
                    rw [show 41 - (-1 : Int) = 42 by decide] at hS
                    rw [hQ]
                    exact z_vret hx hb hr hlk hH (⟨⟨y1, h4, r2, t2, e51, e53, e54, e55, e56, by2, (by assumption), br2, bt2, ⟨S, hS.1, hS2, hS3, by rw [← hv2]; exact sp_V (n := 46) (by omega) (by omega) (fun j g1 g2 => hz4 j g1 (by omega) (by omega)) (fun j g1 g2 => hz4 j (by omega) g2 (by omega)) (fun j g1 g2 => hk4 j g1 (by omega)), hS.2⟩⟩, (fun k g0 g1 g2 g3 g4 => hf57 k g3 g4 g1 g0 g2)⟩) d_M_squareRoot_204
                  · refine lv_aload_n hx hb d_M_squareRoot_181 rfl (lv_at hl 0 rfl) ?_
                    refine zv_get (C := "ScaledNumeralDeskModel") (T := TM) (N := 17) hx hb hg uM_in hown hK hH q0lt e51 rfl 13 (by decide) (hg _ wm_695) (fun _ h9 => h9) rfl d_M_squareRoot_182 ?_
                    refine zv_bipush hx hb d_M_squareRoot_185 rfl ?_
                    refine lv_iload_n hx hb d_M_squareRoot_187 rfl (lv_at hl 1 rfl) ?_
                    refine zv_isub hx hb d_M_squareRoot_188 ?_
                    refine lv_iload_n hx hb d_M_squareRoot_189 rfl (lv_at hl 2 rfl) ?_
                    refine zv_iadd hx hb d_M_squareRoot_190 ?_
                    refine lv_aload_n hx hb d_M_squareRoot_191 rfl (lv_at hl 0 rfl) ?_
                    refine zv_get (C := "ScaledNumeralDeskModel") (T := TM) (N := 17) hx hb hg uM_in hown hK hH q0lt e51 rfl 16 (by decide) (hg _ wm_698) (fun _ h9 => h9) rfl d_M_squareRoot_192 ?_
                    refine lv_iload_n hx hb d_M_squareRoot_195 rfl (lv_at hl 2 rfl) ?_
                    refine zv_iald hx hb hK hH q5lt e56 (by omega) (by omega) (by omega) d_M_squareRoot_196 ?_
                    have b59 := bt2 i4 (by omega) (by omega)
                    refine zv_iast hx hb hK hH q3lt e54 (by omega) (by omega) (by omega) d_M_squareRoot_197 (fun H61 lc62 w60 hH63 e64 hg65 => ?_)
                    have e66 : w60 g = .inr (6, [.ref (ad E (g + 1)), .ref (ad E (g + 2)), .ref (ad E (g + 3)), .ref (ad E (g + 4)), .int (iI ty), .ref (ad E (g + 5)), .ref (ad E (g + 6)), .ref (ad E (g + 7)), .ref (ad E (g + 8)), .ref (ad E (g + 9)), .ref (ad E (g + 10)), .int (iI xm), .int (iI ym), .ref (ad E (g + 11)), .int (iI 0), .ref (ad E (g + 12)), .ref (ad E (g + 13))]) := (hg65 g (nx_M_squareRoot_13 )).trans e51
                    have e67 : w60 (g + 9) = zar E 56 xf := (hg65 (g + 9) (nx_M_squareRoot_6 )).trans e52
                    have e68 : w60 (g + 10) = zar E 56 y1 := (hg65 (g + 10) (nx_M_squareRoot_8 )).trans e53
                    have e69 : w60 (g + 12) = zar E 58 r2 := (hg65 (g + 12) (nx_M_squareRoot_10 )).trans e55
                    have e70 : w60 (g + 13) = zar E 46 t2 := (hg65 (g + 13) (nx_M_squareRoot_12 )).trans e56
                    have hf71 : ∀ k, k ≠ (g + 12) → k ≠ (g + 13) → k ≠ (g + 10) → k ≠ g → k ≠ (g + 11) → w60 k = w0 k := fun k g0 g1 g2 g3 g4 => (hg65 k g4).trans (hf57 k g0 g1 g2 g3 g4)
                    refine zv_iinc (k := 2) (lv' := [(2, .int (iI (i4 + 1))), (0, .ref (ad E g)), (1, .int (iI n))]) hx hb d_M_squareRoot_198 hl rfl (by decide) rfl (fun ls hl => ?_)
                    refine lv_goto (tgt := 175) hx hb d_M_squareRoot_201 rfl ?_
                    exact ih175  (i4 + 1) (up h4 ((48 - n) + i4) (t2 i4)) _ H61 lc62 w60 (lv_sub hl [1, 2, 0] rfl) hH63 e66 e67 e68 e64 e69 e70 (fun k g0 g1 g2 g3 g4 => hf71 k g0 g1 g2 g3 g4) (by omega) (by intro j g1 g2; by_cases e8 : j = i4; rw [e8, up_at]; rw [up_ne (by omega)]; exact hk4 j g1 (by omega)) (by intro j g1 g2 g3; rw [up_ne (by omega)]; exact hz4 j g1 g2 g3) (by omega)
              exact L175 ((46 - 0 : Int).toNat + 1) 0 f1 _ H36 lc37 w38 (lv_sub hl [1, 2, 0] rfl) hH39 e40 e43 e44 e41 e45 e46 (fun k g0 g1 g2 g3 g4 => hf47 k g0 g1 g2 g3 g4) (by omega) (by intro j g1 g2; omega) (by intro j g1 g2 _; exact p170 j g1 g2) (by omega)
            · refine zv_iconst hx hb d_M_squareRoot_32 ?_
              refine lv_istore_n (lv' := [(3, .int (iI 1)), (0, .ref (ad E g)), (1, .int (iI n)), (2, .int (iI pp))]) hx hb d_M_squareRoot_33 rfl hl (by decide) rfl (fun ls hl => ?_)
              have L34 : ∀ (fu : Nat) (q1 : Int) (r5 : Int → Int) (ls : Array Slot) (H72 : Heap) (lc73 : List Loc) (w74 : zW), (lv_has ls 5 [(0, .ref (ad E g)), (1, .int (iI n)), (2, .int (iI pp)), (3, .int (iI q1))]) → (zH E w74 (va_A (wl E w0) s.heap.size) s.heap H72 lc73) → (w74 g = .inr (6, [.ref (ad E (g + 1)), .ref (ad E (g + 2)), .ref (ad E (g + 3)), .ref (ad E (g + 4)), .int (iI ty), .ref (ad E (g + 5)), .ref (ad E (g + 6)), .ref (ad E (g + 7)), .ref (ad E (g + 8)), .ref (ad E (g + 9)), .ref (ad E (g + 10)), .int (iI xm), .int (iI ym), .ref (ad E (g + 11)), .int (iI ne), .ref (ad E (g + 12)), .ref (ad E (g + 13))])) → (w74 (g + 9) = zar E 56 xf) → (w74 (g + 10) = zar E 56 y1) → (w74 (g + 11) = zar E 140 f) → (w74 (g + 12) = zar E 58 r5) → (w74 (g + 13) = zar E 46 t2) → (∀ k, k ≠ (g + 12) → k ≠ (g + 13) → k ≠ (g + 10) → w74 k = w0 k) → (bd r5 58 0 9) → ((q1 = 1 ∧ Vt r5 58 = Vt xf 56 * Tp (2 * n) / Tp (24 + 2 * pp + q1 + 1) - S * S ∧ Vt r5 58 < Tp 42) ∨ (q1 = 0 ∧ Vt r5 58 = Vt xf 56 * Tp (2 * n) / Tp (24 + 2 * pp + q1 + 1) - 10 * (S * S) ∧ Vt r5 58 < Tp 43) ∨ (q1 = -1 ∧ Vt r5 58 = Vt xf 56 * Tp (2 * n) / Tp (24 + 2 * pp + q1 + 1) - 100 * (S * S) ∧ Vt r5 58 < Tp 44)) → (q1 + 1 < (fu : Int)) → W p l e rm_M_squareRoot s m a below meth cd H72 lc73 0 0 Qf (F0 m 34 ls []) := by
                intro fu
                induction fu with
                | zero => intro q1 r5 ls H72 lc73 w74 hl hH e75 e76 e77 e78 e79 e80 hf81 br5 hq hm; exact absurd hm (by omega)
                | succ fu ih34 =>
                  intro q1 r5 ls H72 lc73 w74 hl hH e75 e76 e77 e78 e79 e80 hf81 br5 hq hm
                  refine lv_iload_n hx hb d_M_squareRoot_34 rfl (lv_at hl 3 rfl) ?_
                  refine zv_if_lt (tgt := 85) hx hb d_M_squareRoot_35 rfl (by omega) (fun h82 => ?_) (fun h82 => ?_)
                  · have s41 : Tp (41 - pp) ≤ Tp 41 := Tp_mono (by omega) (by omega)
                    refine lv_aload_n hx hb d_M_squareRoot_85 rfl (lv_at hl 0 rfl) ?_
                    refine z_callv (va_runV (As := []) (rest := []) ⟨hx, hb, hml, hown, hts⟩ (c_M_twentyfold (l := l) (E := E) (w0 := w74) (g := g) (ty := ty) (xm := xm) (ym := ym) (ne := ne) (yf := y1) (tf := t2) (q0lt := q0lt) (q1lt := q2lt) (q2lt := q5lt) (c0 := e75) (c1 := e77) (c2 := e80) (by1 := by2) (bt := bt2) (hR := (by rw [hv2]; omega)) H72.size) (z_cwV (C := "ScaledNumeralDeskModel") 0 hg wm_931 wm_928 wm_9 wm_930 wm_s70 (by decide +kernel) ⟨Nat.le_of_ble_eq_true rfl, Nat.le_of_ble_eq_true rfl⟩) (z_preV (r := ("ScaledNumeralDeskModel", TM, 17)) hK hG hn hH hA q0lt e75 rfl) rfl rfl hl.1 rfl (lv_room (Nat.le_of_ble_eq_true rfl)) d_M_squareRoot_86 ⟨Nat.zero_le _, Nat.zero_le _⟩) hH hA (fun  w85 H83 lc84 hH86 p86 => ?_)
                    obtain ⟨⟨y2, e87, bd88, p86⟩, hg89⟩ := p86
                    replace bd88 : bd y2 56 0 9 := bd88
                    replace p86 : Vt y2 56 = 20 * Vt t2 46 + 1 := p86
                    have e90 : w85 g = .inr (6, [.ref (ad E (g + 1)), .ref (ad E (g + 2)), .ref (ad E (g + 3)), .ref (ad E (g + 4)), .int (iI ty), .ref (ad E (g + 5)), .ref (ad E (g + 6)), .ref (ad E (g + 7)), .ref (ad E (g + 8)), .ref (ad E (g + 9)), .ref (ad E (g + 10)), .int (iI xm), .int (iI ym), .ref (ad E (g + 11)), .int (iI ne), .ref (ad E (g + 12)), .ref (ad E (g + 13))]) := (hg89 g (nx_M_squareRoot_14 )).trans e75
                    have e91 : w85 (g + 9) = zar E 56 xf := (hg89 (g + 9) (nx_M_squareRoot_15 )).trans e76
                    have e92 : w85 (g + 11) = zar E 140 f := (hg89 (g + 11) (nx_M_squareRoot_16 )).trans e78
                    have e93 : w85 (g + 12) = zar E 58 r5 := (hg89 (g + 12) (nx_M_squareRoot_17 )).trans e79
                    have e94 : w85 (g + 13) = zar E 46 t2 := (hg89 (g + 13) (nx_M_squareRoot_18 )).trans e80
                    have hf95 : ∀ k, k ≠ (g + 12) → k ≠ (g + 13) → k ≠ (g + 10) → w85 k = w0 k := fun k g0 g1 g2 => (hg89 k g2).trans (hf81 k g0 g1 g2)
                    refine zv_iconst hx hb d_M_squareRoot_89 ?_
                    refine lv_istore_n (lv' := [(3, .int (iI 0)), (0, .ref (ad E g)), (1, .int (iI n)), (2, .int (iI pp))]) hx hb d_M_squareRoot_90 rfl hl (by decide) rfl (fun ls hl => ?_)
                    refine zv_iconst hx hb d_M_squareRoot_91 ?_
                    refine lv_istore (lv' := [(4, .int (iI 0)), (3, .int (iI 0)), (0, .ref (ad E g)), (1, .int (iI n)), (2, .int (iI pp))]) hx hb d_M_squareRoot_92 hl (by decide) rfl (fun ls hl => ?_)
                    have L94 : ∀ (fu : Nat) (k : Int) (y4 : Int → Int) (r8 : Int → Int) (ls : Array Slot) (H96 : Heap) (lc97 : List Loc) (w98 : zW), (lv_has ls 5 [(4, .int (iI k)), (3, .int (iI k)), (0, .ref (ad E g)), (1, .int (iI n)), (2, .int (iI pp))]) → (zH E w98 (va_A (wl E w0) s.heap.size) s.heap H96 lc97) → (w98 g = .inr (6, [.ref (ad E (g + 1)), .ref (ad E (g + 2)), .ref (ad E (g + 3)), .ref (ad E (g + 4)), .int (iI ty), .ref (ad E (g + 5)), .ref (ad E (g + 6)), .ref (ad E (g + 7)), .ref (ad E (g + 8)), .ref (ad E (g + 9)), .ref (ad E (g + 10)), .int (iI xm), .int (iI ym), .ref (ad E (g + 11)), .int (iI ne), .ref (ad E (g + 12)), .ref (ad E (g + 13))])) → (w98 (g + 9) = zar E 56 xf) → (w98 (g + 10) = zar E 56 y4) → (w98 (g + 11) = zar E 140 f) → (w98 (g + 12) = zar E 58 r8) → (w98 (g + 13) = zar E 46 t2) → (∀ k, k ≠ (g + 12) → k ≠ (g + 13) → k ≠ (g + 10) → w98 k = w0 k) → (bd y4 56 0 9) → (bd r8 58 0 9) → (0 ≤ k ∧ k ≤ 9) → (Vt r8 58 = Vt xf 56 * Tp (2 * n) / Tp (24 + 2 * pp) - (10 * S + k) * (10 * S + k)) → (Vt y4 56 = 2 * (10 * S + k) + 1) → (0 ≤ Vt r8 58) → (9 - k < (fu : Int)) → W p l e rm_M_squareRoot s m a below meth cd H96 lc97 0 0 Qf (F0 m 94 ls []) := by
                      intro fu
                      induction fu with
                      | zero => intro k y4 r8 ls H96 lc97 w98 hl hH e99 e100 e101 e102 e103 e104 hf105 by4 br8 hk hrk hyk hr0 hm; exact absurd hm (by omega)
                      | succ fu ih94 =>
                        intro k y4 r8 ls H96 lc97 w98 hl hH e99 e100 e101 e102 e103 e104 hf105 by4 br8 hk hrk hyk hr0 hm
                        have sqk := sq1 (10 * S + k)
                        have L125 : ∀  (ls : Array Slot) (H106 : Heap) (lc107 : List Loc), (lv_has ls 5 [(4, .int (iI k)), (3, .int (iI k)), (0, .ref (ad E g)), (1, .int (iI n)), (2, .int (iI pp))]) → (zH E w98 (va_A (wl E w0) s.heap.size) s.heap H106 lc107) → (Vt xf 56 * Tp (2 * n) / Tp (24 + 2 * pp) < (10 * S + k + 1) * (10 * S + k + 1)) → W p l e rm_M_squareRoot s m a below meth cd H106 lc107 0 0 Qf (F0 m 125 ls []) := by
                          intro ls H106 lc107 hl hH hend
                          refine zv_bipush hx hb d_M_squareRoot_125 rfl ?_
                          refine lv_istore (lv' := [(4, .int (iI 45)), (3, .int (iI k)), (0, .ref (ad E g)), (1, .int (iI n)), (2, .int (iI pp))]) hx hb d_M_squareRoot_127 hl (by decide) rfl (fun ls hl => ?_)
                          have L129 : ∀ (fu : Nat) (i3 : Int) (h3 : Int → Int) (ls : Array Slot) (H108 : Heap) (lc109 : List Loc) (w110 : zW), (lv_has ls 5 [(4, .int (iI i3)), (3, .int (iI k)), (0, .ref (ad E g)), (1, .int (iI n)), (2, .int (iI pp))]) → (zH E w110 (va_A (wl E w0) s.heap.size) s.heap H108 lc109) → (w110 g = .inr (6, [.ref (ad E (g + 1)), .ref (ad E (g + 2)), .ref (ad E (g + 3)), .ref (ad E (g + 4)), .int (iI ty), .ref (ad E (g + 5)), .ref (ad E (g + 6)), .ref (ad E (g + 7)), .ref (ad E (g + 8)), .ref (ad E (g + 9)), .ref (ad E (g + 10)), .int (iI xm), .int (iI ym), .ref (ad E (g + 11)), .int (iI ne), .ref (ad E (g + 12)), .ref (ad E (g + 13))])) → (w110 (g + 9) = zar E 56 xf) → (w110 (g + 10) = zar E 56 y4) → (w110 (g + 11) = zar E 140 f) → (w110 (g + 12) = zar E 58 r8) → (w110 (g + 13) = zar E 46 h3) → (∀ k, k ≠ (g + 12) → k ≠ (g + 13) → k ≠ (g + 10) → w110 k = w0 k) → (bd h3 46 0 9) → (0 ≤ i3 ∧ i3 ≤ 45) → (∀ j : Int, i3 < j → j < 46 → h3 j = t2 (j - 1)) → (∀ j : Int, 0 ≤ j → j ≤ i3 → h3 j = t2 j) → (i3 < (fu : Int)) → W p l e rm_M_squareRoot s m a below meth cd H108 lc109 0 0 Qf (F0 m 129 ls []) := by
                            intro fu
                            induction fu with
                            | zero => intro i3 h3 ls H108 lc109 w110 hl hH e111 e112 e113 e114 e115 e116 hf117 bh3 hi3 hkk huu hm; exact absurd hm (by omega)
                            | succ fu ih129 =>
                              intro i3 h3 ls H108 lc109 w110 hl hH e111 e112 e113 e114 e115 e116 hf117 bh3 hi3 hkk huu hm
                              refine lv_iload hx hb d_M_squareRoot_129 (lv_at hl 0 rfl) ?_
                              refine zv_if_le (tgt := 156) hx hb d_M_squareRoot_131 rfl (by omega) (fun h118 => ?_) (fun h118 => ?_)
                              · have hkk0 : ∀ j : Int, 0 < j → j < 46 → h3 j = t2 (j - 1) := fun j g1 g2 => hkk j (by omega) g2
                                refine lv_aload_n hx hb d_M_squareRoot_156 rfl (lv_at hl 2 rfl) ?_
                                refine zv_get (C := "ScaledNumeralDeskModel") (T := TM) (N := 17) hx hb hg uM_in hown hK hH q0lt e111 rfl 16 (by decide) (hg _ wm_698) (fun _ h9 => h9) rfl d_M_squareRoot_157 ?_
                                refine zv_iconst hx hb d_M_squareRoot_160 ?_
                                refine lv_iload_n hx hb d_M_squareRoot_161 rfl (lv_at hl 1 rfl) ?_
                                refine zv_iast hx hb hK hH q5lt e116 (by omega) (by omega) (by omega) d_M_squareRoot_162 (fun H120 lc121 w119 hH122 e123 hg124 => ?_)
                                have bd125 := bd_up bh3 0 k (by omega)
                                have e126 : w119 g = .inr (6, [.ref (ad E (g + 1)), .ref (ad E (g + 2)), .ref (ad E (g + 3)), .ref (ad E (g + 4)), .int (iI ty), .ref (ad E (g + 5)), .ref (ad E (g + 6)), .ref (ad E (g + 7)), .ref (ad E (g + 8)), .ref (ad E (g + 9)), .ref (ad E (g + 10)), .int (iI xm), .int (iI ym), .ref (ad E (g + 11)), .int (iI ne), .ref (ad E (g + 12)), .ref (ad E (g + 13))]) := (hg124 g (nx_M_squareRoot_19 )).trans e111
                                have e127 : w119 (g + 9) = zar E 56 xf := (hg124 (g + 9) (nx_M_squareRoot_20 )).trans e112
                                have e128 : w119 (g + 10) = zar E 56 y4 := (hg124 (g + 10) (nx_M_squareRoot_21 )).trans e113
                                have e129 : w119 (g + 11) = zar E 140 f := (hg124 (g + 11) (nx_M_squareRoot_22 )).trans e114
                                have e130 : w119 (g + 12) = zar E 58 r8 := (hg124 (g + 12) (nx_M_squareRoot_23 )).trans e115
                                have hf131 : ∀ k, k ≠ (g + 12) → k ≠ (g + 13) → k ≠ (g + 10) → w119 k = w0 k := fun k g0 g1 g2 => (hg124 k g1).trans (hf117 k g0 g1 g2)
                                refine zv_iinc (k := 4) (lv' := [(2, .int (iI (pp + (-1)))), (4, .int (iI i3)), (3, .int (iI k)), (0, .ref (ad E g)), (1, .int (iI n))]) hx hb d_M_squareRoot_163 hl rfl (by decide) rfl (fun ls hl => ?_)
                                refine lv_goto (tgt := 28) hx hb d_M_squareRoot_166 rfl ?_
                                exact ih28  (pp + (-1)) (10 * S + k) y4 r8 (up h3 0 k) _ H120 lc121 w119 (lv_sub hl [3, 4, 0] rfl) hH122 e126 e127 e128 e129 e130 e123 (fun k g0 g1 g2 => hf131 k g0 g1 g2) (by assumption) (by assumption) (by assumption) (by omega) (by exact ⟨by omega, by rw [show 41 - (pp + (-1)) = 41 - pp + 1 by omega, Tp_s (by omega)]; omega⟩) (by rw [show 24 + 2 * (pp + (-1)) + 2 = 24 + 2 * pp by omega]; omega) (by rw [show 24 + 2 * (pp + (-1)) + 2 = 24 + 2 * pp by omega]; exact hend) (by rw [sh_V bt2 (by rw [hv2]; omega) hkk0, hv2]) (by rw [show 24 + 2 * (pp + (-1)) + 2 = 24 + 2 * pp by omega]; exact hrk) (by omega)
                              · refine lv_aload_n hx hb d_M_squareRoot_134 rfl (lv_at hl 2 rfl) ?_
                                refine zv_get (C := "ScaledNumeralDeskModel") (T := TM) (N := 17) hx hb hg uM_in hown hK hH q0lt e111 rfl 16 (by decide) (hg _ wm_698) (fun _ h9 => h9) rfl d_M_squareRoot_135 ?_
                                refine lv_iload hx hb d_M_squareRoot_138 (lv_at hl 0 rfl) ?_
                                refine lv_aload_n hx hb d_M_squareRoot_140 rfl (lv_at hl 2 rfl) ?_
                                refine zv_get (C := "ScaledNumeralDeskModel") (T := TM) (N := 17) hx hb hg uM_in hown hK hH q0lt e111 rfl 16 (by decide) (hg _ wm_698) (fun _ h9 => h9) rfl d_M_squareRoot_141 ?_
                                refine lv_iload hx hb d_M_squareRoot_144 (lv_at hl 0 rfl) ?_
                                refine zv_iconst hx hb d_M_squareRoot_146 ?_
                                refine zv_isub hx hb d_M_squareRoot_147 ?_
                                refine zv_iald hx hb hK hH q5lt e116 (by omega) (by omega) (by omega) d_M_squareRoot_148 ?_
                                have b132 := bh3 (i3 - 1) (by omega) (by omega)
                                refine zv_iast hx hb hK hH q5lt e116 (by omega) (by omega) (by omega) d_M_squareRoot_149 (fun H134 lc135 w133 hH136 e137 hg138 => ?_)
                                have bd139 := bd_up bh3 i3 (h3 (i3 - 1)) (by omega)
                                have e140 : w133 g = .inr (6, [.ref (ad E (g + 1)), .ref (ad E (g + 2)), .ref (ad E (g + 3)), .ref (ad E (g + 4)), .int (iI ty), .ref (ad E (g + 5)), .ref (ad E (g + 6)), .ref (ad E (g + 7)), .ref (ad E (g + 8)), .ref (ad E (g + 9)), .ref (ad E (g + 10)), .int (iI xm), .int (iI ym), .ref (ad E (g + 11)), .int (iI ne), .ref (ad E (g + 12)), .ref (ad E (g + 13))]) := (hg138 g (nx_M_squareRoot_19 )).trans e111
                                have e141 : w133 (g + 9) = zar E 56 xf := (hg138 (g + 9) (nx_M_squareRoot_20 )).trans e112
                                have e142 : w133 (g + 10) = zar E 56 y4 := (hg138 (g + 10) (nx_M_squareRoot_21 )).trans e113
                                have e143 : w133 (g + 11) = zar E 140 f := (hg138 (g + 11) (nx_M_squareRoot_22 )).trans e114
                                have e144 : w133 (g + 12) = zar E 58 r8 := (hg138 (g + 12) (nx_M_squareRoot_23 )).trans e115
                                have hf145 : ∀ k, k ≠ (g + 12) → k ≠ (g + 13) → k ≠ (g + 10) → w133 k = w0 k := fun k g0 g1 g2 => (hg138 k g1).trans (hf117 k g0 g1 g2)
                                refine zv_iinc (k := 0) (lv' := [(4, .int (iI (i3 + (-1)))), (3, .int (iI k)), (0, .ref (ad E g)), (1, .int (iI n)), (2, .int (iI pp))]) hx hb d_M_squareRoot_150 hl rfl (by decide) rfl (fun ls hl => ?_)
                                refine lv_goto (tgt := 129) hx hb d_M_squareRoot_153 rfl ?_
                                exact ih129  (i3 + (-1)) (up h3 i3 (h3 (i3 - 1))) _ H134 lc135 w133 (lv_sub hl [0, 1, 2, 3, 4] rfl) hH136 e140 e141 e142 e143 e144 e137 (fun k g0 g1 g2 => hf145 k g0 g1 g2) (by assumption) (by omega) (by intro j g1 g2; by_cases e8 : j = i3; rw [e8, up_at]; exact huu (i3 - 1) (by omega) (by omega); rw [up_ne e8]; exact hkk j (by omega) g2) (by intro j g1 g2; rw [up_ne (by omega)]; exact huu j g1 (by omega)) (by omega)
                          exact L129 ((45 : Int).toNat + 1) 45 t2 _ H106 lc107 w98 (lv_sub hl [0, 1, 2, 3, 4] rfl) hH e99 e100 e101 e102 e103 e104 (fun k g0 g1 g2 => hf105 k g0 g1 g2) (by exact bt2) (by omega) (by intro j g1 g2; omega) (by intro j _ _; rfl) (by omega)
                        refine lv_iload hx hb d_M_squareRoot_94 (lv_at hl 0 rfl) ?_
                        refine zv_bipush hx hb d_M_squareRoot_96 rfl ?_
                        refine zv_icmp_ge (tgt := 125) hx hb d_M_squareRoot_98 rfl (by omega) (by omega) (fun h146 => ?_) (fun h146 => ?_)
                        · have hend : Vt xf 56 * Tp (2 * n) / Tp (24 + 2 * pp) < (10 * S + k + 1) * (10 * S + k + 1) := by
                            have k9 : k = 9 := by omega
                            rw [k9]
                            exact rt10 hS3 (rt_pair (by omega)).2
                          exact L125 _ H96 lc97 (lv_sub hl [0, 1, 2, 3, 4] rfl) hH (by exact hend)
                        · refine lv_aload_n hx hb d_M_squareRoot_101 rfl (lv_at hl 2 rfl) ?_
                          refine z_calli (va_runV (As := []) (rest := []) ⟨hx, hb, hml, hown, hts⟩ (c_M_holdsY (l := l) (E := E) (w0 := w98) (g := g) (ty := ty) (xm := xm) (ym := ym) (ne := ne) (rf := r8) (yf := y4) (q0lt := q0lt) (q1lt := q4lt) (q2lt := q2lt) (c0 := e99) (c1 := e103) (c2 := e101) (br := br8) (by1 := by4) H96.size) (z_cwV (C := "ScaledNumeralDeskModel") 0 hg wm_903 wm_900 wm_9 wm_902 wm_s64 (by decide +kernel) ⟨Nat.le_of_ble_eq_true rfl, Nat.le_of_ble_eq_true rfl⟩) (z_preV (r := ("ScaledNumeralDeskModel", TM, 17)) hK hG hn hH hA q0lt e99 rfl) rfl rfl hl.1 rfl (lv_room (Nat.le_of_ble_eq_true rfl)) d_M_squareRoot_102 ⟨Nat.zero_le _, Nat.zero_le _⟩) hH hA (fun z102 w149 H147 lc148 hH150 p102 => ?_)
                          obtain ⟨ew151, p102⟩ := p102
                          rw [ew151] at hH150
                          replace p102 : (z102 = 1 ∧ Vt y4 56 ≤ Vt r8 58) ∨ (z102 = 0 ∧ Vt r8 58 < Vt y4 56) := p102
                          refine zv_if_eq (tgt := 125) hx hb d_M_squareRoot_105 rfl (by omega) (fun h152 => ?_) (fun h152 => ?_)
                          · have hend : Vt xf 56 * Tp (2 * n) / Tp (24 + 2 * pp) < (10 * S + k + 1) * (10 * S + k + 1) := by rw [sqk]; omega
                            exact L125 _ H147 lc148 (lv_sub hl [0, 1, 2, 3, 4] rfl) hH150 (by exact hend)
                          · have hle9 : Vt y4 56 ≤ Vt r8 58 := by omega
                            refine lv_aload_n hx hb d_M_squareRoot_108 rfl (lv_at hl 2 rfl) ?_
                            refine z_callv (va_runV (As := []) (rest := []) ⟨hx, hb, hml, hown, hts⟩ (c_M_subtractY (l := l) (E := E) (w0 := w98) (g := g) (ty := ty) (xm := xm) (ym := ym) (ne := ne) (rf := r8) (yf := y4) (q0lt := q0lt) (q1lt := q4lt) (q2lt := q2lt) (c0 := e99) (c1 := e103) (c2 := e101) (br := br8) (by1 := by4) (hle := hle9) H147.size) (z_cwV (C := "ScaledNumeralDeskModel") 0 hg wm_907 wm_904 wm_9 wm_906 wm_s65 (by decide +kernel) ⟨Nat.le_of_ble_eq_true rfl, Nat.le_of_ble_eq_true rfl⟩) (z_preV (r := ("ScaledNumeralDeskModel", TM, 17)) hK hG hn hH150 hA q0lt e99 rfl) rfl rfl hl.1 rfl (lv_room (Nat.le_of_ble_eq_true rfl)) d_M_squareRoot_109 ⟨Nat.zero_le _, Nat.zero_le _⟩) hH150 hA (fun  w155 H153 lc154 hH156 p109 => ?_)
                            obtain ⟨⟨r7, e157, bd158, p109⟩, hg159⟩ := p109
                            replace bd158 : bd r7 58 0 9 := bd158
                            replace p109 : Vt r7 58 = Vt r8 58 - Vt y4 56 := p109
                            have e160 : w155 g = .inr (6, [.ref (ad E (g + 1)), .ref (ad E (g + 2)), .ref (ad E (g + 3)), .ref (ad E (g + 4)), .int (iI ty), .ref (ad E (g + 5)), .ref (ad E (g + 6)), .ref (ad E (g + 7)), .ref (ad E (g + 8)), .ref (ad E (g + 9)), .ref (ad E (g + 10)), .int (iI xm), .int (iI ym), .ref (ad E (g + 11)), .int (iI ne), .ref (ad E (g + 12)), .ref (ad E (g + 13))]) := (hg159 g (nx_M_squareRoot_0 )).trans e99
                            have e161 : w155 (g + 9) = zar E 56 xf := (hg159 (g + 9) (nx_M_squareRoot_1 )).trans e100
                            have e162 : w155 (g + 10) = zar E 56 y4 := (hg159 (g + 10) (nx_M_squareRoot_2 )).trans e101
                            have e163 : w155 (g + 11) = zar E 140 f := (hg159 (g + 11) (nx_M_squareRoot_3 )).trans e102
                            have e164 : w155 (g + 13) = zar E 46 t2 := (hg159 (g + 13) (nx_M_squareRoot_4 )).trans e104
                            have hf165 : ∀ k, k ≠ (g + 12) → k ≠ (g + 13) → k ≠ (g + 10) → w155 k = w0 k := fun k g0 g1 g2 => (hg159 k g0).trans (hf105 k g0 g1 g2)
                            refine lv_aload_n hx hb d_M_squareRoot_112 rfl (lv_at hl 2 rfl) ?_
                            refine z_callv (va_runV (As := []) (rest := []) ⟨hx, hb, hml, hown, hts⟩ (c_M_twoMore (l := l) (E := E) (w0 := w155) (g := g) (ty := ty) (xm := xm) (ym := ym) (ne := ne) (yf := y4) (q0lt := q0lt) (q1lt := q2lt) (c0 := e160) (c1 := e162) (by1 := by4) (hY := (by rw [hyk]; omega)) H153.size) (z_cwV (C := "ScaledNumeralDeskModel") 0 hg wm_935 wm_932 wm_9 wm_934 wm_s71 (by decide +kernel) ⟨Nat.le_of_ble_eq_true rfl, Nat.le_of_ble_eq_true rfl⟩) (z_preV (r := ("ScaledNumeralDeskModel", TM, 17)) hK hG hn hH156 hA q0lt e160 rfl) rfl rfl hl.1 rfl (lv_room (Nat.le_of_ble_eq_true rfl)) d_M_squareRoot_113 ⟨Nat.zero_le _, Nat.zero_le _⟩) hH156 hA (fun  w168 H166 lc167 hH169 p113 => ?_)
                            obtain ⟨⟨y3, e170, bd171, p113⟩, hg172⟩ := p113
                            replace bd171 : bd y3 56 0 9 := bd171
                            replace p113 : Vt y3 56 = Vt y4 56 + 2 := p113
                            have e173 : w168 g = .inr (6, [.ref (ad E (g + 1)), .ref (ad E (g + 2)), .ref (ad E (g + 3)), .ref (ad E (g + 4)), .int (iI ty), .ref (ad E (g + 5)), .ref (ad E (g + 6)), .ref (ad E (g + 7)), .ref (ad E (g + 8)), .ref (ad E (g + 9)), .ref (ad E (g + 10)), .int (iI xm), .int (iI ym), .ref (ad E (g + 11)), .int (iI ne), .ref (ad E (g + 12)), .ref (ad E (g + 13))]) := (hg172 g (nx_M_squareRoot_14 )).trans e160
                            have e174 : w168 (g + 9) = zar E 56 xf := (hg172 (g + 9) (nx_M_squareRoot_15 )).trans e161
                            have e175 : w168 (g + 11) = zar E 140 f := (hg172 (g + 11) (nx_M_squareRoot_16 )).trans e163
                            have e176 : w168 (g + 12) = zar E 58 r7 := (hg172 (g + 12) (nx_M_squareRoot_17 )).trans e157
                            have e177 : w168 (g + 13) = zar E 46 t2 := (hg172 (g + 13) (nx_M_squareRoot_18 )).trans e164
                            have hf178 : ∀ k, k ≠ (g + 12) → k ≠ (g + 13) → k ≠ (g + 10) → w168 k = w0 k := fun k g0 g1 g2 => (hg172 k g2).trans (hf165 k g0 g1 g2)
                            refine zv_iinc (k := 1) (lv' := [(3, .int (iI (k + 1))), (4, .int (iI k)), (0, .ref (ad E g)), (1, .int (iI n)), (2, .int (iI pp))]) hx hb d_M_squareRoot_116 hl rfl (by decide) rfl (fun ls hl => ?_)
                            refine zv_iinc (k := 1) (lv' := [(4, .int (iI (k + 1))), (3, .int (iI (k + 1))), (0, .ref (ad E g)), (1, .int (iI n)), (2, .int (iI pp))]) hx hb d_M_squareRoot_119 hl rfl (by decide) rfl (fun ls hl => ?_)
                            refine lv_goto (tgt := 94) hx hb d_M_squareRoot_122 rfl ?_
                            exact ih94  (k + 1) y3 r7 _ H166 lc167 w168 (lv_sub hl [0, 1, 2, 3, 4] rfl) hH169 e173 e174 e170 e175 e176 e177 (fun k g0 g1 g2 => hf178 k g0 g1 g2) (by assumption) (by assumption) (by omega) (by rw [p109, hrk, hyk, show 10 * S + (k + 1) = 10 * S + k + 1 by omega, sqk]; omega) (by rw [p113, hyk]; omega) (by rw [p109]; omega) (by omega)
                    have hq0 : Vt r5 58 = Vt xf 56 * Tp (2 * n) / Tp (24 + 2 * pp) - 100 * (S * S) := by
                      have q9 : q1 = -1 := by omega
                      rw [q9, show 24 + 2 * pp + (-1) + 1 = 24 + 2 * pp by omega] at hq
                      omega
                    have vr5 := Vt_in br5 (show (0 : Int) ≤ 58 by decide) (Int.le_refl 58)
                    exact L94 ((9 - 0 : Int).toNat + 1) 0 y2 r5 _ H83 lc84 w85 (lv_sub hl [0, 1, 2, 3, 4] rfl) hH86 e90 e91 e87 e92 e93 e94 (fun k g0 g1 g2 => hf95 k g0 g1 g2) (by assumption) (by exact br5) (by omega) (by rw [hq0, sq10]) (by rw [p86, hv2]; omega) (by exact vr5.1) (by omega)
                  · have hq2 := hq
                    refine zv_iconst hx hb d_M_squareRoot_38 ?_
                    refine lv_iload_n hx hb d_M_squareRoot_39 rfl (lv_at hl 2 rfl) ?_
                    refine zv_imul hx hb d_M_squareRoot_40 ?_
                    refine lv_iload_n hx hb d_M_squareRoot_41 rfl (lv_at hl 3 rfl) ?_
                    refine zv_iadd hx hb d_M_squareRoot_42 ?_
                    refine zv_bipush hx hb d_M_squareRoot_43 rfl ?_
                    refine zv_iadd hx hb d_M_squareRoot_45 ?_
                    refine zv_iconst hx hb d_M_squareRoot_46 ?_
                    refine lv_iload_n hx hb d_M_squareRoot_47 rfl (lv_at hl 1 rfl) ?_
                    refine zv_imul hx hb d_M_squareRoot_48 ?_
                    refine zv_isub hx hb d_M_squareRoot_49 ?_
                    refine lv_istore (lv' := [(4, .int (iI ((((2 * pp) + q1) + 24) - (2 * n)))), (0, .ref (ad E g)), (1, .int (iI n)), (2, .int (iI pp)), (3, .int (iI q1))]) hx hb d_M_squareRoot_50 hl (by decide) rfl (fun ls hl => ?_)
                    refine lv_aload_n hx hb d_M_squareRoot_52 rfl (lv_at hl 1 rfl) ?_
                    have L76 : ∀ (dx : Int) (ls : Array Slot) (H179 : Heap) (lc180 : List Loc), (lv_has ls 5 [(0, .ref (ad E g)), (1, .int (iI n)), (2, .int (iI pp)), (3, .int (iI q1))]) → (zH E w74 (va_A (wl E w0) s.heap.size) s.heap H179 lc180) → (Vt xf 56 * Tp (2 * n) / Tp (24 + 2 * pp + q1) = 10 * (Vt xf 56 * Tp (2 * n) / Tp (24 + 2 * pp + q1 + 1)) + dx) → (0 ≤ dx ∧ dx ≤ 9) → W p l e rm_M_squareRoot s m a below meth cd H179 lc180 0 0 Qf (F0 m 76 ls [.int (iI dx), .ref (ad E g)]) := by
                      intro dx ls H179 lc180 hl hH hdx hdr
                      refine z_callv (va_runV (As := [.int (iI dx)]) (rest := []) ⟨hx, hb, hml, hown, hts⟩ (c_M_bring (l := l) (E := E) (w0 := w74) (g := g) (ty := ty) (xm := xm) (ym := ym) (ne := ne) (rf := r5) (dg := dx) (q0lt := q0lt) (q1lt := q4lt) (c0 := e75) (c1 := e79) (br := br5) (hdg := by omega) (h57 := (by omega)) H179.size) (z_cwV (C := "ScaledNumeralDeskModel") 1 hg wm_899 wm_896 wm_9 wm_898 wm_s63 (by decide +kernel) ⟨Nat.le_of_ble_eq_true rfl, Nat.le_of_ble_eq_true rfl⟩) (z_preV (r := ("ScaledNumeralDeskModel", TM, 17)) hK hG hn hH hA q0lt e75 rfl) rfl rfl hl.1 rfl (lv_room (Nat.le_of_ble_eq_true rfl)) d_M_squareRoot_76 ⟨Nat.zero_le _, Nat.zero_le _⟩) hH hA (fun  w183 H181 lc182 hH184 p76 => ?_)
                      obtain ⟨⟨r6, e185, bd186, p76⟩, hg187⟩ := p76
                      replace bd186 : bd r6 58 0 9 := bd186
                      replace p76 : Vt r6 58 = 10 * Vt r5 58 + dx := p76
                      have e188 : w183 g = .inr (6, [.ref (ad E (g + 1)), .ref (ad E (g + 2)), .ref (ad E (g + 3)), .ref (ad E (g + 4)), .int (iI ty), .ref (ad E (g + 5)), .ref (ad E (g + 6)), .ref (ad E (g + 7)), .ref (ad E (g + 8)), .ref (ad E (g + 9)), .ref (ad E (g + 10)), .int (iI xm), .int (iI ym), .ref (ad E (g + 11)), .int (iI ne), .ref (ad E (g + 12)), .ref (ad E (g + 13))]) := (hg187 g (nx_M_squareRoot_0 )).trans e75
                      have e189 : w183 (g + 9) = zar E 56 xf := (hg187 (g + 9) (nx_M_squareRoot_1 )).trans e76
                      have e190 : w183 (g + 10) = zar E 56 y1 := (hg187 (g + 10) (nx_M_squareRoot_2 )).trans e77
                      have e191 : w183 (g + 11) = zar E 140 f := (hg187 (g + 11) (nx_M_squareRoot_3 )).trans e78
                      have e192 : w183 (g + 13) = zar E 46 t2 := (hg187 (g + 13) (nx_M_squareRoot_4 )).trans e80
                      have hf193 : ∀ k, k ≠ (g + 12) → k ≠ (g + 13) → k ≠ (g + 10) → w183 k = w0 k := fun k g0 g1 g2 => (hg187 k g0).trans (hf81 k g0 g1 g2)
                      refine zv_iinc (k := 3) (lv' := [(3, .int (iI (q1 + (-1)))), (0, .ref (ad E g)), (1, .int (iI n)), (2, .int (iI pp))]) hx hb d_M_squareRoot_79 hl rfl (by decide) rfl (fun ls hl => ?_)
                      refine lv_goto (tgt := 34) hx hb d_M_squareRoot_82 rfl ?_
                      skip
                      exact ih34  (q1 + (-1)) r6 _ H181 lc182 w183 (lv_sub hl [1, 2, 3, 0] rfl) hH184 e188 e189 e190 e191 e185 e192 (fun k g0 g1 g2 => hf193 k g0 g1 g2) (by assumption) (by rw [show 24 + 2 * pp + (q1 + (-1)) + 1 = 24 + 2 * pp + q1 by omega, p76, hdx]; omega) (by omega)
                    refine lv_iload hx hb d_M_squareRoot_53 (lv_at hl 0 rfl) ?_
                    refine zv_if_lt (tgt := 75) hx hb d_M_squareRoot_55 rfl (by omega) (fun h194 => ?_) (fun h194 => ?_)
                    · refine zv_iconst hx hb d_M_squareRoot_75 ?_
                      exact L76 0 _ H72 lc73 (lv_sub hl [1, 2, 3, 4] rfl) hH (by first | (rw [(qd_dig bx (n := 2 * n) (i := 24 + 2 * pp + q1) (by omega) (by omega) (by omega)).1 (by omega)]; exact congrArg (fun u => 10 * (Vt xf 56 * Tp (2 * n) / Tp (24 + 2 * pp + q1 + 1)) + xf u) (by omega)) | (rw [(qd_dig bx (n := 2 * n) (i := 24 + 2 * pp + q1) (by omega) (by omega) (by omega)).2 (by omega)]; omega) | (rw [qd_hi bx (by omega) (by omega), qd_hi bx (by omega) (by omega)]; decide)) (by omega)
                    · refine lv_iload hx hb d_M_squareRoot_58 (lv_at hl 0 rfl) ?_
                      refine zv_bipush hx hb d_M_squareRoot_60 rfl ?_
                      refine zv_icmp_ge (tgt := 75) hx hb d_M_squareRoot_62 rfl (by omega) (by omega) (fun h195 => ?_) (fun h195 => ?_)
                      · refine zv_iconst hx hb d_M_squareRoot_75 ?_
                        exact L76 0 _ H72 lc73 (lv_sub hl [1, 2, 3, 4] rfl) hH (by first | (rw [(qd_dig bx (n := 2 * n) (i := 24 + 2 * pp + q1) (by omega) (by omega) (by omega)).1 (by omega)]; exact congrArg (fun u => 10 * (Vt xf 56 * Tp (2 * n) / Tp (24 + 2 * pp + q1 + 1)) + xf u) (by omega)) | (rw [(qd_dig bx (n := 2 * n) (i := 24 + 2 * pp + q1) (by omega) (by omega) (by omega)).2 (by omega)]; omega) | (rw [qd_hi bx (by omega) (by omega), qd_hi bx (by omega) (by omega)]; decide)) (by omega)
                      · refine lv_aload_n hx hb d_M_squareRoot_65 rfl (lv_at hl 1 rfl) ?_
                        refine zv_get (C := "ScaledNumeralDeskModel") (T := TM) (N := 17) hx hb hg uM_in hown hK hH q0lt e75 rfl 9 (by decide) (hg _ wm_691) (fun _ h9 => h9) rfl d_M_squareRoot_66 ?_
                        refine lv_iload hx hb d_M_squareRoot_69 (lv_at hl 0 rfl) ?_
                        refine zv_iald hx hb hK hH q1lt e76 (by omega) (by omega) (by omega) d_M_squareRoot_71 ?_
                        have b196 := bx ((((2 * pp) + q1) + 24) - (2 * n)) (by omega) (by omega)
                        refine lv_goto (tgt := 76) hx hb d_M_squareRoot_72 rfl ?_
                        exact L76 (xf ((((2 * pp) + q1) + 24) - (2 * n))) _ H72 lc73 (lv_sub hl [1, 2, 3, 4] rfl) hH (by first | (rw [(qd_dig bx (n := 2 * n) (i := 24 + 2 * pp + q1) (by omega) (by omega) (by omega)).1 (by omega)]; exact congrArg (fun u => 10 * (Vt xf 56 * Tp (2 * n) / Tp (24 + 2 * pp + q1 + 1)) + xf u) (by omega)) | (rw [(qd_dig bx (n := 2 * n) (i := 24 + 2 * pp + q1) (by omega) (by omega) (by omega)).2 (by omega)]; omega) | (rw [qd_hi bx (by omega) (by omega), qd_hi bx (by omega) (by omega)]; decide)) (by omega)
              have s41 : Tp (41 - pp) ≤ Tp 41 := Tp_mono (by omega) (by omega)
              exact L34 ((1 + 1 : Int).toNat + 1) 1 r2 _ H25 lc26 w27 (lv_sub hl [1, 2, 3, 0] rfl) hH e28 e29 e30 e31 e32 e33 (fun k g0 g1 g2 => hf34 k g0 g1 g2) (by exact br2) (by refine Or.inl ⟨rfl, ?_, ?_⟩; rw [show 24 + 2 * pp + 1 + 1 = 24 + 2 * pp + 2 by omega]; exact hr2; omega) (by omega)
        exact L28 ((41 + 1 : Int).toNat + 1) 41 0 yf r1 h _ H14 lc15 w16 (lv_sub hl [1, 2, 0] rfl) hH e17 e18 e19 e20 e21 e22 (fun k g0 g1 g2 => hf23 k g0 g1) (by exact by1) (by assumption) (by intro j g1 g2; rw [hz j g1 (by omega)]; decide) (by omega) (by exact ⟨by decide, by decide⟩) (by rw [qd_hi bx (by omega) (by omega)]; decide) (by rw [qd_hi bx (by omega) (by omega)]; decide) (by exact Vt_zero (by decide) (fun j g1 g2 => hz j g1 (by omega))) (by rw [p1, qd_hi bx (by omega) (by omega)]; decide) (by omega)
      · refine lv_aload_n hx hb d_M_squareRoot_12 rfl (lv_at hl 0 rfl) ?_
        refine zv_get (C := "ScaledNumeralDeskModel") (T := TM) (N := 17) hx hb hg uM_in hown hK hH q0lt e17 rfl 16 (by decide) (hg _ wm_698) (fun _ h9 => h9) rfl d_M_squareRoot_13 ?_
        refine lv_iload_n hx hb d_M_squareRoot_16 rfl (lv_at hl 2 rfl) ?_
        refine zv_iconst hx hb d_M_squareRoot_17 ?_
        refine zv_iast hx hb hK hH q5lt e22 (by omega) (by omega) (by omega) d_M_squareRoot_18 (fun H198 lc199 w197 hH200 e201 hg202 => ?_)
        have e203 : w197 g = .inr (6, [.ref (ad E (g + 1)), .ref (ad E (g + 2)), .ref (ad E (g + 3)), .ref (ad E (g + 4)), .int (iI ty), .ref (ad E (g + 5)), .ref (ad E (g + 6)), .ref (ad E (g + 7)), .ref (ad E (g + 8)), .ref (ad E (g + 9)), .ref (ad E (g + 10)), .int (iI xm), .int (iI ym), .ref (ad E (g + 11)), .int (iI ne), .ref (ad E (g + 12)), .ref (ad E (g + 13))]) := (hg202 g (nx_M_squareRoot_19 )).trans e17
        have e204 : w197 (g + 9) = zar E 56 xf := (hg202 (g + 9) (nx_M_squareRoot_20 )).trans e18
        have e205 : w197 (g + 10) = zar E 56 yf := (hg202 (g + 10) (nx_M_squareRoot_21 )).trans e19
        have e206 : w197 (g + 11) = zar E 140 f := (hg202 (g + 11) (nx_M_squareRoot_22 )).trans e20
        have e207 : w197 (g + 12) = zar E 58 r1 := (hg202 (g + 12) (nx_M_squareRoot_23 )).trans e21
        have hf208 : ∀ k, k ≠ (g + 12) → k ≠ (g + 13) → w197 k = w0 k := fun k g0 g1 => (hg202 k g1).trans (hf23 k g0 g1)
        refine zv_iinc (k := 2) (lv' := [(2, .int (iI (i + 1))), (0, .ref (ad E g)), (1, .int (iI n))]) hx hb d_M_squareRoot_19 hl rfl (by decide) rfl (fun ls hl => ?_)
        refine lv_goto (tgt := 6) hx hb d_M_squareRoot_22 rfl ?_
        exact ih  (i + 1) (up h i 0) _ H198 lc199 w197 (lv_sub hl [1, 2, 0] rfl) hH200 e203 e204 e205 e206 e207 e201 (fun k g0 g1 => hf208 k g0 g1) (by omega) (v_step hz) (by omega)
  exact L6 ((46 - 0 : Int).toNat + 1) 0 tf _ H1 lc2 w3 (lv_sub hl [1, 2, 0] rfl) hH4 e8 e9 e10 e11 e5 e12 (fun k g0 g1 => hf13 k g0) (by omega) (by intro j g1 g2; omega) (by omega)
