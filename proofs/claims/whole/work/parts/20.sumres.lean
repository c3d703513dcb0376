def rm_S_result : Room := { frames := 5, cells := 0, slots := 0, locals := 104 }
set_option maxHeartbeats 4000000 in
set_option maxRecDepth 100000 in
theorem c_S_result (l : Launch) (E : zE) (w0 : zW) (y : Nat) (sn sz : Int) (sf cn : Int → Int) (q : Nat) (kd : Nat) (pl ng : Int) (f : Int → Int) (q0lt : y < zn E) (q1lt : y + 1 < zn E) (q2lt : y + 2 < zn E) (q3lt : y + 3 < zn E) (q4lt : q < zn E) (q5lt : q + 1 < zn E) (q6lt : q + 2 < zn E) (c0 : w0 y = .inr (2, [.ref (ad E (y + 1)), .ref (ad E (y + 3)), .int (iI sz)])) (c1 : w0 (y + 1) = .inr (0, [.ref (ad E (y + 2)), .int (iI sn)])) (c2 : w0 (y + 2) = zar E 15 sf) (c3 : w0 (y + 3) = zar E 28 cn) (c4 : w0 q = .inr (1, [.ref (zg E (1 + kd)), .int (iI pl), .ref (ad E (q + 1))])) (c5 : w0 (q + 1) = .inr (0, [.ref (ad E (q + 2)), .int (iI ng)])) (c6 : w0 (q + 2) = zar E 15 f) (bs : bd sf 15 0 9999) (hsn : sn = 0 ∨ sn = 1) (bc : bd cn 28 0 sz) (hsz : 0 ≤ sz ∧ sz ≤ 1000) (bf : bd f 15 0 9999) (hkd : kd < 4) (hng : ng = 0 ∨ ng = 1) (hqy : y + 3 < q ∨ q + 2 < y) : zM l y_S_resultInto ws_S_resultInto rm_S_result E [.ref (ad E y), .ref (ad E q)] w0 (zQi E w0 (fun z w' => (∃ (k' : Nat) (p' : Int) (n' : Int) (f' : Int → Int), w' q = .inr (1, [.ref (zg E (1 + k')), .int (iI p'), .ref (ad E (q + 1))]) ∧ w' (q + 1) = .inr (0, [.ref (ad E (q + 2)), .int (iI n')]) ∧ w' (q + 2) = zar E 15 f' ∧ bd f' 15 0 9999 ∧ (k' < 4 ∧ (n' = 0 ∨ n' = 1) ∧ Nf z k' p' n' (V f' 15) ∧ ((z = -6 ∧ Sm cn 28 = 0) ∨ (Sm cn 28 ≠ 0 ∧ ((z = 0 ∧ k' = 3 ∧ (cn 25 ≠ 0 ∨ (cn 26 ≠ 0 ∧ cn 27 ≠ 0))) ∨ (cn 25 = 0 ∧ z = 0 ∧ k' = 0 ∧ cn 26 = 0 ∧ cn 27 ≠ 0) ∨ (cn 25 = 0 ∧ z = 0 ∧ k' = 2 ∧ cn 26 ≠ 0 ∧ cn 27 = 0) ∨ (cn 25 = 0 ∧ cn 26 = 0 ∧ cn 27 = 0 ∧ k' = 1 ∧ ∃ g : Int, 0 ≤ g ∧ g ≤ 24 ∧ (g = 0 ∨ cn g ≠ 0) ∧ (∀ k : Int, g < k → k ≤ 24 → cn k = 0) ∧ p' = g ∧ V f' 15 = Rn (V sf 15) (24 - g) % Bp 15 ∧ (V f' 15 = 0 → n' = 0) ∧ (0 < V f' 15 → n' = sn) ∧ ((z = -3 ∧ Tp 56 ≤ V f' 15) ∨ (z = 0 ∧ V f' 15 < Tp 56)))))))) ∧ ∀ k, k ≠ q → k ≠ (q + 1) → k ≠ (q + 2) → w' k = w0 k)) := by
  refine z_met (cc := b_S_resultInto) (maxL := 4) (ret := (some .int)) (by decide +kernel) rfl (Nat.le_of_ble_eq_true rfl) ?_
  intro p e s m below meth cd ls a Qf hQ hC hl hH
  obtain ⟨hF, hr, hlk, hK, hG, hn⟩ := hC
  obtain ⟨hx, hb, hml, hown, hts⟩ := hF
  have hg : ∀ w ∈ GW, w.before a s = true := fun w h => hts w (List.mem_cons_of_mem _ h)
  have hA : ∀ q, s.heap.size ≤ q → va_A (wl E w0) s.heap.size q := fun q h => Or.inr h
  have hl : lv_has ls 4 [(0, .ref (ad E y)), (1, .ref (ad E q))] := hl
  refine lv_aload_n hx hb d_S_resultInto_0 rfl (lv_at hl 0 rfl) ?_
  refine z_calli (va_runV (As := []) (rest := []) ⟨hx, hb, hml, hown, hts⟩ (c_S_members (l := l) (E := E) (w0 := w0) (y := y) (sn := sn) (sz := sz) (sf := sf) (cn := cn) (q0lt := q0lt) (q1lt := q1lt) (q2lt := q2lt) (q3lt := q3lt) (c0 := c0) (c1 := c1) (c2 := c2) (c3 := c3) (bs := bs) (hsn := by omega) (bc := bc) (hsz := by omega) s.heap.size) (z_cwV (C := "ScaledNumeralDesk$Sum") 0 hg wm_648 wm_657 wm_6 wm_646 wm_647 (by decide +kernel) ⟨Nat.le_of_ble_eq_true rfl, Nat.le_of_ble_eq_true rfl⟩) (z_preV (r := ("ScaledNumeralDesk$Sum", TS, 3)) hK hG hn hH hA q0lt c0 rfl) rfl rfl hl.1 rfl (lv_room (Nat.le_of_ble_eq_true rfl)) d_S_resultInto_1 ⟨Nat.zero_le _, Nat.zero_le _⟩) hH hA (fun z5 w3 H1 lc2 hH4 p1 => ?_)
  obtain ⟨ew6, p1⟩ := p1
  rw [ew6] at hH4
  replace p1 : z5 = Sm cn 28 ∧ 0 ≤ z5 ∧ z5 ≤ 28000 := p1
  refine zv_if_ne (tgt := 10) hx hb d_S_resultInto_4 rfl (by omega) (fun h7 => ?_) (fun h7 => ?_)
  · have L25 : ∀ (u : Int) (ls : Array Slot) (H8 : Heap) (lc9 : List Loc), (lv_has ls 4 [(0, .ref (ad E y)), (1, .ref (ad E q))]) → (zH E w0 (va_A (wl E w0) s.heap.size) s.heap H8 lc9) → ((u = 1 ∧ cn 26 ≠ 0) ∨ (u = 0 ∧ cn 26 = 0)) → W p l e rm_S_result s m a below meth cd H8 lc9 0 0 Qf (F0 m 25 ls [.int (iI u)]) := by
      intro u ls H8 lc9 hl hH hu
      refine lv_istore_n (lv' := [(2, .int (iI u)), (0, .ref (ad E y)), (1, .ref (ad E q))]) hx hb d_S_resultInto_25 rfl hl (by decide) rfl (fun ls hl => ?_)
      have L41 : ∀ (v : Int) (ls : Array Slot) (H10 : Heap) (lc11 : List Loc), (lv_has ls 4 [(2, .int (iI u)), (0, .ref (ad E y)), (1, .ref (ad E q))]) → (zH E w0 (va_A (wl E w0) s.heap.size) s.heap H10 lc11) → ((v = 1 ∧ cn 27 ≠ 0) ∨ (v = 0 ∧ cn 27 = 0)) → W p l e rm_S_result s m a below meth cd H10 lc11 0 0 Qf (F0 m 41 ls [.int (iI v)]) := by
        intro v ls H10 lc11 hl hH hv
        refine lv_istore_n (lv' := [(3, .int (iI v)), (2, .int (iI u)), (0, .ref (ad E y)), (1, .ref (ad E q))]) hx hb d_S_resultInto_41 rfl hl (by decide) rfl (fun ls hl => ?_)
        have L60 : ∀  (ls : Array Slot) (H12 : Heap) (lc13 : List Loc), (lv_has ls 4 [(3, .int (iI v)), (2, .int (iI u)), (0, .ref (ad E y)), (1, .ref (ad E q))]) → (zH E w0 (va_A (wl E w0) s.heap.size) s.heap H12 lc13) → (cn 25 ≠ 0 ∨ (cn 26 ≠ 0 ∧ cn 27 ≠ 0)) → W p l e rm_S_result s m a below meth cd H12 lc13 0 0 Qf (F0 m 60 ls []) := by
          intro ls H12 lc13 hl hH h60
          refine lv_aload_n hx hb d_S_resultInto_60 rfl (lv_at hl 3 rfl) ?_
          refine zv_kind hx hb hG hH hown 3 (by decide) (hg _ wm_612) (fun _ h9 => h9) d_S_resultInto_61 ?_
          refine z_callv (va_runV (As := [.ref (zg E (1 + 3))]) (rest := []) ⟨hx, hb, hml, hown, hts⟩ (c_N_become (l := l) (E := E) (w0 := w0) (q := q) (kd := kd) (k2 := 3) (pl := pl) (ng := ng) (f := f) (q0lt := q4lt) (q1lt := q5lt) (q2lt := q6lt) (c0 := c4) (c1 := c5) (c2 := c6) (bf := bf) (hkd := by omega) (hng := by omega) H12.size) (z_cwV (C := "ScaledNumeralDesk$Numeral") 1 hg wm_230 wm_658 wm_2 wm_228 wm_229 (by decide +kernel) ⟨Nat.le_of_ble_eq_true rfl, Nat.le_of_ble_eq_true rfl⟩) (z_preV (r := ("ScaledNumeralDesk$Numeral", TN, 3)) hK hG hn hH hA q4lt c4 rfl) rfl rfl hl.1 rfl (lv_room (Nat.le_of_ble_eq_true rfl)) d_S_resultInto_64 ⟨Nat.zero_le _, Nat.zero_le _⟩) hH hA (fun  w16 H14 lc15 hH17 p64 => ?_)
          obtain ⟨⟨f_18, e19, e20, e21, bd22, p64⟩, hg23⟩ := p64
          replace bd22 : bd f_18 15 0 9999 := bd22
          replace p64 : ∀ j : Int, 0 ≤ j → j < 15 → f_18 j = 0 := p64
          have e24 : w16 y = .inr (2, [.ref (ad E (y + 1)), .ref (ad E (y + 3)), .int (iI sz)]) := (hg23 y (by omega) (by omega) (by omega)).trans c0
          have e25 : w16 (y + 1) = .inr (0, [.ref (ad E (y + 2)), .int (iI sn)]) := (hg23 (y + 1) (by omega) (by omega) (by omega)).trans c1
          have e26 : w16 (y + 2) = zar E 15 sf := (hg23 (y + 2) (by omega) (by omega) (by omega)).trans c2
          have e27 : w16 (y + 3) = zar E 28 cn := (hg23 (y + 3) (by omega) (by omega) (by omega)).trans c3
          have hf28 : ∀ k, k ≠ q → k ≠ (q + 1) → k ≠ (q + 2) → w16 k = w0 k := fun k g0 g1 g2 => hg23 k g0 g1 g2
          refine zv_iconst hx hb d_S_resultInto_67 ?_
          rw [hQ]
          exact z_iret hx hb hr hlk hH17 (⟨⟨3, 0, 0, f_18, e19, e20, e21, bd22, ⟨by omega, Or.inl rfl, (by first | exact Nf_0 (V0_of p64) | exact Nf_0 (V0_of p64.1)), Or.inr ⟨by omega, Or.inl ⟨rfl, rfl, h60⟩⟩⟩⟩, (fun k g0 g1 g2 => hf28 k g0 g1 g2)⟩) d_S_resultInto_68
        have L69 : ∀  (ls : Array Slot) (H29 : Heap) (lc30 : List Loc), (lv_has ls 4 [(3, .int (iI v)), (2, .int (iI u)), (0, .ref (ad E y)), (1, .ref (ad E q))]) → (zH E w0 (va_A (wl E w0) s.heap.size) s.heap H29 lc30) → (cn 25 = 0 ∧ ¬ (cn 26 ≠ 0 ∧ cn 27 ≠ 0)) → W p l e rm_S_result s m a below meth cd H29 lc30 0 0 Qf (F0 m 69 ls []) := by
          intro ls H29 lc30 hl hH h69
          have L77 : ∀  (ls : Array Slot) (H31 : Heap) (lc32 : List Loc), (lv_has ls 4 [(3, .int (iI v)), (2, .int (iI u)), (0, .ref (ad E y)), (1, .ref (ad E q))]) → (zH E w0 (va_A (wl E w0) s.heap.size) s.heap H31 lc32) → (cn 26 ≠ 0 ∨ cn 27 ≠ 0) → W p l e rm_S_result s m a below meth cd H31 lc32 0 0 Qf (F0 m 77 ls []) := by
            intro ls H31 lc32 hl hH h77
            refine lv_aload_n hx hb d_S_resultInto_77 rfl (lv_at hl 3 rfl) ?_
            refine lv_iload_n hx hb d_S_resultInto_78 rfl (lv_at hl 0 rfl) ?_
            refine zv_if_eq (tgt := 86) hx hb d_S_resultInto_79 rfl (by omega) (fun h33 => ?_) (fun h33 => ?_)
            · refine zv_iconst hx hb d_S_resultInto_86 ?_
              refine z_callv (va_runV (As := [.int (iI 1)]) (rest := []) ⟨hx, hb, hml, hown, hts⟩ (c_N_becomeInf (l := l) (E := E) (w0 := w0) (q := q) (kd := kd) (pl := pl) (ng := ng) (sg := 1) (f := f) (q0lt := q4lt) (q1lt := q5lt) (q2lt := q6lt) (c0 := c4) (c1 := c5) (c2 := c6) (bf := bf) (hkd := by omega) (hng := by omega) (hsg := by omega) H31.size) (z_cwV (C := "ScaledNumeralDesk$Numeral") 1 hg wm_247 wm_659 wm_2 wm_245 wm_246 (by decide +kernel) ⟨Nat.le_of_ble_eq_true rfl, Nat.le_of_ble_eq_true rfl⟩) (z_preV (r := ("ScaledNumeralDesk$Numeral", TN, 3)) hK hG hn hH hA q4lt c4 rfl) rfl rfl hl.1 rfl (lv_room (Nat.le_of_ble_eq_true rfl)) d_S_resultInto_87 ⟨Nat.zero_le _, Nat.zero_le _⟩) hH hA (fun  w36 H34 lc35 hH37 p87 => ?_)
              obtain ⟨⟨k_38, f_39, e40, e41, e42, bd43, p87⟩, hg44⟩ := p87
              replace bd43 : bd f_39 15 0 9999 := bd43
              replace p87 : (∀ j : Int, 0 ≤ j → j < 15 → f_39 j = 0) ∧ (((1 : Int) < 0 ∧ k_38 = 0) ∨ (0 ≤ (1 : Int) ∧ k_38 = 2)) := p87
              have e45 : w36 y = .inr (2, [.ref (ad E (y + 1)), .ref (ad E (y + 3)), .int (iI sz)]) := (hg44 y (by omega) (by omega) (by omega)).trans c0
              have e46 : w36 (y + 1) = .inr (0, [.ref (ad E (y + 2)), .int (iI sn)]) := (hg44 (y + 1) (by omega) (by omega) (by omega)).trans c1
              have e47 : w36 (y + 2) = zar E 15 sf := (hg44 (y + 2) (by omega) (by omega) (by omega)).trans c2
              have e48 : w36 (y + 3) = zar E 28 cn := (hg44 (y + 3) (by omega) (by omega) (by omega)).trans c3
              have hf49 : ∀ k, k ≠ q → k ≠ (q + 1) → k ≠ (q + 2) → w36 k = w0 k := fun k g0 g1 g2 => hg44 k g0 g1 g2
              refine zv_iconst hx hb d_S_resultInto_90 ?_
              rw [hQ]
              exact z_iret hx hb hr hlk hH37 (⟨⟨k_38, 0, 0, f_39, e40, e41, e42, bd43, ⟨by omega, Or.inl rfl, (by first | exact Nf_0 (V0_of p87) | exact Nf_0 (V0_of p87.1) | exact Nf_0 (V0_of p96) | exact Nf_0 (V0_of p96.1)), Or.inr ⟨by omega, by omega⟩⟩⟩, (fun k g0 g1 g2 => hf49 k g0 g1 g2)⟩) d_S_resultInto_91
            · refine zv_iconst hx hb d_S_resultInto_82 ?_
              refine lv_goto (tgt := 87) hx hb d_S_resultInto_83 rfl ?_
              refine z_callv (va_runV (As := [.int (iI (-1))]) (rest := []) ⟨hx, hb, hml, hown, hts⟩ (c_N_becomeInf (l := l) (E := E) (w0 := w0) (q := q) (kd := kd) (pl := pl) (ng := ng) (sg := -1) (f := f) (q0lt := q4lt) (q1lt := q5lt) (q2lt := q6lt) (c0 := c4) (c1 := c5) (c2 := c6) (bf := bf) (hkd := by omega) (hng := by omega) (hsg := by omega) H31.size) (z_cwV (C := "ScaledNumeralDesk$Numeral") 1 hg wm_247 wm_659 wm_2 wm_245 wm_246 (by decide +kernel) ⟨Nat.le_of_ble_eq_true rfl, Nat.le_of_ble_eq_true rfl⟩) (z_preV (r := ("ScaledNumeralDesk$Numeral", TN, 3)) hK hG hn hH hA q4lt c4 rfl) rfl rfl hl.1 rfl (lv_room (Nat.le_of_ble_eq_true rfl)) d_S_resultInto_87 ⟨Nat.zero_le _, Nat.zero_le _⟩) hH hA (fun  w52 H50 lc51 hH53 p87 => ?_)
              obtain ⟨⟨k_54, f_55, e56, e57, e58, bd59, p87⟩, hg60⟩ := p87
              replace bd59 : bd f_55 15 0 9999 := bd59
              replace p87 : (∀ j : Int, 0 ≤ j → j < 15 → f_55 j = 0) ∧ (((-1 : Int) < 0 ∧ k_54 = 0) ∨ (0 ≤ (-1 : Int) ∧ k_54 = 2)) := p87
              have e61 : w52 y = .inr (2, [.ref (ad E (y + 1)), .ref (ad E (y + 3)), .int (iI sz)]) := (hg60 y (by omega) (by omega) (by omega)).trans c0
              have e62 : w52 (y + 1) = .inr (0, [.ref (ad E (y + 2)), .int (iI sn)]) := (hg60 (y + 1) (by omega) (by omega) (by omega)).trans c1
              have e63 : w52 (y + 2) = zar E 15 sf := (hg60 (y + 2) (by omega) (by omega) (by omega)).trans c2
              have e64 : w52 (y + 3) = zar E 28 cn := (hg60 (y + 3) (by omega) (by omega) (by omega)).trans c3
              have hf65 : ∀ k, k ≠ q → k ≠ (q + 1) → k ≠ (q + 2) → w52 k = w0 k := fun k g0 g1 g2 => hg60 k g0 g1 g2
              refine zv_iconst hx hb d_S_resultInto_90 ?_
              rw [hQ]
              exact z_iret hx hb hr hlk hH53 (⟨⟨k_54, 0, 0, f_55, e56, e57, e58, bd59, ⟨by omega, Or.inl rfl, (by first | exact Nf_0 (V0_of p87) | exact Nf_0 (V0_of p87.1) | exact Nf_0 (V0_of p96) | exact Nf_0 (V0_of p96.1)), Or.inr ⟨by omega, by omega⟩⟩⟩, (fun k g0 g1 g2 => hf65 k g0 g1 g2)⟩) d_S_resultInto_91
          refine lv_iload_n hx hb d_S_resultInto_69 rfl (lv_at hl 1 rfl) ?_
          refine zv_if_ne (tgt := 77) hx hb d_S_resultInto_70 rfl (by omega) (fun h66 => ?_) (fun h66 => ?_)
          · exact L77 _ H29 lc30 (lv_sub hl [0, 1, 2, 3] rfl) hH (by omega)
          · refine lv_iload_n hx hb d_S_resultInto_73 rfl (lv_at hl 0 rfl) ?_
            refine zv_if_eq (tgt := 92) hx hb d_S_resultInto_74 rfl (by omega) (fun h67 => ?_) (fun h67 => ?_)
            · refine lv_aload_n hx hb d_S_resultInto_92 rfl (lv_at hl 3 rfl) ?_
              refine zv_kind hx hb hG hH hown 1 (by decide) (hg _ wm_660) (fun _ h9 => h9) d_S_resultInto_93 ?_
              refine z_callv (va_runV (As := [.ref (zg E (1 + 1))]) (rest := []) ⟨hx, hb, hml, hown, hts⟩ (c_N_become (l := l) (E := E) (w0 := w0) (q := q) (kd := kd) (k2 := 1) (pl := pl) (ng := ng) (f := f) (q0lt := q4lt) (q1lt := q5lt) (q2lt := q6lt) (c0 := c4) (c1 := c5) (c2 := c6) (bf := bf) (hkd := by omega) (hng := by omega) H29.size) (z_cwV (C := "ScaledNumeralDesk$Numeral") 1 hg wm_230 wm_658 wm_2 wm_228 wm_229 (by decide +kernel) ⟨Nat.le_of_ble_eq_true rfl, Nat.le_of_ble_eq_true rfl⟩) (z_preV (r := ("ScaledNumeralDesk$Numeral", TN, 3)) hK hG hn hH hA q4lt c4 rfl) rfl rfl hl.1 rfl (lv_room (Nat.le_of_ble_eq_true rfl)) d_S_resultInto_96 ⟨Nat.zero_le _, Nat.zero_le _⟩) hH hA (fun  w70 H68 lc69 hH71 p96 => ?_)
              obtain ⟨⟨f_72, e73, e74, e75, bd76, p96⟩, hg77⟩ := p96
              replace bd76 : bd f_72 15 0 9999 := bd76
              replace p96 : ∀ j : Int, 0 ≤ j → j < 15 → f_72 j = 0 := p96
              have e78 : w70 y = .inr (2, [.ref (ad E (y + 1)), .ref (ad E (y + 3)), .int (iI sz)]) := (hg77 y (by omega) (by omega) (by omega)).trans c0
              have e79 : w70 (y + 1) = .inr (0, [.ref (ad E (y + 2)), .int (iI sn)]) := (hg77 (y + 1) (by omega) (by omega) (by omega)).trans c1
              have e80 : w70 (y + 2) = zar E 15 sf := (hg77 (y + 2) (by omega) (by omega) (by omega)).trans c2
              have e81 : w70 (y + 3) = zar E 28 cn := (hg77 (y + 3) (by omega) (by omega) (by omega)).trans c3
              have hf82 : ∀ k, k ≠ q → k ≠ (q + 1) → k ≠ (q + 2) → w70 k = w0 k := fun k g0 g1 g2 => hg77 k g0 g1 g2
              refine lv_aload_n hx hb d_S_resultInto_99 rfl (lv_at hl 3 rfl) ?_
              refine zv_get (C := "ScaledNumeralDesk$Numeral") (T := TN) (N := 3) hx hb hg uN_in hown hK hH71 q4lt e73 rfl 2 (by decide) (hg _ wm_66) (fun _ h9 => h9) rfl d_S_resultInto_100 ?_
              refine lv_aload_n hx hb d_S_resultInto_103 rfl (lv_at hl 2 rfl) ?_
              refine zv_get (C := "ScaledNumeralDesk$Sum") (T := TS) (N := 3) hx hb hg uS_in hown hK hH71 q0lt e78 rfl 0 (by decide) (hg _ wm_85) (fun _ h9 => h9) rfl d_S_resultInto_104 ?_
              refine z_callv (va_runV (As := [.ref (ad E (y + 1))]) (rest := []) ⟨hx, hb, hml, hown, hts⟩ (c_A_take (l := l) (E := E) (w0 := w70) (q := q + 1) (r := y + 1) (f := f_72) (g := sf) (ng := 0) (no := sn) (q0lt := q5lt) (q1lt := q6lt) (q2lt := q1lt) (q3lt := q2lt) (c0 := e74) (c1 := e75) (c2 := e79) (c3 := e80) (bf := bd76) (bg := bs) (hno := by omega) (hqr := by omega) H68.size) (z_cwV (C := "ScaledNumeralDesk$Amount") 1 hg wm_328 wm_661 wm_5 wm_326 wm_327 (by decide +kernel) ⟨Nat.le_of_ble_eq_true rfl, Nat.le_of_ble_eq_true rfl⟩) (z_preV (r := ("ScaledNumeralDesk$Amount", TA, 2)) hK hG hn hH71 hA q5lt e74 rfl) rfl rfl hl.1 rfl (lv_room (Nat.le_of_ble_eq_true rfl)) d_S_resultInto_107 ⟨Nat.zero_le _, Nat.zero_le _⟩) hH71 hA (fun  w85 H83 lc84 hH86 p107 => ?_)
              obtain ⟨⟨f_87, e88, e89, bd90, p107⟩, hg91⟩ := p107
              replace bd90 : bd f_87 15 0 9999 := bd90
              replace p107 : V f_87 15 = V sf 15 := p107
              have e92 : w85 y = .inr (2, [.ref (ad E (y + 1)), .ref (ad E (y + 3)), .int (iI sz)]) := (hg91 y (by omega) (by omega)).trans e78
              have e93 : w85 (y + 1) = .inr (0, [.ref (ad E (y + 2)), .int (iI sn)]) := (hg91 (y + 1) (by omega) (by omega)).trans e79
              have e94 : w85 (y + 2) = zar E 15 sf := (hg91 (y + 2) (by omega) (by omega)).trans e80
              have e95 : w85 (y + 3) = zar E 28 cn := (hg91 (y + 3) (by omega) (by omega)).trans e81
              have e96 : w85 q = .inr (1, [.ref (zg E (1 + 1)), .int (iI 0), .ref (ad E (q + 1))]) := (hg91 q (by omega) (by omega)).trans e73
              have hf97 : ∀ k, k ≠ q → k ≠ (q + 1) → k ≠ (q + 2) → w85 k = w0 k := fun k g0 g1 g2 => (hg91 k g1 g2).trans (hf82 k g0 g1 g2)
              refine lv_aload_n hx hb d_S_resultInto_110 rfl (lv_at hl 3 rfl) ?_
              refine lv_aload_n hx hb d_S_resultInto_111 rfl (lv_at hl 2 rfl) ?_
              refine z_calli (va_runV (As := []) (rest := [.ref (ad E q)]) ⟨hx, hb, hml, hown, hts⟩ (c_S_greatest (l := l) (E := E) (w0 := w85) (y := y) (sn := sn) (sz := sz) (sf := sf) (cn := cn) (q0lt := q0lt) (q1lt := q1lt) (q2lt := q2lt) (q3lt := q3lt) (c0 := e92) (c1 := e93) (c2 := e94) (c3 := e95) (bs := bs) (hsn := by omega) (bc := bc) (hsz := by omega) H83.size) (z_cwV (C := "ScaledNumeralDesk$Sum") 0 hg wm_665 wm_662 wm_6 wm_664 wm_s28 (by decide +kernel) ⟨Nat.le_of_ble_eq_true rfl, Nat.le_of_ble_eq_true rfl⟩) (z_preV (r := ("ScaledNumeralDesk$Sum", TS, 3)) hK hG hn hH86 hA q0lt e92 rfl) rfl rfl hl.1 rfl (lv_room (Nat.le_of_ble_eq_true rfl)) d_S_resultInto_112 ⟨Nat.zero_le _, Nat.zero_le _⟩) hH86 hA (fun g w100 H98 lc99 hH101 p112 => ?_)
              obtain ⟨ew102, p112⟩ := p112
              rw [ew102] at hH101
              replace p112 : 0 ≤ g ∧ g ≤ 24 ∧ (g = 0 ∨ cn g ≠ 0) ∧ ∀ k : Int, g < k → k ≤ 24 → cn k = 0 := p112
              refine z_callv (va_runV (As := [.int (iI g)]) (rest := []) ⟨hx, hb, hml, hown, hts⟩ (c_N_roundAt (l := l) (E := E) (w0 := w85) (q := q) (kd := 1) (pl := 0) (ng := sn) (x := g) (f := f_87) (q0lt := q4lt) (q1lt := q5lt) (q2lt := q6lt) (c0 := e96) (c1 := e88) (c2 := e89) (bf := bd90) (hkd := by omega) (hng := by omega) (hx0 := by omega) H98.size) (z_cwV (C := "ScaledNumeralDesk$Numeral") 1 hg wm_526 wm_666 wm_2 wm_524 wm_525 (by decide +kernel) ⟨Nat.le_of_ble_eq_true rfl, Nat.le_of_ble_eq_true rfl⟩) (z_preV (r := ("ScaledNumeralDesk$Numeral", TN, 3)) hK hG hn hH101 hA q4lt e96 rfl) rfl rfl hl.1 rfl (lv_room (Nat.le_of_ble_eq_true rfl)) d_S_resultInto_115 ⟨Nat.zero_le _, Nat.zero_le _⟩) hH101 hA (fun  w105 H103 lc104 hH106 p115 => ?_)
              obtain ⟨⟨p_107, n_108, f_109, e110, e111, e112, bd113, p115⟩, hg114⟩ := p115
              replace bd113 : bd f_109 15 0 9999 := bd113
              replace p115 : V f_109 15 = Rn (V f_87 15) (24 - g) % Bp 15 ∧ (n_108 = 0 ∨ n_108 = 1) ∧ (V f_109 15 = 0 → n_108 = 0) ∧ (0 < V f_109 15 → n_108 = sn) ∧ p_107 = mx0 g := p115
              have e115 : w105 y = .inr (2, [.ref (ad E (y + 1)), .ref (ad E (y + 3)), .int (iI sz)]) := (hg114 y (by omega) (by omega) (by omega)).trans e92
              have e116 : w105 (y + 1) = .inr (0, [.ref (ad E (y + 2)), .int (iI sn)]) := (hg114 (y + 1) (by omega) (by omega) (by omega)).trans e93
              have e117 : w105 (y + 2) = zar E 15 sf := (hg114 (y + 2) (by omega) (by omega) (by omega)).trans e94
              have e118 : w105 (y + 3) = zar E 28 cn := (hg114 (y + 3) (by omega) (by omega) (by omega)).trans e95
              have hf119 : ∀ k, k ≠ q → k ≠ (q + 1) → k ≠ (q + 2) → w105 k = w0 k := fun k g0 g1 g2 => (hg114 k g0 g1 g2).trans (hf97 k g0 g1 g2)
              refine lv_aload_n hx hb d_S_resultInto_118 rfl (lv_at hl 3 rfl) ?_
              refine z_calli (va_runV (As := []) (rest := []) ⟨hx, hb, hml, hown, hts⟩ (c_N_isTooLarge (l := l) (E := E) (w0 := w105) (q := q) (kd := 1) (pl := p_107) (ng := n_108) (f := f_109) (q0lt := q4lt) (q1lt := q5lt) (q2lt := q6lt) (c0 := e110) (c1 := e111) (c2 := e112) (bf := bd113) (hkd := by omega) (hng := by omega) H103.size) (z_cwV (C := "ScaledNumeralDesk$Numeral") 0 hg wm_304 wm_667 wm_2 wm_302 wm_303 (by decide +kernel) ⟨Nat.le_of_ble_eq_true rfl, Nat.le_of_ble_eq_true rfl⟩) (z_preV (r := ("ScaledNumeralDesk$Numeral", TN, 3)) hK hG hn hH106 hA q4lt e110 rfl) rfl rfl hl.1 rfl (lv_room (Nat.le_of_ble_eq_true rfl)) d_S_resultInto_119 ⟨Nat.zero_le _, Nat.zero_le _⟩) hH106 hA (fun z124 w122 H120 lc121 hH123 p119 => ?_)
              obtain ⟨ew125, p119⟩ := p119
              rw [ew125] at hH123
              replace p119 : (z124 = 1 ∧ Tp 56 ≤ V f_109 15) ∨ (z124 = 0 ∧ V f_109 15 < Tp 56) := p119
              refine zv_if_eq (tgt := 130) hx hb d_S_resultInto_122 rfl (by omega) (fun h126 => ?_) (fun h126 => ?_)
              · refine zv_iconst hx hb d_S_resultInto_130 ?_
                rw [hQ]
                exact z_iret hx hb hr hlk hH123 (⟨⟨1, p_107, n_108, f_109, e110, e111, e112, bd113, ⟨by omega, p115.2.1, Nf_1 rfl, Or.inr ⟨by omega, Or.inr (Or.inr (Or.inr ⟨by omega, by omega, by omega, rfl, g, p112.1, p112.2.1, p112.2.2.1, p112.2.2.2, by rw [p115.2.2.2.2]; exact mx0_p p112.1, by rw [p115.1, p107], p115.2.2.1, p115.2.2.2.1, by omega⟩))⟩⟩⟩, (fun k g0 g1 g2 => hf119 k g0 g1 g2)⟩) d_S_resultInto_131
              · refine zv_bipush hx hb d_S_resultInto_125 rfl ?_
                refine lv_goto (tgt := 131) hx hb d_S_resultInto_127 rfl ?_
                rw [hQ]
                exact z_iret hx hb hr hlk hH123 (⟨⟨1, p_107, n_108, f_109, e110, e111, e112, bd113, ⟨by omega, p115.2.1, Nf_1 rfl, Or.inr ⟨by omega, Or.inr (Or.inr (Or.inr ⟨by omega, by omega, by omega, rfl, g, p112.1, p112.2.1, p112.2.2.1, p112.2.2.2, by rw [p115.2.2.2.2]; exact mx0_p p112.1, by rw [p115.1, p107], p115.2.2.1, p115.2.2.2.1, by omega⟩))⟩⟩⟩, (fun k g0 g1 g2 => hf119 k g0 g1 g2)⟩) d_S_resultInto_131
            · exact L77 _ H29 lc30 (lv_sub hl [0, 1, 2, 3] rfl) hH (by omega)
        refine lv_aload_n hx hb d_S_resultInto_42 rfl (lv_at hl 2 rfl) ?_
        refine zv_get (C := "ScaledNumeralDesk$Sum") (T := TS) (N := 3) hx hb hg uS_in hown hK hH q0lt c0 rfl 1 (by decide) (hg _ wm_86) (fun _ h9 => h9) rfl d_S_resultInto_43 ?_
        refine zv_bipush hx hb d_S_resultInto_46 rfl ?_
        refine zv_iald hx hb hK hH q3lt c3 (by omega) (by omega) (by omega) d_S_resultInto_48 ?_
        have b127 := bc 25 (by omega) (by omega)
        refine zv_if_ne (tgt := 60) hx hb d_S_resultInto_49 rfl (by omega) (fun h128 => ?_) (fun h128 => ?_)
        · exact L60 _ H10 lc11 (lv_sub hl [0, 1, 2, 3] rfl) hH (by omega)
        · refine lv_iload_n hx hb d_S_resultInto_52 rfl (lv_at hl 1 rfl) ?_
          refine zv_if_eq (tgt := 69) hx hb d_S_resultInto_53 rfl (by omega) (fun h129 => ?_) (fun h129 => ?_)
          · exact L69 _ H10 lc11 (lv_sub hl [0, 1, 2, 3] rfl) hH (by omega)
          · refine lv_iload_n hx hb d_S_resultInto_56 rfl (lv_at hl 0 rfl) ?_
            refine zv_if_eq (tgt := 69) hx hb d_S_resultInto_57 rfl (by omega) (fun h130 => ?_) (fun h130 => ?_)
            · exact L69 _ H10 lc11 (lv_sub hl [0, 1, 2, 3] rfl) hH (by omega)
            · exact L60 _ H10 lc11 (lv_sub hl [0, 1, 2, 3] rfl) hH (by omega)
      refine lv_aload_n hx hb d_S_resultInto_26 rfl (lv_at hl 1 rfl) ?_
      refine zv_get (C := "ScaledNumeralDesk$Sum") (T := TS) (N := 3) hx hb hg uS_in hown hK hH q0lt c0 rfl 1 (by decide) (hg _ wm_86) (fun _ h9 => h9) rfl d_S_resultInto_27 ?_
      refine zv_bipush hx hb d_S_resultInto_30 rfl ?_
      refine zv_iald hx hb hK hH q3lt c3 (by omega) (by omega) (by omega) d_S_resultInto_32 ?_
      have b131 := bc 27 (by omega) (by omega)
      refine zv_if_eq (tgt := 40) hx hb d_S_resultInto_33 rfl (by omega) (fun h132 => ?_) (fun h132 => ?_)
      · refine zv_iconst hx hb d_S_resultInto_40 ?_
        exact L41 0 _ H8 lc9 (lv_sub hl [0, 1, 2] rfl) hH (by omega)
      · refine zv_iconst hx hb d_S_resultInto_36 ?_
        refine lv_goto (tgt := 41) hx hb d_S_resultInto_37 rfl ?_
        exact L41 1 _ H8 lc9 (lv_sub hl [0, 1, 2] rfl) hH (by omega)
    refine lv_aload_n hx hb d_S_resultInto_10 rfl (lv_at hl 0 rfl) ?_
    refine zv_get (C := "ScaledNumeralDesk$Sum") (T := TS) (N := 3) hx hb hg uS_in hown hK hH4 q0lt c0 rfl 1 (by decide) (hg _ wm_86) (fun _ h9 => h9) rfl d_S_resultInto_11 ?_
    refine zv_bipush hx hb d_S_resultInto_14 rfl ?_
    refine zv_iald hx hb hK hH4 q3lt c3 (by omega) (by omega) (by omega) d_S_resultInto_16 ?_
    have b133 := bc 26 (by omega) (by omega)
    refine zv_if_eq (tgt := 24) hx hb d_S_resultInto_17 rfl (by omega) (fun h134 => ?_) (fun h134 => ?_)
    · refine zv_iconst hx hb d_S_resultInto_24 ?_
      exact L25 0 _ H1 lc2 (lv_sub hl [0, 1] rfl) hH4 (by omega)
    · refine zv_iconst hx hb d_S_resultInto_20 ?_
      refine lv_goto (tgt := 25) hx hb d_S_resultInto_21 rfl ?_
      exact L25 1 _ H1 lc2 (lv_sub hl [0, 1] rfl) hH4 (by omega)
  · refine zv_bipush hx hb d_S_resultInto_7 rfl ?_
    rw [hQ]
    exact z_iret hx hb hr hlk hH4 (⟨⟨kd, pl, ng, f, c4, c5, c6, bf, ⟨hkd, hng, Nf_z (by decide), Or.inl ⟨rfl, by omega⟩⟩⟩, (fun k _ _ _ => rfl)⟩) d_S_resultInto_9
