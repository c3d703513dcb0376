set_option maxHeartbeats 8000000 in
set_option maxRecDepth 100000 in
theorem law_reset {p : Program} {l : Launch} {e : Env} {s : State} {m : MethodId} {below : List Frame} {meth : Method} {c : Code} {b L : Nat} {xs : Nat → Int32} {E : zE} {w : zW} {σ : Sg} {H : Heap} {locs : List Loc} {Q : State → Prop} {ls : Array Slot} {i : Int} (hL : L ≤ 2560) (C : LC p s m c b L xs E) (hi : 0 ≤ i ∧ i + 5 ≤ L) (hW : Wf E w σ) (hI : Iv E σ) (hH : zH E w (lA s) s.heap H locs) (hl : lv_has ls 4 [(3, .int (iI i)), (2, .ref (ad E 59)), (1, .ref (ad E 0)), (0, .ref b)])
    (kk : ∀ (w' : zW) (σ' : Sg) (H' : Heap) (locs' : List Loc), Wf E w' σ' → Iv E σ' → zH E w' (lA s) s.heap H' locs' → W p l e room_1 s m #[Value.ref b] below meth c H' locs' 73 1902 Q (F0 m 632 ls [])) : W p l e room_1 s m #[Value.ref b] below meth c H locs 73 1902 Q (F0 m 520 ls []) := by
  obtain ⟨⟨hx, hb, hml, hown, hg⟩, hX, hbl, hK, hG, hn⟩ := C
  have hA : ∀ q, s.heap.size ≤ q → lA s q := fun q h => h
  have zl := hW.zn73
  obtain ⟨v1, y1⟩ : ∃ v, sx xs (i + 1) = v := ⟨_, rfl⟩
  have s1 : zr v1 := by rw [← y1]; exact sx_r xs _
  by_cases hin : (0 ≤ v1 ∧ v1 < 4)
  · obtain ⟨ks, rfl⟩ : ∃ n : Nat, v1 = n := ⟨v1.toNat, by omega⟩
    have hks : ks < 4 := by omega
    have i_ks : 0 ≤ (ks : Int) ∧ (ks : Int) < 4 := by omega
    clear hin
    refine lv_aload_n hx hb d_L_law_520 rfl (lv_at hl 2 rfl) ?_
    refine lv_aload_n hx hb d_L_law_521 rfl (lv_at hl 3 rfl) ?_
    refine lv_iload_n hx hb d_L_law_522 rfl (lv_at hl 0 rfl) ?_
    refine zv_iconst hx hb d_L_law_523 ?_
    refine zv_iadd hx hb d_L_law_524 ?_
    refine z_sld hx hb hX hbl hH hL (by omega) (by omega) y1 d_L_law_525 ?_
    refine z_calli (va_runV (As := [.int (iI ((ks : Int)))]) (rest := []) ⟨hx, hb, hml, hown, hg⟩ (c_D_reset (l := l) (E := E) (w0 := w) (fs := σ.fs) (ks := ks) (sn := (σ.SN ks)) (sz := (σ.SZ ks)) (sf := (σ.SF ks)) (cn := (σ.CN ks)) (hzn := zl) (c0 := hW.fix.1) (c1 := hW.fix.2.2) (c2 := (hW.sm ks hks).1) (c3 := (hW.sm ks hks).2.1) (c4 := (hW.sm ks hks).2.2.1) (c5 := (hW.sm ks hks).2.2.2) (hfs := hI.hs) (bs := (hI.sm ks hks).1) (hsn := (hI.sm ks hks).2.1) (bc := (hI.sm ks hks).2.2.1) (hsz := (hI.sm ks hks).2.2.2.1) (hks := hks) H.size) (z_cwV (C := "ScaledNumeralDesk") 1 hg wm_634 wm_631 wm_1 wm_632 wm_633 (by decide +kernel) ⟨(Nat.le_of_ble_eq_true rfl), (Nat.le_of_ble_eq_true rfl)⟩) (z_preV (r := ("ScaledNumeralDesk", TD, 7)) hK hG hn hH hA (Nat.lt_of_lt_of_le (show 0 < 73 by decide) zl) hW.fix.1 rfl) rfl rfl hl.1 rfl (lv_room (Nat.le_of_ble_eq_true rfl)) d_L_law_526 ⟨(Nat.le_of_ble_eq_true rfl), (Nat.le_of_ble_eq_true rfl)⟩) hH hA (fun z1 w1 H1 lc1 hH1 hp1 => ?_)
    obtain ⟨⟨f', c', e1, e2, e3, e4, cb1, hC⟩, hf1⟩ := hp1
    have hW1 := wf_D_reset hks hW e1 e2 e3 e4 hf1
    have hm : PMod E w1 59 σ.ty σ.xm σ.ym σ.ne σ.kf σ.mf σ.sf σ.G σ.bc σ.su σ.sz σ.cn σ.xf σ.yf σ.pf σ.rf σ.tf := hW1.md
    refine lv_aload_n hx hb d_L_law_529 rfl (lv_at hl 1 rfl) ?_
    refine lv_aload_n hx hb d_L_law_530 rfl (lv_at hl 3 rfl) ?_
    refine lv_iload_n hx hb d_L_law_531 rfl (lv_at hl 0 rfl) ?_
    refine zv_iconst hx hb d_L_law_532 ?_
    refine zv_iadd hx hb d_L_law_533 ?_
    refine z_sld hx hb hX hbl hH1 hL (by omega) (by omega) y1 d_L_law_534 ?_
    refine z_calli (va_runV (As := [.int (iI ((ks : Int)))]) (rest := [.int (iI z1)]) ⟨hx, hb, hml, hown, hg⟩ (c_M_reset (l := l) (E := E) (w0 := w1) (g := 59) (ty := σ.ty) (xm := σ.xm) (ym := σ.ym) (ne := σ.ne) (su := σ.su) (sz := σ.sz) (cn := σ.cn) (k := (ks : Int)) (q0lt := Nat.lt_of_lt_of_le (show 59 < 73 by decide) zl) (q1lt := Nat.lt_of_lt_of_le (show 59 + 6 < 73 by decide) zl) (q2lt := Nat.lt_of_lt_of_le (show 59 + 7 < 73 by decide) zl) (q3lt := Nat.lt_of_lt_of_le (show 59 + 8 < 73 by decide) zl) (c0 := hm.1) (c1 := hm.2.2.2.2.2.2.1) (c2 := hm.2.2.2.2.2.2.2.1) (c3 := hm.2.2.2.2.2.2.2.2.1) (hB := hI.hB) (bsz := hI.bsz) (bcn := hI.bcn) (hk0 := i_ks) H1.size) (z_cwV (C := "ScaledNumeralDeskModel") 1 hg wm_971 wm_968 wm_9 wm_969 wm_970 (by decide +kernel) ⟨(Nat.le_of_ble_eq_true rfl), (Nat.le_of_ble_eq_true rfl)⟩) (z_preV (r := ("ScaledNumeralDeskModel", TM, 17)) hK hG hn hH1 hA (Nat.lt_of_lt_of_le (show 59 < 73 by decide) zl) hm.1 rfl) rfl rfl hl.1 rfl (lv_room (Nat.le_of_ble_eq_true rfl)) d_L_law_535 ⟨(Nat.le_of_ble_eq_true rfl), (Nat.le_of_ble_eq_true rfl)⟩) hH1 hA (fun z2 w2 H2 lc2 hH2 hp2 => ?_)
    obtain ⟨⟨su'', sz'', cn'', f1, f2, f3, hM⟩, hf2⟩ := hp2
    have hW2 := wf_M_reset hW1 f1 f2 f3 hf2
    have hw9 : Wf E w2 (mkS σ.fq σ.fs σ.us σ.ch σ.r1 σ.r2 σ.r3 σ.r4 σ.kt σ.plt σ.nt σ.ft σ.kv σ.plv σ.nv σ.fv σ.kw σ.plw σ.nw σ.fw σ.K σ.P σ.N σ.F (upn σ.SN ks 0) (upn σ.SZ ks 0) (upn σ.SF ks f') (upn σ.CN ks c') σ.ty σ.bc σ.xm σ.ym σ.ne σ.kf σ.mf σ.sf σ.G (su'') (sz'') (cn'') σ.xf σ.yf σ.pf σ.rf σ.tf) := hW2
    obtain ⟨hz, hi9⟩ := iv_reset hks  hI cb1 hC  hM
    subst hz
    refine lv_icmp_eq (tgt := 632) hx hb d_L_law_538 rfl (fun _ => ?_) (fun h9 => absurd rfl h9)
    exact kk w2 _ H2 lc2 hw9 hi9 hH2
  · have hm := hW.md
    refine lv_aload_n hx hb d_L_law_520 rfl (lv_at hl 2 rfl) ?_
    refine lv_aload_n hx hb d_L_law_521 rfl (lv_at hl 3 rfl) ?_
    refine lv_iload_n hx hb d_L_law_522 rfl (lv_at hl 0 rfl) ?_
    refine zv_iconst hx hb d_L_law_523 ?_
    refine zv_iadd hx hb d_L_law_524 ?_
    refine z_sld hx hb hX hbl hH hL (by omega) (by omega) y1 d_L_law_525 ?_
    refine z_calli (va_runV (As := [.int (iI v1)]) (rest := []) ⟨hx, hb, hml, hown, hg⟩ (c_D_resetX (l := l) (E := E) (w0 := w) (v0 := v1) (hz_v0 := s1) (hbad := hin) H.size) (z_cwV (C := "ScaledNumeralDesk") 1 hg wm_634 wm_631 wm_1 wm_632 wm_633 (by decide +kernel) ⟨(Nat.le_of_ble_eq_true rfl), (Nat.le_of_ble_eq_true rfl)⟩) (z_preV (r := ("ScaledNumeralDesk", TD, 7)) hK hG hn hH hA (Nat.lt_of_lt_of_le (show 0 < 73 by decide) zl) hW.fix.1 rfl) rfl rfl hl.1 rfl (lv_room (Nat.le_of_ble_eq_true rfl)) d_L_law_526 ⟨(Nat.le_of_ble_eq_true rfl), (Nat.le_of_ble_eq_true rfl)⟩) hH hA (fun z1 w1 H1 lc1 hH1 hp1 => ?_)
    obtain ⟨ew1, hC⟩ := hp1
    rw [ew1] at hH1
    have hm := hW.md
    refine lv_aload_n hx hb d_L_law_529 rfl (lv_at hl 1 rfl) ?_
    refine lv_aload_n hx hb d_L_law_530 rfl (lv_at hl 3 rfl) ?_
    refine lv_iload_n hx hb d_L_law_531 rfl (lv_at hl 0 rfl) ?_
    refine zv_iconst hx hb d_L_law_532 ?_
    refine zv_iadd hx hb d_L_law_533 ?_
    refine z_sld hx hb hX hbl hH1 hL (by omega) (by omega) y1 d_L_law_534 ?_
    refine z_calli (va_runV (As := [.int (iI v1)]) (rest := [.int (iI z1)]) ⟨hx, hb, hml, hown, hg⟩ (c_M_resetX (l := l) (E := E) (w0 := w) (g := 59) (ty := σ.ty) (xm := σ.xm) (ym := σ.ym) (ne := σ.ne) (v0 := v1) (q0lt := Nat.lt_of_lt_of_le (show 59 < 73 by decide) zl) (c0 := hm.1) (hz_v0 := s1) (hbad := hin) H1.size) (z_cwV (C := "ScaledNumeralDeskModel") 1 hg wm_971 wm_968 wm_9 wm_969 wm_970 (by decide +kernel) ⟨(Nat.le_of_ble_eq_true rfl), (Nat.le_of_ble_eq_true rfl)⟩) (z_preV (r := ("ScaledNumeralDeskModel", TM, 17)) hK hG hn hH1 hA (Nat.lt_of_lt_of_le (show 59 < 73 by decide) zl) hm.1 rfl) rfl rfl hl.1 rfl (lv_room (Nat.le_of_ble_eq_true rfl)) d_L_law_535 ⟨(Nat.le_of_ble_eq_true rfl), (Nat.le_of_ble_eq_true rfl)⟩) hH1 hA (fun z2 w2 H2 lc2 hH2 hp2 => ?_)
    obtain ⟨ew2, hM⟩ := hp2
    rw [ew2] at hH2
    rw [hC, hM]
    refine lv_icmp_eq (tgt := 632) hx hb d_L_law_538 rfl (fun _ => ?_) (fun h9 => absurd rfl h9)
    exact kk w σ H2 lc2 hW hI hH2
set_option maxHeartbeats 8000000 in
set_option maxRecDepth 100000 in
theorem law_count {p : Program} {l : Launch} {e : Env} {s : State} {m : MethodId} {below : List Frame} {meth : Method} {c : Code} {b L : Nat} {xs : Nat → Int32} {E : zE} {w : zW} {σ : Sg} {H : Heap} {locs : List Loc} {Q : State → Prop} {ls : Array Slot} {i : Int} (hL : L ≤ 2560) (C : LC p s m c b L xs E) (hi : 0 ≤ i ∧ i + 5 ≤ L) (hW : Wf E w σ) (hI : Iv E σ) (hH : zH E w (lA s) s.heap H locs) (hl : lv_has ls 4 [(3, .int (iI i)), (2, .ref (ad E 59)), (1, .ref (ad E 0)), (0, .ref b)])
    (kk : ∀ (w' : zW) (σ' : Sg) (H' : Heap) (locs' : List Loc), Wf E w' σ' → Iv E σ' → zH E w' (lA s) s.heap H' locs' → W p l e room_1 s m #[Value.ref b] below meth c H' locs' 73 1902 Q (F0 m 632 ls [])) : W p l e room_1 s m #[Value.ref b] below meth c H locs 73 1902 Q (F0 m 543 ls []) := by
  obtain ⟨⟨hx, hb, hml, hown, hg⟩, hX, hbl, hK, hG, hn⟩ := C
  have hA : ∀ q, s.heap.size ≤ q → lA s q := fun q h => h
  have zl := hW.zn73
  obtain ⟨v1, y1⟩ : ∃ v, sx xs (i + 1) = v := ⟨_, rfl⟩
  have s1 : zr v1 := by rw [← y1]; exact sx_r xs _
  by_cases hin : (0 ≤ v1 ∧ v1 < 4)
  · obtain ⟨ks, rfl⟩ : ∃ n : Nat, v1 = n := ⟨v1.toNat, by omega⟩
    have hks : ks < 4 := by omega
    have i_ks : 0 ≤ (ks : Int) ∧ (ks : Int) < 4 := by omega
    clear hin
    refine lv_aload_n hx hb d_L_law_543 rfl (lv_at hl 2 rfl) ?_
    refine lv_aload_n hx hb d_L_law_544 rfl (lv_at hl 3 rfl) ?_
    refine lv_iload_n hx hb d_L_law_545 rfl (lv_at hl 0 rfl) ?_
    refine zv_iconst hx hb d_L_law_546 ?_
    refine zv_iadd hx hb d_L_law_547 ?_
    refine z_sld hx hb hX hbl hH hL (by omega) (by omega) y1 d_L_law_548 ?_
    refine z_calli (va_runV (As := [.int (iI ((ks : Int)))]) (rest := []) ⟨hx, hb, hml, hown, hg⟩ (c_D_count (l := l) (E := E) (w0 := w) (fs := σ.fs) (ks := ks) (sn := (σ.SN ks)) (sz := (σ.SZ ks)) (sf := (σ.SF ks)) (cn := (σ.CN ks)) (hzn := zl) (c0 := hW.fix.1) (c1 := hW.fix.2.2) (c2 := (hW.sm ks hks).1) (c3 := (hW.sm ks hks).2.1) (c4 := (hW.sm ks hks).2.2.1) (c5 := (hW.sm ks hks).2.2.2) (hfs := hI.hs) (bs := (hI.sm ks hks).1) (hsn := (hI.sm ks hks).2.1) (bc := (hI.sm ks hks).2.2.1) (hsz := (hI.sm ks hks).2.2.2.1) (hks := hks) H.size) (z_cwV (C := "ScaledNumeralDesk") 1 hg wm_644 wm_641 wm_1 wm_642 wm_643 (by decide +kernel) ⟨(Nat.le_of_ble_eq_true rfl), (Nat.le_of_ble_eq_true rfl)⟩) (z_preV (r := ("ScaledNumeralDesk", TD, 7)) hK hG hn hH hA (Nat.lt_of_lt_of_le (show 0 < 73 by decide) zl) hW.fix.1 rfl) rfl rfl hl.1 rfl (lv_room (Nat.le_of_ble_eq_true rfl)) d_L_law_549 ⟨(Nat.le_of_ble_eq_true rfl), (Nat.le_of_ble_eq_true rfl)⟩) hH hA (fun z1 w1 H1 lc1 hH1 hp1 => ?_)
    obtain ⟨ew1, hC⟩ := hp1
    rw [ew1] at hH1
    have hm := hW.md
    refine lv_aload_n hx hb d_L_law_552 rfl (lv_at hl 1 rfl) ?_
    refine lv_aload_n hx hb d_L_law_553 rfl (lv_at hl 3 rfl) ?_
    refine lv_iload_n hx hb d_L_law_554 rfl (lv_at hl 0 rfl) ?_
    refine zv_iconst hx hb d_L_law_555 ?_
    refine zv_iadd hx hb d_L_law_556 ?_
    refine z_sld hx hb hX hbl hH1 hL (by omega) (by omega) y1 d_L_law_557 ?_
    refine z_calli (va_runV (As := [.int (iI ((ks : Int)))]) (rest := [.int (iI z1)]) ⟨hx, hb, hml, hown, hg⟩ (c_M_count (l := l) (E := E) (w0 := w) (g := 59) (ty := σ.ty) (xm := σ.xm) (ym := σ.ym) (ne := σ.ne) (cn := σ.cn) (k := (ks : Int)) (q0lt := Nat.lt_of_lt_of_le (show 59 < 73 by decide) zl) (q1lt := Nat.lt_of_lt_of_le (show 59 + 8 < 73 by decide) zl) (c0 := hm.1) (c1 := hm.2.2.2.2.2.2.2.2.1) (bcn := hI.bcn) (hk0 := i_ks) H1.size) (z_cwV (C := "ScaledNumeralDeskModel") 1 hg wm_975 wm_972 wm_9 wm_973 wm_974 (by decide +kernel) ⟨(Nat.le_of_ble_eq_true rfl), (Nat.le_of_ble_eq_true rfl)⟩) (z_preV (r := ("ScaledNumeralDeskModel", TM, 17)) hK hG hn hH1 hA (Nat.lt_of_lt_of_le (show 59 < 73 by decide) zl) hm.1 rfl) rfl rfl hl.1 rfl (lv_room (Nat.le_of_ble_eq_true rfl)) d_L_law_558 ⟨(Nat.le_of_ble_eq_true rfl), (Nat.le_of_ble_eq_true rfl)⟩) hH1 hA (fun z2 w2 H2 lc2 hH2 hp2 => ?_)
    obtain ⟨ew2, hM⟩ := hp2
    rw [ew2] at hH2
    have hz := iv_count hks  hI  hC  hM
    subst hz
    refine lv_icmp_eq (tgt := 632) hx hb d_L_law_561 rfl (fun _ => ?_) (fun h9 => absurd rfl h9)
    exact kk w σ H2 lc2 hW hI hH2
  · have hm := hW.md
    refine lv_aload_n hx hb d_L_law_543 rfl (lv_at hl 2 rfl) ?_
    refine lv_aload_n hx hb d_L_law_544 rfl (lv_at hl 3 rfl) ?_
    refine lv_iload_n hx hb d_L_law_545 rfl (lv_at hl 0 rfl) ?_
    refine zv_iconst hx hb d_L_law_546 ?_
    refine zv_iadd hx hb d_L_law_547 ?_
    refine z_sld hx hb hX hbl hH hL (by omega) (by omega) y1 d_L_law_548 ?_
    refine z_calli (va_runV (As := [.int (iI v1)]) (rest := []) ⟨hx, hb, hml, hown, hg⟩ (c_D_countX (l := l) (E := E) (w0 := w) (v0 := v1) (hz_v0 := s1) (hbad := hin) H.size) (z_cwV (C := "ScaledNumeralDesk") 1 hg wm_644 wm_641 wm_1 wm_642 wm_643 (by decide +kernel) ⟨(Nat.le_of_ble_eq_true rfl), (Nat.le_of_ble_eq_true rfl)⟩) (z_preV (r := ("ScaledNumeralDesk", TD, 7)) hK hG hn hH hA (Nat.lt_of_lt_of_le (show 0 < 73 by decide) zl) hW.fix.1 rfl) rfl rfl hl.1 rfl (lv_room (Nat.le_of_ble_eq_true rfl)) d_L_law_549 ⟨(Nat.le_of_ble_eq_true rfl), (Nat.le_of_ble_eq_true rfl)⟩) hH hA (fun z1 w1 H1 lc1 hH1 hp1 => ?_)
    obtain ⟨ew1, hC⟩ := hp1
    rw [ew1] at hH1
    have hm := hW.md
    refine lv_aload_n hx hb d_L_law_552 rfl (lv_at hl 1 rfl) ?_
    refine lv_aload_n hx hb d_L_law_553 rfl (lv_at hl 3 rfl) ?_
    refine lv_iload_n hx hb d_L_law_554 rfl (lv_at hl 0 rfl) ?_
    refine zv_iconst hx hb d_L_law_555 ?_
    refine zv_iadd hx hb d_L_law_556 ?_
    refine z_sld hx hb hX hbl hH1 hL (by omega) (by omega) y1 d_L_law_557 ?_
    refine z_calli (va_runV (As := [.int (iI v1)]) (rest := [.int (iI z1)]) ⟨hx, hb, hml, hown, hg⟩ (c_M_countX (l := l) (E := E) (w0 := w) (g := 59) (ty := σ.ty) (xm := σ.xm) (ym := σ.ym) (ne := σ.ne) (v0 := v1) (q0lt := Nat.lt_of_lt_of_le (show 59 < 73 by decide) zl) (c0 := hm.1) (hz_v0 := s1) (hbad := hin) H1.size) (z_cwV (C := "ScaledNumeralDeskModel") 1 hg wm_975 wm_972 wm_9 wm_973 wm_974 (by decide +kernel) ⟨(Nat.le_of_ble_eq_true rfl), (Nat.le_of_ble_eq_true rfl)⟩) (z_preV (r := ("ScaledNumeralDeskModel", TM, 17)) hK hG hn hH1 hA (Nat.lt_of_lt_of_le (show 59 < 73 by decide) zl) hm.1 rfl) rfl rfl hl.1 rfl (lv_room (Nat.le_of_ble_eq_true rfl)) d_L_law_558 ⟨(Nat.le_of_ble_eq_true rfl), (Nat.le_of_ble_eq_true rfl)⟩) hH1 hA (fun z2 w2 H2 lc2 hH2 hp2 => ?_)
    obtain ⟨ew2, hM⟩ := hp2
    rw [ew2] at hH2
    rw [hC, hM]
    refine lv_icmp_eq (tgt := 632) hx hb d_L_law_561 rfl (fun _ => ?_) (fun h9 => absurd rfl h9)
    exact kk w σ H2 lc2 hW hI hH2
set_option maxHeartbeats 8000000 in
set_option maxRecDepth 100000 in
theorem law_total {p : Program} {l : Launch} {e : Env} {s : State} {m : MethodId} {below : List Frame} {meth : Method} {c : Code} {b L : Nat} {xs : Nat → Int32} {E : zE} {w : zW} {σ : Sg} {H : Heap} {locs : List Loc} {Q : State → Prop} {ls : Array Slot} {i : Int} (hL : L ≤ 2560) (C : LC p s m c b L xs E) (hi : 0 ≤ i ∧ i + 5 ≤ L) (hW : Wf E w σ) (hI : Iv E σ) (hH : zH E w (lA s) s.heap H locs) (hl : lv_has ls 4 [(3, .int (iI i)), (2, .ref (ad E 59)), (1, .ref (ad E 0)), (0, .ref b)])
    (kk : ∀ (w' : zW) (σ' : Sg) (H' : Heap) (locs' : List Loc), Wf E w' σ' → Iv E σ' → zH E w' (lA s) s.heap H' locs' → W p l e room_1 s m #[Value.ref b] below meth c H' locs' 73 1902 Q (F0 m 632 ls [])) : W p l e room_1 s m #[Value.ref b] below meth c H locs 73 1902 Q (F0 m 566 ls []) := by
  obtain ⟨⟨hx, hb, hml, hown, hg⟩, hX, hbl, hK, hG, hn⟩ := C
  have hA : ∀ q, s.heap.size ≤ q → lA s q := fun q h => h
  have zl := hW.zn73
  obtain ⟨v1, y1⟩ : ∃ v, sx xs (i + 1) = v := ⟨_, rfl⟩
  have s1 : zr v1 := by rw [← y1]; exact sx_r xs _
  obtain ⟨v2, y2⟩ : ∃ v, sx xs (i + 2) = v := ⟨_, rfl⟩
  have s2 : zr v2 := by rw [← y2]; exact sx_r xs _
  by_cases hin : ((0 ≤ v1 ∧ v1 < 8) ∧ (0 ≤ v2 ∧ v2 < 4))
  · obtain ⟨rd, rfl⟩ : ∃ n : Nat, v1 = n := ⟨v1.toNat, by omega⟩
    have hrd : rd < 8 := by omega
    have i_rd : 0 ≤ (rd : Int) ∧ (rd : Int) < 8 := by omega
    obtain ⟨ks, rfl⟩ : ∃ n : Nat, v2 = n := ⟨v2.toNat, by omega⟩
    have hks : ks < 4 := by omega
    have i_ks : 0 ≤ (ks : Int) ∧ (ks : Int) < 4 := by omega
    clear hin
    refine lv_aload_n hx hb d_L_law_566 rfl (lv_at hl 2 rfl) ?_
    refine lv_aload_n hx hb d_L_law_567 rfl (lv_at hl 3 rfl) ?_
    refine lv_iload_n hx hb d_L_law_568 rfl (lv_at hl 0 rfl) ?_
    refine zv_iconst hx hb d_L_law_569 ?_
    refine zv_iadd hx hb d_L_law_570 ?_
    refine z_sld hx hb hX hbl hH hL (by omega) (by omega) y1 d_L_law_571 ?_
    refine lv_aload_n hx hb d_L_law_572 rfl (lv_at hl 3 rfl) ?_
    refine lv_iload_n hx hb d_L_law_573 rfl (lv_at hl 0 rfl) ?_
    refine zv_iconst hx hb d_L_law_574 ?_
    refine zv_iadd hx hb d_L_law_575 ?_
    refine z_sld hx hb hX hbl hH hL (by omega) (by omega) y2 d_L_law_576 ?_
    refine z_calli (va_runV (As := [.int (iI ((rd : Int))), .int (iI ((ks : Int)))]) (rest := []) ⟨hx, hb, hml, hown, hg⟩ (c_D_total (l := l) (E := E) (w0 := w) (fq := σ.fq) (fs := σ.fs) (kt := σ.kt) (plt := σ.plt) (nt := σ.nt) (ft := σ.ft) (ks := ks) (sn := (σ.SN ks)) (sz := (σ.SZ ks)) (sf := (σ.SF ks)) (cn := (σ.CN ks)) (rd := rd) (kd := (σ.K rd)) (pld := (σ.P rd)) (nd := (σ.N rd)) (fd := (σ.F rd)) (hzn := zl) (c0 := hW.fix.1) (c1 := hW.fix.2.1) (c2 := hW.fix.2.2) (c3 := hW.ot.1) (c4 := hW.ot.2.1) (c5 := hW.ot.2.2) (c6 := (hW.sm ks hks).1) (c7 := (hW.sm ks hks).2.1) (c8 := (hW.sm ks hks).2.2.1) (c9 := (hW.sm ks hks).2.2.2) (c10 := (hW.rg rd hrd).1) (c11 := (hW.rg rd hrd).2.1) (c12 := (hW.rg rd hrd).2.2) (hfq := hI.hq) (hfs := hI.hs) (bft := hI.ot.1) (hkt := hI.ot.2.1) (hnt := hI.ot.2.2) (bs := (hI.sm ks hks).1) (hsn := (hI.sm ks hks).2.1) (bc := (hI.sm ks hks).2.2.1) (hsz := (hI.sm ks hks).2.2.2.1) (hks := hks) (bfd := (hI.rg rd hrd).1) (hkd := (hI.rg rd hrd).2.1) (hnd := (hI.rg rd hrd).2.2.1) (hrd := hrd) H.size) (z_cwV (C := "ScaledNumeralDesk") 2 hg wm_652 wm_649 wm_1 wm_650 wm_651 (by decide +kernel) ⟨(Nat.le_of_ble_eq_true rfl), (Nat.le_of_ble_eq_true rfl)⟩) (z_preV (r := ("ScaledNumeralDesk", TD, 7)) hK hG hn hH hA (Nat.lt_of_lt_of_le (show 0 < 73 by decide) zl) hW.fix.1 rfl) rfl rfl hl.1 rfl (lv_room (Nat.le_of_ble_eq_true rfl)) d_L_law_577 ⟨(Nat.le_of_ble_eq_true rfl), (Nat.le_of_ble_eq_true rfl)⟩) hH hA (fun z1 w1 H1 lc1 hH1 hp1 => ?_)
    obtain ⟨⟨kt', plt', nt', ft', k', p', n', f', e1, e2, e3, e4, e5, e6, cb1, cb2, hC⟩, hf1⟩ := hp1
    have hW1 := wf_D_total hrd hW e1 e2 e3 e4 e5 e6 hf1
    have hm : PMod E w1 59 σ.ty σ.xm σ.ym σ.ne σ.kf σ.mf σ.sf σ.G σ.bc σ.su σ.sz σ.cn σ.xf σ.yf σ.pf σ.rf σ.tf := hW1.md
    refine lv_aload_n hx hb d_L_law_580 rfl (lv_at hl 1 rfl) ?_
    refine lv_aload_n hx hb d_L_law_581 rfl (lv_at hl 3 rfl) ?_
    refine lv_iload_n hx hb d_L_law_582 rfl (lv_at hl 0 rfl) ?_
    refine zv_iconst hx hb d_L_law_583 ?_
    refine zv_iadd hx hb d_L_law_584 ?_
    refine z_sld hx hb hX hbl hH1 hL (by omega) (by omega) y1 d_L_law_585 ?_
    refine lv_aload_n hx hb d_L_law_586 rfl (lv_at hl 3 rfl) ?_
    refine lv_iload_n hx hb d_L_law_587 rfl (lv_at hl 0 rfl) ?_
    refine zv_iconst hx hb d_L_law_588 ?_
    refine zv_iadd hx hb d_L_law_589 ?_
    refine z_sld hx hb hX hbl hH1 hL (by omega) (by omega) y2 d_L_law_590 ?_
    refine z_calli (va_runV (As := [.int (iI ((rd : Int))), .int (iI ((ks : Int)))]) (rest := [.int (iI z1)]) ⟨hx, hb, hml, hown, hg⟩ (c_M_total (l := l) (E := E) (w0 := w1) (g := 59) (ty := σ.ty) (xm := σ.xm) (ym := σ.ym) (ne := σ.ne) (f := σ.pf) (su := σ.su) (cn := σ.cn) (kf := σ.kf) (mf := σ.mf) (sf := σ.sf) (G := σ.G) (sz := σ.sz) (d := (rd : Int)) (k := (ks : Int)) (q0lt := Nat.lt_of_lt_of_le (show 59 < 73 by decide) zl) (q1lt := Nat.lt_of_lt_of_le (show 59 + 11 < 73 by decide) zl) (q2lt := Nat.lt_of_lt_of_le (show 59 + 6 < 73 by decide) zl) (q3lt := Nat.lt_of_lt_of_le (show 59 + 8 < 73 by decide) zl) (q4lt := Nat.lt_of_lt_of_le (show 59 + 1 < 73 by decide) zl) (q5lt := Nat.lt_of_lt_of_le (show 59 + 2 < 73 by decide) zl) (q6lt := Nat.lt_of_lt_of_le (show 59 + 3 < 73 by decide) zl) (q7lt := Nat.lt_of_lt_of_le (show 59 + 4 < 73 by decide) zl) (c0 := hm.1) (c1 := hm.2.2.2.2.2.2.2.2.2.2.2.1) (c2 := hm.2.2.2.2.2.2.1) (c3 := hm.2.2.2.2.2.2.2.2.1) (c4 := hm.2.1) (c5 := hm.2.2.1) (c6 := hm.2.2.2.1) (c7 := hm.2.2.2.2.1) (bk := hI.bk) (bm := hI.bm) (bs := hI.bs) (bG := hI.bG) (hB := hI.hB) (bsz := hI.bsz) (bcn := hI.bcn) (hne := hI.hne) (hd := i_rd) (hk0 := i_ks) (bf := hI.bf) H1.size) (z_cwV (C := "ScaledNumeralDeskModel") 2 hg wm_979 wm_976 wm_9 wm_977 wm_978 (by decide +kernel) ⟨(Nat.le_of_ble_eq_true rfl), (Nat.le_of_ble_eq_true rfl)⟩) (z_preV (r := ("ScaledNumeralDeskModel", TM, 17)) hK hG hn hH1 hA (Nat.lt_of_lt_of_le (show 59 < 73 by decide) zl) hm.1 rfl) rfl rfl hl.1 rfl (lv_room (Nat.le_of_ble_eq_true rfl)) d_L_law_591 ⟨(Nat.le_of_ble_eq_true rfl), (Nat.le_of_ble_eq_true rfl)⟩) hH1 hA (fun z2 w2 H2 lc2 hH2 hp2 => ?_)
    obtain ⟨⟨n'', f'', k'', m'', s'', G'', f1, f2, f3, f4, f5, f6, mb1, mb2, mb3, mb4, mb5, hM⟩, hf2⟩ := hp2
    have hW2 := wf_M_total hW1 f1 f2 f3 f4 f5 f6 hf2
    have hw9 : Wf E w2 (mkS σ.fq σ.fs σ.us σ.ch σ.r1 σ.r2 σ.r3 σ.r4 (kt') (plt') (nt') (ft') σ.kv σ.plv σ.nv σ.fv σ.kw σ.plw σ.nw σ.fw (upn σ.K rd k') (upn σ.P rd p') (upn σ.N rd n') (upn σ.F rd f') σ.SN σ.SZ σ.SF σ.CN σ.ty σ.bc σ.xm σ.ym (n'') (k'') (m'') (s'') (G'') σ.su σ.sz σ.cn σ.xf σ.yf (f'') σ.rf σ.tf) := hW2
    obtain ⟨hz, hi9⟩ := iv_total hrd hks  hI cb1 cb2 hC mb1 mb2 mb3 mb4 mb5 hM
    subst hz
    refine lv_icmp_eq (tgt := 632) hx hb d_L_law_594 rfl (fun _ => ?_) (fun h9 => absurd rfl h9)
    exact kk w2 _ H2 lc2 hw9 hi9 hH2
  · have hm := hW.md
    refine lv_aload_n hx hb d_L_law_566 rfl (lv_at hl 2 rfl) ?_
    refine lv_aload_n hx hb d_L_law_567 rfl (lv_at hl 3 rfl) ?_
    refine lv_iload_n hx hb d_L_law_568 rfl (lv_at hl 0 rfl) ?_
    refine zv_iconst hx hb d_L_law_569 ?_
    refine zv_iadd hx hb d_L_law_570 ?_
    refine z_sld hx hb hX hbl hH hL (by omega) (by omega) y1 d_L_law_571 ?_
    refine lv_aload_n hx hb d_L_law_572 rfl (lv_at hl 3 rfl) ?_
    refine lv_iload_n hx hb d_L_law_573 rfl (lv_at hl 0 rfl) ?_
    refine zv_iconst hx hb d_L_law_574 ?_
    refine zv_iadd hx hb d_L_law_575 ?_
    refine z_sld hx hb hX hbl hH hL (by omega) (by omega) y2 d_L_law_576 ?_
    refine z_calli (va_runV (As := [.int (iI v1), .int (iI v2)]) (rest := []) ⟨hx, hb, hml, hown, hg⟩ (c_D_totalX (l := l) (E := E) (w0 := w) (v0 := v1) (va := v2) (hz_v0 := s1) (hz_va := s2) (hbad := hin) H.size) (z_cwV (C := "ScaledNumeralDesk") 2 hg wm_652 wm_649 wm_1 wm_650 wm_651 (by decide +kernel) ⟨(Nat.le_of_ble_eq_true rfl), (Nat.le_of_ble_eq_true rfl)⟩) (z_preV (r := ("ScaledNumeralDesk", TD, 7)) hK hG hn hH hA (Nat.lt_of_lt_of_le (show 0 < 73 by decide) zl) hW.fix.1 rfl) rfl rfl hl.1 rfl (lv_room (Nat.le_of_ble_eq_true rfl)) d_L_law_577 ⟨(Nat.le_of_ble_eq_true rfl), (Nat.le_of_ble_eq_true rfl)⟩) hH hA (fun z1 w1 H1 lc1 hH1 hp1 => ?_)
    obtain ⟨ew1, hC⟩ := hp1
    rw [ew1] at hH1
    have hm := hW.md
    refine lv_aload_n hx hb d_L_law_580 rfl (lv_at hl 1 rfl) ?_
    refine lv_aload_n hx hb d_L_law_581 rfl (lv_at hl 3 rfl) ?_
    refine lv_iload_n hx hb d_L_law_582 rfl (lv_at hl 0 rfl) ?_
    refine zv_iconst hx hb d_L_law_583 ?_
    refine zv_iadd hx hb d_L_law_584 ?_
    refine z_sld hx hb hX hbl hH1 hL (by omega) (by omega) y1 d_L_law_585 ?_
    refine lv_aload_n hx hb d_L_law_586 rfl (lv_at hl 3 rfl) ?_
    refine lv_iload_n hx hb d_L_law_587 rfl (lv_at hl 0 rfl) ?_
    refine zv_iconst hx hb d_L_law_588 ?_
    refine zv_iadd hx hb d_L_law_589 ?_
    refine z_sld hx hb hX hbl hH1 hL (by omega) (by omega) y2 d_L_law_590 ?_
    refine z_calli (va_runV (As := [.int (iI v1), .int (iI v2)]) (rest := [.int (iI z1)]) ⟨hx, hb, hml, hown, hg⟩ (c_M_totalX (l := l) (E := E) (w0 := w) (g := 59) (ty := σ.ty) (xm := σ.xm) (ym := σ.ym) (ne := σ.ne) (v0 := v1) (va := v2) (q0lt := Nat.lt_of_lt_of_le (show 59 < 73 by decide) zl) (c0 := hm.1) (hz_v0 := s1) (hz_va := s2) (hbad := hin) H1.size) (z_cwV (C := "ScaledNumeralDeskModel") 2 hg wm_979 wm_976 wm_9 wm_977 wm_978 (by decide +kernel) ⟨(Nat.le_of_ble_eq_true rfl), (Nat.le_of_ble_eq_true rfl)⟩) (z_preV (r := ("ScaledNumeralDeskModel", TM, 17)) hK hG hn hH1 hA (Nat.lt_of_lt_of_le (show 59 < 73 by decide) zl) hm.1 rfl) rfl rfl hl.1 rfl (lv_room (Nat.le_of_ble_eq_true rfl)) d_L_law_591 ⟨(Nat.le_of_ble_eq_true rfl), (Nat.le_of_ble_eq_true rfl)⟩) hH1 hA (fun z2 w2 H2 lc2 hH2 hp2 => ?_)
    obtain ⟨ew2, hM⟩ := hp2
    rw [ew2] at hH2
    rw [hC, hM]
    refine lv_icmp_eq (tgt := 632) hx hb d_L_law_594 rfl (fun _ => ?_) (fun h9 => absurd rfl h9)
    exact kk w σ H2 lc2 hW hI hH2
set_option maxHeartbeats 8000000 in
set_option maxRecDepth 100000 in
theorem law_average {p : Program} {l : Launch} {e : Env} {s : State} {m : MethodId} {below : List Frame} {meth : Method} {c : Code} {b L : Nat} {xs : Nat → Int32} {E : zE} {w : zW} {σ : Sg} {H : Heap} {locs : List Loc} {Q : State → Prop} {ls : Array Slot} {i : Int} (hL : L ≤ 2560) (C : LC p s m c b L xs E) (hi : 0 ≤ i ∧ i + 5 ≤ L) (hW : Wf E w σ) (hI : Iv E σ) (hH : zH E w (lA s) s.heap H locs) (hl : lv_has ls 4 [(3, .int (iI i)), (2, .ref (ad E 59)), (1, .ref (ad E 0)), (0, .ref b)])
    (kk : ∀ (w' : zW) (σ' : Sg) (H' : Heap) (locs' : List Loc), Wf E w' σ' → Iv E σ' → zH E w' (lA s) s.heap H' locs' → W p l e room_1 s m #[Value.ref b] below meth c H' locs' 73 1902 Q (F0 m 632 ls [])) : W p l e room_1 s m #[Value.ref b] below meth c H locs 73 1902 Q (F0 m 599 ls []) := by
  obtain ⟨⟨hx, hb, hml, hown, hg⟩, hX, hbl, hK, hG, hn⟩ := C
  have hA : ∀ q, s.heap.size ≤ q → lA s q := fun q h => h
  have zl := hW.zn73
  obtain ⟨v1, y1⟩ : ∃ v, sx xs (i + 1) = v := ⟨_, rfl⟩
  have s1 : zr v1 := by rw [← y1]; exact sx_r xs _
  obtain ⟨v2, y2⟩ : ∃ v, sx xs (i + 2) = v := ⟨_, rfl⟩
  have s2 : zr v2 := by rw [← y2]; exact sx_r xs _
  by_cases hin : ((0 ≤ v1 ∧ v1 < 8) ∧ (0 ≤ v2 ∧ v2 < 4))
  · obtain ⟨rd, rfl⟩ : ∃ n : Nat, v1 = n := ⟨v1.toNat, by omega⟩
    have hrd : rd < 8 := by omega
    have i_rd : 0 ≤ (rd : Int) ∧ (rd : Int) < 8 := by omega
    obtain ⟨ks, rfl⟩ : ∃ n : Nat, v2 = n := ⟨v2.toNat, by omega⟩
    have hks : ks < 4 := by omega
    have i_ks : 0 ≤ (ks : Int) ∧ (ks : Int) < 4 := by omega
    clear hin
    refine lv_aload_n hx hb d_L_law_599 rfl (lv_at hl 2 rfl) ?_
    refine lv_aload_n hx hb d_L_law_600 rfl (lv_at hl 3 rfl) ?_
    refine lv_iload_n hx hb d_L_law_601 rfl (lv_at hl 0 rfl) ?_
    refine zv_iconst hx hb d_L_law_602 ?_
    refine zv_iadd hx hb d_L_law_603 ?_
    refine z_sld hx hb hX hbl hH hL (by omega) (by omega) y1 d_L_law_604 ?_
    refine lv_aload_n hx hb d_L_law_605 rfl (lv_at hl 3 rfl) ?_
    refine lv_iload_n hx hb d_L_law_606 rfl (lv_at hl 0 rfl) ?_
    refine zv_iconst hx hb d_L_law_607 ?_
    refine zv_iadd hx hb d_L_law_608 ?_
    refine z_sld hx hb hX hbl hH hL (by omega) (by omega) y2 d_L_law_609 ?_
    refine z_calli (va_runV (As := [.int (iI ((rd : Int))), .int (iI ((ks : Int)))]) (rest := []) ⟨hx, hb, hml, hown, hg⟩ (c_D_average (l := l) (E := E) (w0 := w) (fq := σ.fq) (fs := σ.fs) (r1 := σ.r1) (r2 := σ.r2) (r3 := σ.r3) (r4 := σ.r4) (kt := σ.kt) (plt := σ.plt) (nt := σ.nt) (ft := σ.ft) (kv := σ.kv) (plv := σ.plv) (nv := σ.nv) (fv := σ.fv) (kw := σ.kw) (plw := σ.plw) (nw := σ.nw) (fw := σ.fw) (ks := ks) (sn := (σ.SN ks)) (sz := (σ.SZ ks)) (sf := (σ.SF ks)) (cn := (σ.CN ks)) (rd := rd) (kd := (σ.K rd)) (pld := (σ.P rd)) (nd := (σ.N rd)) (fd := (σ.F rd)) (hzn := zl) (c0 := hW.fix.1) (c1 := hW.fix.2.1) (c2 := hW.fix.2.2) (c3 := hW.ben.1) (c4 := hW.ben.2.1) (c5 := hW.ben.2.2.1) (c6 := hW.ben.2.2.2.1) (c7 := hW.ben.2.2.2.2) (c8 := hW.ot.1) (c9 := hW.ot.2.1) (c10 := hW.ot.2.2) (c11 := hW.ov.1) (c12 := hW.ov.2.1) (c13 := hW.ov.2.2) (c14 := hW.ow.1) (c15 := hW.ow.2.1) (c16 := hW.ow.2.2) (c17 := (hW.sm ks hks).1) (c18 := (hW.sm ks hks).2.1) (c19 := (hW.sm ks hks).2.2.1) (c20 := (hW.sm ks hks).2.2.2) (c21 := (hW.rg rd hrd).1) (c22 := (hW.rg rd hrd).2.1) (c23 := (hW.rg rd hrd).2.2) (hfq := hI.hq) (hfs := hI.hs) (br1 := hI.b1) (br2 := hI.b2) (br3 := hI.b3) (br4 := hI.b4) (bft := hI.ot.1) (hkt := hI.ot.2.1) (hnt := hI.ot.2.2) (bfv := hI.ov.1) (hkv := hI.ov.2.1) (hnv := hI.ov.2.2) (bfw := hI.ow.1) (hkw := hI.ow.2.1) (hnw := hI.ow.2.2) (bs := (hI.sm ks hks).1) (hsn := (hI.sm ks hks).2.1) (bc := (hI.sm ks hks).2.2.1) (hsz := (hI.sm ks hks).2.2.2.1) (hks := hks) (bfd := (hI.rg rd hrd).1) (hkd := (hI.rg rd hrd).2.1) (hnd := (hI.rg rd hrd).2.2.1) (hrd := hrd) (hcs := (su_cs (hI.sm ks hks))) H.size) (z_cwV (C := "ScaledNumeralDesk") 2 hg wm_671 wm_668 wm_1 wm_669 wm_670 (by decide +kernel) ⟨(Nat.le_of_ble_eq_true rfl), (Nat.le_of_ble_eq_true rfl)⟩) (z_preV (r := ("ScaledNumeralDesk", TD, 7)) hK hG hn hH hA (Nat.lt_of_lt_of_le (show 0 < 73 by decide) zl) hW.fix.1 rfl) rfl rfl hl.1 rfl (lv_room (Nat.le_of_ble_eq_true rfl)) d_L_law_610 ⟨(Nat.le_of_ble_eq_true rfl), (Nat.le_of_ble_eq_true rfl)⟩) hH hA (fun z1 w1 H1 lc1 hH1 hp1 => ?_)
    obtain ⟨⟨r1', r2', kt', plt', nt', ft', kv', plv', nv', fv', kw', plw', nw', fw', k', p', n', f', e1, e2, e3, e4, e5, e6, e7, e8, e9, e10, e11, e12, e13, e14, cb1, cb2, cb3, cb4, cb5, cb6, hC⟩, hf1⟩ := hp1
    have hW1 := wf_D_average hrd hW e1 e2 e3 e4 e5 e6 e7 e8 e9 e10 e11 e12 e13 e14 hf1
    have hm : PMod E w1 59 σ.ty σ.xm σ.ym σ.ne σ.kf σ.mf σ.sf σ.G σ.bc σ.su σ.sz σ.cn σ.xf σ.yf σ.pf σ.rf σ.tf := hW1.md
    refine lv_aload_n hx hb d_L_law_613 rfl (lv_at hl 1 rfl) ?_
    refine lv_aload_n hx hb d_L_law_614 rfl (lv_at hl 3 rfl) ?_
    refine lv_iload_n hx hb d_L_law_615 rfl (lv_at hl 0 rfl) ?_
    refine zv_iconst hx hb d_L_law_616 ?_
    refine zv_iadd hx hb d_L_law_617 ?_
    refine z_sld hx hb hX hbl hH1 hL (by omega) (by omega) y1 d_L_law_618 ?_
    refine lv_aload_n hx hb d_L_law_619 rfl (lv_at hl 3 rfl) ?_
    refine lv_iload_n hx hb d_L_law_620 rfl (lv_at hl 0 rfl) ?_
    refine zv_iconst hx hb d_L_law_621 ?_
    refine zv_iadd hx hb d_L_law_622 ?_
    refine z_sld hx hb hX hbl hH1 hL (by omega) (by omega) y2 d_L_law_623 ?_
    refine z_calli (va_runV (As := [.int (iI ((rd : Int))), .int (iI ((ks : Int)))]) (rest := [.int (iI z1)]) ⟨hx, hb, hml, hown, hg⟩ (c_M_average (l := l) (E := E) (w0 := w1) (g := 59) (ty := σ.ty) (xm := σ.xm) (ym := σ.ym) (ne := σ.ne) (xf := σ.xf) (yf := σ.yf) (f := σ.pf) (rf := σ.rf) (su := σ.su) (cn := σ.cn) (kf := σ.kf) (mf := σ.mf) (sf := σ.sf) (G := σ.G) (sz := σ.sz) (d := (rd : Int)) (k := (ks : Int)) (q0lt := Nat.lt_of_lt_of_le (show 59 < 73 by decide) zl) (q1lt := Nat.lt_of_lt_of_le (show 59 + 9 < 73 by decide) zl) (q2lt := Nat.lt_of_lt_of_le (show 59 + 10 < 73 by decide) zl) (q3lt := Nat.lt_of_lt_of_le (show 59 + 11 < 73 by decide) zl) (q4lt := Nat.lt_of_lt_of_le (show 59 + 12 < 73 by decide) zl) (q5lt := Nat.lt_of_lt_of_le (show 59 + 6 < 73 by decide) zl) (q6lt := Nat.lt_of_lt_of_le (show 59 + 8 < 73 by decide) zl) (q7lt := Nat.lt_of_lt_of_le (show 59 + 1 < 73 by decide) zl) (q8lt := Nat.lt_of_lt_of_le (show 59 + 2 < 73 by decide) zl) (q9lt := Nat.lt_of_lt_of_le (show 59 + 3 < 73 by decide) zl) (q10lt := Nat.lt_of_lt_of_le (show 59 + 4 < 73 by decide) zl) (c0 := hm.1) (c1 := hm.2.2.2.2.2.2.2.2.2.1) (c2 := hm.2.2.2.2.2.2.2.2.2.2.1) (c3 := hm.2.2.2.2.2.2.2.2.2.2.2.1) (c4 := hm.2.2.2.2.2.2.2.2.2.2.2.2.1) (c5 := hm.2.2.2.2.2.2.1) (c6 := hm.2.2.2.2.2.2.2.2.1) (c7 := hm.2.1) (c8 := hm.2.2.1) (c9 := hm.2.2.2.1) (c10 := hm.2.2.2.2.1) (bx := hI.bx) (by1 := hI.by1) (bf := hI.bf) (br := hI.br) (bk := hI.bk) (bm := hI.bm) (bs := hI.bs) (bG := hI.bG) (hB := hI.hB) (bsz := hI.bsz) (bcn := hI.bcn) (hxm := hI.hxm) (hym := hI.hym) (hne := hI.hne) (hd := i_rd) (hk0 := i_ks) (hcs := (su_csM (hI.sm ks hks))) H1.size) (z_cwV (C := "ScaledNumeralDeskModel") 2 hg wm_988 wm_985 wm_9 wm_986 wm_987 (by decide +kernel) ⟨(Nat.le_of_ble_eq_true rfl), (Nat.le_of_ble_eq_true rfl)⟩) (z_preV (r := ("ScaledNumeralDeskModel", TM, 17)) hK hG hn hH1 hA (Nat.lt_of_lt_of_le (show 59 < 73 by decide) zl) hm.1 rfl) rfl rfl hl.1 rfl (lv_room (Nat.le_of_ble_eq_true rfl)) d_L_law_624 ⟨(Nat.le_of_ble_eq_true rfl), (Nat.le_of_ble_eq_true rfl)⟩) hH1 hA (fun z2 w2 H2 lc2 hH2 hp2 => ?_)
    obtain ⟨⟨u'', v'', n'', x'', y'', f'', r'', k'', m'', s'', G'', f1, f2, f3, f4, f5, f6, f7, f8, f9, mb1, mb2, mb3, mb4, mb5, mb6, mb7, mb8, hM⟩, hf2⟩ := hp2
    have hW2 := wf_M_average hW1 f1 f2 f3 f4 f5 f6 f7 f8 f9 hf2
    have hw9 : Wf E w2 (mkS σ.fq σ.fs σ.us σ.ch (r1') (r2') σ.r3 σ.r4 (kt') (plt') (nt') (ft') (kv') (plv') (nv') (fv') (kw') (plw') (nw') (fw') (upn σ.K rd k') (upn σ.P rd p') (upn σ.N rd n') (upn σ.F rd f') σ.SN σ.SZ σ.SF σ.CN σ.ty σ.bc (u'') (v'') (n'') (k'') (m'') (s'') (G'') σ.su σ.sz σ.cn (x'') (y'') (f'') (r'') σ.tf) := hW2
    obtain ⟨hz, hi9⟩ := iv_average hrd hks  hI cb1 cb2 cb3 cb4 cb5 cb6 hC mb1 mb2 mb3 mb4 mb5 mb6 mb7 mb8 hM
    subst hz
    refine lv_icmp_eq (tgt := 632) hx hb d_L_law_627 rfl (fun _ => ?_) (fun h9 => absurd rfl h9)
    exact kk w2 _ H2 lc2 hw9 hi9 hH2
  · have hm := hW.md
    refine lv_aload_n hx hb d_L_law_599 rfl (lv_at hl 2 rfl) ?_
    refine lv_aload_n hx hb d_L_law_600 rfl (lv_at hl 3 rfl) ?_
    refine lv_iload_n hx hb d_L_law_601 rfl (lv_at hl 0 rfl) ?_
    refine zv_iconst hx hb d_L_law_602 ?_
    refine zv_iadd hx hb d_L_law_603 ?_
    refine z_sld hx hb hX hbl hH hL (by omega) (by omega) y1 d_L_law_604 ?_
    refine lv_aload_n hx hb d_L_law_605 rfl (lv_at hl 3 rfl) ?_
    refine lv_iload_n hx hb d_L_law_606 rfl (lv_at hl 0 rfl) ?_
    refine zv_iconst hx hb d_L_law_607 ?_
    refine zv_iadd hx hb d_L_law_608 ?_
    refine z_sld hx hb hX hbl hH hL (by omega) (by omega) y2 d_L_law_609 ?_
    refine z_calli (va_runV (As := [.int (iI v1), .int (iI v2)]) (rest := []) ⟨hx, hb, hml, hown, hg⟩ (c_D_averageX (l := l) (E := E) (w0 := w) (v0 := v1) (va := v2) (hz_v0 := s1) (hz_va := s2) (hbad := hin) H.size) (z_cwV (C := "ScaledNumeralDesk") 2 hg wm_671 wm_668 wm_1 wm_669 wm_670 (by decide +kernel) ⟨(Nat.le_of_ble_eq_true rfl), (Nat.le_of_ble_eq_true rfl)⟩) (z_preV (r := ("ScaledNumeralDesk", TD, 7)) hK hG hn hH hA (Nat.lt_of_lt_of_le (show 0 < 73 by decide) zl) hW.fix.1 rfl) rfl rfl hl.1 rfl (lv_room (Nat.le_of_ble_eq_true rfl)) d_L_law_610 ⟨(Nat.le_of_ble_eq_true rfl), (Nat.le_of_ble_eq_true rfl)⟩) hH hA (fun z1 w1 H1 lc1 hH1 hp1 => ?_)
    obtain ⟨ew1, hC⟩ := hp1
    rw [ew1] at hH1
    have hm := hW.md
    refine lv_aload_n hx hb d_L_law_613 rfl (lv_at hl 1 rfl) ?_
    refine lv_aload_n hx hb d_L_law_614 rfl (lv_at hl 3 rfl) ?_
    refine lv_iload_n hx hb d_L_law_615 rfl (lv_at hl 0 rfl) ?_
    refine zv_iconst hx hb d_L_law_616 ?_
    refine zv_iadd hx hb d_L_law_617 ?_
    refine z_sld hx hb hX hbl hH1 hL (by omega) (by omega) y1 d_L_law_618 ?_
    refine lv_aload_n hx hb d_L_law_619 rfl (lv_at hl 3 rfl) ?_
    refine lv_iload_n hx hb d_L_law_620 rfl (lv_at hl 0 rfl) ?_
    refine zv_iconst hx hb d_L_law_621 ?_
    refine zv_iadd hx hb d_L_law_622 ?_
    refine z_sld hx hb hX hbl hH1 hL (by omega) (by omega) y2 d_L_law_623 ?_
    refine z_calli (va_runV (As := [.int (iI v1), .int (iI v2)]) (rest := [.int (iI z1)]) ⟨hx, hb, hml, hown, hg⟩ (c_M_averageX (l := l) (E := E) (w0 := w) (g := 59) (ty := σ.ty) (xm := σ.xm) (ym := σ.ym) (ne := σ.ne) (v0 := v1) (va := v2) (q0lt := Nat.lt_of_lt_of_le (show 59 < 73 by decide) zl) (c0 := hm.1) (hz_v0 := s1) (hz_va := s2) (hbad := hin) H1.size) (z_cwV (C := "ScaledNumeralDeskModel") 2 hg wm_988 wm_985 wm_9 wm_986 wm_987 (by decide +kernel) ⟨(Nat.le_of_ble_eq_true rfl), (Nat.le_of_ble_eq_true rfl)⟩) (z_preV (r := ("ScaledNumeralDeskModel", TM, 17)) hK hG hn hH1 hA (Nat.lt_of_lt_of_le (show 59 < 73 by decide) zl) hm.1 rfl) rfl rfl hl.1 rfl (lv_room (Nat.le_of_ble_eq_true rfl)) d_L_law_624 ⟨(Nat.le_of_ble_eq_true rfl), (Nat.le_of_ble_eq_true rfl)⟩) hH1 hA (fun z2 w2 H2 lc2 hH2 hp2 => ?_)
    obtain ⟨ew2, hM⟩ := hp2
    rw [ew2] at hH2
    rw [hC, hM]
    refine lv_icmp_eq (tgt := 632) hx hb d_L_law_627 rfl (fun _ => ?_) (fun h9 => absurd rfl h9)
    exact kk w σ H2 lc2 hW hI hH2
