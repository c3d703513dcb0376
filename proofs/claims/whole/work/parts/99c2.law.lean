set_option maxHeartbeats 8000000 in
set_option maxRecDepth 100000 in
theorem law_compare {p : Program} {l : Launch} {e : Env} {s : State} {m : MethodId} {below : List Frame} {meth : Method} {c : Code} {b L : Nat} {xs : Nat → Int32} {E : zE} {w : zW} {σ : Sg} {H : Heap} {locs : List Loc} {Q : State → Prop} {ls : Array Slot} {i : Int} (hL : L ≤ 2560) (C : LC p s m c b L xs E) (hi : 0 ≤ i ∧ i + 5 ≤ L) (hW : Wf E w σ) (hI : Iv E σ) (hH : zH E w (lA s) s.heap H locs) (hl : lv_has ls 4 [(3, .int (iI i)), (2, .ref (ad E 59)), (1, .ref (ad E 0)), (0, .ref b)])
    (kk : ∀ (w' : zW) (σ' : Sg) (H' : Heap) (locs' : List Loc), Wf E w' σ' → Iv E σ' → zH E w' (lA s) s.heap H' locs' → W p l e room_1 s m #[Value.ref b] below meth c H' locs' 73 1902 Q (F0 m 632 ls [])) : W p l e room_1 s m #[Value.ref b] below meth c H locs 73 1902 Q (F0 m 388 ls []) := by
  obtain ⟨⟨hx, hb, hml, hown, hg⟩, hX, hbl, hK, hG, hn⟩ := C
  have hA : ∀ q, s.heap.size ≤ q → lA s q := fun q h => h
  have zl := hW.zn73
  obtain ⟨v1, y1⟩ : ∃ v, sx xs (i + 1) = v := ⟨_, rfl⟩
  have s1 : zr v1 := by rw [← y1]; exact sx_r xs _
  obtain ⟨v2, y2⟩ : ∃ v, sx xs (i + 2) = v := ⟨_, rfl⟩
  have s2 : zr v2 := by rw [← y2]; exact sx_r xs _
  by_cases hin : ((0 ≤ v1 ∧ v1 < 8) ∧ (0 ≤ v2 ∧ v2 < 8))
  · obtain ⟨ra, rfl⟩ : ∃ n : Nat, v1 = n := ⟨v1.toNat, by omega⟩
    have hra : ra < 8 := by omega
    have i_ra : 0 ≤ (ra : Int) ∧ (ra : Int) < 8 := by omega
    obtain ⟨rb, rfl⟩ : ∃ n : Nat, v2 = n := ⟨v2.toNat, by omega⟩
    have hrb : rb < 8 := by omega
    have i_rb : 0 ≤ (rb : Int) ∧ (rb : Int) < 8 := by omega
    clear hin
    refine lv_aload_n hx hb d_L_law_388 rfl (lv_at hl 2 rfl) ?_
    refine lv_aload_n hx hb d_L_law_389 rfl (lv_at hl 3 rfl) ?_
    refine lv_iload_n hx hb d_L_law_390 rfl (lv_at hl 0 rfl) ?_
    refine zv_iconst hx hb d_L_law_391 ?_
    refine zv_iadd hx hb d_L_law_392 ?_
    refine z_sld hx hb hX hbl hH hL (by omega) (by omega) y1 d_L_law_393 ?_
    refine lv_aload_n hx hb d_L_law_394 rfl (lv_at hl 3 rfl) ?_
    refine lv_iload_n hx hb d_L_law_395 rfl (lv_at hl 0 rfl) ?_
    refine zv_iconst hx hb d_L_law_396 ?_
    refine zv_iadd hx hb d_L_law_397 ?_
    refine z_sld hx hb hX hbl hH hL (by omega) (by omega) y2 d_L_law_398 ?_
    refine z_calli (va_runV (As := [.int (iI ((ra : Int))), .int (iI ((rb : Int)))]) (rest := []) ⟨hx, hb, hml, hown, hg⟩ (c_D_compare (l := l) (E := E) (w0 := w) (fq := σ.fq) (ra := ra) (ka := (σ.K ra)) (pla := (σ.P ra)) (na := (σ.N ra)) (fa := (σ.F ra)) (rb := rb) (kb := (σ.K rb)) (plb := (σ.P rb)) (nb := (σ.N rb)) (fb := (σ.F rb)) (hzn := zl) (c0 := hW.fix.1) (c1 := hW.fix.2.1) (c2 := (hW.rg ra hra).1) (c3 := (hW.rg ra hra).2.1) (c4 := (hW.rg ra hra).2.2) (c5 := (hW.rg rb hrb).1) (c6 := (hW.rg rb hrb).2.1) (c7 := (hW.rg rb hrb).2.2) (hfq := hI.hq) (bfa := (hI.rg ra hra).1) (hka := (hI.rg ra hra).2.1) (hna := (hI.rg ra hra).2.2.1) (hra := hra) (hpa := (hI.rg ra hra).2.2.2.1) (hva := (hI.rg ra hra).2.2.2.2.1) (hca := (hI.rg ra hra).2.2.2.2.2.1) (hfa := (hI.rg ra hra).2.2.2.2.2.2.1) (bfb := (hI.rg rb hrb).1) (hkb := (hI.rg rb hrb).2.1) (hnb := (hI.rg rb hrb).2.2.1) (hrb := hrb) (hpb := (hI.rg rb hrb).2.2.2.1) (hvb := (hI.rg rb hrb).2.2.2.2.1) (hcb := (hI.rg rb hrb).2.2.2.2.2.1) (hfb := (hI.rg rb hrb).2.2.2.2.2.2.1) H.size) (z_cwV (C := "ScaledNumeralDesk") 2 hg wm_581 wm_578 wm_1 wm_579 wm_580 (by decide +kernel) ⟨(Nat.le_of_ble_eq_true rfl), (Nat.le_of_ble_eq_true rfl)⟩) (z_preV (r := ("ScaledNumeralDesk", TD, 7)) hK hG hn hH hA (Nat.lt_of_lt_of_le (show 0 < 73 by decide) zl) hW.fix.1 rfl) rfl rfl hl.1 rfl (lv_room (Nat.le_of_ble_eq_true rfl)) d_L_law_399 ⟨(Nat.le_of_ble_eq_true rfl), (Nat.le_of_ble_eq_true rfl)⟩) hH hA (fun z1 w1 H1 lc1 hH1 hp1 => ?_)
    obtain ⟨ew1, hC⟩ := hp1
    rw [ew1] at hH1
    have hm := hW.md
    refine lv_aload_n hx hb d_L_law_402 rfl (lv_at hl 1 rfl) ?_
    refine lv_aload_n hx hb d_L_law_403 rfl (lv_at hl 3 rfl) ?_
    refine lv_iload_n hx hb d_L_law_404 rfl (lv_at hl 0 rfl) ?_
    refine zv_iconst hx hb d_L_law_405 ?_
    refine zv_iadd hx hb d_L_law_406 ?_
    refine z_sld hx hb hX hbl hH1 hL (by omega) (by omega) y1 d_L_law_407 ?_
    refine lv_aload_n hx hb d_L_law_408 rfl (lv_at hl 3 rfl) ?_
    refine lv_iload_n hx hb d_L_law_409 rfl (lv_at hl 0 rfl) ?_
    refine zv_iconst hx hb d_L_law_410 ?_
    refine zv_iadd hx hb d_L_law_411 ?_
    refine z_sld hx hb hX hbl hH1 hL (by omega) (by omega) y2 d_L_law_412 ?_
    refine z_calli (va_runV (As := [.int (iI ((ra : Int))), .int (iI ((rb : Int)))]) (rest := [.int (iI z1)]) ⟨hx, hb, hml, hown, hg⟩ (c_M_compare (l := l) (E := E) (w0 := w) (g := 59) (ty := σ.ty) (xm := σ.xm) (ym := σ.ym) (ne := σ.ne) (xf := σ.xf) (yf := σ.yf) (kf := σ.kf) (mf := σ.mf) (G := σ.G) (ra := (ra : Int)) (rb := (rb : Int)) (q0lt := Nat.lt_of_lt_of_le (show 59 < 73 by decide) zl) (q1lt := Nat.lt_of_lt_of_le (show 59 + 9 < 73 by decide) zl) (q2lt := Nat.lt_of_lt_of_le (show 59 + 10 < 73 by decide) zl) (q3lt := Nat.lt_of_lt_of_le (show 59 + 1 < 73 by decide) zl) (q4lt := Nat.lt_of_lt_of_le (show 59 + 2 < 73 by decide) zl) (q5lt := Nat.lt_of_lt_of_le (show 59 + 4 < 73 by decide) zl) (c0 := hm.1) (c1 := hm.2.2.2.2.2.2.2.2.2.1) (c2 := hm.2.2.2.2.2.2.2.2.2.2.1) (c3 := hm.2.1) (c4 := hm.2.2.1) (c5 := hm.2.2.2.2.1) (bx := hI.bx) (by1 := hI.by1) (bk := hI.bk) (bm := hI.bm) (bG := hI.bG) (hxm := hI.hxm) (hym := hI.hym) (hra := i_ra) (hrb := i_rb) H1.size) (z_cwV (C := "ScaledNumeralDeskModel") 2 hg wm_943 wm_940 wm_9 wm_941 wm_942 (by decide +kernel) ⟨(Nat.le_of_ble_eq_true rfl), (Nat.le_of_ble_eq_true rfl)⟩) (z_preV (r := ("ScaledNumeralDeskModel", TM, 17)) hK hG hn hH1 hA (Nat.lt_of_lt_of_le (show 59 < 73 by decide) zl) hm.1 rfl) rfl rfl hl.1 rfl (lv_room (Nat.le_of_ble_eq_true rfl)) d_L_law_413 ⟨(Nat.le_of_ble_eq_true rfl), (Nat.le_of_ble_eq_true rfl)⟩) hH1 hA (fun z2 w2 H2 lc2 hH2 hp2 => ?_)
    obtain ⟨⟨u'', v'', x'', y'', f1, f2, f3, mb1, mb2, hM⟩, hf2⟩ := hp2
    have hW2 := wf_M_compare hW f1 f2 f3 hf2
    have hw9 : Wf E w2 (mkS σ.fq σ.fs σ.us σ.ch σ.r1 σ.r2 σ.r3 σ.r4 σ.kt σ.plt σ.nt σ.ft σ.kv σ.plv σ.nv σ.fv σ.kw σ.plw σ.nw σ.fw σ.K σ.P σ.N σ.F σ.SN σ.SZ σ.SF σ.CN σ.ty σ.bc (u'') (v'') σ.ne σ.kf σ.mf σ.sf σ.G σ.su σ.sz σ.cn (x'') (y'') σ.pf σ.rf σ.tf) := hW2
    obtain ⟨hz, hi9⟩ := iv_compare hra hrb  hI  hC mb1 mb2 hM
    subst hz
    refine lv_icmp_eq (tgt := 632) hx hb d_L_law_416 rfl (fun _ => ?_) (fun h9 => absurd rfl h9)
    exact kk w2 _ H2 lc2 hw9 hi9 hH2
  · have hm := hW.md
    refine lv_aload_n hx hb d_L_law_388 rfl (lv_at hl 2 rfl) ?_
    refine lv_aload_n hx hb d_L_law_389 rfl (lv_at hl 3 rfl) ?_
    refine lv_iload_n hx hb d_L_law_390 rfl (lv_at hl 0 rfl) ?_
    refine zv_iconst hx hb d_L_law_391 ?_
    refine zv_iadd hx hb d_L_law_392 ?_
    refine z_sld hx hb hX hbl hH hL (by omega) (by omega) y1 d_L_law_393 ?_
    refine lv_aload_n hx hb d_L_law_394 rfl (lv_at hl 3 rfl) ?_
    refine lv_iload_n hx hb d_L_law_395 rfl (lv_at hl 0 rfl) ?_
    refine zv_iconst hx hb d_L_law_396 ?_
    refine zv_iadd hx hb d_L_law_397 ?_
    refine z_sld hx hb hX hbl hH hL (by omega) (by omega) y2 d_L_law_398 ?_
    refine z_calli (va_runV (As := [.int (iI v1), .int (iI v2)]) (rest := []) ⟨hx, hb, hml, hown, hg⟩ (c_D_compareX (l := l) (E := E) (w0 := w) (va := v1) (vb := v2) (hz_va := s1) (hz_vb := s2) (hbad := hin) H.size) (z_cwV (C := "ScaledNumeralDesk") 2 hg wm_581 wm_578 wm_1 wm_579 wm_580 (by decide +kernel) ⟨(Nat.le_of_ble_eq_true rfl), (Nat.le_of_ble_eq_true rfl)⟩) (z_preV (r := ("ScaledNumeralDesk", TD, 7)) hK hG hn hH hA (Nat.lt_of_lt_of_le (show 0 < 73 by decide) zl) hW.fix.1 rfl) rfl rfl hl.1 rfl (lv_room (Nat.le_of_ble_eq_true rfl)) d_L_law_399 ⟨(Nat.le_of_ble_eq_true rfl), (Nat.le_of_ble_eq_true rfl)⟩) hH hA (fun z1 w1 H1 lc1 hH1 hp1 => ?_)
    obtain ⟨ew1, hC⟩ := hp1
    rw [ew1] at hH1
    have hm := hW.md
    refine lv_aload_n hx hb d_L_law_402 rfl (lv_at hl 1 rfl) ?_
    refine lv_aload_n hx hb d_L_law_403 rfl (lv_at hl 3 rfl) ?_
    refine lv_iload_n hx hb d_L_law_404 rfl (lv_at hl 0 rfl) ?_
    refine zv_iconst hx hb d_L_law_405 ?_
    refine zv_iadd hx hb d_L_law_406 ?_
    refine z_sld hx hb hX hbl hH1 hL (by omega) (by omega) y1 d_L_law_407 ?_
    refine lv_aload_n hx hb d_L_law_408 rfl (lv_at hl 3 rfl) ?_
    refine lv_iload_n hx hb d_L_law_409 rfl (lv_at hl 0 rfl) ?_
    refine zv_iconst hx hb d_L_law_410 ?_
    refine zv_iadd hx hb d_L_law_411 ?_
    refine z_sld hx hb hX hbl hH1 hL (by omega) (by omega) y2 d_L_law_412 ?_
    refine z_calli (va_runV (As := [.int (iI v1), .int (iI v2)]) (rest := [.int (iI z1)]) ⟨hx, hb, hml, hown, hg⟩ (c_M_compareX (l := l) (E := E) (w0 := w) (g := 59) (ty := σ.ty) (xm := σ.xm) (ym := σ.ym) (ne := σ.ne) (va := v1) (vb := v2) (q0lt := Nat.lt_of_lt_of_le (show 59 < 73 by decide) zl) (c0 := hm.1) (hz_va := s1) (hz_vb := s2) (hbad := hin) H1.size) (z_cwV (C := "ScaledNumeralDeskModel") 2 hg wm_943 wm_940 wm_9 wm_941 wm_942 (by decide +kernel) ⟨(Nat.le_of_ble_eq_true rfl), (Nat.le_of_ble_eq_true rfl)⟩) (z_preV (r := ("ScaledNumeralDeskModel", TM, 17)) hK hG hn hH1 hA (Nat.lt_of_lt_of_le (show 59 < 73 by decide) zl) hm.1 rfl) rfl rfl hl.1 rfl (lv_room (Nat.le_of_ble_eq_true rfl)) d_L_law_413 ⟨(Nat.le_of_ble_eq_true rfl), (Nat.le_of_ble_eq_true rfl)⟩) hH1 hA (fun z2 w2 H2 lc2 hH2 hp2 => ?_)
    obtain ⟨ew2, hM⟩ := hp2
    rw [ew2] at hH2
    rw [hC, hM]
    refine lv_icmp_eq (tgt := 632) hx hb d_L_law_416 rfl (fun _ => ?_) (fun h9 => absurd rfl h9)
    exact kk w σ H2 lc2 hW hI hH2
set_option maxHeartbeats 8000000 in
set_option maxRecDepth 100000 in
theorem law_accept {p : Program} {l : Launch} {e : Env} {s : State} {m : MethodId} {below : List Frame} {meth : Method} {c : Code} {b L : Nat} {xs : Nat → Int32} {E : zE} {w : zW} {σ : Sg} {H : Heap} {locs : List Loc} {Q : State → Prop} {ls : Array Slot} {i : Int} (hL : L ≤ 2560) (C : LC p s m c b L xs E) (hi : 0 ≤ i ∧ i + 5 ≤ L) (hW : Wf E w σ) (hI : Iv E σ) (hH : zH E w (lA s) s.heap H locs) (hl : lv_has ls 4 [(3, .int (iI i)), (2, .ref (ad E 59)), (1, .ref (ad E 0)), (0, .ref b)])
    (kk : ∀ (w' : zW) (σ' : Sg) (H' : Heap) (locs' : List Loc), Wf E w' σ' → Iv E σ' → zH E w' (lA s) s.heap H' locs' → W p l e room_1 s m #[Value.ref b] below meth c H' locs' 73 1902 Q (F0 m 632 ls [])) : W p l e room_1 s m #[Value.ref b] below meth c H locs 73 1902 Q (F0 m 421 ls []) := by
  obtain ⟨⟨hx, hb, hml, hown, hg⟩, hX, hbl, hK, hG, hn⟩ := C
  have hA : ∀ q, s.heap.size ≤ q → lA s q := fun q h => h
  have zl := hW.zn73
  obtain ⟨v1, y1⟩ : ∃ v, sx xs (i + 1) = v := ⟨_, rfl⟩
  have s1 : zr v1 := by rw [← y1]; exact sx_r xs _
  obtain ⟨v2, y2⟩ : ∃ v, sx xs (i + 2) = v := ⟨_, rfl⟩
  have s2 : zr v2 := by rw [← y2]; exact sx_r xs _
  by_cases hin : ((0 ≤ v1 ∧ v1 < 4) ∧ (0 ≤ v2 ∧ v2 < 8))
  · obtain ⟨ks, rfl⟩ : ∃ n : Nat, v1 = n := ⟨v1.toNat, by omega⟩
    have hks : ks < 4 := by omega
    have i_ks : 0 ≤ (ks : Int) ∧ (ks : Int) < 4 := by omega
    obtain ⟨ra, rfl⟩ : ∃ n : Nat, v2 = n := ⟨v2.toNat, by omega⟩
    have hra : ra < 8 := by omega
    have i_ra : 0 ≤ (ra : Int) ∧ (ra : Int) < 8 := by omega
    clear hin
    refine lv_aload_n hx hb d_L_law_421 rfl (lv_at hl 2 rfl) ?_
    refine lv_aload_n hx hb d_L_law_422 rfl (lv_at hl 3 rfl) ?_
    refine lv_iload_n hx hb d_L_law_423 rfl (lv_at hl 0 rfl) ?_
    refine zv_iconst hx hb d_L_law_424 ?_
    refine zv_iadd hx hb d_L_law_425 ?_
    refine z_sld hx hb hX hbl hH hL (by omega) (by omega) y1 d_L_law_426 ?_
    refine lv_aload_n hx hb d_L_law_427 rfl (lv_at hl 3 rfl) ?_
    refine lv_iload_n hx hb d_L_law_428 rfl (lv_at hl 0 rfl) ?_
    refine zv_iconst hx hb d_L_law_429 ?_
    refine zv_iadd hx hb d_L_law_430 ?_
    refine z_sld hx hb hX hbl hH hL (by omega) (by omega) y2 d_L_law_431 ?_
    refine z_calli (va_runV (As := [.int (iI ((ks : Int))), .int (iI ((ra : Int)))]) (rest := []) ⟨hx, hb, hml, hown, hg⟩ (c_D_accept (l := l) (E := E) (w0 := w) (fq := σ.fq) (fs := σ.fs) (ks := ks) (sn := (σ.SN ks)) (sz := (σ.SZ ks)) (sf := (σ.SF ks)) (cn := (σ.CN ks)) (ra := ra) (ka := (σ.K ra)) (pla := (σ.P ra)) (na := (σ.N ra)) (fa := (σ.F ra)) (hzn := zl) (c0 := hW.fix.1) (c1 := hW.fix.2.1) (c2 := hW.fix.2.2) (c3 := (hW.sm ks hks).1) (c4 := (hW.sm ks hks).2.1) (c5 := (hW.sm ks hks).2.2.1) (c6 := (hW.sm ks hks).2.2.2) (c7 := (hW.rg ra hra).1) (c8 := (hW.rg ra hra).2.1) (c9 := (hW.rg ra hra).2.2) (hfq := hI.hq) (hfs := hI.hs) (bs := (hI.sm ks hks).1) (hsn := (hI.sm ks hks).2.1) (bc := (hI.sm ks hks).2.2.1) (hsz := (hI.sm ks hks).2.2.2.1) (hks := hks) (bfa := (hI.rg ra hra).1) (hka := (hI.rg ra hra).2.1) (hna := (hI.rg ra hra).2.2.1) (hra := hra) (hpa := (hI.rg ra hra).2.2.2.1) (hva := (hI.rg ra hra).2.2.2.2.1) (hca := (hI.rg ra hra).2.2.2.2.2.1) (hfa := (hI.rg ra hra).2.2.2.2.2.2.1) (hs := (su_lt1 (hI.sm ks hks) (hI.rg ra hra))) (csf := (hI.sm ks hks).2.2.2.2.2.1) H.size) (z_cwV (C := "ScaledNumeralDesk") 2 hg wm_596 wm_593 wm_1 wm_594 wm_595 (by decide +kernel) ⟨(Nat.le_of_ble_eq_true rfl), (Nat.le_of_ble_eq_true rfl)⟩) (z_preV (r := ("ScaledNumeralDesk", TD, 7)) hK hG hn hH hA (Nat.lt_of_lt_of_le (show 0 < 73 by decide) zl) hW.fix.1 rfl) rfl rfl hl.1 rfl (lv_room (Nat.le_of_ble_eq_true rfl)) d_L_law_432 ⟨(Nat.le_of_ble_eq_true rfl), (Nat.le_of_ble_eq_true rfl)⟩) hH hA (fun z1 w1 H1 lc1 hH1 hp1 => ?_)
    obtain ⟨⟨s', n', f', c', e1, e2, e3, e4, cb1, cb2, hC⟩, hf1⟩ := hp1
    have hW1 := wf_D_accept hks hW e1 e2 e3 e4 hf1
    have hm : PMod E w1 59 σ.ty σ.xm σ.ym σ.ne σ.kf σ.mf σ.sf σ.G σ.bc σ.su σ.sz σ.cn σ.xf σ.yf σ.pf σ.rf σ.tf := hW1.md
    refine lv_aload_n hx hb d_L_law_435 rfl (lv_at hl 1 rfl) ?_
    refine lv_aload_n hx hb d_L_law_436 rfl (lv_at hl 3 rfl) ?_
    refine lv_iload_n hx hb d_L_law_437 rfl (lv_at hl 0 rfl) ?_
    refine zv_iconst hx hb d_L_law_438 ?_
    refine zv_iadd hx hb d_L_law_439 ?_
    refine z_sld hx hb hX hbl hH1 hL (by omega) (by omega) y1 d_L_law_440 ?_
    refine lv_aload_n hx hb d_L_law_441 rfl (lv_at hl 3 rfl) ?_
    refine lv_iload_n hx hb d_L_law_442 rfl (lv_at hl 0 rfl) ?_
    refine zv_iconst hx hb d_L_law_443 ?_
    refine zv_iadd hx hb d_L_law_444 ?_
    refine z_sld hx hb hX hbl hH1 hL (by omega) (by omega) y2 d_L_law_445 ?_
    refine z_calli (va_runV (As := [.int (iI ((ks : Int))), .int (iI ((ra : Int)))]) (rest := [.int (iI z1)]) ⟨hx, hb, hml, hown, hg⟩ (c_M_accept (l := l) (E := E) (w0 := w1) (g := 59) (ty := σ.ty) (xm := σ.xm) (ym := σ.ym) (ne := σ.ne) (kf := σ.kf) (mf := σ.mf) (sf := σ.sf) (G := σ.G) (su := σ.su) (sz := σ.sz) (cn := σ.cn) (k := (ks : Int)) (ra := (ra : Int)) (q0lt := Nat.lt_of_lt_of_le (show 59 < 73 by decide) zl) (q1lt := Nat.lt_of_lt_of_le (show 59 + 1 < 73 by decide) zl) (q2lt := Nat.lt_of_lt_of_le (show 59 + 2 < 73 by decide) zl) (q3lt := Nat.lt_of_lt_of_le (show 59 + 3 < 73 by decide) zl) (q4lt := Nat.lt_of_lt_of_le (show 59 + 4 < 73 by decide) zl) (q5lt := Nat.lt_of_lt_of_le (show 59 + 6 < 73 by decide) zl) (q6lt := Nat.lt_of_lt_of_le (show 59 + 7 < 73 by decide) zl) (q7lt := Nat.lt_of_lt_of_le (show 59 + 8 < 73 by decide) zl) (c0 := hm.1) (c1 := hm.2.1) (c2 := hm.2.2.1) (c3 := hm.2.2.2.1) (c4 := hm.2.2.2.2.1) (c5 := hm.2.2.2.2.2.2.1) (c6 := hm.2.2.2.2.2.2.2.1) (c7 := hm.2.2.2.2.2.2.2.2.1) (bk := hI.bk) (bm := hI.bm) (bs := hI.bs) (bG := hI.bG) (hB := hI.hB) (bsz := hI.bsz) (bcn := hI.bcn) (hk0 := i_ks) (hra := i_ra) H1.size) (z_cwV (C := "ScaledNumeralDeskModel") 2 hg wm_951 wm_948 wm_9 wm_949 wm_950 (by decide +kernel) ⟨(Nat.le_of_ble_eq_true rfl), (Nat.le_of_ble_eq_true rfl)⟩) (z_preV (r := ("ScaledNumeralDeskModel", TM, 17)) hK hG hn hH1 hA (Nat.lt_of_lt_of_le (show 59 < 73 by decide) zl) hm.1 rfl) rfl rfl hl.1 rfl (lv_room (Nat.le_of_ble_eq_true rfl)) d_L_law_446 ⟨(Nat.le_of_ble_eq_true rfl), (Nat.le_of_ble_eq_true rfl)⟩) hH1 hA (fun z2 w2 H2 lc2 hH2 hp2 => ?_)
    obtain ⟨⟨su'', sz'', cn'', f1, f2, f3, hM⟩, hf2⟩ := hp2
    have hW2 := wf_M_accept hW1 f1 f2 f3 hf2
    have hw9 : Wf E w2 (mkS σ.fq σ.fs σ.us σ.ch σ.r1 σ.r2 σ.r3 σ.r4 σ.kt σ.plt σ.nt σ.ft σ.kv σ.plv σ.nv σ.fv σ.kw σ.plw σ.nw σ.fw σ.K σ.P σ.N σ.F (upn σ.SN ks n') (upn σ.SZ ks s') (upn σ.SF ks f') (upn σ.CN ks c') σ.ty σ.bc σ.xm σ.ym σ.ne σ.kf σ.mf σ.sf σ.G (su'') (sz'') (cn'') σ.xf σ.yf σ.pf σ.rf σ.tf) := hW2
    obtain ⟨hz, hi9⟩ := iv_accept hks hra  hI cb1 cb2 hC  hM
    subst hz
    refine lv_icmp_eq (tgt := 632) hx hb d_L_law_449 rfl (fun _ => ?_) (fun h9 => absurd rfl h9)
    exact kk w2 _ H2 lc2 hw9 hi9 hH2
  · have hm := hW.md
    refine lv_aload_n hx hb d_L_law_421 rfl (lv_at hl 2 rfl) ?_
    refine lv_aload_n hx hb d_L_law_422 rfl (lv_at hl 3 rfl) ?_
    refine lv_iload_n hx hb d_L_law_423 rfl (lv_at hl 0 rfl) ?_
    refine zv_iconst hx hb d_L_law_424 ?_
    refine zv_iadd hx hb d_L_law_425 ?_
    refine z_sld hx hb hX hbl hH hL (by omega) (by omega) y1 d_L_law_426 ?_
    refine lv_aload_n hx hb d_L_law_427 rfl (lv_at hl 3 rfl) ?_
    refine lv_iload_n hx hb d_L_law_428 rfl (lv_at hl 0 rfl) ?_
    refine zv_iconst hx hb d_L_law_429 ?_
    refine zv_iadd hx hb d_L_law_430 ?_
    refine z_sld hx hb hX hbl hH hL (by omega) (by omega) y2 d_L_law_431 ?_
    refine z_calli (va_runV (As := [.int (iI v1), .int (iI v2)]) (rest := []) ⟨hx, hb, hml, hown, hg⟩ (c_D_acceptX (l := l) (E := E) (w0 := w) (v0 := v1) (va := v2) (hz_v0 := s1) (hz_va := s2) (hbad := hin) H.size) (z_cwV (C := "ScaledNumeralDesk") 2 hg wm_596 wm_593 wm_1 wm_594 wm_595 (by decide +kernel) ⟨(Nat.le_of_ble_eq_true rfl), (Nat.le_of_ble_eq_true rfl)⟩) (z_preV (r := ("ScaledNumeralDesk", TD, 7)) hK hG hn hH hA (Nat.lt_of_lt_of_le (show 0 < 73 by decide) zl) hW.fix.1 rfl) rfl rfl hl.1 rfl (lv_room (Nat.le_of_ble_eq_true rfl)) d_L_law_432 ⟨(Nat.le_of_ble_eq_true rfl), (Nat.le_of_ble_eq_true rfl)⟩) hH hA (fun z1 w1 H1 lc1 hH1 hp1 => ?_)
    obtain ⟨ew1, hC⟩ := hp1
    rw [ew1] at hH1
    have hm := hW.md
    refine lv_aload_n hx hb d_L_law_435 rfl (lv_at hl 1 rfl) ?_
    refine lv_aload_n hx hb d_L_law_436 rfl (lv_at hl 3 rfl) ?_
    refine lv_iload_n hx hb d_L_law_437 rfl (lv_at hl 0 rfl) ?_
    refine zv_iconst hx hb d_L_law_438 ?_
    refine zv_iadd hx hb d_L_law_439 ?_
    refine z_sld hx hb hX hbl hH1 hL (by omega) (by omega) y1 d_L_law_440 ?_
    refine lv_aload_n hx hb d_L_law_441 rfl (lv_at hl 3 rfl) ?_
    refine lv_iload_n hx hb d_L_law_442 rfl (lv_at hl 0 rfl) ?_
    refine zv_iconst hx hb d_L_law_443 ?_
    refine zv_iadd hx hb d_L_law_444 ?_
    refine z_sld hx hb hX hbl hH1 hL (by omega) (by omega) y2 d_L_law_445 ?_
    refine z_calli (va_runV (As := [.int (iI v1), .int (iI v2)]) (rest := [.int (iI z1)]) ⟨hx, hb, hml, hown, hg⟩ (c_M_acceptX (l := l) (E := E) (w0 := w) (g := 59) (ty := σ.ty) (xm := σ.xm) (ym := σ.ym) (ne := σ.ne) (v0 := v1) (va := v2) (q0lt := Nat.lt_of_lt_of_le (show 59 < 73 by decide) zl) (c0 := hm.1) (hz_v0 := s1) (hz_va := s2) (hbad := hin) H1.size) (z_cwV (C := "ScaledNumeralDeskModel") 2 hg wm_951 wm_948 wm_9 wm_949 wm_950 (by decide +kernel) ⟨(Nat.le_of_ble_eq_true rfl), (Nat.le_of_ble_eq_true rfl)⟩) (z_preV (r := ("ScaledNumeralDeskModel", TM, 17)) hK hG hn hH1 hA (Nat.lt_of_lt_of_le (show 59 < 73 by decide) zl) hm.1 rfl) rfl rfl hl.1 rfl (lv_room (Nat.le_of_ble_eq_true rfl)) d_L_law_446 ⟨(Nat.le_of_ble_eq_true rfl), (Nat.le_of_ble_eq_true rfl)⟩) hH1 hA (fun z2 w2 H2 lc2 hH2 hp2 => ?_)
    obtain ⟨ew2, hM⟩ := hp2
    rw [ew2] at hH2
    rw [hC, hM]
    refine lv_icmp_eq (tgt := 632) hx hb d_L_law_449 rfl (fun _ => ?_) (fun h9 => absurd rfl h9)
    exact kk w σ H2 lc2 hW hI hH2
set_option maxHeartbeats 8000000 in
set_option maxRecDepth 100000 in
theorem law_discard {p : Program} {l : Launch} {e : Env} {s : State} {m : MethodId} {below : List Frame} {meth : Method} {c : Code} {b L : Nat} {xs : Nat → Int32} {E : zE} {w : zW} {σ : Sg} {H : Heap} {locs : List Loc} {Q : State → Prop} {ls : Array Slot} {i : Int} (hL : L ≤ 2560) (C : LC p s m c b L xs E) (hi : 0 ≤ i ∧ i + 5 ≤ L) (hW : Wf E w σ) (hI : Iv E σ) (hH : zH E w (lA s) s.heap H locs) (hl : lv_has ls 4 [(3, .int (iI i)), (2, .ref (ad E 59)), (1, .ref (ad E 0)), (0, .ref b)])
    (kk : ∀ (w' : zW) (σ' : Sg) (H' : Heap) (locs' : List Loc), Wf E w' σ' → Iv E σ' → zH E w' (lA s) s.heap H' locs' → W p l e room_1 s m #[Value.ref b] below meth c H' locs' 73 1902 Q (F0 m 632 ls [])) : W p l e room_1 s m #[Value.ref b] below meth c H locs 73 1902 Q (F0 m 454 ls []) := by
  obtain ⟨⟨hx, hb, hml, hown, hg⟩, hX, hbl, hK, hG, hn⟩ := C
  have hA : ∀ q, s.heap.size ≤ q → lA s q := fun q h => h
  have zl := hW.zn73
  obtain ⟨v1, y1⟩ : ∃ v, sx xs (i + 1) = v := ⟨_, rfl⟩
  have s1 : zr v1 := by rw [← y1]; exact sx_r xs _
  obtain ⟨v2, y2⟩ : ∃ v, sx xs (i + 2) = v := ⟨_, rfl⟩
  have s2 : zr v2 := by rw [← y2]; exact sx_r xs _
  by_cases hin : ((0 ≤ v1 ∧ v1 < 4) ∧ (0 ≤ v2 ∧ v2 < 8))
  · obtain ⟨ks, rfl⟩ : ∃ n : Nat, v1 = n := ⟨v1.toNat, by omega⟩
    have hks : ks < 4 := by omega
    have i_ks : 0 ≤ (ks : Int) ∧ (ks : Int) < 4 := by omega
    obtain ⟨ra, rfl⟩ : ∃ n : Nat, v2 = n := ⟨v2.toNat, by omega⟩
    have hra : ra < 8 := by omega
    have i_ra : 0 ≤ (ra : Int) ∧ (ra : Int) < 8 := by omega
    clear hin
    refine lv_aload_n hx hb d_L_law_454 rfl (lv_at hl 2 rfl) ?_
    refine lv_aload_n hx hb d_L_law_455 rfl (lv_at hl 3 rfl) ?_
    refine lv_iload_n hx hb d_L_law_456 rfl (lv_at hl 0 rfl) ?_
    refine zv_iconst hx hb d_L_law_457 ?_
    refine zv_iadd hx hb d_L_law_458 ?_
    refine z_sld hx hb hX hbl hH hL (by omega) (by omega) y1 d_L_law_459 ?_
    refine lv_aload_n hx hb d_L_law_460 rfl (lv_at hl 3 rfl) ?_
    refine lv_iload_n hx hb d_L_law_461 rfl (lv_at hl 0 rfl) ?_
    refine zv_iconst hx hb d_L_law_462 ?_
    refine zv_iadd hx hb d_L_law_463 ?_
    refine z_sld hx hb hX hbl hH hL (by omega) (by omega) y2 d_L_law_464 ?_
    refine z_calli (va_runV (As := [.int (iI ((ks : Int))), .int (iI ((ra : Int)))]) (rest := []) ⟨hx, hb, hml, hown, hg⟩ (c_D_discard (l := l) (E := E) (w0 := w) (fq := σ.fq) (fs := σ.fs) (ks := ks) (sn := (σ.SN ks)) (sz := (σ.SZ ks)) (sf := (σ.SF ks)) (cn := (σ.CN ks)) (ra := ra) (ka := (σ.K ra)) (pla := (σ.P ra)) (na := (σ.N ra)) (fa := (σ.F ra)) (hzn := zl) (c0 := hW.fix.1) (c1 := hW.fix.2.1) (c2 := hW.fix.2.2) (c3 := (hW.sm ks hks).1) (c4 := (hW.sm ks hks).2.1) (c5 := (hW.sm ks hks).2.2.1) (c6 := (hW.sm ks hks).2.2.2) (c7 := (hW.rg ra hra).1) (c8 := (hW.rg ra hra).2.1) (c9 := (hW.rg ra hra).2.2) (hfq := hI.hq) (hfs := hI.hs) (bs := (hI.sm ks hks).1) (hsn := (hI.sm ks hks).2.1) (bc := (hI.sm ks hks).2.2.1) (hsz := (hI.sm ks hks).2.2.2.1) (hks := hks) (bfa := (hI.rg ra hra).1) (hka := (hI.rg ra hra).2.1) (hna := (hI.rg ra hra).2.2.1) (hra := hra) (hpa := (hI.rg ra hra).2.2.2.1) (hva := (hI.rg ra hra).2.2.2.2.1) (hca := (hI.rg ra hra).2.2.2.2.2.1) (hfa := (hI.rg ra hra).2.2.2.2.2.2.1) (hs := (su_lt1 (hI.sm ks hks) (hI.rg ra hra))) (csf := (hI.sm ks hks).2.2.2.2.2.1) H.size) (z_cwV (C := "ScaledNumeralDesk") 2 hg wm_618 wm_615 wm_1 wm_616 wm_617 (by decide +kernel) ⟨(Nat.le_of_ble_eq_true rfl), (Nat.le_of_ble_eq_true rfl)⟩) (z_preV (r := ("ScaledNumeralDesk", TD, 7)) hK hG hn hH hA (Nat.lt_of_lt_of_le (show 0 < 73 by decide) zl) hW.fix.1 rfl) rfl rfl hl.1 rfl (lv_room (Nat.le_of_ble_eq_true rfl)) d_L_law_465 ⟨(Nat.le_of_ble_eq_true rfl), (Nat.le_of_ble_eq_true rfl)⟩) hH hA (fun z1 w1 H1 lc1 hH1 hp1 => ?_)
    obtain ⟨⟨s', n', f', c', e1, e2, e3, e4, cb1, cb2, hC⟩, hf1⟩ := hp1
    have hW1 := wf_D_discard hks hW e1 e2 e3 e4 hf1
    have hm : PMod E w1 59 σ.ty σ.xm σ.ym σ.ne σ.kf σ.mf σ.sf σ.G σ.bc σ.su σ.sz σ.cn σ.xf σ.yf σ.pf σ.rf σ.tf := hW1.md
    refine lv_aload_n hx hb d_L_law_468 rfl (lv_at hl 1 rfl) ?_
    refine lv_aload_n hx hb d_L_law_469 rfl (lv_at hl 3 rfl) ?_
    refine lv_iload_n hx hb d_L_law_470 rfl (lv_at hl 0 rfl) ?_
    refine zv_iconst hx hb d_L_law_471 ?_
    refine zv_iadd hx hb d_L_law_472 ?_
    refine z_sld hx hb hX hbl hH1 hL (by omega) (by omega) y1 d_L_law_473 ?_
    refine lv_aload_n hx hb d_L_law_474 rfl (lv_at hl 3 rfl) ?_
    refine lv_iload_n hx hb d_L_law_475 rfl (lv_at hl 0 rfl) ?_
    refine zv_iconst hx hb d_L_law_476 ?_
    refine zv_iadd hx hb d_L_law_477 ?_
    refine z_sld hx hb hX hbl hH1 hL (by omega) (by omega) y2 d_L_law_478 ?_
    refine z_calli (va_runV (As := [.int (iI ((ks : Int))), .int (iI ((ra : Int)))]) (rest := [.int (iI z1)]) ⟨hx, hb, hml, hown, hg⟩ (c_M_discard (l := l) (E := E) (w0 := w1) (g := 59) (ty := σ.ty) (xm := σ.xm) (ym := σ.ym) (ne := σ.ne) (kf := σ.kf) (mf := σ.mf) (sf := σ.sf) (G := σ.G) (su := σ.su) (sz := σ.sz) (cn := σ.cn) (k := (ks : Int)) (ra := (ra : Int)) (q0lt := Nat.lt_of_lt_of_le (show 59 < 73 by decide) zl) (q1lt := Nat.lt_of_lt_of_le (show 59 + 1 < 73 by decide) zl) (q2lt := Nat.lt_of_lt_of_le (show 59 + 2 < 73 by decide) zl) (q3lt := Nat.lt_of_lt_of_le (show 59 + 3 < 73 by decide) zl) (q4lt := Nat.lt_of_lt_of_le (show 59 + 4 < 73 by decide) zl) (q5lt := Nat.lt_of_lt_of_le (show 59 + 6 < 73 by decide) zl) (q6lt := Nat.lt_of_lt_of_le (show 59 + 7 < 73 by decide) zl) (q7lt := Nat.lt_of_lt_of_le (show 59 + 8 < 73 by decide) zl) (c0 := hm.1) (c1 := hm.2.1) (c2 := hm.2.2.1) (c3 := hm.2.2.2.1) (c4 := hm.2.2.2.2.1) (c5 := hm.2.2.2.2.2.2.1) (c6 := hm.2.2.2.2.2.2.2.1) (c7 := hm.2.2.2.2.2.2.2.2.1) (bk := hI.bk) (bm := hI.bm) (bs := hI.bs) (bG := hI.bG) (hB := hI.hB) (bsz := hI.bsz) (bcn := hI.bcn) (hk0 := i_ks) (hra := i_ra) H1.size) (z_cwV (C := "ScaledNumeralDeskModel") 2 hg wm_963 wm_960 wm_9 wm_961 wm_962 (by decide +kernel) ⟨(Nat.le_of_ble_eq_true rfl), (Nat.le_of_ble_eq_true rfl)⟩) (z_preV (r := ("ScaledNumeralDeskModel", TM, 17)) hK hG hn hH1 hA (Nat.lt_of_lt_of_le (show 59 < 73 by decide) zl) hm.1 rfl) rfl rfl hl.1 rfl (lv_room (Nat.le_of_ble_eq_true rfl)) d_L_law_479 ⟨(Nat.le_of_ble_eq_true rfl), (Nat.le_of_ble_eq_true rfl)⟩) hH1 hA (fun z2 w2 H2 lc2 hH2 hp2 => ?_)
    obtain ⟨⟨su'', sz'', cn'', f1, f2, f3, hM⟩, hf2⟩ := hp2
    have hW2 := wf_M_discard hW1 f1 f2 f3 hf2
    have hw9 : Wf E w2 (mkS σ.fq σ.fs σ.us σ.ch σ.r1 σ.r2 σ.r3 σ.r4 σ.kt σ.plt σ.nt σ.ft σ.kv σ.plv σ.nv σ.fv σ.kw σ.plw σ.nw σ.fw σ.K σ.P σ.N σ.F (upn σ.SN ks n') (upn σ.SZ ks s') (upn σ.SF ks f') (upn σ.CN ks c') σ.ty σ.bc σ.xm σ.ym σ.ne σ.kf σ.mf σ.sf σ.G (su'') (sz'') (cn'') σ.xf σ.yf σ.pf σ.rf σ.tf) := hW2
    obtain ⟨hz, hi9⟩ := iv_discard hks hra  hI cb1 cb2 hC  hM
    subst hz
    refine lv_icmp_eq (tgt := 632) hx hb d_L_law_482 rfl (fun _ => ?_) (fun h9 => absurd rfl h9)
    exact kk w2 _ H2 lc2 hw9 hi9 hH2
  · have hm := hW.md
    refine lv_aload_n hx hb d_L_law_454 rfl (lv_at hl 2 rfl) ?_
    refine lv_aload_n hx hb d_L_law_455 rfl (lv_at hl 3 rfl) ?_
    refine lv_iload_n hx hb d_L_law_456 rfl (lv_at hl 0 rfl) ?_
    refine zv_iconst hx hb d_L_law_457 ?_
    refine zv_iadd hx hb d_L_law_458 ?_
    refine z_sld hx hb hX hbl hH hL (by omega) (by omega) y1 d_L_law_459 ?_
    refine lv_aload_n hx hb d_L_law_460 rfl (lv_at hl 3 rfl) ?_
    refine lv_iload_n hx hb d_L_law_461 rfl (lv_at hl 0 rfl) ?_
    refine zv_iconst hx hb d_L_law_462 ?_
    refine zv_iadd hx hb d_L_law_463 ?_
    refine z_sld hx hb hX hbl hH hL (by omega) (by omega) y2 d_L_law_464 ?_
    refine z_calli (va_runV (As := [.int (iI v1), .int (iI v2)]) (rest := []) ⟨hx, hb, hml, hown, hg⟩ (c_D_discardX (l := l) (E := E) (w0 := w) (v0 := v1) (va := v2) (hz_v0 := s1) (hz_va := s2) (hbad := hin) H.size) (z_cwV (C := "ScaledNumeralDesk") 2 hg wm_618 wm_615 wm_1 wm_616 wm_617 (by decide +kernel) ⟨(Nat.le_of_ble_eq_true rfl), (Nat.le_of_ble_eq_true rfl)⟩) (z_preV (r := ("ScaledNumeralDesk", TD, 7)) hK hG hn hH hA (Nat.lt_of_lt_of_le (show 0 < 73 by decide) zl) hW.fix.1 rfl) rfl rfl hl.1 rfl (lv_room (Nat.le_of_ble_eq_true rfl)) d_L_law_465 ⟨(Nat.le_of_ble_eq_true rfl), (Nat.le_of_ble_eq_true rfl)⟩) hH hA (fun z1 w1 H1 lc1 hH1 hp1 => ?_)
    obtain ⟨ew1, hC⟩ := hp1
    rw [ew1] at hH1
    have hm := hW.md
    refine lv_aload_n hx hb d_L_law_468 rfl (lv_at hl 1 rfl) ?_
    refine lv_aload_n hx hb d_L_law_469 rfl (lv_at hl 3 rfl) ?_
    refine lv_iload_n hx hb d_L_law_470 rfl (lv_at hl 0 rfl) ?_
    refine zv_iconst hx hb d_L_law_471 ?_
    refine zv_iadd hx hb d_L_law_472 ?_
    refine z_sld hx hb hX hbl hH1 hL (by omega) (by omega) y1 d_L_law_473 ?_
    refine lv_aload_n hx hb d_L_law_474 rfl (lv_at hl 3 rfl) ?_
    refine lv_iload_n hx hb d_L_law_475 rfl (lv_at hl 0 rfl) ?_
    refine zv_iconst hx hb d_L_law_476 ?_
    refine zv_iadd hx hb d_L_law_477 ?_
    refine z_sld hx hb hX hbl hH1 hL (by omega) (by omega) y2 d_L_law_478 ?_
    refine z_calli (va_runV (As := [.int (iI v1), .int (iI v2)]) (rest := [.int (iI z1)]) ⟨hx, hb, hml, hown, hg⟩ (c_M_discardX (l := l) (E := E) (w0 := w) (g := 59) (ty := σ.ty) (xm := σ.xm) (ym := σ.ym) (ne := σ.ne) (v0 := v1) (va := v2) (q0lt := Nat.lt_of_lt_of_le (show 59 < 73 by decide) zl) (c0 := hm.1) (hz_v0 := s1) (hz_va := s2) (hbad := hin) H1.size) (z_cwV (C := "ScaledNumeralDeskModel") 2 hg wm_963 wm_960 wm_9 wm_961 wm_962 (by decide +kernel) ⟨(Nat.le_of_ble_eq_true rfl), (Nat.le_of_ble_eq_true rfl)⟩) (z_preV (r := ("ScaledNumeralDeskModel", TM, 17)) hK hG hn hH1 hA (Nat.lt_of_lt_of_le (show 59 < 73 by decide) zl) hm.1 rfl) rfl rfl hl.1 rfl (lv_room (Nat.le_of_ble_eq_true rfl)) d_L_law_479 ⟨(Nat.le_of_ble_eq_true rfl), (Nat.le_of_ble_eq_true rfl)⟩) hH1 hA (fun z2 w2 H2 lc2 hH2 hp2 => ?_)
    obtain ⟨ew2, hM⟩ := hp2
    rw [ew2] at hH2
    rw [hC, hM]
    refine lv_icmp_eq (tgt := 632) hx hb d_L_law_482 rfl (fun _ => ?_) (fun h9 => absurd rfl h9)
    exact kk w σ H2 lc2 hW hI hH2
set_option maxHeartbeats 8000000 in
set_option maxRecDepth 100000 in
theorem law_merge {p : Program} {l : Launch} {e : Env} {s : State} {m : MethodId} {below : List Frame} {meth : Method} {c : Code} {b L : Nat} {xs : Nat → Int32} {E : zE} {w : zW} {σ : Sg} {H : Heap} {locs : List Loc} {Q : State → Prop} {ls : Array Slot} {i : Int} (hL : L ≤ 2560) (C : LC p s m c b L xs E) (hi : 0 ≤ i ∧ i + 5 ≤ L) (hW : Wf E w σ) (hI : Iv E σ) (hH : zH E w (lA s) s.heap H locs) (hl : lv_has ls 4 [(3, .int (iI i)), (2, .ref (ad E 59)), (1, .ref (ad E 0)), (0, .ref b)])
    (kk : ∀ (w' : zW) (σ' : Sg) (H' : Heap) (locs' : List Loc), Wf E w' σ' → Iv E σ' → zH E w' (lA s) s.heap H' locs' → W p l e room_1 s m #[Value.ref b] below meth c H' locs' 73 1902 Q (F0 m 632 ls [])) : W p l e room_1 s m #[Value.ref b] below meth c H locs 73 1902 Q (F0 m 487 ls []) := by
  obtain ⟨⟨hx, hb, hml, hown, hg⟩, hX, hbl, hK, hG, hn⟩ := C
  have hA : ∀ q, s.heap.size ≤ q → lA s q := fun q h => h
  have zl := hW.zn73
  obtain ⟨v1, y1⟩ : ∃ v, sx xs (i + 1) = v := ⟨_, rfl⟩
  have s1 : zr v1 := by rw [← y1]; exact sx_r xs _
  obtain ⟨v2, y2⟩ : ∃ v, sx xs (i + 2) = v := ⟨_, rfl⟩
  have s2 : zr v2 := by rw [← y2]; exact sx_r xs _
  by_cases hin : ((0 ≤ v1 ∧ v1 < 4) ∧ (0 ≤ v2 ∧ v2 < 4))
  · obtain ⟨ks, rfl⟩ : ∃ n : Nat, v1 = n := ⟨v1.toNat, by omega⟩
    have hks : ks < 4 := by omega
    have i_ks : 0 ≤ (ks : Int) ∧ (ks : Int) < 4 := by omega
    obtain ⟨kj, rfl⟩ : ∃ n : Nat, v2 = n := ⟨v2.toNat, by omega⟩
    have hkj : kj < 4 := by omega
    have i_kj : 0 ≤ (kj : Int) ∧ (kj : Int) < 4 := by omega
    clear hin
    by_cases hkk : ks = kj
    · subst hkk
      refine lv_aload_n hx hb d_L_law_487 rfl (lv_at hl 2 rfl) ?_
      refine lv_aload_n hx hb d_L_law_488 rfl (lv_at hl 3 rfl) ?_
      refine lv_iload_n hx hb d_L_law_489 rfl (lv_at hl 0 rfl) ?_
      refine zv_iconst hx hb d_L_law_490 ?_
      refine zv_iadd hx hb d_L_law_491 ?_
      refine z_sld hx hb hX hbl hH hL (by omega) (by omega) y1 d_L_law_492 ?_
      refine lv_aload_n hx hb d_L_law_493 rfl (lv_at hl 3 rfl) ?_
      refine lv_iload_n hx hb d_L_law_494 rfl (lv_at hl 0 rfl) ?_
      refine zv_iconst hx hb d_L_law_495 ?_
      refine zv_iadd hx hb d_L_law_496 ?_
      refine z_sld hx hb hX hbl hH hL (by omega) (by omega) y2 d_L_law_497 ?_
      refine z_calli (va_runV (As := [.int (iI ((ks : Int))), .int (iI ((ks : Int)))]) (rest := []) ⟨hx, hb, hml, hown, hg⟩ (c_D_mergeAA (l := l) (E := E) (w0 := w) (fs := σ.fs) (ks := ks) (sn := (σ.SN ks)) (sz := (σ.SZ ks)) (sf := (σ.SF ks)) (cn := (σ.CN ks)) (hzn := zl) (c0 := hW.fix.1) (c1 := hW.fix.2.2) (c2 := (hW.sm ks hks).1) (c3 := (hW.sm ks hks).2.1) (c4 := (hW.sm ks hks).2.2.1) (c5 := (hW.sm ks hks).2.2.2) (hfs := hI.hs) (bs := (hI.sm ks hks).1) (hsn := (hI.sm ks hks).2.1) (bc := (hI.sm ks hks).2.2.1) (hsz := (hI.sm ks hks).2.2.2.1) (hks := hks) (hs := (su_lt2 (hI.sm ks hks) (hI.sm ks hks))) H.size) (z_cwV (C := "ScaledNumeralDesk") 2 hg wm_626 wm_623 wm_1 wm_624 wm_625 (by decide +kernel) ⟨(Nat.le_of_ble_eq_true rfl), (Nat.le_of_ble_eq_true rfl)⟩) (z_preV (r := ("ScaledNumeralDesk", TD, 7)) hK hG hn hH hA (Nat.lt_of_lt_of_le (show 0 < 73 by decide) zl) hW.fix.1 rfl) rfl rfl hl.1 rfl (lv_room (Nat.le_of_ble_eq_true rfl)) d_L_law_498 ⟨(Nat.le_of_ble_eq_true rfl), (Nat.le_of_ble_eq_true rfl)⟩) hH hA (fun z1 w1 H1 lc1 hH1 hp1 => ?_)
      obtain ⟨⟨s', n', f', c', e1, e2, e3, e4, cb1, cb2, hC⟩, hf1⟩ := hp1
      have hW1 := wf_D_mergeAA hks hW e1 e2 e3 e4 hf1
      have hm : PMod E w1 59 σ.ty σ.xm σ.ym σ.ne σ.kf σ.mf σ.sf σ.G σ.bc σ.su σ.sz σ.cn σ.xf σ.yf σ.pf σ.rf σ.tf := hW1.md
      refine lv_aload_n hx hb d_L_law_501 rfl (lv_at hl 1 rfl) ?_
      refine lv_aload_n hx hb d_L_law_502 rfl (lv_at hl 3 rfl) ?_
      refine lv_iload_n hx hb d_L_law_503 rfl (lv_at hl 0 rfl) ?_
      refine zv_iconst hx hb d_L_law_504 ?_
      refine zv_iadd hx hb d_L_law_505 ?_
      refine z_sld hx hb hX hbl hH1 hL (by omega) (by omega) y1 d_L_law_506 ?_
      refine lv_aload_n hx hb d_L_law_507 rfl (lv_at hl 3 rfl) ?_
      refine lv_iload_n hx hb d_L_law_508 rfl (lv_at hl 0 rfl) ?_
      refine zv_iconst hx hb d_L_law_509 ?_
      refine zv_iadd hx hb d_L_law_510 ?_
      refine z_sld hx hb hX hbl hH1 hL (by omega) (by omega) y2 d_L_law_511 ?_
      refine z_calli (va_runV (As := [.int (iI ((ks : Int))), .int (iI ((ks : Int)))]) (rest := [.int (iI z1)]) ⟨hx, hb, hml, hown, hg⟩ (c_M_merge (l := l) (E := E) (w0 := w1) (g := 59) (ty := σ.ty) (xm := σ.xm) (ym := σ.ym) (ne := σ.ne) (su := σ.su) (sz := σ.sz) (cn := σ.cn) (k := (ks : Int)) (l1 := (ks : Int)) (q0lt := Nat.lt_of_lt_of_le (show 59 < 73 by decide) zl) (q1lt := Nat.lt_of_lt_of_le (show 59 + 6 < 73 by decide) zl) (q2lt := Nat.lt_of_lt_of_le (show 59 + 7 < 73 by decide) zl) (q3lt := Nat.lt_of_lt_of_le (show 59 + 8 < 73 by decide) zl) (c0 := hm.1) (c1 := hm.2.2.2.2.2.2.1) (c2 := hm.2.2.2.2.2.2.2.1) (c3 := hm.2.2.2.2.2.2.2.2.1) (hB := hI.hB) (bsz := hI.bsz) (bcn := hI.bcn) (hk0 := i_ks) (hl1 := i_ks) H1.size) (z_cwV (C := "ScaledNumeralDeskModel") 2 hg wm_967 wm_964 wm_9 wm_965 wm_966 (by decide +kernel) ⟨(Nat.le_of_ble_eq_true rfl), (Nat.le_of_ble_eq_true rfl)⟩) (z_preV (r := ("ScaledNumeralDeskModel", TM, 17)) hK hG hn hH1 hA (Nat.lt_of_lt_of_le (show 59 < 73 by decide) zl) hm.1 rfl) rfl rfl hl.1 rfl (lv_room (Nat.le_of_ble_eq_true rfl)) d_L_law_512 ⟨(Nat.le_of_ble_eq_true rfl), (Nat.le_of_ble_eq_true rfl)⟩) hH1 hA (fun z2 w2 H2 lc2 hH2 hp2 => ?_)
      obtain ⟨⟨su'', sz'', cn'', f1, f2, f3, hM⟩, hf2⟩ := hp2
      have hW2 := wf_M_merge hW1 f1 f2 f3 hf2
      have hw9 : Wf E w2 (mkS σ.fq σ.fs σ.us σ.ch σ.r1 σ.r2 σ.r3 σ.r4 σ.kt σ.plt σ.nt σ.ft σ.kv σ.plv σ.nv σ.fv σ.kw σ.plw σ.nw σ.fw σ.K σ.P σ.N σ.F (upn σ.SN ks n') (upn σ.SZ ks s') (upn σ.SF ks f') (upn σ.CN ks c') σ.ty σ.bc σ.xm σ.ym σ.ne σ.kf σ.mf σ.sf σ.G (su'') (sz'') (cn'') σ.xf σ.yf σ.pf σ.rf σ.tf) := hW2
      obtain ⟨hz, hi9⟩ := iv_mergeAA hks  hI cb1 cb2 hC  hM
      subst hz
      refine lv_icmp_eq (tgt := 632) hx hb d_L_law_515 rfl (fun _ => ?_) (fun h9 => absurd rfl h9)
      exact kk w2 _ H2 lc2 hw9 hi9 hH2
    · refine lv_aload_n hx hb d_L_law_487 rfl (lv_at hl 2 rfl) ?_
      refine lv_aload_n hx hb d_L_law_488 rfl (lv_at hl 3 rfl) ?_
      refine lv_iload_n hx hb d_L_law_489 rfl (lv_at hl 0 rfl) ?_
      refine zv_iconst hx hb d_L_law_490 ?_
      refine zv_iadd hx hb d_L_law_491 ?_
      refine z_sld hx hb hX hbl hH hL (by omega) (by omega) y1 d_L_law_492 ?_
      refine lv_aload_n hx hb d_L_law_493 rfl (lv_at hl 3 rfl) ?_
      refine lv_iload_n hx hb d_L_law_494 rfl (lv_at hl 0 rfl) ?_
      refine zv_iconst hx hb d_L_law_495 ?_
      refine zv_iadd hx hb d_L_law_496 ?_
      refine z_sld hx hb hX hbl hH hL (by omega) (by omega) y2 d_L_law_497 ?_
      refine z_calli (va_runV (As := [.int (iI ((ks : Int))), .int (iI ((kj : Int)))]) (rest := []) ⟨hx, hb, hml, hown, hg⟩ (c_D_merge (l := l) (E := E) (w0 := w) (fs := σ.fs) (ks := ks) (sn := (σ.SN ks)) (sz := (σ.SZ ks)) (sf := (σ.SF ks)) (cn := (σ.CN ks)) (kj := kj) (on := (σ.SN kj)) (oz := (σ.SZ kj)) (of := (σ.SF kj)) (co := (σ.CN kj)) (hzn := zl) (c0 := hW.fix.1) (c1 := hW.fix.2.2) (c2 := (hW.sm ks hks).1) (c3 := (hW.sm ks hks).2.1) (c4 := (hW.sm ks hks).2.2.1) (c5 := (hW.sm ks hks).2.2.2) (c6 := (hW.sm kj hkj).1) (c7 := (hW.sm kj hkj).2.1) (c8 := (hW.sm kj hkj).2.2.1) (c9 := (hW.sm kj hkj).2.2.2) (hfs := hI.hs) (bs := (hI.sm ks hks).1) (hsn := (hI.sm ks hks).2.1) (bc := (hI.sm ks hks).2.2.1) (hsz := (hI.sm ks hks).2.2.2.1) (hks := hks) (bo := (hI.sm kj hkj).1) (hon := (hI.sm kj hkj).2.1) (bco := (hI.sm kj hkj).2.2.1) (hoz := (hI.sm kj hkj).2.2.2.1) (hkj := hkj) (hs := (su_lt2 (hI.sm ks hks) (hI.sm kj hkj))) (hkk := hkk) H.size) (z_cwV (C := "ScaledNumeralDesk") 2 hg wm_626 wm_623 wm_1 wm_624 wm_625 (by decide +kernel) ⟨(Nat.le_of_ble_eq_true rfl), (Nat.le_of_ble_eq_true rfl)⟩) (z_preV (r := ("ScaledNumeralDesk", TD, 7)) hK hG hn hH hA (Nat.lt_of_lt_of_le (show 0 < 73 by decide) zl) hW.fix.1 rfl) rfl rfl hl.1 rfl (lv_room (Nat.le_of_ble_eq_true rfl)) d_L_law_498 ⟨(Nat.le_of_ble_eq_true rfl), (Nat.le_of_ble_eq_true rfl)⟩) hH hA (fun z1 w1 H1 lc1 hH1 hp1 => ?_)
      obtain ⟨⟨s', n', f', c', e1, e2, e3, e4, cb1, cb2, hC⟩, hf1⟩ := hp1
      have hW1 := wf_D_merge hks hW e1 e2 e3 e4 hf1
      have hm : PMod E w1 59 σ.ty σ.xm σ.ym σ.ne σ.kf σ.mf σ.sf σ.G σ.bc σ.su σ.sz σ.cn σ.xf σ.yf σ.pf σ.rf σ.tf := hW1.md
      refine lv_aload_n hx hb d_L_law_501 rfl (lv_at hl 1 rfl) ?_
      refine lv_aload_n hx hb d_L_law_502 rfl (lv_at hl 3 rfl) ?_
      refine lv_iload_n hx hb d_L_law_503 rfl (lv_at hl 0 rfl) ?_
      refine zv_iconst hx hb d_L_law_504 ?_
      refine zv_iadd hx hb d_L_law_505 ?_
      refine z_sld hx hb hX hbl hH1 hL (by omega) (by omega) y1 d_L_law_506 ?_
      refine lv_aload_n hx hb d_L_law_507 rfl (lv_at hl 3 rfl) ?_
      refine lv_iload_n hx hb d_L_law_508 rfl (lv_at hl 0 rfl) ?_
      refine zv_iconst hx hb d_L_law_509 ?_
      refine zv_iadd hx hb d_L_law_510 ?_
      refine z_sld hx hb hX hbl hH1 hL (by omega) (by omega) y2 d_L_law_511 ?_
      refine z_calli (va_runV (As := [.int (iI ((ks : Int))), .int (iI ((kj : Int)))]) (rest := [.int (iI z1)]) ⟨hx, hb, hml, hown, hg⟩ (c_M_merge (l := l) (E := E) (w0 := w1) (g := 59) (ty := σ.ty) (xm := σ.xm) (ym := σ.ym) (ne := σ.ne) (su := σ.su) (sz := σ.sz) (cn := σ.cn) (k := (ks : Int)) (l1 := (kj : Int)) (q0lt := Nat.lt_of_lt_of_le (show 59 < 73 by decide) zl) (q1lt := Nat.lt_of_lt_of_le (show 59 + 6 < 73 by decide) zl) (q2lt := Nat.lt_of_lt_of_le (show 59 + 7 < 73 by decide) zl) (q3lt := Nat.lt_of_lt_of_le (show 59 + 8 < 73 by decide) zl) (c0 := hm.1) (c1 := hm.2.2.2.2.2.2.1) (c2 := hm.2.2.2.2.2.2.2.1) (c3 := hm.2.2.2.2.2.2.2.2.1) (hB := hI.hB) (bsz := hI.bsz) (bcn := hI.bcn) (hk0 := i_ks) (hl1 := i_kj) H1.size) (z_cwV (C := "ScaledNumeralDeskModel") 2 hg wm_967 wm_964 wm_9 wm_965 wm_966 (by decide +kernel) ⟨(Nat.le_of_ble_eq_true rfl), (Nat.le_of_ble_eq_true rfl)⟩) (z_preV (r := ("ScaledNumeralDeskModel", TM, 17)) hK hG hn hH1 hA (Nat.lt_of_lt_of_le (show 59 < 73 by decide) zl) hm.1 rfl) rfl rfl hl.1 rfl (lv_room (Nat.le_of_ble_eq_true rfl)) d_L_law_512 ⟨(Nat.le_of_ble_eq_true rfl), (Nat.le_of_ble_eq_true rfl)⟩) hH1 hA (fun z2 w2 H2 lc2 hH2 hp2 => ?_)
      obtain ⟨⟨su'', sz'', cn'', f1, f2, f3, hM⟩, hf2⟩ := hp2
      have hW2 := wf_M_merge hW1 f1 f2 f3 hf2
      have hw9 : Wf E w2 (mkS σ.fq σ.fs σ.us σ.ch σ.r1 σ.r2 σ.r3 σ.r4 σ.kt σ.plt σ.nt σ.ft σ.kv σ.plv σ.nv σ.fv σ.kw σ.plw σ.nw σ.fw σ.K σ.P σ.N σ.F (upn σ.SN ks n') (upn σ.SZ ks s') (upn σ.SF ks f') (upn σ.CN ks c') σ.ty σ.bc σ.xm σ.ym σ.ne σ.kf σ.mf σ.sf σ.G (su'') (sz'') (cn'') σ.xf σ.yf σ.pf σ.rf σ.tf) := hW2
      obtain ⟨hz, hi9⟩ := iv_merge hks hkj hkk  hI cb1 cb2 hC  hM
      subst hz
      refine lv_icmp_eq (tgt := 632) hx hb d_L_law_515 rfl (fun _ => ?_) (fun h9 => absurd rfl h9)
      exact kk w2 _ H2 lc2 hw9 hi9 hH2
  · have hm := hW.md
    refine lv_aload_n hx hb d_L_law_487 rfl (lv_at hl 2 rfl) ?_
    refine lv_aload_n hx hb d_L_law_488 rfl (lv_at hl 3 rfl) ?_
    refine lv_iload_n hx hb d_L_law_489 rfl (lv_at hl 0 rfl) ?_
    refine zv_iconst hx hb d_L_law_490 ?_
    refine zv_iadd hx hb d_L_law_491 ?_
    refine z_sld hx hb hX hbl hH hL (by omega) (by omega) y1 d_L_law_492 ?_
    refine lv_aload_n hx hb d_L_law_493 rfl (lv_at hl 3 rfl) ?_
    refine lv_iload_n hx hb d_L_law_494 rfl (lv_at hl 0 rfl) ?_
    refine zv_iconst hx hb d_L_law_495 ?_
    refine zv_iadd hx hb d_L_law_496 ?_
    refine z_sld hx hb hX hbl hH hL (by omega) (by omega) y2 d_L_law_497 ?_
    refine z_calli (va_runV (As := [.int (iI v1), .int (iI v2)]) (rest := []) ⟨hx, hb, hml, hown, hg⟩ (c_D_mergeX (l := l) (E := E) (w0 := w) (v0 := v1) (va := v2) (hz_v0 := s1) (hz_va := s2) (hbad := hin) H.size) (z_cwV (C := "ScaledNumeralDesk") 2 hg wm_626 wm_623 wm_1 wm_624 wm_625 (by decide +kernel) ⟨(Nat.le_of_ble_eq_true rfl), (Nat.le_of_ble_eq_true rfl)⟩) (z_preV (r := ("ScaledNumeralDesk", TD, 7)) hK hG hn hH hA (Nat.lt_of_lt_of_le (show 0 < 73 by decide) zl) hW.fix.1 rfl) rfl rfl hl.1 rfl (lv_room (Nat.le_of_ble_eq_true rfl)) d_L_law_498 ⟨(Nat.le_of_ble_eq_true rfl), (Nat.le_of_ble_eq_true rfl)⟩) hH hA (fun z1 w1 H1 lc1 hH1 hp1 => ?_)
    obtain ⟨ew1, hC⟩ := hp1
    rw [ew1] at hH1
    have hm := hW.md
    refine lv_aload_n hx hb d_L_law_501 rfl (lv_at hl 1 rfl) ?_
    refine lv_aload_n hx hb d_L_law_502 rfl (lv_at hl 3 rfl) ?_
    refine lv_iload_n hx hb d_L_law_503 rfl (lv_at hl 0 rfl) ?_
    refine zv_iconst hx hb d_L_law_504 ?_
    refine zv_iadd hx hb d_L_law_505 ?_
    refine z_sld hx hb hX hbl hH1 hL (by omega) (by omega) y1 d_L_law_506 ?_
    refine lv_aload_n hx hb d_L_law_507 rfl (lv_at hl 3 rfl) ?_
    refine lv_iload_n hx hb d_L_law_508 rfl (lv_at hl 0 rfl) ?_
    refine zv_iconst hx hb d_L_law_509 ?_
    refine zv_iadd hx hb d_L_law_510 ?_
    refine z_sld hx hb hX hbl hH1 hL (by omega) (by omega) y2 d_L_law_511 ?_
    refine z_calli (va_runV (As := [.int (iI v1), .int (iI v2)]) (rest := [.int (iI z1)]) ⟨hx, hb, hml, hown, hg⟩ (c_M_mergeX (l := l) (E := E) (w0 := w) (g := 59) (ty := σ.ty) (xm := σ.xm) (ym := σ.ym) (ne := σ.ne) (v0 := v1) (va := v2) (q0lt := Nat.lt_of_lt_of_le (show 59 < 73 by decide) zl) (c0 := hm.1) (hz_v0 := s1) (hz_va := s2) (hbad := hin) H1.size) (z_cwV (C := "ScaledNumeralDeskModel") 2 hg wm_967 wm_964 wm_9 wm_965 wm_966 (by decide +kernel) ⟨(Nat.le_of_ble_eq_true rfl), (Nat.le_of_ble_eq_true rfl)⟩) (z_preV (r := ("ScaledNumeralDeskModel", TM, 17)) hK hG hn hH1 hA (Nat.lt_of_lt_of_le (show 59 < 73 by decide) zl) hm.1 rfl) rfl rfl hl.1 rfl (lv_room (Nat.le_of_ble_eq_true rfl)) d_L_law_512 ⟨(Nat.le_of_ble_eq_true rfl), (Nat.le_of_ble_eq_true rfl)⟩) hH1 hA (fun z2 w2 H2 lc2 hH2 hp2 => ?_)
    obtain ⟨ew2, hM⟩ := hp2
    rw [ew2] at hH2
    rw [hC, hM]
    refine lv_icmp_eq (tgt := 632) hx hb d_L_law_515 rfl (fun _ => ?_) (fun h9 => absurd rfl h9)
    exact kk w σ H2 lc2 hW hI hH2
