set_option maxHeartbeats 8000000 in
set_option maxRecDepth 100000 in
theorem law_type {p : Program} {l : Launch} {e : Env} {s : State} {m : MethodId} {below : List Frame} {meth : Method} {c : Code} {b L : Nat} {xs : Nat → Int32} {E : zE} {w : zW} {σ : Sg} {H : Heap} {locs : List Loc} {Q : State → Prop} {ls : Array Slot} {i : Int} (hL : L ≤ 2560) (C : LC p s m c b L xs E) (hi : 0 ≤ i ∧ i + 5 ≤ L) (hW : Wf E w σ) (hI : Iv E σ) (hH : zH E w (lA s) s.heap H locs) (hl : lv_has ls 4 [(3, .int (iI i)), (2, .ref (ad E 59)), (1, .ref (ad E 0)), (0, .ref b)])
    (kk : ∀ (w' : zW) (σ' : Sg) (H' : Heap) (locs' : List Loc), Wf E w' σ' → Iv E σ' → zH E w' (lA s) s.heap H' locs' → W p l e room_1 s m #[Value.ref b] below meth c H' locs' 73 1902 Q (F0 m 632 ls [])) : W p l e room_1 s m #[Value.ref b] below meth c H locs 73 1902 Q (F0 m 112 ls []) := by
  obtain ⟨⟨hx, hb, hml, hown, hg⟩, hX, hbl, hK, hG, hn⟩ := C
  have hA : ∀ q, s.heap.size ≤ q → lA s q := fun q h => h
  have zl := hW.zn73
  obtain ⟨v1, y1⟩ : ∃ v, sx xs (i + 1) = v := ⟨_, rfl⟩
  have s1 : zr v1 := by rw [← y1]; exact sx_r xs _
  obtain ⟨x, x0, x1, ex⟩ := i2c_ex (iI v1)
  have hx0 : 0 ≤ x ∧ x < 65536 := ⟨x0, x1⟩
  have h_hx0 := hx0
  refine lv_aload_n hx hb d_L_law_112 rfl (lv_at hl 2 rfl) ?_
  refine lv_aload_n hx hb d_L_law_113 rfl (lv_at hl 3 rfl) ?_
  refine lv_iload_n hx hb d_L_law_114 rfl (lv_at hl 0 rfl) ?_
  refine zv_iconst hx hb d_L_law_115 ?_
  refine zv_iadd hx hb d_L_law_116 ?_
  refine z_sld hx hb hX hbl hH hL (by omega) (by omega) y1 d_L_law_117 ?_
  refine lv_i2c hx hb d_L_law_118 ex ?_
  refine z_calli (va_runV (As := [.int (iI x)]) (rest := []) ⟨hx, hb, hml, hown, hg⟩ (c_D_type (l := l) (E := E) (w0 := w) (us := σ.us) (ch := σ.ch) (x := x) (hzn := zl) (c0 := hW.fix.1) (c1 := hW.buf.1) (c2 := hW.buf.2) (bch := hI.bch) (hus := hI.hus) (hx0 := h_hx0) H.size) (z_cwV (C := "ScaledNumeralDesk") 1 hg wm_153 wm_150 wm_1 wm_151 wm_152 (by decide +kernel) ⟨(Nat.le_of_ble_eq_true rfl), (Nat.le_of_ble_eq_true rfl)⟩) (z_preV (r := ("ScaledNumeralDesk", TD, 7)) hK hG hn hH hA (Nat.lt_of_lt_of_le (show 0 < 73 by decide) zl) hW.fix.1 rfl) rfl rfl hl.1 rfl (lv_room (Nat.le_of_ble_eq_true rfl)) d_L_law_119 ⟨(Nat.le_of_ble_eq_true rfl), (Nat.le_of_ble_eq_true rfl)⟩) hH hA (fun z1 w1 H1 lc1 hH1 hp1 => ?_)
  obtain ⟨⟨u', c', e1, e2, cb1, hC⟩, hf1⟩ := hp1
  have hW1 := wf_D_type hW e1 e2 hf1
  have hm : PMod E w1 59 σ.ty σ.xm σ.ym σ.ne σ.kf σ.mf σ.sf σ.G σ.bc σ.su σ.sz σ.cn σ.xf σ.yf σ.pf σ.rf σ.tf := hW1.md
  refine lv_aload_n hx hb d_L_law_122 rfl (lv_at hl 1 rfl) ?_
  refine lv_aload_n hx hb d_L_law_123 rfl (lv_at hl 3 rfl) ?_
  refine lv_iload_n hx hb d_L_law_124 rfl (lv_at hl 0 rfl) ?_
  refine zv_iconst hx hb d_L_law_125 ?_
  refine zv_iadd hx hb d_L_law_126 ?_
  refine z_sld hx hb hX hbl hH1 hL (by omega) (by omega) y1 d_L_law_127 ?_
  refine lv_i2c hx hb d_L_law_128 ex ?_
  refine z_calli (va_runV (As := [.int (iI x)]) (rest := [.int (iI z1)]) ⟨hx, hb, hml, hown, hg⟩ (c_M_type (l := l) (E := E) (w0 := w1) (g := 59) (ty := σ.ty) (xm := σ.xm) (ym := σ.ym) (ne := σ.ne) (ch := σ.bc) (x := x) (q0lt := Nat.lt_of_lt_of_le (show 59 < 73 by decide) zl) (q1lt := Nat.lt_of_lt_of_le (show 59 + 5 < 73 by decide) zl) (c0 := hm.1) (c1 := hm.2.2.2.2.2.1) (bch := (by rw [hI.hbc]; exact hI.bch)) (hty := (by rw [hI.hty]; exact hI.hus)) (hx0 := h_hx0) H1.size) (z_cwV (C := "ScaledNumeralDeskModel") 1 hg wm_738 wm_735 wm_9 wm_736 wm_737 (by decide +kernel) ⟨(Nat.le_of_ble_eq_true rfl), (Nat.le_of_ble_eq_true rfl)⟩) (z_preV (r := ("ScaledNumeralDeskModel", TM, 17)) hK hG hn hH1 hA (Nat.lt_of_lt_of_le (show 59 < 73 by decide) zl) hm.1 rfl) rfl rfl hl.1 rfl (lv_room (Nat.le_of_ble_eq_true rfl)) d_L_law_129 ⟨(Nat.le_of_ble_eq_true rfl), (Nat.le_of_ble_eq_true rfl)⟩) hH1 hA (fun z2 w2 H2 lc2 hH2 hp2 => ?_)
  obtain ⟨⟨t'', c'', f1, f2, mb1, hM⟩, hf2⟩ := hp2
  have hW2 := wf_M_type hW1 f1 f2 hf2
  have hw9 : Wf E w2 (mkS σ.fq σ.fs (u') (c') σ.r1 σ.r2 σ.r3 σ.r4 σ.kt σ.plt σ.nt σ.ft σ.kv σ.plv σ.nv σ.fv σ.kw σ.plw σ.nw σ.fw σ.K σ.P σ.N σ.F σ.SN σ.SZ σ.SF σ.CN (t'') (c'') σ.xm σ.ym σ.ne σ.kf σ.mf σ.sf σ.G σ.su σ.sz σ.cn σ.xf σ.yf σ.pf σ.rf σ.tf) := hW2
  obtain ⟨hz, hi9⟩ := iv_type  hx0 hI cb1 hC mb1 hM
  subst hz
  refine lv_icmp_eq (tgt := 632) hx hb d_L_law_132 rfl (fun _ => ?_) (fun h9 => absurd rfl h9)
  exact kk w2 _ H2 lc2 hw9 hi9 hH2
set_option maxHeartbeats 8000000 in
set_option maxRecDepth 100000 in
theorem law_enter {p : Program} {l : Launch} {e : Env} {s : State} {m : MethodId} {below : List Frame} {meth : Method} {c : Code} {b L : Nat} {xs : Nat → Int32} {E : zE} {w : zW} {σ : Sg} {H : Heap} {locs : List Loc} {Q : State → Prop} {ls : Array Slot} {i : Int} (hL : L ≤ 2560) (C : LC p s m c b L xs E) (hi : 0 ≤ i ∧ i + 5 ≤ L) (hW : Wf E w σ) (hI : Iv E σ) (hH : zH E w (lA s) s.heap H locs) (hl : lv_has ls 4 [(3, .int (iI i)), (2, .ref (ad E 59)), (1, .ref (ad E 0)), (0, .ref b)])
    (kk : ∀ (w' : zW) (σ' : Sg) (H' : Heap) (locs' : List Loc), Wf E w' σ' → Iv E σ' → zH E w' (lA s) s.heap H' locs' → W p l e room_1 s m #[Value.ref b] below meth c H' locs' 73 1902 Q (F0 m 632 ls [])) : W p l e room_1 s m #[Value.ref b] below meth c H locs 73 1902 Q (F0 m 137 ls []) := by
  obtain ⟨⟨hx, hb, hml, hown, hg⟩, hX, hbl, hK, hG, hn⟩ := C
  have hA : ∀ q, s.heap.size ≤ q → lA s q := fun q h => h
  have zl := hW.zn73
  obtain ⟨v1, y1⟩ : ∃ v, sx xs (i + 1) = v := ⟨_, rfl⟩
  have s1 : zr v1 := by rw [← y1]; exact sx_r xs _
  by_cases hin : (0 ≤ v1 ∧ v1 < 8)
  · obtain ⟨rd, rfl⟩ : ∃ n : Nat, v1 = n := ⟨v1.toNat, by omega⟩
    have hrd : rd < 8 := by omega
    have i_rd : 0 ≤ (rd : Int) ∧ (rd : Int) < 8 := by omega
    clear hin
    refine lv_aload_n hx hb d_L_law_137 rfl (lv_at hl 2 rfl) ?_
    refine lv_aload_n hx hb d_L_law_138 rfl (lv_at hl 3 rfl) ?_
    refine lv_iload_n hx hb d_L_law_139 rfl (lv_at hl 0 rfl) ?_
    refine zv_iconst hx hb d_L_law_140 ?_
    refine zv_iadd hx hb d_L_law_141 ?_
    refine z_sld hx hb hX hbl hH hL (by omega) (by omega) y1 d_L_law_142 ?_
    refine z_calli (va_runV (As := [.int (iI ((rd : Int)))]) (rest := []) ⟨hx, hb, hml, hown, hg⟩ (c_D_enter (l := l) (E := E) (w0 := w) (fq := σ.fq) (us := σ.us) (ch := σ.ch) (kt := σ.kt) (plt := σ.plt) (nt := σ.nt) (ft := σ.ft) (rd := rd) (kd := (σ.K rd)) (pld := (σ.P rd)) (nd := (σ.N rd)) (fd := (σ.F rd)) (hzn := zl) (c0 := hW.fix.1) (c1 := hW.fix.2.1) (c2 := hW.buf.1) (c3 := hW.buf.2) (c4 := hW.ot.1) (c5 := hW.ot.2.1) (c6 := hW.ot.2.2) (c7 := (hW.rg rd hrd).1) (c8 := (hW.rg rd hrd).2.1) (c9 := (hW.rg rd hrd).2.2) (hfq := hI.hq) (bch := hI.bch) (hus := hI.hus) (bft := hI.ot.1) (hkt := hI.ot.2.1) (hnt := hI.ot.2.2) (bfd := (hI.rg rd hrd).1) (hkd := (hI.rg rd hrd).2.1) (hnd := (hI.rg rd hrd).2.2.1) (hrd := hrd) H.size) (z_cwV (C := "ScaledNumeralDesk") 1 hg wm_161 wm_158 wm_1 wm_159 wm_160 (by decide +kernel) ⟨(Nat.le_of_ble_eq_true rfl), (Nat.le_of_ble_eq_true rfl)⟩) (z_preV (r := ("ScaledNumeralDesk", TD, 7)) hK hG hn hH hA (Nat.lt_of_lt_of_le (show 0 < 73 by decide) zl) hW.fix.1 rfl) rfl rfl hl.1 rfl (lv_room (Nat.le_of_ble_eq_true rfl)) d_L_law_143 ⟨(Nat.le_of_ble_eq_true rfl), (Nat.le_of_ble_eq_true rfl)⟩) hH hA (fun z1 w1 H1 lc1 hH1 hp1 => ?_)
    obtain ⟨⟨kt', plt', nt', ft', k', p', n', f', e1, e2, e3, e4, e5, e6, e7, cb1, cb2, hC⟩, hf1⟩ := hp1
    have hW1 := wf_D_enter hrd hW e1 e2 e3 e4 e5 e6 e7 hf1
    have hm : PMod E w1 59 σ.ty σ.xm σ.ym σ.ne σ.kf σ.mf σ.sf σ.G σ.bc σ.su σ.sz σ.cn σ.xf σ.yf σ.pf σ.rf σ.tf := hW1.md
    refine lv_aload_n hx hb d_L_law_146 rfl (lv_at hl 1 rfl) ?_
    refine lv_aload_n hx hb d_L_law_147 rfl (lv_at hl 3 rfl) ?_
    refine lv_iload_n hx hb d_L_law_148 rfl (lv_at hl 0 rfl) ?_
    refine zv_iconst hx hb d_L_law_149 ?_
    refine zv_iadd hx hb d_L_law_150 ?_
    refine z_sld hx hb hX hbl hH1 hL (by omega) (by omega) y1 d_L_law_151 ?_
    refine z_calli (va_runV (As := [.int (iI ((rd : Int)))]) (rest := [.int (iI z1)]) ⟨hx, hb, hml, hown, hg⟩ (c_M_enter (l := l) (E := E) (w0 := w1) (g := 59) (ty := σ.ty) (xm := σ.xm) (ym := σ.ym) (ne := σ.ne) (ch := σ.bc) (f := σ.pf) (kf := σ.kf) (mf := σ.mf) (sf := σ.sf) (G := σ.G) (d := (rd : Int)) (q0lt := Nat.lt_of_lt_of_le (show 59 < 73 by decide) zl) (q1lt := Nat.lt_of_lt_of_le (show 59 + 5 < 73 by decide) zl) (q2lt := Nat.lt_of_lt_of_le (show 59 + 11 < 73 by decide) zl) (q3lt := Nat.lt_of_lt_of_le (show 59 + 1 < 73 by decide) zl) (q4lt := Nat.lt_of_lt_of_le (show 59 + 2 < 73 by decide) zl) (q5lt := Nat.lt_of_lt_of_le (show 59 + 3 < 73 by decide) zl) (q6lt := Nat.lt_of_lt_of_le (show 59 + 4 < 73 by decide) zl) (c0 := hm.1) (c1 := hm.2.2.2.2.2.1) (c2 := hm.2.2.2.2.2.2.2.2.2.2.2.1) (c3 := hm.2.1) (c4 := hm.2.2.1) (c5 := hm.2.2.2.1) (c6 := hm.2.2.2.2.1) (bch := (by rw [hI.hbc]; exact hI.bch)) (hty := (by rw [hI.hty]; exact hI.hus)) (bf := hI.bf) (bk := hI.bk) (bm := hI.bm) (bs := hI.bs) (bG := hI.bG) (hne := hI.hne) (hd := i_rd) H1.size) (z_cwV (C := "ScaledNumeralDeskModel") 1 hg wm_742 wm_739 wm_9 wm_740 wm_741 (by decide +kernel) ⟨(Nat.le_of_ble_eq_true rfl), (Nat.le_of_ble_eq_true rfl)⟩) (z_preV (r := ("ScaledNumeralDeskModel", TM, 17)) hK hG hn hH1 hA (Nat.lt_of_lt_of_le (show 59 < 73 by decide) zl) hm.1 rfl) rfl rfl hl.1 rfl (lv_room (Nat.le_of_ble_eq_true rfl)) d_L_law_152 ⟨(Nat.le_of_ble_eq_true rfl), (Nat.le_of_ble_eq_true rfl)⟩) hH1 hA (fun z2 w2 H2 lc2 hH2 hp2 => ?_)
    obtain ⟨⟨n'', f'', k'', m'', s'', G'', f1, f2, f3, f4, f5, f6, mb1, mb2, mb3, mb4, mb5, hM⟩, hf2⟩ := hp2
    have hW2 := wf_M_enter hW1 f1 f2 f3 f4 f5 f6 hf2
    have hw9 : Wf E w2 (mkS σ.fq σ.fs (0) σ.ch σ.r1 σ.r2 σ.r3 σ.r4 (kt') (plt') (nt') (ft') σ.kv σ.plv σ.nv σ.fv σ.kw σ.plw σ.nw σ.fw (upn σ.K rd k') (upn σ.P rd p') (upn σ.N rd n') (upn σ.F rd f') σ.SN σ.SZ σ.SF σ.CN (0) σ.bc σ.xm σ.ym (n'') (k'') (m'') (s'') (G'') σ.su σ.sz σ.cn σ.xf σ.yf (f'') σ.rf σ.tf) := hW2
    obtain ⟨hz, hi9⟩ := iv_enter hrd  hI cb1 cb2 hC mb1 mb2 mb3 mb4 mb5 hM
    subst hz
    refine lv_icmp_eq (tgt := 632) hx hb d_L_law_155 rfl (fun _ => ?_) (fun h9 => absurd rfl h9)
    exact kk w2 _ H2 lc2 hw9 hi9 hH2
  · have hm := hW.md
    refine lv_aload_n hx hb d_L_law_137 rfl (lv_at hl 2 rfl) ?_
    refine lv_aload_n hx hb d_L_law_138 rfl (lv_at hl 3 rfl) ?_
    refine lv_iload_n hx hb d_L_law_139 rfl (lv_at hl 0 rfl) ?_
    refine zv_iconst hx hb d_L_law_140 ?_
    refine zv_iadd hx hb d_L_law_141 ?_
    refine z_sld hx hb hX hbl hH hL (by omega) (by omega) y1 d_L_law_142 ?_
    refine z_calli (va_runV (As := [.int (iI v1)]) (rest := []) ⟨hx, hb, hml, hown, hg⟩ (c_D_enterX (l := l) (E := E) (w0 := w) (v0 := v1) (hz_v0 := s1) (hbad := hin) H.size) (z_cwV (C := "ScaledNumeralDesk") 1 hg wm_161 wm_158 wm_1 wm_159 wm_160 (by decide +kernel) ⟨(Nat.le_of_ble_eq_true rfl), (Nat.le_of_ble_eq_true rfl)⟩) (z_preV (r := ("ScaledNumeralDesk", TD, 7)) hK hG hn hH hA (Nat.lt_of_lt_of_le (show 0 < 73 by decide) zl) hW.fix.1 rfl) rfl rfl hl.1 rfl (lv_room (Nat.le_of_ble_eq_true rfl)) d_L_law_143 ⟨(Nat.le_of_ble_eq_true rfl), (Nat.le_of_ble_eq_true rfl)⟩) hH hA (fun z1 w1 H1 lc1 hH1 hp1 => ?_)
    obtain ⟨ew1, hC⟩ := hp1
    rw [ew1] at hH1
    have hm := hW.md
    refine lv_aload_n hx hb d_L_law_146 rfl (lv_at hl 1 rfl) ?_
    refine lv_aload_n hx hb d_L_law_147 rfl (lv_at hl 3 rfl) ?_
    refine lv_iload_n hx hb d_L_law_148 rfl (lv_at hl 0 rfl) ?_
    refine zv_iconst hx hb d_L_law_149 ?_
    refine zv_iadd hx hb d_L_law_150 ?_
    refine z_sld hx hb hX hbl hH1 hL (by omega) (by omega) y1 d_L_law_151 ?_
    refine z_calli (va_runV (As := [.int (iI v1)]) (rest := [.int (iI z1)]) ⟨hx, hb, hml, hown, hg⟩ (c_M_enterX (l := l) (E := E) (w0 := w) (g := 59) (ty := σ.ty) (xm := σ.xm) (ym := σ.ym) (ne := σ.ne) (v0 := v1) (q0lt := Nat.lt_of_lt_of_le (show 59 < 73 by decide) zl) (c0 := hm.1) (hz_v0 := s1) (hbad := hin) H1.size) (z_cwV (C := "ScaledNumeralDeskModel") 1 hg wm_742 wm_739 wm_9 wm_740 wm_741 (by decide +kernel) ⟨(Nat.le_of_ble_eq_true rfl), (Nat.le_of_ble_eq_true rfl)⟩) (z_preV (r := ("ScaledNumeralDeskModel", TM, 17)) hK hG hn hH1 hA (Nat.lt_of_lt_of_le (show 59 < 73 by decide) zl) hm.1 rfl) rfl rfl hl.1 rfl (lv_room (Nat.le_of_ble_eq_true rfl)) d_L_law_152 ⟨(Nat.le_of_ble_eq_true rfl), (Nat.le_of_ble_eq_true rfl)⟩) hH1 hA (fun z2 w2 H2 lc2 hH2 hp2 => ?_)
    obtain ⟨ew2, hM⟩ := hp2
    rw [ew2] at hH2
    rw [hC, hM]
    refine lv_icmp_eq (tgt := 632) hx hb d_L_law_155 rfl (fun _ => ?_) (fun h9 => absurd rfl h9)
    exact kk w σ H2 lc2 hW hI hH2
set_option maxHeartbeats 8000000 in
set_option maxRecDepth 100000 in
theorem law_length {p : Program} {l : Launch} {e : Env} {s : State} {m : MethodId} {below : List Frame} {meth : Method} {c : Code} {b L : Nat} {xs : Nat → Int32} {E : zE} {w : zW} {σ : Sg} {H : Heap} {locs : List Loc} {Q : State → Prop} {ls : Array Slot} {i : Int} (hL : L ≤ 2560) (C : LC p s m c b L xs E) (hi : 0 ≤ i ∧ i + 5 ≤ L) (hW : Wf E w σ) (hI : Iv E σ) (hH : zH E w (lA s) s.heap H locs) (hl : lv_has ls 4 [(3, .int (iI i)), (2, .ref (ad E 59)), (1, .ref (ad E 0)), (0, .ref b)])
    (kk : ∀ (w' : zW) (σ' : Sg) (H' : Heap) (locs' : List Loc), Wf E w' σ' → Iv E σ' → zH E w' (lA s) s.heap H' locs' → W p l e room_1 s m #[Value.ref b] below meth c H' locs' 73 1902 Q (F0 m 632 ls [])) : W p l e room_1 s m #[Value.ref b] below meth c H locs 73 1902 Q (F0 m 160 ls []) := by
  obtain ⟨⟨hx, hb, hml, hown, hg⟩, hX, hbl, hK, hG, hn⟩ := C
  have hA : ∀ q, s.heap.size ≤ q → lA s q := fun q h => h
  have zl := hW.zn73
  obtain ⟨v1, y1⟩ : ∃ v, sx xs (i + 1) = v := ⟨_, rfl⟩
  have s1 : zr v1 := by rw [← y1]; exact sx_r xs _
  by_cases hin : (0 ≤ v1 ∧ v1 < 8)
  · obtain ⟨ra, rfl⟩ : ∃ n : Nat, v1 = n := ⟨v1.toNat, by omega⟩
    have hra : ra < 8 := by omega
    have i_ra : 0 ≤ (ra : Int) ∧ (ra : Int) < 8 := by omega
    clear hin
    refine lv_aload_n hx hb d_L_law_160 rfl (lv_at hl 2 rfl) ?_
    refine lv_aload_n hx hb d_L_law_161 rfl (lv_at hl 3 rfl) ?_
    refine lv_iload_n hx hb d_L_law_162 rfl (lv_at hl 0 rfl) ?_
    refine zv_iconst hx hb d_L_law_163 ?_
    refine zv_iadd hx hb d_L_law_164 ?_
    refine z_sld hx hb hX hbl hH hL (by omega) (by omega) y1 d_L_law_165 ?_
    refine z_calli (va_runV (As := [.int (iI ((ra : Int)))]) (rest := []) ⟨hx, hb, hml, hown, hg⟩ (c_D_length (l := l) (E := E) (w0 := w) (fq := σ.fq) (ra := ra) (ka := (σ.K ra)) (pla := (σ.P ra)) (na := (σ.N ra)) (fa := (σ.F ra)) (hzn := zl) (c0 := hW.fix.1) (c1 := hW.fix.2.1) (c2 := (hW.rg ra hra).1) (c3 := (hW.rg ra hra).2.1) (c4 := (hW.rg ra hra).2.2) (hfq := hI.hq) (bfa := (hI.rg ra hra).1) (hka := (hI.rg ra hra).2.1) (hna := (hI.rg ra hra).2.2.1) (hra := hra) (hpa := (hI.rg ra hra).2.2.2.1) (hva := (hI.rg ra hra).2.2.2.2.1) (hca := (hI.rg ra hra).2.2.2.2.2.1) (hfa := (hI.rg ra hra).2.2.2.2.2.2.1) H.size) (z_cwV (C := "ScaledNumeralDesk") 1 hg wm_336 wm_333 wm_1 wm_334 wm_335 (by decide +kernel) ⟨(Nat.le_of_ble_eq_true rfl), (Nat.le_of_ble_eq_true rfl)⟩) (z_preV (r := ("ScaledNumeralDesk", TD, 7)) hK hG hn hH hA (Nat.lt_of_lt_of_le (show 0 < 73 by decide) zl) hW.fix.1 rfl) rfl rfl hl.1 rfl (lv_room (Nat.le_of_ble_eq_true rfl)) d_L_law_166 ⟨(Nat.le_of_ble_eq_true rfl), (Nat.le_of_ble_eq_true rfl)⟩) hH hA (fun z1 w1 H1 lc1 hH1 hp1 => ?_)
    obtain ⟨ew1, hC⟩ := hp1
    rw [ew1] at hH1
    have hm := hW.md
    refine lv_aload_n hx hb d_L_law_169 rfl (lv_at hl 1 rfl) ?_
    refine lv_aload_n hx hb d_L_law_170 rfl (lv_at hl 3 rfl) ?_
    refine lv_iload_n hx hb d_L_law_171 rfl (lv_at hl 0 rfl) ?_
    refine zv_iconst hx hb d_L_law_172 ?_
    refine zv_iadd hx hb d_L_law_173 ?_
    refine z_sld hx hb hX hbl hH1 hL (by omega) (by omega) y1 d_L_law_174 ?_
    refine z_calli (va_runV (As := [.int (iI ((ra : Int)))]) (rest := [.int (iI z1)]) ⟨hx, hb, hml, hown, hg⟩ (c_M_length (l := l) (E := E) (w0 := w) (g := 59) (ty := σ.ty) (xm := σ.xm) (ym := σ.ym) (ne := σ.ne) (kf := σ.kf) (mf := σ.mf) (sf := σ.sf) (G := σ.G) (r := (ra : Int)) (q0lt := Nat.lt_of_lt_of_le (show 59 < 73 by decide) zl) (q1lt := Nat.lt_of_lt_of_le (show 59 + 1 < 73 by decide) zl) (q2lt := Nat.lt_of_lt_of_le (show 59 + 2 < 73 by decide) zl) (q3lt := Nat.lt_of_lt_of_le (show 59 + 3 < 73 by decide) zl) (q4lt := Nat.lt_of_lt_of_le (show 59 + 4 < 73 by decide) zl) (c0 := hm.1) (c1 := hm.2.1) (c2 := hm.2.2.1) (c3 := hm.2.2.2.1) (c4 := hm.2.2.2.2.1) (bk := hI.bk) (bm := hI.bm) (bs := hI.bs) (bG := hI.bG) (hr0 := i_ra) H1.size) (z_cwV (C := "ScaledNumeralDeskModel") 1 hg wm_814 wm_811 wm_9 wm_812 wm_813 (by decide +kernel) ⟨(Nat.le_of_ble_eq_true rfl), (Nat.le_of_ble_eq_true rfl)⟩) (z_preV (r := ("ScaledNumeralDeskModel", TM, 17)) hK hG hn hH1 hA (Nat.lt_of_lt_of_le (show 59 < 73 by decide) zl) hm.1 rfl) rfl rfl hl.1 rfl (lv_room (Nat.le_of_ble_eq_true rfl)) d_L_law_175 ⟨(Nat.le_of_ble_eq_true rfl), (Nat.le_of_ble_eq_true rfl)⟩) hH1 hA (fun z2 w2 H2 lc2 hH2 hp2 => ?_)
    obtain ⟨ew2, hM⟩ := hp2
    rw [ew2] at hH2
    have hz := iv_length hra  hI  hC  hM
    subst hz
    refine lv_icmp_eq (tgt := 632) hx hb d_L_law_178 rfl (fun _ => ?_) (fun h9 => absurd rfl h9)
    exact kk w σ H2 lc2 hW hI hH2
  · have hm := hW.md
    refine lv_aload_n hx hb d_L_law_160 rfl (lv_at hl 2 rfl) ?_
    refine lv_aload_n hx hb d_L_law_161 rfl (lv_at hl 3 rfl) ?_
    refine lv_iload_n hx hb d_L_law_162 rfl (lv_at hl 0 rfl) ?_
    refine zv_iconst hx hb d_L_law_163 ?_
    refine zv_iadd hx hb d_L_law_164 ?_
    refine z_sld hx hb hX hbl hH hL (by omega) (by omega) y1 d_L_law_165 ?_
    refine z_calli (va_runV (As := [.int (iI v1)]) (rest := []) ⟨hx, hb, hml, hown, hg⟩ (c_D_lengthX (l := l) (E := E) (w0 := w) (v0 := v1) (hz_v0 := s1) (hbad := hin) H.size) (z_cwV (C := "ScaledNumeralDesk") 1 hg wm_336 wm_333 wm_1 wm_334 wm_335 (by decide +kernel) ⟨(Nat.le_of_ble_eq_true rfl), (Nat.le_of_ble_eq_true rfl)⟩) (z_preV (r := ("ScaledNumeralDesk", TD, 7)) hK hG hn hH hA (Nat.lt_of_lt_of_le (show 0 < 73 by decide) zl) hW.fix.1 rfl) rfl rfl hl.1 rfl (lv_room (Nat.le_of_ble_eq_true rfl)) d_L_law_166 ⟨(Nat.le_of_ble_eq_true rfl), (Nat.le_of_ble_eq_true rfl)⟩) hH hA (fun z1 w1 H1 lc1 hH1 hp1 => ?_)
    obtain ⟨ew1, hC⟩ := hp1
    rw [ew1] at hH1
    have hm := hW.md
    refine lv_aload_n hx hb d_L_law_169 rfl (lv_at hl 1 rfl) ?_
    refine lv_aload_n hx hb d_L_law_170 rfl (lv_at hl 3 rfl) ?_
    refine lv_iload_n hx hb d_L_law_171 rfl (lv_at hl 0 rfl) ?_
    refine zv_iconst hx hb d_L_law_172 ?_
    refine zv_iadd hx hb d_L_law_173 ?_
    refine z_sld hx hb hX hbl hH1 hL (by omega) (by omega) y1 d_L_law_174 ?_
    refine z_calli (va_runV (As := [.int (iI v1)]) (rest := [.int (iI z1)]) ⟨hx, hb, hml, hown, hg⟩ (c_M_lengthX (l := l) (E := E) (w0 := w) (g := 59) (ty := σ.ty) (xm := σ.xm) (ym := σ.ym) (ne := σ.ne) (v0 := v1) (q0lt := Nat.lt_of_lt_of_le (show 59 < 73 by decide) zl) (c0 := hm.1) (hz_v0 := s1) (hbad := hin) H1.size) (z_cwV (C := "ScaledNumeralDeskModel") 1 hg wm_814 wm_811 wm_9 wm_812 wm_813 (by decide +kernel) ⟨(Nat.le_of_ble_eq_true rfl), (Nat.le_of_ble_eq_true rfl)⟩) (z_preV (r := ("ScaledNumeralDeskModel", TM, 17)) hK hG hn hH1 hA (Nat.lt_of_lt_of_le (show 59 < 73 by decide) zl) hm.1 rfl) rfl rfl hl.1 rfl (lv_room (Nat.le_of_ble_eq_true rfl)) d_L_law_175 ⟨(Nat.le_of_ble_eq_true rfl), (Nat.le_of_ble_eq_true rfl)⟩) hH1 hA (fun z2 w2 H2 lc2 hH2 hp2 => ?_)
    obtain ⟨ew2, hM⟩ := hp2
    rw [ew2] at hH2
    rw [hC, hM]
    refine lv_icmp_eq (tgt := 632) hx hb d_L_law_178 rfl (fun _ => ?_) (fun h9 => absurd rfl h9)
    exact kk w σ H2 lc2 hW hI hH2
set_option maxHeartbeats 8000000 in
set_option maxRecDepth 100000 in
theorem law_character {p : Program} {l : Launch} {e : Env} {s : State} {m : MethodId} {below : List Frame} {meth : Method} {c : Code} {b L : Nat} {xs : Nat → Int32} {E : zE} {w : zW} {σ : Sg} {H : Heap} {locs : List Loc} {Q : State → Prop} {ls : Array Slot} {i : Int} (hL : L ≤ 2560) (C : LC p s m c b L xs E) (hi : 0 ≤ i ∧ i + 5 ≤ L) (hW : Wf E w σ) (hI : Iv E σ) (hH : zH E w (lA s) s.heap H locs) (hl : lv_has ls 4 [(3, .int (iI i)), (2, .ref (ad E 59)), (1, .ref (ad E 0)), (0, .ref b)])
    (kk : ∀ (w' : zW) (σ' : Sg) (H' : Heap) (locs' : List Loc), Wf E w' σ' → Iv E σ' → zH E w' (lA s) s.heap H' locs' → W p l e room_1 s m #[Value.ref b] below meth c H' locs' 73 1902 Q (F0 m 632 ls [])) : W p l e room_1 s m #[Value.ref b] below meth c H locs 73 1902 Q (F0 m 183 ls []) := by
  obtain ⟨⟨hx, hb, hml, hown, hg⟩, hX, hbl, hK, hG, hn⟩ := C
  have hA : ∀ q, s.heap.size ≤ q → lA s q := fun q h => h
  have zl := hW.zn73
  obtain ⟨v1, y1⟩ : ∃ v, sx xs (i + 1) = v := ⟨_, rfl⟩
  have s1 : zr v1 := by rw [← y1]; exact sx_r xs _
  obtain ⟨v2, y2⟩ : ∃ v, sx xs (i + 2) = v := ⟨_, rfl⟩
  have s2 : zr v2 := by rw [← y2]; exact sx_r xs _
  by_cases hin : (0 ≤ v1 ∧ v1 < 8)
  · obtain ⟨ra, rfl⟩ : ∃ n : Nat, v1 = n := ⟨v1.toNat, by omega⟩
    have hra : ra < 8 := by omega
    have i_ra : 0 ≤ (ra : Int) ∧ (ra : Int) < 8 := by omega
    have h_hi0 := s2
    clear hin
    refine lv_aload_n hx hb d_L_law_183 rfl (lv_at hl 2 rfl) ?_
    refine lv_aload_n hx hb d_L_law_184 rfl (lv_at hl 3 rfl) ?_
    refine lv_iload_n hx hb d_L_law_185 rfl (lv_at hl 0 rfl) ?_
    refine zv_iconst hx hb d_L_law_186 ?_
    refine zv_iadd hx hb d_L_law_187 ?_
    refine z_sld hx hb hX hbl hH hL (by omega) (by omega) y1 d_L_law_188 ?_
    refine lv_aload_n hx hb d_L_law_189 rfl (lv_at hl 3 rfl) ?_
    refine lv_iload_n hx hb d_L_law_190 rfl (lv_at hl 0 rfl) ?_
    refine zv_iconst hx hb d_L_law_191 ?_
    refine zv_iadd hx hb d_L_law_192 ?_
    refine z_sld hx hb hX hbl hH hL (by omega) (by omega) y2 d_L_law_193 ?_
    refine z_calli (va_runV (As := [.int (iI ((ra : Int))), .int (iI v2)]) (rest := []) ⟨hx, hb, hml, hown, hg⟩ (c_D_character (l := l) (E := E) (w0 := w) (fq := σ.fq) (ra := ra) (ka := (σ.K ra)) (pla := (σ.P ra)) (na := (σ.N ra)) (fa := (σ.F ra)) (i := v2) (hzn := zl) (c0 := hW.fix.1) (c1 := hW.fix.2.1) (c2 := (hW.rg ra hra).1) (c3 := (hW.rg ra hra).2.1) (c4 := (hW.rg ra hra).2.2) (hfq := hI.hq) (bfa := (hI.rg ra hra).1) (hka := (hI.rg ra hra).2.1) (hna := (hI.rg ra hra).2.2.1) (hra := hra) (hpa := (hI.rg ra hra).2.2.2.1) (hva := (hI.rg ra hra).2.2.2.2.1) (hca := (hI.rg ra hra).2.2.2.2.2.1) (hfa := (hI.rg ra hra).2.2.2.2.2.2.1) (hi0 := h_hi0) H.size) (z_cwV (C := "ScaledNumeralDesk") 2 hg wm_355 wm_352 wm_1 wm_353 wm_354 (by decide +kernel) ⟨(Nat.le_of_ble_eq_true rfl), (Nat.le_of_ble_eq_true rfl)⟩) (z_preV (r := ("ScaledNumeralDesk", TD, 7)) hK hG hn hH hA (Nat.lt_of_lt_of_le (show 0 < 73 by decide) zl) hW.fix.1 rfl) rfl rfl hl.1 rfl (lv_room (Nat.le_of_ble_eq_true rfl)) d_L_law_194 ⟨(Nat.le_of_ble_eq_true rfl), (Nat.le_of_ble_eq_true rfl)⟩) hH hA (fun z1 w1 H1 lc1 hH1 hp1 => ?_)
    obtain ⟨ew1, hC⟩ := hp1
    rw [ew1] at hH1
    have hm := hW.md
    refine lv_aload_n hx hb d_L_law_197 rfl (lv_at hl 1 rfl) ?_
    refine lv_aload_n hx hb d_L_law_198 rfl (lv_at hl 3 rfl) ?_
    refine lv_iload_n hx hb d_L_law_199 rfl (lv_at hl 0 rfl) ?_
    refine zv_iconst hx hb d_L_law_200 ?_
    refine zv_iadd hx hb d_L_law_201 ?_
    refine z_sld hx hb hX hbl hH1 hL (by omega) (by omega) y1 d_L_law_202 ?_
    refine lv_aload_n hx hb d_L_law_203 rfl (lv_at hl 3 rfl) ?_
    refine lv_iload_n hx hb d_L_law_204 rfl (lv_at hl 0 rfl) ?_
    refine zv_iconst hx hb d_L_law_205 ?_
    refine zv_iadd hx hb d_L_law_206 ?_
    refine z_sld hx hb hX hbl hH1 hL (by omega) (by omega) y2 d_L_law_207 ?_
    refine z_calli (va_runV (As := [.int (iI ((ra : Int))), .int (iI v2)]) (rest := [.int (iI z1)]) ⟨hx, hb, hml, hown, hg⟩ (c_M_character (l := l) (E := E) (w0 := w) (g := 59) (ty := σ.ty) (xm := σ.xm) (ym := σ.ym) (ne := σ.ne) (kf := σ.kf) (mf := σ.mf) (sf := σ.sf) (G := σ.G) (r := (ra : Int)) (i := v2) (q0lt := Nat.lt_of_lt_of_le (show 59 < 73 by decide) zl) (q1lt := Nat.lt_of_lt_of_le (show 59 + 1 < 73 by decide) zl) (q2lt := Nat.lt_of_lt_of_le (show 59 + 2 < 73 by decide) zl) (q3lt := Nat.lt_of_lt_of_le (show 59 + 3 < 73 by decide) zl) (q4lt := Nat.lt_of_lt_of_le (show 59 + 4 < 73 by decide) zl) (c0 := hm.1) (c1 := hm.2.1) (c2 := hm.2.2.1) (c3 := hm.2.2.2.1) (c4 := hm.2.2.2.2.1) (bk := hI.bk) (bm := hI.bm) (bs := hI.bs) (bG := hI.bG) (hr0 := i_ra) (hi0 := h_hi0) H1.size) (z_cwV (C := "ScaledNumeralDeskModel") 2 hg wm_822 wm_819 wm_9 wm_820 wm_821 (by decide +kernel) ⟨(Nat.le_of_ble_eq_true rfl), (Nat.le_of_ble_eq_true rfl)⟩) (z_preV (r := ("ScaledNumeralDeskModel", TM, 17)) hK hG hn hH1 hA (Nat.lt_of_lt_of_le (show 59 < 73 by decide) zl) hm.1 rfl) rfl rfl hl.1 rfl (lv_room (Nat.le_of_ble_eq_true rfl)) d_L_law_208 ⟨(Nat.le_of_ble_eq_true rfl), (Nat.le_of_ble_eq_true rfl)⟩) hH1 hA (fun z2 w2 H2 lc2 hH2 hp2 => ?_)
    obtain ⟨ew2, hM⟩ := hp2
    rw [ew2] at hH2
    have hz := iv_character hra h_hi0 hI  hC  hM
    subst hz
    refine lv_icmp_eq (tgt := 632) hx hb d_L_law_211 rfl (fun _ => ?_) (fun h9 => absurd rfl h9)
    exact kk w σ H2 lc2 hW hI hH2
  · have hm := hW.md
    refine lv_aload_n hx hb d_L_law_183 rfl (lv_at hl 2 rfl) ?_
    refine lv_aload_n hx hb d_L_law_184 rfl (lv_at hl 3 rfl) ?_
    refine lv_iload_n hx hb d_L_law_185 rfl (lv_at hl 0 rfl) ?_
    refine zv_iconst hx hb d_L_law_186 ?_
    refine zv_iadd hx hb d_L_law_187 ?_
    refine z_sld hx hb hX hbl hH hL (by omega) (by omega) y1 d_L_law_188 ?_
    refine lv_aload_n hx hb d_L_law_189 rfl (lv_at hl 3 rfl) ?_
    refine lv_iload_n hx hb d_L_law_190 rfl (lv_at hl 0 rfl) ?_
    refine zv_iconst hx hb d_L_law_191 ?_
    refine zv_iadd hx hb d_L_law_192 ?_
    refine z_sld hx hb hX hbl hH hL (by omega) (by omega) y2 d_L_law_193 ?_
    refine z_calli (va_runV (As := [.int (iI v1), .int (iI v2)]) (rest := []) ⟨hx, hb, hml, hown, hg⟩ (c_D_characterX (l := l) (E := E) (w0 := w) (v0 := v1) (v9 := v2) (hz_v0 := s1) (hz_v9 := s2) (hbad := hin) H.size) (z_cwV (C := "ScaledNumeralDesk") 2 hg wm_355 wm_352 wm_1 wm_353 wm_354 (by decide +kernel) ⟨(Nat.le_of_ble_eq_true rfl), (Nat.le_of_ble_eq_true rfl)⟩) (z_preV (r := ("ScaledNumeralDesk", TD, 7)) hK hG hn hH hA (Nat.lt_of_lt_of_le (show 0 < 73 by decide) zl) hW.fix.1 rfl) rfl rfl hl.1 rfl (lv_room (Nat.le_of_ble_eq_true rfl)) d_L_law_194 ⟨(Nat.le_of_ble_eq_true rfl), (Nat.le_of_ble_eq_true rfl)⟩) hH hA (fun z1 w1 H1 lc1 hH1 hp1 => ?_)
    obtain ⟨ew1, hC⟩ := hp1
    rw [ew1] at hH1
    have hm := hW.md
    refine lv_aload_n hx hb d_L_law_197 rfl (lv_at hl 1 rfl) ?_
    refine lv_aload_n hx hb d_L_law_198 rfl (lv_at hl 3 rfl) ?_
    refine lv_iload_n hx hb d_L_law_199 rfl (lv_at hl 0 rfl) ?_
    refine zv_iconst hx hb d_L_law_200 ?_
    refine zv_iadd hx hb d_L_law_201 ?_
    refine z_sld hx hb hX hbl hH1 hL (by omega) (by omega) y1 d_L_law_202 ?_
    refine lv_aload_n hx hb d_L_law_203 rfl (lv_at hl 3 rfl) ?_
    refine lv_iload_n hx hb d_L_law_204 rfl (lv_at hl 0 rfl) ?_
    refine zv_iconst hx hb d_L_law_205 ?_
    refine zv_iadd hx hb d_L_law_206 ?_
    refine z_sld hx hb hX hbl hH1 hL (by omega) (by omega) y2 d_L_law_207 ?_
    refine z_calli (va_runV (As := [.int (iI v1), .int (iI v2)]) (rest := [.int (iI z1)]) ⟨hx, hb, hml, hown, hg⟩ (c_M_characterX (l := l) (E := E) (w0 := w) (g := 59) (ty := σ.ty) (xm := σ.xm) (ym := σ.ym) (ne := σ.ne) (v0 := v1) (v9 := v2) (q0lt := Nat.lt_of_lt_of_le (show 59 < 73 by decide) zl) (c0 := hm.1) (hz_v0 := s1) (hz_v9 := s2) (hbad := hin) H1.size) (z_cwV (C := "ScaledNumeralDeskModel") 2 hg wm_822 wm_819 wm_9 wm_820 wm_821 (by decide +kernel) ⟨(Nat.le_of_ble_eq_true rfl), (Nat.le_of_ble_eq_true rfl)⟩) (z_preV (r := ("ScaledNumeralDeskModel", TM, 17)) hK hG hn hH1 hA (Nat.lt_of_lt_of_le (show 59 < 73 by decide) zl) hm.1 rfl) rfl rfl hl.1 rfl (lv_room (Nat.le_of_ble_eq_true rfl)) d_L_law_208 ⟨(Nat.le_of_ble_eq_true rfl), (Nat.le_of_ble_eq_true rfl)⟩) hH1 hA (fun z2 w2 H2 lc2 hH2 hp2 => ?_)
    obtain ⟨ew2, hM⟩ := hp2
    rw [ew2] at hH2
    rw [hC, hM]
    refine lv_icmp_eq (tgt := 632) hx hb d_L_law_211 rfl (fun _ => ?_) (fun h9 => absurd rfl h9)
    exact kk w σ H2 lc2 hW hI hH2
