set_option maxHeartbeats 8000000 in
set_option maxRecDepth 100000 in
theorem law_scale {p : Program} {l : Launch} {e : Env} {s : State} {m : MethodId} {below : List Frame} {meth : Method} {c : Code} {b L : Nat} {xs : Nat → Int32} {E : zE} {w : zW} {σ : Sg} {H : Heap} {locs : List Loc} {Q : State → Prop} {ls : Array Slot} {i : Int} (hL : L ≤ 2560) (C : LC p s m c b L xs E) (hi : 0 ≤ i ∧ i + 5 ≤ L) (hW : Wf E w σ) (hI : Iv E σ) (hH : zH E w (lA s) s.heap H locs) (hl : lv_has ls 4 [(3, .int (iI i)), (2, .ref (ad E 59)), (1, .ref (ad E 0)), (0, .ref b)])
    (kk : ∀ (w' : zW) (σ' : Sg) (H' : Heap) (locs' : List Loc), Wf E w' σ' → Iv E σ' → zH E w' (lA s) s.heap H' locs' → W p l e room_1 s m #[Value.ref b] below meth c H' locs' 73 1902 Q (F0 m 632 ls [])) : W p l e room_1 s m #[Value.ref b] below meth c H locs 73 1902 Q (F0 m 216 ls []) := by
  obtain ⟨⟨hx, hb, hml, hown, hg⟩, hX, hbl, hK, hG, hn⟩ := C
  have hA : ∀ q, s.heap.size ≤ q → lA s q := fun q h => h
  have zl := hW.zn73
  obtain ⟨v1, y1⟩ : ∃ v, sx xs (i + 1) = v := ⟨_, rfl⟩
  have s1 : zr v1 := by rw [← y1]; exact sx_r xs _
  by_cases hin : (0 ≤ v1 ∧ v1 < 8)
  · obtain ⟨ra, rfl⟩ : ∃ n : Nat, v1 = n := ⟨v1.toNat, by omega⟩
    have hra : ra < 8 := by omega
    have i_ra : 0 ≤ (ra : Int) ∧ (ra : Int) < 8 := by omega
    clear hin
    refine lv_aload_n hx hb d_L_law_216 rfl (lv_at hl 2 rfl) ?_
    refine lv_aload_n hx hb d_L_law_217 rfl (lv_at hl 3 rfl) ?_
    refine lv_iload_n hx hb d_L_law_218 rfl (lv_at hl 0 rfl) ?_
    refine zv_iconst hx hb d_L_law_219 ?_
    refine zv_iadd hx hb d_L_law_220 ?_
    refine z_sld hx hb hX hbl hH hL (by omega) (by omega) y1 d_L_law_221 ?_
    refine z_calli (va_runV (As := [.int (iI ((ra : Int)))]) (rest := []) ⟨hx, hb, hml, hown, hg⟩ (c_D_scale (l := l) (E := E) (w0 := w) (fq := σ.fq) (ra := ra) (ka := (σ.K ra)) (pla := (σ.P ra)) (na := (σ.N ra)) (fa := (σ.F ra)) (hzn := zl) (c0 := hW.fix.1) (c1 := hW.fix.2.1) (c2 := (hW.rg ra hra).1) (c3 := (hW.rg ra hra).2.1) (c4 := (hW.rg ra hra).2.2) (hfq := hI.hq) (bfa := (hI.rg ra hra).1) (hka := (hI.rg ra hra).2.1) (hna := (hI.rg ra hra).2.2.1) (hra := hra) (hpa := (hI.rg ra hra).2.2.2.1) (hva := (hI.rg ra hra).2.2.2.2.1) (hca := (hI.rg ra hra).2.2.2.2.2.1) (hfa := (hI.rg ra hra).2.2.2.2.2.2.1) H.size) (z_cwV (C := "ScaledNumeralDesk") 1 hg wm_367 wm_364 wm_1 wm_365 wm_366 (by decide +kernel) ⟨(Nat.le_of_ble_eq_true rfl), (Nat.le_of_ble_eq_true rfl)⟩) (z_preV (r := ("ScaledNumeralDesk", TD, 7)) hK hG hn hH hA (Nat.lt_of_lt_of_le (show 0 < 73 by decide) zl) hW.fix.1 rfl) rfl rfl hl.1 rfl (lv_room (Nat.le_of_ble_eq_true rfl)) d_L_law_222 ⟨(Nat.le_of_ble_eq_true rfl), (Nat.le_of_ble_eq_true rfl)⟩) hH hA (fun z1 w1 H1 lc1 hH1 hp1 => ?_)
    obtain ⟨ew1, hC⟩ := hp1
    rw [ew1] at hH1
    have hm := hW.md
    refine lv_aload_n hx hb d_L_law_225 rfl (lv_at hl 1 rfl) ?_
    refine lv_aload_n hx hb d_L_law_226 rfl (lv_at hl 3 rfl) ?_
    refine lv_iload_n hx hb d_L_law_227 rfl (lv_at hl 0 rfl) ?_
    refine zv_iconst hx hb d_L_law_228 ?_
    refine zv_iadd hx hb d_L_law_229 ?_
    refine z_sld hx hb hX hbl hH1 hL (by omega) (by omega) y1 d_L_law_230 ?_
    refine z_calli (va_runV (As := [.int (iI ((ra : Int)))]) (rest := [.int (iI z1)]) ⟨hx, hb, hml, hown, hg⟩ (c_M_scale (l := l) (E := E) (w0 := w) (g := 59) (ty := σ.ty) (xm := σ.xm) (ym := σ.ym) (ne := σ.ne) (kf := σ.kf) (sf := σ.sf) (r := (ra : Int)) (q0lt := Nat.lt_of_lt_of_le (show 59 < 73 by decide) zl) (q1lt := Nat.lt_of_lt_of_le (show 59 + 1 < 73 by decide) zl) (q2lt := Nat.lt_of_lt_of_le (show 59 + 3 < 73 by decide) zl) (c0 := hm.1) (c1 := hm.2.1) (c2 := hm.2.2.2.1) (bk := hI.bk) (bs := hI.bs) (hr0 := i_ra) H1.size) (z_cwV (C := "ScaledNumeralDeskModel") 1 hg wm_827 wm_824 wm_9 wm_825 wm_826 (by decide +kernel) ⟨(Nat.le_of_ble_eq_true rfl), (Nat.le_of_ble_eq_true rfl)⟩) (z_preV (r := ("ScaledNumeralDeskModel", TM, 17)) hK hG hn hH1 hA (Nat.lt_of_lt_of_le (show 59 < 73 by decide) zl) hm.1 rfl) rfl rfl hl.1 rfl (lv_room (Nat.le_of_ble_eq_true rfl)) d_L_law_231 ⟨(Nat.le_of_ble_eq_true rfl), (Nat.le_of_ble_eq_true rfl)⟩) hH1 hA (fun z2 w2 H2 lc2 hH2 hp2 => ?_)
    obtain ⟨ew2, hM⟩ := hp2
    rw [ew2] at hH2
    have hz := iv_scale hra  hI  hC  hM
    subst hz
    refine lv_icmp_eq (tgt := 632) hx hb d_L_law_234 rfl (fun _ => ?_) (fun h9 => absurd rfl h9)
    exact kk w σ H2 lc2 hW hI hH2
  · have hm := hW.md
    refine lv_aload_n hx hb d_L_law_216 rfl (lv_at hl 2 rfl) ?_
    refine lv_aload_n hx hb d_L_law_217 rfl (lv_at hl 3 rfl) ?_
    refine lv_iload_n hx hb d_L_law_218 rfl (lv_at hl 0 rfl) ?_
    refine zv_iconst hx hb d_L_law_219 ?_
    refine zv_iadd hx hb d_L_law_220 ?_
    refine z_sld hx hb hX hbl hH hL (by omega) (by omega) y1 d_L_law_221 ?_
    refine z_calli (va_runV (As := [.int (iI v1)]) (rest := []) ⟨hx, hb, hml, hown, hg⟩ (c_D_scaleX (l := l) (E := E) (w0 := w) (v0 := v1) (hz_v0 := s1) (hbad := hin) H.size) (z_cwV (C := "ScaledNumeralDesk") 1 hg wm_367 wm_364 wm_1 wm_365 wm_366 (by decide +kernel) ⟨(Nat.le_of_ble_eq_true rfl), (Nat.le_of_ble_eq_true rfl)⟩) (z_preV (r := ("ScaledNumeralDesk", TD, 7)) hK hG hn hH hA (Nat.lt_of_lt_of_le (show 0 < 73 by decide) zl) hW.fix.1 rfl) rfl rfl hl.1 rfl (lv_room (Nat.le_of_ble_eq_true rfl)) d_L_law_222 ⟨(Nat.le_of_ble_eq_true rfl), (Nat.le_of_ble_eq_true rfl)⟩) hH hA (fun z1 w1 H1 lc1 hH1 hp1 => ?_)
    obtain ⟨ew1, hC⟩ := hp1
    rw [ew1] at hH1
    have hm := hW.md
    refine lv_aload_n hx hb d_L_law_225 rfl (lv_at hl 1 rfl) ?_
    refine lv_aload_n hx hb d_L_law_226 rfl (lv_at hl 3 rfl) ?_
    refine lv_iload_n hx hb d_L_law_227 rfl (lv_at hl 0 rfl) ?_
    refine zv_iconst hx hb d_L_law_228 ?_
    refine zv_iadd hx hb d_L_law_229 ?_
    refine z_sld hx hb hX hbl hH1 hL (by omega) (by omega) y1 d_L_law_230 ?_
    refine z_calli (va_runV (As := [.int (iI v1)]) (rest := [.int (iI z1)]) ⟨hx, hb, hml, hown, hg⟩ (c_M_scaleX (l := l) (E := E) (w0 := w) (g := 59) (ty := σ.ty) (xm := σ.xm) (ym := σ.ym) (ne := σ.ne) (v0 := v1) (q0lt := Nat.lt_of_lt_of_le (show 59 < 73 by decide) zl) (c0 := hm.1) (hz_v0 := s1) (hbad := hin) H1.size) (z_cwV (C := "ScaledNumeralDeskModel") 1 hg wm_827 wm_824 wm_9 wm_825 wm_826 (by decide +kernel) ⟨(Nat.le_of_ble_eq_true rfl), (Nat.le_of_ble_eq_true rfl)⟩) (z_preV (r := ("ScaledNumeralDeskModel", TM, 17)) hK hG hn hH1 hA (Nat.lt_of_lt_of_le (show 59 < 73 by decide) zl) hm.1 rfl) rfl rfl hl.1 rfl (lv_room (Nat.le_of_ble_eq_true rfl)) d_L_law_231 ⟨(Nat.le_of_ble_eq_true rfl), (Nat.le_of_ble_eq_true rfl)⟩) hH1 hA (fun z2 w2 H2 lc2 hH2 hp2 => ?_)
    obtain ⟨ew2, hM⟩ := hp2
    rw [ew2] at hH2
    rw [hC, hM]
    refine lv_icmp_eq (tgt := 632) hx hb d_L_law_234 rfl (fun _ => ?_) (fun h9 => absurd rfl h9)
    exact kk w σ H2 lc2 hW hI hH2
set_option maxHeartbeats 8000000 in
set_option maxRecDepth 100000 in
theorem law_apply {p : Program} {l : Launch} {e : Env} {s : State} {m : MethodId} {below : List Frame} {meth : Method} {c : Code} {b L : Nat} {xs : Nat → Int32} {E : zE} {w : zW} {σ : Sg} {H : Heap} {locs : List Loc} {Q : State → Prop} {ls : Array Slot} {i : Int} (hL : L ≤ 2560) (C : LC p s m c b L xs E) (hi : 0 ≤ i ∧ i + 5 ≤ L) (hW : Wf E w σ) (hI : Iv E σ) (hH : zH E w (lA s) s.heap H locs) (hl : lv_has ls 4 [(3, .int (iI i)), (2, .ref (ad E 59)), (1, .ref (ad E 0)), (0, .ref b)])
    (kk : ∀ (w' : zW) (σ' : Sg) (H' : Heap) (locs' : List Loc), Wf E w' σ' → Iv E σ' → zH E w' (lA s) s.heap H' locs' → W p l e room_1 s m #[Value.ref b] below meth c H' locs' 73 1902 Q (F0 m 632 ls [])) : W p l e room_1 s m #[Value.ref b] below meth c H locs 73 1902 Q (F0 m 239 ls []) := by
  obtain ⟨⟨hx, hb, hml, hown, hg⟩, hX, hbl, hK, hG, hn⟩ := C
  have hA : ∀ q, s.heap.size ≤ q → lA s q := fun q h => h
  have zl := hW.zn73
  obtain ⟨v1, y1⟩ : ∃ v, sx xs (i + 1) = v := ⟨_, rfl⟩
  have s1 : zr v1 := by rw [← y1]; exact sx_r xs _
  obtain ⟨v2, y2⟩ : ∃ v, sx xs (i + 2) = v := ⟨_, rfl⟩
  have s2 : zr v2 := by rw [← y2]; exact sx_r xs _
  obtain ⟨v3, y3⟩ : ∃ v, sx xs (i + 3) = v := ⟨_, rfl⟩
  have s3 : zr v3 := by rw [← y3]; exact sx_r xs _
  obtain ⟨v4, y4⟩ : ∃ v, sx xs (i + 4) = v := ⟨_, rfl⟩
  have s4 : zr v4 := by rw [← y4]; exact sx_r xs _
  by_cases hin : (0 ≤ v1 ∧ v1 ≤ 5 ∧ (0 ≤ v2 ∧ v2 < 8) ∧ (0 ≤ v3 ∧ v3 < 8) ∧ (0 ≤ v4 ∧ v4 < 8))
  · have h_hop : 0 ≤ v1 ∧ v1 ≤ 5 := by omega
    obtain ⟨rd, rfl⟩ : ∃ n : Nat, v2 = n := ⟨v2.toNat, by omega⟩
    have hrd : rd < 8 := by omega
    have i_rd : 0 ≤ (rd : Int) ∧ (rd : Int) < 8 := by omega
    obtain ⟨ra, rfl⟩ : ∃ n : Nat, v3 = n := ⟨v3.toNat, by omega⟩
    have hra : ra < 8 := by omega
    have i_ra : 0 ≤ (ra : Int) ∧ (ra : Int) < 8 := by omega
    obtain ⟨rb, rfl⟩ : ∃ n : Nat, v4 = n := ⟨v4.toNat, by omega⟩
    have hrb : rb < 8 := by omega
    have i_rb : 0 ≤ (rb : Int) ∧ (rb : Int) < 8 := by omega
    clear hin
    refine lv_aload_n hx hb d_L_law_239 rfl (lv_at hl 2 rfl) ?_
    refine lv_aload_n hx hb d_L_law_240 rfl (lv_at hl 3 rfl) ?_
    refine lv_iload_n hx hb d_L_law_241 rfl (lv_at hl 0 rfl) ?_
    refine zv_iconst hx hb d_L_law_242 ?_
    refine zv_iadd hx hb d_L_law_243 ?_
    refine z_sld hx hb hX hbl hH hL (by omega) (by omega) y1 d_L_law_244 ?_
    refine lv_aload_n hx hb d_L_law_245 rfl (lv_at hl 3 rfl) ?_
    refine lv_iload_n hx hb d_L_law_246 rfl (lv_at hl 0 rfl) ?_
    refine zv_iconst hx hb d_L_law_247 ?_
    refine zv_iadd hx hb d_L_law_248 ?_
    refine z_sld hx hb hX hbl hH hL (by omega) (by omega) y2 d_L_law_249 ?_
    refine lv_aload_n hx hb d_L_law_250 rfl (lv_at hl 3 rfl) ?_
    refine lv_iload_n hx hb d_L_law_251 rfl (lv_at hl 0 rfl) ?_
    refine zv_iconst hx hb d_L_law_252 ?_
    refine zv_iadd hx hb d_L_law_253 ?_
    refine z_sld hx hb hX hbl hH hL (by omega) (by omega) y3 d_L_law_254 ?_
    refine lv_aload_n hx hb d_L_law_255 rfl (lv_at hl 3 rfl) ?_
    refine lv_iload_n hx hb d_L_law_256 rfl (lv_at hl 0 rfl) ?_
    refine zv_iconst hx hb d_L_law_257 ?_
    refine zv_iadd hx hb d_L_law_258 ?_
    refine z_sld hx hb hX hbl hH hL (by omega) (by omega) y4 d_L_law_259 ?_
    refine z_calli (va_runV (As := [.int (iI v1), .int (iI ((rd : Int))), .int (iI ((ra : Int))), .int (iI ((rb : Int)))]) (rest := []) ⟨hx, hb, hml, hown, hg⟩ (c_D_apply (l := l) (E := E) (w0 := w) (fq := σ.fq) (r1 := σ.r1) (r2 := σ.r2) (r3 := σ.r3) (r4 := σ.r4) (kt := σ.kt) (plt := σ.plt) (nt := σ.nt) (ft := σ.ft) (ra := ra) (ka := (σ.K ra)) (pla := (σ.P ra)) (na := (σ.N ra)) (fa := (σ.F ra)) (rb := rb) (kb := (σ.K rb)) (plb := (σ.P rb)) (nb := (σ.N rb)) (fb := (σ.F rb)) (rd := rd) (kd := (σ.K rd)) (pld := (σ.P rd)) (nd := (σ.N rd)) (fd := (σ.F rd)) (op := v1) (hzn := zl) (c0 := hW.fix.1) (c1 := hW.fix.2.1) (c2 := hW.ben.1) (c3 := hW.ben.2.1) (c4 := hW.ben.2.2.1) (c5 := hW.ben.2.2.2.1) (c6 := hW.ben.2.2.2.2) (c7 := hW.ot.1) (c8 := hW.ot.2.1) (c9 := hW.ot.2.2) (c10 := (hW.rg ra hra).1) (c11 := (hW.rg ra hra).2.1) (c12 := (hW.rg ra hra).2.2) (c13 := (hW.rg rb hrb).1) (c14 := (hW.rg rb hrb).2.1) (c15 := (hW.rg rb hrb).2.2) (c16 := (hW.rg rd hrd).1) (c17 := (hW.rg rd hrd).2.1) (c18 := (hW.rg rd hrd).2.2) (hfq := hI.hq) (br1 := hI.b1) (br2 := hI.b2) (br3 := hI.b3) (br4 := hI.b4) (bft := hI.ot.1) (hkt := hI.ot.2.1) (hnt := hI.ot.2.2) (bfa := (hI.rg ra hra).1) (hka := (hI.rg ra hra).2.1) (hna := (hI.rg ra hra).2.2.1) (hra := hra) (hpa := (hI.rg ra hra).2.2.2.1) (hva := (hI.rg ra hra).2.2.2.2.1) (hca := (hI.rg ra hra).2.2.2.2.2.1) (hfa := (hI.rg ra hra).2.2.2.2.2.2.1) (bfb := (hI.rg rb hrb).1) (hkb := (hI.rg rb hrb).2.1) (hnb := (hI.rg rb hrb).2.2.1) (hrb := hrb) (hpb := (hI.rg rb hrb).2.2.2.1) (hvb := (hI.rg rb hrb).2.2.2.2.1) (hcb := (hI.rg rb hrb).2.2.2.2.2.1) (hfb := (hI.rg rb hrb).2.2.2.2.2.2.1) (bfd := (hI.rg rd hrd).1) (hkd := (hI.rg rd hrd).2.1) (hnd := (hI.rg rd hrd).2.2.1) (hrd := hrd) (hop := h_hop) H.size) (z_cwV (C := "ScaledNumeralDesk") 4 hg wm_372 wm_369 wm_1 wm_370 wm_371 (by decide +kernel) ⟨(Nat.le_of_ble_eq_true rfl), (Nat.le_of_ble_eq_true rfl)⟩) (z_preV (r := ("ScaledNumeralDesk", TD, 7)) hK hG hn hH hA (Nat.lt_of_lt_of_le (show 0 < 73 by decide) zl) hW.fix.1 rfl) rfl rfl hl.1 rfl (lv_room (Nat.le_of_ble_eq_true rfl)) d_L_law_260 ⟨(Nat.le_of_ble_eq_true rfl), (Nat.le_of_ble_eq_true rfl)⟩) hH hA (fun z1 w1 H1 lc1 hH1 hp1 => ?_)
    obtain ⟨⟨r1', r2', kt', plt', nt', ft', k', p', n', f', e1, e2, e3, e4, e5, e6, e7, e8, cb1, cb2, cb3, cb4, hC⟩, hf1⟩ := hp1
    have hW1 := wf_D_apply hrd hW e1 e2 e3 e4 e5 e6 e7 e8 hf1
    have hm : PMod E w1 59 σ.ty σ.xm σ.ym σ.ne σ.kf σ.mf σ.sf σ.G σ.bc σ.su σ.sz σ.cn σ.xf σ.yf σ.pf σ.rf σ.tf := hW1.md
    refine lv_aload_n hx hb d_L_law_263 rfl (lv_at hl 1 rfl) ?_
    refine lv_aload_n hx hb d_L_law_264 rfl (lv_at hl 3 rfl) ?_
    refine lv_iload_n hx hb d_L_law_265 rfl (lv_at hl 0 rfl) ?_
    refine zv_iconst hx hb d_L_law_266 ?_
    refine zv_iadd hx hb d_L_law_267 ?_
    refine z_sld hx hb hX hbl hH1 hL (by omega) (by omega) y1 d_L_law_268 ?_
    refine lv_aload_n hx hb d_L_law_269 rfl (lv_at hl 3 rfl) ?_
    refine lv_iload_n hx hb d_L_law_270 rfl (lv_at hl 0 rfl) ?_
    refine zv_iconst hx hb d_L_law_271 ?_
    refine zv_iadd hx hb d_L_law_272 ?_
    refine z_sld hx hb hX hbl hH1 hL (by omega) (by omega) y2 d_L_law_273 ?_
    refine lv_aload_n hx hb d_L_law_274 rfl (lv_at hl 3 rfl) ?_
    refine lv_iload_n hx hb d_L_law_275 rfl (lv_at hl 0 rfl) ?_
    refine zv_iconst hx hb d_L_law_276 ?_
    refine zv_iadd hx hb d_L_law_277 ?_
    refine z_sld hx hb hX hbl hH1 hL (by omega) (by omega) y3 d_L_law_278 ?_
    refine lv_aload_n hx hb d_L_law_279 rfl (lv_at hl 3 rfl) ?_
    refine lv_iload_n hx hb d_L_law_280 rfl (lv_at hl 0 rfl) ?_
    refine zv_iconst hx hb d_L_law_281 ?_
    refine zv_iadd hx hb d_L_law_282 ?_
    refine z_sld hx hb hX hbl hH1 hL (by omega) (by omega) y4 d_L_law_283 ?_
    refine z_calli (va_runV (As := [.int (iI v1), .int (iI ((rd : Int))), .int (iI ((ra : Int))), .int (iI ((rb : Int)))]) (rest := [.int (iI z1)]) ⟨hx, hb, hml, hown, hg⟩ (c_M_apply (l := l) (E := E) (w0 := w1) (g := 59) (ty := σ.ty) (xm := σ.xm) (ym := σ.ym) (ne := σ.ne) (xf := σ.xf) (yf := σ.yf) (f := σ.pf) (rf := σ.rf) (kf := σ.kf) (mf := σ.mf) (sf := σ.sf) (G := σ.G) (op := v1) (d := (rd : Int)) (ra := (ra : Int)) (rb := (rb : Int)) (q0lt := Nat.lt_of_lt_of_le (show 59 < 73 by decide) zl) (q1lt := Nat.lt_of_lt_of_le (show 59 + 9 < 73 by decide) zl) (q2lt := Nat.lt_of_lt_of_le (show 59 + 10 < 73 by decide) zl) (q3lt := Nat.lt_of_lt_of_le (show 59 + 11 < 73 by decide) zl) (q4lt := Nat.lt_of_lt_of_le (show 59 + 12 < 73 by decide) zl) (q5lt := Nat.lt_of_lt_of_le (show 59 + 1 < 73 by decide) zl) (q6lt := Nat.lt_of_lt_of_le (show 59 + 2 < 73 by decide) zl) (q7lt := Nat.lt_of_lt_of_le (show 59 + 3 < 73 by decide) zl) (q8lt := Nat.lt_of_lt_of_le (show 59 + 4 < 73 by decide) zl) (c0 := hm.1) (c1 := hm.2.2.2.2.2.2.2.2.2.1) (c2 := hm.2.2.2.2.2.2.2.2.2.2.1) (c3 := hm.2.2.2.2.2.2.2.2.2.2.2.1) (c4 := hm.2.2.2.2.2.2.2.2.2.2.2.2.1) (c5 := hm.2.1) (c6 := hm.2.2.1) (c7 := hm.2.2.2.1) (c8 := hm.2.2.2.2.1) (bx := hI.bx) (by1 := hI.by1) (bf := hI.bf) (br := hI.br) (bk := hI.bk) (bm := hI.bm) (bs := hI.bs) (bG := hI.bG) (hxm := hI.hxm) (hym := hI.hym) (hne := hI.hne) (hop := h_hop) (hd := i_rd) (hra := i_ra) (hrb := i_rb) H1.size) (z_cwV (C := "ScaledNumeralDeskModel") 4 hg wm_831 wm_828 wm_9 wm_829 wm_830 (by decide +kernel) ⟨(Nat.le_of_ble_eq_true rfl), (Nat.le_of_ble_eq_true rfl)⟩) (z_preV (r := ("ScaledNumeralDeskModel", TM, 17)) hK hG hn hH1 hA (Nat.lt_of_lt_of_le (show 59 < 73 by decide) zl) hm.1 rfl) rfl rfl hl.1 rfl (lv_room (Nat.le_of_ble_eq_true rfl)) d_L_law_284 ⟨(Nat.le_of_ble_eq_true rfl), (Nat.le_of_ble_eq_true rfl)⟩) hH1 hA (fun z2 w2 H2 lc2 hH2 hp2 => ?_)
    obtain ⟨⟨u'', v'', n'', x'', y'', f'', r'', k'', m'', s'', G'', f1, f2, f3, f4, f5, f6, f7, f8, f9, mb1, mb2, mb3, mb4, mb5, mb6, mb7, mb8, hM⟩, hf2⟩ := hp2
    have hW2 := wf_M_apply hW1 f1 f2 f3 f4 f5 f6 f7 f8 f9 hf2
    have hw9 : Wf E w2 (mkS σ.fq σ.fs σ.us σ.ch (r1') (r2') σ.r3 σ.r4 (kt') (plt') (nt') (ft') σ.kv σ.plv σ.nv σ.fv σ.kw σ.plw σ.nw σ.fw (upn σ.K rd k') (upn σ.P rd p') (upn σ.N rd n') (upn σ.F rd f') σ.SN σ.SZ σ.SF σ.CN σ.ty σ.bc (u'') (v'') (n'') (k'') (m'') (s'') (G'') σ.su σ.sz σ.cn (x'') (y'') (f'') (r'') σ.tf) := hW2
    obtain ⟨hz, hi9⟩ := iv_apply hrd hra hrb h_hop hI cb1 cb2 cb3 cb4 hC mb1 mb2 mb3 mb4 mb5 mb6 mb7 mb8 hM
    subst hz
    refine lv_icmp_eq (tgt := 632) hx hb d_L_law_287 rfl (fun _ => ?_) (fun h9 => absurd rfl h9)
    exact kk w2 _ H2 lc2 hw9 hi9 hH2
  · have hm := hW.md
    refine lv_aload_n hx hb d_L_law_239 rfl (lv_at hl 2 rfl) ?_
    refine lv_aload_n hx hb d_L_law_240 rfl (lv_at hl 3 rfl) ?_
    refine lv_iload_n hx hb d_L_law_241 rfl (lv_at hl 0 rfl) ?_
    refine zv_iconst hx hb d_L_law_242 ?_
    refine zv_iadd hx hb d_L_law_243 ?_
    refine z_sld hx hb hX hbl hH hL (by omega) (by omega) y1 d_L_law_244 ?_
    refine lv_aload_n hx hb d_L_law_245 rfl (lv_at hl 3 rfl) ?_
    refine lv_iload_n hx hb d_L_law_246 rfl (lv_at hl 0 rfl) ?_
    refine zv_iconst hx hb d_L_law_247 ?_
    refine zv_iadd hx hb d_L_law_248 ?_
    refine z_sld hx hb hX hbl hH hL (by omega) (by omega) y2 d_L_law_249 ?_
    refine lv_aload_n hx hb d_L_law_250 rfl (lv_at hl 3 rfl) ?_
    refine lv_iload_n hx hb d_L_law_251 rfl (lv_at hl 0 rfl) ?_
    refine zv_iconst hx hb d_L_law_252 ?_
    refine zv_iadd hx hb d_L_law_253 ?_
    refine z_sld hx hb hX hbl hH hL (by omega) (by omega) y3 d_L_law_254 ?_
    refine lv_aload_n hx hb d_L_law_255 rfl (lv_at hl 3 rfl) ?_
    refine lv_iload_n hx hb d_L_law_256 rfl (lv_at hl 0 rfl) ?_
    refine zv_iconst hx hb d_L_law_257 ?_
    refine zv_iadd hx hb d_L_law_258 ?_
    refine z_sld hx hb hX hbl hH hL (by omega) (by omega) y4 d_L_law_259 ?_
    refine z_calli (va_runV (As := [.int (iI v1), .int (iI v2), .int (iI v3), .int (iI v4)]) (rest := []) ⟨hx, hb, hml, hown, hg⟩ (c_D_applyX (l := l) (E := E) (w0 := w) (op := v1) (v0 := v2) (va := v3) (vb := v4) (hz_op := s1) (hz_v0 := s2) (hz_va := s3) (hz_vb := s4) (hbad := hin) H.size) (z_cwV (C := "ScaledNumeralDesk") 4 hg wm_372 wm_369 wm_1 wm_370 wm_371 (by decide +kernel) ⟨(Nat.le_of_ble_eq_true rfl), (Nat.le_of_ble_eq_true rfl)⟩) (z_preV (r := ("ScaledNumeralDesk", TD, 7)) hK hG hn hH hA (Nat.lt_of_lt_of_le (show 0 < 73 by decide) zl) hW.fix.1 rfl) rfl rfl hl.1 rfl (lv_room (Nat.le_of_ble_eq_true rfl)) d_L_law_260 ⟨(Nat.le_of_ble_eq_true rfl), (Nat.le_of_ble_eq_true rfl)⟩) hH hA (fun z1 w1 H1 lc1 hH1 hp1 => ?_)
    obtain ⟨ew1, hC⟩ := hp1
    rw [ew1] at hH1
    have hm := hW.md
    refine lv_aload_n hx hb d_L_law_263 rfl (lv_at hl 1 rfl) ?_
    refine lv_aload_n hx hb d_L_law_264 rfl (lv_at hl 3 rfl) ?_
    refine lv_iload_n hx hb d_L_law_265 rfl (lv_at hl 0 rfl) ?_
    refine zv_iconst hx hb d_L_law_266 ?_
    refine zv_iadd hx hb d_L_law_267 ?_
    refine z_sld hx hb hX hbl hH1 hL (by omega) (by omega) y1 d_L_law_268 ?_
    refine lv_aload_n hx hb d_L_law_269 rfl (lv_at hl 3 rfl) ?_
    refine lv_iload_n hx hb d_L_law_270 rfl (lv_at hl 0 rfl) ?_
    refine zv_iconst hx hb d_L_law_271 ?_
    refine zv_iadd hx hb d_L_law_272 ?_
    refine z_sld hx hb hX hbl hH1 hL (by omega) (by omega) y2 d_L_law_273 ?_
    refine lv_aload_n hx hb d_L_law_274 rfl (lv_at hl 3 rfl) ?_
    refine lv_iload_n hx hb d_L_law_275 rfl (lv_at hl 0 rfl) ?_
    refine zv_iconst hx hb d_L_law_276 ?_
    refine zv_iadd hx hb d_L_law_277 ?_
    refine z_sld hx hb hX hbl hH1 hL (by omega) (by omega) y3 d_L_law_278 ?_
    refine lv_aload_n hx hb d_L_law_279 rfl (lv_at hl 3 rfl) ?_
    refine lv_iload_n hx hb d_L_law_280 rfl (lv_at hl 0 rfl) ?_
    refine zv_iconst hx hb d_L_law_281 ?_
    refine zv_iadd hx hb d_L_law_282 ?_
    refine z_sld hx hb hX hbl hH1 hL (by omega) (by omega) y4 d_L_law_283 ?_
    refine z_calli (va_runV (As := [.int (iI v1), .int (iI v2), .int (iI v3), .int (iI v4)]) (rest := [.int (iI z1)]) ⟨hx, hb, hml, hown, hg⟩ (c_M_applyX (l := l) (E := E) (w0 := w) (g := 59) (ty := σ.ty) (xm := σ.xm) (ym := σ.ym) (ne := σ.ne) (op := v1) (v0 := v2) (va := v3) (vb := v4) (q0lt := Nat.lt_of_lt_of_le (show 59 < 73 by decide) zl) (c0 := hm.1) (hz_op := s1) (hz_v0 := s2) (hz_va := s3) (hz_vb := s4) (hbad := hin) H1.size) (z_cwV (C := "ScaledNumeralDeskModel") 4 hg wm_831 wm_828 wm_9 wm_829 wm_830 (by decide +kernel) ⟨(Nat.le_of_ble_eq_true rfl), (Nat.le_of_ble_eq_true rfl)⟩) (z_preV (r := ("ScaledNumeralDeskModel", TM, 17)) hK hG hn hH1 hA (Nat.lt_of_lt_of_le (show 59 < 73 by decide) zl) hm.1 rfl) rfl rfl hl.1 rfl (lv_room (Nat.le_of_ble_eq_true rfl)) d_L_law_284 ⟨(Nat.le_of_ble_eq_true rfl), (Nat.le_of_ble_eq_true rfl)⟩) hH1 hA (fun z2 w2 H2 lc2 hH2 hp2 => ?_)
    obtain ⟨ew2, hM⟩ := hp2
    rw [ew2] at hH2
    rw [hC, hM]
    refine lv_icmp_eq (tgt := 632) hx hb d_L_law_287 rfl (fun _ => ?_) (fun h9 => absurd rfl h9)
    exact kk w σ H2 lc2 hW hI hH2
set_option maxHeartbeats 8000000 in
set_option maxRecDepth 100000 in
theorem law_adjust {p : Program} {l : Launch} {e : Env} {s : State} {m : MethodId} {below : List Frame} {meth : Method} {c : Code} {b L : Nat} {xs : Nat → Int32} {E : zE} {w : zW} {σ : Sg} {H : Heap} {locs : List Loc} {Q : State → Prop} {ls : Array Slot} {i : Int} (hL : L ≤ 2560) (C : LC p s m c b L xs E) (hi : 0 ≤ i ∧ i + 5 ≤ L) (hW : Wf E w σ) (hI : Iv E σ) (hH : zH E w (lA s) s.heap H locs) (hl : lv_has ls 4 [(3, .int (iI i)), (2, .ref (ad E 59)), (1, .ref (ad E 0)), (0, .ref b)])
    (kk : ∀ (w' : zW) (σ' : Sg) (H' : Heap) (locs' : List Loc), Wf E w' σ' → Iv E σ' → zH E w' (lA s) s.heap H' locs' → W p l e room_1 s m #[Value.ref b] below meth c H' locs' 73 1902 Q (F0 m 632 ls [])) : W p l e room_1 s m #[Value.ref b] below meth c H locs 73 1902 Q (F0 m 292 ls []) := by
  obtain ⟨⟨hx, hb, hml, hown, hg⟩, hX, hbl, hK, hG, hn⟩ := C
  have hA : ∀ q, s.heap.size ≤ q → lA s q := fun q h => h
  have zl := hW.zn73
  obtain ⟨v1, y1⟩ : ∃ v, sx xs (i + 1) = v := ⟨_, rfl⟩
  have s1 : zr v1 := by rw [← y1]; exact sx_r xs _
  obtain ⟨v2, y2⟩ : ∃ v, sx xs (i + 2) = v := ⟨_, rfl⟩
  have s2 : zr v2 := by rw [← y2]; exact sx_r xs _
  obtain ⟨v3, y3⟩ : ∃ v, sx xs (i + 3) = v := ⟨_, rfl⟩
  have s3 : zr v3 := by rw [← y3]; exact sx_r xs _
  obtain ⟨v4, y4⟩ : ∃ v, sx xs (i + 4) = v := ⟨_, rfl⟩
  have s4 : zr v4 := by rw [← y4]; exact sx_r xs _
  by_cases hin : (0 ≤ v1 ∧ v1 ≤ 6 ∧ (0 ≤ v2 ∧ v2 < 8) ∧ (0 ≤ v3 ∧ v3 < 8))
  · have h_hop : 0 ≤ v1 ∧ v1 ≤ 6 := by omega
    obtain ⟨rd, rfl⟩ : ∃ n : Nat, v2 = n := ⟨v2.toNat, by omega⟩
    have hrd : rd < 8 := by omega
    have i_rd : 0 ≤ (rd : Int) ∧ (rd : Int) < 8 := by omega
    obtain ⟨ra, rfl⟩ : ∃ n : Nat, v3 = n := ⟨v3.toNat, by omega⟩
    have hra : ra < 8 := by omega
    have i_ra : 0 ≤ (ra : Int) ∧ (ra : Int) < 8 := by omega
    have h_hn0 := s4
    clear hin
    refine lv_aload_n hx hb d_L_law_292 rfl (lv_at hl 2 rfl) ?_
    refine lv_aload_n hx hb d_L_law_293 rfl (lv_at hl 3 rfl) ?_
    refine lv_iload_n hx hb d_L_law_294 rfl (lv_at hl 0 rfl) ?_
    refine zv_iconst hx hb d_L_law_295 ?_
    refine zv_iadd hx hb d_L_law_296 ?_
    refine z_sld hx hb hX hbl hH hL (by omega) (by omega) y1 d_L_law_297 ?_
    refine lv_aload_n hx hb d_L_law_298 rfl (lv_at hl 3 rfl) ?_
    refine lv_iload_n hx hb d_L_law_299 rfl (lv_at hl 0 rfl) ?_
    refine zv_iconst hx hb d_L_law_300 ?_
    refine zv_iadd hx hb d_L_law_301 ?_
    refine z_sld hx hb hX hbl hH hL (by omega) (by omega) y2 d_L_law_302 ?_
    refine lv_aload_n hx hb d_L_law_303 rfl (lv_at hl 3 rfl) ?_
    refine lv_iload_n hx hb d_L_law_304 rfl (lv_at hl 0 rfl) ?_
    refine zv_iconst hx hb d_L_law_305 ?_
    refine zv_iadd hx hb d_L_law_306 ?_
    refine z_sld hx hb hX hbl hH hL (by omega) (by omega) y3 d_L_law_307 ?_
    refine lv_aload_n hx hb d_L_law_308 rfl (lv_at hl 3 rfl) ?_
    refine lv_iload_n hx hb d_L_law_309 rfl (lv_at hl 0 rfl) ?_
    refine zv_iconst hx hb d_L_law_310 ?_
    refine zv_iadd hx hb d_L_law_311 ?_
    refine z_sld hx hb hX hbl hH hL (by omega) (by omega) y4 d_L_law_312 ?_
    refine z_calli (va_runV (As := [.int (iI v1), .int (iI ((rd : Int))), .int (iI ((ra : Int))), .int (iI v4)]) (rest := []) ⟨hx, hb, hml, hown, hg⟩ (c_D_adjust (l := l) (E := E) (w0 := w) (fq := σ.fq) (r1 := σ.r1) (r2 := σ.r2) (r3 := σ.r3) (r4 := σ.r4) (kt := σ.kt) (plt := σ.plt) (nt := σ.nt) (ft := σ.ft) (ra := ra) (ka := (σ.K ra)) (pla := (σ.P ra)) (na := (σ.N ra)) (fa := (σ.F ra)) (rd := rd) (kd := (σ.K rd)) (pld := (σ.P rd)) (nd := (σ.N rd)) (fd := (σ.F rd)) (op := v1) (n0 := v4) (hzn := zl) (c0 := hW.fix.1) (c1 := hW.fix.2.1) (c2 := hW.ben.1) (c3 := hW.ben.2.1) (c4 := hW.ben.2.2.1) (c5 := hW.ben.2.2.2.1) (c6 := hW.ben.2.2.2.2) (c7 := hW.ot.1) (c8 := hW.ot.2.1) (c9 := hW.ot.2.2) (c10 := (hW.rg ra hra).1) (c11 := (hW.rg ra hra).2.1) (c12 := (hW.rg ra hra).2.2) (c13 := (hW.rg rd hrd).1) (c14 := (hW.rg rd hrd).2.1) (c15 := (hW.rg rd hrd).2.2) (hfq := hI.hq) (br1 := hI.b1) (br2 := hI.b2) (br3 := hI.b3) (br4 := hI.b4) (bft := hI.ot.1) (hkt := hI.ot.2.1) (hnt := hI.ot.2.2) (bfa := (hI.rg ra hra).1) (hka := (hI.rg ra hra).2.1) (hna := (hI.rg ra hra).2.2.1) (hra := hra) (hpa := (hI.rg ra hra).2.2.2.1) (hva := (hI.rg ra hra).2.2.2.2.1) (hca := (hI.rg ra hra).2.2.2.2.2.1) (hfa := (hI.rg ra hra).2.2.2.2.2.2.1) (bfd := (hI.rg rd hrd).1) (hkd := (hI.rg rd hrd).2.1) (hnd := (hI.rg rd hrd).2.2.1) (hrd := hrd) (hop := h_hop) (hn0 := h_hn0) H.size) (z_cwV (C := "ScaledNumeralDesk") 4 hg wm_514 wm_511 wm_1 wm_512 wm_513 (by decide +kernel) ⟨(Nat.le_of_ble_eq_true rfl), (Nat.le_of_ble_eq_true rfl)⟩) (z_preV (r := ("ScaledNumeralDesk", TD, 7)) hK hG hn hH hA (Nat.lt_of_lt_of_le (show 0 < 73 by decide) zl) hW.fix.1 rfl) rfl rfl hl.1 rfl (lv_room (Nat.le_of_ble_eq_true rfl)) d_L_law_313 ⟨(Nat.le_of_ble_eq_true rfl), (Nat.le_of_ble_eq_true rfl)⟩) hH hA (fun z1 w1 H1 lc1 hH1 hp1 => ?_)
    obtain ⟨⟨r1', r2', r3', r4', kt', plt', nt', ft', k', p', n', f', e1, e2, e3, e4, e5, e6, e7, e8, e9, e10, cb1, cb2, cb3, cb4, cb5, cb6, hC⟩, hf1⟩ := hp1
    have hW1 := wf_D_adjust hrd hW e1 e2 e3 e4 e5 e6 e7 e8 e9 e10 hf1
    have hm : PMod E w1 59 σ.ty σ.xm σ.ym σ.ne σ.kf σ.mf σ.sf σ.G σ.bc σ.su σ.sz σ.cn σ.xf σ.yf σ.pf σ.rf σ.tf := hW1.md
    refine lv_aload_n hx hb d_L_law_316 rfl (lv_at hl 1 rfl) ?_
    refine lv_aload_n hx hb d_L_law_317 rfl (lv_at hl 3 rfl) ?_
    refine lv_iload_n hx hb d_L_law_318 rfl (lv_at hl 0 rfl) ?_
    refine zv_iconst hx hb d_L_law_319 ?_
    refine zv_iadd hx hb d_L_law_320 ?_
    refine z_sld hx hb hX hbl hH1 hL (by omega) (by omega) y1 d_L_law_321 ?_
    refine lv_aload_n hx hb d_L_law_322 rfl (lv_at hl 3 rfl) ?_
    refine lv_iload_n hx hb d_L_law_323 rfl (lv_at hl 0 rfl) ?_
    refine zv_iconst hx hb d_L_law_324 ?_
    refine zv_iadd hx hb d_L_law_325 ?_
    refine z_sld hx hb hX hbl hH1 hL (by omega) (by omega) y2 d_L_law_326 ?_
    refine lv_aload_n hx hb d_L_law_327 rfl (lv_at hl 3 rfl) ?_
    refine lv_iload_n hx hb d_L_law_328 rfl (lv_at hl 0 rfl) ?_
    refine zv_iconst hx hb d_L_law_329 ?_
    refine zv_iadd hx hb d_L_law_330 ?_
    refine z_sld hx hb hX hbl hH1 hL (by omega) (by omega) y3 d_L_law_331 ?_
    refine lv_aload_n hx hb d_L_law_332 rfl (lv_at hl 3 rfl) ?_
    refine lv_iload_n hx hb d_L_law_333 rfl (lv_at hl 0 rfl) ?_
    refine zv_iconst hx hb d_L_law_334 ?_
    refine zv_iadd hx hb d_L_law_335 ?_
    refine z_sld hx hb hX hbl hH1 hL (by omega) (by omega) y4 d_L_law_336 ?_
    refine z_calli (va_runV (As := [.int (iI v1), .int (iI ((rd : Int))), .int (iI ((ra : Int))), .int (iI v4)]) (rest := [.int (iI z1)]) ⟨hx, hb, hml, hown, hg⟩ (c_M_adjust (l := l) (E := E) (w0 := w1) (g := 59) (ty := σ.ty) (xm := σ.xm) (ym := σ.ym) (ne := σ.ne) (xf := σ.xf) (yf := σ.yf) (f := σ.pf) (rf := σ.rf) (tf := σ.tf) (kf := σ.kf) (mf := σ.mf) (sf := σ.sf) (G := σ.G) (op := v1) (d := (rd : Int)) (ra := (ra : Int)) (n0 := v4) (q0lt := Nat.lt_of_lt_of_le (show 59 < 73 by decide) zl) (q1lt := Nat.lt_of_lt_of_le (show 59 + 9 < 73 by decide) zl) (q2lt := Nat.lt_of_lt_of_le (show 59 + 10 < 73 by decide) zl) (q3lt := Nat.lt_of_lt_of_le (show 59 + 11 < 73 by decide) zl) (q4lt := Nat.lt_of_lt_of_le (show 59 + 12 < 73 by decide) zl) (q5lt := Nat.lt_of_lt_of_le (show 59 + 13 < 73 by decide) zl) (q6lt := Nat.lt_of_lt_of_le (show 59 + 1 < 73 by decide) zl) (q7lt := Nat.lt_of_lt_of_le (show 59 + 2 < 73 by decide) zl) (q8lt := Nat.lt_of_lt_of_le (show 59 + 3 < 73 by decide) zl) (q9lt := Nat.lt_of_lt_of_le (show 59 + 4 < 73 by decide) zl) (c0 := hm.1) (c1 := hm.2.2.2.2.2.2.2.2.2.1) (c2 := hm.2.2.2.2.2.2.2.2.2.2.1) (c3 := hm.2.2.2.2.2.2.2.2.2.2.2.1) (c4 := hm.2.2.2.2.2.2.2.2.2.2.2.2.1) (c5 := hm.2.2.2.2.2.2.2.2.2.2.2.2.2) (c6 := hm.2.1) (c7 := hm.2.2.1) (c8 := hm.2.2.2.1) (c9 := hm.2.2.2.2.1) (bx := hI.bx) (by1 := hI.by1) (bf := hI.bf) (br := hI.br) (bt := hI.bt) (bk := hI.bk) (bm := hI.bm) (bs := hI.bs) (bG := hI.bG) (hxm := hI.hxm) (hym := hI.hym) (hne := hI.hne) (hop := h_hop) (hd := i_rd) (hra := i_ra) (hn0 := h_hn0) H1.size) (z_cwV (C := "ScaledNumeralDeskModel") 4 hg wm_915 wm_912 wm_9 wm_913 wm_914 (by decide +kernel) ⟨(Nat.le_of_ble_eq_true rfl), (Nat.le_of_ble_eq_true rfl)⟩) (z_preV (r := ("ScaledNumeralDeskModel", TM, 17)) hK hG hn hH1 hA (Nat.lt_of_lt_of_le (show 59 < 73 by decide) zl) hm.1 rfl) rfl rfl hl.1 rfl (lv_room (Nat.le_of_ble_eq_true rfl)) d_L_law_337 ⟨(Nat.le_of_ble_eq_true rfl), (Nat.le_of_ble_eq_true rfl)⟩) hH1 hA (fun z2 w2 H2 lc2 hH2 hp2 => ?_)
    obtain ⟨⟨u'', n'', x'', y'', f'', r'', t'', k'', m'', s'', G'', f1, f2, f3, f4, f5, f6, f7, f8, f9, f10, mb1, mb2, mb3, mb4, mb5, mb6, mb7, mb8, mb9, hM⟩, hf2⟩ := hp2
    have hW2 := wf_M_adjust hW1 f1 f2 f3 f4 f5 f6 f7 f8 f9 f10 hf2
    have hw9 : Wf E w2 (mkS σ.fq σ.fs σ.us σ.ch (r1') (r2') (r3') (r4') (kt') (plt') (nt') (ft') σ.kv σ.plv σ.nv σ.fv σ.kw σ.plw σ.nw σ.fw (upn σ.K rd k') (upn σ.P rd p') (upn σ.N rd n') (upn σ.F rd f') σ.SN σ.SZ σ.SF σ.CN σ.ty σ.bc (u'') σ.ym (n'') (k'') (m'') (s'') (G'') σ.su σ.sz σ.cn (x'') (y'') (f'') (r'') (t'')) := hW2
    obtain ⟨hz, hi9⟩ := iv_adjust hrd hra h_hop h_hn0 hI cb1 cb2 cb3 cb4 cb5 cb6 hC mb1 mb2 mb3 mb4 mb5 mb6 mb7 mb8 mb9 hM
    subst hz
    refine lv_icmp_eq (tgt := 632) hx hb d_L_law_340 rfl (fun _ => ?_) (fun h9 => absurd rfl h9)
    exact kk w2 _ H2 lc2 hw9 hi9 hH2
  · have hm := hW.md
    refine lv_aload_n hx hb d_L_law_292 rfl (lv_at hl 2 rfl) ?_
    refine lv_aload_n hx hb d_L_law_293 rfl (lv_at hl 3 rfl) ?_
    refine lv_iload_n hx hb d_L_law_294 rfl (lv_at hl 0 rfl) ?_
    refine zv_iconst hx hb d_L_law_295 ?_
    refine zv_iadd hx hb d_L_law_296 ?_
    refine z_sld hx hb hX hbl hH hL (by omega) (by omega) y1 d_L_law_297 ?_
    refine lv_aload_n hx hb d_L_law_298 rfl (lv_at hl 3 rfl) ?_
    refine lv_iload_n hx hb d_L_law_299 rfl (lv_at hl 0 rfl) ?_
    refine zv_iconst hx hb d_L_law_300 ?_
    refine zv_iadd hx hb d_L_law_301 ?_
    refine z_sld hx hb hX hbl hH hL (by omega) (by omega) y2 d_L_law_302 ?_
    refine lv_aload_n hx hb d_L_law_303 rfl (lv_at hl 3 rfl) ?_
    refine lv_iload_n hx hb d_L_law_304 rfl (lv_at hl 0 rfl) ?_
    refine zv_iconst hx hb d_L_law_305 ?_
    refine zv_iadd hx hb d_L_law_306 ?_
    refine z_sld hx hb hX hbl hH hL (by omega) (by omega) y3 d_L_law_307 ?_
    refine lv_aload_n hx hb d_L_law_308 rfl (lv_at hl 3 rfl) ?_
    refine lv_iload_n hx hb d_L_law_309 rfl (lv_at hl 0 rfl) ?_
    refine zv_iconst hx hb d_L_law_310 ?_
    refine zv_iadd hx hb d_L_law_311 ?_
    refine z_sld hx hb hX hbl hH hL (by omega) (by omega) y4 d_L_law_312 ?_
    refine z_calli (va_runV (As := [.int (iI v1), .int (iI v2), .int (iI v3), .int (iI v4)]) (rest := []) ⟨hx, hb, hml, hown, hg⟩ (c_D_adjustX (l := l) (E := E) (w0 := w) (op := v1) (v0 := v2) (va := v3) (n0 := v4) (hz_op := s1) (hz_v0 := s2) (hz_va := s3) (hz_n0 := s4) (hbad := hin) H.size) (z_cwV (C := "ScaledNumeralDesk") 4 hg wm_514 wm_511 wm_1 wm_512 wm_513 (by decide +kernel) ⟨(Nat.le_of_ble_eq_true rfl), (Nat.le_of_ble_eq_true rfl)⟩) (z_preV (r := ("ScaledNumeralDesk", TD, 7)) hK hG hn hH hA (Nat.lt_of_lt_of_le (show 0 < 73 by decide) zl) hW.fix.1 rfl) rfl rfl hl.1 rfl (lv_room (Nat.le_of_ble_eq_true rfl)) d_L_law_313 ⟨(Nat.le_of_ble_eq_true rfl), (Nat.le_of_ble_eq_true rfl)⟩) hH hA (fun z1 w1 H1 lc1 hH1 hp1 => ?_)
    obtain ⟨ew1, hC⟩ := hp1
    rw [ew1] at hH1
    have hm := hW.md
    refine lv_aload_n hx hb d_L_law_316 rfl (lv_at hl 1 rfl) ?_
    refine lv_aload_n hx hb d_L_law_317 rfl (lv_at hl 3 rfl) ?_
    refine lv_iload_n hx hb d_L_law_318 rfl (lv_at hl 0 rfl) ?_
    refine zv_iconst hx hb d_L_law_319 ?_
    refine zv_iadd hx hb d_L_law_320 ?_
    refine z_sld hx hb hX hbl hH1 hL (by omega) (by omega) y1 d_L_law_321 ?_
    refine lv_aload_n hx hb d_L_law_322 rfl (lv_at hl 3 rfl) ?_
    refine lv_iload_n hx hb d_L_law_323 rfl (lv_at hl 0 rfl) ?_
    refine zv_iconst hx hb d_L_law_324 ?_
    refine zv_iadd hx hb d_L_law_325 ?_
    refine z_sld hx hb hX hbl hH1 hL (by omega) (by omega) y2 d_L_law_326 ?_
    refine lv_aload_n hx hb d_L_law_327 rfl (lv_at hl 3 rfl) ?_
    refine lv_iload_n hx hb d_L_law_328 rfl (lv_at hl 0 rfl) ?_
    refine zv_iconst hx hb d_L_law_329 ?_
    refine zv_iadd hx hb d_L_law_330 ?_
    refine z_sld hx hb hX hbl hH1 hL (by omega) (by omega) y3 d_L_law_331 ?_
    refine lv_aload_n hx hb d_L_law_332 rfl (lv_at hl 3 rfl) ?_
    refine lv_iload_n hx hb d_L_law_333 rfl (lv_at hl 0 rfl) ?_
    refine zv_iconst hx hb d_L_law_334 ?_
    refine zv_iadd hx hb d_L_law_335 ?_
    refine z_sld hx hb hX hbl hH1 hL (by omega) (by omega) y4 d_L_law_336 ?_
    refine z_calli (va_runV (As := [.int (iI v1), .int (iI v2), .int (iI v3), .int (iI v4)]) (rest := [.int (iI z1)]) ⟨hx, hb, hml, hown, hg⟩ (c_M_adjustX (l := l) (E := E) (w0 := w) (g := 59) (ty := σ.ty) (xm := σ.xm) (ym := σ.ym) (ne := σ.ne) (op := v1) (v0 := v2) (va := v3) (n0 := v4) (q0lt := Nat.lt_of_lt_of_le (show 59 < 73 by decide) zl) (c0 := hm.1) (hz_op := s1) (hz_v0 := s2) (hz_va := s3) (hz_n0 := s4) (hbad := hin) H1.size) (z_cwV (C := "ScaledNumeralDeskModel") 4 hg wm_915 wm_912 wm_9 wm_913 wm_914 (by decide +kernel) ⟨(Nat.le_of_ble_eq_true rfl), (Nat.le_of_ble_eq_true rfl)⟩) (z_preV (r := ("ScaledNumeralDeskModel", TM, 17)) hK hG hn hH1 hA (Nat.lt_of_lt_of_le (show 59 < 73 by decide) zl) hm.1 rfl) rfl rfl hl.1 rfl (lv_room (Nat.le_of_ble_eq_true rfl)) d_L_law_337 ⟨(Nat.le_of_ble_eq_true rfl), (Nat.le_of_ble_eq_true rfl)⟩) hH1 hA (fun z2 w2 H2 lc2 hH2 hp2 => ?_)
    obtain ⟨ew2, hM⟩ := hp2
    rw [ew2] at hH2
    rw [hC, hM]
    refine lv_icmp_eq (tgt := 632) hx hb d_L_law_340 rfl (fun _ => ?_) (fun h9 => absurd rfl h9)
    exact kk w σ H2 lc2 hW hI hH2
set_option maxHeartbeats 8000000 in
set_option maxRecDepth 100000 in
theorem law_fit {p : Program} {l : Launch} {e : Env} {s : State} {m : MethodId} {below : List Frame} {meth : Method} {c : Code} {b L : Nat} {xs : Nat → Int32} {E : zE} {w : zW} {σ : Sg} {H : Heap} {locs : List Loc} {Q : State → Prop} {ls : Array Slot} {i : Int} (hL : L ≤ 2560) (C : LC p s m c b L xs E) (hi : 0 ≤ i ∧ i + 5 ≤ L) (hW : Wf E w σ) (hI : Iv E σ) (hH : zH E w (lA s) s.heap H locs) (hl : lv_has ls 4 [(3, .int (iI i)), (2, .ref (ad E 59)), (1, .ref (ad E 0)), (0, .ref b)])
    (kk : ∀ (w' : zW) (σ' : Sg) (H' : Heap) (locs' : List Loc), Wf E w' σ' → Iv E σ' → zH E w' (lA s) s.heap H' locs' → W p l e room_1 s m #[Value.ref b] below meth c H' locs' 73 1902 Q (F0 m 632 ls [])) : W p l e room_1 s m #[Value.ref b] below meth c H locs 73 1902 Q (F0 m 345 ls []) := by
  obtain ⟨⟨hx, hb, hml, hown, hg⟩, hX, hbl, hK, hG, hn⟩ := C
  have hA : ∀ q, s.heap.size ≤ q → lA s q := fun q h => h
  have zl := hW.zn73
  obtain ⟨v1, y1⟩ : ∃ v, sx xs (i + 1) = v := ⟨_, rfl⟩
  have s1 : zr v1 := by rw [← y1]; exact sx_r xs _
  obtain ⟨v2, y2⟩ : ∃ v, sx xs (i + 2) = v := ⟨_, rfl⟩
  have s2 : zr v2 := by rw [← y2]; exact sx_r xs _
  obtain ⟨v3, y3⟩ : ∃ v, sx xs (i + 3) = v := ⟨_, rfl⟩
  have s3 : zr v3 := by rw [← y3]; exact sx_r xs _
  by_cases hin : ((0 ≤ v1 ∧ v1 < 8) ∧ 1 ≤ v2 ∧ v2 ≤ 56 ∧ -32 ≤ v3 ∧ v3 ≤ 24)
  · obtain ⟨ra, rfl⟩ : ∃ n : Nat, v1 = n := ⟨v1.toNat, by omega⟩
    have hra : ra < 8 := by omega
    have i_ra : 0 ≤ (ra : Int) ∧ (ra : Int) < 8 := by omega
    have h_hpr : 1 ≤ v2 ∧ v2 ≤ 56 := by omega
    have h_hsc : -32 ≤ v3 ∧ v3 ≤ 24 := by omega
    clear hin
    refine lv_aload_n hx hb d_L_law_345 rfl (lv_at hl 2 rfl) ?_
    refine lv_aload_n hx hb d_L_law_346 rfl (lv_at hl 3 rfl) ?_
    refine lv_iload_n hx hb d_L_law_347 rfl (lv_at hl 0 rfl) ?_
    refine zv_iconst hx hb d_L_law_348 ?_
    refine zv_iadd hx hb d_L_law_349 ?_
    refine z_sld hx hb hX hbl hH hL (by omega) (by omega) y1 d_L_law_350 ?_
    refine lv_aload_n hx hb d_L_law_351 rfl (lv_at hl 3 rfl) ?_
    refine lv_iload_n hx hb d_L_law_352 rfl (lv_at hl 0 rfl) ?_
    refine zv_iconst hx hb d_L_law_353 ?_
    refine zv_iadd hx hb d_L_law_354 ?_
    refine z_sld hx hb hX hbl hH hL (by omega) (by omega) y2 d_L_law_355 ?_
    refine lv_aload_n hx hb d_L_law_356 rfl (lv_at hl 3 rfl) ?_
    refine lv_iload_n hx hb d_L_law_357 rfl (lv_at hl 0 rfl) ?_
    refine zv_iconst hx hb d_L_law_358 ?_
    refine zv_iadd hx hb d_L_law_359 ?_
    refine z_sld hx hb hX hbl hH hL (by omega) (by omega) y3 d_L_law_360 ?_
    refine z_calli (va_runV (As := [.int (iI ((ra : Int))), .int (iI v2), .int (iI v3)]) (rest := []) ⟨hx, hb, hml, hown, hg⟩ (c_D_fit (l := l) (E := E) (w0 := w) (fq := σ.fq) (kt := σ.kt) (plt := σ.plt) (nt := σ.nt) (ft := σ.ft) (ra := ra) (ka := (σ.K ra)) (pla := (σ.P ra)) (na := (σ.N ra)) (fa := (σ.F ra)) (pr := v2) (sc := v3) (hzn := zl) (c0 := hW.fix.1) (c1 := hW.fix.2.1) (c2 := hW.ot.1) (c3 := hW.ot.2.1) (c4 := hW.ot.2.2) (c5 := (hW.rg ra hra).1) (c6 := (hW.rg ra hra).2.1) (c7 := (hW.rg ra hra).2.2) (hfq := hI.hq) (bft := hI.ot.1) (hkt := hI.ot.2.1) (hnt := hI.ot.2.2) (bfa := (hI.rg ra hra).1) (hka := (hI.rg ra hra).2.1) (hna := (hI.rg ra hra).2.2.1) (hra := hra) (hpa := (hI.rg ra hra).2.2.2.1) (hva := (hI.rg ra hra).2.2.2.2.1) (hca := (hI.rg ra hra).2.2.2.2.2.1) (hfa := (hI.rg ra hra).2.2.2.2.2.2.1) (hpr := h_hpr) (hsc := h_hsc) H.size) (z_cwV (C := "ScaledNumeralDesk") 3 hg wm_573 wm_570 wm_1 wm_571 wm_572 (by decide +kernel) ⟨(Nat.le_of_ble_eq_true rfl), (Nat.le_of_ble_eq_true rfl)⟩) (z_preV (r := ("ScaledNumeralDesk", TD, 7)) hK hG hn hH hA (Nat.lt_of_lt_of_le (show 0 < 73 by decide) zl) hW.fix.1 rfl) rfl rfl hl.1 rfl (lv_room (Nat.le_of_ble_eq_true rfl)) d_L_law_361 ⟨(Nat.le_of_ble_eq_true rfl), (Nat.le_of_ble_eq_true rfl)⟩) hH hA (fun z1 w1 H1 lc1 hH1 hp1 => ?_)
    obtain ⟨⟨kt', plt', nt', ft', k', p', n', f', e1, e2, e3, e4, e5, e6, cb1, cb2, hC⟩, hf1⟩ := hp1
    have hW1 := wf_D_fit hra hW e1 e2 e3 e4 e5 e6 hf1
    have hm : PMod E w1 59 σ.ty σ.xm σ.ym σ.ne σ.kf σ.mf σ.sf σ.G σ.bc σ.su σ.sz σ.cn σ.xf σ.yf σ.pf σ.rf σ.tf := hW1.md
    refine lv_aload_n hx hb d_L_law_364 rfl (lv_at hl 1 rfl) ?_
    refine lv_aload_n hx hb d_L_law_365 rfl (lv_at hl 3 rfl) ?_
    refine lv_iload_n hx hb d_L_law_366 rfl (lv_at hl 0 rfl) ?_
    refine zv_iconst hx hb d_L_law_367 ?_
    refine zv_iadd hx hb d_L_law_368 ?_
    refine z_sld hx hb hX hbl hH1 hL (by omega) (by omega) y1 d_L_law_369 ?_
    refine lv_aload_n hx hb d_L_law_370 rfl (lv_at hl 3 rfl) ?_
    refine lv_iload_n hx hb d_L_law_371 rfl (lv_at hl 0 rfl) ?_
    refine zv_iconst hx hb d_L_law_372 ?_
    refine zv_iadd hx hb d_L_law_373 ?_
    refine z_sld hx hb hX hbl hH1 hL (by omega) (by omega) y2 d_L_law_374 ?_
    refine lv_aload_n hx hb d_L_law_375 rfl (lv_at hl 3 rfl) ?_
    refine lv_iload_n hx hb d_L_law_376 rfl (lv_at hl 0 rfl) ?_
    refine zv_iconst hx hb d_L_law_377 ?_
    refine zv_iadd hx hb d_L_law_378 ?_
    refine z_sld hx hb hX hbl hH1 hL (by omega) (by omega) y3 d_L_law_379 ?_
    refine z_calli (va_runV (As := [.int (iI ((ra : Int))), .int (iI v2), .int (iI v3)]) (rest := [.int (iI z1)]) ⟨hx, hb, hml, hown, hg⟩ (c_M_fit (l := l) (E := E) (w0 := w1) (g := 59) (ty := σ.ty) (xm := σ.xm) (ym := σ.ym) (ne := σ.ne) (xf := σ.xf) (f := σ.pf) (kf := σ.kf) (mf := σ.mf) (sf := σ.sf) (G := σ.G) (ra := (ra : Int)) (pr := v2) (sc := v3) (q0lt := Nat.lt_of_lt_of_le (show 59 < 73 by decide) zl) (q1lt := Nat.lt_of_lt_of_le (show 59 + 9 < 73 by decide) zl) (q2lt := Nat.lt_of_lt_of_le (show 59 + 11 < 73 by decide) zl) (q3lt := Nat.lt_of_lt_of_le (show 59 + 1 < 73 by decide) zl) (q4lt := Nat.lt_of_lt_of_le (show 59 + 2 < 73 by decide) zl) (q5lt := Nat.lt_of_lt_of_le (show 59 + 3 < 73 by decide) zl) (q6lt := Nat.lt_of_lt_of_le (show 59 + 4 < 73 by decide) zl) (c0 := hm.1) (c1 := hm.2.2.2.2.2.2.2.2.2.1) (c2 := hm.2.2.2.2.2.2.2.2.2.2.2.1) (c3 := hm.2.1) (c4 := hm.2.2.1) (c5 := hm.2.2.2.1) (c6 := hm.2.2.2.2.1) (bx := hI.bx) (bf := hI.bf) (bk := hI.bk) (bm := hI.bm) (bs := hI.bs) (bG := hI.bG) (hxm := hI.hxm) (hym := hI.hym) (hne := hI.hne) (hra := i_ra) (hpr := h_hpr) (hsc := h_hsc) H1.size) (z_cwV (C := "ScaledNumeralDeskModel") 3 hg wm_939 wm_936 wm_9 wm_937 wm_938 (by decide +kernel) ⟨(Nat.le_of_ble_eq_true rfl), (Nat.le_of_ble_eq_true rfl)⟩) (z_preV (r := ("ScaledNumeralDeskModel", TM, 17)) hK hG hn hH1 hA (Nat.lt_of_lt_of_le (show 59 < 73 by decide) zl) hm.1 rfl) rfl rfl hl.1 rfl (lv_room (Nat.le_of_ble_eq_true rfl)) d_L_law_380 ⟨(Nat.le_of_ble_eq_true rfl), (Nat.le_of_ble_eq_true rfl)⟩) hH1 hA (fun z2 w2 H2 lc2 hH2 hp2 => ?_)
    obtain ⟨⟨u'', n'', x'', f'', k'', m'', s'', G'', f1, f2, f3, f4, f5, f6, f7, mb1, mb2, mb3, mb4, mb5, mb6, hM⟩, hf2⟩ := hp2
    have hW2 := wf_M_fit hW1 f1 f2 f3 f4 f5 f6 f7 hf2
    have hw9 : Wf E w2 (mkS σ.fq σ.fs σ.us σ.ch σ.r1 σ.r2 σ.r3 σ.r4 (kt') (plt') (nt') (ft') σ.kv σ.plv σ.nv σ.fv σ.kw σ.plw σ.nw σ.fw (upn σ.K ra k') (upn σ.P ra p') (upn σ.N ra n') (upn σ.F ra f') σ.SN σ.SZ σ.SF σ.CN σ.ty σ.bc (u'') σ.ym (n'') (k'') (m'') (s'') (G'') σ.su σ.sz σ.cn (x'') σ.yf (f'') σ.rf σ.tf) := hW2
    obtain ⟨hz, hi9⟩ := iv_fit hra h_hpr h_hsc hI cb1 cb2 hC mb1 mb2 mb3 mb4 mb5 mb6 hM
    subst hz
    refine lv_icmp_eq (tgt := 632) hx hb d_L_law_383 rfl (fun _ => ?_) (fun h9 => absurd rfl h9)
    exact kk w2 _ H2 lc2 hw9 hi9 hH2
  · have hm := hW.md
    refine lv_aload_n hx hb d_L_law_345 rfl (lv_at hl 2 rfl) ?_
    refine lv_aload_n hx hb d_L_law_346 rfl (lv_at hl 3 rfl) ?_
    refine lv_iload_n hx hb d_L_law_347 rfl (lv_at hl 0 rfl) ?_
    refine zv_iconst hx hb d_L_law_348 ?_
    refine zv_iadd hx hb d_L_law_349 ?_
    refine z_sld hx hb hX hbl hH hL (by omega) (by omega) y1 d_L_law_350 ?_
    refine lv_aload_n hx hb d_L_law_351 rfl (lv_at hl 3 rfl) ?_
    refine lv_iload_n hx hb d_L_law_352 rfl (lv_at hl 0 rfl) ?_
    refine zv_iconst hx hb d_L_law_353 ?_
    refine zv_iadd hx hb d_L_law_354 ?_
    refine z_sld hx hb hX hbl hH hL (by omega) (by omega) y2 d_L_law_355 ?_
    refine lv_aload_n hx hb d_L_law_356 rfl (lv_at hl 3 rfl) ?_
    refine lv_iload_n hx hb d_L_law_357 rfl (lv_at hl 0 rfl) ?_
    refine zv_iconst hx hb d_L_law_358 ?_
    refine zv_iadd hx hb d_L_law_359 ?_
    refine z_sld hx hb hX hbl hH hL (by omega) (by omega) y3 d_L_law_360 ?_
    refine z_calli (va_runV (As := [.int (iI v1), .int (iI v2), .int (iI v3)]) (rest := []) ⟨hx, hb, hml, hown, hg⟩ (c_D_fitX (l := l) (E := E) (w0 := w) (v0 := v1) (pr := v2) (sc := v3) (hz_v0 := s1) (hz_pr := s2) (hz_sc := s3) (hbad := hin) H.size) (z_cwV (C := "ScaledNumeralDesk") 3 hg wm_573 wm_570 wm_1 wm_571 wm_572 (by decide +kernel) ⟨(Nat.le_of_ble_eq_true rfl), (Nat.le_of_ble_eq_true rfl)⟩) (z_preV (r := ("ScaledNumeralDesk", TD, 7)) hK hG hn hH hA (Nat.lt_of_lt_of_le (show 0 < 73 by decide) zl) hW.fix.1 rfl) rfl rfl hl.1 rfl (lv_room (Nat.le_of_ble_eq_true rfl)) d_L_law_361 ⟨(Nat.le_of_ble_eq_true rfl), (Nat.le_of_ble_eq_true rfl)⟩) hH hA (fun z1 w1 H1 lc1 hH1 hp1 => ?_)
    obtain ⟨ew1, hC⟩ := hp1
    rw [ew1] at hH1
    have hm := hW.md
    refine lv_aload_n hx hb d_L_law_364 rfl (lv_at hl 1 rfl) ?_
    refine lv_aload_n hx hb d_L_law_365 rfl (lv_at hl 3 rfl) ?_
    refine lv_iload_n hx hb d_L_law_366 rfl (lv_at hl 0 rfl) ?_
    refine zv_iconst hx hb d_L_law_367 ?_
    refine zv_iadd hx hb d_L_law_368 ?_
    refine z_sld hx hb hX hbl hH1 hL (by omega) (by omega) y1 d_L_law_369 ?_
    refine lv_aload_n hx hb d_L_law_370 rfl (lv_at hl 3 rfl) ?_
    refine lv_iload_n hx hb d_L_law_371 rfl (lv_at hl 0 rfl) ?_
    refine zv_iconst hx hb d_L_law_372 ?_
    refine zv_iadd hx hb d_L_law_373 ?_
    refine z_sld hx hb hX hbl hH1 hL (by omega) (by omega) y2 d_L_law_374 ?_
    refine lv_aload_n hx hb d_L_law_375 rfl (lv_at hl 3 rfl) ?_
    refine lv_iload_n hx hb d_L_law_376 rfl (lv_at hl 0 rfl) ?_
    refine zv_iconst hx hb d_L_law_377 ?_
    refine zv_iadd hx hb d_L_law_378 ?_
    refine z_sld hx hb hX hbl hH1 hL (by omega) (by omega) y3 d_L_law_379 ?_
    refine z_calli (va_runV (As := [.int (iI v1), .int (iI v2), .int (iI v3)]) (rest := [.int (iI z1)]) ⟨hx, hb, hml, hown, hg⟩ (c_M_fitX (l := l) (E := E) (w0 := w) (g := 59) (ty := σ.ty) (xm := σ.xm) (ym := σ.ym) (ne := σ.ne) (v0 := v1) (pr := v2) (sc := v3) (q0lt := Nat.lt_of_lt_of_le (show 59 < 73 by decide) zl) (c0 := hm.1) (hz_v0 := s1) (hz_pr := s2) (hz_sc := s3) (hbad := hin) H1.size) (z_cwV (C := "ScaledNumeralDeskModel") 3 hg wm_939 wm_936 wm_9 wm_937 wm_938 (by decide +kernel) ⟨(Nat.le_of_ble_eq_true rfl), (Nat.le_of_ble_eq_true rfl)⟩) (z_preV (r := ("ScaledNumeralDeskModel", TM, 17)) hK hG hn hH1 hA (Nat.lt_of_lt_of_le (show 59 < 73 by decide) zl) hm.1 rfl) rfl rfl hl.1 rfl (lv_room (Nat.le_of_ble_eq_true rfl)) d_L_law_380 ⟨(Nat.le_of_ble_eq_true rfl), (Nat.le_of_ble_eq_true rfl)⟩) hH1 hA (fun z2 w2 H2 lc2 hH2 hp2 => ?_)
    obtain ⟨ew2, hM⟩ := hp2
    rw [ew2] at hH2
    rw [hC, hM]
    refine lv_icmp_eq (tgt := 632) hx hb d_L_law_383 rfl (fun _ => ?_) (fun h9 => absurd rfl h9)
    exact kk w σ H2 lc2 hW hI hH2
