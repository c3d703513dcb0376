/-! Texts: the constants' String methods, by hand. -/
def lenZ (i : Nat) : Int := lenS.getD i 0
def chZ (i : Nat) (k : Int) : Int := ((bytS.getD i []).getD k.toNat 0 &&& 255).toInt
theorem zq_ex {C n d : String} {A : Nat → Prop} {U : State} {H : Heap} (h : va_Zq C n d A U H) : ∃ v : Value, va_Z C n d v A U H ∧ (v = .null ∨ ∃ t, v = .ref t) := by
  rcases h with h | ⟨t, h⟩
  · exact ⟨_, h, Or.inl rfl⟩
  · exact ⟨_, h, Or.inr ⟨_, rfl⟩⟩
section ZS
variable {p : Program} {l : Launch} {e : Env} {R : Room} {s : State} {m : MethodId} {args : Array Value} {below : List Frame} {meth : Method} {c : Code} {H : Heap} {locs : List Loc} {cells slots : Nat} {Q : State → Prop}
variable {cc : ByteArray} {pc : Nat} {ls : Array Slot} {rest : List Value} {E : zE} {w : zW} {A : Nat → Prop}
theorem zs_value (hexec : p.tables.exec = Jvm.exec) (hb : c.code = cc) (hG : zG E A s s.heap) (hH : zH E w A s.heap H locs) {own : String} {index i : Nat} (hi : i < 7) (hown : s.vm.findClass own = some m.cls) (hlink : (Cond.fieldLink own index "java/lang/String" "value" "[B").before args s = true) (hdg : decode cc pc = .ok (.getfield index, 3)) (kk : W p l e R s m args below meth c H locs cells slots Q (F0 m (pc + 3) ls (.ref (zg E (12 + i)) :: rest))) : W p l e R s m args below meth c H locs cells slots Q (F0 m pc ls (.ref (zg E (5 + i)) :: rest)) :=
  vk_getf hexec hb (hG.2.2.2.2.1.1 i hi).2.2.1 hH.2.2 hown hlink (fun _ h => h) hdg kk
theorem zs_coder (hexec : p.tables.exec = Jvm.exec) (hb : c.code = cc) (hG : zG E A s s.heap) (hH : zH E w A s.heap H locs) {own : String} {index i : Nat} (hi : i < 7) (hown : s.vm.findClass own = some m.cls) (hlink : (Cond.fieldLink own index "java/lang/String" "coder" "B").before args s = true) (hdg : decode cc pc = .ok (.getfield index, 3)) (kk : W p l e R s m args below meth c H locs cells slots Q (F0 m (pc + 3) ls (.int (iI 0) :: rest))) : W p l e R s m args below meth c H locs cells slots Q (F0 m pc ls (.ref (zg E (5 + i)) :: rest)) :=
  vk_getf hexec hb (hG.2.2.2.2.1.1 i hi).2.1 hH.2.2 hown hlink (fun _ h => h) hdg kk
theorem zs_compact (hexec : p.tables.exec = Jvm.exec) (hb : c.code = cc) (hG : zG E A s s.heap) (hH : zH E w A s.heap H locs) {own : String} {index : Nat} (hown : s.vm.findClass own = some m.cls) (hlink : (Cond.fieldLink own index "java/lang/String" "COMPACT_STRINGS" "Z").before args s = true) (hdg : decode cc pc = .ok (.getstatic index, 3)) (kk : W p l e R s m args below meth c H locs cells slots Q (F0 m (pc + 3) ls (.int (iI 1) :: rest))) : W p l e R s m args below meth c H locs cells slots Q (F0 m pc ls rest) :=
  va_gets hexec hb hG.2.2.2.2.2.1 hH.2.2 hown hlink (fun _ h => h) hdg kk
theorem zs_len (hexec : p.tables.exec = Jvm.exec) (hb : c.code = cc) (hG : zG E A s s.heap) (hH : zH E w A s.heap H locs) {i : Nat} (hi : i < 7) (hdg : decode cc pc = .ok (.arraylength, 1)) (kk : W p l e R s m args below meth c H locs cells slots Q (F0 m (pc + 1) ls (.int (iI (lenZ i)) :: rest))) : W p l e R s m args below meth c H locs cells slots Q (F0 m pc ls (.ref (zg E (12 + i)) :: rest)) :=
  va_tlen hexec hb (hG.2.2.2.2.1.1 i hi).2.2.2 hH.2.2 (v := iI (lenZ i)) (Int32.ofInt_eq_ofNat).symm hdg kk
theorem zs_byte (hexec : p.tables.exec = Jvm.exec) (hb : c.code = cc) (hG : zG E A s s.heap) (hH : zH E w A s.heap H locs) {i : Nat} (hi : i < 7) {k : Int} (h0 : 0 ≤ k) (h1 : k < lenZ i) (hdg : decode cc pc = .ok (.baload, 1)) (kk : W p l e R s m args below meth c H locs cells slots Q (F0 m (pc + 1) ls (.int ((bytS.getD i []).getD k.toNat 0) :: rest))) : W p l e R s m args below meth c H locs cells slots Q (F0 m pc ls (.int (iI k) :: .ref (zg E (12 + i)) :: rest)) := by
  have hl : lenS.getD i 0 < 100 := by
    have c : i = 0 ∨ i = 1 ∨ i = 2 ∨ i = 3 ∨ i = 4 ∨ i = 5 ∨ i = 6 := by omega
    rcases c with rfl | rfl | rfl | rfl | rfl | rfl | rfl <;> decide
  have h1' : k < ((lenS.getD i 0 : Nat) : Int) := h1
  have e := iI_cl h0 (by omega)
  exact va_tb hexec hb (hG.2.2.2.2.1.1 i hi).2.2.2 hH.2.2 (iI_in h0 h1' (by omega)) (v := .int ((bytS.getD i []).getD k.toNat 0)) (by show Value.int ((bytS.getD i []).getD (iI k).toNatClampNeg 0) = _; rw [show (iI k).toNatClampNeg = k.toNat by omega]) hdg kk
theorem z_preVs {As : List Value} {i : Nat} (hi : i < 7) (hK : zK E s) (hG : zG E A s s.heap) (hn : zN E s) (hH : zH E w A s.heap H locs) (hA : ∀ q, s.heap.size ≤ q → A q) : PreV s H "java/lang/String" (zg E (5 + i)) (va_Pc (.ref (zg E (5 + i)) :: As) (zPre E w H.size)) As :=
  ⟨z_blind, vk_recv (adK := fun i => zg E (5 + i)) hG.2.2.2.2.1 hi hH.2.2, fun _ hU hW => ⟨rfl, z_preAt hK hG hn hH hA hU hW⟩⟩
end ZS
theorem lenZ_in {i : Nat} (hi : i < 7) : 0 ≤ lenZ i ∧ lenZ i < 100 := by
  have c : i = 0 ∨ i = 1 ∨ i = 2 ∨ i = 3 ∨ i = 4 ∨ i = 5 ∨ i = 6 := by omega
  rcases c with rfl | rfl | rfl | rfl | rfl | rfl | rfl <;> decide
def rm_coder : Room := { frames := 0, cells := 0, slots := 0, locals := 0 }
set_option maxHeartbeats 4000000 in
theorem c_coder (l : Launch) (E : zE) (w0 : zW) (i : Nat) (hi : i < 7) : zM l y_JS_coder ws_JS_coder rm_coder E [.ref (zg E (5 + i))] w0 (zQi E w0 (fun z w' => w' = w0 ∧ (z = 0))) := by
  refine z_met (cc := b_JS_coder) (maxL := 1) (ret := (some .byte)) (by decide +kernel) rfl (Nat.le_of_ble_eq_true rfl) ?_
  intro p e s m below meth cd ls a Qf hQ hC hl hH
  obtain ⟨hF, hr, hlk, hK, hG, hn⟩ := hC
  obtain ⟨hx, hb, hml, hown, hts⟩ := hF
  have hg : ∀ w ∈ GW, w.before a s = true := fun w h => hts w (List.mem_cons_of_mem _ h)
  have hl : lv_has ls 1 [(0, .ref (zg E (5 + i)))] := hl
  refine zs_compact hx hb hG hH hown (hg _ wm_182) d_JS_coder_0 ?_
  refine zv_if_eq (tgt := 13) hx hb d_JS_coder_3 rfl (by omega) (fun h1 => absurd h1 (by omega)) (fun h1 => ?_)
  refine lv_aload_n hx hb d_JS_coder_6 rfl (lv_at hl 0 rfl) ?_
  refine zs_coder hx hb hG hH hi hown (hg _ wm_991) d_JS_coder_7 ?_
  refine lv_goto (tgt := 14) hx hb d_JS_coder_10 rfl ?_
  rw [hQ]
  exact z_zret hx hb hr hlk hH ⟨rfl, rfl⟩ rfl d_JS_coder_14
def rm_strlen : Room := { frames := 1, cells := 0, slots := 0, locals := 20 }
set_option maxHeartbeats 4000000 in
theorem c_strlen (l : Launch) (E : zE) (w0 : zW) (i : Nat) (hi : i < 7) : zM l y_JS_length ws_JS_length rm_strlen E [.ref (zg E (5 + i))] w0 (zQi E w0 (fun z w' => w' = w0 ∧ (z = lenZ i))) := by
  refine z_met (cc := b_JS_length) (maxL := 1) (ret := (some .int)) (by decide +kernel) rfl (Nat.le_of_ble_eq_true rfl) ?_
  intro p e s m below meth cd ls a Qf hQ hC hl hH
  obtain ⟨hF, hr, hlk, hK, hG, hn⟩ := hC
  obtain ⟨hx, hb, hml, hown, hts⟩ := hF
  have hg : ∀ w ∈ GW, w.before a s = true := fun w h => hts w (List.mem_cons_of_mem _ h)
  have hA : ∀ q, s.heap.size ≤ q → va_A (wl E w0) s.heap.size q := fun q h => Or.inr h
  have hl : lv_has ls 1 [(0, .ref (zg E (5 + i)))] := hl
  refine lv_aload_n hx hb d_JS_length_0 rfl (lv_at hl 0 rfl) ?_
  refine zs_value hx hb hG hH hi hown (hg _ wm_990) d_JS_length_1 ?_
  refine zs_len hx hb hG hH hi d_JS_length_4 ?_
  refine lv_aload_n hx hb d_JS_length_5 rfl (lv_at hl 0 rfl) ?_
  refine z_calli (va_runV (As := []) (rest := [.int (iI (lenZ i))]) ⟨hx, hb, hml, hown, hts⟩ (c_coder l E w0 i hi s.heap.size) (z_cwV (C := "java/lang/String") 0 hg wm_181 wm_178 wm_10 wm_179 wm_180 (by decide +kernel) ⟨Nat.le_of_ble_eq_true rfl, Nat.le_of_ble_eq_true rfl⟩) (z_preVs hi hK hG hn hH hA) rfl rfl hl.1 rfl (lv_room (Nat.le_of_ble_eq_true rfl)) d_JS_length_6 ⟨Nat.zero_le _, Nat.zero_le _⟩) hH hA (fun z w1 H1 lc1 hH1 hp => ?_)
  obtain ⟨ew, hp⟩ := hp
  rw [ew] at hH1
  subst hp
  refine lv_ishr hx hb d_JS_length_9 ?_
  have b := lenZ_in hi
  have e9 : iI (lenZ i) >>> (iI 0 &&& 31) = iI (lenZ i) := sb_shr0 _
  rw [e9, hQ]
  exact z_iret hx hb hr hlk hH1 ⟨rfl, rfl⟩ d_JS_length_10
def rm_latin : Room := { frames := 0, cells := 0, slots := 0, locals := 0 }
set_option maxHeartbeats 4000000 in
theorem c_latin (l : Launch) (E : zE) (w0 : zW) (i : Nat) (hi : i < 7) : zM l y_JS_isLatin1 ws_JS_isLatin1 rm_latin E [.ref (zg E (5 + i))] w0 (zQi E w0 (fun z w' => w' = w0 ∧ (z = 1))) := by
  refine z_met (cc := b_JS_isLatin1) (maxL := 1) (ret := (some .boolean)) (by decide +kernel) rfl (Nat.le_of_ble_eq_true rfl) ?_
  intro p e s m below meth cd ls a Qf hQ hC hl hH
  obtain ⟨hF, hr, hlk, hK, hG, hn⟩ := hC
  obtain ⟨hx, hb, hml, hown, hts⟩ := hF
  have hg : ∀ w ∈ GW, w.before a s = true := fun w h => hts w (List.mem_cons_of_mem _ h)
  have hl : lv_has ls 1 [(0, .ref (zg E (5 + i)))] := hl
  refine zs_compact hx hb hG hH hown (hg _ wm_182) d_JS_isLatin1_0 ?_
  refine zv_if_eq (tgt := 17) hx hb d_JS_isLatin1_3 rfl (by omega) (fun h1 => absurd h1 (by omega)) (fun h1 => ?_)
  refine lv_aload_n hx hb d_JS_isLatin1_6 rfl (lv_at hl 0 rfl) ?_
  refine zs_coder hx hb hG hH hi hown (hg _ wm_991) d_JS_isLatin1_7 ?_
  refine zv_if_ne (tgt := 17) hx hb d_JS_isLatin1_10 rfl (by omega) (fun h2 => absurd h2 (by omega)) (fun h2 => ?_)
  refine zv_iconst hx hb d_JS_isLatin1_13 ?_
  refine lv_goto (tgt := 18) hx hb d_JS_isLatin1_14 rfl ?_
  rw [hQ]
  exact z_zret hx hb hr hlk hH ⟨rfl, rfl⟩ rfl d_JS_isLatin1_18
def rm_chk0 : Room := { frames := 0, cells := 0, slots := 0, locals := 0 }
set_option maxHeartbeats 4000000 in
theorem c_chk0 (l : Launch) (E : zE) (w0 : zW) (k n : Int) (v : Value) (hv : v = .null ∨ ∃ t, v = .ref t) (hk : 0 ≤ k ∧ k < n) (hn0 : n < 100000) : zM l y_JP_checkIndex ws_JP_checkIndex rm_chk0 E [.int (iI k), .int (iI n), v] w0 (zQi E w0 (fun z w' => w' = w0 ∧ (z = k))) := by
  refine z_met (cc := b_JP_checkIndex) (maxL := 3) (ret := (some .int)) (by decide +kernel) rfl (by rcases hv with rfl | ⟨t, rfl⟩ <;> exact Nat.le_of_ble_eq_true rfl) ?_
  intro p e s m below meth cd ls a Qf hQ hC hl hH
  obtain ⟨hF, hr, hlk, hK, hG, hn⟩ := hC
  obtain ⟨hx, hb, hml, hown, hts⟩ := hF
  have hl : lv_has ls 3 [(0, .int (iI k)), (1, .int (iI n)), (2, v)] := hl
  refine lv_iload_n hx hb d_JP_checkIndex_0 rfl (lv_at hl 0 rfl) ?_
  refine zv_if_lt (tgt := 9) hx hb d_JP_checkIndex_1 rfl (by omega) (fun h1 => absurd h1 (by omega)) (fun h1 => ?_)
  refine lv_iload_n hx hb d_JP_checkIndex_4 rfl (lv_at hl 0 rfl) ?_
  refine lv_iload_n hx hb d_JP_checkIndex_5 rfl (lv_at hl 1 rfl) ?_
  refine zv_icmp_lt (tgt := 16) hx hb d_JP_checkIndex_6 rfl (by omega) (by omega) (fun h2 => ?_) (fun h2 => absurd h2 (by omega))
  refine lv_iload_n hx hb d_JP_checkIndex_16 rfl (lv_at hl 0 rfl) ?_
  rw [hQ]
  exact z_iret hx hb hr hlk hH ⟨rfl, rfl⟩ d_JP_checkIndex_17
def rm_chk1 : Room := { frames := 1, cells := 0, slots := 0, locals := 22 }
set_option maxHeartbeats 4000000 in
theorem c_chk1 (l : Launch) (E : zE) (w0 : zW) (k n : Int) (hk : 0 ≤ k ∧ k < n) (hn0 : n < 100000) : zM l y_JS_checkIndex ws_JS_checkIndex rm_chk1 E [.int (iI k), .int (iI n)] w0 (zQv E w0 (fun w' => w' = w0)) := by
  refine z_met (cc := b_JS_checkIndex) (maxL := 2) (ret := none) (by decide +kernel) rfl (Nat.le_of_ble_eq_true rfl) ?_
  intro p e s m below meth cd ls a Qf hQ hC hl hH
  obtain ⟨hF, hr, hlk, hK, hG, hn⟩ := hC
  obtain ⟨hx, hb, hml, hown, hts⟩ := hF
  have hg : ∀ w ∈ GW, w.before a s = true := fun w h => hts w (List.mem_cons_of_mem _ h)
  have hA : ∀ q, s.heap.size ≤ q → va_A (wl E w0) s.heap.size q := fun q h => Or.inr h
  have hl : lv_has ls 2 [(0, .int (iI k)), (1, .int (iI n))] := hl
  refine lv_iload_n hx hb d_JS_checkIndex_0 rfl (lv_at hl 0 rfl) ?_
  refine lv_iload_n hx hb d_JS_checkIndex_1 rfl (lv_at hl 1 rfl) ?_
  obtain ⟨v, hZ, hv⟩ := zq_ex hG.2.2.2.2.2.2
  refine va_gets hx hb hZ hH.2.2 hown (hg _ wm_201) (fun _ h => h) d_JS_checkIndex_2 ?_
  refine z_calli (va_runS (As := [.int (iI k), .int (iI n), v]) (rest := []) ⟨hx, hb, hml, hown, hts⟩ (c_chk0 l E w0 k n v hv hk hn0 s.heap.size) (z_cwS 3 hg wm_205 wm_203 wm_12 wm_204 (by decide +kernel) ⟨Nat.le_of_ble_eq_true rfl, Nat.le_of_ble_eq_true rfl⟩) (z_preS hK hG hn hH hA) rfl rfl hl.1 rfl (lv_room (Nat.le_of_ble_eq_true rfl)) d_JS_checkIndex_5 ⟨Nat.zero_le _, Nat.zero_le _⟩) hH hA (fun z w1 H1 lc1 hH1 hp => ?_)
  obtain ⟨ew, hp⟩ := hp
  rw [ew] at hH1
  refine lv_pop hx hb d_JS_checkIndex_8 rfl ?_
  rw [hQ]
  exact z_vret hx hb hr hlk hH1 rfl d_JS_checkIndex_9
theorem chZ_eq (i : Nat) (k : Int) : ((((bytS.getD i []).getD k.toNat 0) &&& 255).toUInt32 % 65536).toInt32 = iI (chZ i k) := by
  unfold chZ iI
  rw [Int32.ofInt_toInt]
  exact sc_c2 _
def rm_latAt : Room := { frames := 2, cells := 0, slots := 0, locals := 43 }
set_option maxHeartbeats 4000000 in
theorem c_latAt (l : Launch) (E : zE) (w0 : zW) (i : Nat) (k : Int) (hi : i < 7) (hk : 0 ≤ k ∧ k < lenZ i) : zM l y_JL_charAt ws_JL_charAt rm_latAt E [.ref (zg E (12 + i)), .int (iI k)] w0 (zQi E w0 (fun z w' => w' = w0 ∧ (z = chZ i k))) := by
  refine z_met (cc := b_JL_charAt) (maxL := 2) (ret := (some .char)) (by decide +kernel) rfl (Nat.le_of_ble_eq_true rfl) ?_
  intro p e s m below meth cd ls a Qf hQ hC hl hH
  obtain ⟨hF, hr, hlk, hK, hG, hn⟩ := hC
  obtain ⟨hx, hb, hml, hown, hts⟩ := hF
  have hg : ∀ w ∈ GW, w.before a s = true := fun w h => hts w (List.mem_cons_of_mem _ h)
  have hA : ∀ q, s.heap.size ≤ q → va_A (wl E w0) s.heap.size q := fun q h => Or.inr h
  have hl : lv_has ls 2 [(0, .ref (zg E (12 + i))), (1, .int (iI k))] := hl
  have b := lenZ_in hi
  refine lv_iload_n hx hb d_JL_charAt_0 rfl (lv_at hl 1 rfl) ?_
  refine lv_aload_n hx hb d_JL_charAt_1 rfl (lv_at hl 0 rfl) ?_
  refine zs_len hx hb hG hH hi d_JL_charAt_2 ?_
  refine z_callv (va_runS (As := [.int (iI k), .int (iI (lenZ i))]) (rest := []) ⟨hx, hb, hml, hown, hts⟩ (c_chk1 l E w0 k (lenZ i) hk (by omega) s.heap.size) (z_cwS 2 hg wm_200 wm_198 wm_10 wm_199 (by decide +kernel) ⟨Nat.le_of_ble_eq_true rfl, Nat.le_of_ble_eq_true rfl⟩) (z_preS hK hG hn hH hA) rfl rfl hl.1 rfl (lv_room (Nat.le_of_ble_eq_true rfl)) d_JL_charAt_3 ⟨Nat.zero_le _, Nat.zero_le _⟩) hH hA (fun w1 H1 lc1 hH1 hp => ?_)
  rw [hp] at hH1
  refine lv_aload_n hx hb d_JL_charAt_6 rfl (lv_at hl 0 rfl) ?_
  refine lv_iload_n hx hb d_JL_charAt_7 rfl (lv_at hl 1 rfl) ?_
  refine zs_byte hx hb hG hH1 hi hk.1 hk.2 d_JL_charAt_8 ?_
  refine lv_sipush (v := 255) hx hb d_JL_charAt_9 rfl ?_
  refine lv_iand hx hb d_JL_charAt_12 ?_
  refine lv_i2c hx hb d_JL_charAt_13 (chZ_eq i k) ?_
  rw [hQ]
  exact z_zret hx hb hr hlk hH1 ⟨rfl, rfl⟩ (by rw [← chZ_eq]; exact pk_nc _) d_JL_charAt_14
def rm_charAt : Room := { frames := 3, cells := 0, slots := 0, locals := 64 }
set_option maxHeartbeats 4000000 in
theorem c_charAt (l : Launch) (E : zE) (w0 : zW) (i : Nat) (k : Int) (hi : i < 7) (hk : 0 ≤ k ∧ k < lenZ i) : zM l y_JS_charAt ws_JS_charAt rm_charAt E [.ref (zg E (5 + i)), .int (iI k)] w0 (zQi E w0 (fun z w' => w' = w0 ∧ (z = chZ i k))) := by
  refine z_met (cc := b_JS_charAt) (maxL := 2) (ret := (some .char)) (by decide +kernel) rfl (Nat.le_of_ble_eq_true rfl) ?_
  intro p e s m below meth cd ls a Qf hQ hC hl hH
  obtain ⟨hF, hr, hlk, hK, hG, hn⟩ := hC
  obtain ⟨hx, hb, hml, hown, hts⟩ := hF
  have hg : ∀ w ∈ GW, w.before a s = true := fun w h => hts w (List.mem_cons_of_mem _ h)
  have hA : ∀ q, s.heap.size ≤ q → va_A (wl E w0) s.heap.size q := fun q h => Or.inr h
  have hl : lv_has ls 2 [(0, .ref (zg E (5 + i))), (1, .int (iI k))] := hl
  refine lv_aload_n hx hb d_JS_charAt_0 rfl (lv_at hl 0 rfl) ?_
  refine z_calli (va_runV (As := []) (rest := []) ⟨hx, hb, hml, hown, hts⟩ (c_latin l E w0 i hi s.heap.size) (z_cwV (C := "java/lang/String") 0 hg wm_194 wm_191 wm_10 wm_192 wm_193 (by decide +kernel) ⟨Nat.le_of_ble_eq_true rfl, Nat.le_of_ble_eq_true rfl⟩) (z_preVs hi hK hG hn hH hA) rfl rfl hl.1 rfl (lv_room (Nat.le_of_ble_eq_true rfl)) d_JS_charAt_1 ⟨Nat.zero_le _, Nat.zero_le _⟩) hH hA (fun z w1 H1 lc1 hH1 hp => ?_)
  obtain ⟨ew, hp⟩ := hp
  rw [ew] at hH1
  subst hp
  refine zv_if_eq (tgt := 16) hx hb d_JS_charAt_4 rfl (by omega) (fun h1 => absurd h1 (by omega)) (fun h1 => ?_)
  refine lv_aload_n hx hb d_JS_charAt_7 rfl (lv_at hl 0 rfl) ?_
  refine zs_value hx hb hG hH1 hi hown (hg _ wm_990) d_JS_charAt_8 ?_
  refine lv_iload_n hx hb d_JS_charAt_11 rfl (lv_at hl 1 rfl) ?_
  refine z_calli (va_runS (As := [.ref (zg E (12 + i)), .int (iI k)]) (rest := []) ⟨hx, hb, hml, hown, hts⟩ (c_latAt l E w0 i k hi hk H1.size) (z_cwS 2 hg wm_197 wm_195 wm_11 wm_196 (by decide +kernel) ⟨Nat.le_of_ble_eq_true rfl, Nat.le_of_ble_eq_true rfl⟩) (z_preS hK hG hn hH1 hA) rfl rfl hl.1 rfl (lv_room (Nat.le_of_ble_eq_true rfl)) d_JS_charAt_12 ⟨Nat.zero_le _, Nat.zero_le _⟩) hH1 hA (fun z w2 H2 lc2 hH2 hp => ?_)
  obtain ⟨ew2, hp⟩ := hp
  rw [ew2] at hH2
  subst hp
  rw [hQ]
  exact z_zret hx hb hr hlk hH2 ⟨rfl, rfl⟩ (by rw [← chZ_eq]; exact pk_nc _) d_JS_charAt_15
