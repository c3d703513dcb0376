def rm_A_init : Room := { frames := 1, cells := 1, slots := 15, locals := 12 }
set_option maxHeartbeats 4000000 in
set_option maxRecDepth 100000 in
theorem ci_A (l : Launch) (E : zE) (h0 : Nat) (ws : va_W) : zMi l y_A_init ws_A_init rm_A_init E h0 (.inr (0, [.null, .int (iI 0)])) ws (fun u => ∃ q1 : Nat, u = [(q1, .inl (ca E 0, 15, .inl (ar (fun _ => 0)))), (h0, .inr (0, [.ref q1, .int (iI 0)]))]) 1 15 := by
  refine zi_met (cc := b_A_init) (maxL := 1) (by decide +kernel) rfl (Nat.le_of_ble_eq_true rfl) ?_
  intro p e s m below meth c ls a Qf hQ hF hr hlk hin hK hG hO hl hL
  obtain ⟨hx, hb, hml, hown, hts⟩ := hF
  have hg : ∀ w ∈ GW, w.before a s = true := fun w h => hts w (List.mem_cons_of_mem _ h)
  have hA : ∀ q, s.heap.size ≤ q → va_A ((h0, .inr (0, [.null, .int (iI 0)])) :: ws) s.heap.size q := fun q h => Or.inr h
  have hl : lv_has ls 1 [(0, .ref h0)] := hl
  refine lv_aload_n hx hb d_A_init_0 rfl (lv_at hl 0 rfl) ?_
  refine zi_obj hx hb hml hl.1 hown (hg _ wm_41) (hg _ wm_25) (hg _ wm_26) d_A_init_1 (Nat.le_of_ble_eq_true rfl) (Nat.le_of_ble_eq_true rfl) ?_
  refine lv_aload_n hx hb d_A_init_4 rfl (lv_at hl 0 rfl) ?_
  refine zv_bipush hx hb d_A_init_5 rfl ?_
  refine zi_newa (atype := .int) (ty := .int) (t := 0) (n := 15) (N := 15) hx hb (hg _ wm_54) rfl rfl (fun _ h9 => h9) hK hL hA (fun _ => rfl) (by decide) (by decide) (by decide) (Nat.le_of_ble_eq_true rfl) (Nat.le_of_ble_eq_true rfl) d_A_init_7 (fun q1 _ hL => ?_)
  refine zi_put (C := "ScaledNumeralDesk$Amount") (T := TA) (N := 2) (ws' := (q1, .inl (ca E 0, 15, .inl (ar (fun _ => 0)))) :: (h0, .inr (0, [.ref q1, .int (iI 0)])) :: ws) hx hb hg uA_in tyA tyA_ok nmA hown hK hL 1 rfl rfl 0 (by decide) (hg _ wm_42) (fun _ h9 => h9) (Or.inr ⟨rfl, hin, rfl⟩) (ty := tyA 0) (by decide +kernel) rfl rfl (Nat.le_of_ble_eq_true rfl) d_A_init_9 rfl (fun _ _ hL => ?_)
  rw [hQ]
  exact zi_ret (u := [(q1, .inl (ca E 0, 15, .inl (ar (fun _ => 0)))), (h0, .inr (0, [.ref q1, .int (iI 0)]))]) hx hb hr hlk hL ⟨q1, rfl⟩ d_A_init_12

def rm_N_init : Room := { frames := 2, cells := 2, slots := 17, locals := 32 }
set_option maxHeartbeats 4000000 in
set_option maxRecDepth 100000 in
theorem ci_N (l : Launch) (E : zE) (h0 : Nat) (ws : va_W) : zMi l y_N_init ws_N_init rm_N_init E h0 (.inr (1, [.null, .int (iI 0), .null])) ws (fun u => ∃ q2 q1 : Nat, u = [(q2, .inl (ca E 0, 15, .inl (ar (fun _ => 0)))), (q1, .inr (0, [.ref q2, .int (iI 0)])), (h0, .inr (1, [.ref (zg E (1 + 1)), .int (iI 0), .ref q1]))]) 2 17 := by
  refine zi_met (cc := b_N_init) (maxL := 1) (by decide +kernel) rfl (Nat.le_of_ble_eq_true rfl) ?_
  intro p e s m below meth c ls a Qf hQ hF hr hlk hin hK hG hO hl hL
  obtain ⟨hx, hb, hml, hown, hts⟩ := hF
  have hg : ∀ w ∈ GW, w.before a s = true := fun w h => hts w (List.mem_cons_of_mem _ h)
  have hA : ∀ q, s.heap.size ≤ q → va_A ((h0, .inr (1, [.null, .int (iI 0), .null])) :: ws) s.heap.size q := fun q h => Or.inr h
  have hl : lv_has ls 1 [(0, .ref h0)] := hl
  refine lv_aload_n hx hb d_N_init_0 rfl (lv_at hl 0 rfl) ?_
  refine zi_obj hx hb hml hl.1 hown (hg _ wm_33) (hg _ wm_25) (hg _ wm_26) d_N_init_1 (Nat.le_of_ble_eq_true rfl) (Nat.le_of_ble_eq_true rfl) ?_
  refine lv_aload_n hx hb d_N_init_4 rfl (lv_at hl 0 rfl) ?_
  refine zi_kind hx hb hG hL hown 1 (by decide) (hg _ wm_34) (fun _ h9 => h9) d_N_init_5 ?_
  refine zi_put (C := "ScaledNumeralDesk$Numeral") (T := TN) (N := 3) (ws' := (h0, .inr (1, [.ref (zg E (1 + 1)), .int (iI 0), .null])) :: ws) hx hb hg uN_in tyN tyN_ok nmN hown hK hL 0 rfl rfl 0 (by decide) (hg _ wm_55) (fun _ h9 => h9) (Or.inl rfl) (ty := tyN 0) (by decide +kernel) rfl rfl (Nat.le_of_ble_eq_true rfl) d_N_init_8 rfl (fun _ _ hL => ?_)
  refine lv_aload_n hx hb d_N_init_11 rfl (lv_at hl 0 rfl) ?_
  refine zi_new (C := "ScaledNumeralDesk$Amount") (T := TA) (N := 2) (ci := 0) (fs := [.null, .int (iI 0)]) hx hb hg uA_in tyA tyA_ok hown (hg _ wm_36) (hg _ wm_37) (hg _ wm_5) hK hL hA rfl (fun j hj => by rcases (show j = 0 ∨ j = 1 by omega) with rfl | rfl <;> rfl) (Nat.le_of_ble_eq_true rfl) (Nat.le_of_ble_eq_true rfl) d_N_init_12 (fun q1 _ hL => ?_)
  refine lv_dup hx hb d_N_init_15 rfl ?_
  refine zi_callN hx hb hml hown hts hl.1 (ci_A l E q1 ((h0, .inr (1, [.ref (zg E (1 + 1)), .int (iI 0), .null])) :: ws)) (zi_cwN hg wm_40 hO.2.2.1 wm_5 wm_39 (by decide +kernel) ⟨(Nat.le_of_ble_eq_true rfl), (Nat.le_of_ble_eq_true rfl)⟩) hK hG hO hL hA (Nat.le_of_ble_eq_true rfl) d_N_init_16 ⟨(Nat.le_of_ble_eq_true rfl), (Nat.le_of_ble_eq_true rfl)⟩ (fun _ _ _ hu hL => ?_)
  obtain ⟨q2, rfl⟩ := hu
  replace hL : zL E ((q2, .inl (ca E 0, 15, .inl (ar (fun _ => 0)))) :: (q1, .inr (0, [.ref q2, .int (iI 0)])) :: (h0, .inr (1, [.ref (zg E (1 + 1)), .int (iI 0), .null])) :: ws) _ _ _ _ := hL
  refine zi_put (C := "ScaledNumeralDesk$Numeral") (T := TN) (N := 3) (ws' := (q2, .inl (ca E 0, 15, .inl (ar (fun _ => 0)))) :: (q1, .inr (0, [.ref q2, .int (iI 0)])) :: (h0, .inr (1, [.ref (zg E (1 + 1)), .int (iI 0), .ref q1])) :: ws) hx hb hg uN_in tyN tyN_ok nmN hown hK hL 2 rfl rfl 2 (by decide) (hg _ wm_64) (fun _ h9 => h9) (Or.inr ⟨rfl, hin, rfl⟩) (ty := tyN 2) (by decide +kernel) rfl rfl (Nat.le_of_ble_eq_true rfl) d_N_init_19 rfl (fun _ _ hL => ?_)
  rw [hQ]
  exact zi_ret (u := [(q2, .inl (ca E 0, 15, .inl (ar (fun _ => 0)))), (q1, .inr (0, [.ref q2, .int (iI 0)])), (h0, .inr (1, [.ref (zg E (1 + 1)), .int (iI 0), .ref q1]))]) hx hb hr hlk hL ⟨q2, q1, rfl⟩ d_N_init_22

def rm_S_init : Room := { frames := 2, cells := 3, slots := 45, locals := 32 }
set_option maxHeartbeats 4000000 in
set_option maxRecDepth 100000 in
theorem ci_S (l : Launch) (E : zE) (h0 : Nat) (ws : va_W) : zMi l y_S_init ws_S_init rm_S_init E h0 (.inr (2, [.null, .null, .int (iI 0)])) ws (fun u => ∃ q3 q2 q1 : Nat, u = [(q3, .inl (ca E 0, 28, .inl (ar (fun _ => 0)))), (q2, .inl (ca E 0, 15, .inl (ar (fun _ => 0)))), (q1, .inr (0, [.ref q2, .int (iI 0)])), (h0, .inr (2, [.ref q1, .ref q3, .int (iI 0)]))]) 3 45 := by
  refine zi_met (cc := b_S_init) (maxL := 1) (by decide +kernel) rfl (Nat.le_of_ble_eq_true rfl) ?_
  intro p e s m below meth c ls a Qf hQ hF hr hlk hin hK hG hO hl hL
  obtain ⟨hx, hb, hml, hown, hts⟩ := hF
  have hg : ∀ w ∈ GW, w.before a s = true := fun w h => hts w (List.mem_cons_of_mem _ h)
  have hA : ∀ q, s.heap.size ≤ q → va_A ((h0, .inr (2, [.null, .null, .int (iI 0)])) :: ws) s.heap.size q := fun q h => Or.inr h
  have hl : lv_has ls 1 [(0, .ref h0)] := hl
  refine lv_aload_n hx hb d_S_init_0 rfl (lv_at hl 0 rfl) ?_
  refine zi_obj hx hb hml hl.1 hown (hg _ wm_82) (hg _ wm_25) (hg _ wm_26) d_S_init_1 (Nat.le_of_ble_eq_true rfl) (Nat.le_of_ble_eq_true rfl) ?_
  refine lv_aload_n hx hb d_S_init_4 rfl (lv_at hl 0 rfl) ?_
  refine zi_new (C := "ScaledNumeralDesk$Amount") (T := TA) (N := 2) (ci := 0) (fs := [.null, .int (iI 0)]) hx hb hg uA_in tyA tyA_ok hown (hg _ wm_83) (hg _ wm_37) (hg _ wm_5) hK hL hA rfl (fun j hj => by rcases (show j = 0 ∨ j = 1 by omega) with rfl | rfl <;> rfl) (Nat.le_of_ble_eq_true rfl) (Nat.le_of_ble_eq_true rfl) d_S_init_5 (fun q1 _ hL => ?_)
  refine lv_dup hx hb d_S_init_8 rfl ?_
  refine zi_callN hx hb hml hown hts hl.1 (ci_A l E q1 ((h0, .inr (2, [.null, .null, .int (iI 0)])) :: ws)) (zi_cwN hg wm_40 hO.2.2.2.1 wm_5 wm_39 (by decide +kernel) ⟨(Nat.le_of_ble_eq_true rfl), (Nat.le_of_ble_eq_true rfl)⟩) hK hG hO hL hA (Nat.le_of_ble_eq_true rfl) d_S_init_9 ⟨(Nat.le_of_ble_eq_true rfl), (Nat.le_of_ble_eq_true rfl)⟩ (fun _ _ _ hu hL => ?_)
  obtain ⟨q2, rfl⟩ := hu
  replace hL : zL E ((q2, .inl (ca E 0, 15, .inl (ar (fun _ => 0)))) :: (q1, .inr (0, [.ref q2, .int (iI 0)])) :: (h0, .inr (2, [.null, .null, .int (iI 0)])) :: ws) _ _ _ _ := hL
  refine zi_put (C := "ScaledNumeralDesk$Sum") (T := TS) (N := 3) (ws' := (q2, .inl (ca E 0, 15, .inl (ar (fun _ => 0)))) :: (q1, .inr (0, [.ref q2, .int (iI 0)])) :: (h0, .inr (2, [.ref q1, .null, .int (iI 0)])) :: ws) hx hb hg uS_in tyS tyS_ok nmS hown hK hL 2 rfl rfl 0 (by decide) (hg _ wm_85) (fun _ h9 => h9) (Or.inr ⟨rfl, hin, rfl⟩) (ty := tyS 0) (by decide +kernel) rfl rfl (Nat.le_of_ble_eq_true rfl) d_S_init_12 rfl (fun _ _ hL => ?_)
  refine lv_aload_n hx hb d_S_init_15 rfl (lv_at hl 0 rfl) ?_
  refine zv_bipush hx hb d_S_init_16 rfl ?_
  refine zi_newa (atype := .int) (ty := .int) (t := 0) (n := 28) (N := 28) hx hb (hg _ wm_54) rfl rfl (fun _ h9 => h9) hK hL hA (fun _ => rfl) (by decide) (by decide) (by decide) (Nat.le_of_ble_eq_true rfl) (Nat.le_of_ble_eq_true rfl) d_S_init_18 (fun q3 _ hL => ?_)
  refine zi_put (C := "ScaledNumeralDesk$Sum") (T := TS) (N := 3) (ws' := (q3, .inl (ca E 0, 28, .inl (ar (fun _ => 0)))) :: (q2, .inl (ca E 0, 15, .inl (ar (fun _ => 0)))) :: (q1, .inr (0, [.ref q2, .int (iI 0)])) :: (h0, .inr (2, [.ref q1, .ref q3, .int (iI 0)])) :: ws) hx hb hg uS_in tyS tyS_ok nmS hown hK hL 3 rfl rfl 1 (by decide) (hg _ wm_86) (fun _ h9 => h9) (Or.inr ⟨rfl, hin, rfl⟩) (ty := tyS 1) (by decide +kernel) rfl rfl (Nat.le_of_ble_eq_true rfl) d_S_init_20 rfl (fun _ _ hL => ?_)
  rw [hQ]
  exact zi_ret (u := [(q3, .inl (ca E 0, 28, .inl (ar (fun _ => 0)))), (q2, .inl (ca E 0, 15, .inl (ar (fun _ => 0)))), (q1, .inr (0, [.ref q2, .int (iI 0)])), (h0, .inr (2, [.ref q1, .ref q3, .int (iI 0)]))]) hx hb hr hlk hL ⟨q3, q2, q1, rfl⟩ d_S_init_23

def rm_U_init : Room := { frames := 1, cells := 1, slots := 80, locals := 12 }
set_option maxHeartbeats 4000000 in
set_option maxRecDepth 100000 in
theorem ci_U (l : Launch) (E : zE) (h0 : Nat) (ws : va_W) : zMi l y_U_init ws_U_init rm_U_init E h0 (.inr (3, [.null, .int (iI 0)])) ws (fun u => ∃ q1 : Nat, u = [(q1, .inl (ca E 1, 80, .inl (ar (fun _ => 0)))), (h0, .inr (3, [.ref q1, .int (iI 0)]))]) 1 80 := by
  refine zi_met (cc := b_U_init) (maxL := 1) (by decide +kernel) rfl (Nat.le_of_ble_eq_true rfl) ?_
  intro p e s m below meth c ls a Qf hQ hF hr hlk hin hK hG hO hl hL
  obtain ⟨hx, hb, hml, hown, hts⟩ := hF
  have hg : ∀ w ∈ GW, w.before a s = true := fun w h => hts w (List.mem_cons_of_mem _ h)
  have hA : ∀ q, s.heap.size ≤ q → va_A ((h0, .inr (3, [.null, .int (iI 0)])) :: ws) s.heap.size q := fun q h => Or.inr h
  have hl : lv_has ls 1 [(0, .ref h0)] := hl
  refine lv_aload_n hx hb d_U_init_0 rfl (lv_at hl 0 rfl) ?_
  refine zi_obj hx hb hml hl.1 hown (hg _ wm_100) (hg _ wm_25) (hg _ wm_26) d_U_init_1 (Nat.le_of_ble_eq_true rfl) (Nat.le_of_ble_eq_true rfl) ?_
  refine lv_aload_n hx hb d_U_init_4 rfl (lv_at hl 0 rfl) ?_
  refine zv_bipush hx hb d_U_init_5 rfl ?_
  refine zi_newa (atype := .char) (ty := .char) (t := 1) (n := 80) (N := 80) hx hb (hg _ wm_108) rfl rfl (fun _ h9 => h9) hK hL hA (fun _ => rfl) (by decide) (by decide) (by decide) (Nat.le_of_ble_eq_true rfl) (Nat.le_of_ble_eq_true rfl) d_U_init_7 (fun q1 _ hL => ?_)
  refine zi_put (C := "ScaledNumeralDesk$Buffer") (T := TU) (N := 2) (ws' := (q1, .inl (ca E 1, 80, .inl (ar (fun _ => 0)))) :: (h0, .inr (3, [.ref q1, .int (iI 0)])) :: ws) hx hb hg uU_in tyU tyU_ok nmU hown hK hL 1 rfl rfl 0 (by decide) (hg _ wm_101) (fun _ h9 => h9) (Or.inr ⟨rfl, hin, rfl⟩) (ty := tyU 0) (by decide +kernel) rfl rfl (Nat.le_of_ble_eq_true rfl) d_U_init_9 rfl (fun _ _ hL => ?_)
  rw [hQ]
  exact zi_ret (u := [(q1, .inl (ca E 1, 80, .inl (ar (fun _ => 0)))), (h0, .inr (3, [.ref q1, .int (iI 0)]))]) hx hb hr hlk hL ⟨q1, rfl⟩ d_U_init_12

def rm_B_init : Room := { frames := 1, cells := 4, slots := 120, locals := 12 }
set_option maxHeartbeats 4000000 in
set_option maxRecDepth 100000 in
theorem ci_B (l : Launch) (E : zE) (h0 : Nat) (ws : va_W) : zMi l y_B_init ws_B_init rm_B_init E h0 (.inr (4, [.null, .null, .null, .null])) ws (fun u => ∃ q4 q3 q2 q1 : Nat, u = [(q4, .inl (ca E 0, 30, .inl (ar (fun _ => 0)))), (q3, .inl (ca E 0, 30, .inl (ar (fun _ => 0)))), (q2, .inl (ca E 0, 30, .inl (ar (fun _ => 0)))), (q1, .inl (ca E 0, 30, .inl (ar (fun _ => 0)))), (h0, .inr (4, [.ref q1, .ref q2, .ref q3, .ref q4]))]) 4 120 := by
  refine zi_met (cc := b_B_init) (maxL := 1) (by decide +kernel) rfl (Nat.le_of_ble_eq_true rfl) ?_
  intro p e s m below meth c ls a Qf hQ hF hr hlk hin hK hG hO hl hL
  obtain ⟨hx, hb, hml, hown, hts⟩ := hF
  have hg : ∀ w ∈ GW, w.before a s = true := fun w h => hts w (List.mem_cons_of_mem _ h)
  have hA : ∀ q, s.heap.size ≤ q → va_A ((h0, .inr (4, [.null, .null, .null, .null])) :: ws) s.heap.size q := fun q h => Or.inr h
  have hl : lv_has ls 1 [(0, .ref h0)] := hl
  refine lv_aload_n hx hb d_B_init_0 rfl (lv_at hl 0 rfl) ?_
  refine zi_obj hx hb hml hl.1 hown (hg _ wm_114) (hg _ wm_25) (hg _ wm_26) d_B_init_1 (Nat.le_of_ble_eq_true rfl) (Nat.le_of_ble_eq_true rfl) ?_
  refine lv_aload_n hx hb d_B_init_4 rfl (lv_at hl 0 rfl) ?_
  refine zv_bipush hx hb d_B_init_5 rfl ?_
  refine zi_newa (atype := .int) (ty := .int) (t := 0) (n := 30) (N := 30) hx hb (hg _ wm_54) rfl rfl (fun _ h9 => h9) hK hL hA (fun _ => rfl) (by decide) (by decide) (by decide) (Nat.le_of_ble_eq_true rfl) (Nat.le_of_ble_eq_true rfl) d_B_init_7 (fun q1 _ hL => ?_)
  refine zi_put (C := "ScaledNumeralDesk$Bench") (T := TB) (N := 4) (ws' := (q1, .inl (ca E 0, 30, .inl (ar (fun _ => 0)))) :: (h0, .inr (4, [.ref q1, .null, .null, .null])) :: ws) hx hb hg uB_in tyB tyB_ok nmB hown hK hL 1 rfl rfl 0 (by decide) (hg _ wm_115) (fun _ h9 => h9) (Or.inr ⟨rfl, hin, rfl⟩) (ty := tyB 0) (by decide +kernel) rfl rfl (Nat.le_of_ble_eq_true rfl) d_B_init_9 rfl (fun _ _ hL => ?_)
  refine lv_aload_n hx hb d_B_init_12 rfl (lv_at hl 0 rfl) ?_
  refine zv_bipush hx hb d_B_init_13 rfl ?_
  refine zi_newa (atype := .int) (ty := .int) (t := 0) (n := 30) (N := 30) hx hb (hg _ wm_54) rfl rfl (fun _ h9 => h9) hK hL hA (fun _ => rfl) (by decide) (by decide) (by decide) (Nat.le_of_ble_eq_true rfl) (Nat.le_of_ble_eq_true rfl) d_B_init_15 (fun q2 _ hL => ?_)
  refine zi_put (C := "ScaledNumeralDesk$Bench") (T := TB) (N := 4) (ws' := (q2, .inl (ca E 0, 30, .inl (ar (fun _ => 0)))) :: (q1, .inl (ca E 0, 30, .inl (ar (fun _ => 0)))) :: (h0, .inr (4, [.ref q1, .ref q2, .null, .null])) :: ws) hx hb hg uB_in tyB tyB_ok nmB hown hK hL 2 rfl rfl 1 (by decide) (hg _ wm_116) (fun _ h9 => h9) (Or.inr ⟨rfl, hin, rfl⟩) (ty := tyB 1) (by decide +kernel) rfl rfl (Nat.le_of_ble_eq_true rfl) d_B_init_17 rfl (fun _ _ hL => ?_)
  refine lv_aload_n hx hb d_B_init_20 rfl (lv_at hl 0 rfl) ?_
  refine zv_bipush hx hb d_B_init_21 rfl ?_
  refine zi_newa (atype := .int) (ty := .int) (t := 0) (n := 30) (N := 30) hx hb (hg _ wm_54) rfl rfl (fun _ h9 => h9) hK hL hA (fun _ => rfl) (by decide) (by decide) (by decide) (Nat.le_of_ble_eq_true rfl) (Nat.le_of_ble_eq_true rfl) d_B_init_23 (fun q3 _ hL => ?_)
  refine zi_put (C := "ScaledNumeralDesk$Bench") (T := TB) (N := 4) (ws' := (q3, .inl (ca E 0, 30, .inl (ar (fun _ => 0)))) :: (q2, .inl (ca E 0, 30, .inl (ar (fun _ => 0)))) :: (q1, .inl (ca E 0, 30, .inl (ar (fun _ => 0)))) :: (h0, .inr (4, [.ref q1, .ref q2, .ref q3, .null])) :: ws) hx hb hg uB_in tyB tyB_ok nmB hown hK hL 3 rfl rfl 2 (by decide) (hg _ wm_117) (fun _ h9 => h9) (Or.inr ⟨rfl, hin, rfl⟩) (ty := tyB 2) (by decide +kernel) rfl rfl (Nat.le_of_ble_eq_true rfl) d_B_init_25 rfl (fun _ _ hL => ?_)
  refine lv_aload_n hx hb d_B_init_28 rfl (lv_at hl 0 rfl) ?_
  refine zv_bipush hx hb d_B_init_29 rfl ?_
  refine zi_newa (atype := .int) (ty := .int) (t := 0) (n := 30) (N := 30) hx hb (hg _ wm_54) rfl rfl (fun _ h9 => h9) hK hL hA (fun _ => rfl) (by decide) (by decide) (by decide) (Nat.le_of_ble_eq_true rfl) (Nat.le_of_ble_eq_true rfl) d_B_init_31 (fun q4 _ hL => ?_)
  refine zi_put (C := "ScaledNumeralDesk$Bench") (T := TB) (N := 4) (ws' := (q4, .inl (ca E 0, 30, .inl (ar (fun _ => 0)))) :: (q3, .inl (ca E 0, 30, .inl (ar (fun _ => 0)))) :: (q2, .inl (ca E 0, 30, .inl (ar (fun _ => 0)))) :: (q1, .inl (ca E 0, 30, .inl (ar (fun _ => 0)))) :: (h0, .inr (4, [.ref q1, .ref q2, .ref q3, .ref q4])) :: ws) hx hb hg uB_in tyB tyB_ok nmB hown hK hL 4 rfl rfl 3 (by decide) (hg _ wm_118) (fun _ h9 => h9) (Or.inr ⟨rfl, hin, rfl⟩) (ty := tyB 3) (by decide +kernel) rfl rfl (Nat.le_of_ble_eq_true rfl) d_B_init_33 rfl (fun _ _ hL => ?_)
  rw [hQ]
  exact zi_ret (u := [(q4, .inl (ca E 0, 30, .inl (ar (fun _ => 0)))), (q3, .inl (ca E 0, 30, .inl (ar (fun _ => 0)))), (q2, .inl (ca E 0, 30, .inl (ar (fun _ => 0)))), (q1, .inl (ca E 0, 30, .inl (ar (fun _ => 0)))), (h0, .inr (4, [.ref q1, .ref q2, .ref q3, .ref q4]))]) hx hb hr hlk hL ⟨q4, q3, q2, q1, rfl⟩ d_B_init_36

def rm_M_init : Room := { frames := 1, cells := 13, slots := 1248, locals := 12 }
set_option maxHeartbeats 4000000 in
set_option maxRecDepth 100000 in
theorem ci_M (l : Launch) (E : zE) (h0 : Nat) (ws : va_W) : zMi l y_M_init ws_M_init rm_M_init E h0 (.inr (6, [.null, .null, .null, .null, .int (iI 0), .null, .null, .null, .null, .null, .null, .int (iI 0), .int (iI 0), .null, .int (iI 0), .null, .null])) ws (fun u => ∃ q13 q12 q11 q10 q9 q8 q7 q6 q5 q4 q3 q2 q1 : Nat, u = [(q13, .inl (ca E 0, 46, .inl (ar (fun _ => 0)))), (q12, .inl (ca E 0, 58, .inl (ar (fun _ => 0)))), (q11, .inl (ca E 0, 140, .inl (ar (fun _ => 0)))), (q10, .inl (ca E 0, 56, .inl (ar (fun _ => 0)))), (q9, .inl (ca E 0, 56, .inl (ar (fun _ => 0)))), (q8, .inl (ca E 0, 112, .inl (ar (fun _ => 0)))), (q7, .inl (ca E 0, 4, .inl (ar (fun _ => 0)))), (q6, .inl (ca E 0, 224, .inl (ar (fun _ => 0)))), (q5, .inl (ca E 0, 80, .inl (ar (fun _ => 0)))), (q4, .inl (ca E 0, 448, .inl (ar (fun _ => 0)))), (q3, .inl (ca E 0, 8, .inl (ar (fun _ => 0)))), (q2, .inl (ca E 2, 8, .inl (ar (fun _ => 0)))), (q1, .inl (ca E 0, 8, .inl (ar (fun _ => 0)))), (h0, .inr (6, [.ref q1, .ref q2, .ref q3, .ref q4, .int (iI 0), .ref q5, .ref q6, .ref q7, .ref q8, .ref q9, .ref q10, .int (iI 0), .int (iI 0), .ref q11, .int (iI 0), .ref q12, .ref q13]))]) 13 1248 := by
  refine zi_met (cc := b_M_init) (maxL := 1) (by decide +kernel) rfl (Nat.le_of_ble_eq_true rfl) ?_
  intro p e s m below meth c ls a Qf hQ hF hr hlk hin hK hG hO hl hL
  obtain ⟨hx, hb, hml, hown, hts⟩ := hF
  have hg : ∀ w ∈ GW, w.before a s = true := fun w h => hts w (List.mem_cons_of_mem _ h)
  have hA : ∀ q, s.heap.size ≤ q → va_A ((h0, .inr (6, [.null, .null, .null, .null, .int (iI 0), .null, .null, .null, .null, .null, .null, .int (iI 0), .int (iI 0), .null, .int (iI 0), .null, .null])) :: ws) s.heap.size q := fun q h => Or.inr h
  have hl : lv_has ls 1 [(0, .ref h0)] := hl
  refine lv_aload_n hx hb d_M_init_0 rfl (lv_at hl 0 rfl) ?_
  refine zi_obj hx hb hml hl.1 hown (hg _ wm_681) (hg _ wm_25) (hg _ wm_26) d_M_init_1 (Nat.le_of_ble_eq_true rfl) (Nat.le_of_ble_eq_true rfl) ?_
  refine lv_aload_n hx hb d_M_init_4 rfl (lv_at hl 0 rfl) ?_
  refine zv_bipush hx hb d_M_init_5 rfl ?_
  refine zi_newa (atype := .int) (ty := .int) (t := 0) (n := 8) (N := 8) hx hb (hg _ wm_54) rfl rfl (fun _ h9 => h9) hK hL hA (fun _ => rfl) (by decide) (by decide) (by decide) (Nat.le_of_ble_eq_true rfl) (Nat.le_of_ble_eq_true rfl) d_M_init_7 (fun q1 _ hL => ?_)
  refine zi_put (C := "ScaledNumeralDeskModel") (T := TM) (N := 17) (ws' := (q1, .inl (ca E 0, 8, .inl (ar (fun _ => 0)))) :: (h0, .inr (6, [.ref q1, .null, .null, .null, .int (iI 0), .null, .null, .null, .null, .null, .null, .int (iI 0), .int (iI 0), .null, .int (iI 0), .null, .null])) :: ws) hx hb hg uM_in tyM tyM_ok nmM hown hK hL 1 rfl rfl 0 (by decide) (hg _ wm_682) (fun _ h9 => h9) (Or.inl rfl) (ty := tyM 0) (by decide +kernel) rfl rfl (Nat.le_of_ble_eq_true rfl) d_M_init_9 rfl (fun _ _ hL => ?_)
  refine lv_aload_n hx hb d_M_init_12 rfl (lv_at hl 0 rfl) ?_
  refine zv_bipush hx hb d_M_init_13 rfl ?_
  refine zi_newa (atype := .boolean) (ty := .boolean) (t := 2) (n := 8) (N := 8) hx hb (hg _ wm_734) rfl rfl (fun _ h9 => h9) hK hL hA (fun _ => rfl) (by decide) (by decide) (by decide) (Nat.le_of_ble_eq_true rfl) (Nat.le_of_ble_eq_true rfl) d_M_init_15 (fun q2 _ hL => ?_)
  refine zi_put (C := "ScaledNumeralDeskModel") (T := TM) (N := 17) (ws' := (q2, .inl (ca E 2, 8, .inl (ar (fun _ => 0)))) :: (q1, .inl (ca E 0, 8, .inl (ar (fun _ => 0)))) :: (h0, .inr (6, [.ref q1, .ref q2, .null, .null, .int (iI 0), .null, .null, .null, .null, .null, .null, .int (iI 0), .int (iI 0), .null, .int (iI 0), .null, .null])) :: ws) hx hb hg uM_in tyM tyM_ok nmM hown hK hL 2 rfl rfl 1 (by decide) (hg _ wm_683) (fun _ h9 => h9) (Or.inl rfl) (ty := tyM 1) (by decide +kernel) rfl rfl (Nat.le_of_ble_eq_true rfl) d_M_init_17 rfl (fun _ _ hL => ?_)
  refine lv_aload_n hx hb d_M_init_20 rfl (lv_at hl 0 rfl) ?_
  refine zv_bipush hx hb d_M_init_21 rfl ?_
  refine zi_newa (atype := .int) (ty := .int) (t := 0) (n := 8) (N := 8) hx hb (hg _ wm_54) rfl rfl (fun _ h9 => h9) hK hL hA (fun _ => rfl) (by decide) (by decide) (by decide) (Nat.le_of_ble_eq_true rfl) (Nat.le_of_ble_eq_true rfl) d_M_init_23 (fun q3 _ hL => ?_)
  refine zi_put (C := "ScaledNumeralDeskModel") (T := TM) (N := 17) (ws' := (q3, .inl (ca E 0, 8, .inl (ar (fun _ => 0)))) :: (q2, .inl (ca E 2, 8, .inl (ar (fun _ => 0)))) :: (q1, .inl (ca E 0, 8, .inl (ar (fun _ => 0)))) :: (h0, .inr (6, [.ref q1, .ref q2, .ref q3, .null, .int (iI 0), .null, .null, .null, .null, .null, .null, .int (iI 0), .int (iI 0), .null, .int (iI 0), .null, .null])) :: ws) hx hb hg uM_in tyM tyM_ok nmM hown hK hL 3 rfl rfl 2 (by decide) (hg _ wm_684) (fun _ h9 => h9) (Or.inl rfl) (ty := tyM 2) (by decide +kernel) rfl rfl (Nat.le_of_ble_eq_true rfl) d_M_init_25 rfl (fun _ _ hL => ?_)
  refine lv_aload_n hx hb d_M_init_28 rfl (lv_at hl 0 rfl) ?_
  refine zv_sipush hx hb d_M_init_29 rfl ?_
  refine zi_newa (atype := .int) (ty := .int) (t := 0) (n := 448) (N := 448) hx hb (hg _ wm_54) rfl rfl (fun _ h9 => h9) hK hL hA (fun _ => rfl) (by decide) (by decide) (by decide) (Nat.le_of_ble_eq_true rfl) (Nat.le_of_ble_eq_true rfl) d_M_init_32 (fun q4 _ hL => ?_)
  refine zi_put (C := "ScaledNumeralDeskModel") (T := TM) (N := 17) (ws' := (q4, .inl (ca E 0, 448, .inl (ar (fun _ => 0)))) :: (q3, .inl (ca E 0, 8, .inl (ar (fun _ => 0)))) :: (q2, .inl (ca E 2, 8, .inl (ar (fun _ => 0)))) :: (q1, .inl (ca E 0, 8, .inl (ar (fun _ => 0)))) :: (h0, .inr (6, [.ref q1, .ref q2, .ref q3, .ref q4, .int (iI 0), .null, .null, .null, .null, .null, .null, .int (iI 0), .int (iI 0), .null, .int (iI 0), .null, .null])) :: ws) hx hb hg uM_in tyM tyM_ok nmM hown hK hL 4 rfl rfl 3 (by decide) (hg _ wm_685) (fun _ h9 => h9) (Or.inl rfl) (ty := tyM 3) (by decide +kernel) rfl rfl (Nat.le_of_ble_eq_true rfl) d_M_init_34 rfl (fun _ _ hL => ?_)
  refine lv_aload_n hx hb d_M_init_37 rfl (lv_at hl 0 rfl) ?_
  refine zv_bipush hx hb d_M_init_38 rfl ?_
  refine zi_newa (atype := .int) (ty := .int) (t := 0) (n := 80) (N := 80) hx hb (hg _ wm_54) rfl rfl (fun _ h9 => h9) hK hL hA (fun _ => rfl) (by decide) (by decide) (by decide) (Nat.le_of_ble_eq_true rfl) (Nat.le_of_ble_eq_true rfl) d_M_init_40 (fun q5 _ hL => ?_)
  refine zi_put (C := "ScaledNumeralDeskModel") (T := TM) (N := 17) (ws' := (q5, .inl (ca E 0, 80, .inl (ar (fun _ => 0)))) :: (q4, .inl (ca E 0, 448, .inl (ar (fun _ => 0)))) :: (q3, .inl (ca E 0, 8, .inl (ar (fun _ => 0)))) :: (q2, .inl (ca E 2, 8, .inl (ar (fun _ => 0)))) :: (q1, .inl (ca E 0, 8, .inl (ar (fun _ => 0)))) :: (h0, .inr (6, [.ref q1, .ref q2, .ref q3, .ref q4, .int (iI 0), .ref q5, .null, .null, .null, .null, .null, .int (iI 0), .int (iI 0), .null, .int (iI 0), .null, .null])) :: ws) hx hb hg uM_in tyM tyM_ok nmM hown hK hL 5 rfl rfl 5 (by decide) (hg _ wm_687) (fun _ h9 => h9) (Or.inl rfl) (ty := tyM 5) (by decide +kernel) rfl rfl (Nat.le_of_ble_eq_true rfl) d_M_init_42 rfl (fun _ _ hL => ?_)
  refine lv_aload_n hx hb d_M_init_45 rfl (lv_at hl 0 rfl) ?_
  refine zv_sipush hx hb d_M_init_46 rfl ?_
  refine zi_newa (atype := .int) (ty := .int) (t := 0) (n := 224) (N := 224) hx hb (hg _ wm_54) rfl rfl (fun _ h9 => h9) hK hL hA (fun _ => rfl) (by decide) (by decide) (by decide) (Nat.le_of_ble_eq_true rfl) (Nat.le_of_ble_eq_true rfl) d_M_init_49 (fun q6 _ hL => ?_)
  refine zi_put (C := "ScaledNumeralDeskModel") (T := TM) (N := 17) (ws' := (q6, .inl (ca E 0, 224, .inl (ar (fun _ => 0)))) :: (q5, .inl (ca E 0, 80, .inl (ar (fun _ => 0)))) :: (q4, .inl (ca E 0, 448, .inl (ar (fun _ => 0)))) :: (q3, .inl (ca E 0, 8, .inl (ar (fun _ => 0)))) :: (q2, .inl (ca E 2, 8, .inl (ar (fun _ => 0)))) :: (q1, .inl (ca E 0, 8, .inl (ar (fun _ => 0)))) :: (h0, .inr (6, [.ref q1, .ref q2, .ref q3, .ref q4, .int (iI 0), .ref q5, .ref q6, .null, .null, .null, .null, .int (iI 0), .int (iI 0), .null, .int (iI 0), .null, .null])) :: ws) hx hb hg uM_in tyM tyM_ok nmM hown hK hL 6 rfl rfl 6 (by decide) (hg _ wm_688) (fun _ h9 => h9) (Or.inl rfl) (ty := tyM 6) (by decide +kernel) rfl rfl (Nat.le_of_ble_eq_true rfl) d_M_init_51 rfl (fun _ _ hL => ?_)
  refine lv_aload_n hx hb d_M_init_54 rfl (lv_at hl 0 rfl) ?_
  refine zv_iconst hx hb d_M_init_55 ?_
  refine zi_newa (atype := .int) (ty := .int) (t := 0) (n := 4) (N := 4) hx hb (hg _ wm_54) rfl rfl (fun _ h9 => h9) hK hL hA (fun _ => rfl) (by decide) (by decide) (by decide) (Nat.le_of_ble_eq_true rfl) (Nat.le_of_ble_eq_true rfl) d_M_init_56 (fun q7 _ hL => ?_)
  refine zi_put (C := "ScaledNumeralDeskModel") (T := TM) (N := 17) (ws' := (q7, .inl (ca E 0, 4, .inl (ar (fun _ => 0)))) :: (q6, .inl (ca E 0, 224, .inl (ar (fun _ => 0)))) :: (q5, .inl (ca E 0, 80, .inl (ar (fun _ => 0)))) :: (q4, .inl (ca E 0, 448, .inl (ar (fun _ => 0)))) :: (q3, .inl (ca E 0, 8, .inl (ar (fun _ => 0)))) :: (q2, .inl (ca E 2, 8, .inl (ar (fun _ => 0)))) :: (q1, .inl (ca E 0, 8, .inl (ar (fun _ => 0)))) :: (h0, .inr (6, [.ref q1, .ref q2, .ref q3, .ref q4, .int (iI 0), .ref q5, .ref q6, .ref q7, .null, .null, .null, .int (iI 0), .int (iI 0), .null, .int (iI 0), .null, .null])) :: ws) hx hb hg uM_in tyM tyM_ok nmM hown hK hL 7 rfl rfl 7 (by decide) (hg _ wm_689) (fun _ h9 => h9) (Or.inl rfl) (ty := tyM 7) (by decide +kernel) rfl rfl (Nat.le_of_ble_eq_true rfl) d_M_init_58 rfl (fun _ _ hL => ?_)
  refine lv_aload_n hx hb d_M_init_61 rfl (lv_at hl 0 rfl) ?_
  refine zv_bipush hx hb d_M_init_62 rfl ?_
  refine zi_newa (atype := .int) (ty := .int) (t := 0) (n := 112) (N := 112) hx hb (hg _ wm_54) rfl rfl (fun _ h9 => h9) hK hL hA (fun _ => rfl) (by decide) (by decide) (by decide) (Nat.le_of_ble_eq_true rfl) (Nat.le_of_ble_eq_true rfl) d_M_init_64 (fun q8 _ hL => ?_)
  refine zi_put (C := "ScaledNumeralDeskModel") (T := TM) (N := 17) (ws' := (q8, .inl (ca E 0, 112, .inl (ar (fun _ => 0)))) :: (q7, .inl (ca E 0, 4, .inl (ar (fun _ => 0)))) :: (q6, .inl (ca E 0, 224, .inl (ar (fun _ => 0)))) :: (q5, .inl (ca E 0, 80, .inl (ar (fun _ => 0)))) :: (q4, .inl (ca E 0, 448, .inl (ar (fun _ => 0)))) :: (q3, .inl (ca E 0, 8, .inl (ar (fun _ => 0)))) :: (q2, .inl (ca E 2, 8, .inl (ar (fun _ => 0)))) :: (q1, .inl (ca E 0, 8, .inl (ar (fun _ => 0)))) :: (h0, .inr (6, [.ref q1, .ref q2, .ref q3, .ref q4, .int (iI 0), .ref q5, .ref q6, .ref q7, .ref q8, .null, .null, .int (iI 0), .int (iI 0), .null, .int (iI 0), .null, .null])) :: ws) hx hb hg uM_in tyM tyM_ok nmM hown hK hL 8 rfl rfl 8 (by decide) (hg _ wm_690) (fun _ h9 => h9) (Or.inl rfl) (ty := tyM 8) (by decide +kernel) rfl rfl (Nat.le_of_ble_eq_true rfl) d_M_init_66 rfl (fun _ _ hL => ?_)
  refine lv_aload_n hx hb d_M_init_69 rfl (lv_at hl 0 rfl) ?_
  refine zv_bipush hx hb d_M_init_70 rfl ?_
  refine zi_newa (atype := .int) (ty := .int) (t := 0) (n := 56) (N := 56) hx hb (hg _ wm_54) rfl rfl (fun _ h9 => h9) hK hL hA (fun _ => rfl) (by decide) (by decide) (by decide) (Nat.le_of_ble_eq_true rfl) (Nat.le_of_ble_eq_true rfl) d_M_init_72 (fun q9 _ hL => ?_)
  refine zi_put (C := "ScaledNumeralDeskModel") (T := TM) (N := 17) (ws' := (q9, .inl (ca E 0, 56, .inl (ar (fun _ => 0)))) :: (q8, .inl (ca E 0, 112, .inl (ar (fun _ => 0)))) :: (q7, .inl (ca E 0, 4, .inl (ar (fun _ => 0)))) :: (q6, .inl (ca E 0, 224, .inl (ar (fun _ => 0)))) :: (q5, .inl (ca E 0, 80, .inl (ar (fun _ => 0)))) :: (q4, .inl (ca E 0, 448, .inl (ar (fun _ => 0)))) :: (q3, .inl (ca E 0, 8, .inl (ar (fun _ => 0)))) :: (q2, .inl (ca E 2, 8, .inl (ar (fun _ => 0)))) :: (q1, .inl (ca E 0, 8, .inl (ar (fun _ => 0)))) :: (h0, .inr (6, [.ref q1, .ref q2, .ref q3, .ref q4, .int (iI 0), .ref q5, .ref q6, .ref q7, .ref q8, .ref q9, .null, .int (iI 0), .int (iI 0), .null, .int (iI 0), .null, .null])) :: ws) hx hb hg uM_in tyM tyM_ok nmM hown hK hL 9 rfl rfl 9 (by decide) (hg _ wm_691) (fun _ h9 => h9) (Or.inl rfl) (ty := tyM 9) (by decide +kernel) rfl rfl (Nat.le_of_ble_eq_true rfl) d_M_init_74 rfl (fun _ _ hL => ?_)
  refine lv_aload_n hx hb d_M_init_77 rfl (lv_at hl 0 rfl) ?_
  refine zv_bipush hx hb d_M_init_78 rfl ?_
  refine zi_newa (atype := .int) (ty := .int) (t := 0) (n := 56) (N := 56) hx hb (hg _ wm_54) rfl rfl (fun _ h9 => h9) hK hL hA (fun _ => rfl) (by decide) (by decide) (by decide) (Nat.le_of_ble_eq_true rfl) (Nat.le_of_ble_eq_true rfl) d_M_init_80 (fun q10 _ hL => ?_)
  refine zi_put (C := "ScaledNumeralDeskModel") (T := TM) (N := 17) (ws' := (q10, .inl (ca E 0, 56, .inl (ar (fun _ => 0)))) :: (q9, .inl (ca E 0, 56, .inl (ar (fun _ => 0)))) :: (q8, .inl (ca E 0, 112, .inl (ar (fun _ => 0)))) :: (q7, .inl (ca E 0, 4, .inl (ar (fun _ => 0)))) :: (q6, .inl (ca E 0, 224, .inl (ar (fun _ => 0)))) :: (q5, .inl (ca E 0, 80, .inl (ar (fun _ => 0)))) :: (q4, .inl (ca E 0, 448, .inl (ar (fun _ => 0)))) :: (q3, .inl (ca E 0, 8, .inl (ar (fun _ => 0)))) :: (q2, .inl (ca E 2, 8, .inl (ar (fun _ => 0)))) :: (q1, .inl (ca E 0, 8, .inl (ar (fun _ => 0)))) :: (h0, .inr (6, [.ref q1, .ref q2, .ref q3, .ref q4, .int (iI 0), .ref q5, .ref q6, .ref q7, .ref q8, .ref q9, .ref q10, .int (iI 0), .int (iI 0), .null, .int (iI 0), .null, .null])) :: ws) hx hb hg uM_in tyM tyM_ok nmM hown hK hL 10 rfl rfl 10 (by decide) (hg _ wm_692) (fun _ h9 => h9) (Or.inl rfl) (ty := tyM 10) (by decide +kernel) rfl rfl (Nat.le_of_ble_eq_true rfl) d_M_init_82 rfl (fun _ _ hL => ?_)
  refine lv_aload_n hx hb d_M_init_85 rfl (lv_at hl 0 rfl) ?_
  refine zv_sipush hx hb d_M_init_86 rfl ?_
  refine zi_newa (atype := .int) (ty := .int) (t := 0) (n := 140) (N := 140) hx hb (hg _ wm_54) rfl rfl (fun _ h9 => h9) hK hL hA (fun _ => rfl) (by decide) (by decide) (by decide) (Nat.le_of_ble_eq_true rfl) (Nat.le_of_ble_eq_true rfl) d_M_init_89 (fun q11 _ hL => ?_)
  refine zi_put (C := "ScaledNumeralDeskModel") (T := TM) (N := 17) (ws' := (q11, .inl (ca E 0, 140, .inl (ar (fun _ => 0)))) :: (q10, .inl (ca E 0, 56, .inl (ar (fun _ => 0)))) :: (q9, .inl (ca E 0, 56, .inl (ar (fun _ => 0)))) :: (q8, .inl (ca E 0, 112, .inl (ar (fun _ => 0)))) :: (q7, .inl (ca E 0, 4, .inl (ar (fun _ => 0)))) :: (q6, .inl (ca E 0, 224, .inl (ar (fun _ => 0)))) :: (q5, .inl (ca E 0, 80, .inl (ar (fun _ => 0)))) :: (q4, .inl (ca E 0, 448, .inl (ar (fun _ => 0)))) :: (q3, .inl (ca E 0, 8, .inl (ar (fun _ => 0)))) :: (q2, .inl (ca E 2, 8, .inl (ar (fun _ => 0)))) :: (q1, .inl (ca E 0, 8, .inl (ar (fun _ => 0)))) :: (h0, .inr (6, [.ref q1, .ref q2, .ref q3, .ref q4, .int (iI 0), .ref q5, .ref q6, .ref q7, .ref q8, .ref q9, .ref q10, .int (iI 0), .int (iI 0), .ref q11, .int (iI 0), .null, .null])) :: ws) hx hb hg uM_in tyM tyM_ok nmM hown hK hL 11 rfl rfl 13 (by decide) (hg _ wm_695) (fun _ h9 => h9) (Or.inl rfl) (ty := tyM 13) (by decide +kernel) rfl rfl (Nat.le_of_ble_eq_true rfl) d_M_init_91 rfl (fun _ _ hL => ?_)
  refine lv_aload_n hx hb d_M_init_94 rfl (lv_at hl 0 rfl) ?_
  refine zv_bipush hx hb d_M_init_95 rfl ?_
  refine zi_newa (atype := .int) (ty := .int) (t := 0) (n := 58) (N := 58) hx hb (hg _ wm_54) rfl rfl (fun _ h9 => h9) hK hL hA (fun _ => rfl) (by decide) (by decide) (by decide) (Nat.le_of_ble_eq_true rfl) (Nat.le_of_ble_eq_true rfl) d_M_init_97 (fun q12 _ hL => ?_)
  refine zi_put (C := "ScaledNumeralDeskModel") (T := TM) (N := 17) (ws' := (q12, .inl (ca E 0, 58, .inl (ar (fun _ => 0)))) :: (q11, .inl (ca E 0, 140, .inl (ar (fun _ => 0)))) :: (q10, .inl (ca E 0, 56, .inl (ar (fun _ => 0)))) :: (q9, .inl (ca E 0, 56, .inl (ar (fun _ => 0)))) :: (q8, .inl (ca E 0, 112, .inl (ar (fun _ => 0)))) :: (q7, .inl (ca E 0, 4, .inl (ar (fun _ => 0)))) :: (q6, .inl (ca E 0, 224, .inl (ar (fun _ => 0)))) :: (q5, .inl (ca E 0, 80, .inl (ar (fun _ => 0)))) :: (q4, .inl (ca E 0, 448, .inl (ar (fun _ => 0)))) :: (q3, .inl (ca E 0, 8, .inl (ar (fun _ => 0)))) :: (q2, .inl (ca E 2, 8, .inl (ar (fun _ => 0)))) :: (q1, .inl (ca E 0, 8, .inl (ar (fun _ => 0)))) :: (h0, .inr (6, [.ref q1, .ref q2, .ref q3, .ref q4, .int (iI 0), .ref q5, .ref q6, .ref q7, .ref q8, .ref q9, .ref q10, .int (iI 0), .int (iI 0), .ref q11, .int (iI 0), .ref q12, .null])) :: ws) hx hb hg uM_in tyM tyM_ok nmM hown hK hL 12 rfl rfl 15 (by decide) (hg _ wm_697) (fun _ h9 => h9) (Or.inl rfl) (ty := tyM 15) (by decide +kernel) rfl rfl (Nat.le_of_ble_eq_true rfl) d_M_init_99 rfl (fun _ _ hL => ?_)
  refine lv_aload_n hx hb d_M_init_102 rfl (lv_at hl 0 rfl) ?_
  refine zv_bipush hx hb d_M_init_103 rfl ?_
  refine zi_newa (atype := .int) (ty := .int) (t := 0) (n := 46) (N := 46) hx hb (hg _ wm_54) rfl rfl (fun _ h9 => h9) hK hL hA (fun _ => rfl) (by decide) (by decide) (by decide) (Nat.le_of_ble_eq_true rfl) (Nat.le_of_ble_eq_true rfl) d_M_init_105 (fun q13 _ hL => ?_)
  refine zi_put (C := "ScaledNumeralDeskModel") (T := TM) (N := 17) (ws' := (q13, .inl (ca E 0, 46, .inl (ar (fun _ => 0)))) :: (q12, .inl (ca E 0, 58, .inl (ar (fun _ => 0)))) :: (q11, .inl (ca E 0, 140, .inl (ar (fun _ => 0)))) :: (q10, .inl (ca E 0, 56, .inl (ar (fun _ => 0)))) :: (q9, .inl (ca E 0, 56, .inl (ar (fun _ => 0)))) :: (q8, .inl (ca E 0, 112, .inl (ar (fun _ => 0)))) :: (q7, .inl (ca E 0, 4, .inl (ar (fun _ => 0)))) :: (q6, .inl (ca E 0, 224, .inl (ar (fun _ => 0)))) :: (q5, .inl (ca E 0, 80, .inl (ar (fun _ => 0)))) :: (q4, .inl (ca E 0, 448, .inl (ar (fun _ => 0)))) :: (q3, .inl (ca E 0, 8, .inl (ar (fun _ => 0)))) :: (q2, .inl (ca E 2, 8, .inl (ar (fun _ => 0)))) :: (q1, .inl (ca E 0, 8, .inl (ar (fun _ => 0)))) :: (h0, .inr (6, [.ref q1, .ref q2, .ref q3, .ref q4, .int (iI 0), .ref q5, .ref q6, .ref q7, .ref q8, .ref q9, .ref q10, .int (iI 0), .int (iI 0), .ref q11, .int (iI 0), .ref q12, .ref q13])) :: ws) hx hb hg uM_in tyM tyM_ok nmM hown hK hL 13 rfl rfl 16 (by decide) (hg _ wm_698) (fun _ h9 => h9) (Or.inl rfl) (ty := tyM 16) (by decide +kernel) rfl rfl (Nat.le_of_ble_eq_true rfl) d_M_init_107 rfl (fun _ _ hL => ?_)
  rw [hQ]
  exact zi_ret (u := [(q13, .inl (ca E 0, 46, .inl (ar (fun _ => 0)))), (q12, .inl (ca E 0, 58, .inl (ar (fun _ => 0)))), (q11, .inl (ca E 0, 140, .inl (ar (fun _ => 0)))), (q10, .inl (ca E 0, 56, .inl (ar (fun _ => 0)))), (q9, .inl (ca E 0, 56, .inl (ar (fun _ => 0)))), (q8, .inl (ca E 0, 112, .inl (ar (fun _ => 0)))), (q7, .inl (ca E 0, 4, .inl (ar (fun _ => 0)))), (q6, .inl (ca E 0, 224, .inl (ar (fun _ => 0)))), (q5, .inl (ca E 0, 80, .inl (ar (fun _ => 0)))), (q4, .inl (ca E 0, 448, .inl (ar (fun _ => 0)))), (q3, .inl (ca E 0, 8, .inl (ar (fun _ => 0)))), (q2, .inl (ca E 2, 8, .inl (ar (fun _ => 0)))), (q1, .inl (ca E 0, 8, .inl (ar (fun _ => 0)))), (h0, .inr (6, [.ref q1, .ref q2, .ref q3, .ref q4, .int (iI 0), .ref q5, .ref q6, .ref q7, .ref q8, .ref q9, .ref q10, .int (iI 0), .int (iI 0), .ref q11, .int (iI 0), .ref q12, .ref q13]))]) hx hb hr hlk hL ⟨q13, q12, q11, q10, q9, q8, q7, q6, q5, q4, q3, q2, q1, rfl⟩ d_M_init_110
