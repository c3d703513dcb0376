/-! The law's loop. -/
theorem and15 (v : Int) : ∃ j : Int, 0 ≤ j ∧ j < 16 ∧ iI v &&& iI 15 = iI j := by
  obtain ⟨j, hj, ej⟩ := pk_andE (iI v) (m := iI 15) 4 (by decide)
  exact ⟨(j : Int), by omega, by omega, ej.trans (Int32.ofInt_eq_ofNat).symm⟩
set_option maxHeartbeats 8000000 in
set_option maxRecDepth 100000 in
theorem law_loop {p : Program} {l : Launch} {e : Env} {s : State} {m : MethodId} {below : List Frame} {meth : Method} {c : Code} {b L : Nat} {xs : Nat → Int32} {E : zE} (hL : L ≤ 2560) (C : LC p s m c b L xs E) (hr : meth.sig.returnType = ret) (hlk : meth.locks = false) :
    ∀ (fu : Nat) (i : Int) (w : zW) (σ : Sg) (H : Heap) (locs : List Loc) (ls : Array Slot), (L : Int) + 5 - i < fu → 0 ≤ i → i ≤ L + 5 → Wf E w σ → Iv E σ → zH E w (lA s) s.heap H locs → lv_has ls 4 [(3, .int (iI i)), (2, .ref (ad E 59)), (1, .ref (ad E 0)), (0, .ref b)] → W p l e room_1 s m #[Value.ref b] below meth c H locs 73 1902 (lw_Z below #[Value.ref b] s) (F0 m 18 ls []) := by
  intro fu
  induction fu with
  | zero => intro i w σ H locs ls hm h0 h1; exact absurd hm (by omega)
  | succ fu ih =>
    intro i w σ H locs ls hm h0 h1 hW hI hH hl
    have C1 := C
    obtain ⟨⟨hx, hb, hml, hown, hg⟩, hX, hbl, hK, hG, hn⟩ := C
    refine lv_iload_n hx hb d_L_law_18 rfl (lv_at hl 0 rfl) ?_
    refine lv_aload_n hx hb d_L_law_19 rfl (lv_at hl 3 rfl) ?_
    refine z_slen hx hb hX hbl hH d_L_law_20 ?_
    refine zv_iconst hx hb d_L_law_21 ?_
    refine zv_isub hx hb d_L_law_22 ?_
    refine zv_icmp_gt (x := i) (y := (L : Int) - 5) (tgt := 638) hx hb d_L_law_23 rfl ⟨by omega, by omega⟩ ⟨by omega, by omega⟩ (fun h9 => ?_) (fun h9 => ?_)
    · refine zv_iconst hx hb d_L_law_638 ?_
      exact va_forget (fun q hq => hH.2.2.2.2 q hq) (W.widen (by decide) (by decide) (lw_ret hx hb hr hlk d_L_law_639))
    · obtain ⟨v0, y0⟩ : ∃ v, sx xs i = v := ⟨_, rfl⟩
      refine lv_aload_n hx hb d_L_law_26 rfl (lv_at hl 3 rfl) ?_
      refine lv_iload_n hx hb d_L_law_27 rfl (lv_at hl 0 rfl) ?_
      refine z_sld hx hb hX hbl hH hL h0 (by omega) y0 d_L_law_28 ?_
      refine zv_bipush hx hb d_L_law_29 rfl ?_
      refine lv_iand hx hb d_L_law_31 ?_
      obtain ⟨j, j0, j1, ej⟩ := and15 v0
      rw [ej]
      have hi : 0 ≤ i ∧ i + 5 ≤ L := ⟨h0, by omega⟩
      have kk : ∀ (w' : zW) (σ' : Sg) (H' : Heap) (locs' : List Loc), Wf E w' σ' → Iv E σ' → zH E w' (lA s) s.heap H' locs' → W p l e room_1 s m #[Value.ref b] below meth c H' locs' 73 1902 (lw_Z below #[Value.ref b] s) (F0 m 632 ls []) := by
        intro w' σ' H' locs' hW' hI' hH'
        refine zv_iinc (k := 0) (x := i) (n := 5) (lv' := [(3, .int (iI (i + 5))), (2, .ref (ad E 59)), (1, .ref (ad E 0)), (0, .ref b)]) hx hb d_L_law_632 hl rfl (by decide) rfl (fun ls' hl' => ?_)
        refine lv_goto (tgt := 18) hx hb d_L_law_635 rfl ?_
        exact ih (i + 5) w' σ' H' locs' ls' (by omega) (by omega) (by omega) hW' hI' hH' hl'
      rcases (show j = 0 ∨ j = 1 ∨ j = 2 ∨ j = 3 ∨ j = 4 ∨ j = 5 ∨ j = 6 ∨ j = 7 ∨ j = 8 ∨ j = 9 ∨ j = 10 ∨ j = 11 ∨ j = 12 ∨ j = 13 ∨ j = 14 ∨ j = 15 by omega) with rfl | rfl | rfl | rfl | rfl | rfl | rfl | rfl | rfl | rfl | rfl | rfl | rfl | rfl | rfl | rfl
      · refine lv_tableIn (x := iI 0) (off := 80) (tgt := 112) hx hb d_L_law_32 (by decide) (by decide) (by decide) (by decide) ?_
        exact law_type hL C1 hi hW hI hH hl kk
      · refine lv_tableIn (x := iI 1) (off := 105) (tgt := 137) hx hb d_L_law_32 (by decide) (by decide) (by decide) (by decide) ?_
        exact law_enter hL C1 hi hW hI hH hl kk
      · refine lv_tableIn (x := iI 2) (off := 128) (tgt := 160) hx hb d_L_law_32 (by decide) (by decide) (by decide) (by decide) ?_
        exact law_length hL C1 hi hW hI hH hl kk
      · refine lv_tableIn (x := iI 3) (off := 151) (tgt := 183) hx hb d_L_law_32 (by decide) (by decide) (by decide) (by decide) ?_
        exact law_character hL C1 hi hW hI hH hl kk
      · refine lv_tableIn (x := iI 4) (off := 184) (tgt := 216) hx hb d_L_law_32 (by decide) (by decide) (by decide) (by decide) ?_
        exact law_scale hL C1 hi hW hI hH hl kk
      · refine lv_tableIn (x := iI 5) (off := 207) (tgt := 239) hx hb d_L_law_32 (by decide) (by decide) (by decide) (by decide) ?_
        exact law_apply hL C1 hi hW hI hH hl kk
      · refine lv_tableIn (x := iI 6) (off := 260) (tgt := 292) hx hb d_L_law_32 (by decide) (by decide) (by decide) (by decide) ?_
        exact law_adjust hL C1 hi hW hI hH hl kk
      · refine lv_tableIn (x := iI 7) (off := 313) (tgt := 345) hx hb d_L_law_32 (by decide) (by decide) (by decide) (by decide) ?_
        exact law_fit hL C1 hi hW hI hH hl kk
      · refine lv_tableIn (x := iI 8) (off := 356) (tgt := 388) hx hb d_L_law_32 (by decide) (by decide) (by decide) (by decide) ?_
        exact law_compare hL C1 hi hW hI hH hl kk
      · refine lv_tableIn (x := iI 9) (off := 389) (tgt := 421) hx hb d_L_law_32 (by decide) (by decide) (by decide) (by decide) ?_
        exact law_accept hL C1 hi hW hI hH hl kk
      · refine lv_tableIn (x := iI 10) (off := 422) (tgt := 454) hx hb d_L_law_32 (by decide) (by decide) (by decide) (by decide) ?_
        exact law_discard hL C1 hi hW hI hH hl kk
      · refine lv_tableIn (x := iI 11) (off := 455) (tgt := 487) hx hb d_L_law_32 (by decide) (by decide) (by decide) (by decide) ?_
        exact law_merge hL C1 hi hW hI hH hl kk
      · refine lv_tableIn (x := iI 12) (off := 488) (tgt := 520) hx hb d_L_law_32 (by decide) (by decide) (by decide) (by decide) ?_
        exact law_reset hL C1 hi hW hI hH hl kk
      · refine lv_tableIn (x := iI 13) (off := 511) (tgt := 543) hx hb d_L_law_32 (by decide) (by decide) (by decide) (by decide) ?_
        exact law_count hL C1 hi hW hI hH hl kk
      · refine lv_tableIn (x := iI 14) (off := 534) (tgt := 566) hx hb d_L_law_32 (by decide) (by decide) (by decide) (by decide) ?_
        exact law_total hL C1 hi hW hI hH hl kk
      · refine lv_tableIn (x := iI 15) (off := 567) (tgt := 599) hx hb d_L_law_32 (by decide) (by decide) (by decide) (by decide) ?_
        exact law_average hL C1 hi hW hI hH hl kk
theorem rng_map {α : Type} (L : List α) (d : α) : (List.range L.length).map (fun k => L.getD k d) = L := by
  apply List.ext_getElem
  · rw [List.length_map, List.length_range]
  · intro i h1 h2
    rw [List.getElem_map, List.getElem_range, List.getD_eq_getElem?_getD, List.getElem?_eq_getElem h2]
    rfl
theorem b00 {n lo hi : Int} (h : lo ≤ 0 ∧ 0 ≤ hi) : bd (fun _ => 0) n lo hi := fun _ _ _ => h
theorem V00 : V (fun _ => 0) 15 = 0 := V_zero (by decide) (fun _ _ _ => rfl)
theorem G00 (r : Int) : Gt (fun _ => 0) r = 0 := Vt_zero (by decide) (fun _ _ _ => rfl)
theorem reg0 (r : Int) : RegOk 1 0 0 (fun _ => 0) 0 0 0 (Gt (fun _ => 0) r) := by
  have t := Tp_pos 56
  have b := Bp_pos 14
  refine ⟨b00 (by decide), by decide, Or.inl rfl, by decide, by rw [V00]; exact b, fun _ => rfl, fun h => absurd rfl h, by decide, by decide, rfl, fun _ => ⟨rfl, rfl, ?_⟩, ?_, ?_, by decide, by decide, Or.inl rfl, fun _ => rfl, fun _ => ?_⟩
  · rw [G00, V00]
  · rw [V00]; decide
  · rw [V00]; exact t
  · rw [V00]; exact Int.zero_emod _
theorem sum0 (k : Int) : SumOk 0 0 (fun _ => 0) (fun _ => 0) 0 (fun _ => 0) (Gt (fun _ => 0) k) := by
  refine ⟨b00 (by decide), Or.inl rfl, b00 (by decide), by decide, by rw [V00]; decide, fun _ => rfl, by decide, rfl, fun _ _ _ => rfl, by rw [G00, V00, sv_0]⟩
def allL (E0 : zE) (u : Nat → Nat) (fq fs : Nat → Option Nat) (q13 q12 q11 q10 q9 q8 q7 q6 q5 q4 q3 q2 q1 h0 : Nat) : va_W := deskL E0 u fq fs ++ [(h0, .inr (6, [.ref q1, .ref q2, .ref q3, .ref q4, .int (iI 0), .ref q5, .ref q6, .ref q7, .ref q8, .ref q9, .ref q10, .int (iI 0), .int (iI 0), .ref q11, .int (iI 0), .ref q12, .ref q13])), (q1, .inl (ca E0 0, 8, .inl (ar (fun _ => 0)))), (q2, .inl (ca E0 2, 8, .inl (ar (fun _ => 0)))), (q3, .inl (ca E0 0, 8, .inl (ar (fun _ => 0)))), (q4, .inl (ca E0 0, 448, .inl (ar (fun _ => 0)))), (q5, .inl (ca E0 0, 80, .inl (ar (fun _ => 0)))), (q6, .inl (ca E0 0, 224, .inl (ar (fun _ => 0)))), (q7, .inl (ca E0 0, 4, .inl (ar (fun _ => 0)))), (q8, .inl (ca E0 0, 112, .inl (ar (fun _ => 0)))), (q9, .inl (ca E0 0, 56, .inl (ar (fun _ => 0)))), (q10, .inl (ca E0 0, 56, .inl (ar (fun _ => 0)))), (q11, .inl (ca E0 0, 140, .inl (ar (fun _ => 0)))), (q12, .inl (ca E0 0, 58, .inl (ar (fun _ => 0)))), (q13, .inl (ca E0 0, 46, .inl (ar (fun _ => 0))))]
set_option maxHeartbeats 8000000 in
set_option maxRecDepth 100000 in
theorem wf_0 {E0 : zE} {u : Nat → Nat} {fq fs : Nat → Option Nat} {q13 q12 q11 q10 q9 q8 q7 q6 q5 q4 q3 q2 q1 h0 : Nat} : Wf ((zD E0, fun k => ((allL E0 u fq fs q13 q12 q11 q10 q9 q8 q7 q6 q5 q4 q3 q2 q1 h0).getD k (0, .inr (0, []))).1, 73, ca E0, zg E0) : zE) (fun k => ((allL E0 u fq fs q13 q12 q11 q10 q9 q8 q7 q6 q5 q4 q3 q2 q1 h0).getD k (0, .inr (0, []))).2) (mkS fq fs 0 (fun _ => 0) (fun _ => 0) (fun _ => 0) (fun _ => 0) (fun _ => 0) 1 0 0 (fun _ => 0) 1 0 0 (fun _ => 0) 1 0 0 (fun _ => 0) (fun _ => 1) (fun _ => 0) (fun _ => 0) (fun _ _ => 0) (fun _ => 0) (fun _ => 0) (fun _ _ => 0) (fun _ _ => 0) 0 (fun _ => 0) 0 0 0 (fun _ => 0) (fun _ => 0) (fun _ => 0) (fun _ => 0) (fun _ => 0) (fun _ => 0) (fun _ => 0) (fun _ => 0) (fun _ => 0) (fun _ => 0) (fun _ => 0) (fun _ => 0)) := by
  refine Wf.mk (Nat.le_refl 73) ⟨rfl, rfl, rfl⟩ ⟨rfl, rfl⟩ ⟨rfl, rfl, rfl, rfl, rfl⟩ ⟨rfl, rfl, rfl⟩ ⟨rfl, rfl, rfl⟩ ⟨rfl, rfl, rfl⟩ ?_ ?_ ⟨rfl, rfl, rfl, rfl, rfl, rfl, rfl, rfl, rfl, rfl, rfl, rfl, rfl, rfl⟩
  · intro k hk
    rcases (show k = 0 ∨ k = 1 ∨ k = 2 ∨ k = 3 ∨ k = 4 ∨ k = 5 ∨ k = 6 ∨ k = 7 by omega) with rfl | rfl | rfl | rfl | rfl | rfl | rfl | rfl <;> exact ⟨rfl, rfl, rfl⟩
  · intro k hk
    rcases (show k = 0 ∨ k = 1 ∨ k = 2 ∨ k = 3 by omega) with rfl | rfl | rfl | rfl <;> exact ⟨rfl, rfl, rfl, rfl⟩
set_option maxHeartbeats 8000000 in
set_option maxRecDepth 100000 in
theorem iv_0 {E0 : zE} {u : Nat → Nat} {fq fs : Nat → Option Nat} {q13 q12 q11 q10 q9 q8 q7 q6 q5 q4 q3 q2 q1 h0 : Nat} (hfq : ∀ k : Nat, k < 8 → fq k = some (u (19 + 3 * k))) (hfs : ∀ k : Nat, k < 4 → fs k = some (u (43 + 4 * k))) : Iv ((zD E0, fun k => ((allL E0 u fq fs q13 q12 q11 q10 q9 q8 q7 q6 q5 q4 q3 q2 q1 h0).getD k (0, .inr (0, []))).1, 73, ca E0, zg E0) : zE) (mkS fq fs 0 (fun _ => 0) (fun _ => 0) (fun _ => 0) (fun _ => 0) (fun _ => 0) 1 0 0 (fun _ => 0) 1 0 0 (fun _ => 0) 1 0 0 (fun _ => 0) (fun _ => 1) (fun _ => 0) (fun _ => 0) (fun _ _ => 0) (fun _ => 0) (fun _ => 0) (fun _ _ => 0) (fun _ _ => 0) 0 (fun _ => 0) 0 0 0 (fun _ => 0) (fun _ => 0) (fun _ => 0) (fun _ => 0) (fun _ => 0) (fun _ => 0) (fun _ => 0) (fun _ => 0) (fun _ => 0) (fun _ => 0) (fun _ => 0) (fun _ => 0)) := by
  have o : bd (fun _ => 0) 15 0 9999 ∧ 1 < 4 ∧ ((0 : Int) = 0 ∨ (0 : Int) = 1) := ⟨b00 (by decide), by decide, Or.inl rfl⟩
  refine Iv.mk ?_ ?_ (b00 (by decide)) (show (0 : Int) ≤ 0 ∧ (0 : Int) ≤ 80 by decide) (b00 (by decide)) (b00 (by decide)) (b00 (by decide)) (b00 (by decide)) o o o (fun r _ => reg0 r) (fun k _ => sum0 k) (b00 (by decide)) (b00 (by decide)) (b00 (by decide)) (b00 (by decide)) ?_ (b00 (by decide)) (b00 (by decide)) (b00 (by decide)) (b00 (by decide)) (b00 (by decide)) (b00 (by decide)) (b00 (by decide)) rfl rfl (Or.inl rfl) (Or.inl rfl) (Or.inl rfl)
  · intro k hk
    have h := hfq k hk
    rcases (show k = 0 ∨ k = 1 ∨ k = 2 ∨ k = 3 ∨ k = 4 ∨ k = 5 ∨ k = 6 ∨ k = 7 by omega) with rfl | rfl | rfl | rfl | rfl | rfl | rfl | rfl <;> exact h
  · intro k hk
    have h := hfs k hk
    rcases (show k = 0 ∨ k = 1 ∨ k = 2 ∨ k = 3 by omega) with rfl | rfl | rfl | rfl <;> exact h
  · intro k j _ _ _ _; show -(9 * (0 : Int)) ≤ 0 ∧ (0 : Int) ≤ 9 * 0; decide
set_option maxHeartbeats 8000000 in
set_option maxRecDepth 100000 in
theorem zh_0 {E0 : zE} {u : Nat → Nat} {fq fs : Nat → Option Nat} {q13 q12 q11 q10 q9 q8 q7 q6 q5 q4 q3 q2 q1 h0 : Nat} {A : Nat → Prop} {H0 H : Heap} {locs : List Loc} (hL : zL E0 ([(q13, .inl (ca E0 0, 46, .inl (ar (fun _ => 0)))), (q12, .inl (ca E0 0, 58, .inl (ar (fun _ => 0)))), (q11, .inl (ca E0 0, 140, .inl (ar (fun _ => 0)))), (q10, .inl (ca E0 0, 56, .inl (ar (fun _ => 0)))), (q9, .inl (ca E0 0, 56, .inl (ar (fun _ => 0)))), (q8, .inl (ca E0 0, 112, .inl (ar (fun _ => 0)))), (q7, .inl (ca E0 0, 4, .inl (ar (fun _ => 0)))), (q6, .inl (ca E0 0, 224, .inl (ar (fun _ => 0)))), (q5, .inl (ca E0 0, 80, .inl (ar (fun _ => 0)))), (q4, .inl (ca E0 0, 448, .inl (ar (fun _ => 0)))), (q3, .inl (ca E0 0, 8, .inl (ar (fun _ => 0)))), (q2, .inl (ca E0 2, 8, .inl (ar (fun _ => 0)))), (q1, .inl (ca E0 0, 8, .inl (ar (fun _ => 0)))), (h0, .inr (6, [.ref q1, .ref q2, .ref q3, .ref q4, .int (iI 0), .ref q5, .ref q6, .ref q7, .ref q8, .ref q9, .ref q10, .int (iI 0), .int (iI 0), .ref q11, .int (iI 0), .ref q12, .ref q13]))] ++ (deskL E0 u fq fs ++ [])) A H0 H locs) : zH ((zD E0, fun k => ((allL E0 u fq fs q13 q12 q11 q10 q9 q8 q7 q6 q5 q4 q3 q2 q1 h0).getD k (0, .inr (0, []))).1, 73, ca E0, zg E0) : zE) (fun k => ((allL E0 u fq fs q13 q12 q11 q10 q9 q8 q7 q6 q5 q4 q3 q2 q1 h0).getD k (0, .inr (0, []))).2) A H0 H locs := by
  have e : wl ((zD E0, fun k => ((allL E0 u fq fs q13 q12 q11 q10 q9 q8 q7 q6 q5 q4 q3 q2 q1 h0).getD k (0, .inr (0, []))).1, 73, ca E0, zg E0) : zE) (fun k => ((allL E0 u fq fs q13 q12 q11 q10 q9 q8 q7 q6 q5 q4 q3 q2 q1 h0).getD k (0, .inr (0, []))).2) = (allL E0 u fq fs q13 q12 q11 q10 q9 q8 q7 q6 q5 q4 q3 q2 q1 h0) := rng_map (allL E0 u fq fs q13 q12 q11 q10 q9 q8 q7 q6 q5 q4 q3 q2 q1 h0) (0, .inr (0, []))
  refine ⟨?_, ?_, hL.2.2⟩
  · rw [e]; exact hL.1.sub [14, 15, 16, 17, 18, 19, 20, 21, 22, 23, 24, 25, 26, 27, 28, 29, 30, 31, 32, 33, 34, 35, 36, 37, 38, 39, 40, 41, 42, 43, 44, 45, 46, 47, 48, 49, 50, 51, 52, 53, 54, 55, 56, 57, 58, 59, 60, 61, 62, 63, 64, 65, 66, 67, 68, 69, 70, 71, 72, 13, 12, 11, 10, 9, 8, 7, 6, 5, 4, 3, 2, 1, 0] rfl
  · rw [e]; exact hL.2.1.sub [14, 15, 16, 17, 18, 19, 20, 21, 22, 23, 24, 25, 26, 27, 28, 29, 30, 31, 32, 33, 34, 35, 36, 37, 38, 39, 40, 41, 42, 43, 44, 45, 46, 47, 48, 49, 50, 51, 52, 53, 54, 55, 56, 57, 58, 59, 60, 61, 62, 63, 64, 65, 66, 67, 68, 69, 70, 71, 72, 13, 12, 11, 10, 9, 8, 7, 6, 5, 4, 3, 2, 1, 0] (by decide) rfl
set_option maxHeartbeats 8000000 in
set_option maxRecDepth 100000 in
theorem whole_start {p : Program} {e : Env} {s : State} {m : MethodId} {below : List Frame} {meth : Method} {c : Code} (l : Launch) {b L : Nat} {xs : Nat → Int32} (hL0 : L ≤ 2560) (C0 : lw_At p s m meth c b L xs) : W p l e room_1 s m #[Value.ref b] below meth c s.heap [] 0 0 (lw_Z below #[Value.ref b] s) (entryFrame m ([Value.ref b] : List Value).toArray 4) := by
  obtain ⟨hx, hb, hr, hml, hown, hts, hX, hbl, hlk, hgv⟩ := C0
  obtain ⟨E0, hK, hG, hn, hO⟩ := st_const hts hgv
  have hg : ∀ w ∈ GW, w.before #[Value.ref b] s = true := fun w h => hts w (List.mem_filter.mp h).1
  have hA : ∀ q, s.heap.size ≤ q → lA s q := fun q h => h
  have hl := lv_entry ([.ref b]) (n := 4) (Nat.le_of_ble_eq_true rfl)
  rw [lg_entry_eq]
  generalize (lg_sl ([.ref b]) ++ List.replicate (4 - (lg_sl ([.ref b])).length) Slot.unset).toArray = ls at hl ⊢
  have hl : lv_has ls 4 [(0, .ref b)] := hl
  have hLs : zL E0 [] (lA s) s.heap s.heap [] := ⟨fun k q h => (by cases h), ⟨fun i j p q h => (by cases h), fun k q h => (by cases h)⟩, va_S.rf⟩
  refine zi_new (C := "ScaledNumeralDesk") (T := TD) (N := 7) (ci := 5) (fs := [.null, .null, .null, .null, .null, .null, .null]) hx hb hg uD_in tyD tyD_ok hown (hg _ wm_19) (hg _ wm_20) (hg _ wm_1) hK hLs hA rfl (fun j hj => by rcases (show j = 0 ∨ j = 1 ∨ j = 2 ∨ j = 3 ∨ j = 4 ∨ j = 5 ∨ j = 6 by omega) with rfl | rfl | rfl | rfl | rfl | rfl | rfl <;> rfl) (Nat.le_of_ble_eq_true rfl) (Nat.le_of_ble_eq_true rfl) d_L_law_0 (fun h1 _ hLa => ?_)
  refine lv_dup hx hb d_L_law_3 rfl ?_
  refine zi_call hx hb hml hown hg hl.1 (ci_D l E0 h1) (zi_cw hg wm_23 wm_21 wm_1 wm_22 (by decide +kernel) ⟨(Nat.le_of_ble_eq_true rfl), (Nat.le_of_ble_eq_true rfl)⟩) hK hG hO hLa hA (Nat.le_of_ble_eq_true rfl) d_L_law_4 ⟨(Nat.le_of_ble_eq_true rfl), (Nat.le_of_ble_eq_true rfl)⟩ (fun _ _ _ hu hLb => ?_)
  obtain ⟨u, fq, fs, hu0, hfq, hfs, rfl⟩ := hu
  refine lv_astore_n (lv' := [(1, .ref h1), (0, .ref b)]) hx hb d_L_law_7 rfl hl (by decide) rfl (fun ls hl => ?_)
  refine zi_new (C := "ScaledNumeralDeskModel") (T := TM) (N := 17) (ci := 6) (fs := [.null, .null, .null, .null, .int (iI 0), .null, .null, .null, .null, .null, .null, .int (iI 0), .int (iI 0), .null, .int (iI 0), .null, .null]) hx hb hg uM_in tyM tyM_ok hown (hg _ wm_676) (hg _ wm_677) (hg _ wm_9) hK hLb hA rfl (fun j hj => by rcases (show j = 0 ∨ j = 1 ∨ j = 2 ∨ j = 3 ∨ j = 4 ∨ j = 5 ∨ j = 6 ∨ j = 7 ∨ j = 8 ∨ j = 9 ∨ j = 10 ∨ j = 11 ∨ j = 12 ∨ j = 13 ∨ j = 14 ∨ j = 15 ∨ j = 16 by omega) with rfl | rfl | rfl | rfl | rfl | rfl | rfl | rfl | rfl | rfl | rfl | rfl | rfl | rfl | rfl | rfl | rfl <;> rfl) (Nat.le_of_ble_eq_true rfl) (Nat.le_of_ble_eq_true rfl) d_L_law_8 (fun h2 _ hLc => ?_)
  refine lv_dup hx hb d_L_law_11 rfl ?_
  refine zi_call hx hb hml hown hg hl.1 (ci_M l E0 h2 (deskL E0 u fq fs ++ [])) (zi_cw hg wm_680 wm_678 wm_9 wm_679 (by decide +kernel) ⟨(Nat.le_of_ble_eq_true rfl), (Nat.le_of_ble_eq_true rfl)⟩) hK hG hO hLc hA (Nat.le_of_ble_eq_true rfl) d_L_law_12 ⟨(Nat.le_of_ble_eq_true rfl), (Nat.le_of_ble_eq_true rfl)⟩ (fun _ _ _ hu hLd => ?_)
  obtain ⟨q13, q12, q11, q10, q9, q8, q7, q6, q5, q4, q3, q2, q1, rfl⟩ := hu
  refine lv_astore_n (lv' := [(2, .ref h2), (1, .ref h1), (0, .ref b)]) hx hb d_L_law_15 rfl hl (by decide) rfl (fun ls hl => ?_)
  refine zv_iconst hx hb d_L_law_16 ?_
  refine lv_istore_n (lv' := [(3, .int (iI 0)), (2, .ref h2), (1, .ref h1), (0, .ref b)]) hx hb d_L_law_17 rfl hl (by decide) rfl (fun ls hl => ?_)
  subst hu0
  exact law_loop (E := (zD E0, fun k => ((allL E0 u fq fs q13 q12 q11 q10 q9 q8 q7 q6 q5 q4 q3 q2 q1 h2).getD k (0, .inr (0, []))).1, 73, ca E0, zg E0)) hL0 ⟨⟨hx, hb, hml, hown, hg⟩, hX, hbl, hK, hG, hn⟩ hr hlk (L + 6) 0 _ _ _ _ ls (by omega) (Int.le_refl 0) (by omega) wf_0 (iv_0 hfq hfs) (zh_0 hLd) hl
