theorem nx_D_apply_0  : 0 ≠ 5 + 1 := by omega
theorem nx_D_apply_1  : 0 ≠ 5 + 2 := by omega
theorem nx_D_apply_2  : 0 ≠ 10 := by omega
theorem nx_D_apply_3  : 0 ≠ 10 + 1 := by omega
theorem nx_D_apply_4  : 0 ≠ 10 + 2 := by omega
theorem nx_D_apply_5  : 1 ≠ 5 + 1 := by omega
theorem nx_D_apply_6  : 1 ≠ 5 + 2 := by omega
theorem nx_D_apply_7  : 1 ≠ 10 := by omega
theorem nx_D_apply_8  : 1 ≠ 10 + 1 := by omega
theorem nx_D_apply_9  : 1 ≠ 10 + 2 := by omega
theorem nx_D_apply_10  : 5 ≠ 5 + 1 := by omega
theorem nx_D_apply_11  : 5 ≠ 5 + 2 := by omega
theorem nx_D_apply_12  : 5 ≠ 10 := by omega
theorem nx_D_apply_13  : 5 ≠ 10 + 1 := by omega
theorem nx_D_apply_14  : 5 ≠ 10 + 2 := by omega
theorem nx_D_apply_15  : 5 + 3 ≠ 5 + 1 := by omega
theorem nx_D_apply_16  : 5 + 3 ≠ 5 + 2 := by omega
theorem nx_D_apply_17  : 5 + 3 ≠ 10 := by omega
theorem nx_D_apply_18  : 5 + 3 ≠ 10 + 1 := by omega
theorem nx_D_apply_19  : 5 + 3 ≠ 10 + 2 := by omega
theorem nx_D_apply_20  : 5 + 4 ≠ 5 + 1 := by omega
theorem nx_D_apply_21  : 5 + 4 ≠ 5 + 2 := by omega
theorem nx_D_apply_22  : 5 + 4 ≠ 10 := by omega
theorem nx_D_apply_23  : 5 + 4 ≠ 10 + 1 := by omega
theorem nx_D_apply_24  : 5 + 4 ≠ 10 + 2 := by omega
theorem nx_D_apply_25 {ra : Nat}  : 19 + 3 * ra ≠ 5 + 1 := by omega
theorem nx_D_apply_26 {ra : Nat}  : 19 + 3 * ra ≠ 5 + 2 := by omega
theorem nx_D_apply_27 {ra : Nat}  : 19 + 3 * ra ≠ 10 := by omega
theorem nx_D_apply_28 {ra : Nat}  : 19 + 3 * ra ≠ 10 + 1 := by omega
theorem nx_D_apply_29 {ra : Nat}  : 19 + 3 * ra ≠ 10 + 2 := by omega
theorem nx_D_apply_30 {ra : Nat}  : 19 + 3 * ra + 1 ≠ 5 + 1 := by omega
theorem nx_D_apply_31 {ra : Nat}  : 19 + 3 * ra + 1 ≠ 5 + 2 := by omega
theorem nx_D_apply_32 {ra : Nat}  : 19 + 3 * ra + 1 ≠ 10 := by omega
theorem nx_D_apply_33 {ra : Nat}  : 19 + 3 * ra + 1 ≠ 10 + 1 := by omega
theorem nx_D_apply_34 {ra : Nat}  : 19 + 3 * ra + 1 ≠ 10 + 2 := by omega
theorem nx_D_apply_35 {ra : Nat}  : 19 + 3 * ra + 2 ≠ 5 + 1 := by omega
theorem nx_D_apply_36 {ra : Nat}  : 19 + 3 * ra + 2 ≠ 5 + 2 := by omega
theorem nx_D_apply_37 {ra : Nat}  : 19 + 3 * ra + 2 ≠ 10 := by omega
theorem nx_D_apply_38 {ra : Nat}  : 19 + 3 * ra + 2 ≠ 10 + 1 := by omega
theorem nx_D_apply_39 {ra : Nat}  : 19 + 3 * ra + 2 ≠ 10 + 2 := by omega
theorem nx_D_apply_40 {rb : Nat}  : 19 + 3 * rb ≠ 5 + 1 := by omega
theorem nx_D_apply_41 {rb : Nat}  : 19 + 3 * rb ≠ 5 + 2 := by omega
theorem nx_D_apply_42 {rb : Nat}  : 19 + 3 * rb ≠ 10 := by omega
theorem nx_D_apply_43 {rb : Nat}  : 19 + 3 * rb ≠ 10 + 1 := by omega
theorem nx_D_apply_44 {rb : Nat}  : 19 + 3 * rb ≠ 10 + 2 := by omega
theorem nx_D_apply_45 {rb : Nat}  : 19 + 3 * rb + 1 ≠ 5 + 1 := by omega
theorem nx_D_apply_46 {rb : Nat}  : 19 + 3 * rb + 1 ≠ 5 + 2 := by omega
theorem nx_D_apply_47 {rb : Nat}  : 19 + 3 * rb + 1 ≠ 10 := by omega
theorem nx_D_apply_48 {rb : Nat}  : 19 + 3 * rb + 1 ≠ 10 + 1 := by omega
theorem nx_D_apply_49 {rb : Nat}  : 19 + 3 * rb + 1 ≠ 10 + 2 := by omega
theorem nx_D_apply_50 {rb : Nat}  : 19 + 3 * rb + 2 ≠ 5 + 1 := by omega
theorem nx_D_apply_51 {rb : Nat}  : 19 + 3 * rb + 2 ≠ 5 + 2 := by omega
theorem nx_D_apply_52 {rb : Nat}  : 19 + 3 * rb + 2 ≠ 10 := by omega
theorem nx_D_apply_53 {rb : Nat}  : 19 + 3 * rb + 2 ≠ 10 + 1 := by omega
theorem nx_D_apply_54 {rb : Nat}  : 19 + 3 * rb + 2 ≠ 10 + 2 := by omega
theorem nx_D_apply_55 {rd : Nat}  : 19 + 3 * rd ≠ 5 + 1 := by omega
theorem nx_D_apply_56 {rd : Nat}  : 19 + 3 * rd ≠ 5 + 2 := by omega
theorem nx_D_apply_57 {rd : Nat}  : 19 + 3 * rd ≠ 10 := by omega
theorem nx_D_apply_58 {rd : Nat}  : 19 + 3 * rd ≠ 10 + 1 := by omega
theorem nx_D_apply_59 {rd : Nat}  : 19 + 3 * rd ≠ 10 + 2 := by omega
theorem nx_D_apply_60 {rd : Nat}  : 19 + 3 * rd + 1 ≠ 5 + 1 := by omega
theorem nx_D_apply_61 {rd : Nat}  : 19 + 3 * rd + 1 ≠ 5 + 2 := by omega
theorem nx_D_apply_62 {rd : Nat}  : 19 + 3 * rd + 1 ≠ 10 := by omega
theorem nx_D_apply_63 {rd : Nat}  : 19 + 3 * rd + 1 ≠ 10 + 1 := by omega
theorem nx_D_apply_64 {rd : Nat}  : 19 + 3 * rd + 1 ≠ 10 + 2 := by omega
theorem nx_D_apply_65 {rd : Nat}  : 19 + 3 * rd + 2 ≠ 5 + 1 := by omega
theorem nx_D_apply_66 {rd : Nat}  : 19 + 3 * rd + 2 ≠ 5 + 2 := by omega
theorem nx_D_apply_67 {rd : Nat}  : 19 + 3 * rd + 2 ≠ 10 := by omega
theorem nx_D_apply_68 {rd : Nat}  : 19 + 3 * rd + 2 ≠ 10 + 1 := by omega
theorem nx_D_apply_69 {rd : Nat}  : 19 + 3 * rd + 2 ≠ 10 + 2 := by omega
theorem nx_D_apply_70 {rd : Nat}  : 0 ≠ 19 + 3 * rd := by omega
theorem nx_D_apply_71 {rd : Nat}  : 0 ≠ 19 + 3 * rd + 1 := by omega
theorem nx_D_apply_72 {rd : Nat}  : 0 ≠ 19 + 3 * rd + 2 := by omega
theorem nx_D_apply_73 {rd : Nat}  : 1 ≠ 19 + 3 * rd := by omega
theorem nx_D_apply_74 {rd : Nat}  : 1 ≠ 19 + 3 * rd + 1 := by omega
theorem nx_D_apply_75 {rd : Nat}  : 1 ≠ 19 + 3 * rd + 2 := by omega
theorem nx_D_apply_76 {rd : Nat}  : 5 ≠ 19 + 3 * rd := by omega
theorem nx_D_apply_77 {rd : Nat}  : 5 ≠ 19 + 3 * rd + 1 := by omega
theorem nx_D_apply_78 {rd : Nat}  : 5 ≠ 19 + 3 * rd + 2 := by omega
theorem nx_D_apply_79 {rd : Nat}  : 5 + 1 ≠ 19 + 3 * rd := by omega
theorem nx_D_apply_80 {rd : Nat}  : 5 + 1 ≠ 19 + 3 * rd + 1 := by omega
theorem nx_D_apply_81 {rd : Nat}  : 5 + 1 ≠ 19 + 3 * rd + 2 := by omega
theorem nx_D_apply_82 {rd : Nat}  : 5 + 2 ≠ 19 + 3 * rd := by omega
theorem nx_D_apply_83 {rd : Nat}  : 5 + 2 ≠ 19 + 3 * rd + 1 := by omega
theorem nx_D_apply_84 {rd : Nat}  : 5 + 2 ≠ 19 + 3 * rd + 2 := by omega
theorem nx_D_apply_85 {rd : Nat}  : 5 + 3 ≠ 19 + 3 * rd := by omega
theorem nx_D_apply_86 {rd : Nat}  : 5 + 3 ≠ 19 + 3 * rd + 1 := by omega
theorem nx_D_apply_87 {rd : Nat}  : 5 + 3 ≠ 19 + 3 * rd + 2 := by omega
theorem nx_D_apply_88 {rd : Nat}  : 5 + 4 ≠ 19 + 3 * rd := by omega
theorem nx_D_apply_89 {rd : Nat}  : 5 + 4 ≠ 19 + 3 * rd + 1 := by omega
theorem nx_D_apply_90 {rd : Nat}  : 5 + 4 ≠ 19 + 3 * rd + 2 := by omega
theorem nx_D_apply_91 {rd : Nat}  : 10 ≠ 19 + 3 * rd := by omega
theorem nx_D_apply_92 {rd : Nat}  : 10 ≠ 19 + 3 * rd + 1 := by omega
theorem nx_D_apply_93 {rd : Nat}  : 10 ≠ 19 + 3 * rd + 2 := by omega
theorem nx_D_apply_94 {rd : Nat}  : 10 + 1 ≠ 19 + 3 * rd := by omega
theorem nx_D_apply_95 {rd : Nat}  : 10 + 1 ≠ 19 + 3 * rd + 1 := by omega
theorem nx_D_apply_96 {rd : Nat}  : 10 + 1 ≠ 19 + 3 * rd + 2 := by omega
theorem nx_D_apply_97 {rd : Nat}  : 10 + 2 ≠ 19 + 3 * rd := by omega
theorem nx_D_apply_98 {rd : Nat}  : 10 + 2 ≠ 19 + 3 * rd + 1 := by omega
theorem nx_D_apply_99 {rd : Nat}  : 10 + 2 ≠ 19 + 3 * rd + 2 := by omega
def rm_D_apply : Room := { frames := 7, cells := 0, slots := 0, locals := 164 }
set_option maxHeartbeats 4000000 in
set_option maxRecDepth 100000 in
theorem c_D_apply (l : Launch) (E : zE) (w0 : zW) (fq : Nat → Option Nat) (r1 r2 r3 r4 : Int → Int) (kt : Nat) (plt nt : Int) (ft : Int → Int) (ra : Nat) (ka : Nat) (pla na : Int) (fa : Int → Int) (rb : Nat) (kb : Nat) (plb nb : Int) (fb : Int → Int) (rd : Nat) (kd : Nat) (pld nd : Int) (fd : Int → Int) (op : Int) (hzn : 73 ≤ zn E) (c0 : w0 0 = .inr (5, [.ref (ad E 1), .ref (ad E 2), .ref (ad E 3), .ref (ad E 5), .ref (ad E 10), .ref (ad E 13), .ref (ad E 16)])) (c1 : w0 1 = zaq E 3 8 fq) (c2 : w0 5 = .inr (4, [.ref (ad E (5 + 1)), .ref (ad E (5 + 2)), .ref (ad E (5 + 3)), .ref (ad E (5 + 4))])) (c3 : w0 (5 + 1) = zar E 30 r1) (c4 : w0 (5 + 2) = zar E 30 r2) (c5 : w0 (5 + 3) = zar E 30 r3) (c6 : w0 (5 + 4) = zar E 30 r4) (c7 : w0 10 = .inr (1, [.ref (zg E (1 + kt)), .int (iI plt), .ref (ad E (10 + 1))])) (c8 : w0 (10 + 1) = .inr (0, [.ref (ad E (10 + 2)), .int (iI nt)])) (c9 : w0 (10 + 2) = zar E 15 ft) (c10 : w0 (19 + 3 * ra) = .inr (1, [.ref (zg E (1 + ka)), .int (iI pla), .ref (ad E (19 + 3 * ra + 1))])) (c11 : w0 (19 + 3 * ra + 1) = .inr (0, [.ref (ad E (19 + 3 * ra + 2)), .int (iI na)])) (c12 : w0 (19 + 3 * ra + 2) = zar E 15 fa) (c13 : w0 (19 + 3 * rb) = .inr (1, [.ref (zg E (1 + kb)), .int (iI plb), .ref (ad E (19 + 3 * rb + 1))])) (c14 : w0 (19 + 3 * rb + 1) = .inr (0, [.ref (ad E (19 + 3 * rb + 2)), .int (iI nb)])) (c15 : w0 (19 + 3 * rb + 2) = zar E 15 fb) (c16 : w0 (19 + 3 * rd) = .inr (1, [.ref (zg E (1 + kd)), .int (iI pld), .ref (ad E (19 + 3 * rd + 1))])) (c17 : w0 (19 + 3 * rd + 1) = .inr (0, [.ref (ad E (19 + 3 * rd + 2)), .int (iI nd)])) (c18 : w0 (19 + 3 * rd + 2) = zar E 15 fd) (hfq : ∀ k : Nat, k < 8 → fq k = some (ad E (19 + 3 * k))) (br1 : bd r1 30 0 9999) (br2 : bd r2 30 0 9999) (br3 : bd r3 30 0 9999) (br4 : bd r4 30 0 9999) (bft : bd ft 15 0 9999) (hkt : kt < 4) (hnt : nt = 0 ∨ nt = 1) (bfa : bd fa 15 0 9999) (hka : ka < 4) (hna : na = 0 ∨ na = 1) (hra : ra < 8) (hpa : 0 ≤ pla ∧ pla ≤ 24) (hva : V fa 15 < Bp 14) (hca : V fa 15 = 0 → na = 0) (hfa : ka ≠ 1 → pla = 0 ∧ na = 0 ∧ V fa 15 = 0) (bfb : bd fb 15 0 9999) (hkb : kb < 4) (hnb : nb = 0 ∨ nb = 1) (hrb : rb < 8) (hpb : 0 ≤ plb ∧ plb ≤ 24) (hvb : V fb 15 < Bp 14) (hcb : V fb 15 = 0 → nb = 0) (hfb : kb ≠ 1 → plb = 0 ∧ nb = 0 ∧ V fb 15 = 0) (bfd : bd fd 15 0 9999) (hkd : kd < 4) (hnd : nd = 0 ∨ nd = 1) (hrd : rd < 8) (hop : 0 ≤ op ∧ op ≤ 5) : zM l y_D_apply ws_D_apply rm_D_apply E [.ref (ad E 0), .int (iI op), .int (iI ((rd : Int))), .int (iI ((ra : Int))), .int (iI ((rb : Int)))] w0 (zQi E w0 (fun z w' => (∃ (r1' : Int → Int) (r2' : Int → Int) (kt' : Nat) (plt' : Int) (nt' : Int) (ft' : Int → Int) (k' : Nat) (p' : Int) (n' : Int) (f' : Int → Int), w' (5 + 1) = zar E 30 r1' ∧ w' (5 + 2) = zar E 30 r2' ∧ w' 10 = .inr (1, [.ref (zg E (1 + kt')), .int (iI plt'), .ref (ad E (10 + 1))]) ∧ w' (10 + 1) = .inr (0, [.ref (ad E (10 + 2)), .int (iI nt')]) ∧ w' (10 + 2) = zar E 15 ft' ∧ w' (19 + 3 * rd) = .inr (1, [.ref (zg E (1 + k')), .int (iI p'), .ref (ad E (19 + 3 * rd + 1))]) ∧ w' (19 + 3 * rd + 1) = .inr (0, [.ref (ad E (19 + 3 * rd + 2)), .int (iI n')]) ∧ w' (19 + 3 * rd + 2) = zar E 15 f' ∧ bd r1' 30 0 9999 ∧ bd r2' 30 0 9999 ∧ bd ft' 15 0 9999 ∧ bd f' 15 0 9999 ∧ (kt' < 4 ∧ (nt' = 0 ∨ nt' = 1) ∧ Nf z kt' plt' nt' (V ft' 15) ∧ CmR op z kt' plt' nt' (V ft' 15) ka pla na (V fa 15) kb plb nb (V fb 15) ∧ StoR z kt' plt' nt' (V ft' 15) kd pld nd (V fd 15) k' p' n' (V f' 15))) ∧ ∀ k, k ≠ (5 + 1) → k ≠ (5 + 2) → k ≠ 10 → k ≠ (10 + 1) → k ≠ (10 + 2) → k ≠ (19 + 3 * rd) → k ≠ (19 + 3 * rd + 1) → k ≠ (19 + 3 * rd + 2) → w' k = w0 k)) := by
  refine z_met (cc := b_D_apply) (maxL := 5) (ret := (some .int)) (by decide +kernel) rfl (Nat.le_of_ble_eq_true rfl) ?_
  intro p e s m below meth cd ls a Qf hQ hC hl hH
  obtain ⟨hF, hr, hlk, hK, hG, hn⟩ := hC
  obtain ⟨hx, hb, hml, hown, hts⟩ := hF
  have hg : ∀ w ∈ GW, w.before a s = true := fun w h => hts w (List.mem_cons_of_mem _ h)
  have hA : ∀ q, s.heap.size ≤ q → va_A (wl E w0) s.heap.size q := fun q h => Or.inr h
  have hl : lv_has ls 5 [(0, .ref (ad E 0)), (1, .int (iI op)), (2, .int (iI ((rd : Int)))), (3, .int (iI ((ra : Int)))), (4, .int (iI ((rb : Int))))] := hl
  have q0lt : 0 < zn E := by omega
  have q1lt : 1 < zn E := by omega
  have q2lt : 5 < zn E := by omega
  have q3lt : 5 + 1 < zn E := by omega
  have q4lt : 5 + 2 < zn E := by omega
  have q5lt : 5 + 3 < zn E := by omega
  have q6lt : 5 + 4 < zn E := by omega
  have q7lt : 10 < zn E := by omega
  have q8lt : 10 + 1 < zn E := by omega
  have q9lt : 10 + 2 < zn E := by omega
  have q10lt : 19 + 3 * ra < zn E := by omega
  have q11lt : 19 + 3 * ra + 1 < zn E := by omega
  have q12lt : 19 + 3 * ra + 2 < zn E := by omega
  have q13lt : 19 + 3 * rb < zn E := by omega
  have q14lt : 19 + 3 * rb + 1 < zn E := by omega
  have q15lt : 19 + 3 * rb + 2 < zn E := by omega
  have q16lt : 19 + 3 * rd < zn E := by omega
  have q17lt : 19 + 3 * rd + 1 < zn E := by omega
  have q18lt : 19 + 3 * rd + 2 < zn E := by omega
  refine lv_iload_n hx hb d_D_apply_0 rfl (lv_at hl 1 rfl) ?_
  refine zv_if_lt (tgt := 31) hx hb d_D_apply_1 rfl (by omega) (fun h1 => absurd h1 (by omega)) (fun h1 => ?_)
  refine lv_iload_n hx hb d_D_apply_4 rfl (lv_at hl 1 rfl) ?_
  refine zv_iconst hx hb d_D_apply_5 ?_
  refine zv_icmp_gt (tgt := 31) hx hb d_D_apply_6 rfl (by omega) (by omega) (fun h2 => absurd h2 (by omega)) (fun h2 => ?_)
  refine lv_iload_n hx hb d_D_apply_9 rfl (lv_at hl 2 rfl) ?_
  refine z_calli (va_runS (As := [.int (iI ((rd : Int)))]) (rest := []) ⟨hx, hb, hml, hown, hts⟩ (c_D_isRegister (l := l) (E := E) (w0 := w0) (r := (rd : Int)) (hr0 := by omega) s.heap.size) (z_cwS 1 hg wm_164 wm_162 wm_1 wm_163 (by decide +kernel) ⟨Nat.le_of_ble_eq_true rfl, Nat.le_of_ble_eq_true rfl⟩) (z_preS hK hG hn hH hA) rfl rfl hl.1 rfl (lv_room (Nat.le_of_ble_eq_true rfl)) d_D_apply_10 ⟨Nat.zero_le _, Nat.zero_le _⟩) hH hA (fun z7 w5 H3 lc4 hH6 p10 => ?_)
  obtain ⟨ew8, p10⟩ := p10
  rw [ew8] at hH6
  replace p10 : (z7 = 1 ∧ 0 ≤ ((rd : Int)) ∧ ((rd : Int)) < 8) ∨ (z7 = 0 ∧ ¬ (0 ≤ ((rd : Int)) ∧ ((rd : Int)) < 8)) := p10
  refine zv_if_eq (tgt := 31) hx hb d_D_apply_13 rfl (by omega) (fun h9 => absurd h9 (by omega)) (fun h9 => ?_)
  refine lv_iload_n hx hb d_D_apply_16 rfl (lv_at hl 3 rfl) ?_
  refine z_calli (va_runS (As := [.int (iI ((ra : Int)))]) (rest := []) ⟨hx, hb, hml, hown, hts⟩ (c_D_isRegister (l := l) (E := E) (w0 := w0) (r := (ra : Int)) (hr0 := by omega) H3.size) (z_cwS 1 hg wm_164 wm_162 wm_1 wm_163 (by decide +kernel) ⟨Nat.le_of_ble_eq_true rfl, Nat.le_of_ble_eq_true rfl⟩) (z_preS hK hG hn hH6 hA) rfl rfl hl.1 rfl (lv_room (Nat.le_of_ble_eq_true rfl)) d_D_apply_17 ⟨Nat.zero_le _, Nat.zero_le _⟩) hH6 hA (fun z14 w12 H10 lc11 hH13 p17 => ?_)
  obtain ⟨ew15, p17⟩ := p17
  rw [ew15] at hH13
  replace p17 : (z14 = 1 ∧ 0 ≤ ((ra : Int)) ∧ ((ra : Int)) < 8) ∨ (z14 = 0 ∧ ¬ (0 ≤ ((ra : Int)) ∧ ((ra : Int)) < 8)) := p17
  refine zv_if_eq (tgt := 31) hx hb d_D_apply_20 rfl (by omega) (fun h16 => absurd h16 (by omega)) (fun h16 => ?_)
  refine lv_iload hx hb d_D_apply_23 (lv_at hl 4 rfl) ?_
  refine z_calli (va_runS (As := [.int (iI ((rb : Int)))]) (rest := []) ⟨hx, hb, hml, hown, hts⟩ (c_D_isRegister (l := l) (E := E) (w0 := w0) (r := (rb : Int)) (hr0 := by omega) H10.size) (z_cwS 1 hg wm_164 wm_162 wm_1 wm_163 (by decide +kernel) ⟨Nat.le_of_ble_eq_true rfl, Nat.le_of_ble_eq_true rfl⟩) (z_preS hK hG hn hH13 hA) rfl rfl hl.1 rfl (lv_room (Nat.le_of_ble_eq_true rfl)) d_D_apply_25 ⟨Nat.zero_le _, Nat.zero_le _⟩) hH13 hA (fun z21 w19 H17 lc18 hH20 p25 => ?_)
  obtain ⟨ew22, p25⟩ := p25
  rw [ew22] at hH20
  replace p25 : (z21 = 1 ∧ 0 ≤ ((rb : Int)) ∧ ((rb : Int)) < 8) ∨ (z21 = 0 ∧ ¬ (0 ≤ ((rb : Int)) ∧ ((rb : Int)) < 8)) := p25
  refine zv_if_ne (tgt := 33) hx hb d_D_apply_28 rfl (by omega) (fun h23 => ?_) (fun h23 => absurd h23 (by omega))
  refine lv_aload_n hx hb d_D_apply_33 rfl (lv_at hl 0 rfl) ?_
  refine lv_iload_n hx hb d_D_apply_34 rfl (lv_at hl 2 rfl) ?_
  refine lv_aload_n hx hb d_D_apply_35 rfl (lv_at hl 0 rfl) ?_
  refine zv_get (C := "ScaledNumeralDesk") (T := TD) (N := 7) hx hb hg uD_in hown hK hH20 q0lt c0 rfl 3 (by decide) (hg _ wm_131) (fun _ h9 => h9) rfl d_D_apply_36 ?_
  refine lv_iload_n hx hb d_D_apply_39 rfl (lv_at hl 1 rfl) ?_
  refine lv_aload_n hx hb d_D_apply_40 rfl (lv_at hl 0 rfl) ?_
  refine zv_get (C := "ScaledNumeralDesk") (T := TD) (N := 7) hx hb hg uD_in hown hK hH20 q0lt c0 rfl 0 (by decide) (hg _ wm_128) (fun _ h9 => h9) rfl d_D_apply_41 ?_
  refine lv_iload_n hx hb d_D_apply_44 rfl (lv_at hl 3 rfl) ?_
  refine zv_aald (i := ra) hx hb hK hH20 q1lt c1 rfl (by omega) (by omega) (hfq ra (by omega)) d_D_apply_45 ?_
  refine lv_aload_n hx hb d_D_apply_46 rfl (lv_at hl 0 rfl) ?_
  refine zv_get (C := "ScaledNumeralDesk") (T := TD) (N := 7) hx hb hg uD_in hown hK hH20 q0lt c0 rfl 0 (by decide) (hg _ wm_128) (fun _ h9 => h9) rfl d_D_apply_47 ?_
  refine lv_iload hx hb d_D_apply_50 (lv_at hl 4 rfl) ?_
  refine zv_aald (i := rb) hx hb hK hH20 q1lt c1 rfl (by omega) (by omega) (hfq rb (by omega)) d_D_apply_52 ?_
  refine lv_aload_n hx hb d_D_apply_53 rfl (lv_at hl 0 rfl) ?_
  refine zv_get (C := "ScaledNumeralDesk") (T := TD) (N := 7) hx hb hg uD_in hown hK hH20 q0lt c0 rfl 4 (by decide) (hg _ wm_132) (fun _ h9 => h9) rfl d_D_apply_54 ?_
  refine z_calli (va_runV (As := [.int (iI op), .ref (ad E (19 + 3 * ra)), .ref (ad E (19 + 3 * rb)), .ref (ad E 10)]) (rest := [.int (iI ((rd : Int))), .ref (ad E 0)]) ⟨hx, hb, hml, hown, hts⟩ (c_B_combine (l := l) (E := E) (w0 := w0) (op := op) (b := 5) (r1 := r1) (r2 := r2) (r3 := r3) (r4 := r4) (q := 19 + 3 * ra) (kd := ka) (pl := pla) (ng := na) (f := fa) (r := 19 + 3 * rb) (ko := kb) (po := plb) (no := nb) (g := fb) (t := 10) (kt := kt) (pt := plt) (nt := nt) (h := ft) (q0lt := q2lt) (q1lt := q3lt) (q2lt := q4lt) (q3lt := q5lt) (q4lt := q6lt) (q5lt := q10lt) (q6lt := q11lt) (q7lt := q12lt) (q8lt := q13lt) (q9lt := q14lt) (q10lt := q15lt) (q11lt := q7lt) (q12lt := q8lt) (q13lt := q9lt) (c0 := c2) (c1 := c3) (c2 := c4) (c3 := c5) (c4 := c6) (c5 := c10) (c6 := c11) (c7 := c12) (c8 := c13) (c9 := c14) (c10 := c15) (c11 := c7) (c12 := c8) (c13 := c9) (br1 := br1) (br2 := br2) (br3 := br3) (br4 := br4) (bf := bfa) (hkd := by omega) (hng := by omega) (hpl := by omega) (vA := by omega) (bg := bfb) (hko := by omega) (hno := by omega) (hpo := by omega) (vB := by omega) (bh := bft) (hkt := by omega) (hnt := by omega) (hqt := by omega) (hrt := by omega) (hbt := by omega) (hop := by omega) H17.size) (z_cwV (C := "ScaledNumeralDesk$Bench") 4 hg wm_376 wm_373 wm_8 wm_374 wm_375 (by decide +kernel) ⟨Nat.le_of_ble_eq_true rfl, Nat.le_of_ble_eq_true rfl⟩) (z_preV (r := ("ScaledNumeralDesk$Bench", TB, 4)) hK hG hn hH20 hA q2lt c2 rfl) rfl rfl hl.1 rfl (lv_room (Nat.le_of_ble_eq_true rfl)) d_D_apply_57 ⟨Nat.zero_le _, Nat.zero_le _⟩) hH20 hA (fun z57 w26 H24 lc25 hH27 p57 => ?_)
  obtain ⟨⟨r_28, r_29, k_30, p_31, n_32, f_33, e34, e35, e36, e37, e38, bd39, bd40, bd41, p57⟩, hg42⟩ := p57
  replace bd39 : bd r_28 30 0 9999 := bd39
  replace bd40 : bd r_29 30 0 9999 := bd40
  replace bd41 : bd f_33 15 0 9999 := bd41
  replace p57 : k_30 < 4 ∧ (n_32 = 0 ∨ n_32 = 1) ∧ Nf z57 k_30 p_31 n_32 (V f_33 15) ∧ CmR op z57 k_30 p_31 n_32 (V f_33 15) ka pla na (V fa 15) kb plb nb (V fb 15) := p57
  have e43 : w26 0 = .inr (5, [.ref (ad E 1), .ref (ad E 2), .ref (ad E 3), .ref (ad E 5), .ref (ad E 10), .ref (ad E 13), .ref (ad E 16)]) := (hg42 0 (nx_D_apply_0 ) (nx_D_apply_1 ) (nx_D_apply_2 ) (nx_D_apply_3 ) (nx_D_apply_4 )).trans c0
  have e44 : w26 1 = zaq E 3 8 fq := (hg42 1 (nx_D_apply_5 ) (nx_D_apply_6 ) (nx_D_apply_7 ) (nx_D_apply_8 ) (nx_D_apply_9 )).trans c1
  have e45 : w26 5 = .inr (4, [.ref (ad E (5 + 1)), .ref (ad E (5 + 2)), .ref (ad E (5 + 3)), .ref (ad E (5 + 4))]) := (hg42 5 (nx_D_apply_10 ) (nx_D_apply_11 ) (nx_D_apply_12 ) (nx_D_apply_13 ) (nx_D_apply_14 )).trans c2
  have e46 : w26 (5 + 3) = zar E 30 r3 := (hg42 (5 + 3) (nx_D_apply_15 ) (nx_D_apply_16 ) (nx_D_apply_17 ) (nx_D_apply_18 ) (nx_D_apply_19 )).trans c5
  have e47 : w26 (5 + 4) = zar E 30 r4 := (hg42 (5 + 4) (nx_D_apply_20 ) (nx_D_apply_21 ) (nx_D_apply_22 ) (nx_D_apply_23 ) (nx_D_apply_24 )).trans c6
  have e48 : w26 (19 + 3 * ra) = .inr (1, [.ref (zg E (1 + ka)), .int (iI pla), .ref (ad E (19 + 3 * ra + 1))]) := (hg42 (19 + 3 * ra) (nx_D_apply_25 ) (nx_D_apply_26 ) (nx_D_apply_27 ) (nx_D_apply_28 ) (nx_D_apply_29 )).trans c10
  have e49 : w26 (19 + 3 * ra + 1) = .inr (0, [.ref (ad E (19 + 3 * ra + 2)), .int (iI na)]) := (hg42 (19 + 3 * ra + 1) (nx_D_apply_30 ) (nx_D_apply_31 ) (nx_D_apply_32 ) (nx_D_apply_33 ) (nx_D_apply_34 )).trans c11
  have e50 : w26 (19 + 3 * ra + 2) = zar E 15 fa := (hg42 (19 + 3 * ra + 2) (nx_D_apply_35 ) (nx_D_apply_36 ) (nx_D_apply_37 ) (nx_D_apply_38 ) (nx_D_apply_39 )).trans c12
  have e51 : w26 (19 + 3 * rb) = .inr (1, [.ref (zg E (1 + kb)), .int (iI plb), .ref (ad E (19 + 3 * rb + 1))]) := (hg42 (19 + 3 * rb) (nx_D_apply_40 ) (nx_D_apply_41 ) (nx_D_apply_42 ) (nx_D_apply_43 ) (nx_D_apply_44 )).trans c13
  have e52 : w26 (19 + 3 * rb + 1) = .inr (0, [.ref (ad E (19 + 3 * rb + 2)), .int (iI nb)]) := (hg42 (19 + 3 * rb + 1) (nx_D_apply_45 ) (nx_D_apply_46 ) (nx_D_apply_47 ) (nx_D_apply_48 ) (nx_D_apply_49 )).trans c14
  have e53 : w26 (19 + 3 * rb + 2) = zar E 15 fb := (hg42 (19 + 3 * rb + 2) (nx_D_apply_50 ) (nx_D_apply_51 ) (nx_D_apply_52 ) (nx_D_apply_53 ) (nx_D_apply_54 )).trans c15
  have e54 : w26 (19 + 3 * rd) = .inr (1, [.ref (zg E (1 + kd)), .int (iI pld), .ref (ad E (19 + 3 * rd + 1))]) := (hg42 (19 + 3 * rd) (nx_D_apply_55 ) (nx_D_apply_56 ) (nx_D_apply_57 ) (nx_D_apply_58 ) (nx_D_apply_59 )).trans c16
  have e55 : w26 (19 + 3 * rd + 1) = .inr (0, [.ref (ad E (19 + 3 * rd + 2)), .int (iI nd)]) := (hg42 (19 + 3 * rd + 1) (nx_D_apply_60 ) (nx_D_apply_61 ) (nx_D_apply_62 ) (nx_D_apply_63 ) (nx_D_apply_64 )).trans c17
  have e56 : w26 (19 + 3 * rd + 2) = zar E 15 fd := (hg42 (19 + 3 * rd + 2) (nx_D_apply_65 ) (nx_D_apply_66 ) (nx_D_apply_67 ) (nx_D_apply_68 ) (nx_D_apply_69 )).trans c18
  have hf57 : ∀ k, k ≠ (5 + 1) → k ≠ (5 + 2) → k ≠ 10 → k ≠ (10 + 1) → k ≠ (10 + 2) → w26 k = w0 k := fun k g0 g1 g2 g3 g4 => hg42 k g0 g1 g2 g3 g4
  have z9 := CmR_z p57.2.2.2
  refine z_calli (va_runV (As := [.int (iI ((rd : Int))), .int (iI z57)]) (rest := []) ⟨hx, hb, hml, hown, hts⟩ (c_D_store (l := l) (E := E) (w0 := w26) (fq := fq) (kt := k_30) (plt := p_31) (nt := n_32) (ft := f_33) (rd := rd) (kd := kd) (pld := pld) (nd := nd) (fd := fd) (an := z57) (hzn := hzn) (c0 := e43) (c1 := e44) (c2 := e36) (c3 := e37) (c4 := e38) (c5 := e54) (c6 := e55) (c7 := e56) (hfq := hfq) (bft := bd41) (hkt := by omega) (hnt := by omega) (bfd := bfd) (hkd := by omega) (hnd := by omega) (hrd := by omega) (han := by omega) H24.size) (z_cwV (C := "ScaledNumeralDesk") 2 hg wm_320 wm_317 wm_1 wm_319 wm_s8 (by decide +kernel) ⟨Nat.le_of_ble_eq_true rfl, Nat.le_of_ble_eq_true rfl⟩) (z_preV (r := ("ScaledNumeralDesk", TD, 7)) hK hG hn hH27 hA q0lt e43 rfl) rfl rfl hl.1 rfl (lv_room (Nat.le_of_ble_eq_true rfl)) d_D_apply_60 ⟨Nat.zero_le _, Nat.zero_le _⟩) hH27 hA (fun z62 w60 H58 lc59 hH61 p60 => ?_)
  obtain ⟨⟨k_63, p_64, n_65, f_66, e67, e68, e69, bd70, p60⟩, hg71⟩ := p60
  replace bd70 : bd f_66 15 0 9999 := bd70
  replace p60 : z62 = z57 ∧ StoR z57 k_30 p_31 n_32 (V f_33 15) kd pld nd (V fd 15) k_63 p_64 n_65 (V f_66 15) := p60
  have e72 : w60 0 = .inr (5, [.ref (ad E 1), .ref (ad E 2), .ref (ad E 3), .ref (ad E 5), .ref (ad E 10), .ref (ad E 13), .ref (ad E 16)]) := (hg71 0 (nx_D_apply_70 ) (nx_D_apply_71 ) (nx_D_apply_72 )).trans e43
  have e73 : w60 1 = zaq E 3 8 fq := (hg71 1 (nx_D_apply_73 ) (nx_D_apply_74 ) (nx_D_apply_75 )).trans e44
  have e74 : w60 5 = .inr (4, [.ref (ad E (5 + 1)), .ref (ad E (5 + 2)), .ref (ad E (5 + 3)), .ref (ad E (5 + 4))]) := (hg71 5 (nx_D_apply_76 ) (nx_D_apply_77 ) (nx_D_apply_78 )).trans e45
  have e75 : w60 (5 + 1) = zar E 30 r_28 := (hg71 (5 + 1) (nx_D_apply_79 ) (nx_D_apply_80 ) (nx_D_apply_81 )).trans e34
  have e76 : w60 (5 + 2) = zar E 30 r_29 := (hg71 (5 + 2) (nx_D_apply_82 ) (nx_D_apply_83 ) (nx_D_apply_84 )).trans e35
  have e77 : w60 (5 + 3) = zar E 30 r3 := (hg71 (5 + 3) (nx_D_apply_85 ) (nx_D_apply_86 ) (nx_D_apply_87 )).trans e46
  have e78 : w60 (5 + 4) = zar E 30 r4 := (hg71 (5 + 4) (nx_D_apply_88 ) (nx_D_apply_89 ) (nx_D_apply_90 )).trans e47
  have e79 : w60 10 = .inr (1, [.ref (zg E (1 + k_30)), .int (iI p_31), .ref (ad E (10 + 1))]) := (hg71 10 (nx_D_apply_91 ) (nx_D_apply_92 ) (nx_D_apply_93 )).trans e36
  have e80 : w60 (10 + 1) = .inr (0, [.ref (ad E (10 + 2)), .int (iI n_32)]) := (hg71 (10 + 1) (nx_D_apply_94 ) (nx_D_apply_95 ) (nx_D_apply_96 )).trans e37
  have e81 : w60 (10 + 2) = zar E 15 f_33 := (hg71 (10 + 2) (nx_D_apply_97 ) (nx_D_apply_98 ) (nx_D_apply_99 )).trans e38
  have hf82 : ∀ k, k ≠ (5 + 1) → k ≠ (5 + 2) → k ≠ 10 → k ≠ (10 + 1) → k ≠ (10 + 2) → k ≠ (19 + 3 * rd) → k ≠ (19 + 3 * rd + 1) → k ≠ (19 + 3 * rd + 2) → w60 k = w0 k := fun k g0 g1 g2 g3 g4 g5 g6 g7 => (hg71 k g5 g6 g7).trans (hf57 k g0 g1 g2 g3 g4)
  rw [hQ]
  exact z_iret hx hb hr hlk hH61 (⟨⟨r_28, r_29, k_30, p_31, n_32, f_33, k_63, p_64, n_65, f_66, e75, e76, e79, e80, e81, e67, e68, e69, bd39, bd40, bd41, bd70, by rw [p60.1]; exact ⟨p57.1, p57.2.1, p57.2.2.1, p57.2.2.2, p60.2⟩⟩, (fun k g0 g1 g2 g3 g4 g5 g6 g7 => hf82 k g0 g1 g2 g3 g4 g5 g6 g7)⟩) d_D_apply_63
theorem nx_D_adjust_0  : 0 ≠ 5 + 1 := by omega
theorem nx_D_adjust_1  : 0 ≠ 5 + 2 := by omega
theorem nx_D_adjust_2  : 0 ≠ 5 + 3 := by omega
theorem nx_D_adjust_3  : 0 ≠ 5 + 4 := by omega
theorem nx_D_adjust_4  : 0 ≠ 10 := by omega
theorem nx_D_adjust_5  : 0 ≠ 10 + 1 := by omega
theorem nx_D_adjust_6  : 0 ≠ 10 + 2 := by omega
theorem nx_D_adjust_7  : 1 ≠ 5 + 1 := by omega
theorem nx_D_adjust_8  : 1 ≠ 5 + 2 := by omega
theorem nx_D_adjust_9  : 1 ≠ 5 + 3 := by omega
theorem nx_D_adjust_10  : 1 ≠ 5 + 4 := by omega
theorem nx_D_adjust_11  : 1 ≠ 10 := by omega
theorem nx_D_adjust_12  : 1 ≠ 10 + 1 := by omega
theorem nx_D_adjust_13  : 1 ≠ 10 + 2 := by omega
theorem nx_D_adjust_14  : 5 ≠ 5 + 1 := by omega
theorem nx_D_adjust_15  : 5 ≠ 5 + 2 := by omega
theorem nx_D_adjust_16  : 5 ≠ 5 + 3 := by omega
theorem nx_D_adjust_17  : 5 ≠ 5 + 4 := by omega
theorem nx_D_adjust_18  : 5 ≠ 10 := by omega
theorem nx_D_adjust_19  : 5 ≠ 10 + 1 := by omega
theorem nx_D_adjust_20  : 5 ≠ 10 + 2 := by omega
theorem nx_D_adjust_21 {ra : Nat}  : 19 + 3 * ra ≠ 5 + 1 := by omega
theorem nx_D_adjust_22 {ra : Nat}  : 19 + 3 * ra ≠ 5 + 2 := by omega
theorem nx_D_adjust_23 {ra : Nat}  : 19 + 3 * ra ≠ 5 + 3 := by omega
theorem nx_D_adjust_24 {ra : Nat}  : 19 + 3 * ra ≠ 5 + 4 := by omega
theorem nx_D_adjust_25 {ra : Nat}  : 19 + 3 * ra ≠ 10 := by omega
theorem nx_D_adjust_26 {ra : Nat}  : 19 + 3 * ra ≠ 10 + 1 := by omega
theorem nx_D_adjust_27 {ra : Nat}  : 19 + 3 * ra ≠ 10 + 2 := by omega
theorem nx_D_adjust_28 {ra : Nat}  : 19 + 3 * ra + 1 ≠ 5 + 1 := by omega
theorem nx_D_adjust_29 {ra : Nat}  : 19 + 3 * ra + 1 ≠ 5 + 2 := by omega
theorem nx_D_adjust_30 {ra : Nat}  : 19 + 3 * ra + 1 ≠ 5 + 3 := by omega
theorem nx_D_adjust_31 {ra : Nat}  : 19 + 3 * ra + 1 ≠ 5 + 4 := by omega
theorem nx_D_adjust_32 {ra : Nat}  : 19 + 3 * ra + 1 ≠ 10 := by omega
theorem nx_D_adjust_33 {ra : Nat}  : 19 + 3 * ra + 1 ≠ 10 + 1 := by omega
theorem nx_D_adjust_34 {ra : Nat}  : 19 + 3 * ra + 1 ≠ 10 + 2 := by omega
theorem nx_D_adjust_35 {ra : Nat}  : 19 + 3 * ra + 2 ≠ 5 + 1 := by omega
theorem nx_D_adjust_36 {ra : Nat}  : 19 + 3 * ra + 2 ≠ 5 + 2 := by omega
theorem nx_D_adjust_37 {ra : Nat}  : 19 + 3 * ra + 2 ≠ 5 + 3 := by omega
theorem nx_D_adjust_38 {ra : Nat}  : 19 + 3 * ra + 2 ≠ 5 + 4 := by omega
theorem nx_D_adjust_39 {ra : Nat}  : 19 + 3 * ra + 2 ≠ 10 := by omega
theorem nx_D_adjust_40 {ra : Nat}  : 19 + 3 * ra + 2 ≠ 10 + 1 := by omega
theorem nx_D_adjust_41 {ra : Nat}  : 19 + 3 * ra + 2 ≠ 10 + 2 := by omega
theorem nx_D_adjust_42 {rd : Nat}  : 19 + 3 * rd ≠ 5 + 1 := by omega
theorem nx_D_adjust_43 {rd : Nat}  : 19 + 3 * rd ≠ 5 + 2 := by omega
theorem nx_D_adjust_44 {rd : Nat}  : 19 + 3 * rd ≠ 5 + 3 := by omega
theorem nx_D_adjust_45 {rd : Nat}  : 19 + 3 * rd ≠ 5 + 4 := by omega
theorem nx_D_adjust_46 {rd : Nat}  : 19 + 3 * rd ≠ 10 := by omega
theorem nx_D_adjust_47 {rd : Nat}  : 19 + 3 * rd ≠ 10 + 1 := by omega
theorem nx_D_adjust_48 {rd : Nat}  : 19 + 3 * rd ≠ 10 + 2 := by omega
theorem nx_D_adjust_49 {rd : Nat}  : 19 + 3 * rd + 1 ≠ 5 + 1 := by omega
theorem nx_D_adjust_50 {rd : Nat}  : 19 + 3 * rd + 1 ≠ 5 + 2 := by omega
theorem nx_D_adjust_51 {rd : Nat}  : 19 + 3 * rd + 1 ≠ 5 + 3 := by omega
theorem nx_D_adjust_52 {rd : Nat}  : 19 + 3 * rd + 1 ≠ 5 + 4 := by omega
theorem nx_D_adjust_53 {rd : Nat}  : 19 + 3 * rd + 1 ≠ 10 := by omega
theorem nx_D_adjust_54 {rd : Nat}  : 19 + 3 * rd + 1 ≠ 10 + 1 := by omega
theorem nx_D_adjust_55 {rd : Nat}  : 19 + 3 * rd + 1 ≠ 10 + 2 := by omega
theorem nx_D_adjust_56 {rd : Nat}  : 19 + 3 * rd + 2 ≠ 5 + 1 := by omega
theorem nx_D_adjust_57 {rd : Nat}  : 19 + 3 * rd + 2 ≠ 5 + 2 := by omega
theorem nx_D_adjust_58 {rd : Nat}  : 19 + 3 * rd + 2 ≠ 5 + 3 := by omega
theorem nx_D_adjust_59 {rd : Nat}  : 19 + 3 * rd + 2 ≠ 5 + 4 := by omega
theorem nx_D_adjust_60 {rd : Nat}  : 19 + 3 * rd + 2 ≠ 10 := by omega
theorem nx_D_adjust_61 {rd : Nat}  : 19 + 3 * rd + 2 ≠ 10 + 1 := by omega
theorem nx_D_adjust_62 {rd : Nat}  : 19 + 3 * rd + 2 ≠ 10 + 2 := by omega
theorem nx_D_adjust_63 {rd : Nat}  : 0 ≠ 19 + 3 * rd := by omega
theorem nx_D_adjust_64 {rd : Nat}  : 0 ≠ 19 + 3 * rd + 1 := by omega
theorem nx_D_adjust_65 {rd : Nat}  : 0 ≠ 19 + 3 * rd + 2 := by omega
theorem nx_D_adjust_66 {rd : Nat}  : 1 ≠ 19 + 3 * rd := by omega
theorem nx_D_adjust_67 {rd : Nat}  : 1 ≠ 19 + 3 * rd + 1 := by omega
theorem nx_D_adjust_68 {rd : Nat}  : 1 ≠ 19 + 3 * rd + 2 := by omega
theorem nx_D_adjust_69 {rd : Nat}  : 5 ≠ 19 + 3 * rd := by omega
theorem nx_D_adjust_70 {rd : Nat}  : 5 ≠ 19 + 3 * rd + 1 := by omega
theorem nx_D_adjust_71 {rd : Nat}  : 5 ≠ 19 + 3 * rd + 2 := by omega
theorem nx_D_adjust_72 {rd : Nat}  : 5 + 1 ≠ 19 + 3 * rd := by omega
theorem nx_D_adjust_73 {rd : Nat}  : 5 + 1 ≠ 19 + 3 * rd + 1 := by omega
theorem nx_D_adjust_74 {rd : Nat}  : 5 + 1 ≠ 19 + 3 * rd + 2 := by omega
theorem nx_D_adjust_75 {rd : Nat}  : 5 + 2 ≠ 19 + 3 * rd := by omega
theorem nx_D_adjust_76 {rd : Nat}  : 5 + 2 ≠ 19 + 3 * rd + 1 := by omega
theorem nx_D_adjust_77 {rd : Nat}  : 5 + 2 ≠ 19 + 3 * rd + 2 := by omega
theorem nx_D_adjust_78 {rd : Nat}  : 5 + 3 ≠ 19 + 3 * rd := by omega
theorem nx_D_adjust_79 {rd : Nat}  : 5 + 3 ≠ 19 + 3 * rd + 1 := by omega
theorem nx_D_adjust_80 {rd : Nat}  : 5 + 3 ≠ 19 + 3 * rd + 2 := by omega
theorem nx_D_adjust_81 {rd : Nat}  : 5 + 4 ≠ 19 + 3 * rd := by omega
theorem nx_D_adjust_82 {rd : Nat}  : 5 + 4 ≠ 19 + 3 * rd + 1 := by omega
theorem nx_D_adjust_83 {rd : Nat}  : 5 + 4 ≠ 19 + 3 * rd + 2 := by omega
theorem nx_D_adjust_84 {rd : Nat}  : 10 ≠ 19 + 3 * rd := by omega
theorem nx_D_adjust_85 {rd : Nat}  : 10 ≠ 19 + 3 * rd + 1 := by omega
theorem nx_D_adjust_86 {rd : Nat}  : 10 ≠ 19 + 3 * rd + 2 := by omega
theorem nx_D_adjust_87 {rd : Nat}  : 10 + 1 ≠ 19 + 3 * rd := by omega
theorem nx_D_adjust_88 {rd : Nat}  : 10 + 1 ≠ 19 + 3 * rd + 1 := by omega
theorem nx_D_adjust_89 {rd : Nat}  : 10 + 1 ≠ 19 + 3 * rd + 2 := by omega
theorem nx_D_adjust_90 {rd : Nat}  : 10 + 2 ≠ 19 + 3 * rd := by omega
theorem nx_D_adjust_91 {rd : Nat}  : 10 + 2 ≠ 19 + 3 * rd + 1 := by omega
theorem nx_D_adjust_92 {rd : Nat}  : 10 + 2 ≠ 19 + 3 * rd + 2 := by omega
def rm_D_adjust : Room := { frames := 7, cells := 0, slots := 0, locals := 152 }
set_option maxHeartbeats 4000000 in
set_option maxRecDepth 100000 in
theorem c_D_adjust (l : Launch) (E : zE) (w0 : zW) (fq : Nat → Option Nat) (r1 r2 r3 r4 : Int → Int) (kt : Nat) (plt nt : Int) (ft : Int → Int) (ra : Nat) (ka : Nat) (pla na : Int) (fa : Int → Int) (rd : Nat) (kd : Nat) (pld nd : Int) (fd : Int → Int) (op n0 : Int) (hzn : 73 ≤ zn E) (c0 : w0 0 = .inr (5, [.ref (ad E 1), .ref (ad E 2), .ref (ad E 3), .ref (ad E 5), .ref (ad E 10), .ref (ad E 13), .ref (ad E 16)])) (c1 : w0 1 = zaq E 3 8 fq) (c2 : w0 5 = .inr (4, [.ref (ad E (5 + 1)), .ref (ad E (5 + 2)), .ref (ad E (5 + 3)), .ref (ad E (5 + 4))])) (c3 : w0 (5 + 1) = zar E 30 r1) (c4 : w0 (5 + 2) = zar E 30 r2) (c5 : w0 (5 + 3) = zar E 30 r3) (c6 : w0 (5 + 4) = zar E 30 r4) (c7 : w0 10 = .inr (1, [.ref (zg E (1 + kt)), .int (iI plt), .ref (ad E (10 + 1))])) (c8 : w0 (10 + 1) = .inr (0, [.ref (ad E (10 + 2)), .int (iI nt)])) (c9 : w0 (10 + 2) = zar E 15 ft) (c10 : w0 (19 + 3 * ra) = .inr (1, [.ref (zg E (1 + ka)), .int (iI pla), .ref (ad E (19 + 3 * ra + 1))])) (c11 : w0 (19 + 3 * ra + 1) = .inr (0, [.ref (ad E (19 + 3 * ra + 2)), .int (iI na)])) (c12 : w0 (19 + 3 * ra + 2) = zar E 15 fa) (c13 : w0 (19 + 3 * rd) = .inr (1, [.ref (zg E (1 + kd)), .int (iI pld), .ref (ad E (19 + 3 * rd + 1))])) (c14 : w0 (19 + 3 * rd + 1) = .inr (0, [.ref (ad E (19 + 3 * rd + 2)), .int (iI nd)])) (c15 : w0 (19 + 3 * rd + 2) = zar E 15 fd) (hfq : ∀ k : Nat, k < 8 → fq k = some (ad E (19 + 3 * k))) (br1 : bd r1 30 0 9999) (br2 : bd r2 30 0 9999) (br3 : bd r3 30 0 9999) (br4 : bd r4 30 0 9999) (bft : bd ft 15 0 9999) (hkt : kt < 4) (hnt : nt = 0 ∨ nt = 1) (bfa : bd fa 15 0 9999) (hka : ka < 4) (hna : na = 0 ∨ na = 1) (hra : ra < 8) (hpa : 0 ≤ pla ∧ pla ≤ 24) (hva : V fa 15 < Bp 14) (hca : V fa 15 = 0 → na = 0) (hfa : ka ≠ 1 → pla = 0 ∧ na = 0 ∧ V fa 15 = 0) (bfd : bd fd 15 0 9999) (hkd : kd < 4) (hnd : nd = 0 ∨ nd = 1) (hrd : rd < 8) (hop : 0 ≤ op ∧ op ≤ 6) (hn0 : zr n0) : zM l y_D_adjust ws_D_adjust rm_D_adjust E [.ref (ad E 0), .int (iI op), .int (iI ((rd : Int))), .int (iI ((ra : Int))), .int (iI n0)] w0 (zQi E w0 (fun z w' => (∃ (r1' : Int → Int) (r2' : Int → Int) (r3' : Int → Int) (r4' : Int → Int) (kt' : Nat) (plt' : Int) (nt' : Int) (ft' : Int → Int) (k' : Nat) (p' : Int) (n' : Int) (f' : Int → Int), w' (5 + 1) = zar E 30 r1' ∧ w' (5 + 2) = zar E 30 r2' ∧ w' (5 + 3) = zar E 30 r3' ∧ w' (5 + 4) = zar E 30 r4' ∧ w' 10 = .inr (1, [.ref (zg E (1 + kt')), .int (iI plt'), .ref (ad E (10 + 1))]) ∧ w' (10 + 1) = .inr (0, [.ref (ad E (10 + 2)), .int (iI nt')]) ∧ w' (10 + 2) = zar E 15 ft' ∧ w' (19 + 3 * rd) = .inr (1, [.ref (zg E (1 + k')), .int (iI p'), .ref (ad E (19 + 3 * rd + 1))]) ∧ w' (19 + 3 * rd + 1) = .inr (0, [.ref (ad E (19 + 3 * rd + 2)), .int (iI n')]) ∧ w' (19 + 3 * rd + 2) = zar E 15 f' ∧ bd r1' 30 0 9999 ∧ bd r2' 30 0 9999 ∧ bd r3' 30 0 9999 ∧ bd r4' 30 0 9999 ∧ bd ft' 15 0 9999 ∧ bd f' 15 0 9999 ∧ (kt' < 4 ∧ (nt' = 0 ∨ nt' = 1) ∧ Nf z kt' plt' nt' (V ft' 15) ∧ AlR op (clm n0) z kt' plt' nt' (V ft' 15) ka pla na (V fa 15) ∧ StoR z kt' plt' nt' (V ft' 15) kd pld nd (V fd 15) k' p' n' (V f' 15))) ∧ ∀ k, k ≠ (5 + 1) → k ≠ (5 + 2) → k ≠ (5 + 3) → k ≠ (5 + 4) → k ≠ 10 → k ≠ (10 + 1) → k ≠ (10 + 2) → k ≠ (19 + 3 * rd) → k ≠ (19 + 3 * rd + 1) → k ≠ (19 + 3 * rd + 2) → w' k = w0 k)) := by
  refine z_met (cc := b_D_adjust) (maxL := 5) (ret := (some .int)) (by decide +kernel) rfl (Nat.le_of_ble_eq_true rfl) ?_
  intro p e s m below meth cd ls a Qf hQ hC hl hH
  obtain ⟨hF, hr, hlk, hK, hG, hn⟩ := hC
  obtain ⟨hx, hb, hml, hown, hts⟩ := hF
  have hg : ∀ w ∈ GW, w.before a s = true := fun w h => hts w (List.mem_cons_of_mem _ h)
  have hA : ∀ q, s.heap.size ≤ q → va_A (wl E w0) s.heap.size q := fun q h => Or.inr h
  have hl : lv_has ls 5 [(0, .ref (ad E 0)), (1, .int (iI op)), (2, .int (iI ((rd : Int)))), (3, .int (iI ((ra : Int)))), (4, .int (iI n0))] := hl
  have q0lt : 0 < zn E := by omega
  have q1lt : 1 < zn E := by omega
  have q2lt : 5 < zn E := by omega
  have q3lt : 5 + 1 < zn E := by omega
  have q4lt : 5 + 2 < zn E := by omega
  have q5lt : 5 + 3 < zn E := by omega
  have q6lt : 5 + 4 < zn E := by omega
  have q7lt : 10 < zn E := by omega
  have q8lt : 10 + 1 < zn E := by omega
  have q9lt : 10 + 2 < zn E := by omega
  have q10lt : 19 + 3 * ra < zn E := by omega
  have q11lt : 19 + 3 * ra + 1 < zn E := by omega
  have q12lt : 19 + 3 * ra + 2 < zn E := by omega
  have q13lt : 19 + 3 * rd < zn E := by omega
  have q14lt : 19 + 3 * rd + 1 < zn E := by omega
  have q15lt : 19 + 3 * rd + 2 < zn E := by omega
  refine lv_iload_n hx hb d_D_adjust_0 rfl (lv_at hl 1 rfl) ?_
  refine zv_if_lt (tgt := 24) hx hb d_D_adjust_1 rfl (by omega) (fun h1 => absurd h1 (by omega)) (fun h1 => ?_)
  refine lv_iload_n hx hb d_D_adjust_4 rfl (lv_at hl 1 rfl) ?_
  refine zv_bipush hx hb d_D_adjust_5 rfl ?_
  refine zv_icmp_gt (tgt := 24) hx hb d_D_adjust_7 rfl (by omega) (by omega) (fun h2 => absurd h2 (by omega)) (fun h2 => ?_)
  refine lv_iload_n hx hb d_D_adjust_10 rfl (lv_at hl 2 rfl) ?_
  refine z_calli (va_runS (As := [.int (iI ((rd : Int)))]) (rest := []) ⟨hx, hb, hml, hown, hts⟩ (c_D_isRegister (l := l) (E := E) (w0 := w0) (r := (rd : Int)) (hr0 := by omega) s.heap.size) (z_cwS 1 hg wm_164 wm_162 wm_1 wm_163 (by decide +kernel) ⟨Nat.le_of_ble_eq_true rfl, Nat.le_of_ble_eq_true rfl⟩) (z_preS hK hG hn hH hA) rfl rfl hl.1 rfl (lv_room (Nat.le_of_ble_eq_true rfl)) d_D_adjust_11 ⟨Nat.zero_le _, Nat.zero_le _⟩) hH hA (fun z7 w5 H3 lc4 hH6 p11 => ?_)
  obtain ⟨ew8, p11⟩ := p11
  rw [ew8] at hH6
  replace p11 : (z7 = 1 ∧ 0 ≤ ((rd : Int)) ∧ ((rd : Int)) < 8) ∨ (z7 = 0 ∧ ¬ (0 ≤ ((rd : Int)) ∧ ((rd : Int)) < 8)) := p11
  refine zv_if_eq (tgt := 24) hx hb d_D_adjust_14 rfl (by omega) (fun h9 => absurd h9 (by omega)) (fun h9 => ?_)
  refine lv_iload_n hx hb d_D_adjust_17 rfl (lv_at hl 3 rfl) ?_
  refine z_calli (va_runS (As := [.int (iI ((ra : Int)))]) (rest := []) ⟨hx, hb, hml, hown, hts⟩ (c_D_isRegister (l := l) (E := E) (w0 := w0) (r := (ra : Int)) (hr0 := by omega) H3.size) (z_cwS 1 hg wm_164 wm_162 wm_1 wm_163 (by decide +kernel) ⟨Nat.le_of_ble_eq_true rfl, Nat.le_of_ble_eq_true rfl⟩) (z_preS hK hG hn hH6 hA) rfl rfl hl.1 rfl (lv_room (Nat.le_of_ble_eq_true rfl)) d_D_adjust_18 ⟨Nat.zero_le _, Nat.zero_le _⟩) hH6 hA (fun z14 w12 H10 lc11 hH13 p18 => ?_)
  obtain ⟨ew15, p18⟩ := p18
  rw [ew15] at hH13
  replace p18 : (z14 = 1 ∧ 0 ≤ ((ra : Int)) ∧ ((ra : Int)) < 8) ∨ (z14 = 0 ∧ ¬ (0 ≤ ((ra : Int)) ∧ ((ra : Int)) < 8)) := p18
  refine zv_if_ne (tgt := 26) hx hb d_D_adjust_21 rfl (by omega) (fun h16 => ?_) (fun h16 => absurd h16 (by omega))
  refine lv_aload_n hx hb d_D_adjust_26 rfl (lv_at hl 0 rfl) ?_
  refine lv_iload_n hx hb d_D_adjust_27 rfl (lv_at hl 2 rfl) ?_
  refine lv_aload_n hx hb d_D_adjust_28 rfl (lv_at hl 0 rfl) ?_
  refine zv_get (C := "ScaledNumeralDesk") (T := TD) (N := 7) hx hb hg uD_in hown hK hH13 q0lt c0 rfl 3 (by decide) (hg _ wm_131) (fun _ h9 => h9) rfl d_D_adjust_29 ?_
  refine lv_iload_n hx hb d_D_adjust_32 rfl (lv_at hl 1 rfl) ?_
  refine lv_aload_n hx hb d_D_adjust_33 rfl (lv_at hl 0 rfl) ?_
  refine zv_get (C := "ScaledNumeralDesk") (T := TD) (N := 7) hx hb hg uD_in hown hK hH13 q0lt c0 rfl 0 (by decide) (hg _ wm_128) (fun _ h9 => h9) rfl d_D_adjust_34 ?_
  refine lv_iload_n hx hb d_D_adjust_37 rfl (lv_at hl 3 rfl) ?_
  refine zv_aald (i := ra) hx hb hK hH13 q1lt c1 rfl (by omega) (by omega) (hfq ra (by omega)) d_D_adjust_38 ?_
  refine lv_iload hx hb d_D_adjust_39 (lv_at hl 4 rfl) ?_
  refine lv_aload_n hx hb d_D_adjust_41 rfl (lv_at hl 0 rfl) ?_
  refine zv_get (C := "ScaledNumeralDesk") (T := TD) (N := 7) hx hb hg uD_in hown hK hH13 q0lt c0 rfl 4 (by decide) (hg _ wm_132) (fun _ h9 => h9) rfl d_D_adjust_42 ?_
  refine z_calli (va_runV (As := [.int (iI op), .ref (ad E (19 + 3 * ra)), .int (iI n0), .ref (ad E 10)]) (rest := [.int (iI ((rd : Int))), .ref (ad E 0)]) ⟨hx, hb, hml, hown, hts⟩ (c_B_alter (l := l) (E := E) (w0 := w0) (op := op) (n0 := n0) (b := 5) (r1 := r1) (r2 := r2) (r3 := r3) (r4 := r4) (q := 19 + 3 * ra) (kd := ka) (pl := pla) (ng := na) (f := fa) (t := 10) (kt := kt) (pt := plt) (nt := nt) (h := ft) (q0lt := q2lt) (q1lt := q3lt) (q2lt := q4lt) (q3lt := q5lt) (q4lt := q6lt) (q5lt := q10lt) (q6lt := q11lt) (q7lt := q12lt) (q8lt := q7lt) (q9lt := q8lt) (q10lt := q9lt) (c0 := c2) (c1 := c3) (c2 := c4) (c3 := c5) (c4 := c6) (c5 := c10) (c6 := c11) (c7 := c12) (c8 := c7) (c9 := c8) (c10 := c9) (br1 := br1) (br2 := br2) (br3 := br3) (br4 := br4) (bf := bfa) (hkd := by omega) (hng := by omega) (hpl := by omega) (vA := by omega) (bh := bft) (hkt := by omega) (hnt := by omega) (hqt := by omega) (hbt := by omega) (hop := by omega) (hn0 := by omega) (hnf := hfa) H10.size) (z_cwV (C := "ScaledNumeralDesk$Bench") 4 hg wm_518 wm_515 wm_8 wm_516 wm_517 (by decide +kernel) ⟨Nat.le_of_ble_eq_true rfl, Nat.le_of_ble_eq_true rfl⟩) (z_preV (r := ("ScaledNumeralDesk$Bench", TB, 4)) hK hG hn hH13 hA q2lt c2 rfl) rfl rfl hl.1 rfl (lv_room (Nat.le_of_ble_eq_true rfl)) d_D_adjust_45 ⟨Nat.zero_le _, Nat.zero_le _⟩) hH13 hA (fun z45 w19 H17 lc18 hH20 p45 => ?_)
  obtain ⟨⟨r_21, r_22, r_23, r_24, k_25, p_26, n_27, f_28, e29, e30, e31, e32, e33, e34, e35, bd36, bd37, bd38, bd39, bd40, p45⟩, hg41⟩ := p45
  replace bd36 : bd r_21 30 0 9999 := bd36
  replace bd37 : bd r_22 30 0 9999 := bd37
  replace bd38 : bd r_23 30 0 9999 := bd38
  replace bd39 : bd r_24 30 0 9999 := bd39
  replace bd40 : bd f_28 15 0 9999 := bd40
  replace p45 : k_25 < 4 ∧ (n_27 = 0 ∨ n_27 = 1) ∧ Nf z45 k_25 p_26 n_27 (V f_28 15) ∧ AlR op (clm n0) z45 k_25 p_26 n_27 (V f_28 15) ka pla na (V fa 15) := p45
  have e42 : w19 0 = .inr (5, [.ref (ad E 1), .ref (ad E 2), .ref (ad E 3), .ref (ad E 5), .ref (ad E 10), .ref (ad E 13), .ref (ad E 16)]) := (hg41 0 (nx_D_adjust_0 ) (nx_D_adjust_1 ) (nx_D_adjust_2 ) (nx_D_adjust_3 ) (nx_D_adjust_4 ) (nx_D_adjust_5 ) (nx_D_adjust_6 )).trans c0
  have e43 : w19 1 = zaq E 3 8 fq := (hg41 1 (nx_D_adjust_7 ) (nx_D_adjust_8 ) (nx_D_adjust_9 ) (nx_D_adjust_10 ) (nx_D_adjust_11 ) (nx_D_adjust_12 ) (nx_D_adjust_13 )).trans c1
  have e44 : w19 5 = .inr (4, [.ref (ad E (5 + 1)), .ref (ad E (5 + 2)), .ref (ad E (5 + 3)), .ref (ad E (5 + 4))]) := (hg41 5 (nx_D_adjust_14 ) (nx_D_adjust_15 ) (nx_D_adjust_16 ) (nx_D_adjust_17 ) (nx_D_adjust_18 ) (nx_D_adjust_19 ) (nx_D_adjust_20 )).trans c2
  have e45 : w19 (19 + 3 * ra) = .inr (1, [.ref (zg E (1 + ka)), .int (iI pla), .ref (ad E (19 + 3 * ra + 1))]) := (hg41 (19 + 3 * ra) (nx_D_adjust_21 ) (nx_D_adjust_22 ) (nx_D_adjust_23 ) (nx_D_adjust_24 ) (nx_D_adjust_25 ) (nx_D_adjust_26 ) (nx_D_adjust_27 )).trans c10
  have e46 : w19 (19 + 3 * ra + 1) = .inr (0, [.ref (ad E (19 + 3 * ra + 2)), .int (iI na)]) := (hg41 (19 + 3 * ra + 1) (nx_D_adjust_28 ) (nx_D_adjust_29 ) (nx_D_adjust_30 ) (nx_D_adjust_31 ) (nx_D_adjust_32 ) (nx_D_adjust_33 ) (nx_D_adjust_34 )).trans c11
  have e47 : w19 (19 + 3 * ra + 2) = zar E 15 fa := (hg41 (19 + 3 * ra + 2) (nx_D_adjust_35 ) (nx_D_adjust_36 ) (nx_D_adjust_37 ) (nx_D_adjust_38 ) (nx_D_adjust_39 ) (nx_D_adjust_40 ) (nx_D_adjust_41 )).trans c12
  have e48 : w19 (19 + 3 * rd) = .inr (1, [.ref (zg E (1 + kd)), .int (iI pld), .ref (ad E (19 + 3 * rd + 1))]) := (hg41 (19 + 3 * rd) (nx_D_adjust_42 ) (nx_D_adjust_43 ) (nx_D_adjust_44 ) (nx_D_adjust_45 ) (nx_D_adjust_46 ) (nx_D_adjust_47 ) (nx_D_adjust_48 )).trans c13
  have e49 : w19 (19 + 3 * rd + 1) = .inr (0, [.ref (ad E (19 + 3 * rd + 2)), .int (iI nd)]) := (hg41 (19 + 3 * rd + 1) (nx_D_adjust_49 ) (nx_D_adjust_50 ) (nx_D_adjust_51 ) (nx_D_adjust_52 ) (nx_D_adjust_53 ) (nx_D_adjust_54 ) (nx_D_adjust_55 )).trans c14
  have e50 : w19 (19 + 3 * rd + 2) = zar E 15 fd := (hg41 (19 + 3 * rd + 2) (nx_D_adjust_56 ) (nx_D_adjust_57 ) (nx_D_adjust_58 ) (nx_D_adjust_59 ) (nx_D_adjust_60 ) (nx_D_adjust_61 ) (nx_D_adjust_62 )).trans c15
  have hf51 : ∀ k, k ≠ (5 + 1) → k ≠ (5 + 2) → k ≠ (5 + 3) → k ≠ (5 + 4) → k ≠ 10 → k ≠ (10 + 1) → k ≠ (10 + 2) → w19 k = w0 k := fun k g0 g1 g2 g3 g4 g5 g6 => hg41 k g0 g1 g2 g3 g4 g5 g6
  have z9 := AlR_z p45.2.2.2
  refine z_calli (va_runV (As := [.int (iI ((rd : Int))), .int (iI z45)]) (rest := []) ⟨hx, hb, hml, hown, hts⟩ (c_D_store (l := l) (E := E) (w0 := w19) (fq := fq) (kt := k_25) (plt := p_26) (nt := n_27) (ft := f_28) (rd := rd) (kd := kd) (pld := pld) (nd := nd) (fd := fd) (an := z45) (hzn := hzn) (c0 := e42) (c1 := e43) (c2 := e33) (c3 := e34) (c4 := e35) (c5 := e48) (c6 := e49) (c7 := e50) (hfq := hfq) (bft := bd40) (hkt := by omega) (hnt := by omega) (bfd := bfd) (hkd := by omega) (hnd := by omega) (hrd := by omega) (han := by omega) H17.size) (z_cwV (C := "ScaledNumeralDesk") 2 hg wm_320 wm_317 wm_1 wm_319 wm_s8 (by decide +kernel) ⟨Nat.le_of_ble_eq_true rfl, Nat.le_of_ble_eq_true rfl⟩) (z_preV (r := ("ScaledNumeralDesk", TD, 7)) hK hG hn hH20 hA q0lt e42 rfl) rfl rfl hl.1 rfl (lv_room (Nat.le_of_ble_eq_true rfl)) d_D_adjust_48 ⟨Nat.zero_le _, Nat.zero_le _⟩) hH20 hA (fun z56 w54 H52 lc53 hH55 p48 => ?_)
  obtain ⟨⟨k_57, p_58, n_59, f_60, e61, e62, e63, bd64, p48⟩, hg65⟩ := p48
  replace bd64 : bd f_60 15 0 9999 := bd64
  replace p48 : z56 = z45 ∧ StoR z45 k_25 p_26 n_27 (V f_28 15) kd pld nd (V fd 15) k_57 p_58 n_59 (V f_60 15) := p48
  have e66 : w54 0 = .inr (5, [.ref (ad E 1), .ref (ad E 2), .ref (ad E 3), .ref (ad E 5), .ref (ad E 10), .ref (ad E 13), .ref (ad E 16)]) := (hg65 0 (nx_D_adjust_63 ) (nx_D_adjust_64 ) (nx_D_adjust_65 )).trans e42
  have e67 : w54 1 = zaq E 3 8 fq := (hg65 1 (nx_D_adjust_66 ) (nx_D_adjust_67 ) (nx_D_adjust_68 )).trans e43
  have e68 : w54 5 = .inr (4, [.ref (ad E (5 + 1)), .ref (ad E (5 + 2)), .ref (ad E (5 + 3)), .ref (ad E (5 + 4))]) := (hg65 5 (nx_D_adjust_69 ) (nx_D_adjust_70 ) (nx_D_adjust_71 )).trans e44
  have e69 : w54 (5 + 1) = zar E 30 r_21 := (hg65 (5 + 1) (nx_D_adjust_72 ) (nx_D_adjust_73 ) (nx_D_adjust_74 )).trans e29
  have e70 : w54 (5 + 2) = zar E 30 r_22 := (hg65 (5 + 2) (nx_D_adjust_75 ) (nx_D_adjust_76 ) (nx_D_adjust_77 )).trans e30
  have e71 : w54 (5 + 3) = zar E 30 r_23 := (hg65 (5 + 3) (nx_D_adjust_78 ) (nx_D_adjust_79 ) (nx_D_adjust_80 )).trans e31
  have e72 : w54 (5 + 4) = zar E 30 r_24 := (hg65 (5 + 4) (nx_D_adjust_81 ) (nx_D_adjust_82 ) (nx_D_adjust_83 )).trans e32
  have e73 : w54 10 = .inr (1, [.ref (zg E (1 + k_25)), .int (iI p_26), .ref (ad E (10 + 1))]) := (hg65 10 (nx_D_adjust_84 ) (nx_D_adjust_85 ) (nx_D_adjust_86 )).trans e33
  have e74 : w54 (10 + 1) = .inr (0, [.ref (ad E (10 + 2)), .int (iI n_27)]) := (hg65 (10 + 1) (nx_D_adjust_87 ) (nx_D_adjust_88 ) (nx_D_adjust_89 )).trans e34
  have e75 : w54 (10 + 2) = zar E 15 f_28 := (hg65 (10 + 2) (nx_D_adjust_90 ) (nx_D_adjust_91 ) (nx_D_adjust_92 )).trans e35
  have hf76 : ∀ k, k ≠ (5 + 1) → k ≠ (5 + 2) → k ≠ (5 + 3) → k ≠ (5 + 4) → k ≠ 10 → k ≠ (10 + 1) → k ≠ (10 + 2) → k ≠ (19 + 3 * rd) → k ≠ (19 + 3 * rd + 1) → k ≠ (19 + 3 * rd + 2) → w54 k = w0 k := fun k g0 g1 g2 g3 g4 g5 g6 g7 g8 g9 => (hg65 k g7 g8 g9).trans (hf51 k g0 g1 g2 g3 g4 g5 g6)
  rw [hQ]
  exact z_iret hx hb hr hlk hH55 (⟨⟨r_21, r_22, r_23, r_24, k_25, p_26, n_27, f_28, k_57, p_58, n_59, f_60, e69, e70, e71, e72, e73, e74, e75, e61, e62, e63, bd36, bd37, bd38, bd39, bd40, bd64, by rw [p48.1]; exact ⟨p45.1, p45.2.1, p45.2.2.1, p45.2.2.2, p48.2⟩⟩, (fun k g0 g1 g2 g3 g4 g5 g6 g7 g8 g9 => hf76 k g0 g1 g2 g3 g4 g5 g6 g7 g8 g9)⟩) d_D_adjust_51
theorem nx_D_fit_0  : 0 ≠ 10 := by omega
theorem nx_D_fit_1  : 0 ≠ 10 + 1 := by omega
theorem nx_D_fit_2  : 0 ≠ 10 + 2 := by omega
theorem nx_D_fit_3  : 1 ≠ 10 := by omega
theorem nx_D_fit_4  : 1 ≠ 10 + 1 := by omega
theorem nx_D_fit_5  : 1 ≠ 10 + 2 := by omega
theorem nx_D_fit_6 {ra : Nat}  : 19 + 3 * ra ≠ 10 := by omega
theorem nx_D_fit_7 {ra : Nat}  : 19 + 3 * ra ≠ 10 + 1 := by omega
theorem nx_D_fit_8 {ra : Nat}  : 19 + 3 * ra ≠ 10 + 2 := by omega
theorem nx_D_fit_9 {ra : Nat}  : 19 + 3 * ra + 1 ≠ 10 := by omega
theorem nx_D_fit_10 {ra : Nat}  : 19 + 3 * ra + 1 ≠ 10 + 1 := by omega
theorem nx_D_fit_11 {ra : Nat}  : 19 + 3 * ra + 1 ≠ 10 + 2 := by omega
theorem nx_D_fit_12 {ra : Nat}  : 19 + 3 * ra + 2 ≠ 10 := by omega
theorem nx_D_fit_13 {ra : Nat}  : 19 + 3 * ra + 2 ≠ 10 + 1 := by omega
theorem nx_D_fit_14 {ra : Nat}  : 19 + 3 * ra + 2 ≠ 10 + 2 := by omega
theorem nx_D_fit_15 {ra : Nat}  : 0 ≠ 19 + 3 * ra := by omega
theorem nx_D_fit_16 {ra : Nat}  : 0 ≠ 19 + 3 * ra + 1 := by omega
theorem nx_D_fit_17 {ra : Nat}  : 0 ≠ 19 + 3 * ra + 2 := by omega
theorem nx_D_fit_18 {ra : Nat}  : 1 ≠ 19 + 3 * ra := by omega
theorem nx_D_fit_19 {ra : Nat}  : 1 ≠ 19 + 3 * ra + 1 := by omega
theorem nx_D_fit_20 {ra : Nat}  : 1 ≠ 19 + 3 * ra + 2 := by omega
theorem nx_D_fit_21 {ra : Nat}  : 10 ≠ 19 + 3 * ra := by omega
theorem nx_D_fit_22 {ra : Nat}  : 10 ≠ 19 + 3 * ra + 1 := by omega
theorem nx_D_fit_23 {ra : Nat}  : 10 ≠ 19 + 3 * ra + 2 := by omega
theorem nx_D_fit_24 {ra : Nat}  : 10 + 1 ≠ 19 + 3 * ra := by omega
theorem nx_D_fit_25 {ra : Nat}  : 10 + 1 ≠ 19 + 3 * ra + 1 := by omega
theorem nx_D_fit_26 {ra : Nat}  : 10 + 1 ≠ 19 + 3 * ra + 2 := by omega
theorem nx_D_fit_27 {ra : Nat}  : 10 + 2 ≠ 19 + 3 * ra := by omega
theorem nx_D_fit_28 {ra : Nat}  : 10 + 2 ≠ 19 + 3 * ra + 1 := by omega
theorem nx_D_fit_29 {ra : Nat}  : 10 + 2 ≠ 19 + 3 * ra + 2 := by omega
def rm_D_fit : Room := { frames := 5, cells := 0, slots := 0, locals := 104 }
set_option maxHeartbeats 4000000 in
set_option maxRecDepth 100000 in
theorem c_D_fit (l : Launch) (E : zE) (w0 : zW) (fq : Nat → Option Nat) (kt : Nat) (plt nt : Int) (ft : Int → Int) (ra : Nat) (ka : Nat) (pla na : Int) (fa : Int → Int) (pr sc : Int) (hzn : 73 ≤ zn E) (c0 : w0 0 = .inr (5, [.ref (ad E 1), .ref (ad E 2), .ref (ad E 3), .ref (ad E 5), .ref (ad E 10), .ref (ad E 13), .ref (ad E 16)])) (c1 : w0 1 = zaq E 3 8 fq) (c2 : w0 10 = .inr (1, [.ref (zg E (1 + kt)), .int (iI plt), .ref (ad E (10 + 1))])) (c3 : w0 (10 + 1) = .inr (0, [.ref (ad E (10 + 2)), .int (iI nt)])) (c4 : w0 (10 + 2) = zar E 15 ft) (c5 : w0 (19 + 3 * ra) = .inr (1, [.ref (zg E (1 + ka)), .int (iI pla), .ref (ad E (19 + 3 * ra + 1))])) (c6 : w0 (19 + 3 * ra + 1) = .inr (0, [.ref (ad E (19 + 3 * ra + 2)), .int (iI na)])) (c7 : w0 (19 + 3 * ra + 2) = zar E 15 fa) (hfq : ∀ k : Nat, k < 8 → fq k = some (ad E (19 + 3 * k))) (bft : bd ft 15 0 9999) (hkt : kt < 4) (hnt : nt = 0 ∨ nt = 1) (bfa : bd fa 15 0 9999) (hka : ka < 4) (hna : na = 0 ∨ na = 1) (hra : ra < 8) (hpa : 0 ≤ pla ∧ pla ≤ 24) (hva : V fa 15 < Bp 14) (hca : V fa 15 = 0 → na = 0) (hfa : ka ≠ 1 → pla = 0 ∧ na = 0 ∧ V fa 15 = 0) (hpr : 1 ≤ pr ∧ pr ≤ 56) (hsc : -32 ≤ sc ∧ sc ≤ 24) : zM l y_D_fit ws_D_fit rm_D_fit E [.ref (ad E 0), .int (iI ((ra : Int))), .int (iI pr), .int (iI sc)] w0 (zQi E w0 (fun z w' => (∃ (kt' : Nat) (plt' : Int) (nt' : Int) (ft' : Int → Int) (k' : Nat) (p' : Int) (n' : Int) (f' : Int → Int), w' 10 = .inr (1, [.ref (zg E (1 + kt')), .int (iI plt'), .ref (ad E (10 + 1))]) ∧ w' (10 + 1) = .inr (0, [.ref (ad E (10 + 2)), .int (iI nt')]) ∧ w' (10 + 2) = zar E 15 ft' ∧ w' (19 + 3 * ra) = .inr (1, [.ref (zg E (1 + k')), .int (iI p'), .ref (ad E (19 + 3 * ra + 1))]) ∧ w' (19 + 3 * ra + 1) = .inr (0, [.ref (ad E (19 + 3 * ra + 2)), .int (iI n')]) ∧ w' (19 + 3 * ra + 2) = zar E 15 f' ∧ bd ft' 15 0 9999 ∧ bd f' 15 0 9999 ∧ (kt' < 4 ∧ (nt' = 0 ∨ nt' = 1) ∧ FiR pr sc z ka pla na (V fa 15) k' p' n' (V f' 15))) ∧ ∀ k, k ≠ 10 → k ≠ (10 + 1) → k ≠ (10 + 2) → k ≠ (19 + 3 * ra) → k ≠ (19 + 3 * ra + 1) → k ≠ (19 + 3 * ra + 2) → w' k = w0 k)) := by
  refine z_met (cc := b_D_fit) (maxL := 5) (ret := (some .int)) (by decide +kernel) rfl (Nat.le_of_ble_eq_true rfl) ?_
  intro p e s m below meth cd ls a Qf hQ hC hl hH
  obtain ⟨hF, hr, hlk, hK, hG, hn⟩ := hC
  obtain ⟨hx, hb, hml, hown, hts⟩ := hF
  have hg : ∀ w ∈ GW, w.before a s = true := fun w h => hts w (List.mem_cons_of_mem _ h)
  have hA : ∀ q, s.heap.size ≤ q → va_A (wl E w0) s.heap.size q := fun q h => Or.inr h
  have hl : lv_has ls 5 [(0, .ref (ad E 0)), (1, .int (iI ((ra : Int)))), (2, .int (iI pr)), (3, .int (iI sc))] := hl
  have q0lt : 0 < zn E := by omega
  have q1lt : 1 < zn E := by omega
  have q2lt : 10 < zn E := by omega
  have q3lt : 10 + 1 < zn E := by omega
  have q4lt : 10 + 2 < zn E := by omega
  have q5lt : 19 + 3 * ra < zn E := by omega
  have q6lt : 19 + 3 * ra + 1 < zn E := by omega
  have q7lt : 19 + 3 * ra + 2 < zn E := by omega
  have vfa := V_in bfa (show (0 : Int) ≤ 15 by decide) (Int.le_refl 15)
  refine lv_iload_n hx hb d_D_fit_0 rfl (lv_at hl 1 rfl) ?_
  refine z_calli (va_runS (As := [.int (iI ((ra : Int)))]) (rest := []) ⟨hx, hb, hml, hown, hts⟩ (c_D_isRegister (l := l) (E := E) (w0 := w0) (r := (ra : Int)) (hr0 := by omega) s.heap.size) (z_cwS 1 hg wm_164 wm_162 wm_1 wm_163 (by decide +kernel) ⟨Nat.le_of_ble_eq_true rfl, Nat.le_of_ble_eq_true rfl⟩) (z_preS hK hG hn hH hA) rfl rfl hl.1 rfl (lv_room (Nat.le_of_ble_eq_true rfl)) d_D_fit_1 ⟨Nat.zero_le _, Nat.zero_le _⟩) hH hA (fun z5 w3 H1 lc2 hH4 p1 => ?_)
  obtain ⟨ew6, p1⟩ := p1
  rw [ew6] at hH4
  replace p1 : (z5 = 1 ∧ 0 ≤ ((ra : Int)) ∧ ((ra : Int)) < 8) ∨ (z5 = 0 ∧ ¬ (0 ≤ ((ra : Int)) ∧ ((ra : Int)) < 8)) := p1
  refine zv_if_eq (tgt := 30) hx hb d_D_fit_4 rfl (by omega) (fun h7 => absurd h7 (by omega)) (fun h7 => ?_)
  refine lv_iload_n hx hb d_D_fit_7 rfl (lv_at hl 2 rfl) ?_
  refine zv_iconst hx hb d_D_fit_8 ?_
  refine zv_icmp_lt (tgt := 30) hx hb d_D_fit_9 rfl (by omega) (by omega) (fun h8 => absurd h8 (by omega)) (fun h8 => ?_)
  refine lv_iload_n hx hb d_D_fit_12 rfl (lv_at hl 2 rfl) ?_
  refine zv_bipush hx hb d_D_fit_13 rfl ?_
  refine zv_icmp_gt (tgt := 30) hx hb d_D_fit_15 rfl (by omega) (by omega) (fun h9 => absurd h9 (by omega)) (fun h9 => ?_)
  refine lv_iload_n hx hb d_D_fit_18 rfl (lv_at hl 3 rfl) ?_
  refine zv_bipush hx hb d_D_fit_19 rfl ?_
  refine zv_icmp_lt (tgt := 30) hx hb d_D_fit_21 rfl (by omega) (by omega) (fun h10 => absurd h10 (by omega)) (fun h10 => ?_)
  refine lv_iload_n hx hb d_D_fit_24 rfl (lv_at hl 3 rfl) ?_
  refine zv_bipush hx hb d_D_fit_25 rfl ?_
  refine zv_icmp_le (tgt := 32) hx hb d_D_fit_27 rfl (by omega) (by omega) (fun h11 => ?_) (fun h11 => absurd h11 (by omega))
  refine lv_aload_n hx hb d_D_fit_32 rfl (lv_at hl 0 rfl) ?_
  refine zv_get (C := "ScaledNumeralDesk") (T := TD) (N := 7) hx hb hg uD_in hown hK hH4 q0lt c0 rfl 0 (by decide) (hg _ wm_128) (fun _ h9 => h9) rfl d_D_fit_33 ?_
  refine lv_iload_n hx hb d_D_fit_36 rfl (lv_at hl 1 rfl) ?_
  refine zv_aald (i := ra) hx hb hK hH4 q1lt c1 rfl (by omega) (by omega) (hfq ra (by omega)) d_D_fit_37 ?_
  refine lv_astore (lv' := [(4, .ref (ad E (19 + 3 * ra))), (0, .ref (ad E 0)), (1, .int (iI ((ra : Int)))), (2, .int (iI pr)), (3, .int (iI sc))]) hx hb d_D_fit_38 hl (by decide) rfl (fun ls hl => ?_)
  refine lv_aload hx hb d_D_fit_40 (lv_at hl 0 rfl) ?_
  refine zv_get (C := "ScaledNumeralDesk$Numeral") (T := TN) (N := 3) hx hb hg uN_in hown hK hH4 q5lt c5 rfl 0 (by decide) (hg _ wm_58) (fun _ h9 => h9) rfl d_D_fit_42 ?_
  refine zv_kind hx hb hG hH4 hown 3 (by decide) (hg _ wm_574) (fun _ h9 => h9) d_D_fit_45 ?_
  refine zv_acmp_ne (a := ka) (b := 3) (tgt := 53) hx hb hG (by omega) (by omega) d_D_fit_48 rfl (fun h12 => ?_) (fun h12 => ?_)
  · refine lv_aload hx hb d_D_fit_53 (lv_at hl 0 rfl) ?_
    refine z_calli (va_runV (As := []) (rest := []) ⟨hx, hb, hml, hown, hts⟩ (c_N_isFinite (l := l) (E := E) (w0 := w0) (q := 19 + 3 * ra) (kd := ka) (pl := pla) (ng := na) (f := fa) (q0lt := q5lt) (q1lt := q6lt) (q2lt := q7lt) (c0 := c5) (c1 := c6) (c2 := c7) (bf := bfa) (hkd := by omega) (hng := by omega) H1.size) (z_cwV (C := "ScaledNumeralDesk$Numeral") 0 hg wm_344 wm_368 wm_2 wm_342 wm_343 (by decide +kernel) ⟨Nat.le_of_ble_eq_true rfl, Nat.le_of_ble_eq_true rfl⟩) (z_preV (r := ("ScaledNumeralDesk$Numeral", TN, 3)) hK hG hn hH4 hA q5lt c5 rfl) rfl rfl hl.1 rfl (lv_room (Nat.le_of_ble_eq_true rfl)) d_D_fit_55 ⟨Nat.zero_le _, Nat.zero_le _⟩) hH4 hA (fun z17 w15 H13 lc14 hH16 p55 => ?_)
    obtain ⟨ew18, p55⟩ := p55
    rw [ew18] at hH16
    replace p55 : (z17 = 1 ∧ ka = 1) ∨ (z17 = 0 ∧ ka ≠ 1) := p55
    refine zv_if_ne (tgt := 64) hx hb d_D_fit_58 rfl (by omega) (fun h19 => ?_) (fun h19 => ?_)
    · refine lv_aload_n hx hb d_D_fit_64 rfl (lv_at hl 1 rfl) ?_
      refine zv_get (C := "ScaledNumeralDesk") (T := TD) (N := 7) hx hb hg uD_in hown hK hH16 q0lt c0 rfl 4 (by decide) (hg _ wm_132) (fun _ h9 => h9) rfl d_D_fit_65 ?_
      refine lv_aload hx hb d_D_fit_68 (lv_at hl 0 rfl) ?_
      refine z_callv (va_runV (As := [.ref (ad E (19 + 3 * ra))]) (rest := []) ⟨hx, hb, hml, hown, hts⟩ (c_N_take (l := l) (E := E) (w0 := w0) (q := 10) (r := 19 + 3 * ra) (kd := kt) (ko := ka) (pl := plt) (po := pla) (ng := nt) (no := na) (f := ft) (g := fa) (q0lt := q2lt) (q1lt := q3lt) (q2lt := q4lt) (q3lt := q5lt) (q4lt := q6lt) (q5lt := q7lt) (c0 := c2) (c1 := c3) (c2 := c4) (c3 := c5) (c4 := c6) (c5 := c7) (bf := bft) (hkd := by omega) (hng := by omega) (bg := bfa) (hko := by omega) (hno := by omega) (hqr := by omega) H13.size) (z_cwV (C := "ScaledNumeralDesk$Numeral") 1 hg wm_324 wm_321 wm_2 wm_322 wm_323 (by decide +kernel) ⟨Nat.le_of_ble_eq_true rfl, Nat.le_of_ble_eq_true rfl⟩) (z_preV (r := ("ScaledNumeralDesk$Numeral", TN, 3)) hK hG hn hH16 hA q2lt c2 rfl) rfl rfl hl.1 rfl (lv_room (Nat.le_of_ble_eq_true rfl)) d_D_fit_70 ⟨Nat.zero_le _, Nat.zero_le _⟩) hH16 hA (fun  w22 H20 lc21 hH23 p70 => ?_)
      obtain ⟨⟨g1, e24, e25, e26, bd27, p70⟩, hg28⟩ := p70
      replace bd27 : bd g1 15 0 9999 := bd27
      replace p70 : V g1 15 = V fa 15 := p70
      have e29 : w22 0 = .inr (5, [.ref (ad E 1), .ref (ad E 2), .ref (ad E 3), .ref (ad E 5), .ref (ad E 10), .ref (ad E 13), .ref (ad E 16)]) := (hg28 0 (nx_D_fit_0 ) (nx_D_fit_1 ) (nx_D_fit_2 )).trans c0
      have e30 : w22 1 = zaq E 3 8 fq := (hg28 1 (nx_D_fit_3 ) (nx_D_fit_4 ) (nx_D_fit_5 )).trans c1
      have e31 : w22 (19 + 3 * ra) = .inr (1, [.ref (zg E (1 + ka)), .int (iI pla), .ref (ad E (19 + 3 * ra + 1))]) := (hg28 (19 + 3 * ra) (nx_D_fit_6 ) (nx_D_fit_7 ) (nx_D_fit_8 )).trans c5
      have e32 : w22 (19 + 3 * ra + 1) = .inr (0, [.ref (ad E (19 + 3 * ra + 2)), .int (iI na)]) := (hg28 (19 + 3 * ra + 1) (nx_D_fit_9 ) (nx_D_fit_10 ) (nx_D_fit_11 )).trans c6
      have e33 : w22 (19 + 3 * ra + 2) = zar E 15 fa := (hg28 (19 + 3 * ra + 2) (nx_D_fit_12 ) (nx_D_fit_13 ) (nx_D_fit_14 )).trans c7
      have hf34 : ∀ k, k ≠ 10 → k ≠ (10 + 1) → k ≠ (10 + 2) → w22 k = w0 k := fun k g0 g1 g2 => hg28 k g0 g1 g2
      refine lv_aload_n hx hb d_D_fit_73 rfl (lv_at hl 1 rfl) ?_
      refine zv_get (C := "ScaledNumeralDesk") (T := TD) (N := 7) hx hb hg uD_in hown hK hH23 q0lt e29 rfl 4 (by decide) (hg _ wm_132) (fun _ h9 => h9) rfl d_D_fit_74 ?_
      refine lv_iload_n hx hb d_D_fit_77 rfl (lv_at hl 4 rfl) ?_
      refine z_callv (va_runV (As := [.int (iI sc)]) (rest := []) ⟨hx, hb, hml, hown, hts⟩ (c_N_roundAt (l := l) (E := E) (w0 := w22) (q := 10) (kd := ka) (pl := pla) (ng := na) (x := sc) (f := g1) (q0lt := q2lt) (q1lt := q3lt) (q2lt := q4lt) (c0 := e24) (c1 := e25) (c2 := e26) (bf := bd27) (hkd := by omega) (hng := by omega) (hx0 := by omega) H20.size) (z_cwV (C := "ScaledNumeralDesk$Numeral") 1 hg wm_526 wm_575 wm_2 wm_524 wm_525 (by decide +kernel) ⟨Nat.le_of_ble_eq_true rfl, Nat.le_of_ble_eq_true rfl⟩) (z_preV (r := ("ScaledNumeralDesk$Numeral", TN, 3)) hK hG hn hH23 hA q2lt e24 rfl) rfl rfl hl.1 rfl (lv_room (Nat.le_of_ble_eq_true rfl)) d_D_fit_78 ⟨Nat.zero_le _, Nat.zero_le _⟩) hH23 hA (fun  w37 H35 lc36 hH38 p78 => ?_)
      obtain ⟨⟨p2, n2, g2, e39, e40, e41, bd42, p78⟩, hg43⟩ := p78
      replace bd42 : bd g2 15 0 9999 := bd42
      replace p78 : V g2 15 = Rn (V g1 15) (24 - sc) % Bp 15 ∧ (n2 = 0 ∨ n2 = 1) ∧ (V g2 15 = 0 → n2 = 0) ∧ (0 < V g2 15 → n2 = na) ∧ p2 = mx0 sc := p78
      have e44 : w37 0 = .inr (5, [.ref (ad E 1), .ref (ad E 2), .ref (ad E 3), .ref (ad E 5), .ref (ad E 10), .ref (ad E 13), .ref (ad E 16)]) := (hg43 0 (nx_D_fit_0 ) (nx_D_fit_1 ) (nx_D_fit_2 )).trans e29
      have e45 : w37 1 = zaq E 3 8 fq := (hg43 1 (nx_D_fit_3 ) (nx_D_fit_4 ) (nx_D_fit_5 )).trans e30
      have e46 : w37 (19 + 3 * ra) = .inr (1, [.ref (zg E (1 + ka)), .int (iI pla), .ref (ad E (19 + 3 * ra + 1))]) := (hg43 (19 + 3 * ra) (nx_D_fit_6 ) (nx_D_fit_7 ) (nx_D_fit_8 )).trans e31
      have e47 : w37 (19 + 3 * ra + 1) = .inr (0, [.ref (ad E (19 + 3 * ra + 2)), .int (iI na)]) := (hg43 (19 + 3 * ra + 1) (nx_D_fit_9 ) (nx_D_fit_10 ) (nx_D_fit_11 )).trans e32
      have e48 : w37 (19 + 3 * ra + 2) = zar E 15 fa := (hg43 (19 + 3 * ra + 2) (nx_D_fit_12 ) (nx_D_fit_13 ) (nx_D_fit_14 )).trans e33
      have hf49 : ∀ k, k ≠ 10 → k ≠ (10 + 1) → k ≠ (10 + 2) → w37 k = w0 k := fun k g0 g1 g2 => (hg43 k g0 g1 g2).trans (hf34 k g0 g1 g2)
      rw [p70, rn15 vfa.1 hva (by omega)] at p78
      refine lv_aload_n hx hb d_D_fit_81 rfl (lv_at hl 1 rfl) ?_
      refine zv_get (C := "ScaledNumeralDesk") (T := TD) (N := 7) hx hb hg uD_in hown hK hH38 q0lt e44 rfl 4 (by decide) (hg _ wm_132) (fun _ h9 => h9) rfl d_D_fit_82 ?_
      refine zv_get (C := "ScaledNumeralDesk$Numeral") (T := TN) (N := 3) hx hb hg uN_in hown hK hH38 q2lt e39 rfl 2 (by decide) (hg _ wm_68) (fun _ h9 => h9) rfl d_D_fit_85 ?_
      refine lv_iload_n hx hb d_D_fit_88 rfl (lv_at hl 3 rfl) ?_
      refine lv_iload_n hx hb d_D_fit_89 rfl (lv_at hl 4 rfl) ?_
      refine zv_isub hx hb d_D_fit_90 ?_
      refine z_calli (va_runV (As := [.int (iI (pr - sc))]) (rest := []) ⟨hx, hb, hml, hown, hts⟩ (c_A_reaches (l := l) (E := E) (w0 := w37) (q := 10 + 1) (f := g2) (ng := n2) (x := pr - sc) (q0lt := q3lt) (q1lt := q4lt) (c0 := e40) (c1 := e41) (bf := bd42) (hx0 := by omega) H35.size) (z_cwV (C := "ScaledNumeralDesk$Amount") 1 hg wm_308 wm_576 wm_5 wm_306 wm_307 (by decide +kernel) ⟨Nat.le_of_ble_eq_true rfl, Nat.le_of_ble_eq_true rfl⟩) (z_preV (r := ("ScaledNumeralDesk$Amount", TA, 2)) hK hG hn hH38 hA q3lt e40 rfl) rfl rfl hl.1 rfl (lv_room (Nat.le_of_ble_eq_true rfl)) d_D_fit_91 ⟨Nat.zero_le _, Nat.zero_le _⟩) hH38 hA (fun z54 w52 H50 lc51 hH53 p91 => ?_)
      obtain ⟨ew55, p91⟩ := p91
      rw [ew55] at hH53
      replace p91 : (z54 = 1 ∧ Tp (24 + (pr - sc)) ≤ V g2 15) ∨ (z54 = 0 ∧ V g2 15 < Tp (24 + (pr - sc))) := p91
      rw [p78.1] at p91
      refine zv_if_ne (tgt := 107) hx hb d_D_fit_94 rfl (by omega) (fun h56 => ?_) (fun h56 => ?_)
      · refine zv_bipush hx hb d_D_fit_107 rfl ?_
        rw [hQ]
        exact z_iret hx hb hr hlk hH53 (⟨⟨ka, p2, n2, g2, ka, pla, na, fa, e39, e40, e41, e46, e47, e48, bd42, bfa, ⟨hka, p78.2.1, Or.inr (Or.inr ⟨by omega, Or.inl ⟨rfl, by omega, rfl, rfl, rfl, rfl⟩⟩)⟩⟩, (fun k g0 g1 g2 g3 g4 g5 => hf49 k g0 g1 g2)⟩) d_D_fit_109
      · refine lv_aload_n hx hb d_D_fit_97 rfl (lv_at hl 1 rfl) ?_
        refine zv_get (C := "ScaledNumeralDesk") (T := TD) (N := 7) hx hb hg uD_in hown hK hH53 q0lt e44 rfl 4 (by decide) (hg _ wm_132) (fun _ h9 => h9) rfl d_D_fit_98 ?_
        refine z_calli (va_runV (As := []) (rest := []) ⟨hx, hb, hml, hown, hts⟩ (c_N_isTooLarge (l := l) (E := E) (w0 := w37) (q := 10) (kd := ka) (pl := p2) (ng := n2) (f := g2) (q0lt := q2lt) (q1lt := q3lt) (q2lt := q4lt) (c0 := e39) (c1 := e40) (c2 := e41) (bf := bd42) (hkd := by omega) (hng := by omega) H50.size) (z_cwV (C := "ScaledNumeralDesk$Numeral") 0 hg wm_304 wm_577 wm_2 wm_302 wm_303 (by decide +kernel) ⟨Nat.le_of_ble_eq_true rfl, Nat.le_of_ble_eq_true rfl⟩) (z_preV (r := ("ScaledNumeralDesk$Numeral", TN, 3)) hK hG hn hH53 hA q2lt e39 rfl) rfl rfl hl.1 rfl (lv_room (Nat.le_of_ble_eq_true rfl)) d_D_fit_101 ⟨Nat.zero_le _, Nat.zero_le _⟩) hH53 hA (fun z61 w59 H57 lc58 hH60 p101 => ?_)
        obtain ⟨ew62, p101⟩ := p101
        rw [ew62] at hH60
        replace p101 : (z61 = 1 ∧ Tp 56 ≤ V g2 15) ∨ (z61 = 0 ∧ V g2 15 < Tp 56) := p101
        rw [p78.1] at p101
        refine zv_if_eq (tgt := 110) hx hb d_D_fit_104 rfl (by omega) (fun h63 => ?_) (fun h63 => ?_)
        · refine lv_aload_n hx hb d_D_fit_110 rfl (lv_at hl 1 rfl) ?_
          refine lv_iload_n hx hb d_D_fit_111 rfl (lv_at hl 2 rfl) ?_
          refine zv_iconst hx hb d_D_fit_112 ?_
          refine z_calli (va_runV (As := [.int (iI ((ra : Int))), .int (iI 0)]) (rest := []) ⟨hx, hb, hml, hown, hts⟩ (c_D_store (l := l) (E := E) (w0 := w37) (fq := fq) (kt := ka) (plt := p2) (nt := n2) (ft := g2) (rd := ra) (kd := ka) (pld := pla) (nd := na) (fd := fa) (an := 0) (hzn := hzn) (c0 := e44) (c1 := e45) (c2 := e39) (c3 := e40) (c4 := e41) (c5 := e46) (c6 := e47) (c7 := e48) (hfq := hfq) (bft := bd42) (hkt := by omega) (hnt := by omega) (bfd := bfa) (hkd := by omega) (hnd := by omega) (hrd := by omega) (han := by omega) H57.size) (z_cwV (C := "ScaledNumeralDesk") 2 hg wm_320 wm_317 wm_1 wm_319 wm_s8 (by decide +kernel) ⟨Nat.le_of_ble_eq_true rfl, Nat.le_of_ble_eq_true rfl⟩) (z_preV (r := ("ScaledNumeralDesk", TD, 7)) hK hG hn hH60 hA q0lt e44 rfl) rfl rfl hl.1 rfl (lv_room (Nat.le_of_ble_eq_true rfl)) d_D_fit_113 ⟨Nat.zero_le _, Nat.zero_le _⟩) hH60 hA (fun z113 w66 H64 lc65 hH67 p113 => ?_)
          obtain ⟨⟨k_68, p_69, n_70, f_71, e72, e73, e74, bd75, p113⟩, hg76⟩ := p113
          replace bd75 : bd f_71 15 0 9999 := bd75
          replace p113 : z113 = (0 : Int) ∧ StoR (0 : Int) ka p2 n2 (V g2 15) ka pla na (V fa 15) k_68 p_69 n_70 (V f_71 15) := p113
          have e77 : w66 0 = .inr (5, [.ref (ad E 1), .ref (ad E 2), .ref (ad E 3), .ref (ad E 5), .ref (ad E 10), .ref (ad E 13), .ref (ad E 16)]) := (hg76 0 (nx_D_fit_15 ) (nx_D_fit_16 ) (nx_D_fit_17 )).trans e44
          have e78 : w66 1 = zaq E 3 8 fq := (hg76 1 (nx_D_fit_18 ) (nx_D_fit_19 ) (nx_D_fit_20 )).trans e45
          have e79 : w66 10 = .inr (1, [.ref (zg E (1 + ka)), .int (iI p2), .ref (ad E (10 + 1))]) := (hg76 10 (nx_D_fit_21 ) (nx_D_fit_22 ) (nx_D_fit_23 )).trans e39
          have e80 : w66 (10 + 1) = .inr (0, [.ref (ad E (10 + 2)), .int (iI n2)]) := (hg76 (10 + 1) (nx_D_fit_24 ) (nx_D_fit_25 ) (nx_D_fit_26 )).trans e40
          have e81 : w66 (10 + 2) = zar E 15 g2 := (hg76 (10 + 2) (nx_D_fit_27 ) (nx_D_fit_28 ) (nx_D_fit_29 )).trans e41
          have hf82 : ∀ k, k ≠ 10 → k ≠ (10 + 1) → k ≠ (10 + 2) → k ≠ (19 + 3 * ra) → k ≠ (19 + 3 * ra + 1) → k ≠ (19 + 3 * ra + 2) → w66 k = w0 k := fun k g0 g1 g2 g3 g4 g5 => (hg76 k g3 g4 g5).trans (hf49 k g0 g1 g2)
          have s9 := p113.2
          rw [hQ]
          exact z_iret hx hb hr hlk hH67 (⟨⟨ka, p2, n2, g2, k_68, p_69, n_70, f_71, e79, e80, e81, e72, e73, e74, bd42, bd75, ⟨hka, p78.2.1, Or.inr (Or.inr ⟨by omega, Or.inr (by rcases s9 with h8 | h8; rw [p113.1, h8.2.1, h8.2.2.1, h8.2.2.2.1, h8.2.2.2.2, p78.1]; exact ⟨rfl, by omega, by omega, by omega, p78.2.2.2.2, p78.2.1, ⟨by rw [← p78.1]; exact p78.2.2.1, by rw [← p78.1]; exact p78.2.2.2.1⟩, rfl⟩; exact absurd rfl h8.1)⟩)⟩⟩, (fun k g0 g1 g2 g3 g4 g5 => hf82 k g0 g1 g2 g3 g4 g5)⟩) d_D_fit_116
        · refine zv_bipush hx hb d_D_fit_107 rfl ?_
          rw [hQ]
          exact z_iret hx hb hr hlk hH60 (⟨⟨ka, p2, n2, g2, ka, pla, na, fa, e39, e40, e41, e46, e47, e48, bd42, bfa, ⟨hka, p78.2.1, Or.inr (Or.inr ⟨by omega, Or.inl ⟨rfl, by omega, rfl, rfl, rfl, rfl⟩⟩)⟩⟩, (fun k g0 g1 g2 g3 g4 g5 => hf49 k g0 g1 g2)⟩) d_D_fit_109
    · refine zv_bipush hx hb d_D_fit_61 rfl ?_
      rw [hQ]
      exact z_iret hx hb hr hlk hH16 (⟨⟨kt, plt, nt, ft, ka, pla, na, fa, c2, c3, c4, c5, c6, c7, bft, bfa, ⟨hkt, hnt, Or.inr (Or.inl ⟨by omega, by omega, rfl, rfl, rfl, rfl, rfl⟩)⟩⟩, (fun k _ _ _ _ _ _ => rfl)⟩) d_D_fit_63
  · refine zv_iconst hx hb d_D_fit_51 ?_
    rw [hQ]
    exact z_iret hx hb hr hlk hH4 (⟨⟨kt, plt, nt, ft, ka, pla, na, fa, c2, c3, c4, c5, c6, c7, bft, bfa, ⟨hkt, hnt, Or.inl ⟨by omega, rfl, rfl, rfl, rfl, rfl⟩⟩⟩, (fun k _ _ _ _ _ _ => rfl)⟩) d_D_fit_52
def rm_D_compare : Room := { frames := 4, cells := 0, slots := 0, locals := 86 }
set_option maxHeartbeats 4000000 in
set_option maxRecDepth 100000 in
theorem c_D_compare (l : Launch) (E : zE) (w0 : zW) (fq : Nat → Option Nat) (ra : Nat) (ka : Nat) (pla na : Int) (fa : Int → Int) (rb : Nat) (kb : Nat) (plb nb : Int) (fb : Int → Int) (hzn : 73 ≤ zn E) (c0 : w0 0 = .inr (5, [.ref (ad E 1), .ref (ad E 2), .ref (ad E 3), .ref (ad E 5), .ref (ad E 10), .ref (ad E 13), .ref (ad E 16)])) (c1 : w0 1 = zaq E 3 8 fq) (c2 : w0 (19 + 3 * ra) = .inr (1, [.ref (zg E (1 + ka)), .int (iI pla), .ref (ad E (19 + 3 * ra + 1))])) (c3 : w0 (19 + 3 * ra + 1) = .inr (0, [.ref (ad E (19 + 3 * ra + 2)), .int (iI na)])) (c4 : w0 (19 + 3 * ra + 2) = zar E 15 fa) (c5 : w0 (19 + 3 * rb) = .inr (1, [.ref (zg E (1 + kb)), .int (iI plb), .ref (ad E (19 + 3 * rb + 1))])) (c6 : w0 (19 + 3 * rb + 1) = .inr (0, [.ref (ad E (19 + 3 * rb + 2)), .int (iI nb)])) (c7 : w0 (19 + 3 * rb + 2) = zar E 15 fb) (hfq : ∀ k : Nat, k < 8 → fq k = some (ad E (19 + 3 * k))) (bfa : bd fa 15 0 9999) (hka : ka < 4) (hna : na = 0 ∨ na = 1) (hra : ra < 8) (hpa : 0 ≤ pla ∧ pla ≤ 24) (hva : V fa 15 < Bp 14) (hca : V fa 15 = 0 → na = 0) (hfa : ka ≠ 1 → pla = 0 ∧ na = 0 ∧ V fa 15 = 0) (bfb : bd fb 15 0 9999) (hkb : kb < 4) (hnb : nb = 0 ∨ nb = 1) (hrb : rb < 8) (hpb : 0 ≤ plb ∧ plb ≤ 24) (hvb : V fb 15 < Bp 14) (hcb : V fb 15 = 0 → nb = 0) (hfb : kb ≠ 1 → plb = 0 ∧ nb = 0 ∧ V fb 15 = 0) : zM l y_D_compare ws_D_compare rm_D_compare E [.ref (ad E 0), .int (iI ((ra : Int))), .int (iI ((rb : Int)))] w0 (zQi E w0 (fun z w' => w' = w0 ∧ ((ka = 1 ∧ kb = 1 ∧ ((z = -1 ∧ sv na (V fa 15) < sv nb (V fb 15)) ∨ (z = 0 ∧ sv na (V fa 15) = sv nb (V fb 15)) ∨ (z = 1 ∧ sv nb (V fb 15) < sv na (V fa 15)))) ∨ (¬ (ka = 1 ∧ kb = 1) ∧ ((ka < kb ∧ z = -1) ∨ (ka = kb ∧ z = 0) ∨ (kb < ka ∧ z = 1)))))) := by
  refine z_met (cc := b_D_compare) (maxL := 3) (ret := (some .int)) (by decide +kernel) rfl (Nat.le_of_ble_eq_true rfl) ?_
  intro p e s m below meth cd ls a Qf hQ hC hl hH
  obtain ⟨hF, hr, hlk, hK, hG, hn⟩ := hC
  obtain ⟨hx, hb, hml, hown, hts⟩ := hF
  have hg : ∀ w ∈ GW, w.before a s = true := fun w h => hts w (List.mem_cons_of_mem _ h)
  have hA : ∀ q, s.heap.size ≤ q → va_A (wl E w0) s.heap.size q := fun q h => Or.inr h
  have hl : lv_has ls 3 [(0, .ref (ad E 0)), (1, .int (iI ((ra : Int)))), (2, .int (iI ((rb : Int))))] := hl
  have q0lt : 0 < zn E := by omega
  have q1lt : 1 < zn E := by omega
  have q2lt : 19 + 3 * ra < zn E := by omega
  have q3lt : 19 + 3 * ra + 1 < zn E := by omega
  have q4lt : 19 + 3 * ra + 2 < zn E := by omega
  have q5lt : 19 + 3 * rb < zn E := by omega
  have q6lt : 19 + 3 * rb + 1 < zn E := by omega
  have q7lt : 19 + 3 * rb + 2 < zn E := by omega
  refine lv_iload_n hx hb d_D_compare_0 rfl (lv_at hl 1 rfl) ?_
  refine z_calli (va_runS (As := [.int (iI ((ra : Int)))]) (rest := []) ⟨hx, hb, hml, hown, hts⟩ (c_D_isRegister (l := l) (E := E) (w0 := w0) (r := (ra : Int)) (hr0 := by omega) s.heap.size) (z_cwS 1 hg wm_164 wm_162 wm_1 wm_163 (by decide +kernel) ⟨Nat.le_of_ble_eq_true rfl, Nat.le_of_ble_eq_true rfl⟩) (z_preS hK hG hn hH hA) rfl rfl hl.1 rfl (lv_room (Nat.le_of_ble_eq_true rfl)) d_D_compare_1 ⟨Nat.zero_le _, Nat.zero_le _⟩) hH hA (fun z5 w3 H1 lc2 hH4 p1 => ?_)
  obtain ⟨ew6, p1⟩ := p1
  rw [ew6] at hH4
  replace p1 : (z5 = 1 ∧ 0 ≤ ((ra : Int)) ∧ ((ra : Int)) < 8) ∨ (z5 = 0 ∧ ¬ (0 ≤ ((ra : Int)) ∧ ((ra : Int)) < 8)) := p1
  refine zv_if_eq (tgt := 14) hx hb d_D_compare_4 rfl (by omega) (fun h7 => absurd h7 (by omega)) (fun h7 => ?_)
  refine lv_iload_n hx hb d_D_compare_7 rfl (lv_at hl 2 rfl) ?_
  refine z_calli (va_runS (As := [.int (iI ((rb : Int)))]) (rest := []) ⟨hx, hb, hml, hown, hts⟩ (c_D_isRegister (l := l) (E := E) (w0 := w0) (r := (rb : Int)) (hr0 := by omega) H1.size) (z_cwS 1 hg wm_164 wm_162 wm_1 wm_163 (by decide +kernel) ⟨Nat.le_of_ble_eq_true rfl, Nat.le_of_ble_eq_true rfl⟩) (z_preS hK hG hn hH4 hA) rfl rfl hl.1 rfl (lv_room (Nat.le_of_ble_eq_true rfl)) d_D_compare_8 ⟨Nat.zero_le _, Nat.zero_le _⟩) hH4 hA (fun z12 w10 H8 lc9 hH11 p8 => ?_)
  obtain ⟨ew13, p8⟩ := p8
  rw [ew13] at hH11
  replace p8 : (z12 = 1 ∧ 0 ≤ ((rb : Int)) ∧ ((rb : Int)) < 8) ∨ (z12 = 0 ∧ ¬ (0 ≤ ((rb : Int)) ∧ ((rb : Int)) < 8)) := p8
  refine zv_if_ne (tgt := 17) hx hb d_D_compare_11 rfl (by omega) (fun h14 => ?_) (fun h14 => absurd h14 (by omega))
  refine lv_aload_n hx hb d_D_compare_17 rfl (lv_at hl 0 rfl) ?_
  refine zv_get (C := "ScaledNumeralDesk") (T := TD) (N := 7) hx hb hg uD_in hown hK hH11 q0lt c0 rfl 0 (by decide) (hg _ wm_128) (fun _ h9 => h9) rfl d_D_compare_18 ?_
  refine lv_iload_n hx hb d_D_compare_21 rfl (lv_at hl 1 rfl) ?_
  refine zv_aald (i := ra) hx hb hK hH11 q1lt c1 rfl (by omega) (by omega) (hfq ra (by omega)) d_D_compare_22 ?_
  refine lv_aload_n hx hb d_D_compare_23 rfl (lv_at hl 0 rfl) ?_
  refine zv_get (C := "ScaledNumeralDesk") (T := TD) (N := 7) hx hb hg uD_in hown hK hH11 q0lt c0 rfl 0 (by decide) (hg _ wm_128) (fun _ h9 => h9) rfl d_D_compare_24 ?_
  refine lv_iload_n hx hb d_D_compare_27 rfl (lv_at hl 2 rfl) ?_
  refine zv_aald (i := rb) hx hb hK hH11 q1lt c1 rfl (by omega) (by omega) (hfq rb (by omega)) d_D_compare_28 ?_
  refine z_calli (va_runV (As := [.ref (ad E (19 + 3 * rb))]) (rest := []) ⟨hx, hb, hml, hown, hts⟩ (c_N_compared (l := l) (E := E) (w0 := w0) (q := 19 + 3 * ra) (r := 19 + 3 * rb) (kd := ka) (ko := kb) (pl := pla) (po := plb) (ng := na) (no := nb) (f := fa) (g := fb) (q0lt := q2lt) (q1lt := q3lt) (q2lt := q4lt) (q3lt := q5lt) (q4lt := q6lt) (q5lt := q7lt) (c0 := c2) (c1 := c3) (c2 := c4) (c3 := c5) (c4 := c6) (c5 := c7) (bf := bfa) (hkd := by omega) (hng := by omega) (bg := bfb) (hko := by omega) (hno := by omega) (cf := hca) (cg := hcb) H8.size) (z_cwV (C := "ScaledNumeralDesk$Numeral") 1 hg wm_585 wm_582 wm_2 wm_583 wm_584 (by decide +kernel) ⟨Nat.le_of_ble_eq_true rfl, Nat.le_of_ble_eq_true rfl⟩) (z_preV (r := ("ScaledNumeralDesk$Numeral", TN, 3)) hK hG hn hH11 hA q2lt c2 rfl) rfl rfl hl.1 rfl (lv_room (Nat.le_of_ble_eq_true rfl)) d_D_compare_29 ⟨Nat.zero_le _, Nat.zero_le _⟩) hH11 hA (fun z19 w17 H15 lc16 hH18 p29 => ?_)
  obtain ⟨ew20, p29⟩ := p29
  rw [ew20] at hH18
  replace p29 : (ka = 1 ∧ kb = 1 ∧ ((z19 = -1 ∧ sv na (V fa 15) < sv nb (V fb 15)) ∨ (z19 = 0 ∧ sv na (V fa 15) = sv nb (V fb 15)) ∨ (z19 = 1 ∧ sv nb (V fb 15) < sv na (V fa 15)))) ∨ (¬ (ka = 1 ∧ kb = 1) ∧ ((ka < kb ∧ z19 = -1) ∨ (ka = kb ∧ z19 = 0) ∨ (kb < ka ∧ z19 = 1))) := p29
  rw [hQ]
  exact z_iret hx hb hr hlk hH18 (⟨rfl, p29⟩) d_D_compare_32
