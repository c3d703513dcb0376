/-! Rows for texts of kinds, ranks, words of the buffer, chars; signum. -/
theorem rank_eq {k : Nat} (h : k < 4) : ([0, 1, 2, 3] : List Int32).getD k 0 = iI (k : Int) := by
  have c : k = 0 ∨ k = 1 ∨ k = 2 ∨ k = 3 := by omega
  rcases c with rfl | rfl | rfl | rfl <;> rfl
theorem nar_c {x : Int} (h0 : 0 ≤ x) (h1 : x < 65536) : vp_nar .char (iI x) = iI x := by
  obtain ⟨n, rfl⟩ : ∃ n : Nat, x = n := ⟨x.toNat, by omega⟩
  have e : iI (n : Int) = nI n := Int32.ofInt_eq_ofNat
  have h := (pk_charN (q := n) (by omega)).1
  unfold vp_nar
  rw [e, h]
section ZB
variable {p : Program} {l : Launch} {e : Env} {R : Room} {s : State} {m : MethodId} {args : Array Value} {below : List Frame} {meth : Method} {c : Code} {H : Heap} {locs : List Loc} {cells slots : Nat} {Q : State → Prop}
variable {cc : ByteArray} {pc : Nat} {ls : Array Slot} {rest : List Value} {E : zE} {w : zW} {A : Nat → Prop} {H0 : Heap}
theorem zs_text (hexec : p.tables.exec = Jvm.exec) (hb : c.code = cc) (hG : zG E A s s.heap) (hH : zH E w A s.heap H locs) {own : String} {index k : Nat} (hk : k < 4) (hown : s.vm.findClass own = some m.cls) (hlink : (Cond.fieldLink own index "ScaledNumeralDesk$Kind" "text" "Ljava/lang/String;").before args s = true) (hdg : decode cc pc = .ok (.getfield index, 3)) (kk : W p l e R s m args below meth c H locs cells slots Q (F0 m (pc + 3) ls (.ref (zg E (5 + k)) :: rest))) : W p l e R s m args below meth c H locs cells slots Q (F0 m pc ls (.ref (zg E (1 + k)) :: rest)) :=
  vk_getf hexec hb (hG.2.2.2.1 k hk) hH.2.2 hown hlink (fun _ h => h) hdg kk
theorem zs_rank (hexec : p.tables.exec = Jvm.exec) (hb : c.code = cc) (hG : zG E A s s.heap) (hH : zH E w A s.heap H locs) {own : String} {index k : Nat} (hk : k < 4) (hown : s.vm.findClass own = some m.cls) (hlink : (Cond.fieldLink own index "ScaledNumeralDesk$Kind" "rank" "I").before args s = true) (hdg : decode cc pc = .ok (.getfield index, 3)) (kk : W p l e R s m args below meth c H locs cells slots Q (F0 m (pc + 3) ls (.int (iI (k : Int)) :: rest))) : W p l e R s m args below meth c H locs cells slots Q (F0 m pc ls (.ref (zg E (1 + k)) :: rest)) :=
  va_getE (ad := fun i => zg E (1 + i)) (q := ("ScaledNumeralDesk$Kind", "rank", "I", [0, 1, 2, 3])) hexec hb hG.2.2.1 hk hH.2.2 hown List.mem_cons_self hlink (fun _ h => h) hdg (by rw [← rank_eq hk] at kk; exact kk)
theorem zv_cast (hexec : p.tables.exec = Jvm.exec) (hb : c.code = cc) (hK : zK E s) (hH : zH E w A H0 H locs) {q : Nat} (hq : q < zn E) {N : Nat} {f : Int → Int} (he : w q = zac E N f) {i x : Int} (h0 : 0 ≤ i) (h1 : i < N) (hN : N < 2147483648) (hx0 : 0 ≤ x ∧ x < 65536) (hdg : decode cc pc = .ok (.castore, 1))
    (kk : ∀ (H1 : Heap) (locs1 : List Loc) (w1 : zW), zH E w1 A H0 H1 locs1 → w1 q = zac E N (up f i x) → (∀ k, k ≠ q → w1 k = w k) → W p l e R s m args below meth c H1 locs1 cells slots Q (F0 m (pc + 1) ls rest)) : W p l e R s m args below meth c H locs cells slots Q (F0 m pc ls (.int (iI x) :: .int (iI i) :: .ref (ad E q) :: rest)) :=
  va_cast hexec hb hK hH.1 hH.2.1 hH.2.2 q 1 (by rw [wl_get hq, he]) rfl (iI_in h0 h1 hN) hdg (fun H1 locs1 hP hD hS => by
    rw [nar_c hx0.1 hx0.2, ar_upd h0 (by omega), wl_set] at hP hD
    exact kk H1 locs1 _ ⟨hP, hD, hS⟩ (if_pos rfl) (fun k hk => if_neg hk))
end ZB
theorem sgn_eq {x : Int} (h : -3 ≤ x ∧ x ≤ 3) : (iI x >>> (iI 31 &&& 31) ||| ((-iI x).toUInt32 >>> ((iI 31).toUInt32 &&& Int32.toUInt32 31)).toInt32) = iI (if x < 0 then -1 else if x = 0 then 0 else 1) := by
  have c : x = -3 ∨ x = -2 ∨ x = -1 ∨ x = 0 ∨ x = 1 ∨ x = 2 ∨ x = 3 := by omega
  rcases c with rfl | rfl | rfl | rfl | rfl | rfl | rfl <;> decide
def rm_signum : Room := { frames := 0, cells := 0, slots := 0, locals := 0 }
set_option maxHeartbeats 4000000 in
theorem c_signum (l : Launch) (E : zE) (w0 : zW) (x : Int) (hx0 : -3 ≤ x ∧ x ≤ 3) : zM l y_JI_signum ws_JI_signum rm_signum E [.int (iI x)] w0 (zQi E w0 (fun z w' => w' = w0 ∧ ((x < 0 ∧ z = -1) ∨ (x = 0 ∧ z = 0) ∨ (0 < x ∧ z = 1)))) := by
  refine z_met (cc := b_JI_signum) (maxL := 1) (ret := (some .int)) (by decide +kernel) rfl (Nat.le_of_ble_eq_true rfl) ?_
  intro p e s m below meth cd ls a Qf hQ hC hl hH
  obtain ⟨hF, hr, hlk, hK, hG, hn⟩ := hC
  obtain ⟨hx, hb, hml, hown, hts⟩ := hF
  have hl : lv_has ls 1 [(0, .int (iI x))] := hl
  refine lv_iload_n hx hb d_JI_signum_0 rfl (lv_at hl 0 rfl) ?_
  refine zv_bipush hx hb d_JI_signum_1 rfl ?_
  refine lv_ishr hx hb d_JI_signum_3 ?_
  refine lv_iload_n hx hb d_JI_signum_4 rfl (lv_at hl 0 rfl) ?_
  refine lv_ineg hx hb d_JI_signum_5 ?_
  refine zv_bipush hx hb d_JI_signum_6 rfl ?_
  refine lv_iushr hx hb d_JI_signum_8 rfl ?_
  refine lv_ior hx hb d_JI_signum_9 ?_
  rw [sgn_eq hx0, hQ]
  refine z_iret hx hb hr hlk hH ⟨rfl, ?_⟩ d_JI_signum_10
  by_cases h1 : x < 0
  · rw [if_pos h1]; omega
  · rw [if_neg h1]
    by_cases h2 : x = 0
    · rw [if_pos h2]; omega
    · rw [if_neg h2]; omega
theorem dgs_le {v a b : Int} (ha : dgs v a) (hb : dgs v b) : a ≤ b := by
  rcases ha with ⟨h1, h2⟩ | ⟨h1, h2, h3⟩
  · rcases hb with ⟨g1, g2⟩ | ⟨g1, g2, g3⟩ <;> omega
  · rcases hb with ⟨g1, g2⟩ | ⟨g1, g2, g3⟩
    · have := Tp_pos (a - 1); omega
    · refine Int.not_lt.mp (fun hh => ?_)
      have := Tp_mono (a := b) (b := a - 1) (by omega) (by omega)
      omega
theorem dgs_u {v a b : Int} (ha : dgs v a) (hb : dgs v b) : a = b := Int.le_antisymm (dgs_le ha hb) (dgs_le hb ha)
/-- the digits before the point -/
def Wh (v n : Int) : Prop := ∃ d : Int, dgs v d ∧ n = max (d - 24) 1
theorem Wh_u {v a b : Int} (ha : Wh v a) (hb : Wh v b) : a = b := by
  obtain ⟨d, h1, h2⟩ := ha
  obtain ⟨d', g1, g2⟩ := hb
  rw [h2, g2, dgs_u h1 g1]
def ptl (pl : Int) : Int := if 0 < pl then 1 + pl else 0
theorem ptl_p {pl : Int} (h : 0 < pl) : ptl pl = 1 + pl := if_pos h
theorem ptl_0 {pl : Int} (h : pl ≤ 0) : ptl pl = 0 := if_neg (by omega)
/-- the character at i of a finite numeral with n digits before the point -/
def TcR (ng v n i z : Int) : Prop :=
  (ng = 1 ∧ i = 0 ∧ z = 45) ∨ (¬ (ng = 1 ∧ i = 0) ∧ ((n - (i - ng) = 0 ∧ z = 46) ∨ (0 < n - (i - ng) ∧ z = 48 + v / Tp (24 + (n - (i - ng) - 1)) % 10) ∨ (n - (i - ng) < 0 ∧ z = 48 + v / Tp (24 + (n - (i - ng))) % 10)))
theorem dgs_ex {f : Int → Int} (bf : bd f 15 0 9999) : ∃ d : Int, dgs (V f 15) d := by
  have v := V_in bf (show (0 : Int) ≤ 15 by decide) (Int.le_refl 15)
  by_cases h0 : V f 15 = 0
  · exact ⟨0, Or.inl ⟨rfl, h0⟩⟩
  · have key : ∀ n : Nat, V f 15 < Tp n → ∃ d : Int, dgs (V f 15) d := by
      intro n
      induction n with
      | zero => intro h; rw [show ((0 : Nat) : Int) = 0 from rfl, Tp_0] at h; omega
      | succ n ih =>
        intro h
        by_cases hn : V f 15 < Tp n
        · exact ih hn
        · refine ⟨(n : Int) + 1, Or.inr ⟨by omega, by rw [show (n : Int) + 1 - 1 = n by omega]; omega, ?_⟩⟩
          rw [show ((n + 1 : Nat) : Int) = (n : Int) + 1 by omega] at h
          exact h
    refine key 60 ?_
    have e : Tp ((60 : Nat) : Int) = Bp 15 := (Bp_Tp (i := 15) (by decide)).symm
    rw [e]; exact v.2
theorem Wh_le {f : Int → Int} {n : Int} (bf : bd f 15 0 9999) (h : Wh (V f 15) n) : n ≤ 36 := by
  obtain ⟨d, h1, h2⟩ := h
  have v := V_in bf (show (0 : Int) ≤ 15 by decide) (Int.le_refl 15)
  rcases h1 with ⟨g1, -⟩ | ⟨g1, g2, g3⟩
  · omega
  · have : d ≤ 60 := by
      refine Int.not_lt.mp (fun hh => ?_)
      have m := Tp_mono (a := 60) (b := d - 1) (by decide) (by omega)
      have e : Tp 60 = Bp 15 := (Bp_Tp (i := 15) (by decide)).symm
      omega
    omega
