/-! What the start gives: classes, constants, texts. -/
def FLn : List Cond := flatC (Jvm.Cond.and given_1 narrow_1)
def tmS (i : Nat) : Term := match i with
  | 0 => .string "ScaledNumeralDesk$Kind" 44
  | 1 => .string "ScaledNumeralDesk$Kind" 50
  | 2 => .string "ScaledNumeralDesk$Kind" 53
  | 3 => .string "ScaledNumeralDesk$Kind" 56
  | 4 => .string "ScaledNumeralDesk$Buffer" 19
  | 5 => .string "ScaledNumeralDesk$Buffer" 41
  | _ => .string "ScaledNumeralDesk$Buffer" 43
def nmK : List String := ["MINUS", "FINITE", "PLUS", "NAN"]
def tmK (i : Nat) : Term := .static "ScaledNumeralDesk$Kind" (nmK.getD i "") "LScaledNumeralDesk$Kind;"
def tmT : Term := .static "ScaledNumeralDesk" "TENS" "[I"
set_option maxRecDepth 100000 in
theorem fs_ex : ∀ i, i < 7 → Cond.exactly (tmS i) "java/lang/String" ∈ FLn := by decide +kernel
set_option maxRecDepth 100000 in
theorem fs_co : ∀ i, i < 7 → Cond.eq (.field (tmS i) "java/lang/String" "coder" "B") (.int 0) ∈ FLn := by decide +kernel
set_option maxRecDepth 100000 in
theorem fs_ar : ∀ i, i < 7 → Cond.arrayOf (.field (tmS i) "java/lang/String" "value" "[B") .byte ∈ FLn := by decide +kernel
set_option maxRecDepth 100000 in
theorem fs_le : ∀ i, i < 7 → Cond.eq (.length (.field (tmS i) "java/lang/String" "value" "[B")) (.int (Int32.ofNat (lenS.getD i 0))) ∈ FLn := by decide +kernel
set_option maxRecDepth 100000 in
theorem fs_el : ∀ i, i < 7 → ∀ j, j < lenS.getD i 0 → Cond.eq (.elem (.field (tmS i) "java/lang/String" "value" "[B") (.int (Int32.ofNat j))) (.int ((bytS.getD i []).getD j 0)) ∈ FLn := by decide +kernel
set_option maxRecDepth 100000 in
theorem fs_ne : ∀ i, i < 7 → ∀ j, j < 7 → i ≠ j → (Cond.not (Cond.eq (tmS i) (tmS j)) ∈ FLn ∨ Cond.not (Cond.eq (tmS j) (tmS i)) ∈ FLn) := by decide +kernel
theorem fs_n : ∀ i, i < 7 → lenS.getD i 0 < 2 ^ 31 := by decide +kernel
set_option maxRecDepth 100000 in
theorem fe_ex : ∀ i, i < 4 → Cond.exactly (tmK i) "ScaledNumeralDesk$Kind" ∈ FLn := by decide +kernel
set_option maxRecDepth 100000 in
theorem fe_rk : ∀ i, i < 4 → Cond.eq (.field (tmK i) "ScaledNumeralDesk$Kind" "rank" "I") (.int (([0, 1, 2, 3] : List Int32).getD i 0)) ∈ FLn := by decide +kernel
set_option maxRecDepth 100000 in
theorem fe_tx : ∀ i, i < 4 → Cond.eq (.field (tmK i) "ScaledNumeralDesk$Kind" "text" "Ljava/lang/String;") (tmS i) ∈ FLn := by decide +kernel
set_option maxRecDepth 100000 in
theorem fe_ne : ∀ i, i < 4 → ∀ j, j < 4 → i ≠ j → (Cond.not (Cond.eq (tmK i) (tmK j)) ∈ FLn ∨ Cond.not (Cond.eq (tmK j) (tmK i)) ∈ FLn) := by decide +kernel
set_option maxRecDepth 100000 in
theorem ft_ar : Cond.arrayOf tmT .int ∈ FLn := by decide +kernel
set_option maxRecDepth 100000 in
theorem ft_le : Cond.eq (.length tmT) (.int 4) ∈ FLn := by decide +kernel
set_option maxRecDepth 100000 in
theorem ft_el : ∀ j, j < 4 → Cond.eq (.elem tmT (.int (Int32.ofNat j))) (.int (iI (tens j))) ∈ FLn := by decide +kernel
set_option maxRecDepth 100000 in
theorem fo_cs : Cond.eq (.static "java/lang/String" "COMPACT_STRINGS" "Z") (.int 1) ∈ FLn := by decide +kernel
set_option maxRecDepth 100000 in
theorem fo_sf : Cond.isRef (.static "jdk/internal/util/Preconditions" "SIOOBE_FORMATTER" "Ljava/util/function/BiFunction;") ∈ FLn := by decide +kernel
def sel7 {α : Type} (a b c d e f g : α) (i : Nat) : α := match i with
  | 0 => a
  | 1 => b
  | 2 => c
  | 3 => d
  | 4 => e
  | 5 => f
  | _ => g
def zgF (t : Nat) (aE aK aV : Nat → Nat) (k : Nat) : Nat := if k = 0 then t else if k < 5 then aE (k - 1) else if k < 12 then aK (k - 5) else aV (k - 12)
theorem zgF_E (t : Nat) (aE aK aV : Nat → Nat) {i : Nat} (h : i < 4) : zgF t aE aK aV (1 + i) = aE i := by
  unfold zgF
  rw [if_neg (by omega), if_pos (by omega)]
  exact congrArg aE (by omega)
theorem zgF_K (t : Nat) (aE aK aV : Nat → Nat) {i : Nat} (h : i < 7) : zgF t aE aK aV (5 + i) = aK i := by
  unfold zgF
  rw [if_neg (by omega), if_neg (by omega), if_pos (by omega)]
  exact congrArg aK (by omega)
theorem zgF_V (t : Nat) (aE aK aV : Nat → Nat) {i : Nat} : zgF t aE aK aV (12 + i) = aV i := by
  unfold zgF
  rw [if_neg (by omega), if_neg (by omega), if_neg (by omega)]
  exact congrArg aV (by omega)
theorem En_c {E d : String} {nm : List String} {F : List (String × String × String × List Int32)} {ad ad' : Nat → Nat} {A : Nat → Prop} {U : State} {H : Heap} (h : va_En E d nm F ad A U H) (e : ∀ i, i < nm.length → ad' i = ad i) : va_En E d nm F ad' A U H :=
  ⟨fun i hi => by rw [e i hi]; exact h.1 i hi, fun i j hi hj => by rw [e i hi, e j hj]; exact h.2 i j hi hj⟩
theorem Sk_c {N : Nat} {len : List Nat} {byt : List (List Int32)} {adK adV adK' adV' : Nat → Nat} {A : Nat → Prop} {U : State} {H : Heap} (h : vk_S N len byt adK adV A U H) (e : ∀ i, i < N → adK' i = adK i) (e2 : ∀ i, i < N → adV' i = adV i) : vk_S N len byt adK' adV' A U H :=
  ⟨fun i hi => by rw [e i hi, e2 i hi]; exact h.1 i hi, fun i j hi hj => by rw [e i hi, e j hj]; exact h.2 i j hi hj⟩
theorem ar_of {s : State} {b : Array Value} {ty : FieldType} (h : (Cond.arrayClass ty).before b s = true) : ∃ cA : ClassId, ArrOfT s cA ty ∧ s.vm.findClass ("[" ++ ty.toString) = some cA := by
  obtain ⟨c, k, comp, h1, h2, h3⟩ := Cond.arrayClass_spec h
  exact ⟨c, fun n z => ⟨fun k h => (by cases h), k, h2, comp, h3⟩, h1⟩
theorem ar_oq {s : State} {C : String} (h : va_AO C s) : ∃ cA : ClassId, ArrOfT s cA (.object C) ∧ va_RA s cA (.object C) := by
  obtain ⟨comp, c, k, h1, h2, h3, h4, h5⟩ := Cond.arrayOver_spec h
  exact ⟨c, fun n z => ⟨fun k h => (by cases h), k, h3, comp, h4⟩, k, comp, h3, h4, h1, h5⟩
set_option maxHeartbeats 4000000 in
set_option maxRecDepth 100000 in
theorem st_const {s : State} {b : Nat} (hts : ∀ w ∈ lw_tbl, w.before #[Value.ref b] s = true) (hgv : (Jvm.Cond.and given_1 narrow_1).before #[Value.ref b] s = true) : ∃ E : zE, zK E s ∧ zG E (lA s) s s.heap ∧ zN E s ∧ zO s := by
  have hs : ∀ w ∈ FLn, w.before #[Value.ref b] s = true := flat_of_before _ hgv
  have hg : ∀ w ∈ GW, w.before #[Value.ref b] s = true := fun w h => hts w (List.mem_filter.mp h).1
  have hA : ∀ a : Nat, a < s.heap.size → ¬ lA s a := fun a h1 h2 => Nat.not_le.mpr h1 h2
  obtain ⟨cA, iA, kA⟩ := u_known hg uA_in (hg _ wm_37)
  obtain ⟨cN, iN, kN⟩ := u_known hg uN_in (hg _ wm_29)
  obtain ⟨cS, iS, kS⟩ := u_known hg uS_in (hg _ wm_78)
  obtain ⟨cU, iU, kU⟩ := u_known hg uU_in (hg _ wm_96)
  obtain ⟨cB, iB, kB⟩ := u_known hg uB_in (hg _ wm_110)
  obtain ⟨cD, iD, kD⟩ := u_known hg uD_in (hg _ wm_20)
  obtain ⟨cM, iM, kM⟩ := u_known hg uM_in (hg _ wm_677)
  obtain ⟨a_int, r_int, n_int⟩ := ar_of (hg _ wm_54)
  obtain ⟨a_char, r_char, n_char⟩ := ar_of (hg _ wm_108)
  obtain ⟨a_boolean, r_boolean, n_boolean⟩ := ar_of (hg _ wm_734)
  have oN : va_AO "ScaledNumeralDesk$Numeral" s := va_AO.of (hts _ (List.mem_append_right _ (List.mem_of_getElem? (i := 28) (by decide +kernel))))
  have oS : va_AO "ScaledNumeralDesk$Sum" s := va_AO.of (hts _ (List.mem_append_right _ (List.mem_of_getElem? (i := 77) (by decide +kernel))))
  obtain ⟨a_N, r_N, n_N⟩ := ar_oq oN
  obtain ⟨a_S, r_S, n_S⟩ := ar_oq oS
  obtain ⟨t, tv, tT⟩ := va_Tof (args := #[Value.ref b]) (tm := tmT) (ty := .int) (N := 4) (f := fun j => .int (iI (tens j))) (A := lA s) (by decide) (hs _ ft_ar) (va_eqv (hs _ ft_le) rfl) (fun j hj => va_eqv (hs _ (ft_el j hj)) rfl) hA
  have tZ := va_Zof (A := lA s) (hts _ (List.mem_append_right _ (List.mem_of_getElem? (i := 285) (by decide +kernel)))) (hts _ (List.mem_append_right _ (List.mem_of_getElem? (i := 1) (by decide +kernel)))) tv hA
  have lays : ∀ i, i < nmK.length → (Cond.laysStatic "ScaledNumeralDesk$Kind" (nmK.getD i "") "LScaledNumeralDesk$Kind;").before #[Value.ref b] s = true := by
    intro i hi
    rcases (show i = 0 ∨ i = 1 ∨ i = 2 ∨ i = 3 by have : i < 4 := hi; omega) with rfl | rfl | rfl | rfl
    · exact (hts _ (List.mem_append_right _ (List.mem_of_getElem? (i := 249) (by decide +kernel))))
    · exact (hts _ (List.mem_append_right _ (List.mem_of_getElem? (i := 35) (by decide +kernel))))
    · exact (hts _ (List.mem_append_right _ (List.mem_of_getElem? (i := 251) (by decide +kernel))))
    · exact (hts _ (List.mem_append_right _ (List.mem_of_getElem? (i := 226) (by decide +kernel))))
  obtain ⟨aE, hE, vE⟩ := va_Enof2 (args := #[Value.ref b]) (E := "ScaledNumeralDesk$Kind") (d := "LScaledNumeralDesk$Kind;") (nm := nmK) (F := [("ScaledNumeralDesk$Kind", "rank", "I", [0, 1, 2, 3])]) (A := lA s) lays (hts _ (List.mem_append_right _ (List.mem_of_getElem? (i := 4) (by decide +kernel)))) (fun i hi => hs _ (fe_ex i hi))
    (fun q hq i hi => by cases List.mem_singleton.mp hq; exact hs _ (fe_rk i hi)) (fun i j hi hj hne => (fe_ne i hi j hj hne).imp (hs _) (hs _)) hA
  obtain ⟨aK, aV, hK, vK⟩ := vk_Sof (args := #[Value.ref b]) (N := 7) (tm := tmS) (len := lenS) (byt := bytS) (A := lA s) fs_n (fun i hi => hs _ (fs_ex i hi)) (fun i hi => hs _ (fs_co i hi)) (fun i hi => hs _ (fs_ar i hi)) (fun i hi => hs _ (fs_le i hi)) (fun i hi j hj => hs _ (fs_el i hi j hj)) (fun i j hi hj hne => (fs_ne i hi j hj hne).imp (hs _) (hs _)) hA
  have hT := va_Efof (args := #[Value.ref b]) (N := 4) (E := "ScaledNumeralDesk$Kind") (d0 := "LScaledNumeralDesk$Kind;") (o := "ScaledNumeralDesk$Kind") (n := "text") (d := "Ljava/lang/String;") (nm := nmK) (v := fun i => .ref (aK i)) (tm := tmS) (ad := aE) (A := lA s) (fun i hi => vE i hi) (fun i hi => hs _ (fe_tx i hi)) (fun i hi => vK i (by omega)) hA
  have cZ := va_Zof (v := .int 1) (A := lA s) (hts _ (List.mem_append_right _ (List.mem_of_getElem? (i := 183) (by decide +kernel)))) (hts _ (List.mem_append_right _ (List.mem_of_getElem? (i := 10) (by decide +kernel)))) (va_eqv (hs _ fo_cs) rfl) hA
  have sZ := va_Zqof (A := lA s) (hts _ (List.mem_append_right _ (List.mem_of_getElem? (i := 202) (by decide +kernel)))) (hts _ (List.mem_append_right _ (List.mem_of_getElem? (i := 12) (by decide +kernel)))) (hs _ fo_sf) hA
  refine ⟨((sel7 cA cN cS cU cB cD cM, sel7 iA iN iS iU iB iD iM), fun _ => 0, 0, sel7 a_int a_char a_boolean a_N a_S 0 0, zgF t aE aK aV), ⟨?_, ?_⟩, ⟨tZ, tT, En_c hE (fun i hi => zgF_E t aE aK aV hi), fun i hi => ?_, Sk_c hK (fun i hi => zgF_K t aE aK aV hi) (fun i hi => zgF_V t aE aK aV), cZ, sZ⟩, ⟨va_Nw.of rfl (hts _ (List.mem_append_right _ (List.mem_of_getElem? (i := 289) (by decide +kernel)))), va_Nw.of rfl (hts _ (List.mem_append_right _ (List.mem_of_getElem? (i := 284) (by decide +kernel)))), ?_, ?_, ?_⟩, ⟨oN, oS, va_Nw.of rfl (hts _ (List.mem_append_right _ (List.mem_of_getElem? (i := 38) (by decide +kernel)))), va_Nw.of rfl (hts _ (List.mem_append_right _ (List.mem_of_getElem? (i := 84) (by decide +kernel)))), va_Nw.of rfl (hts _ (List.mem_append_right _ (List.mem_of_getElem? (i := 30) (by decide +kernel)))), va_Nw.of rfl (hts _ (List.mem_append_right _ (List.mem_of_getElem? (i := 79) (by decide +kernel)))), va_Nw.of rfl (hts _ (List.mem_append_right _ (List.mem_of_getElem? (i := 97) (by decide +kernel)))), va_Nw.of rfl (hts _ (List.mem_append_right _ (List.mem_of_getElem? (i := 111) (by decide +kernel))))⟩⟩
  · intro c q hq
    have hc : c < 7 := (List.getElem?_eq_some_iff.mp hq).1
    rcases (show c = 0 ∨ c = 1 ∨ c = 2 ∨ c = 3 ∨ c = 4 ∨ c = 5 ∨ c = 6 by omega) with rfl | rfl | rfl | rfl | rfl | rfl | rfl
    · cases hq; exact kA
    · cases hq; exact kN
    · cases hq; exact kS
    · cases hq; exact kU
    · cases hq; exact kB
    · cases hq; exact kD
    · cases hq; exact kM
  · intro k q hq
    have hc : k < 5 := (List.getElem?_eq_some_iff.mp hq).1
    rcases (show k = 0 ∨ k = 1 ∨ k = 2 ∨ k = 3 ∨ k = 4 by omega) with rfl | rfl | rfl | rfl | rfl
    · cases hq; exact ⟨r_int, n_int⟩
    · cases hq; exact ⟨r_char, n_char⟩
    · cases hq; exact ⟨r_boolean, n_boolean⟩
    · cases hq; exact ⟨r_N, n_N⟩
    · cases hq; exact ⟨r_S, n_S⟩
  · show va_OF _ _ _ (.ref (zgF t aE aK aV (5 + i))) (zgF t aE aK aV (1 + i)) _ _ _
    rw [zgF_E t aE aK aV hi, zgF_K t aE aK aV (by omega)]
    exact hT i hi
  · exact vk_R.of (hts _ (List.mem_append_right _ (List.mem_of_getElem? (i := 169) (by decide +kernel)))) (vK 4 (by decide))
  · exact vk_R.of (hts _ (List.mem_append_right _ (List.mem_of_getElem? (i := 242) (by decide +kernel)))) (vK 5 (by decide))
  · exact vk_R.of (hts _ (List.mem_append_right _ (List.mem_of_getElem? (i := 243) (by decide +kernel)))) (vK 6 (by decide))
