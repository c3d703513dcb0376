/-! Worlds as lists, for what makes cells: the constructors. -/
theorem P_mem {D : va_G} {cl : List vw_C} {ws ws' : va_W} {H : Heap} (h : va_P D cl ws H) (hp : ∀ q ∈ ws', q ∈ ws) : va_P D cl ws' H := fun k q hk => by
  obtain ⟨i, hi⟩ := List.getElem?_of_mem (hp q (List.mem_of_getElem? hk))
  exact h i q hi
theorem D_nd {A : Nat → Prop} {ws : va_W} (h : va_D A ws) : (ws.map Prod.fst).Nodup := by
  refine List.pairwise_iff_getElem.mpr (fun i j hi hj hij he => ?_)
  rw [List.length_map] at hi hj
  rw [List.getElem_map, List.getElem_map] at he
  have := h.1 i j ws[i] ws[j] (List.getElem?_eq_getElem hi) (List.getElem?_eq_getElem hj) he
  omega
theorem D_of {A : Nat → Prop} {ws : va_W} (h : (ws.map Prod.fst).Nodup) (hA : ∀ q ∈ ws, A q.1) : va_D A ws := by
  refine ⟨fun i j p q hi hj he => ?_, fun k q hk => hA q (List.mem_of_getElem? hk)⟩
  have h1 : (ws.map Prod.fst)[i]? = some p.1 := by rw [List.getElem?_map, hi]; rfl
  have h2 : (ws.map Prod.fst)[j]? = some q.1 := by rw [List.getElem?_map, hj]; rfl
  have hl : i < (ws.map Prod.fst).length := (List.getElem?_eq_some_iff.mp h1).1
  exact (List.getElem?_inj hl h).mp (by rw [h1, h2, he])
theorem D_perm {A : Nat → Prop} {ws ws' : va_W} (h : va_D A ws) (hp : List.Perm ws' ws) : va_D A ws' :=
  D_of ((hp.map Prod.fst).nodup_iff.mpr (D_nd h)) (fun q hq => by
    obtain ⟨i, hi⟩ := List.getElem?_of_mem (hp.mem_iff.mp hq)
    exact h.2 i q hi)
/-- the heap holds the cells ws; since the start nothing outside A has changed -/
def zL (E : zE) (ws : va_W) (A : Nat → Prop) (H0 H : Heap) (locs : List Loc) : Prop := va_P (zD E) vwCl ws H ∧ va_D A ws ∧ va_S A H0 H locs
theorem zL.perm {E : zE} {ws ws' : va_W} {A : Nat → Prop} {H0 H : Heap} {locs : List Loc} (h : zL E ws A H0 H locs) (hp : List.Perm ws' ws) : zL E ws' A H0 H locs :=
  ⟨P_mem h.1 (fun _ hq => hp.mem_iff.mp hq), D_perm h.2.1 hp, h.2.2⟩
theorem perm_new {α : Type} (x : α) (l : List α) : List.Perm (x :: l) (l ++ [x]) := (List.perm_append_comm (l₁ := l) (l₂ := [x])).symm
/-- front cells change places with those behind them -/
theorem perm_fr {α : Type} (a b l : List α) : List.Perm (b ++ (a ++ l)) (a ++ (b ++ l)) := by
  rw [← List.append_assoc, ← List.append_assoc]
  exact List.perm_append_comm.append_right l
def zO (U : State) : Prop := va_AO "ScaledNumeralDesk$Numeral" U ∧ va_AO "ScaledNumeralDesk$Sum" U ∧ va_Nw (.methodLinkNest "ScaledNumeralDesk$Numeral" 22 y_A_init "ScaledNumeralDesk") U ∧ va_Nw (.methodLinkNest "ScaledNumeralDesk$Sum" 11 y_A_init "ScaledNumeralDesk") U ∧ va_Nw (.methodLinkNest "ScaledNumeralDesk" 15 y_N_init "ScaledNumeralDesk") U ∧ va_Nw (.methodLinkNest "ScaledNumeralDesk" 22 y_S_init "ScaledNumeralDesk") U ∧ va_Nw (.methodLinkNest "ScaledNumeralDesk" 25 y_U_init "ScaledNumeralDesk") U ∧ va_Nw (.methodLinkNest "ScaledNumeralDesk" 32 y_B_init "ScaledNumeralDesk") U
theorem zO.warm {u U : State} (hW : u.WarmedH U.vm) (h : zO u) : zO U := ⟨va_AO.moved hW.alike h.1, va_AO.moved hW.alike h.2.1, va_Nw.warmM hW h.2.2.1, va_Nw.warmM hW h.2.2.2.1, va_Nw.warmM hW h.2.2.2.2.1, va_Nw.warmM hW h.2.2.2.2.2.1, va_Nw.warmM hW h.2.2.2.2.2.2.1, va_Nw.warmM hW h.2.2.2.2.2.2.2⟩
theorem zO.same {u U : State} (hv : u.vm = U.vm) (h : zO u) : zO U := ⟨va_AO.moved (by rw [hv]; exact Vm.Alike.refl _) h.1, va_AO.moved (by rw [hv]; exact Vm.Alike.refl _) h.2.1, va_Nw.same rfl hv h.2.2.1, va_Nw.same rfl hv h.2.2.2.1, va_Nw.same rfl hv h.2.2.2.2.1, va_Nw.same rfl hv h.2.2.2.2.2.1, va_Nw.same rfl hv h.2.2.2.2.2.2.1, va_Nw.same rfl hv h.2.2.2.2.2.2.2⟩
def zPi (E : zE) (ws : va_W) (sz : Nat) (U : State) : Prop :=
  U.heap.size = sz ∧ va_P (zD E) vwCl ws U.heap ∧ zK E U ∧ va_D (fun _ => True) ws ∧ zG E (va_A ws sz) U U.heap ∧ zO U
def zBi (E : zE) (ws ws1 : va_W) (sz : Nat) (u : va_W) (t : State) : Prop := va_P (zD E) vwCl (u ++ ws1) t.heap ∧ va_D (va_A ws sz) (u ++ ws1)
/-- a constructor's contract: its own cell first, the others behind it -/
def zMi (l : Launch) (y : MethodName) (wd : List Cond) (rm : Room) (E : zE) (h0 : Nat) (c0 : va_E) (ws : va_W) (post : va_W → Prop) (mc ms : Nat) : Prop :=
  ∀ sz : Nat, Met l y wd rm (va_Pc [.ref h0] (zPi E ((h0, c0) :: ws) sz)) (va_Qv post (zBi E ((h0, c0) :: ws) ws sz) (va_A ((h0, c0) :: ws) sz)) mc ms (va_A ((h0, c0) :: ws) sz)
theorem zi_met {l : Launch} {y : MethodName} {wd wd' : List Cond} {rm : Room} {E : zE} {h0 : Nat} {c0 : va_E} {ws : va_W} {post : va_W → Prop} {mc ms : Nat} {cc : ByteArray} {maxL : Nat}
    (hy : plainFor y = true) (hw : wd = Cond.code y cc maxL none :: wd') (hl : 1 ≤ maxL)
    (body : ∀ (p : Program) (e : Env) (s : State) (m : MethodId) (below : List Frame) (meth : Method) (c : Code) (ls : Array Slot) (a : Array Value) (Qf : State → Prop), Qf = MQ below (va_Qv post (zBi E ((h0, c0) :: ws) ws s.heap.size) (va_A ((h0, c0) :: ws) s.heap.size)) a s mc ms (va_A ((h0, c0) :: ws) s.heap.size) →
      (p.tables.exec = Jvm.exec ∧ c.code = cc ∧ c.maxLocals = maxL ∧ s.vm.findClass y.cls = some m.cls ∧ ∀ w ∈ wd, w.before a s = true) → meth.sig.returnType = none → meth.locks = false → meth.name = y.name → zK E s → zG E (va_A ((h0, c0) :: ws) s.heap.size) s s.heap → zO s → lv_has ls maxL (lv_args 0 [.ref h0]) → zL E ((h0, c0) :: ws) (va_A ((h0, c0) :: ws) s.heap.size) s.heap s.heap [] →
      W p l e rm s m a below meth c s.heap [] 0 0 Qf (F0 m 0 ls [])) : zMi l y wd rm E h0 c0 ws post mc ms := by
  intro sz
  refine va_MetF (cc := cc) (maxL := maxL) (ret := none) hy hw ?_
  intro p e s m args below meth c s₁ B hml hv
  obtain ⟨rfl, hsz, hP, hK, hD0, hG, hO⟩ := hv
  subst hsz
  rw [lg_entry_eq]
  exact body p e s m below meth c _ _ _ rfl ⟨B.exec, B.bytes, hml, findClass_of_methodNamed B.named, atoms_spec (ws := wd) B.pre⟩ B.returns B.notSynchronized (name_of_methodNamed B.named B.method).1 hK hG hO (lv_entry [.ref h0] hl) ⟨hP, hD0.self, va_S.rf⟩
section ZI
variable {p : Program} {l : Launch} {e : Env} {R : Room} {s : State} {m : MethodId} {args : Array Value} {below : List Frame} {meth : Method} {c : Code} {H : Heap} {locs : List Loc} {cells slots : Nat} {Q : State → Prop}
variable {cc : ByteArray} {pc : Nat} {ls : Array Slot} {rest st0 : List Value} {E : zE} {ws : va_W} {A : Nat → Prop} {H0 : Heap}
theorem zi_new (hexec : p.tables.exec = Jvm.exec) (hb : c.code = cc) {own C : String} {T : u_T} {N ci index : Nat} (hg : ∀ w ∈ GW, w.before args s = true) (hin : ∀ w ∈ u_ws C T N, w ∈ GW) (ty : Nat → FieldType) (hty : ∀ k, k < N → parseFieldDescriptor (T k).2.2.1 = some (ty k)) (hown : s.vm.findClass own = some m.cls) (hcl : (Cond.classLink own index C).before args s = true) (hinst : (Cond.instantiable C N).before args s = true) (hini : (Cond.initialized C).before args s = true)
    (hK : zK E s) (hL : zL E ws A H0 H locs) (hA : ∀ q, H0.size ≤ q → A q) (hc : vwCl[ci]? = some (C, T, N)) {fs : List Value} (hfs : ∀ j, j < N → defaultValue (ty j) = vp_V fs j) (hcells : cells + 1 ≤ R.cells) (hslots : slots + N ≤ R.slots) (hdg : decode cc pc = .ok (.new index, 3))
    (kk : ∀ (q : Nat) (H1 : Heap), zL E ((q, .inr (ci, fs)) :: ws) A H0 H1 locs → W p l e R s m args below meth c H1 locs (cells + 1) (slots + N) Q (F0 m (pc + 3) ls (.ref q :: rest))) : W p l e R s m args below meth c H locs cells slots Q (F0 m pc ls rest) :=
  va_new hexec hb hg hin ty hty hown hcl hinst hini hK hL.1 hL.2.1 hL.2.2 hA hc hfs hcells hslots hdg (fun q H1 hP hD hS => kk q H1 (zL.perm ⟨hP, hD, hS⟩ (perm_new _ _)))
theorem zi_newa (hexec : p.tables.exec = Jvm.exec) (hb : c.code = cc) {atype : ArrayType} (harr : (Cond.arrayClass (newarray.typeOf atype)).before args s = true) {ty : FieldType} (hty : newarray.typeOf atype = ty) {t : Nat} (ht : (ztys E)[t]? = some (ca E t, ty)) {nm : String} (hnm : ∀ x, va_RA s x ty → s.vm.findClass nm = some x)
    (hK : zK E s) (hL : zL E ws A H0 H locs) (hA : ∀ q, H0.size ≤ q → A q) {n : Int} {N : Nat} (ha : ∀ cA : ClassId, vp_cell cA (N, .inl (ar (fun _ => 0))) = arrV cA N (fun _ => defaultValue ty)) (hn : ¬ iI n < 0) (hN : (iI n).toNatClampNeg = N) (hbytes : N * componentBytes ty ≤ 536870912) (hcells : cells + 1 ≤ R.cells) (hslots : slots + N ≤ R.slots) (hdg : decode cc pc = .ok (.newarray atype, 2))
    (kk : ∀ (q : Nat) (H1 : Heap), zL E ((q, .inl (ca E t, N, .inl (ar (fun _ => 0)))) :: ws) A H0 H1 locs → W p l e R s m args below meth c H1 locs (cells + 1) (slots + N) Q (F0 m (pc + 2) ls (.ref q :: rest))) : W p l e R s m args below meth c H locs cells slots Q (F0 m pc ls (.int (iI n) :: rest)) :=
  va_newa hexec hb harr hty hK hL.1 hL.2.1 hL.2.2 hA (a0 := (N, .inl (ar (fun _ => 0)))) ha hn hN hbytes hcells hslots hdg (fun q cA H1 hK1 hP hD hS => by
    have e1 := hnm cA (hK1.2 5 (cA, ty) rfl).2
    have e2 := hnm (ca E t) (hK.2 t _ ht).2
    have e3 : cA = ca E t := Option.some.inj (e1.symm.trans e2)
    subst e3
    exact kk q H1 (zL.perm ⟨hP, hD, hS⟩ (perm_new _ _)))
theorem zi_newq (hexec : p.tables.exec = Jvm.exec) (hb : c.code = cc) {own C : String} {index : Nat} (hown : s.vm.findClass own = some m.cls) (hclink : (Cond.classLink own index C).before args s = true) (hover : va_AO C s) {t : Nat} (ht : (ztys E)[t]? = some (ca E t, .object C))
    (hK : zK E s) (hL : zL E ws A H0 H locs) (hA : ∀ q, H0.size ≤ q → A q) {n : Int} {N : Nat} (hn : ¬ iI n < 0) (hN : (iI n).toNatClampNeg = N) (hbytes : N * 4 ≤ 536870912) (hcells : cells + 1 ≤ R.cells) (hslots : slots + N ≤ R.slots) (hdg : decode cc pc = .ok (.anewarray index, 3))
    (kk : ∀ (q : Nat) (H1 : Heap), zL E ((q, zaq E t N (fun _ => none)) :: ws) A H0 H1 locs → W p l e R s m args below meth c H1 locs (cells + 1) (slots + N) Q (F0 m (pc + 3) ls (.ref q :: rest))) : W p l e R s m args below meth c H locs cells slots Q (F0 m pc ls (.int (iI n) :: rest)) :=
  va_newq hexec hb hown hclink hover hK hL.1 hL.2.1 hL.2.2 hA hn hN hbytes hcells hslots hdg (fun q cA H1 hK1 hP hD hS => by
    obtain ⟨_, _, _, _, _, e1⟩ := (hK1.2 5 (cA, .object C) rfl).2
    obtain ⟨_, _, _, _, _, e2⟩ := (hK.2 t _ ht).2
    have e3 : cA = ca E t := Option.some.inj (e1.symm.trans e2)
    subst e3
    exact kk q H1 (zL.perm ⟨hP, hD, hS⟩ (perm_new _ _)))
theorem zi_astq (hexec : p.tables.exec = Jvm.exec) (hb : c.code = cc) (hK : zK E s) (hL : zL E ws A H0 H locs) (q0 t qk ci : Nat) {r : vw_C} {n a v : Nat} {vs : List Value} {f : Nat → Option Nat} (ha : ws[q0]? = some (a, zaq E t n f)) (ht : (ztys E)[t]? = some (ca E t, .object r.1)) (hv : ws[qk]? = some (v, .inr (ci, vs))) (hc : vwCl[ci]? = some r) {i : Nat} {j : Int} (hj : j = (i : Int)) (hi : i < n) (hn : n < 2147483648) (hdg : decode cc pc = .ok (.aastore, 1)) {ws' : va_W} (hws : ws.set q0 (a, zaq E t n (va_up f i (some v))) = ws')
    (kk : ∀ (H1 : Heap) (locs1 : List Loc), zL E ws' A H0 H1 locs1 → W p l e R s m args below meth c H1 locs1 cells slots Q (F0 m (pc + 1) ls rest)) : W p l e R s m args below meth c H locs cells slots Q (F0 m pc ls (.ref v :: .int (iI j) :: .ref a :: rest)) := by
  subst hj
  exact va_astq hexec hb hK hL.1 hL.2.1 hL.2.2 q0 t qk ci ha ht hv hc (iI_in (i := (i : Int)) (by omega) (by omega) hn) hdg (fun H1 locs1 hP hD hS => by
    have e9 := iI_cl (i := (i : Int)) (by omega) (by omega)
    rw [show (iI (i : Int)).toNatClampNeg = i by omega] at hP hD
    rw [← hws] at kk
    exact kk H1 locs1 ⟨hP, hD, hS⟩)
theorem zi_put (hexec : p.tables.exec = Jvm.exec) (hb : c.code = cc) {own ref C : String} {T : u_T} {N ci index : Nat} (hg : ∀ w ∈ GW, w.before args s = true) (hin : ∀ w ∈ u_ws C T N, w ∈ GW) (ty0 : Nat → FieldType) (hty : ∀ k, k < N → parseFieldDescriptor (T k).2.2.1 = some (ty0 k)) (hnm : ∀ a, a < N → ∀ b, b < N → a ≠ b → (T a).2.1 ≠ (T b).2.1) (hown : s.vm.findClass own = some m.cls) (hK : zK E s) (hL : zL E ws A H0 H locs) (q0 : Nat) {a : Nat} {fs : List Value} (he : ws[q0]? = some (a, .inr (ci, fs))) (hc : vwCl[ci]? = some (C, T, N)) (k : Nat) (hk : k < N)
    (hlink : (Cond.fieldLink own index ref (T k).2.1 (T k).2.2.1).before args s = true) (hsame : ∀ x, s.fieldFound? (T k).1 (T k).2.1 (T k).2.2.1 = some x → s.fieldFound? ref (T k).2.1 (T k).2.2.1 = some x) (hfin : (T k).2.2.2 = false ∨ ((T k).2.2.2 = true ∧ meth.name = "<init>" ∧ (T k).1 = own)) {ty : FieldType} {v : Value} (hd : parseFieldDescriptor (T k).2.2.1 = some ty) (hn : narrow ty v = v) (hfit : fits ty v = true) (hl : k < fs.length) (hdg : decode cc pc = .ok (.putfield index, 3)) {ws' : va_W} (hws : ws.set q0 (a, .inr (ci, fs.set k v)) = ws')
    (kk : ∀ (H1 : Heap) (locs1 : List Loc), zL E ws' A H0 H1 locs1 → W p l e R s m args below meth c H1 locs1 cells slots Q (F0 m (pc + 3) ls rest)) : W p l e R s m args below meth c H locs cells slots Q (F0 m pc ls (v :: .ref a :: rest)) := by
  rw [← hws] at kk
  rcases hfin with h | ⟨h1, h2, h3⟩
  · exact va_put hexec hb hg hin ty0 hty hnm hown hK hL.1 hL.2.1 hL.2.2 q0 he hc k hk hlink hsame h hd hn hfit hl hdg (fun H1 locs1 hP hD hS => kk H1 locs1 ⟨hP, hD, hS⟩)
  · exact va_putF hexec hb hg hin ty0 hty hnm hown hK hL.1 hL.2.1 hL.2.2 q0 he hc k hk hlink hsame h1 h2 h3 hd hn hfit hl hdg (fun H1 locs1 hP hD hS => kk H1 locs1 ⟨hP, hD, hS⟩)
theorem zi_get (hexec : p.tables.exec = Jvm.exec) (hb : c.code = cc) {own ref C : String} {T : u_T} {N ci index : Nat} (hg : ∀ w ∈ GW, w.before args s = true) (hin : ∀ w ∈ u_ws C T N, w ∈ GW) (hown : s.vm.findClass own = some m.cls) (hK : zK E s) (hL : zL E ws A H0 H locs) (q0 : Nat) {a : Nat} {fs : List Value} (he : ws[q0]? = some (a, .inr (ci, fs))) (hc : vwCl[ci]? = some (C, T, N)) (k : Nat) (hk : k < N)
    (hlink : (Cond.fieldLink own index ref (T k).2.1 (T k).2.2.1).before args s = true) (hsame : ∀ x, s.fieldFound? (T k).1 (T k).2.1 (T k).2.2.1 = some x → s.fieldFound? ref (T k).2.1 (T k).2.2.1 = some x) {v : Value} (hv : fs[k]? = some v) (hdg : decode cc pc = .ok (.getfield index, 3)) (kk : W p l e R s m args below meth c H locs cells slots Q (F0 m (pc + 3) ls (v :: rest))) : W p l e R s m args below meth c H locs cells slots Q (F0 m pc ls (.ref a :: rest)) :=
  va_get hexec hb hg hin hown hK hL.1 q0 he hc k hk hlink hsame hv hdg kk
theorem zi_kind (hexec : p.tables.exec = Jvm.exec) (hb : c.code = cc) (hG : zG E A s s.heap) (hL : zL E ws A s.heap H locs) {own ref : String} {index : Nat} (hown : s.vm.findClass own = some m.cls) (k : Nat) (hk : k < 4) (hlink : (Cond.fieldLink own index ref (["MINUS", "FINITE", "PLUS", "NAN"].getD k "") "LScaledNumeralDesk$Kind;").before args s = true) (hsame : ∀ x, s.fieldFound? "ScaledNumeralDesk$Kind" (["MINUS", "FINITE", "PLUS", "NAN"].getD k "") "LScaledNumeralDesk$Kind;" = some x → s.fieldFound? ref (["MINUS", "FINITE", "PLUS", "NAN"].getD k "") "LScaledNumeralDesk$Kind;" = some x) (hdg : decode cc pc = .ok (.getstatic index, 3)) (kk : W p l e R s m args below meth c H locs cells slots Q (F0 m (pc + 3) ls (.ref (zg E (1 + k)) :: rest))) : W p l e R s m args below meth c H locs cells slots Q (F0 m pc ls rest) :=
  va_gets hexec hb (hG.2.2.1.1 k hk).1 hL.2.2 hown hlink hsame hdg kk
theorem zi_in (hL : zL E ws A s.heap H locs) (hA : ∀ q, s.heap.size ≤ q → A q) : ∀ q, va_A ws H.size q → A q := by
  intro q hq
  rcases hq with ⟨k, e9, h⟩ | h
  · exact hL.2.1.2 k (q, e9) h
  · exact hA q (Nat.le_trans hL.2.2.1 h)
theorem zi_pre {h0 : Nat} {c0 : va_E} (hK : zK E s) (hG : zG E A s s.heap) (hO : zO s) (hL : zL E ((h0, c0) :: ws) A s.heap H locs) (hA : ∀ q, s.heap.size ≤ q → A q) : PreS s H (va_Pc [.ref h0] (zPi E ((h0, c0) :: ws) H.size)) [.ref h0] := by
  refine ⟨fun a U g mk q => ?_, fun U hU hW => ⟨rfl, by rw [hU], by rw [hU]; exact hL.1, va_K.moved hW.alike hK, hL.2.1.weaken (fun _ _ _ _ => trivial), ?_, zO.warm hW hO⟩⟩
  · obtain ⟨q0, q1, qP, qK, qD, qG, qO⟩ := q
    exact ⟨q0, q1, qP, va_K.moved (u := U) (U := U.calling g mk a) (Vm.Alike.refl U.vm) qK, qD, zG.moved (u := U) (U := U.calling g mk a) (Vm.Alike.refl U.vm) qG, zO.same (u := U) (U := U.calling g mk a) rfl qO⟩
  · rw [hU]
    exact zG.moved hW.alike ((hG.kept (fun a h1 h2 => hL.2.2.2.1 a h1 h2)).narrow (zi_in hL hA))
theorem zi_cw {y : MethodName} {bytes : ByteArray} {maxL index mc ms : Nat} {rm : Room} {own : String} (hg : ∀ w ∈ GW, w.before args s = true) (hc : Cond.code y bytes maxL none ∈ GW) (hl : Cond.methodLink own index y ∈ GW) (hi : Cond.initialized y.cls ∈ GW) (him : Cond.instanceMethod y ∈ GW)
    (hd : y.cls ≠ "java/lang/invoke/MethodHandle" ∧ y.cls ≠ "java/lang/invoke/VarHandle" ∧ (parseMethodDescriptor y.desc).map (fun d => d.parameters.length) = some 0 ∧ rm.cells = mc ∧ rm.slots = ms ∧ y.name = "<init>") (hR : rm.frames + 1 ≤ R.frames ∧ 8 + (maxL + 11) + rm.locals ≤ R.locals) :
    CallB R s args own index y bytes maxL none (WS y bytes maxL none) rm mc ms 0 ∧ y.name = "<init>" ∧ (Cond.instanceMethod y).before args s = true :=
  ⟨callB_of (Ts := GW) 0 hg (fun w hw => by have hm : w ∈ GW := (List.mem_cons.mp hw).elim (fun e => e ▸ hc) id; exact ⟨hm, gw_good hm⟩) rfl hd.2.2.2.1 hd.2.2.2.2.1 (hg _ hi) (hg _ hl) ⟨hd.1, hd.2.1, hd.2.2.1⟩ hR, hd.2.2.2.2.2, hg _ him⟩
/-- a constructor is called -/
theorem zi_call {y : MethodName} {bytes : ByteArray} {maxL nL index mc ms : Nat} {rm : Room} {own : String} {wd : List Cond} {h0 : Nat} {c0 : va_E} {post : va_W → Prop} (hexec : p.tables.exec = Jvm.exec) (hb : c.code = cc) (hml : c.maxLocals = nL) (hown : s.vm.findClass own = some m.cls) (hts : ∀ w ∈ wd, w.before args s = true) (hsz : ls.size = nL)
    (hM : zMi l y (WS y bytes maxL none) rm E h0 c0 ws post mc ms) (cw : CallB R s args own index y bytes maxL none (WS y bytes maxL none) rm mc ms 0 ∧ y.name = "<init>" ∧ (Cond.instanceMethod y).before args s = true) (hK : zK E s) (hG : zG E A s s.heap) (hO : zO s) (hL : zL E ((h0, c0) :: ws) A s.heap H locs) (hA : ∀ q, s.heap.size ≤ q → A q)
    (hroom : 2 * 0 + (rest.map fun v => v.category).sum ≤ 8) (hdg : decode cc pc = .ok (.invokespecial index, 3)) (hf : cells + mc ≤ R.cells ∧ slots + ms ≤ R.slots)
    (kk : ∀ (u : va_W) (H1 : Heap) (locs1 : List Loc), post u → zL E (u ++ ws) A s.heap H1 locs1 → W p l e R s m args below meth c H1 locs1 (cells + mc) (slots + ms) Q (F0 m (pc + 3) ls rest)) : W p l e R s m args below meth c H locs cells slots Q (F0 m pc ls (.ref h0 :: rest)) :=
  va_callv (va_runI (As := []) (rest := rest) (nL := nL) (Ts := wd) ⟨hexec, hb, hml, hown, hts⟩ (hM H.size) cw (zi_pre hK hG hO hL hA) rfl rfl hsz rfl hroom hdg hf) hL.2.2 (fun q _ h => zi_in hL hA q h) (zi_in hL hA) (fun u t H1 locs1 ht _ hp hB _ _ hS =>
    kk u H1 locs1 hp ⟨by rw [← ht]; exact hB.1, hB.2.weaken (fun _ q _ h => zi_in hL hA q.1 h), hS⟩)
theorem zi_cwN {y : MethodName} {bytes : ByteArray} {maxL index mc ms : Nat} {rm : Room} {own host : String} (hg : ∀ w ∈ GW, w.before args s = true) (hc : Cond.code y bytes maxL none ∈ GW) (hl : va_Nw (.methodLinkNest own index y host) s) (hi : Cond.initialized y.cls ∈ GW) (him : Cond.instanceMethod y ∈ GW)
    (hd : y.cls ≠ "java/lang/invoke/MethodHandle" ∧ y.cls ≠ "java/lang/invoke/VarHandle" ∧ (parseMethodDescriptor y.desc).map (fun d => d.parameters.length) = some 0 ∧ rm.cells = mc ∧ rm.slots = ms ∧ y.name = "<init>") (hR : rm.frames + 1 ≤ R.frames ∧ 8 + (maxL + 11) + rm.locals ≤ R.locals) :
    va_CN R s args own index y host bytes maxL none (WS y bytes maxL none) rm mc ms 0 ∧ y.name = "<init>" ∧ (Cond.instanceMethod y).before args s = true :=
  ⟨va_cnB (Ts := GW) 0 hg (fun w hw => by have hm : w ∈ GW := (List.mem_cons.mp hw).elim (fun e => e ▸ hc) id; exact ⟨hm, gw_good hm⟩) rfl hd.2.2.2.1 hd.2.2.2.2.1 hl (hg _ hi) ⟨hd.1, hd.2.1, hd.2.2.1⟩ hR, hd.2.2.2.2.2, hg _ him⟩
/-- a nest mate's constructor is called -/
theorem zi_callN {y : MethodName} {bytes : ByteArray} {maxL nL index mc ms : Nat} {rm : Room} {own host : String} {wd : List Cond} {h0 : Nat} {c0 : va_E} {post : va_W → Prop} (hexec : p.tables.exec = Jvm.exec) (hb : c.code = cc) (hml : c.maxLocals = nL) (hown : s.vm.findClass own = some m.cls) (hts : ∀ w ∈ wd, w.before args s = true) (hsz : ls.size = nL)
    (hM : zMi l y (WS y bytes maxL none) rm E h0 c0 ws post mc ms) (cw : va_CN R s args own index y host bytes maxL none (WS y bytes maxL none) rm mc ms 0 ∧ y.name = "<init>" ∧ (Cond.instanceMethod y).before args s = true) (hK : zK E s) (hG : zG E A s s.heap) (hO : zO s) (hL : zL E ((h0, c0) :: ws) A s.heap H locs) (hA : ∀ q, s.heap.size ≤ q → A q)
    (hroom : 2 * 0 + (rest.map fun v => v.category).sum ≤ 8) (hdg : decode cc pc = .ok (.invokespecial index, 3)) (hf : cells + mc ≤ R.cells ∧ slots + ms ≤ R.slots)
    (kk : ∀ (u : va_W) (H1 : Heap) (locs1 : List Loc), post u → zL E (u ++ ws) A s.heap H1 locs1 → W p l e R s m args below meth c H1 locs1 (cells + mc) (slots + ms) Q (F0 m (pc + 3) ls rest)) : W p l e R s m args below meth c H locs cells slots Q (F0 m pc ls (.ref h0 :: rest)) :=
  va_callv (va_runIN (As := []) (rest := rest) (nL := nL) (Ts := wd) ⟨hexec, hb, hml, hown, hts⟩ (hM H.size) cw (zi_pre hK hG hO hL hA) rfl rfl hsz rfl hroom hdg hf) hL.2.2 (fun q _ h => zi_in hL hA q h) (zi_in hL hA) (fun u t H1 locs1 ht _ hp hB _ _ hS =>
    kk u H1 locs1 hp ⟨by rw [← ht]; exact hB.1, hB.2.weaken (fun _ q _ h => zi_in hL hA q.1 h), hS⟩)
/-- a constructor ends -/
theorem zi_ret {post : va_W → Prop} {w0 u : va_W} (hexec : p.tables.exec = Jvm.exec) (hb : c.code = cc) (hr : meth.sig.returnType = none) (hlocks : meth.locks = false) (hL : zL E (u ++ ws) (va_A w0 s.heap.size) s.heap H locs) (hp : post u) (hdg : decode cc pc = .ok (.return_, 1)) :
    W p l e R s m args below meth c H locs cells slots (MQ below (va_Qv post (zBi E w0 ws s.heap.size) (va_A w0 s.heap.size)) args s cells slots (va_A w0 s.heap.size)) (F0 m pc ls []) :=
  W.vret hexec hb hr (fun t ht hW => ⟨⟨u, rfl, hp, by rw [ht]; exact hL.1, hL.2.1⟩, hL.2.2.F ht⟩) hL.2.2.2.2 hdg hlocks
theorem zi_obj (hexec : p.tables.exec = Jvm.exec) (hb : c.code = cc) {own : String} {nL : Nat} (hml : c.maxLocals = nL) (hsz : ls.size = nL) (hown : s.vm.findClass own = some m.cls) {idx : Nat}
    (hlink : (Cond.methodLink own idx Lib.objectInit).before args s = true) (hinst : (Cond.instanceMethod Lib.objectInit).before args s = true) (hcode : (Cond.code Lib.objectInit ⟨#[0xb1]⟩ 1 none).before args s = true) {a : Addr} (hd : decode cc pc = .ok (.invokespecial idx, 3))
    (hframes : 1 ≤ R.frames) (hlocals : 2 * 0 + (rest.map fun v => v.category).sum + 12 ≤ R.locals)
    (kk : W p l e R s m args below meth c H locs cells slots Q (F0 m (pc + 3) ls rest)) : W p l e R s m args below meth c H locs cells slots Q (F0 m pc ls (.ref a :: rest)) :=
  W.objInit hexec hb hown hlink hinst hcode rfl (by rw [hml]; exact hsz) rfl hd hframes hlocals kk
end ZI
