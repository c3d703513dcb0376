/-! The layer of whole numbers over the kit's rows: an int of the machine is 'iI z' of a whole number z, a row of ints is 'ar f' of a function f of whole numbers; a world is a function from places to contents. -/
def iI (z : Int) : Int32 := Int32.ofInt z
abbrev zr (z : Int) : Prop := -2147483648 ≤ z ∧ z < 2147483648
theorem iI_toInt {z : Int} (h1 : -2147483648 ≤ z) (h2 : z < 2147483648) : (iI z).toInt = z := Int32.toInt_ofInt_of_le h1 h2
theorem iI_of (x : Int32) : ∃ z : Int, x = iI z ∧ -2147483648 ≤ z ∧ z < 2147483648 :=
  ⟨x.toInt, (Int32.ofInt_toInt x).symm, Int32.le_toInt x, Int32.toInt_lt x⟩
theorem iI_add (a b : Int) : iI a + iI b = iI (a + b) := (Int32.ofInt_add a b).symm
theorem iI_sub (a b : Int) : iI a - iI b = iI (a - b) := (Int32.ofInt_sub a b).symm
theorem iI_mul (a b : Int) : iI a * iI b = iI (a * b) := (Int32.ofInt_mul a b).symm
theorem iI_neg (a : Int) : -iI a = iI (-a) := (Int32.ofInt_neg a).symm
theorem iI_lt {a b : Int} (ha : zr a) (hb : zr b) : iI a < iI b ↔ a < b := by
  rw [Int32.lt_iff_toInt_lt, iI_toInt ha.1 ha.2, iI_toInt hb.1 hb.2]
theorem iI_le {a b : Int} (ha : zr a) (hb : zr b) : iI a ≤ iI b ↔ a ≤ b := by
  rw [Int32.le_iff_toInt_le, iI_toInt ha.1 ha.2, iI_toInt hb.1 hb.2]
theorem iI_eq {a b : Int} (ha : zr a) (hb : zr b) : iI a = iI b ↔ a = b := by
  rw [← Int32.toInt_inj, iI_toInt ha.1 ha.2, iI_toInt hb.1 hb.2]
theorem iI_0 : iI 0 = 0 := rfl
theorem zr_0 : zr 0 := ⟨by decide, by decide⟩
theorem iI_div {a b : Int} (ha : 0 ≤ a) (ha2 : a < 2147483648) (hb : 0 < b) (hb2 : b < 2147483648) : iI a / iI b = iI (a / b) := by
  apply Int32.toInt_inj.mp
  have h1 : 0 ≤ a / b := Int.ediv_nonneg ha (by omega)
  have h2 : a / b ≤ a := Int.ediv_le_self b ha
  rw [lg_idiv_nonneg (by rw [iI_toInt (by omega) ha2]; exact ha) (by rw [iI_toInt (by omega) hb2]; exact hb), iI_toInt (by omega) ha2, iI_toInt (by omega) hb2, iI_toInt (by omega) (by omega)]
theorem iI_rem {a b : Int} (ha : 0 ≤ a) (ha2 : a < 2147483648) (hb : 0 < b) (hb2 : b < 2147483648) : iI a - iI a / iI b * iI b = iI (a % b) := by
  rw [iI_div ha ha2 hb hb2, iI_mul, iI_sub, Int.mul_comm (a / b) b]
  exact congrArg iI (by have := Int.mul_ediv_add_emod a b; omega)
theorem iI_in {i : Int} {N : Nat} (h0 : 0 ≤ i) (h1 : i < N) (hN : N < 2147483648) : vp_in (iI i) N := by
  rw [vp_in_iff, iI_toInt (by omega) (by omega)]
  exact ⟨h0, h1⟩
theorem iI_cl {i : Int} (h0 : 0 ≤ i) (h1 : i < 2147483648) : ((iI i).toNatClampNeg : Int) = i := by
  show (((iI i).toInt.toNat : Nat) : Int) = i
  rw [iI_toInt (by omega) h1]
  omega
/-- a row of ints -/
def ar (f : Int → Int) : Nat → Int32 := fun k => iI (f k)
/-- a place of a row is set -/
def up (f : Int → Int) (k x : Int) : Int → Int := fun j => if j = k then x else f j
theorem up_at (f : Int → Int) (k x : Int) : up f k x k = x := if_pos rfl
theorem up_ne {f : Int → Int} {k x j : Int} (h : j ≠ k) : up f k x j = f j := if_neg h
theorem ar_get {f : Int → Int} {i : Int} (h0 : 0 ≤ i) (h1 : i < 2147483648) : ar f (iI i).toNatClampNeg = iI (f i) := by
  show iI (f _) = _
  rw [iI_cl h0 h1]
theorem ar_upd {f : Int → Int} {i x : Int} (h0 : 0 ≤ i) (h1 : i < 2147483648) : upd (ar f) (iI i).toNatClampNeg (iI x) = ar (up f i x) := by
  funext j
  have e := iI_cl h0 h1
  show (if j = (iI i).toNatClampNeg then iI x else iI (f j)) = iI (if (j : Int) = i then x else f j)
  by_cases h : j = (iI i).toNatClampNeg
  · have h' : (j : Int) = i := by omega
    rw [if_pos h, if_pos h']
  · have h' : ¬ (j : Int) = i := by omega
    rw [if_neg h, if_neg h']
/-- the world's fixed things: class numbers and slots; addresses by place; how many places; array classes; addresses of the constants -/
abbrev zE : Type := va_G × (Nat → Nat) × Nat × (Nat → ClassId) × (Nat → Nat)
abbrev zD (E : zE) : va_G := E.1
abbrev ad (E : zE) : Nat → Nat := E.2.1
abbrev zn (E : zE) : Nat := E.2.2.1
abbrev ca (E : zE) : Nat → ClassId := E.2.2.2.1
abbrev zg (E : zE) : Nat → Nat := E.2.2.2.2
abbrev zW : Type := Nat → va_E
def wl (E : zE) (w : zW) : va_W := (List.range (zn E)).map (fun k => (ad E k, w k))
theorem wl_get {E : zE} {w : zW} {q : Nat} (h : q < zn E) : (wl E w)[q]? = some (ad E q, w q) := by
  simp [wl, List.getElem?_map, List.getElem?_range h]
def uw (w : zW) (q : Nat) (e : va_E) : zW := fun k => if k = q then e else w k
theorem wl_set {E : zE} {w : zW} {q : Nat} {e : va_E} : (wl E w).set q (ad E q, e) = wl E (uw w q e) := by
  apply List.ext_getElem?
  intro k
  by_cases hk : k < zn E
  · rw [wl_get hk]
    by_cases h : q = k
    · subst h
      rw [List.getElem?_set_self (by simpa [wl] using hk)]
      simp [uw]
    · rw [List.getElem?_set_ne h, wl_get hk]
      have h' : ¬ k = q := fun z => h z.symm
      simp [uw, h']
  · rw [List.getElem?_eq_none (by simpa [wl] using hk), List.getElem?_eq_none (by simpa [wl] using hk)]
abbrev ztys (E : zE) : List (ClassId × FieldType) := [(ca E 0, .int), (ca E 1, .char), (ca E 2, .boolean), (ca E 3, .object "ScaledNumeralDesk$Numeral"), (ca E 4, .object "ScaledNumeralDesk$Sum")]
abbrev zar (E : zE) (N : Nat) (f : Int → Int) : va_E := .inl (ca E 0, N, .inl (ar f))
abbrev zac (E : zE) (N : Nat) (f : Int → Int) : va_E := .inl (ca E 1, N, .inl (ar f))
abbrev zaz (E : zE) (N : Nat) (f : Int → Int) : va_E := .inl (ca E 2, N, .inl (ar f))
abbrev zK (E : zE) (U : State) : Prop := va_K (zD E) vwCl (ztys E) U
/-- the heap holds the world w; since the start nothing outside A has changed -/
def zH (E : zE) (w : zW) (A : Nat → Prop) (H0 H : Heap) (locs : List Loc) : Prop := va_P (zD E) vwCl (wl E w) H ∧ va_D A (wl E w) ∧ va_S A H0 H locs
def tens (j : Nat) : Int := 10 ^ j
def Tp (i : Int) : Int := 10 ^ i.toNat
theorem Tp_in {i : Int} (h0 : 0 ≤ i) (h1 : i < 4) : 1 ≤ Tp i ∧ Tp i ≤ 1000 := by
  have c : i = 0 ∨ i = 1 ∨ i = 2 ∨ i = 3 := by omega
  rcases c with c | c | c | c <;> rw [c] <;> decide
/-- the texts: of the four kinds, then the words of the buffer -/
def lenS : List Nat := [9, 0, 8, 3, 3, 8, 3]
def bytS : List (List Int32) := [[45, 73, 110, 102, 105, 110, 105, 116, 121], [], [73, 110, 102, 105, 110, 105, 116, 121], [78, 97, 78], [110, 97, 110], [105, 110, 102, 105, 110, 105, 116, 121], [105, 110, 102]]
def zT (E : zE) (A : Nat → Prop) (U : State) (H : Heap) : Prop :=
  (∀ i, i < 4 → va_OF "ScaledNumeralDesk$Kind" "text" "Ljava/lang/String;" (.ref (zg E (5 + i))) (zg E (1 + i)) A U H) ∧ vk_S 7 lenS bytS (fun i => zg E (5 + i)) (fun i => zg E (12 + i)) A U H ∧
  va_Z "java/lang/String" "COMPACT_STRINGS" "Z" (.int 1) A U H ∧ va_Zq "jdk/internal/util/Preconditions" "SIOOBE_FORMATTER" "Ljava/util/function/BiFunction;" A U H
theorem zT.kept {E : zE} {A : Nat → Prop} {U : State} {H H1 : Heap} (h : zT E A U H) (hq : ∀ a : Nat, a < H.size → ¬ A a → H1[a]? = H[a]?) : zT E A U H1 := ⟨fun i hi => (h.1 i hi).kept hq, h.2.1.kept hq, h.2.2.1.kept hq, h.2.2.2.kept hq⟩
theorem zT.narrow {E : zE} {A B : Nat → Prop} {U : State} {H : Heap} (h : zT E A U H) (hAB : ∀ q, B q → A q) : zT E B U H := ⟨fun i hi => (h.1 i hi).narrow hAB, h.2.1.narrow hAB, h.2.2.1.narrow hAB, h.2.2.2.narrow hAB⟩
theorem zT.moved {E : zE} {A : Nat → Prop} {u U : State} {H : Heap} (hvm : u.vm.Alike U.vm) (h : zT E A u H) : zT E A U H := ⟨fun i hi => va_OF.moved hvm (h.1 i hi), vk_S.moved hvm h.2.1, va_Z.moved hvm h.2.2.1, va_Zq.moved hvm h.2.2.2⟩
/-- the constants -/
def zG (E : zE) (A : Nat → Prop) (U : State) (H : Heap) : Prop :=
  va_Z "ScaledNumeralDesk" "TENS" "[I" (.ref (zg E 0)) A U H ∧ va_T .int (zg E 0) 4 (fun j => .int (iI (tens j))) A U H ∧
  va_En "ScaledNumeralDesk$Kind" "LScaledNumeralDesk$Kind;" ["MINUS", "FINITE", "PLUS", "NAN"] [("ScaledNumeralDesk$Kind", "rank", "I", [0, 1, 2, 3])] (fun i => zg E (1 + i)) A U H ∧ zT E A U H
theorem zG.kept {E : zE} {A : Nat → Prop} {U : State} {H H1 : Heap} (h : zG E A U H) (hq : ∀ a : Nat, a < H.size → ¬ A a → H1[a]? = H[a]?) : zG E A U H1 := ⟨h.1.kept hq, h.2.1.kept hq, h.2.2.1.kept hq, h.2.2.2.kept hq⟩
theorem zG.narrow {E : zE} {A B : Nat → Prop} {U : State} {H : Heap} (h : zG E A U H) (hAB : ∀ q, B q → A q) : zG E B U H := ⟨h.1.narrow hAB, h.2.1.narrow hAB, h.2.2.1.narrow hAB, h.2.2.2.narrow hAB⟩
theorem zG.moved {E : zE} {A : Nat → Prop} {u U : State} {H : Heap} (hvm : u.vm.Alike U.vm) (h : zG E A u H) : zG E A U H := ⟨va_Z.moved hvm h.1, va_T.moved hvm h.2.1, va_En.moved hvm h.2.2.1, zT.moved hvm h.2.2.2⟩
/-- links of nest mates, and the words of the buffer -/
def zN (E : zE) (U : State) : Prop := va_Nw (.fieldLinkNest "ScaledNumeralDesk$Row" 15 "ScaledNumeralDesk" "TENS" "[I" "ScaledNumeralDesk") U ∧ va_Nw (.fieldLinkNest "ScaledNumeralDesk$Buffer" 100 "ScaledNumeralDesk" "TENS" "[I" "ScaledNumeralDesk") U ∧
  vk_R "ScaledNumeralDesk$Buffer" 19 "nan" (zg E 9) U ∧ vk_R "ScaledNumeralDesk$Buffer" 41 "infinity" (zg E 10) U ∧ vk_R "ScaledNumeralDesk$Buffer" 43 "inf" (zg E 11) U
theorem zN.warm {E : zE} {s U : State} (hW : s.WarmedH U.vm) (h : zN E s) : zN E U := ⟨va_Nw.warmF hW h.1, va_Nw.warmF hW h.2.1, vk_R.warm hW h.2.2.1, vk_R.warm hW h.2.2.2.1, vk_R.warm hW h.2.2.2.2⟩
theorem zN.same {E : zE} {u U : State} (hv : u.vm = U.vm) (h : zN E u) : zN E U := ⟨va_Nw.same rfl hv h.1, va_Nw.same rfl hv h.2.1, vk_R.same hv.symm h.2.2.1, vk_R.same hv.symm h.2.2.2.1, vk_R.same hv.symm h.2.2.2.2⟩
/-- a contract's start and end -/
def zPre (E : zE) (w : zW) (sz : Nat) (U : State) : Prop :=
  U.heap.size = sz ∧ va_P (zD E) vwCl (wl E w) U.heap ∧ zK E U ∧ va_D (fun _ => True) (wl E w) ∧ zG E (va_A (wl E w) sz) U U.heap ∧ zN E U
def zB (E : zE) (w : zW) (sz : Nat) (w' : zW) (t : State) : Prop := va_P (zD E) vwCl (wl E w') t.heap ∧ va_D (va_A (wl E w) sz) (wl E w')
abbrev zQi (E : zE) (w : zW) (post : Int → zW → Prop) (sz : Nat) : Array Value → State → Outcome → State → Prop := va_Qi (fun r w' => ∃ z, r = iI z ∧ post z w') (zB E w sz) (va_A (wl E w) sz)
abbrev zQl (E : zE) (w : zW) (post : Int → zW → Prop) (sz : Nat) : Array Value → State → Outcome → State → Prop := va_Ql (fun r w' => ∃ z, r = Int64.ofInt z ∧ post z w') (zB E w sz) (va_A (wl E w) sz)
abbrev zQv (E : zE) (w : zW) (post : zW → Prop) (sz : Nat) : Array Value → State → Outcome → State → Prop := va_Qv post (zB E w sz) (va_A (wl E w) sz)
/-- a contract: the world w, the arguments vs, the end Q -/
def zM (l : Launch) (y : MethodName) (ws : List Cond) (rm : Room) (E : zE) (vs : List Value) (w : zW) (Q : Nat → Array Value → State → Outcome → State → Prop) : Prop :=
  ∀ sz : Nat, Met l y ws rm (va_Pc vs (zPre E w sz)) (Q sz) 0 0 (va_A (wl E w) sz)
/-- what a walk stands on -/
def zC (E : zE) (w : zW) (cc : ByteArray) (maxL : Nat) (ret : Option FieldType) (ws : List Cond) (own : String) (p : Program) (s : State) (m : MethodId) (args : Array Value) (meth : Method) (c : Code) : Prop :=
  (p.tables.exec = Jvm.exec ∧ c.code = cc ∧ c.maxLocals = maxL ∧ s.vm.findClass own = some m.cls ∧ ∀ w ∈ ws, w.before args s = true) ∧ meth.sig.returnType = ret ∧ meth.locks = false ∧ zK E s ∧ zG E (va_A (wl E w) s.heap.size) s s.heap ∧ zN E s
theorem z_met {l : Launch} {y : MethodName} {ws ws' : List Cond} {rm : Room} {E : zE} {vs : List Value} {w : zW} {Q : Nat → Array Value → State → Outcome → State → Prop} {cc : ByteArray} {maxL : Nat} {ret : Option FieldType}
    (hy : plainFor y = true) (hw : ws = Cond.code y cc maxL ret :: ws') (hl : (lg_sl vs).length ≤ maxL)
    (body : ∀ (p : Program) (e : Env) (s : State) (m : MethodId) (below : List Frame) (meth : Method) (c : Code) (ls : Array Slot) (a : Array Value) (Qf : State → Prop), Qf = MQ below (Q s.heap.size) a s 0 0 (va_A (wl E w) s.heap.size) → zC E w cc maxL ret ws y.cls p s m a meth c → lv_has ls maxL (lv_args 0 vs) → zH E w (va_A (wl E w) s.heap.size) s.heap s.heap [] →
      W p l e rm s m a below meth c s.heap [] 0 0 Qf (F0 m 0 ls [])) : zM l y ws rm E vs w Q := by
  intro sz
  refine va_MetF (cc := cc) (maxL := maxL) (ret := ret) hy hw ?_
  intro p e s m args below meth c s₁ B hml hv
  obtain ⟨rfl, hsz, hP, hK, hD0, hG, hn⟩ := hv
  subst hsz
  rw [lg_entry_eq]
  exact body p e s m below meth c _ _ _ rfl ⟨⟨B.exec, B.bytes, hml, findClass_of_methodNamed B.named, atoms_spec (ws := ws) B.pre⟩, B.returns, B.notSynchronized, hK, hG, hn⟩ (lv_entry vs hl) ⟨hP, hD0.self, va_S.rf⟩
section ZL
variable {p : Program} {l : Launch} {e : Env} {R : Room} {s : State} {m : MethodId} {args : Array Value} {below : List Frame} {meth : Method} {c : Code} {H : Heap} {locs : List Loc} {cells slots : Nat} {Q : State → Prop}
variable {cc : ByteArray} {pc : Nat} {ls : Array Slot} {rest st0 : List Value} {E : zE} {w w0 : zW} {A : Nat → Prop} {H0 : Heap}
theorem zv_iconst (hexec : p.tables.exec = Jvm.exec) (hb : c.code = cc) {n : Int} (hdg : decode cc pc = .ok (.iconst n, 1)) (k : W p l e R s m args below meth c H locs cells slots Q (F0 m (pc + 1) ls (.int (iI n) :: rest))) : W p l e R s m args below meth c H locs cells slots Q (F0 m pc ls rest) := lv_iconst hexec hb hdg rfl k
theorem zv_bipush (hexec : p.tables.exec = Jvm.exec) (hb : c.code = cc) {n : Int} (hdg : decode cc pc = .ok (.bipush n, 2)) (hn : (Int8.ofInt n).toInt32 = iI n) (k : W p l e R s m args below meth c H locs cells slots Q (F0 m (pc + 2) ls (.int (iI n) :: rest))) : W p l e R s m args below meth c H locs cells slots Q (F0 m pc ls rest) := lv_bipush hexec hb hdg hn k
theorem zv_sipush (hexec : p.tables.exec = Jvm.exec) (hb : c.code = cc) {n : Int} (hdg : decode cc pc = .ok (.sipush n, 3)) (hn : (Int16.ofInt n).toInt32 = iI n) (k : W p l e R s m args below meth c H locs cells slots Q (F0 m (pc + 3) ls (.int (iI n) :: rest))) : W p l e R s m args below meth c H locs cells slots Q (F0 m pc ls rest) := lv_sipush hexec hb hdg hn k
theorem zv_iadd (hexec : p.tables.exec = Jvm.exec) (hb : c.code = cc) {x y : Int} (hdg : decode cc pc = .ok (.iadd, 1)) (k : W p l e R s m args below meth c H locs cells slots Q (F0 m (pc + 1) ls (.int (iI (x + y)) :: rest))) : W p l e R s m args below meth c H locs cells slots Q (F0 m pc ls (.int (iI y) :: .int (iI x) :: rest)) :=
  lv_iadd hexec hb hdg (by rw [iI_add]; exact k)
theorem zv_isub (hexec : p.tables.exec = Jvm.exec) (hb : c.code = cc) {x y : Int} (hdg : decode cc pc = .ok (.isub, 1)) (k : W p l e R s m args below meth c H locs cells slots Q (F0 m (pc + 1) ls (.int (iI (x - y)) :: rest))) : W p l e R s m args below meth c H locs cells slots Q (F0 m pc ls (.int (iI y) :: .int (iI x) :: rest)) :=
  lv_isub hexec hb hdg (by rw [iI_sub]; exact k)
theorem zv_imul (hexec : p.tables.exec = Jvm.exec) (hb : c.code = cc) {x y : Int} (hdg : decode cc pc = .ok (.imul, 1)) (k : W p l e R s m args below meth c H locs cells slots Q (F0 m (pc + 1) ls (.int (iI (x * y)) :: rest))) : W p l e R s m args below meth c H locs cells slots Q (F0 m pc ls (.int (iI y) :: .int (iI x) :: rest)) :=
  lv_imul hexec hb hdg (by rw [iI_mul]; exact k)
theorem zv_ineg (hexec : p.tables.exec = Jvm.exec) (hb : c.code = cc) {x : Int} (hdg : decode cc pc = .ok (.ineg, 1)) (k : W p l e R s m args below meth c H locs cells slots Q (F0 m (pc + 1) ls (.int (iI (-x)) :: rest))) : W p l e R s m args below meth c H locs cells slots Q (F0 m pc ls (.int (iI x) :: rest)) :=
  lv_ineg hexec hb hdg (by rw [iI_neg]; exact k)
theorem zv_idiv (hexec : p.tables.exec = Jvm.exec) (hb : c.code = cc) {x y : Int} (h1 : 0 ≤ x) (h2 : x < 2147483648) (h3 : 0 < y) (h4 : y < 2147483648) (hdg : decode cc pc = .ok (.idiv, 1)) (k : W p l e R s m args below meth c H locs cells slots Q (F0 m (pc + 1) ls (.int (iI (x / y)) :: rest))) : W p l e R s m args below meth c H locs cells slots Q (F0 m pc ls (.int (iI y) :: .int (iI x) :: rest)) :=
  lv_idiv hexec hb hdg (by rw [← iI_0, iI_eq ⟨by omega, h4⟩ zr_0]; omega) (by rw [iI_div h1 h2 h3 h4]; exact k)
theorem zv_irem (hexec : p.tables.exec = Jvm.exec) (hb : c.code = cc) {x y : Int} (h1 : 0 ≤ x) (h2 : x < 2147483648) (h3 : 0 < y) (h4 : y < 2147483648) (hdg : decode cc pc = .ok (.irem, 1)) (k : W p l e R s m args below meth c H locs cells slots Q (F0 m (pc + 1) ls (.int (iI (x % y)) :: rest))) : W p l e R s m args below meth c H locs cells slots Q (F0 m pc ls (.int (iI y) :: .int (iI x) :: rest)) :=
  lv_irem hexec hb hdg (by rw [← iI_0, iI_eq ⟨by omega, h4⟩ zr_0]; omega) (by rw [iI_rem h1 h2 h3 h4]; exact k)
theorem zv_iinc (hexec : p.tables.exec = Jvm.exec) (hb : c.code = cc) {i nL k : Nat} {n x : Int} {lv lv' : List (Nat × Value)} (hdg : decode cc pc = .ok (.iinc i n, 3)) (h : lv_has ls nL lv) (hk : lv[k]? = some (i, .int (iI x))) (hn : i < nL) (hl : (i, Value.int (iI (x + n))) :: lv.filter (fun q => !(q.1 == i) && !(q.1 + 1 == i && q.2.category == 2)) = lv') (kk : ∀ ls' : Array Slot, lv_has ls' nL lv' → W p l e R s m args below meth c H locs cells slots Q (F0 m (pc + 3) ls' rest)) : W p l e R s m args below meth c H locs cells slots Q (F0 m pc ls rest) :=
  lv_iinc hexec hb hdg h hk (iI_add x n) hn hl kk
theorem zv_icmp_eq (hexec : p.tables.exec = Jvm.exec) (hb : c.code = cc) {x y : Int} {off : Int} {tgt : Nat} (hdg : decode cc pc = .ok (.if_icmp .eq off, 3)) (ht : (pc : Int) + off = (tgt : Int)) (hx : zr x) (hy : zr y) (kt : x = y → W p l e R s m args below meth c H locs cells slots Q (F0 m tgt ls rest)) (kf : ¬ x = y → W p l e R s m args below meth c H locs cells slots Q (F0 m (pc + 3) ls rest)) : W p l e R s m args below meth c H locs cells slots Q (F0 m pc ls (.int (iI y) :: .int (iI x) :: rest)) :=
  lv_icmp_eq hexec hb hdg ht (fun h => kt ((iI_eq hx hy).mp h)) (fun h => kf (fun z => h ((iI_eq hx hy).mpr z)))
theorem zv_if_eq (hexec : p.tables.exec = Jvm.exec) (hb : c.code = cc) {x : Int} {off : Int} {tgt : Nat} (hdg : decode cc pc = .ok (.ifCond .eq off, 3)) (ht : (pc : Int) + off = (tgt : Int)) (hx : zr x) (kt : x = 0 → W p l e R s m args below meth c H locs cells slots Q (F0 m tgt ls rest)) (kf : ¬ x = 0 → W p l e R s m args below meth c H locs cells slots Q (F0 m (pc + 3) ls rest)) : W p l e R s m args below meth c H locs cells slots Q (F0 m pc ls (.int (iI x) :: rest)) :=
  lv_if_eq hexec hb hdg ht (fun h => kt ((iI_eq hx zr_0).mp h)) (fun h => kf (fun z => h ((iI_eq hx zr_0).mpr z)))
theorem zv_icmp_ne (hexec : p.tables.exec = Jvm.exec) (hb : c.code = cc) {x y : Int} {off : Int} {tgt : Nat} (hdg : decode cc pc = .ok (.if_icmp .ne off, 3)) (ht : (pc : Int) + off = (tgt : Int)) (hx : zr x) (hy : zr y) (kt : ¬ x = y → W p l e R s m args below meth c H locs cells slots Q (F0 m tgt ls rest)) (kf : x = y → W p l e R s m args below meth c H locs cells slots Q (F0 m (pc + 3) ls rest)) : W p l e R s m args below meth c H locs cells slots Q (F0 m pc ls (.int (iI y) :: .int (iI x) :: rest)) :=
  lv_icmp_ne hexec hb hdg ht (fun h => kt (fun z => h ((iI_eq hx hy).mpr z))) (fun h => kf ((iI_eq hx hy).mp h))
theorem zv_if_ne (hexec : p.tables.exec = Jvm.exec) (hb : c.code = cc) {x : Int} {off : Int} {tgt : Nat} (hdg : decode cc pc = .ok (.ifCond .ne off, 3)) (ht : (pc : Int) + off = (tgt : Int)) (hx : zr x) (kt : ¬ x = 0 → W p l e R s m args below meth c H locs cells slots Q (F0 m tgt ls rest)) (kf : x = 0 → W p l e R s m args below meth c H locs cells slots Q (F0 m (pc + 3) ls rest)) : W p l e R s m args below meth c H locs cells slots Q (F0 m pc ls (.int (iI x) :: rest)) :=
  lv_if_ne hexec hb hdg ht (fun h => kt (fun z => h ((iI_eq hx zr_0).mpr z))) (fun h => kf ((iI_eq hx zr_0).mp h))
theorem zv_icmp_lt (hexec : p.tables.exec = Jvm.exec) (hb : c.code = cc) {x y : Int} {off : Int} {tgt : Nat} (hdg : decode cc pc = .ok (.if_icmp .lt off, 3)) (ht : (pc : Int) + off = (tgt : Int)) (hx : zr x) (hy : zr y) (kt : x < y → W p l e R s m args below meth c H locs cells slots Q (F0 m tgt ls rest)) (kf : y ≤ x → W p l e R s m args below meth c H locs cells slots Q (F0 m (pc + 3) ls rest)) : W p l e R s m args below meth c H locs cells slots Q (F0 m pc ls (.int (iI y) :: .int (iI x) :: rest)) :=
  lv_icmp_lt hexec hb hdg ht (fun h => kt ((iI_lt hx hy).mp h)) (fun h => kf (Int.not_lt.mp (fun z => h ((iI_lt hx hy).mpr z))))
theorem zv_if_lt (hexec : p.tables.exec = Jvm.exec) (hb : c.code = cc) {x : Int} {off : Int} {tgt : Nat} (hdg : decode cc pc = .ok (.ifCond .lt off, 3)) (ht : (pc : Int) + off = (tgt : Int)) (hx : zr x) (kt : x < 0 → W p l e R s m args below meth c H locs cells slots Q (F0 m tgt ls rest)) (kf : 0 ≤ x → W p l e R s m args below meth c H locs cells slots Q (F0 m (pc + 3) ls rest)) : W p l e R s m args below meth c H locs cells slots Q (F0 m pc ls (.int (iI x) :: rest)) :=
  lv_if_lt hexec hb hdg ht (fun h => kt ((iI_lt hx zr_0).mp h)) (fun h => kf (Int.not_lt.mp (fun z => h ((iI_lt hx zr_0).mpr z))))
theorem zv_icmp_ge (hexec : p.tables.exec = Jvm.exec) (hb : c.code = cc) {x y : Int} {off : Int} {tgt : Nat} (hdg : decode cc pc = .ok (.if_icmp .ge off, 3)) (ht : (pc : Int) + off = (tgt : Int)) (hx : zr x) (hy : zr y) (kt : y ≤ x → W p l e R s m args below meth c H locs cells slots Q (F0 m tgt ls rest)) (kf : x < y → W p l e R s m args below meth c H locs cells slots Q (F0 m (pc + 3) ls rest)) : W p l e R s m args below meth c H locs cells slots Q (F0 m pc ls (.int (iI y) :: .int (iI x) :: rest)) :=
  lv_icmp_ge hexec hb hdg ht (fun h => kt ((iI_le hy hx).mp h)) (fun h => kf (Int.not_le.mp (fun z => h ((iI_le hy hx).mpr z))))
theorem zv_if_ge (hexec : p.tables.exec = Jvm.exec) (hb : c.code = cc) {x : Int} {off : Int} {tgt : Nat} (hdg : decode cc pc = .ok (.ifCond .ge off, 3)) (ht : (pc : Int) + off = (tgt : Int)) (hx : zr x) (kt : 0 ≤ x → W p l e R s m args below meth c H locs cells slots Q (F0 m tgt ls rest)) (kf : x < 0 → W p l e R s m args below meth c H locs cells slots Q (F0 m (pc + 3) ls rest)) : W p l e R s m args below meth c H locs cells slots Q (F0 m pc ls (.int (iI x) :: rest)) :=
  lv_if_ge hexec hb hdg ht (fun h => kt ((iI_le zr_0 hx).mp h)) (fun h => kf (Int.not_le.mp (fun z => h ((iI_le zr_0 hx).mpr z))))
theorem zv_icmp_gt (hexec : p.tables.exec = Jvm.exec) (hb : c.code = cc) {x y : Int} {off : Int} {tgt : Nat} (hdg : decode cc pc = .ok (.if_icmp .gt off, 3)) (ht : (pc : Int) + off = (tgt : Int)) (hx : zr x) (hy : zr y) (kt : y < x → W p l e R s m args below meth c H locs cells slots Q (F0 m tgt ls rest)) (kf : x ≤ y → W p l e R s m args below meth c H locs cells slots Q (F0 m (pc + 3) ls rest)) : W p l e R s m args below meth c H locs cells slots Q (F0 m pc ls (.int (iI y) :: .int (iI x) :: rest)) :=
  lv_icmp_gt hexec hb hdg ht (fun h => kt ((iI_lt hy hx).mp h)) (fun h => kf (Int.not_lt.mp (fun z => h ((iI_lt hy hx).mpr z))))
theorem zv_if_gt (hexec : p.tables.exec = Jvm.exec) (hb : c.code = cc) {x : Int} {off : Int} {tgt : Nat} (hdg : decode cc pc = .ok (.ifCond .gt off, 3)) (ht : (pc : Int) + off = (tgt : Int)) (hx : zr x) (kt : 0 < x → W p l e R s m args below meth c H locs cells slots Q (F0 m tgt ls rest)) (kf : x ≤ 0 → W p l e R s m args below meth c H locs cells slots Q (F0 m (pc + 3) ls rest)) : W p l e R s m args below meth c H locs cells slots Q (F0 m pc ls (.int (iI x) :: rest)) :=
  lv_if_gt hexec hb hdg ht (fun h => kt ((iI_lt zr_0 hx).mp h)) (fun h => kf (Int.not_lt.mp (fun z => h ((iI_lt zr_0 hx).mpr z))))
theorem zv_icmp_le (hexec : p.tables.exec = Jvm.exec) (hb : c.code = cc) {x y : Int} {off : Int} {tgt : Nat} (hdg : decode cc pc = .ok (.if_icmp .le off, 3)) (ht : (pc : Int) + off = (tgt : Int)) (hx : zr x) (hy : zr y) (kt : x ≤ y → W p l e R s m args below meth c H locs cells slots Q (F0 m tgt ls rest)) (kf : y < x → W p l e R s m args below meth c H locs cells slots Q (F0 m (pc + 3) ls rest)) : W p l e R s m args below meth c H locs cells slots Q (F0 m pc ls (.int (iI y) :: .int (iI x) :: rest)) :=
  lv_icmp_le hexec hb hdg ht (fun h => kt ((iI_le hx hy).mp h)) (fun h => kf (Int.not_le.mp (fun z => h ((iI_le hx hy).mpr z))))
theorem zv_if_le (hexec : p.tables.exec = Jvm.exec) (hb : c.code = cc) {x : Int} {off : Int} {tgt : Nat} (hdg : decode cc pc = .ok (.ifCond .le off, 3)) (ht : (pc : Int) + off = (tgt : Int)) (hx : zr x) (kt : x ≤ 0 → W p l e R s m args below meth c H locs cells slots Q (F0 m tgt ls rest)) (kf : 0 < x → W p l e R s m args below meth c H locs cells slots Q (F0 m (pc + 3) ls rest)) : W p l e R s m args below meth c H locs cells slots Q (F0 m pc ls (.int (iI x) :: rest)) :=
  lv_if_le hexec hb hdg ht (fun h => kt ((iI_le hx zr_0).mp h)) (fun h => kf (Int.not_le.mp (fun z => h ((iI_le hx zr_0).mpr z))))
theorem zv_iald (hexec : p.tables.exec = Jvm.exec) (hb : c.code = cc) (hK : zK E s) (hH : zH E w A H0 H locs) {q : Nat} (hq : q < zn E) {N : Nat} {f : Int → Int} (he : w q = zar E N f) {i : Int} (h0 : 0 ≤ i) (h1 : i < N) (hN : N < 2147483648) (hdg : decode cc pc = .ok (.iaload, 1)) (kk : W p l e R s m args below meth c H locs cells slots Q (F0 m (pc + 1) ls (.int (iI (f i)) :: rest))) : W p l e R s m args below meth c H locs cells slots Q (F0 m pc ls (.int (iI i) :: .ref (ad E q) :: rest)) :=
  va_iald hexec hb hK hH.1 q 0 (by rw [wl_get hq, he]) rfl (iI_in h0 h1 hN) hdg (by rw [ar_get h0 (by omega)]; exact kk)
theorem zv_cald (hexec : p.tables.exec = Jvm.exec) (hb : c.code = cc) (hK : zK E s) (hH : zH E w A H0 H locs) {q : Nat} (hq : q < zn E) {N : Nat} {f : Int → Int} (he : w q = zac E N f) {i : Int} (h0 : 0 ≤ i) (h1 : i < N) (hN : N < 2147483648) (hdg : decode cc pc = .ok (.caload, 1)) (kk : W p l e R s m args below meth c H locs cells slots Q (F0 m (pc + 1) ls (.int (iI (f i)) :: rest))) : W p l e R s m args below meth c H locs cells slots Q (F0 m pc ls (.int (iI i) :: .ref (ad E q) :: rest)) :=
  va_cald hexec hb hK hH.1 q 1 (by rw [wl_get hq, he]) rfl (iI_in h0 h1 hN) hdg (by rw [ar_get h0 (by omega)]; exact kk)
theorem zv_zald (hexec : p.tables.exec = Jvm.exec) (hb : c.code = cc) (hK : zK E s) (hH : zH E w A H0 H locs) {q : Nat} (hq : q < zn E) {N : Nat} {f : Int → Int} (he : w q = zaz E N f) {i : Int} (h0 : 0 ≤ i) (h1 : i < N) (hN : N < 2147483648) (hdg : decode cc pc = .ok (.baload, 1)) (kk : W p l e R s m args below meth c H locs cells slots Q (F0 m (pc + 1) ls (.int (iI (f i)) :: rest))) : W p l e R s m args below meth c H locs cells slots Q (F0 m pc ls (.int (iI i) :: .ref (ad E q) :: rest)) :=
  va_zald hexec hb hK hH.1 q 2 (by rw [wl_get hq, he]) rfl (iI_in h0 h1 hN) hdg (by rw [ar_get h0 (by omega)]; exact kk)
theorem zv_iast (hexec : p.tables.exec = Jvm.exec) (hb : c.code = cc) (hK : zK E s) (hH : zH E w A H0 H locs) {q : Nat} (hq : q < zn E) {N : Nat} {f : Int → Int} (he : w q = zar E N f) {i x : Int} (h0 : 0 ≤ i) (h1 : i < N) (hN : N < 2147483648) (hdg : decode cc pc = .ok (.iastore, 1))
    (kk : ∀ (H1 : Heap) (locs1 : List Loc) (w1 : zW), zH E w1 A H0 H1 locs1 → w1 q = zar E N (up f i x) → (∀ k, k ≠ q → w1 k = w k) → W p l e R s m args below meth c H1 locs1 cells slots Q (F0 m (pc + 1) ls rest)) : W p l e R s m args below meth c H locs cells slots Q (F0 m pc ls (.int (iI x) :: .int (iI i) :: .ref (ad E q) :: rest)) :=
  va_iast hexec hb hK hH.1 hH.2.1 hH.2.2 q 0 (by rw [wl_get hq, he]) rfl (iI_in h0 h1 hN) hdg (fun H1 locs1 hP hD hS => by
    rw [ar_upd h0 (by omega), wl_set] at hP hD
    exact kk H1 locs1 _ ⟨hP, hD, hS⟩ (if_pos rfl) (fun k hk => if_neg hk))
theorem zv_alen (hexec : p.tables.exec = Jvm.exec) (hb : c.code = cc) (hK : zK E s) (hH : zH E w A H0 H locs) {q : Nat} (hq : q < zn E) {N : Nat} {f : Int → Int} (he : w q = zar E N f) (hdg : decode cc pc = .ok (.arraylength, 1)) (kk : W p l e R s m args below meth c H locs cells slots Q (F0 m (pc + 1) ls (.int (iI (N : Int)) :: rest))) : W p l e R s m args below meth c H locs cells slots Q (F0 m pc ls (.ref (ad E q) :: rest)) :=
  va_alen hexec hb hK hH.1 q 0 (x := (N, .inl (ar f))) (by rw [wl_get hq, he]) rfl (v := iI (N : Int)) (Int32.ofInt_eq_ofNat).symm hdg kk
theorem zv_get (hexec : p.tables.exec = Jvm.exec) (hb : c.code = cc) {own ref C : String} {T : u_T} {N ci index : Nat} {Ts : List Cond} (hts : ∀ w ∈ Ts, w.before args s = true) (hin : ∀ w ∈ u_ws C T N, w ∈ Ts) (hown : s.vm.findClass own = some m.cls) (hK : zK E s) (hH : zH E w A H0 H locs) {q : Nat} (hq : q < zn E) {fs : List Value} (he : w q = .inr (ci, fs)) (hc : vwCl[ci]? = some (C, T, N)) (k : Nat) (hk : k < N)
    (hlink : (Cond.fieldLink own index ref (T k).2.1 (T k).2.2.1).before args s = true) (hsame : ∀ x, s.fieldFound? (T k).1 (T k).2.1 (T k).2.2.1 = some x → s.fieldFound? ref (T k).2.1 (T k).2.2.1 = some x) {v : Value} (hv : fs[k]? = some v) (hdg : decode cc pc = .ok (.getfield index, 3)) (kk : W p l e R s m args below meth c H locs cells slots Q (F0 m (pc + 3) ls (v :: rest))) : W p l e R s m args below meth c H locs cells slots Q (F0 m pc ls (.ref (ad E q) :: rest)) :=
  va_get hexec hb hts hin hown hK hH.1 q (by rw [wl_get hq, he]) hc k hk hlink hsame hv hdg kk
theorem zv_getN (hexec : p.tables.exec = Jvm.exec) (hb : c.code = cc) {own ref C host : String} {T : u_T} {N ci index : Nat} {Ts : List Cond} (hts : ∀ w ∈ Ts, w.before args s = true) (hin : ∀ w ∈ u_ws C T N, w ∈ Ts) (hown : s.vm.findClass own = some m.cls) (hK : zK E s) (hH : zH E w A H0 H locs) {q : Nat} (hq : q < zn E) {fs : List Value} (he : w q = .inr (ci, fs)) (hc : vwCl[ci]? = some (C, T, N)) (k : Nat) (hk : k < N)
    (hlink : (Cond.fieldLinkNest own index ref (T k).2.1 (T k).2.2.1 host).before args s = true) (hsame : ∀ x, s.fieldFound? (T k).1 (T k).2.1 (T k).2.2.1 = some x → s.fieldFound? ref (T k).2.1 (T k).2.2.1 = some x) {v : Value} (hv : fs[k]? = some v) (hdg : decode cc pc = .ok (.getfield index, 3)) (kk : W p l e R s m args below meth c H locs cells slots Q (F0 m (pc + 3) ls (v :: rest))) : W p l e R s m args below meth c H locs cells slots Q (F0 m pc ls (.ref (ad E q) :: rest)) :=
  va_getN hexec hb hts hin hown hK hH.1 q (by rw [wl_get hq, he]) hc k hk hlink hsame hv hdg kk
theorem zv_put (hexec : p.tables.exec = Jvm.exec) (hb : c.code = cc) {own ref C : String} {T : u_T} {N ci index : Nat} {Ts : List Cond} (hts : ∀ w ∈ Ts, w.before args s = true) (hin : ∀ w ∈ u_ws C T N, w ∈ Ts) (ty0 : Nat → FieldType) (hty : ∀ k, k < N → parseFieldDescriptor (T k).2.2.1 = some (ty0 k)) (hnm : ∀ a, a < N → ∀ b, b < N → a ≠ b → (T a).2.1 ≠ (T b).2.1) (hown : s.vm.findClass own = some m.cls) (hK : zK E s) (hH : zH E w A H0 H locs) {q : Nat} (hq : q < zn E) {fs : List Value} (he : w q = .inr (ci, fs)) (hc : vwCl[ci]? = some (C, T, N)) (k : Nat) (hk : k < N)
    (hlink : (Cond.fieldLink own index ref (T k).2.1 (T k).2.2.1).before args s = true) (hsame : ∀ x, s.fieldFound? (T k).1 (T k).2.1 (T k).2.2.1 = some x → s.fieldFound? ref (T k).2.1 (T k).2.2.1 = some x) (hfin : (T k).2.2.2 = false) {ty : FieldType} {v : Value} (hd : parseFieldDescriptor (T k).2.2.1 = some ty) (hn : narrow ty v = v) (hfit : fits ty v = true) (hl : k < fs.length) (hdg : decode cc pc = .ok (.putfield index, 3)) {fs' : List Value} (hfs : fs.set k v = fs')
    (kk : ∀ (H1 : Heap) (locs1 : List Loc) (w1 : zW), zH E w1 A H0 H1 locs1 → w1 q = .inr (ci, fs') → (∀ k, k ≠ q → w1 k = w k) → W p l e R s m args below meth c H1 locs1 cells slots Q (F0 m (pc + 3) ls rest)) : W p l e R s m args below meth c H locs cells slots Q (F0 m pc ls (v :: .ref (ad E q) :: rest)) :=
  va_put hexec hb hts hin ty0 hty hnm hown hK hH.1 hH.2.1 hH.2.2 q (by rw [wl_get hq, he]) hc k hk hlink hsame hfin hd hn hfit hl hdg (fun H1 locs1 hP hD hS => by
    rw [wl_set] at hP hD
    subst hfs
    exact kk H1 locs1 _ ⟨hP, hD, hS⟩ (if_pos rfl) (fun k hk => if_neg hk))
theorem zv_putN (hexec : p.tables.exec = Jvm.exec) (hb : c.code = cc) {own ref C host : String} {T : u_T} {N ci index : Nat} {Ts : List Cond} (hts : ∀ w ∈ Ts, w.before args s = true) (hin : ∀ w ∈ u_ws C T N, w ∈ Ts) (ty0 : Nat → FieldType) (hty : ∀ k, k < N → parseFieldDescriptor (T k).2.2.1 = some (ty0 k)) (hnm : ∀ a, a < N → ∀ b, b < N → a ≠ b → (T a).2.1 ≠ (T b).2.1) (hown : s.vm.findClass own = some m.cls) (hK : zK E s) (hH : zH E w A H0 H locs) {q : Nat} (hq : q < zn E) {fs : List Value} (he : w q = .inr (ci, fs)) (hc : vwCl[ci]? = some (C, T, N)) (k : Nat) (hk : k < N)
    (hlink : (Cond.fieldLinkNest own index ref (T k).2.1 (T k).2.2.1 host).before args s = true) (hsame : ∀ x, s.fieldFound? (T k).1 (T k).2.1 (T k).2.2.1 = some x → s.fieldFound? ref (T k).2.1 (T k).2.2.1 = some x) (hfin : (T k).2.2.2 = false) {ty : FieldType} {v : Value} (hd : parseFieldDescriptor (T k).2.2.1 = some ty) (hn : narrow ty v = v) (hfit : fits ty v = true) (hl : k < fs.length) (hdg : decode cc pc = .ok (.putfield index, 3)) {fs' : List Value} (hfs : fs.set k v = fs')
    (kk : ∀ (H1 : Heap) (locs1 : List Loc) (w1 : zW), zH E w1 A H0 H1 locs1 → w1 q = .inr (ci, fs') → (∀ k, k ≠ q → w1 k = w k) → W p l e R s m args below meth c H1 locs1 cells slots Q (F0 m (pc + 3) ls rest)) : W p l e R s m args below meth c H locs cells slots Q (F0 m pc ls (v :: .ref (ad E q) :: rest)) :=
  va_putN hexec hb hts hin ty0 hty hnm hown hK hH.1 hH.2.1 hH.2.2 q (by rw [wl_get hq, he]) hc k hk hlink hsame hfin hd hn hfit hl hdg (fun H1 locs1 hP hD hS => by
    rw [wl_set] at hP hD
    subst hfs
    exact kk H1 locs1 _ ⟨hP, hD, hS⟩ (if_pos rfl) (fun k hk => if_neg hk))
/-- the table of tens -/
theorem zv_tens (hexec : p.tables.exec = Jvm.exec) (hb : c.code = cc) (hG : zG E A s s.heap) (hH : zH E w A s.heap H locs) {own ref : String} {index : Nat} (hown : s.vm.findClass own = some m.cls) (hlink : (Cond.fieldLinkNest own index ref "TENS" "[I" "ScaledNumeralDesk").before args s = true) (hsame : ∀ x, s.fieldFound? "ScaledNumeralDesk" "TENS" "[I" = some x → s.fieldFound? ref "TENS" "[I" = some x) (hdg : decode cc pc = .ok (.getstatic index, 3)) (kk : W p l e R s m args below meth c H locs cells slots Q (F0 m (pc + 3) ls (.ref (zg E 0) :: rest))) : W p l e R s m args below meth c H locs cells slots Q (F0 m pc ls rest) :=
  va_getsN hexec hb hG.1 hH.2.2 hown hlink hsame hdg kk
theorem zv_tenld (hexec : p.tables.exec = Jvm.exec) (hb : c.code = cc) (hG : zG E A s s.heap) (hH : zH E w A s.heap H locs) {i : Int} (h0 : 0 ≤ i) (h1 : i < 4) (hdg : decode cc pc = .ok (.iaload, 1)) (kk : W p l e R s m args below meth c H locs cells slots Q (F0 m (pc + 1) ls (.int (iI (Tp i)) :: rest))) : W p l e R s m args below meth c H locs cells slots Q (F0 m pc ls (.int (iI i) :: .ref (zg E 0) :: rest)) :=
  va_ti hexec hb hG.2.1 hH.2.2 (iI_in (N := 4) h0 (by omega) (by decide)) (v := .int (iI (Tp i))) (by
    have e := iI_cl h0 (by omega)
    show Value.int (iI (10 ^ (iI i).toNatClampNeg)) = _
    rw [show (iI i).toNatClampNeg = i.toNat by omega]; rfl) hdg kk
/-- calls -/
theorem z_in (hH : zH E w A s.heap H locs) (hA : ∀ q, s.heap.size ≤ q → A q) : ∀ q, va_A (wl E w) H.size q → A q := by
  intro q hq
  rcases hq with ⟨k, e9, h⟩ | h
  · exact hH.2.1.2 k (q, e9) h
  · exact hA q (Nat.le_trans hH.2.2.1 h)
theorem z_preAt (hK : zK E s) (hG : zG E A s s.heap) (hn : zN E s) (hH : zH E w A s.heap H locs) (hA : ∀ q, s.heap.size ≤ q → A q) {U : State} (hU : U.heap = H) (hW : s.WarmedH U.vm) : zPre E w H.size U := by
  refine ⟨by rw [hU], by rw [hU]; exact hH.1, va_K.moved hW.alike hK, hH.2.1.weaken (fun _ _ _ _ => trivial), ?_, zN.warm hW hn⟩
  rw [hU]
  exact zG.moved hW.alike ((hG.kept (fun a h1 h2 => hH.2.2.2.1 a h1 h2)).narrow (z_in hH hA))
theorem z_blind {vs : List Value} {sz : Nat} : FrameBlind (va_Pc vs (zPre E w sz)) := by
  intro a U g mk q
  obtain ⟨q0, q1, qP, qK, qD, qG, qn⟩ := q
  exact ⟨q0, q1, qP, va_K.moved (u := U) (U := U.calling g mk a) (Vm.Alike.refl U.vm) qK, qD, zG.moved (u := U) (U := U.calling g mk a) (Vm.Alike.refl U.vm) qG, zN.same (u := U) (U := U.calling g mk a) rfl qn⟩
theorem z_preS {As : List Value} (hK : zK E s) (hG : zG E A s s.heap) (hn : zN E s) (hH : zH E w A s.heap H locs) (hA : ∀ q, s.heap.size ≤ q → A q) : PreS s H (va_Pc As (zPre E w H.size)) As :=
  ⟨z_blind, fun _ hU hW => ⟨rfl, z_preAt hK hG hn hH hA hU hW⟩⟩
theorem z_preV {As : List Value} {q ci : Nat} {fs : List Value} {r : vw_C} (hK : zK E s) (hG : zG E A s s.heap) (hn : zN E s) (hH : zH E w A s.heap H locs) (hA : ∀ q, s.heap.size ≤ q → A q) (hq : q < zn E) (he : w q = .inr (ci, fs)) (hc : vwCl[ci]? = some r) : PreV s H r.1 (ad E q) (va_Pc (.ref (ad E q) :: As) (zPre E w H.size)) As :=
  ⟨z_blind, va_recv (q := r) hK hH.1 hc (q0 := q) (by rw [wl_get hq, he]), fun _ hU hW => ⟨rfl, z_preAt hK hG hn hH hA hU hW⟩⟩
theorem z_calli {post : Int → zW → Prop} {a : Array Value} (hr : va_Run p l e R s m args below meth c H locs cells slots 0 0 (F0 m pc ls st0) rest (zQi E w post H.size a) (va_A (wl E w) H.size)) (hH : zH E w A s.heap H locs) (hA : ∀ q, s.heap.size ≤ q → A q)
    (kk : ∀ (z : Int) (w' : zW) (H' : Heap) (locs' : List Loc), zH E w' A s.heap H' locs' → post z w' → W p l e R s m args below meth c H' locs' cells slots Q (F0 m (pc + 3) ls (.int (iI z) :: rest))) : W p l e R s m args below meth c H locs cells slots Q (F0 m pc ls st0) :=
  va_calli hr hH.2.2 (fun q _ h => z_in hH hA q h) (z_in hH hA) (fun r w' t H1 locs1 ht _ hp hB _ _ hS => by
    obtain ⟨z, rfl, hz⟩ := hp
    exact kk z w' H1 locs1 ⟨by rw [← ht]; exact hB.1, hB.2.weaken (fun _ q _ h => z_in hH hA q.1 h), hS⟩ hz)
theorem z_calll {post : Int → zW → Prop} {a : Array Value} (hr : va_Run p l e R s m args below meth c H locs cells slots 0 0 (F0 m pc ls st0) rest (zQl E w post H.size a) (va_A (wl E w) H.size)) (hH : zH E w A s.heap H locs) (hA : ∀ q, s.heap.size ≤ q → A q)
    (kk : ∀ (z : Int) (w' : zW) (H' : Heap) (locs' : List Loc), zH E w' A s.heap H' locs' → post z w' → W p l e R s m args below meth c H' locs' cells slots Q (F0 m (pc + 3) ls (.long (Int64.ofInt z) :: rest))) : W p l e R s m args below meth c H locs cells slots Q (F0 m pc ls st0) :=
  va_calll hr hH.2.2 (fun q _ h => z_in hH hA q h) (z_in hH hA) (fun r w' t H1 locs1 ht _ hp hB _ _ hS => by
    obtain ⟨z, rfl, hz⟩ := hp
    exact kk z w' H1 locs1 ⟨by rw [← ht]; exact hB.1, hB.2.weaken (fun _ q _ h => z_in hH hA q.1 h), hS⟩ hz)
theorem z_callv {post : zW → Prop} {a : Array Value} (hr : va_Run p l e R s m args below meth c H locs cells slots 0 0 (F0 m pc ls st0) rest (zQv E w post H.size a) (va_A (wl E w) H.size)) (hH : zH E w A s.heap H locs) (hA : ∀ q, s.heap.size ≤ q → A q)
    (kk : ∀ (w' : zW) (H' : Heap) (locs' : List Loc), zH E w' A s.heap H' locs' → post w' → W p l e R s m args below meth c H' locs' cells slots Q (F0 m (pc + 3) ls rest)) : W p l e R s m args below meth c H locs cells slots Q (F0 m pc ls st0) :=
  va_callv hr hH.2.2 (fun q _ h => z_in hH hA q h) (z_in hH hA) (fun w' t H1 locs1 ht _ hp hB _ _ hS =>
    kk w' H1 locs1 ⟨by rw [← ht]; exact hB.1, hB.2.weaken (fun _ q _ h => z_in hH hA q.1 h), hS⟩ hp)
theorem z_cwS {y : MethodName} {bytes : ByteArray} {maxL index : Nat} {ret : Option FieldType} {rm : Room} {own : String} (n : Nat) (hg : ∀ w ∈ GW, w.before args s = true) (hc : Cond.code y bytes maxL ret ∈ GW) (hl : Cond.methodLink own index y ∈ GW) (hi : Cond.initialized y.cls ∈ GW) (hst : Cond.static y ∈ GW)
    (hd : y.cls ≠ "java/lang/invoke/MethodHandle" ∧ y.cls ≠ "java/lang/invoke/VarHandle" ∧ (parseMethodDescriptor y.desc).map (fun d => d.parameters.length) = some n ∧ rm.cells = 0 ∧ rm.slots = 0) (hR : rm.frames + 1 ≤ R.frames ∧ 8 + (maxL + 11) + rm.locals ≤ R.locals) :
    CallB R s args own index y bytes maxL ret (WS y bytes maxL ret) rm 0 0 n ∧ (Cond.static y).before args s = true :=
  ⟨callB_of (Ts := GW) n hg (fun w hw => by have hm : w ∈ GW := (List.mem_cons.mp hw).elim (fun e => e ▸ hc) id; exact ⟨hm, gw_good hm⟩) rfl hd.2.2.2.1 hd.2.2.2.2 (hg _ hi) (hg _ hl) ⟨hd.1, hd.2.1, hd.2.2.1⟩ hR, hg _ hst⟩
theorem z_cwV {y : MethodName} {bytes : ByteArray} {maxL index : Nat} {ret : Option FieldType} {rm : Room} {own C : String} (n : Nat) (hg : ∀ w ∈ GW, w.before args s = true) (hc : Cond.code y bytes maxL ret ∈ GW) (hl : Cond.methodLink own index y ∈ GW) (hi : Cond.initialized y.cls ∈ GW) (him : Cond.instanceMethod y ∈ GW) (hse : Cond.selects C y y ∈ GW)
    (hd : y.cls ≠ "java/lang/invoke/MethodHandle" ∧ y.cls ≠ "java/lang/invoke/VarHandle" ∧ (parseMethodDescriptor y.desc).map (fun d => d.parameters.length) = some n ∧ rm.cells = 0 ∧ rm.slots = 0) (hR : rm.frames + 1 ≤ R.frames ∧ 8 + (maxL + 11) + rm.locals ≤ R.locals) :
    CallW R s args own C index y bytes maxL ret (WS y bytes maxL ret) rm 0 0 n :=
  ⟨callB_of (Ts := GW) n hg (fun w hw => by have hm : w ∈ GW := (List.mem_cons.mp hw).elim (fun e => e ▸ hc) id; exact ⟨hm, gw_good hm⟩) rfl hd.2.2.2.1 hd.2.2.2.2 (hg _ hi) (hg _ hl) ⟨hd.1, hd.2.1, hd.2.2.1⟩ hR, hg _ him, hg _ hse⟩
/-- ends -/
theorem z_iret {post : Int → zW → Prop} {z : Int} (hexec : p.tables.exec = Jvm.exec) (hb : c.code = cc) (hr : meth.sig.returnType = some .int) (hlocks : meth.locks = false) (hH : zH E w (va_A (wl E w0) s.heap.size) s.heap H locs) (hp : post z w) (hdg : decode cc pc = .ok (.ireturn, 1)) :
    W p l e R s m args below meth c H locs cells slots (MQ below (zQi E w0 post s.heap.size) args s cells slots (va_A (wl E w0) s.heap.size)) (F0 m pc ls [.int (iI z)]) :=
  W.iret hexec hb hr (fun t ht hW => ⟨⟨iI z, w, rfl, ⟨z, rfl, hp⟩, by rw [ht]; exact hH.1, hH.2.1⟩, hH.2.2.F ht⟩) hH.2.2.2.2 hdg hlocks
theorem z_zret {post : Int → zW → Prop} {z : Int} {ty : FieldType} (hexec : p.tables.exec = Jvm.exec) (hb : c.code = cc) (hr : meth.sig.returnType = some ty) (hlocks : meth.locks = false) (hH : zH E w (va_A (wl E w0) s.heap.size) s.heap H locs) (hp : post z w) (hn : narrow ty (.int (iI z)) = .int (iI z)) (hdg : decode cc pc = .ok (.ireturn, 1)) :
    W p l e R s m args below meth c H locs cells slots (MQ below (zQi E w0 post s.heap.size) args s cells slots (va_A (wl E w0) s.heap.size)) (F0 m pc ls [.int (iI z)]) :=
  W.zret hexec hb hr hn (fun t ht hW => ⟨⟨iI z, w, rfl, ⟨z, rfl, hp⟩, by rw [ht]; exact hH.1, hH.2.1⟩, hH.2.2.F ht⟩) hH.2.2.2.2 hdg hlocks
theorem z_lret {post : Int → zW → Prop} {z : Int} (hexec : p.tables.exec = Jvm.exec) (hb : c.code = cc) (hr : meth.sig.returnType = some .long) (hlocks : meth.locks = false) (hH : zH E w (va_A (wl E w0) s.heap.size) s.heap H locs) (hp : post z w) (hdg : decode cc pc = .ok (.lreturn, 1)) :
    W p l e R s m args below meth c H locs cells slots (MQ below (zQl E w0 post s.heap.size) args s cells slots (va_A (wl E w0) s.heap.size)) (F0 m pc ls [.long (Int64.ofInt z)]) :=
  W.lret hexec hb hr (fun t ht hW => ⟨⟨Int64.ofInt z, w, rfl, ⟨z, rfl, hp⟩, by rw [ht]; exact hH.1, hH.2.1⟩, hH.2.2.F ht⟩) hH.2.2.2.2 hdg hlocks
theorem z_vret {post : zW → Prop} (hexec : p.tables.exec = Jvm.exec) (hb : c.code = cc) (hr : meth.sig.returnType = none) (hlocks : meth.locks = false) (hH : zH E w (va_A (wl E w0) s.heap.size) s.heap H locs) (hp : post w) (hdg : decode cc pc = .ok (.return_, 1)) :
    W p l e R s m args below meth c H locs cells slots (MQ below (zQv E w0 post s.heap.size) args s cells slots (va_A (wl E w0) s.heap.size)) (F0 m pc ls []) :=
  W.vret hexec hb hr (fun t ht hW => ⟨⟨w, rfl, hp, by rw [ht]; exact hH.1, hH.2.1⟩, hH.2.2.F ht⟩) hH.2.2.2.2 hdg hlocks
end ZL
