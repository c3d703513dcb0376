/-! Rows for booleans, constants of the enum, copies of rows. -/
theorem nar_z {b : Int} (h : b = 0 ∨ b = 1) : narrow .boolean (.int (iI b)) = .int (iI b) := by rcases h with rfl | rfl <;> rfl
theorem fit_z {b : Int} (h : b = 0 ∨ b = 1) : fits .boolean (.int (iI b)) = true := by rcases h with rfl | rfl <;> rfl
def cpZ (f g : Int → Int) (sp dp n : Int) : Int → Int := fun k => if dp ≤ k ∧ k < dp + n then f (sp + (k - dp)) else g k
theorem cp_in {f g : Int → Int} {sp dp n k : Int} (h : dp ≤ k ∧ k < dp + n) : cpZ f g sp dp n k = f (sp + (k - dp)) := if_pos h
theorem cp_out {f g : Int → Int} {sp dp n k : Int} (h : k < dp ∨ dp + n ≤ k) : cpZ f g sp dp n k = g k := if_neg (by omega)
theorem ar_cpy {f g : Int → Int} {sp dp n : Int} (h1 : 0 ≤ sp) (h2 : 0 ≤ dp) (h3 : 0 ≤ n) (b1 : sp < 2147483648) (b2 : dp < 2147483648) (b3 : n < 2147483648) :
    va_cpy (ar f) (ar g) (iI sp).toNatClampNeg (iI dp).toNatClampNeg (iI n).toNatClampNeg = ar (cpZ f g sp dp n) := by
  funext k
  have e1 := iI_cl h1 b1
  have e2 := iI_cl h2 b2
  have e3 := iI_cl h3 b3
  unfold va_cpy ar
  by_cases h : (iI dp).toNatClampNeg ≤ k ∧ k < (iI dp).toNatClampNeg + (iI n).toNatClampNeg
  · rw [if_pos h, cp_in (by omega)]
    exact congrArg (fun j => iI (f j)) (by omega)
  · rw [if_neg h, cp_out (by omega)]
section ZO
variable {p : Program} {l : Launch} {e : Env} {R : Room} {s : State} {m : MethodId} {args : Array Value} {below : List Frame} {meth : Method} {c : Code} {H : Heap} {locs : List Loc} {cells slots : Nat} {Q : State → Prop}
variable {cc : ByteArray} {pc : Nat} {ls : Array Slot} {rest : List Value} {E : zE} {w : zW} {A : Nat → Prop} {H0 : Heap}
theorem zv_copy (hexec : p.tables.exec = Jvm.exec) (hb : c.code = cc) {nL : Nat} (hml : c.maxLocals = nL) (hls : ls.size = nL) {own : String} {index : Nat} (hown : s.vm.findClass own = some m.cls) (hlink : (Cond.methodLink own index arraycopyName).before args s = true) (hnat : (Cond.native arraycopyName).before args s = true) (hstat : (Cond.static arraycopyName).before args s = true) (hini : (Cond.initialized "java/lang/System").before args s = true)
    (hK : zK E s) (hH : zH E w A H0 H locs) {q0 q1 : Nat} (hq0 : q0 < zn E) (hq1 : q1 < zn E) {n0 n1 : Nat} {f g : Int → Int} (he0 : w q0 = zar E n0 f) (he1 : w q1 = zar E n1 g) {sp dp n : Int} (h1 : 0 ≤ sp) (h2 : 0 ≤ dp) (h3 : 0 ≤ n) (h4 : sp + n ≤ n0) (h5 : dp + n ≤ n1) (hn0 : n0 < 2147483648) (hn1 : n1 < 2147483648)
    (hframes : 1 ≤ R.frames) (hlocals : (rest.map fun v => v.category).sum + 18 ≤ R.locals) (hdg : decode cc pc = .ok (.invokestatic index, 3))
    (kk : ∀ (H1 : Heap) (locs1 : List Loc) (w1 : zW), zH E w1 A H0 H1 locs1 → w1 q1 = zar E n1 (cpZ f g sp dp n) → (∀ k, k ≠ q1 → w1 k = w k) → W p l e R s m args below meth c H1 locs1 cells slots Q (F0 m (pc + 3) ls rest)) :
    W p l e R s m args below meth c H locs cells slots Q (F0 m pc ls (.int (iI n) :: .int (iI dp) :: .ref (ad E q1) :: .int (iI sp) :: .ref (ad E q0) :: rest)) := by
  have e1 := iI_cl h1 (by omega)
  have e2 := iI_cl h2 (by omega)
  have e3 := iI_cl h3 (by omega)
  have ng : ∀ z : Int, 0 ≤ z → z < 2147483648 → ¬ iI z < 0 := fun z a b => by
    rw [← iI_0, iI_lt ⟨by omega, b⟩ zr_0]; omega
  refine va_copyi hexec hb (hml.trans hls.symm) hown hlink hnat hstat hini hK hH.1 hH.2.1 hH.2.2 q0 q1 0 0 (f := ar f) (g := ar g) (n0 := n0) (n1 := n1) (ty := .int) (by rw [wl_get hq0, he0]) (by rw [wl_get hq1, he1]) rfl rfl rfl (ng sp h1 (by omega)) (ng dp h2 (by omega)) (ng n h3 (by omega)) (by omega) (by omega) (fun _ _ => rfl) hframes hlocals hdg (fun H1 locs1 hP hD hS => ?_)
  rw [ar_cpy h1 h2 h3 (by omega) (by omega) (by omega), wl_set] at hP hD
  exact kk H1 locs1 _ ⟨hP, hD, hS⟩ (if_pos rfl) (fun k hk => if_neg hk)
theorem zv_kind (hexec : p.tables.exec = Jvm.exec) (hb : c.code = cc) (hG : zG E A s s.heap) (hH : zH E w A s.heap H locs) {own ref : String} {index : Nat} (hown : s.vm.findClass own = some m.cls) (k : Nat) (hk : k < 4) (hlink : (Cond.fieldLink own index ref (["MINUS", "FINITE", "PLUS", "NAN"].getD k "") "LScaledNumeralDesk$Kind;").before args s = true) (hsame : ∀ x, s.fieldFound? "ScaledNumeralDesk$Kind" (["MINUS", "FINITE", "PLUS", "NAN"].getD k "") "LScaledNumeralDesk$Kind;" = some x → s.fieldFound? ref (["MINUS", "FINITE", "PLUS", "NAN"].getD k "") "LScaledNumeralDesk$Kind;" = some x) (hdg : decode cc pc = .ok (.getstatic index, 3)) (kk : W p l e R s m args below meth c H locs cells slots Q (F0 m (pc + 3) ls (.ref (zg E (1 + k)) :: rest))) : W p l e R s m args below meth c H locs cells slots Q (F0 m pc ls rest) :=
  va_gets hexec hb (hG.2.2.1.1 k hk).1 hH.2.2 hown hlink hsame hdg kk
theorem zg_inj (hG : zG E A s s.heap) {a b : Nat} (ha : a < 4) (hb : b < 4) : (some (zg E (1 + a)) : Option Nat) = some (zg E (1 + b)) ↔ a = b :=
  ⟨fun h => hG.2.2.1.2 a b ha hb (Option.some.inj h), fun h => by rw [h]⟩
theorem zv_acmp_ne (hexec : p.tables.exec = Jvm.exec) (hb : c.code = cc) (hG : zG E A s s.heap) {a b : Nat} (ha : a < 4) (hb4 : b < 4) {off : Int} {tgt : Nat} (hdg : decode cc pc = .ok (.if_acmp .ne off, 3)) (ht : (pc : Int) + off = (tgt : Int)) (kt : ¬ a = b → W p l e R s m args below meth c H locs cells slots Q (F0 m tgt ls rest)) (kf : a = b → W p l e R s m args below meth c H locs cells slots Q (F0 m (pc + 3) ls rest)) : W p l e R s m args below meth c H locs cells slots Q (F0 m pc ls (.ref (zg E (1 + b)) :: .ref (zg E (1 + a)) :: rest)) :=
  lv_acmp_ne (rx := some (zg E (1 + a))) (ry := some (zg E (1 + b))) hexec hb hdg ht (fun h => kt (fun z => h ((zg_inj hG ha hb4).mpr z))) (fun h => kf ((zg_inj hG ha hb4).mp h))
theorem zv_acmp_eq (hexec : p.tables.exec = Jvm.exec) (hb : c.code = cc) (hG : zG E A s s.heap) {a b : Nat} (ha : a < 4) (hb4 : b < 4) {off : Int} {tgt : Nat} (hdg : decode cc pc = .ok (.if_acmp .eq off, 3)) (ht : (pc : Int) + off = (tgt : Int)) (kt : a = b → W p l e R s m args below meth c H locs cells slots Q (F0 m tgt ls rest)) (kf : ¬ a = b → W p l e R s m args below meth c H locs cells slots Q (F0 m (pc + 3) ls rest)) : W p l e R s m args below meth c H locs cells slots Q (F0 m pc ls (.ref (zg E (1 + b)) :: .ref (zg E (1 + a)) :: rest)) :=
  lv_acmp_eq (rx := some (zg E (1 + a))) (ry := some (zg E (1 + b))) hexec hb hdg ht (fun h => kt ((zg_inj hG ha hb4).mp h)) (fun h => kf (fun z => h ((zg_inj hG ha hb4).mpr z)))
end ZO
/-- a number with its sign -/
def sv (n v : Int) : Int := if n = 1 then -v else v
theorem sv_0 (v : Int) : sv 0 v = v := if_neg (by decide)
theorem sv_1 (v : Int) : sv 1 v = -v := if_pos rfl
theorem sv_c {n : Int} (h : n = 0 ∨ n = 1) (v : Int) : (n = 0 ∧ sv n v = v) ∨ (n = 1 ∧ sv n v = -v) := by
  rcases h with rfl | rfl
  · exact Or.inl ⟨rfl, sv_0 v⟩
  · exact Or.inr ⟨rfl, sv_1 v⟩
/-- taken away if ta is one -/
def tk (ta v : Int) : Int := if ta = 1 then -v else v
theorem tk_0 (v : Int) : tk 0 v = v := if_neg (by decide)
theorem tk_1 (v : Int) : tk 1 v = -v := if_pos rfl
def mx0 (x : Int) : Int := max x 0
theorem mx0_p {x : Int} (h : 0 ≤ x) : mx0 x = x := by unfold mx0; omega
def MwV (ng aw va : Int) : Int := va / Tp 24 * Tp 24 + (if ng = aw ∧ va % Tp 24 ≠ 0 then Tp 24 else 0)
theorem MwV_y {ng aw va : Int} (h : ng = aw ∧ va % Tp 24 ≠ 0) : MwV ng aw va = va / Tp 24 * Tp 24 + Tp 24 := by unfold MwV; rw [if_pos h]
theorem MwV_n {ng aw va : Int} (h : ¬ (ng = aw ∧ va % Tp 24 ≠ 0)) : MwV ng aw va = va / Tp 24 * Tp 24 := by unfold MwV; rw [if_neg h]; omega
def TcV (va x : Int) : Int := if x ≤ 0 then va else va / Tp x * Tp x
theorem sv_x {y no ta : Int} (hy : (y = 0 ∧ no = ta) ∨ (y = 1 ∧ no ≠ ta)) (hno : no = 0 ∨ no = 1) (hta : ta = 0 ∨ ta = 1) (v : Int) : tk ta (sv no v) = sv y v := by
  show (if ta = 1 then -(sv no v) else sv no v) = sv y v
  rcases hno with rfl | rfl <;> rcases hta with rfl | rfl
  · rw [if_neg (by decide), show y = 0 by omega]
  · rw [if_pos rfl, show y = 1 by omega, sv_0, sv_1]
  · rw [if_neg (by decide), show y = 1 by omega]
  · rw [if_pos rfl, show y = 0 by omega, sv_0, sv_1]; omega
theorem sv_add {n a b : Int} (hn : n = 0 ∨ n = 1) : sv n (a + b) = sv n a + sv n b := by
  rcases hn with rfl | rfl
  · rw [sv_0, sv_0, sv_0]
  · rw [sv_1, sv_1, sv_1]; omega
theorem sv_op {n k : Int} (hn : n = 0 ∨ n = 1) (hk : k = 0 ∨ k = 1) (h : n ≠ k) (a b : Int) : sv n (a - b) = sv n a + sv k b := by
  rcases hn with rfl | rfl
  · rw [show k = 1 by omega, sv_0, sv_0, sv_1]; omega
  · rw [show k = 0 by omega, sv_1, sv_1, sv_0]; omega
theorem tz_V {f : Int → Int} {N z : Int} (bf : bd f N 0 9999) (h0 : 0 ≤ z) (h1 : z < N) (hz : ∀ j, z < j → j < N → f j = 0) (hf : f z ≠ 0) : Bp z ≤ V f N ∧ V f N < Bp (z + 1) ∧ f z = V f N / Bp z := by
  have e := V_top h0 h1 hz
  have b := V_in bf h0 (by omega)
  have x := bf z h0 h1
  have m1 := mul_le_r (show 1 ≤ f z by omega) (show 0 ≤ Bp z by omega)
  have m2 := mul_le_r (show f z ≤ 9999 by omega) (show 0 ≤ Bp z by omega)
  refine ⟨by omega, by rw [Bp_s h0]; omega, ?_⟩
  rw [e, Int.add_mul_ediv_right _ _ (by omega), Int.ediv_eq_zero_of_lt b.1 b.2]
  omega
theorem tz_0 {f : Int → Int} {N z : Int} (h0 : 0 ≤ N) (h : z < 0) (hz : ∀ j, z < j → j < N → f j = 0) : V f N = 0 := V_zero h0 (fun j g1 g2 => hz j (by omega) g2)
theorem cp_bd {f g : Int → Int} {N M sp dp n lo hi : Int} (bf : bd f N lo hi) (bg : bd g M lo hi) (h0 : 0 ≤ sp) (h : sp + n ≤ N) : bd (cpZ f g sp dp n) M lo hi := by
  intro k k0 k1
  by_cases hk : dp ≤ k ∧ k < dp + n
  · rw [cp_in hk]; exact bf _ (by omega) (by omega)
  · rw [cp_out (by omega)]; exact bg k k0 k1
theorem cp_V {f g : Int → Int} {n : Int} : V (cpZ f g 0 0 n) n = V f n := V_ext (fun j g1 g2 => by rw [cp_in (by omega)]; exact congrArg f (by omega))
theorem V0_of {f : Int → Int} (h : ∀ j : Int, 0 ≤ j → j < 15 → f j = 0) : V f 15 = 0 := V_zero (by decide) h
/-- WEIGHT and LEAD of a number of limbs -/
def Wt (v w : Int) : Prop := (w = 0 ∧ v = 0) ∨ (Bp (w + 6) ≤ v ∧ v < Bp (w + 7) ∧ -6 ≤ w ∧ w ≤ 8)
def Ld (v d : Int) : Prop := (d = 0 ∧ v = 0) ∨ (∃ t : Int, 0 ≤ t ∧ t < 15 ∧ Bp t ≤ v ∧ v < Bp (t + 1) ∧ d = v / Bp t)
