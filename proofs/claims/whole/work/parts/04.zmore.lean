/-! Rows for longs, xor, signed division. -/
theorem lI_div {a b : Int} (ha : 0 ≤ a) (ha2 : a < 9223372036854775808) (hb : 0 < b) (hb2 : b < 9223372036854775808) : Int64.ofInt a / Int64.ofInt b = Int64.ofInt (a / b) := by
  obtain ⟨n, rfl⟩ : ∃ n : Nat, a = n := ⟨a.toNat, by omega⟩
  obtain ⟨k, rfl⟩ : ∃ n : Nat, b = n := ⟨b.toNat, by omega⟩
  have h := pk_lDiv (a := n) (b := k) (by omega) (by omega) (by omega)
  unfold lN at h
  rw [Int64.ofInt_eq_ofNat, Int64.ofInt_eq_ofNat, h, ← Int64.ofInt_eq_ofNat, Int.natCast_ediv]
theorem xor_neg {x y : Int32} (hy : 0 ≤ y.toInt) : (x ^^^ y).toInt < 0 ↔ x.toInt < 0 := by
  have h1 : (x ^^^ y).toBitVec.msb = (x.toBitVec.msb ^^ y.toBitVec.msb) := by rw [Int32.toBitVec_xor, BitVec.msb_xor]
  have h2 : y.toBitVec.msb = false := by rw [BitVec.msb_eq_toInt]; exact decide_eq_false (Int.not_lt.mpr hy)
  rw [h2, Bool.xor_false, BitVec.msb_eq_toInt, BitVec.msb_eq_toInt] at h1
  have h3 := decide_eq_decide.mp h1
  exact h3
theorem iI_divS {a b : Int} (ha : -2147483648 < a) (ha2 : a < 2147483648) (hb : 0 < b) (hb2 : b < 2147483648) : iI a / iI b = iI (a.tdiv b) := by
  apply Int32.toInt_inj.mp
  have hne : iI a ≠ Int32.minValue := fun h => by
    have e := congrArg Int32.toInt h
    rw [iI_toInt (by omega) ha2] at e
    have : Int32.minValue.toInt = -2147483648 := by decide
    omega
  have k1 : (a.tdiv b).natAbs ≤ a.natAbs := by rw [Int.natAbs_tdiv]; exact Nat.div_le_self _ _
  rw [Int32.toInt_div_of_ne_left _ _ hne, iI_toInt (by omega) ha2, iI_toInt (by omega) hb2, iI_toInt (by omega) (by omega)]
section ZLL
variable {p : Program} {l : Launch} {e : Env} {R : Room} {s : State} {m : MethodId} {args : Array Value} {below : List Frame} {meth : Method} {c : Code} {H : Heap} {locs : List Loc} {cells slots : Nat} {Q : State → Prop}
variable {cc : ByteArray} {pc : Nat} {ls : Array Slot} {rest : List Value}
theorem zv_ladd (hexec : p.tables.exec = Jvm.exec) (hb : c.code = cc) {x y : Int} (hdg : decode cc pc = .ok (.ladd, 1)) (k : W p l e R s m args below meth c H locs cells slots Q (F0 m (pc + 1) ls (.long (Int64.ofInt (x + y)) :: rest))) : W p l e R s m args below meth c H locs cells slots Q (F0 m pc ls (.long (Int64.ofInt y) :: .long (Int64.ofInt x) :: rest)) :=
  lv_ladd hexec hb hdg (by rw [← Int64.ofInt_add]; exact k)
theorem zv_lmul (hexec : p.tables.exec = Jvm.exec) (hb : c.code = cc) {x y : Int} (hdg : decode cc pc = .ok (.lmul, 1)) (k : W p l e R s m args below meth c H locs cells slots Q (F0 m (pc + 1) ls (.long (Int64.ofInt (x * y)) :: rest))) : W p l e R s m args below meth c H locs cells slots Q (F0 m pc ls (.long (Int64.ofInt y) :: .long (Int64.ofInt x) :: rest)) :=
  lv_lmul hexec hb hdg (by rw [← Int64.ofInt_mul]; exact k)
theorem zv_ldiv (hexec : p.tables.exec = Jvm.exec) (hb : c.code = cc) {x y : Int} (h1 : 0 ≤ x) (h2 : x < 9223372036854775808) (h3 : 0 < y) (h4 : y < 9223372036854775808) (hdg : decode cc pc = .ok (.ldiv, 1)) (k : W p l e R s m args below meth c H locs cells slots Q (F0 m (pc + 1) ls (.long (Int64.ofInt (x / y)) :: rest))) : W p l e R s m args below meth c H locs cells slots Q (F0 m pc ls (.long (Int64.ofInt y) :: .long (Int64.ofInt x) :: rest)) :=
  lv_ldiv hexec hb hdg (fun h => by
    have e := congrArg Int64.toInt h
    rw [Int64.toInt_ofInt_of_le (by omega) h4] at e
    have : (0 : Int64).toInt = 0 := by decide
    omega) (by rw [lI_div h1 h2 h3 h4]; exact k)
theorem zv_i2l (hexec : p.tables.exec = Jvm.exec) (hb : c.code = cc) {x : Int} (hx : zr x) (hdg : decode cc pc = .ok (.i2l, 1)) (k : W p l e R s m args below meth c H locs cells slots Q (F0 m (pc + 1) ls (.long (Int64.ofInt x) :: rest))) : W p l e R s m args below meth c H locs cells slots Q (F0 m pc ls (.int (iI x) :: rest)) :=
  lv_i2l hexec hb hdg (Int32.toInt64_ofInt (show (-2147483648 : Int) ≤ x from hx.1) (show x ≤ (2147483647 : Int) by have := hx.2; omega)) k
theorem zv_l2i (hexec : p.tables.exec = Jvm.exec) (hb : c.code = cc) {x : Int} (hdg : decode cc pc = .ok (.l2i, 1)) (k : W p l e R s m args below meth c H locs cells slots Q (F0 m (pc + 1) ls (.int (iI x) :: rest))) : W p l e R s m args below meth c H locs cells slots Q (F0 m pc ls (.long (Int64.ofInt x) :: rest)) :=
  lv_l2i hexec hb hdg Int64.toInt32_ofInt k
theorem zv_lconst_0 (hexec : p.tables.exec = Jvm.exec) (hb : c.code = cc) (hdg : decode cc pc = .ok (.lconst 0, 1)) (k : W p l e R s m args below meth c H locs cells slots Q (F0 m (pc + 1) ls (.long (Int64.ofInt 0) :: rest))) : W p l e R s m args below meth c H locs cells slots Q (F0 m pc ls rest) := lv_lconst hexec hb hdg rfl k
theorem zv_lconst_1 (hexec : p.tables.exec = Jvm.exec) (hb : c.code = cc) (hdg : decode cc pc = .ok (.lconst 1, 1)) (k : W p l e R s m args below meth c H locs cells slots Q (F0 m (pc + 1) ls (.long (Int64.ofInt 1) :: rest))) : W p l e R s m args below meth c H locs cells slots Q (F0 m pc ls rest) := lv_lconst hexec hb hdg rfl k
theorem zv_ldc2 (hexec : p.tables.exec = Jvm.exec) (hb : c.code = cc) {own : String} {index : Nat} {v : Int} (hown : s.vm.findClass own = some m.cls) (hconst : (Jvm.Cond.constantLong own index (Int64.ofInt v)).before args s = true) (hdg : decode cc pc = .ok (.ldc2_w index, 3)) (k : W p l e R s m args below meth c H locs cells slots Q (F0 m (pc + 3) ls (.long (Int64.ofInt v) :: rest))) : W p l e R s m args below meth c H locs cells slots Q (F0 m pc ls rest) := lv_ldc2 hexec hb hown hconst hdg k
theorem zv_idivS (hexec : p.tables.exec = Jvm.exec) (hb : c.code = cc) {x y : Int} (h1 : -2147483648 < x) (h2 : x < 2147483648) (h3 : 0 < y) (h4 : y < 2147483648) (hdg : decode cc pc = .ok (.idiv, 1)) (k : W p l e R s m args below meth c H locs cells slots Q (F0 m (pc + 1) ls (.int (iI (x.tdiv y)) :: rest))) : W p l e R s m args below meth c H locs cells slots Q (F0 m pc ls (.int (iI y) :: .int (iI x) :: rest)) :=
  lv_idiv hexec hb hdg (by rw [← iI_0, iI_eq ⟨by omega, h4⟩ zr_0]; omega) (by rw [iI_divS h1 h2 h3 h4]; exact k)
/-- xor with a number that isn't negative: only the sign is told -/
theorem zv_ixorS (hexec : p.tables.exec = Jvm.exec) (hb : c.code = cc) {x y : Int} (hx : zr x) (hy : 0 ≤ y ∧ y < 2147483648) (hdg : decode cc pc = .ok (.ixor, 1)) (k : ∀ v : Int, zr v → (v < 0 ↔ x < 0) → W p l e R s m args below meth c H locs cells slots Q (F0 m (pc + 1) ls (.int (iI v) :: rest))) : W p l e R s m args below meth c H locs cells slots Q (F0 m pc ls (.int (iI y) :: .int (iI x) :: rest)) :=
  lv_ixor hexec hb hdg (by
    obtain ⟨v, e1, v1, v2⟩ := iI_of (iI x ^^^ iI y)
    have h := xor_neg (x := iI x) (y := iI y) (by rw [iI_toInt (by omega) hy.2]; exact hy.1)
    rw [e1, iI_toInt v1 v2, iI_toInt hx.1 hx.2] at h
    rw [e1]
    exact k v ⟨v1, v2⟩ h)
end ZLL
theorem fl_dn {x y r : Int} (hy : 0 < y) (hr : r = x.tdiv y) (h : 0 ≤ x ∨ r * y = x) : r = x / y := by
  rcases h with h | h
  · rw [hr, Int.tdiv_eq_ediv_of_nonneg h]
  · rw [← h, Int.mul_ediv_cancel _ (by omega)]
theorem fl_up {x y r : Int} (hy : 0 < y) (hr : r = x.tdiv y) (hx : x < 0) (h : r * y ≠ x) : r - 1 = x / y := by
  have e := Int.tdiv_eq_ediv (a := x) (b := y)
  have hd : ¬ y ∣ x := fun ⟨k, hk⟩ => h (by rw [hr, hk, Int.mul_tdiv_cancel_left _ (by omega), Int.mul_comm])
  rw [if_neg (by intro hh; rcases hh with hh | hh; · omega
                 · exact hd hh), Int.sign_eq_one_of_pos hy] at e
  omega
