/-! Rows of the law's body. -/
def R_law : String := "ScaledNumeralDeskLaw"
def sx (xs : Nat → Int32) (i : Int) : Int := (xs i.toNat).toInt
theorem sx_r (xs : Nat → Int32) (i : Int) : zr (sx xs i) := ⟨Int32.le_toInt _, Int32.toInt_lt _⟩
theorem sx_at {xs : Nat → Int32} {i : Int} (h0 : 0 ≤ i) (h1 : i < 2147483648) : xs (iI i).toNatClampNeg = iI (sx xs i) := by
  have e := iI_cl h0 h1
  rw [show (iI i).toNatClampNeg = i.toNat by omega]
  exact (Int32.ofInt_toInt _).symm
abbrev lA (s : State) : Nat → Prop := fun q => s.heap.size ≤ q
def LC (p : Program) (s : State) (m : MethodId) (c : Code) (b L : Nat) (xs : Nat → Int32) (E : zE) : Prop :=
  (p.tables.exec = Jvm.exec ∧ c.code = code ∧ c.maxLocals = 4 ∧ s.vm.findClass R_law = some m.cls ∧ ∀ w ∈ GW, w.before #[Value.ref b] s = true) ∧ va_X b L xs s s.heap ∧ b < s.heap.size ∧ zK E s ∧ zG E (lA s) s s.heap ∧ zN E s
section ZW
variable {p : Program} {l : Launch} {e : Env} {R : Room} {s : State} {m : MethodId} {args : Array Value} {below : List Frame} {meth : Method} {c : Code} {H : Heap} {locs : List Loc} {cells slots : Nat} {Q : State → Prop}
variable {cc : ByteArray} {pc : Nat} {ls : Array Slot} {rest : List Value} {E : zE} {w : zW}
theorem z_sld (hexec : p.tables.exec = Jvm.exec) (hb : c.code = cc) {b L : Nat} {xs : Nat → Int32} (hX : va_X b L xs s s.heap) (hbl : b < s.heap.size) (hH : zH E w (lA s) s.heap H locs) (hL : L ≤ 2560) {i v : Int} (h0 : 0 ≤ i) (h1 : i < L) (hv : sx xs i = v) (hdg : decode cc pc = .ok (.iaload, 1))
    (kk : W p l e R s m args below meth c H locs cells slots Q (F0 m (pc + 1) ls (.int (iI v) :: rest))) : W p l e R s m args below meth c H locs cells slots Q (F0 m pc ls (.int (iI i) :: .ref b :: rest)) :=
  va_sld hexec hb hX hbl (fun h => Nat.not_le.mpr hbl h) hH.2.2 (iI_in h0 h1 (by omega)) hdg (by rw [sx_at (xs := xs) h0 (by omega), hv]; exact kk)
theorem z_slen (hexec : p.tables.exec = Jvm.exec) (hb : c.code = cc) {b L : Nat} {xs : Nat → Int32} (hX : va_X b L xs s s.heap) (hbl : b < s.heap.size) (hH : zH E w (lA s) s.heap H locs) (hdg : decode cc pc = .ok (.arraylength, 1))
    (kk : W p l e R s m args below meth c H locs cells slots Q (F0 m (pc + 1) ls (.int (iI (L : Int)) :: rest))) : W p l e R s m args below meth c H locs cells slots Q (F0 m pc ls (.ref b :: rest)) :=
  va_slen hexec hb hX hbl (fun h => Nat.not_le.mpr hbl h) hH.2.2 hdg (by rw [show Int32.ofNat L = iI (L : Int) from (Int32.ofInt_eq_ofNat).symm]; exact kk)
end ZW
theorem i2c_ex (x : Int32) : ∃ v : Int, 0 ≤ v ∧ v < 65536 ∧ (x.toUInt32 % 65536).toInt32 = iI v := by
  refine ⟨((x.toUInt32 % 65536).toNat : Int), by omega, ?_, ?_⟩
  · have : (x.toUInt32 % 65536).toNat < 65536 := by
      rw [UInt32.toNat_mod]
      exact Nat.mod_lt _ (by decide)
    omega
  · apply Int32.toBitVec_inj.mp
    show (x.toUInt32 % 65536).toBitVec = BitVec.ofInt 32 _
    apply BitVec.eq_of_toNat_eq
    rw [BitVec.toNat_ofInt]
    show (x.toUInt32 % 65536).toNat = _
    have h := (x.toUInt32 % 65536).toNat_lt
    omega
theorem su_lt1 {sn sz mz mv : Int} {sf cn mc : Int → Int} {K : Nat} {P N : Int} {F : Int → Int} {k p n v : Int} (h : SumOk sn sz sf cn mz mc mv) (r : RegOk K P N F k p n v) : V sf 15 + V F 15 < Bp 15 := by
  have a := su_1000 h
  have b := r.2.2.2.2.1
  have e14 : Bp 14 = Tp 56 := Bp_Tp (i := 14) (by decide)
  have e : Bp 15 = 10000 * Bp 14 := Bp_s (i := 14) (by decide)
  have p := Tp_pos 56
  omega
theorem su_lt2 {sn sz mz mv on oz nz nv : Int} {sf cn mc of co nc : Int → Int} (h : SumOk sn sz sf cn mz mc mv) (r : SumOk on oz of co nz nc nv) : V sf 15 + V of 15 < Bp 15 := by
  have a := su_1000 h
  have b := su_1000 r
  have e14 : Bp 14 = Tp 56 := Bp_Tp (i := 14) (by decide)
  have e : Bp 15 = 10000 * Bp 14 := Bp_s (i := 14) (by decide)
  have p := Tp_pos 56
  omega
theorem su_cs {sn sz mz mv : Int} {sf cn mc : Int → Int} (h : SumOk sn sz sf cn mz mc mv) : Sm cn 28 ≤ 1000 := by
  have a := h.2.2.2.2.2.2.1
  have b := h.2.2.2.1
  omega
theorem su_csM {sn sz mz mv : Int} {sf cn mc : Int → Int} (h : SumOk sn sz sf cn mz mc mv) : Sm mc 28 ≤ 1000 := by
  rw [Sm_ext h.2.2.2.2.2.2.2.2.1]; exact su_cs h
