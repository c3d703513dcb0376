/-! What the reference's apply, adjust, fit and compare leave. -/
def ApF (op z d pa na va pb nb vb : Int) (kf sf mf G k' s' m' G' : Int → Int) : Prop :=
  ((op = 0 ∨ op = 1) ∧ ∃ n X : Int, (n = 0 ∨ n = 1) ∧ AbR ((sv na va + sv (dif nb op) vb) * Tp 24) 0 X n ∧ KpR z d (max pa pb) n (Rn X (48 - max pa pb)) kf sf mf G k' s' m' G') ∨
  (op = 2 ∧ KpR z d (min (pa + pb) 24) (dif na nb) (Rn (va * vb) (48 - min (pa + pb) 24)) kf sf mf G k' s' m' G') ∨
  (op = 3 ∧ ∃ wa wb la lb P : Int, Wt va wa ∧ Wt vb wb ∧ Ld va la ∧ Ld vb lb ∧ P = pd wa wb la lb pa pb ∧ KpR z d P (dif na nb) (Rn (va * Tp (P + 1) / vb * Tp (48 - (P + 1))) (48 - P)) kf sf mf G k' s' m' G') ∨
  (op = 4 ∧ KpR z d 0 (dif na nb) (va / vb * Tp 48) kf sf mf G k' s' m' G') ∨
  (op = 5 ∧ KpR z d (max pa pb) na (va % vb * Tp 24) kf sf mf G k' s' m' G')
def ApR (op z d ka kb pa na va pb nb vb : Int) (kf sf mf G k' s' m' G' : Int → Int) : Prop :=
  ((ka = 1 ∨ kb = 1) ∧ SpR z d 1 kf sf mf G k' s' m' G') ∨
  (ka ≠ 1 ∧ kb ≠ 1 ∧ (1 < ka ∨ 1 < kb) ∧ ∃ sa sb : Int, SgR ka na va sa ∧ SgR kb nb vb sb ∧ IfR op z d ka kb sa sb pa na va kf sf mf G k' s' m' G') ∨
  (ka = 0 ∧ kb = 0 ∧ 3 ≤ op ∧ vb = 0 ∧ z = -4 ∧ NoR kf sf mf G k' s' m' G') ∨
  (ka = 0 ∧ kb = 0 ∧ (op < 3 ∨ 0 < vb) ∧ ApF op z d pa na va pb nb vb kf sf mf G k' s' m' G')
def TwR (na dn va X : Int) : Prop := (na = dn ∧ va % Tp 48 ≠ 0 ∧ X = va / Tp 48 * Tp 48 + Tp 48) ∨ (¬ (na = dn ∧ va % Tp 48 ≠ 0) ∧ X = va / Tp 48 * Tp 48)
def LeR (X p : Int) : Prop := 0 ≤ p ∧ p ≤ 24 ∧ (p = 0 ∨ X / Tp (48 - p) % 10 ≠ 0) ∧ ∀ k : Int, p < k → k ≤ 24 → X / Tp (48 - k) % 10 = 0
def AjF (op m z d pa na va : Int) (kf sf mf G k' s' m' G' : Int → Int) : Prop :=
  (op = 0 ∧ KpR z d (mx0 m) na (Rn (va * Tp 24) (48 - m)) kf sf mf G k' s' m' G') ∨
  (op = 1 ∧ KpR z d (mx0 m) na (va * Tp 24 / Tp (48 - m) * Tp (48 - m)) kf sf mf G k' s' m' G') ∨
  ((op = 2 ∨ op = 3) ∧ ∃ X : Int, TwR na (op - 2) (va * Tp 24) X ∧ KpR z d 0 na X kf sf mf G k' s' m' G') ∨
  (op = 4 ∧ KpR z d pa (1 - na) (va * Tp 24) kf sf mf G k' s' m' G') ∨
  (op = 5 ∧ ∃ p : Int, LeR (va * Tp 24) p ∧ KpR z d p na (va * Tp 24) kf sf mf G k' s' m' G') ∨
  (op = 6 ∧ ∃ w S : Int, Wt va w ∧ 0 ≤ S ∧ S * S ≤ va * Tp (2 * (rp w pa + 1)) / Tp 24 ∧ va * Tp (2 * (rp w pa + 1)) / Tp 24 < (S + 1) * (S + 1) ∧ KpR z d (rp w pa) 0 (Rn (S * Tp (48 - (rp w pa + 1))) (48 - rp w pa)) kf sf mf G k' s' m' G')
def AjR (op m z d ka pa na va : Int) (kf sf mf G k' s' m' G' : Int → Int) : Prop :=
  (op = 6 ∧ (ka = 3 ∨ (ka = 0 ∧ na = 1)) ∧ z = -5 ∧ NoR kf sf mf G k' s' m' G') ∨
  (¬ (op = 6 ∧ (ka = 3 ∨ (ka = 0 ∧ na = 1))) ∧ ka ≠ 0 ∧ ((op = 4 ∧ 1 < ka ∧ SpR z d (5 - ka) kf sf mf G k' s' m' G') ∨ (¬ (op = 4 ∧ 1 < ka) ∧ SpR z d ka kf sf mf G k' s' m' G'))) ∨
  (¬ (op = 6 ∧ (ka = 3 ∨ (ka = 0 ∧ na = 1))) ∧ ka = 0 ∧ AjF op m z d pa na va kf sf mf G k' s' m' G')
def FtR (pr sc z d ka na va : Int) (kf sf mf G k' s' m' G' : Int → Int) : Prop :=
  (ka = 1 ∧ z = 0 ∧ NoR kf sf mf G k' s' m' G') ∨ (1 < ka ∧ z = -3 ∧ NoR kf sf mf G k' s' m' G') ∨
  (ka = 0 ∧ Tp (48 + pr - sc) ≤ Rn (va * Tp 24) (48 - sc) ∧ z = -3 ∧ NoR kf sf mf G k' s' m' G') ∨
  (ka = 0 ∧ Rn (va * Tp 24) (48 - sc) < Tp (48 + pr - sc) ∧ KpR z d (mx0 sc) na (Rn (va * Tp 24) (48 - sc)) kf sf mf G k' s' m' G')
theorem tw_0 {f : Int → Int} (bf : bd f 140 0 9) (h : ∀ j : Int, 0 ≤ j → j < 48 → f j = 0) : Vt f 140 % Tp 48 = 0 := by
  obtain ⟨t, ht⟩ := Vt_hi f (n := 48) (N := 140) (by decide) (by decide)
  rw [ht f (fun _ _ _ => rfl), Vt_zero (by decide) h, Int.zero_add]
  exact Int.mul_emod_left _ _
theorem tw_1 {f : Int → Int} {i : Int} (bf : bd f 140 0 9) (h0 : 0 ≤ i) (h1 : i < 48) (h : f i ≠ 0) : Vt f 140 % Tp 48 ≠ 0 := by
  obtain ⟨t, ht⟩ := Vt_hi f (n := 48) (N := 140) (by decide) (by decide)
  have b := Vt_in bf (n := 48) (by decide) (by decide)
  rw [ht f (fun _ _ _ => rfl), Int.add_mul_emod_self_right, Int.emod_eq_of_lt b.1 b.2]
  have := Vt_pos (f := f) (N := 48) (j := i) (fun k k1 k2 => bf k k1 (by omega)) h0 h1 h
  omega
theorem fl_in {v x b : Int} (hv : 0 ≤ v) (h : v < b) : 0 ≤ v / Tp x * Tp x ∧ v / Tp x * Tp x < b := ct_lt hv h
theorem T24_lt {v : Int} (h : 0 ≤ v ∧ v < Tp 56) : 0 ≤ v * Tp 24 ∧ v * Tp 24 < Tp 80 := by
  have p := Tp_pos 24
  have e : Tp 80 = Tp 56 * Tp 24 := by rw [← Tp_add (by decide) (by decide)]; rfl
  exact ⟨Int.mul_nonneg h.1 (by omega), by rw [e]; exact mul_lt_r h.2 p⟩
theorem T80_139 : Tp 80 ≤ Tp 139 := Tp_mono (by decide) (by decide)
theorem S_lt {S k : Int} (h0 : 0 ≤ S) (h : S < Tp 42) (hk : 0 ≤ k ∧ k ≤ 48) : 0 ≤ S * Tp (48 - k) ∧ S * Tp (48 - k) < Tp 139 := by
  have p := Tp_pos (48 - k)
  have m := mul_lt_r h p
  rw [← Tp_add (by decide) (by omega)] at m
  have t := Tp_mono (a := 42 + (48 - k)) (b := 139) (by omega) (by omega)
  exact ⟨Int.mul_nonneg h0 (by omega), by omega⟩
theorem cmv_lt {x y : Int → Int} {a b i : Int} (bx : bd x 56 0 9) (by1 : bd y 56 0 9) (ha : a = 0 ∨ a = 1) (hb : b = 0 ∨ b = 1) (hi : 0 ≤ i ∧ i < 56) (he : ∀ j, i < j → j < 56 → sv a (x j) = sv b (y j)) (h : sv a (x i) < sv b (y i)) : sv a (Vt x 56) < sv b (Vt y 56) := by
  have e1 := Vt_sv ha x 56
  have e2 := Vt_sv hb y 56
  rw [show ((56 : Nat) : Int) = 56 from rfl] at e1 e2
  rw [← e1, ← e2]
  obtain ⟨t, ht⟩ := Vt_hi (fun j => sv b (y j)) (n := i + 1) (N := 56) (by omega) (by omega)
  rw [ht (fun j => sv a (x j)) (fun j g1 g2 => he j (by omega) g2), ht (fun j => sv b (y j)) (fun _ _ _ => rfl), Vt_s _ hi.1, Vt_s _ hi.1]
  have s1 := Vt_sv ha x i.toNat
  have s2 := Vt_sv hb y i.toNat
  rw [show ((i.toNat : Nat) : Int) = i by omega] at s1 s2
  rw [s1, s2]
  have b1 := Vt_in bx (n := i) (by omega) (by omega)
  have b2 := Vt_in by1 (n := i) (by omega) (by omega)
  have m := mul_le_r (show sv a (x i) + 1 ≤ sv b (y i) by omega) (Int.le_of_lt (Tp_pos i))
  rw [Int.add_mul] at m
  have c1 := bx i hi.1 hi.2
  have c2 := by1 i hi.1 hi.2
  have d1 := sv_c ha (x i)
  have d2 := sv_c hb (y i)
  have d3 := sv_c ha (Vt x i)
  have d4 := sv_c hb (Vt y i)
  show sv a (Vt x i) + sv a (x i) * Tp i + t * Tp (i + 1) < sv b (Vt y i) + sv b (y i) * Tp i + t * Tp (i + 1)
  omega
theorem cmv_eq {x y : Int → Int} {a b : Int} (ha : a = 0 ∨ a = 1) (hb : b = 0 ∨ b = 1) (he : ∀ j : Int, 0 ≤ j → j < 56 → sv a (x j) = sv b (y j)) : sv a (Vt x 56) = sv b (Vt y 56) := by
  have e1 := Vt_sv ha x 56
  have e2 := Vt_sv hb y 56
  rw [show ((56 : Nat) : Int) = 56 from rfl] at e1 e2
  rw [← e1, ← e2]
  exact Vt_ext he
def rkM (k : Int) : Int := if k = 3 then 0 else if k = 0 then 1 else if k = 2 then 2 else 3
theorem rkM_c {k : Int} (h : 0 ≤ k ∧ k ≤ 3) : (k = 3 ∧ rkM k = 0) ∨ (k = 0 ∧ rkM k = 1) ∨ (k = 2 ∧ rkM k = 2) ∨ (k = 1 ∧ rkM k = 3) := by
  have c : k = 0 ∨ k = 1 ∨ k = 2 ∨ k = 3 := by omega
  rcases c with rfl | rfl | rfl | rfl <;> decide
def CpR (z ka na va kb nb vb : Int) : Prop :=
  (ka = 0 ∧ kb = 0 ∧ ((z = -1 ∧ sv na va < sv nb vb) ∨ (z = 0 ∧ sv na va = sv nb vb) ∨ (z = 1 ∧ sv nb vb < sv na va))) ∨
  (¬ (ka = 0 ∧ kb = 0) ∧ ((rkM ka < rkM kb ∧ z = -1) ∨ (rkM ka = rkM kb ∧ z = 0) ∨ (rkM kb < rkM ka ∧ z = 1)))
