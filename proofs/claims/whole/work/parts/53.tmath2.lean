/-! Rows of the reference's second part: boolean stores, or with 32, registers of digits. -/
theorem nar_b {x : Int} (h : x = 0 ∨ x = 1) : vp_nar .boolean (iI x) = iI x := by rcases h with rfl | rfl <;> rfl
def or32 (x : Int) : Int := if x / 32 % 2 = 0 then x + 32 else x
theorem or32_all : ∀ n : Fin 128, iI (n.val : Int) ||| iI 32 = iI (or32 (n.val : Int)) := by decide +kernel
theorem or32_eq {x : Int} (h : 0 ≤ x ∧ x < 128) : iI x ||| iI 32 = iI (or32 x) := by
  have := or32_all ⟨x.toNat, by omega⟩
  rwa [show ((x.toNat : Nat) : Int) = x by omega] at this
theorem or32_in {x : Int} (h : 0 ≤ x ∧ x < 128) : 0 ≤ or32 x ∧ or32 x < 160 := by
  unfold or32
  by_cases g : x / 32 % 2 = 0
  · rw [if_pos g]; omega
  · rw [if_neg g]; omega
theorem or32_lw {x s : Int} (h : 0 ≤ x ∧ x < 127) (hs : 97 ≤ s ∧ s ≤ 122) : or32 x = s ↔ lw x = s := by
  unfold or32 lw
  by_cases g : x / 32 % 2 = 0
  · rw [if_pos g]
    by_cases k : 65 ≤ x ∧ x ≤ 90
    · rw [if_pos k]
    · rw [if_neg k]; omega
  · rw [if_neg g, if_neg (by omega)]
section ZM
variable {p : Program} {l : Launch} {e : Env} {R : Room} {s : State} {m : MethodId} {args : Array Value} {below : List Frame} {meth : Method} {c : Code} {H : Heap} {locs : List Loc} {cells slots : Nat} {Q : State → Prop}
variable {cc : ByteArray} {pc : Nat} {ls : Array Slot} {rest : List Value} {E : zE} {w : zW} {A : Nat → Prop} {H0 : Heap}
theorem zv_zast (hexec : p.tables.exec = Jvm.exec) (hb : c.code = cc) (hK : zK E s) (hH : zH E w A H0 H locs) {q : Nat} (hq : q < zn E) {N : Nat} {f : Int → Int} (he : w q = zaz E N f) {i x : Int} (h0 : 0 ≤ i) (h1 : i < N) (hN : N < 2147483648) (hx0 : x = 0 ∨ x = 1) (hdg : decode cc pc = .ok (.bastore, 1))
    (kk : ∀ (H1 : Heap) (locs1 : List Loc) (w1 : zW), zH E w1 A H0 H1 locs1 → w1 q = zaz E N (up f i x) → (∀ k, k ≠ q → w1 k = w k) → W p l e R s m args below meth c H1 locs1 cells slots Q (F0 m (pc + 1) ls rest)) : W p l e R s m args below meth c H locs cells slots Q (F0 m pc ls (.int (iI x) :: .int (iI i) :: .ref (ad E q) :: rest)) :=
  va_zast hexec hb hK hH.1 hH.2.1 hH.2.2 q 2 (by rw [wl_get hq, he]) rfl (iI_in h0 h1 hN) hdg (fun H1 locs1 hP hD hS => by
    rw [nar_b hx0, ar_upd h0 (by omega), wl_set] at hP hD
    exact kk H1 locs1 _ ⟨hP, hD, hS⟩ (if_pos rfl) (fun k hk => if_neg hk))
theorem zv_ior32 (hexec : p.tables.exec = Jvm.exec) (hb : c.code = cc) {x : Int} (hx : 0 ≤ x ∧ x < 128) (hdg : decode cc pc = .ok (.ior, 1)) (k : W p l e R s m args below meth c H locs cells slots Q (F0 m (pc + 1) ls (.int (iI (or32 x)) :: rest))) : W p l e R s m args below meth c H locs cells slots Q (F0 m pc ls (.int (iI 32) :: .int (iI x) :: rest)) :=
  lv_ior hexec hb hdg (by rw [or32_eq hx]; exact k)
end ZM
/-- the number of register r -/
def Gt (G : Int → Int) (r : Int) : Int := Vt (fun j => G (56 * r + j)) 56
theorem g_bd {G : Int → Int} {r : Int} (h : bd G 448 0 9) (hr : 0 ≤ r ∧ r < 8) : bd (fun j => G (56 * r + j)) 56 0 9 := fun j g1 g2 => h (56 * r + j) (by omega) (by omega)
theorem Gt_in {G : Int → Int} {r : Int} (h : bd G 448 0 9) (hr : 0 ≤ r ∧ r < 8) : 0 ≤ Gt G r ∧ Gt G r < Tp 56 := Vt_in (g_bd h hr) (by decide) (Int.le_refl 56)
theorem Gt_ext {G G' : Int → Int} {r : Int} (h : ∀ j : Int, 56 * r ≤ j → j < 56 * r + 56 → G' j = G j) : Gt G' r = Gt G r := Vt_ext (fun j g1 g2 => h (56 * r + j) (by omega) (by omega))
theorem Vt_pos {f : Int → Int} {N j : Int} (bf : bd f N 0 9) (h0 : 0 ≤ j) (h1 : j < N) (h : f j ≠ 0) : 0 < Vt f N := by
  have a := Vt_in bf (show 0 ≤ N by omega) (Int.le_refl N)
  refine Int.not_le.mp (fun hh => h ?_)
  exact Vt_small bf (n := 0) (by decide) (by rw [Tp_0]; omega) j h0 h1
theorem Vt_mv (f : Int → Int) {x : Int} (hx : 0 ≤ x) : ∀ n : Nat, Vt f (x + n) = Vt f x + Vt (fun j => f (x + j)) n * Tp x := by
  intro n
  induction n with
  | zero => rw [show x + ((0 : Nat) : Int) = x by omega, show ((0 : Nat) : Int) = 0 from rfl, Vt_0]; omega
  | succ n ih =>
    rw [show x + ((n + 1 : Nat) : Int) = (x + n) + 1 by omega, Vt_s f (by omega), ih, show ((n + 1 : Nat) : Int) = (n : Int) + 1 by omega, Vt_s _ (by omega), Tp_add hx (by omega), Int.add_mul, Int.mul_assoc, Int.mul_comm (Tp x)]
    omega
theorem Vt_hz {f : Int → Int} {n N : Int} (h0 : 0 ≤ n) (h1 : n ≤ N) (hz : ∀ j, n ≤ j → j < N → f j = 0) : Vt f N = Vt f n := by
  obtain ⟨x, hx⟩ := Vt_hi (fun _ => 0) h0 h1
  have e0 := hx (fun _ => 0) (fun _ _ _ => rfl)
  rw [Vt_zero (by omega) (fun _ _ _ => rfl), Vt_zero (by omega) (fun _ _ _ => rfl)] at e0
  have e1 := hx f (fun j g1 g2 => hz j g1 g2)
  omega
/-- the digits 24 .. 79 are kept -/
theorem kp_V {f h : Int → Int} (bf : bd f 140 0 9) (hX : Vt f 140 < Tp 80) (hd : ∀ j : Int, 0 ≤ j → j < 56 → h j = f (24 + j)) : Vt h 56 = Vt f 140 / Tp 24 := by
  have z := Vt_small bf (n := 80) (by decide) hX
  have e := Vt_hz (f := f) (n := 80) (N := 140) (by decide) (by decide) z
  have m := Vt_mv f (x := 24) (by decide) 56
  rw [show (24 : Int) + ((56 : Nat) : Int) = 80 by decide, show ((56 : Nat) : Int) = 56 from rfl] at m
  have b := Vt_in bf (n := 24) (by decide) (by decide)
  rw [e, m, Int.add_mul_ediv_right _ _ (by have := Tp_pos 24; omega), Int.ediv_eq_zero_of_lt b.1 b.2, Int.zero_add]
  exact Vt_ext hd
/-- a number written from place x on into an empty paper -/
theorem sp_V {f h : Int → Int} {n : Nat} {x : Int} (hx : 0 ≤ x) (h2 : x + n ≤ 140) (hz : ∀ j : Int, 0 ≤ j → j < x → h j = 0) (hy : ∀ j : Int, x + n ≤ j → j < 140 → h j = 0) (hd : ∀ j : Int, 0 ≤ j → j < n → h (x + j) = f j) : Vt h 140 = Vt f n * Tp x := by
  rw [Vt_hz (n := x + n) (by omega) h2 hy, Vt_mv h hx n, Vt_zero hx hz, Vt_ext (g := f) hd]
  omega
/-- what keep leaves -/
def KpR (z d s ne X : Int) (kf sf mf G k' s' m' G' : Int → Int) : Prop :=
  (z = -3 ∧ Tp 80 ≤ X ∧ k' = kf ∧ s' = sf ∧ m' = mf ∧ G' = G) ∨
  (z = 0 ∧ X < Tp 80 ∧ k' = up kf d 0 ∧ s' = up sf d s ∧ (∃ M : Int, m' = up mf d M ∧ (M = 0 ∨ M = 1) ∧ sgr (X / Tp 24) M ne) ∧ Gt G' d = X / Tp 24 ∧ ∀ j : Int, ¬ (56 * d ≤ j ∧ j < 56 * d + 56) → G' j = G j)
theorem kp_sg {X M ne : Int} (h0 : 0 ≤ X) (h : (M = 0 ∧ X < Tp 24) ∨ (M = ne ∧ Tp 24 ≤ X) ∨ (M = 0 ∧ ne = 0)) : sgr (X / Tp 24) M ne := by
  have p := Tp_pos 24
  rcases h with ⟨h1, h2⟩ | ⟨h1, h2⟩ | ⟨h1, h2⟩
  · have e := Int.ediv_eq_zero_of_lt h0 h2
    exact ⟨fun _ => h1, fun g => by omega⟩
  · have e : 0 < X / Tp 24 := Int.lt_of_lt_of_le (by decide) (Int.le_ediv_of_mul_le p (by omega : 1 * Tp 24 ≤ X))
    exact ⟨fun g => by omega, fun _ => h1⟩
  · exact ⟨fun _ => h1, fun _ => by omega⟩
theorem rn_in {X p : Int} (h0 : 0 ≤ X) (h : X < Tp 139) (hp : p ≤ 139) : 0 ≤ Rn X p ∧ Rn X p < Tp 140 := by
  have a := Rn_lt (b := 139) h0 hp (by decide) h
  have b : Tp 140 = 10 * Tp 139 := Tp_s (i := 139) (by decide)
  have c := Tp_pos 139
  exact ⟨Rn_nn h0, by omega⟩
/-- the sign and the size of a row before it is settled -/
def AbR (X ne X' n' : Int) : Prop := (0 ≤ X ∧ X' = X ∧ n' = ne) ∨ (X < 0 ∧ X' = -X ∧ n' = 1 - ne)
theorem AbR_in {X ne X' n' : Int} (h : AbR X ne X' n') : 0 ≤ X' := by unfold AbR at h; omega
theorem tw_V {f : Int → Int} {t : Int} (bf : bd f 56 0 9) (h0 : 0 ≤ t ∧ t < 56) (hn : f t ≠ 0) (hz : ∀ j, t < j → j < 56 → f j = 0) : Tp t ≤ Vt f 56 ∧ Vt f 56 < Tp (t + 1) := by
  have e := Vt_top h0.1 h0.2 hz
  have b := Vt_in bf (n := t) (by omega) (by omega)
  have x := bf t h0.1 h0.2
  have m1 := mul_le_r (show 1 ≤ f t by omega) (show 0 ≤ Tp t by omega)
  have m2 := mul_le_r (show f t ≤ 9 by omega) (show 0 ≤ Tp t by omega)
  rw [Tp_s h0.1]
  omega
/-- the place of the highest digit -/
def TpR (f : Int → Int) (t : Int) : Prop := (t = -1 ∧ Vt f 56 = 0) ∨ (0 ≤ t ∧ t < 56 ∧ Tp t ≤ Vt f 56 ∧ Vt f 56 < Tp (t + 1))
theorem wt_of {f : Int → Int} {t : Int} (h : TpR f t) (ht : 0 ≤ t) : Wt (Vt f 56) (t / 4 - 6) := by
  unfold TpR at h
  have h1 : 0 ≤ t ∧ t < 56 ∧ Tp t ≤ Vt f 56 ∧ Vt f 56 < Tp (t + 1) := by rcases h with h | h; omega; exact h
  refine Or.inr ⟨?_, ?_, by omega, by omega⟩
  · rw [Bp_Tp (by omega)]
    exact Int.le_trans (Tp_mono (by omega) (by omega)) h1.2.2.1
  · rw [Bp_Tp (by omega)]
    exact Int.lt_of_lt_of_le h1.2.2.2 (Tp_mono (by omega) (by omega))
theorem ld_step {f : Int → Int} {i v : Int} (bf : bd f 56 0 9) (h : 0 ≤ i ∧ i < 56) (hv : v = Vt f 56 / Tp (i + 1)) : 10 * v + f i = Vt f 56 / Tp i := by
  have d := Vt_dig bf h.1 h.2
  rw [Tp_s h.1, Int.mul_comm 10, edd _ _ (Tp_pos i)] at hv
  omega
theorem ld_of {f : Int → Int} {t v : Int} (h : TpR f t) (ht : 0 ≤ t) (hv : v = Vt f 56 / Tp (t / 4 * 4)) : Ld (Vt f 56) v := by
  unfold TpR at h
  have h1 : 0 ≤ t ∧ t < 56 ∧ Tp t ≤ Vt f 56 ∧ Vt f 56 < Tp (t + 1) := by rcases h with h | h; omega; exact h
  refine Or.inr ⟨t / 4, by omega, by omega, ?_, ?_, ?_⟩
  · rw [Bp_Tp (by omega)]
    exact Int.le_trans (Tp_mono (by omega) (by omega)) h1.2.2.1
  · rw [Bp_Tp (by omega)]
    exact Int.lt_of_lt_of_le h1.2.2.2 (Tp_mono (by omega) (by omega))
  · rw [Bp_Tp (by omega), hv, show t / 4 * 4 = 4 * (t / 4) by omega]
theorem ld_in {f : Int → Int} {i : Int} (bf : bd f 56 0 9) (t : Int) (h : TpR f t) (h0 : 0 ≤ i + 1) (h1 : t - 4 ≤ i) (h2 : i ≤ t) (ht : 0 ≤ t) : 0 ≤ Vt f 56 / Tp (i + 1) ∧ Vt f 56 / Tp (i + 1) < 10000 := by
  unfold TpR at h
  have h3 : 0 ≤ t ∧ t < 56 ∧ Tp t ≤ Vt f 56 ∧ Vt f 56 < Tp (t + 1) := by rcases h with h | h; omega; exact h
  have p := Tp_pos (i + 1)
  have b := Vt_in bf (show (0 : Int) ≤ 56 by decide) (Int.le_refl 56)
  refine ⟨Int.ediv_nonneg b.1 (by omega), Int.ediv_lt_of_lt_mul p ?_⟩
  have e : Tp (i + 5) = 10000 * Tp (i + 1) := by rw [show i + 5 = 4 + (i + 1) by omega, Tp_add (by decide) h0]; rfl
  rw [← e]
  exact Int.lt_of_lt_of_le h3.2.2.2 (Tp_mono (by omega) (by omega))
