/-! ===== the pure side: what the class's cells and the reference's have in common ===== -/
theorem ldk_ia {a b : Int32} (h1 : -2147483648 ≤ a.toInt + b.toInt) (h2 : a.toInt + b.toInt < 2147483648) : (a + b).toInt = a.toInt + b.toInt := by
  rw [Int32.toInt_add]; exact jx_bm32 h1 h2
theorem ldk_is {a b : Int32} (h1 : -2147483648 ≤ a.toInt - b.toInt) (h2 : a.toInt - b.toInt < 2147483648) : (a - b).toInt = a.toInt - b.toInt := by
  rw [Int32.toInt_sub]; exact jx_bm32 h1 h2
theorem ldk_im {a b : Int32} (h1 : -2147483648 ≤ a.toInt * b.toInt) (h2 : a.toInt * b.toInt < 2147483648) : (a * b).toInt = a.toInt * b.toInt := by
  rw [Int32.toInt_mul]; exact jx_bm32 h1 h2
theorem ldk_la {a b : Int64} (h1 : -9223372036854775808 ≤ a.toInt + b.toInt) (h2 : a.toInt + b.toInt < 9223372036854775808) : (a + b).toInt = a.toInt + b.toInt := by
  rw [Int64.toInt_add]; exact jx_bm64 h1 h2
theorem ldk_ls {a b : Int64} (h1 : -9223372036854775808 ≤ a.toInt - b.toInt) (h2 : a.toInt - b.toInt < 9223372036854775808) : (a - b).toInt = a.toInt - b.toInt := by
  rw [Int64.toInt_sub]; exact jx_bm64 h1 h2
theorem ldk_lm {a b : Int64} (h1 : -9223372036854775808 ≤ a.toInt * b.toInt) (h2 : a.toInt * b.toInt < 9223372036854775808) : (a * b).toInt = a.toInt * b.toInt := by
  rw [Int64.toInt_mul]; exact jx_bm64 h1 h2
theorem ldk_t1' : (1 : Int32).toInt = 1 := by decide
theorem ldk_t0' : (0 : Int32).toInt = 0 := by decide
theorem ldk_t2' : (2 : Int32).toInt = 2 := by decide
theorem ldk_T1 : (1 : Int64).toInt = 1 := by decide
theorem ldk_T0 : (0 : Int64).toInt = 0 := by decide
theorem ldk_ne {a b : Int32} : (¬ a = b) ↔ a.toInt ≠ b.toInt := ⟨fun h z => h (Int32.toInt_inj.mp z), fun h z => h (by rw [z])⟩
theorem ldk_eq {a b : Int32} : a = b ↔ a.toInt = b.toInt := Int32.toInt_inj.symm
theorem ldk_Eq {a b : Int64} : a = b ↔ a.toInt = b.toInt := Int64.toInt_inj.symm
theorem ldk_half {x : Int32} (h1 : 0 ≤ x.toInt) (h2 : x.toInt ≤ 1000000) : x * 2 / 2 = x := by
  rw [ldk_eq, Int32.toInt_div, ldk_im (by rw [ldk_t2']; omega) (by rw [ldk_t2']; omega), ldk_t2', Int.tdiv_eq_ediv_of_nonneg (by omega)]
  rw [Int.mul_ediv_cancel _ (by omega)]
  exact jx_bm32 (by omega) (by omega)
theorem ldk_nI {k : Nat} {x : Int32} (h : k < 2 ^ 31) : x = nI k ↔ x.toInt = k := by rw [ldk_eq, nI_toInt h]
theorem ldk_clamp {x : Int32} {k : Nat} (h : x.toInt = k) : x.toNatClampNeg = k := by
  have e : x.toNatClampNeg = x.toInt.toNat := rfl
  rw [e, h]; omega
/-- the sum of the quarters of the picks in mind -/
def ldk_qs (g : Nat → Int32) : Nat → Int
  | 0 => 0
  | n + 1 => ldk_qs g n + 4000 / (g n).toInt
theorem ldk_qs_ext {g h : Nat → Int32} : ∀ (n : Nat), (∀ j, j < n → g j = h j) → ldk_qs g n = ldk_qs h n := by
  intro n
  induction n with
  | zero => intro _; rfl
  | succ n ih =>
    intro q
    show ldk_qs g n + 4000 / (g n).toInt = ldk_qs h n + 4000 / (h n).toInt
    rw [ih (fun j hj => q j (by omega)), q n (by omega)]
theorem ldk_qs_tail {g : Nat → Int32} : ∀ (n : Nat), ldk_qs g (n + 1) = 4000 / (g 0).toInt + ldk_qs (fun j => g (j + 1)) n := by
  intro n
  induction n with
  | zero => show (0 : Int) + 4000 / (g 0).toInt = 4000 / (g 0).toInt + 0; omega
  | succ n ih =>
    show ldk_qs g (n + 1) + 4000 / (g (n + 1)).toInt = 4000 / (g 0).toInt + (ldk_qs (fun j => g (j + 1)) n + 4000 / (g (n + 1)).toInt)
    rw [ih]; omega
theorem ldk_qs_pos {g : Nat → Int32} : ∀ (n : Nat), (∀ j, j < n → 0 < (g j).toInt) → 0 ≤ ldk_qs g n := by
  intro n
  induction n with
  | zero => intro _; exact Int.le_refl _
  | succ n ih =>
    intro q
    have h1 := ih (fun j hj => q j (by omega))
    have h2 : 0 ≤ 4000 / (g n).toInt := Int.ediv_nonneg (by omega) (by have := q n (by omega); omega)
    show 0 ≤ ldk_qs g n + 4000 / (g n).toInt
    omega
/-- the cloth: the ring of the class, the row of the reference -/
def ldk_eC (S0 : Int) (I2 : Nat → Int32) (L2 : Nat → Int64) (f0 f1 f2 J : Nat → Int32) (M : Nat → Int64) (g0 g1 g2 : Nat → Int32) : Prop :=
  ∃ nx K : Nat, nx < 64 ∧ K ≤ 64 ∧ I2 3 = nI nx ∧ I2 4 = nI K ∧ J 38 = nI K ∧ M 33 = L2 5 ∧ M 32 = L2 6 ∧ (∀ i, i < K → f0 ((nx + 127 - i) % 64) = g0 (K - 1 - i) ∧ f1 ((nx + 127 - i) % 64) = g1 (K - 1 - i) ∧ f2 ((nx + 127 - i) % 64) = g2 (K - 1 - i)) ∧ (∀ j, j < K → 20 ≤ (g2 j).toInt ∧ (g2 j).toInt ≤ 400) ∧ ldk_qs g2 K ≤ (L2 6).toInt ∧ (L2 6).toInt ≤ S0
theorem ldk_eC_wider {S0 S1 : Int} {I2 : Nat → Int32} {L2 : Nat → Int64} {f0 f1 f2 J : Nat → Int32} {M : Nat → Int64} {g0 g1 g2 : Nat → Int32} (hS : S0 ≤ S1) (h : ldk_eC S0 I2 L2 f0 f1 f2 J M g0 g1 g2) : ldk_eC S1 I2 L2 f0 f1 f2 J M g0 g1 g2 := by
  obtain ⟨nx, K, h1, h2, h3, h4, h5, h6, h7, h8, h9, h10, h11⟩ := h
  exact ⟨nx, K, h1, h2, h3, h4, h5, h6, h7, h8, h9, h10, by omega⟩
theorem ldk_eC_of {S0 : Int} {I2 : Nat → Int32} {L2 : Nat → Int64} {f0 f1 f2 J J' : Nat → Int32} {M M' : Nat → Int64} {g0 g1 g2 : Nat → Int32} (h : ldk_eC S0 I2 L2 f0 f1 f2 J M g0 g1 g2) (e1 : J' 38 = J 38) (e2 : M' 33 = M 33) (e3 : M' 32 = M 32) : ldk_eC S0 I2 L2 f0 f1 f2 J' M' g0 g1 g2 := by
  obtain ⟨nx, K, h1, h2, h3, h4, h5, h6, h7, h8⟩ := h
  exact ⟨nx, K, h1, h2, h3, h4, e1.trans h5, e2.trans h6, e3.trans h7, h8⟩
theorem ldk_eC_cl {S0 : Int} {I2 : Nat → Int32} {L2 : Nat → Int64} {f0 f1 f2 J : Nat → Int32} {M : Nat → Int64} {g0 g1 g2 : Nat → Int32} (h : ldk_eC S0 I2 L2 f0 f1 f2 J M g0 g1 g2) : ldk_cl (J 38) g2 := by
  obtain ⟨nx, K, h1, h2, h3, h4, h5, h6, h7, h8, h9, h10⟩ := h
  rw [h5]
  refine ⟨?_, ?_, fun k hk => ?_⟩
  · rw [nI_toInt (by omega)]; omega
  · rw [nI_toInt (by omega)]; omega
  · rw [nI_toInt (by omega)] at hk
    have := h9 k (by omega)
    rw [ldk_ne, ldk_t0']; omega
/-- the two records -/
def ldk_eD (len : Int64) (I3 f0 : Nat → Int32) (f1 : Nat → Int64) (J q39 q40 : Nat → Int32) (q41 : Nat → Int64) : Prop :=
  (I3 2 = 0 ∨ I3 2 = 1) ∧ J 42 = I3 2 ∧ ∀ r : Nat, r ≤ 1 → (f0 r = -1 ∧ q39 r = 0) ∨ (q39 r = 1 ∧ ((f0 r = 300 ∧ q40 r = 1) ∨ (f0 r = 0 ∧ q40 r = 0)) ∧ f1 r = q41 r ∧ 0 ≤ (q41 r).toInt ∧ (q41 r).toInt < len.toInt)
def ldk_eA (I J : Nat → Int32) : Prop := J 26 = I 6 ∧ J 27 = I 7 ∧ J 28 = I 8 ∧ J 30 = I 9 ∧ J 29 = I 10 ∧ J 20 = I 11 ∧ (I 10 = 0 ∨ I 10 = 1) ∧ (I 11 = 0 ∨ I 11 = 1)
def ldk_eB0 (I1 : Nat → Int32) (L1 : Nat → Int64) (J : Nat → Int32) (M : Nat → Int64) : Prop := J 21 = I1 1 ∧ J 31 = I1 4 ∧ M 34 = L1 5 ∧ J 24 = I1 3 * 2 ∧ (480 ≤ (I1 3).toInt ∧ (I1 3).toInt ≤ 2400) ∧ I1 2 = (if J 21 = 2 then J 23 else 0) ∧ (J 21 = 0 ∨ J 21 = 1 ∨ J 21 = 2) ∧ (J 21 = 2 → 0 ≤ (J 23).toInt ∧ (J 23).toInt ≤ 2400)
def ldk_eB (I1 : Nat → Int32) (L1 : Nat → Int64) (J : Nat → Int32) (M : Nat → Int64) : Prop := ldk_eB0 I1 L1 J M ∧ J 22 = I1 0 ∧ (0 ≤ (J 22).toInt ∧ (J 22).toInt < 5760) ∧ (J 21 = 2 → 0 < (J 23).toInt)
def ldk_eP (len : Int64) (L M : Nat → Int64) (md : Int32) : Prop := M 25 = L 5 ∧ M 10 = len ∧ 0 ≤ (L 5).toInt ∧ (0 < len.toInt → (L 5).toInt < len.toInt) ∧ 0 ≤ len.toInt ∧ len.toInt ≤ 2000000000 ∧ (¬ md = 0 → 0 < len.toInt)
def ldk_rel (z6 : Int32) (len : Int64) (S0 : Int) (x : GS) (y : LdkT) : Prop :=
  ldk_eA x.1 y.1 ∧ ldk_eB x.2.2.1 x.2.2.2.1 y.1 y.2.1 ∧ ldk_eC S0 x.2.2.2.2.1 x.2.2.2.2.2.1 x.2.2.2.2.2.2.1 x.2.2.2.2.2.2.2.1 x.2.2.2.2.2.2.2.2.1 y.1 y.2.1 y.2.2.1 y.2.2.2.1 y.2.2.2.2.1 ∧ ldk_eD len x.2.2.2.2.2.2.2.2.2.1 x.2.2.2.2.2.2.2.2.2.2.1 x.2.2.2.2.2.2.2.2.2.2.2.1 y.1 y.2.2.2.2.2.1 y.2.2.2.2.2.2.1 y.2.2.2.2.2.2.2 ∧ ldk_eP len x.2.1 y.2.1 (y.1 21) ∧ x.2.2.2.2.2.2.2.2.2.2.2.2.1 6 = z6 ∧ x.2.2.2.2.2.2.2.2.2.2.2.2.2 7 = len
/-- what the pattern's walk owes to the loom -/
def ldk_pT (f4_0 f4_1 f4_2 : Nat → Int32) (f4_3 : Nat → Int64) (f4_4 f4_5 f3 f4 f5 f6 f7 : Nat → Int32) (f8 : Nat → Int64) (z6 : Int32) (len : Int64) : Prop :=
  ∀ (I4 : Nat → Int32) (L4 : Nat → Int64) (p : Int64), I4 6 = z6 → L4 7 = len → 0 ≤ p.toInt → p.toInt < len.toInt →
    (sX1_tell I4 L4 f4_0 f4_1 f4_2 f4_3 f4_4 f4_5 p 0).1 = sX7_look f3 f4 f5 f6 f7 f8 p 0 ∧ (sX1_tell I4 L4 f4_0 f4_1 f4_2 f4_3 f4_4 f4_5 p 1).1 = sX7_look f3 f4 f5 f6 f7 f8 p 1 ∧ (sX1_tell I4 L4 f4_0 f4_1 f4_2 f4_3 f4_4 f4_5 p 2).1 = sX7_look f3 f4 f5 f6 f7 f8 p 2 ∧
    (∀ w, (sX1_tell I4 L4 f4_0 f4_1 f4_2 f4_3 f4_4 f4_5 p w).2.1 6 = z6 ∧ (sX1_tell I4 L4 f4_0 f4_1 f4_2 f4_3 f4_4 f4_5 p w).2.2 7 = len) ∧
    ldkOK f3 f4 f5 f6 f7 f8 161 (0, 100, p, 0) ∧ 20 ≤ (sX7_look f3 f4 f5 f6 f7 f8 p 2).toInt ∧ (sX7_look f3 f4 f5 f6 f7 f8 p 2).toInt ≤ 400
