/-! ===== the tension told by the script ===== -/
theorem ldk_sgk (i : Int) : FP.Core.signed (decide (i < 0)) i.natAbs = i := by
  by_cases h : i < 0
  · rw [show decide (i < 0) = true from decide_eq_true h]
    show -((i.natAbs : Nat) : Int) = i
    omega
  · rw [show decide (i < 0) = false from decide_eq_false h]
    show ((i.natAbs : Nat) : Int) = i
    omega
theorem ldk_loK (k : Int32) : FP.f2l (FP.fmul (FP.fmul (FP.i2f k) 1040187392) 1090519040) = FP.d2l (FP.dmul (FP.f2d (FP.fmul (FP.i2f k) 1040187392)) 4620693217682128896) := by
  by_cases hk : k = 0
  · subst hk; decide +kernel
  obtain ⟨r1, r2⟩ := jx_rg32 k
  have hk0 : k.toInt ≠ 0 := fun z => hk (Int32.toInt_inj.mp (z.trans ldk_t0'.symm))
  obtain ⟨s, c, q, hv⟩ := FP.Core.i2f_fin k
  have er : FP.Core.val32 (FP.i2f k) = FP.Core.round FP.Core.b32 (.fin (decide (k.toInt < 0)) k.toInt.natAbs 0) := FP.Core.val32_i2f k
  have hfit := FP.Core.val32_fits (FP.Core.i2f k)
  rw [hv] at hfit
  obtain ⟨f1, f2, f3, f4⟩ := hfit
  rw [ldk_qm32] at f2
  rw [ldk_qm32, ldk_tl32] at f4
  rw [show FP.Core.b32.p = 24 from rfl] at f1
  have hu : FP.Core.signed (decide (k.toInt < 0)) (FP.Core.inUnits k.toInt.natAbs 0 FP.Core.b32.qmin) = k.toInt * (FP.Core.one32 : Int) := by
    rw [ldk_qm32]
    show FP.Core.signed (decide (k.toInt < 0)) (k.toInt.natAbs * 2 ^ (0 - (-149 : Int)).toNat) = _
    rw [FP.Core.signed_mul, ldk_sgk]; rfl
  have hz0 : FP.Core.b32.qmin ≤ 0 := by rw [ldk_qm32]; decide
  have p0 : ((2 ^ (FP.Core.b32.qmin - FP.Core.b32.qmin).toNat : Nat) : Int) = 1 := by rw [Int.sub_self]; decide
  have up : ∀ {V : UInt32} {v : Int}, FP.Core.val32 V ≠ .nan → FP.Core.zval FP.Core.b32 (FP.Core.val32 V) = v * (FP.Core.one32 : Int) → k.toInt ≤ v → FP.Core.zval FP.Core.b32 (FP.Core.val32 (FP.i2f k)) ≤ v * (FP.Core.one32 : Int) := by
    intro V v h1 h2 h3
    rw [er, ← h2]
    refine FP.Core.zval_round_le FP.Core.good_b32 (FP.Core.val32_fits V) h1 (Int.le_refl _) hz0 ?_
    rw [hu, p0, h2, Int.mul_one]
    exact Int.mul_le_mul_of_nonneg_right h3 (Int.natCast_nonneg _)
  have dn : ∀ {V : UInt32} {v : Int}, FP.Core.val32 V ≠ .nan → FP.Core.zval FP.Core.b32 (FP.Core.val32 V) = v * (FP.Core.one32 : Int) → v ≤ k.toInt → v * (FP.Core.one32 : Int) ≤ FP.Core.zval FP.Core.b32 (FP.Core.val32 (FP.i2f k)) := by
    intro V v h1 h2 h3
    rw [er, ← h2]
    refine FP.Core.zval_round_ge FP.Core.good_b32 (FP.Core.val32_fits V) h1 (Int.le_refl _) hz0 ?_
    rw [hu, p0, h2, Int.mul_one]
    exact Int.mul_le_mul_of_nonneg_right h3 (Int.natCast_nonneg _)
  have u1 := up (V := 1325400064) (v := 2147483648) (by decide +kernel) FP.Core.zval_f2i_hi (by omega)
  have u2 := dn (V := 3472883712) (v := -2147483648) (by decide +kernel) (by decide +kernel) (by omega)
  have u3 : k.toInt < 0 ∨ 1 * (FP.Core.one32 : Int) ≤ FP.Core.zval FP.Core.b32 (FP.Core.val32 (FP.i2f k)) := by
    by_cases h : k.toInt < 0
    · exact Or.inl h
    · exact Or.inr (dn (V := 1065353216) (v := 1) (by decide +kernel) (by decide +kernel) (by omega))
  have u4 : 0 < k.toInt ∨ FP.Core.zval FP.Core.b32 (FP.Core.val32 (FP.i2f k)) ≤ -1 * (FP.Core.one32 : Int) := by
    by_cases h : 0 < k.toInt
    · exact Or.inl h
    · exact Or.inr (up (V := 3212836864) (v := -1) (by decide +kernel) (by decide +kernel) (by omega))
  have ez : FP.Core.zval FP.Core.b32 (FP.Core.val32 (FP.i2f k)) = FP.Core.signed s (c * 2 ^ (q + 149).toNat) := by
    rw [show FP.Core.val32 (FP.i2f k) = .fin s c q from hv]
    show FP.Core.signed s (c * 2 ^ (q - FP.Core.b32.qmin).toNat) = _
    rw [ldk_qm32, show q - -149 = q + 149 by omega]
  rw [ez] at u1 u2 u3 u4
  obtain ⟨e, he⟩ : ∃ e : Nat, q + 149 = (e : Int) := ⟨(q + 149).toNat, by omega⟩
  rw [he, Int.toNat_natCast] at u1 u2 u3 u4
  have ho : FP.Core.one32 = 2 ^ 149 := rfl
  have m1 : FP.Core.one32 ≤ c * 2 ^ e := by
    generalize c * 2 ^ e = m at u1 u2 u3 u4 ⊢
    generalize FP.Core.one32 = o at u1 u2 u3 u4 ⊢
    cases s with
    | false =>
      have u3 : k.toInt < 0 ∨ 1 * (o : Int) ≤ (m : Int) := u3
      have u4 : 0 < k.toInt ∨ (m : Int) ≤ -1 * (o : Int) := u4
      omega
    | true =>
      have u3 : k.toInt < 0 ∨ 1 * (o : Int) ≤ -(m : Int) := u3
      have u4 : 0 < k.toInt ∨ -(m : Int) ≤ -1 * (o : Int) := u4
      omega
  have m2 : c * 2 ^ e ≤ 2147483648 * FP.Core.one32 := by
    generalize c * 2 ^ e = m at u1 u2 ⊢
    generalize FP.Core.one32 = o at u1 u2 ⊢
    cases s with
    | false => have u1 : (m : Int) ≤ 2147483648 * (o : Int) := u1; omega
    | true => have u2 : -2147483648 * (o : Int) ≤ -(m : Int) := u2; omega
  rw [ho] at m1 m2
  have e1 : 126 ≤ e := by
    apply Nat.le_of_not_lt
    intro h
    have hp : 2 ^ e ≤ 2 ^ 125 := Nat.pow_le_pow_right (by decide) (by omega)
    have : c * 2 ^ e ≤ 16777215 * 2 ^ 125 := Nat.mul_le_mul (by omega) hp
    have z : 16777215 * 2 ^ 125 < 2 ^ 149 := by decide
    exact absurd (Nat.le_trans m1 this) (Nat.not_le_of_lt z)
  have hc : 8388608 ≤ c := by
    rcases f4 with z | z
    · omega
    · exact z
  have e2 : e ≤ 157 := by
    apply Nat.le_of_not_lt
    intro h
    have hp : 2 ^ 158 ≤ 2 ^ e := Nat.pow_le_pow_right (by decide) (by omega)
    have : 8388608 * 2 ^ 158 ≤ c * 2 ^ e := Nat.mul_le_mul hc hp
    have z : 2147483648 * 2 ^ 149 < 8388608 * 2 ^ 158 := by decide
    exact absurd (Nat.le_trans this m2) (Nat.not_le_of_lt z)
  have ea : FP.Core.val32 (FP.fmul (FP.i2f k) 1040187392) = .fin s c (q - 3) := by
    rw [show FP.fmul (FP.i2f k) 1040187392 = FP.Core.fmul (FP.i2f k) 1040187392 from rfl, FP.Core.val32_fmul, show FP.Core.val32 (FP.i2f k) = .fin s c q from hv, ldk_w125]
    show FP.Core.roundRatio FP.Core.b32 (s != false) (c * 8388608) 1 (q + -26) = _
    rw [show (s != false) = s by cases s <;> rfl]
    refine FP.Core.roundRatio_exact FP.Core.good_b32 (by decide) ⟨f1, ?_, ?_, Or.inr ?_⟩ ?_
    · rw [ldk_qm32]; omega
    · rw [ldk_qx32]; omega
    · rw [ldk_tl32]; exact hc
    · rw [show (q + -26 - (q - 3)).toNat = 0 by omega, show (q - 3 - (q + -26)).toNat = 23 by omega]; omega
  exact ldk_loB (ldk_a0f0 k) ea hc (by omega)
theorem ldk_letOff (I : Nat → Int32) (k : Int32) : sX6_letOff (FP.fmul (FP.i2f k) 1040187392) = (sX7_letOff I (FP.fmul (FP.i2f k) 1040187392)).1 ∧ (sX7_letOff I (FP.fmul (FP.i2f k) 1040187392)).2 = upd I 0 0 := by
  have e := ldk_loK k
  unfold sX6_letOff sX7_letOff
  generalize FP.fmul (FP.i2f k) 1040187392 = a at e ⊢
  rw [e]
  split
  · exact ⟨rfl, rfl⟩
  · split
    · exact ⟨rfl, rfl⟩
    · exact ⟨rfl, rfl⟩
