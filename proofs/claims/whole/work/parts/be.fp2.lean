/-! ===== floats and doubles: degrees, speed, tension ===== -/
theorem ldk_rng3600 {a : UInt64} (hn : FP.Core.dIsNaN a = false) (h0 : ¬ Op.cmpValue (FP.dcmp a FP.dconst0) .l < 0) (h1 : Op.cmpValue (FP.dcmp a 4660134898793709568) .g ≤ 0) :
    0 ≤ (FP.d2i (FP.dmul a 4620693217682128896)).toInt ∧ (FP.d2i (FP.dmul a 4620693217682128896)).toInt ≤ 28800 :=
  ldk_rngd (V := 4673645697675821056) (H := 28800) hn h0 h1 (by decide +kernel) (by decide +kernel) (by decide +kernel) (by decide +kernel) (by decide +kernel) (by decide)
theorem ldk_rng1080 {a : UInt64} (hn : FP.Core.dIsNaN a = false) (h0 : ¬ Op.cmpValue (FP.dcmp a FP.dconst0) .l < 0) (h1 : Op.cmpValue (FP.dcmp a 4652464705678344192) .g ≤ 0) :
    0 ≤ (FP.d2i (FP.dmul a 4620693217682128896)).toInt ∧ (FP.d2i (FP.dmul a 4620693217682128896)).toInt ≤ 8640 :=
  ldk_rngd (V := 4665975504560455680) (H := 8640) hn h0 h1 (by decide +kernel) (by decide +kernel) (by decide +kernel) (by decide +kernel) (by decide +kernel) (by decide)
theorem ldk_finf {a lo hi : UInt32} (na : FP.Core.val32 a ≠ .nan) (b0 : FP.Core.zval FP.Core.b32 (FP.Core.val32 lo) ≤ FP.Core.zval FP.Core.b32 (FP.Core.val32 a)) (b1 : FP.Core.zval FP.Core.b32 (FP.Core.val32 a) ≤ FP.Core.zval FP.Core.b32 (FP.Core.val32 hi))
    (hf : FP.Core.zval FP.Core.b32 (FP.Core.val32 hi) < ((FP.Core.b32.tails * 2 ^ (FP.Core.b32.exps - 2) : Nat) : Int)) (hf' : -((FP.Core.b32.tails * 2 ^ (FP.Core.b32.exps - 2) : Nat) : Int) < FP.Core.zval FP.Core.b32 (FP.Core.val32 lo)) : ∃ s c q, FP.Core.val32 a = .fin s c q := by
  cases hv : FP.Core.val32 a with
  | nan => exact absurd hv na
  | fin s c q => exact ⟨s, c, q, rfl⟩
  | inf s =>
    exfalso
    have e : FP.Core.zval FP.Core.b32 (FP.Core.val32 a) = FP.Core.signed s (FP.Core.b32.tails * 2 ^ (FP.Core.b32.exps - 2)) := by rw [hv]; rfl
    rw [e] at b0 b1
    generalize FP.Core.b32.tails * 2 ^ (FP.Core.b32.exps - 2) = T at *
    generalize FP.Core.zval FP.Core.b32 (FP.Core.val32 hi) = zh at *
    generalize FP.Core.zval FP.Core.b32 (FP.Core.val32 lo) = zl at *
    cases s with
    | false => have b1 : (T : Int) ≤ zh := b1; omega
    | true => have b0 : zl ≤ -(T : Int) := b0; omega
theorem ldk_rngf {a : UInt32} (hn : FP.Core.fIsNaN a = false) (h0 : ¬ Op.cmpValue (FP.fcmp a 1114636288) .l < 0) (h1 : Op.cmpValue (FP.fcmp a 1133903872) .g ≤ 0) :
    480 ≤ (FP.f2i (FP.fmul a 1090519040)).toInt ∧ (FP.f2i (FP.fmul a 1090519040)).toInt ≤ 2400 := by
  have na := ldk_nnanf hn
  have n0 : FP.Core.val32 1114636288 ≠ .nan := by decide +kernel
  have n1 : FP.Core.val32 1133903872 ≠ .nan := by decide +kernel
  have m0 : FP.Core.val32 1139802112 ≠ .nan := by decide +kernel
  have m1 : FP.Core.val32 1159069696 ≠ .nan := by decide +kernel
  have e0 : FP.Core.zval FP.Core.b32 (FP.Core.val32 1114636288) * 8 = FP.Core.zval FP.Core.b32 (FP.Core.val32 1139802112) := by decide +kernel
  have e1 : FP.Core.zval FP.Core.b32 (FP.Core.val32 1133903872) * 8 = FP.Core.zval FP.Core.b32 (FP.Core.val32 1159069696) := by decide +kernel
  have g0 : FP.Core.zval FP.Core.b32 (FP.Core.val32 1139802112) = ((480 : Nat) : Int) * (FP.Core.one32 : Int) := by decide +kernel
  have g1 : FP.Core.zval FP.Core.b32 (FP.Core.val32 1159069696) = ((2400 : Nat) : Int) * (FP.Core.one32 : Int) := by decide +kernel
  rw [show FP.fcmp a 1114636288 = FP.Core.fcmp a 1114636288 from rfl, FP.Core.fcmp_zval na n0] at h0
  rw [show FP.fcmp a 1133903872 = FP.Core.fcmp a 1133903872 from rfl, FP.Core.fcmp_zval na n1] at h1
  have b0 := ldk_cl0 h0
  have b1 := ldk_cg0 h1
  obtain ⟨s, c, q, ha⟩ := ldk_finf na b0 b1 (by decide +kernel) (by decide +kernel)
  have x1 := (ldk_m8f ha m1).1 (by rw [← e1]; generalize FP.Core.zval FP.Core.b32 (FP.Core.val32 a) = x at *; generalize FP.Core.zval FP.Core.b32 (FP.Core.val32 1133903872) = y at *; omega)
  have x0 := (ldk_m8f ha m0).2 (by rw [← e0]; generalize FP.Core.zval FP.Core.b32 (FP.Core.val32 a) = x at *; generalize FP.Core.zval FP.Core.b32 (FP.Core.val32 1114636288) = y at *; omega)
  rw [g0] at x0
  rw [g1] at x1
  rw [show FP.f2i (FP.fmul a 1090519040) = FP.Core.f2i (FP.fmul a 1090519040) from rfl, FP.Core.f2i_val (ldk_nnanf (ldk_n8f hn))]
  have := ldk_sg (L := 480) (H := 2400) FP.Core.one32_pos (t := FP.Core.sgn (FP.Core.val32 (FP.fmul a 1090519040))) (m := FP.Core.zmag FP.Core.b32 (FP.Core.val32 (FP.fmul a 1090519040))) x0 x1
  generalize FP.Core.signed (FP.Core.sgn (FP.Core.val32 (FP.fmul a 1090519040))) (FP.Core.zmag FP.Core.b32 (FP.Core.val32 (FP.fmul a 1090519040)) / FP.Core.one32) = w at *
  obtain ⟨g1, g2⟩ := this
  have g1 : 480 ≤ w := g1
  have g2 : w ≤ 2400 := g2
  omega
/-! the tension's eighths: in floats and in doubles -/
theorem ldk_qm32 : FP.Core.b32.qmin = -149 := by decide
theorem ldk_qm64 : FP.Core.b64.qmin = -1074 := by decide
theorem ldk_qx32 : FP.Core.b32.qmax = 104 := by decide
theorem ldk_qx64 : FP.Core.b64.qmax = 971 := by decide
theorem ldk_tl32 : FP.Core.b32.tails = 8388608 := by decide
theorem ldk_tl64 : FP.Core.b64.tails = 4503599627370496 := by decide
theorem ldk_trunc {s : Bool} {c : Nat} {Q : Int} : FP.Core.truncate s (c * 536870912) (Q - 29) = FP.Core.truncate s c Q := by
  unfold FP.Core.truncate
  have e29 : (536870912 : Nat) = 2 ^ 29 := by decide
  congr 1
  rw [e29]
  by_cases h : Q ≤ 0
  · have a1 : (Q - 29).toNat = 0 := by omega
    have a2 : Q.toNat = 0 := by omega
    have a3 : (-(Q - 29)).toNat = 29 + (-Q).toNat := by omega
    rw [a1, a2, a3, Nat.pow_add, Nat.pow_zero, Nat.mul_one, Nat.mul_one, Nat.mul_comm c, Nat.mul_div_mul_left _ _ (Nat.two_pow_pos _)]
  · by_cases h2 : Q ≤ 29
    · have a1 : (Q - 29).toNat = 0 := by omega
      have a2 : (-Q).toNat = 0 := by omega
      have a3 : (29 : Nat) = (-(Q - 29)).toNat + Q.toNat := by omega
      rw [a1, a2, Nat.pow_zero, Nat.mul_one, Nat.div_one]
      generalize (-(Q - 29)).toNat = u at a3
      rw [a3, Nat.pow_add, ← Nat.mul_assoc, Nat.mul_right_comm, Nat.mul_div_cancel _ (Nat.two_pow_pos _)]
    · have a1 : Q.toNat = 29 + (Q - 29).toNat := by omega
      have a2 : (-Q).toNat = 0 := by omega
      have a3 : (-(Q - 29)).toNat = 0 := by omega
      rw [a1, a2, a3, Nat.pow_add, Nat.mul_assoc]
theorem ldk_loB {a : UInt32} {s : Bool} {c : Nat} {q : Int} (hn : FP.Core.fIsNaN a = false) (ha : FP.Core.val32 a = .fin s c q) (hc : 8388608 ≤ c) (hq : q ≤ 101) :
    FP.f2l (FP.fmul a 1090519040) = FP.d2l (FP.dmul (FP.f2d a) 4620693217682128896) := by
  have hfit := FP.Core.val32_fits a
  rw [ha] at hfit
  obtain ⟨f1, f2, f3, f4⟩ := hfit
  rw [ldk_qm32] at f2
  rw [show FP.Core.b32.p = 24 from rfl] at f1
  have em : FP.Core.val32 (FP.fmul a 1090519040) = .fin s c (q + 3) := by
    rw [show FP.fmul a 1090519040 = FP.Core.fmul a 1090519040 from rfl, FP.Core.val32_fmul, ha, ldk_w8]
    show FP.Core.roundRatio FP.Core.b32 (s != false) (c * 8388608) 1 (q + -20) = _
    rw [show (s != false) = s by cases s <;> rfl]
    refine FP.Core.roundRatio_exact FP.Core.good_b32 (by decide) ⟨f1, ?_, ?_, Or.inr ?_⟩ ?_
    · rw [ldk_qm32]; omega
    · rw [ldk_qx32]; omega
    · rw [ldk_tl32]; exact hc
    · rw [show (q + -20 - (q + 3)).toNat = 0 by omega, show (q + 3 - (q + -20)).toNat = 23 by omega]; omega
  have ef : FP.Core.val64 (FP.f2d a) = .fin s (c * 536870912) (q - 29) := by
    rw [show FP.f2d a = FP.Core.f2d a from FP.f2d_core hn, FP.Core.val64_f2d, ha]
    show FP.Core.roundRatio FP.Core.b64 s c 1 q = _
    refine FP.Core.roundRatio_exact FP.Core.good_b64 (by decide) ⟨?_, ?_, ?_, Or.inr ?_⟩ ?_
    · rw [show FP.Core.b64.p = 53 from rfl]; omega
    · rw [ldk_qm64]; omega
    · rw [ldk_qx64]; omega
    · rw [ldk_tl64]; omega
    · rw [show (q - (q - 29)).toNat = 29 by omega, show (q - 29 - q).toNat = 0 by omega]; omega
  have ed : FP.Core.val64 (FP.dmul (FP.f2d a) 4620693217682128896) = .fin s (c * 536870912) (q + 3 - 29) := by
    rw [show FP.dmul (FP.f2d a) 4620693217682128896 = FP.Core.dmul (FP.f2d a) 4620693217682128896 from rfl, FP.Core.val64_dmul, ef, ldk_v8]
    show FP.Core.roundRatio FP.Core.b64 (s != false) (c * 536870912 * 4503599627370496) 1 (q - 29 + -49) = _
    rw [show (s != false) = s by cases s <;> rfl]
    refine FP.Core.roundRatio_exact FP.Core.good_b64 (by decide) ⟨?_, ?_, ?_, Or.inr ?_⟩ ?_
    · rw [show FP.Core.b64.p = 53 from rfl]; omega
    · rw [ldk_qm64]; omega
    · rw [ldk_qx64]; omega
    · rw [ldk_tl64]; omega
    · rw [show (q - 29 + -49 - (q + 3 - 29)).toNat = 0 by omega, show (q + 3 - 29 - (q - 29 + -49)).toNat = 52 by omega]; omega
  show FP.Core.toL (FP.Core.val32 (FP.fmul a 1090519040)) = FP.Core.toL (FP.Core.val64 (FP.dmul (FP.f2d a) 4620693217682128896))
  rw [em, ed]
  unfold FP.Core.toL
  show Int64.ofInt (max (-2 ^ 63) (min (2 ^ 63 - 1) (FP.Core.truncate s c (q + 3)))) = Int64.ofInt (max (-2 ^ 63) (min (2 ^ 63 - 1) (FP.Core.truncate s (c * 536870912) (q + 3 - 29))))
  rw [ldk_trunc]
