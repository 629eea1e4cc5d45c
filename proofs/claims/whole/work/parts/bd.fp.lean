/-! ===== floats and doubles: no NaN, and within their bounds ===== -/
theorem ldk_nn64 {a : UInt64} (h : FP.Core.dIsNaN a = false) : vf_n64 a := by
  have h1 := (FP.Core.ne_nan a).mp ((FP.Core.notNaN_iff a).mp h)
  unfold vf_n64
  rw [UInt64.le_iff_toNat_le, UInt64.toNat_and, show (0x7fffffffffffffff : UInt64).toNat = 2 ^ 63 - 1 by decide, Nat.and_two_pow_sub_one_eq_mod, show (0x7ff0000000000000 : UInt64).toNat = 9218868437227405312 by decide]
  exact h1
theorem ldk_nn32 {a : UInt32} (h : FP.Core.fIsNaN a = false) : vf_n32 a := by
  have h1 := (FP.Core.ne_nan32 a).mp ((FP.Core.notNaN_iff32 a).mp h)
  unfold vf_n32
  rw [UInt32.le_iff_toNat_le, UInt32.toNat_and, show (0x7fffffff : UInt32).toNat = 2 ^ 31 - 1 by decide, Nat.and_two_pow_sub_one_eq_mod, show (0x7f800000 : UInt32).toNat = 2139095040 by decide]
  exact h1
theorem ldk_v8 : FP.Core.val64 4620693217682128896 = .fin false 4503599627370496 (-49) := by decide +kernel
theorem ldk_v16 : FP.Core.val64 4625196817309499392 = .fin false 4503599627370496 (-48) := by decide +kernel
theorem ldk_v32 : FP.Core.val64 4629700416936869888 = .fin false 4503599627370496 (-47) := by decide +kernel
theorem ldk_v125 : FP.Core.val64 4593671619917905920 = .fin false 4503599627370496 (-55) := by decide +kernel
theorem ldk_w8 : FP.Core.val32 1090519040 = .fin false 8388608 (-20) := by decide +kernel
theorem ldk_w16 : FP.Core.val32 1098907648 = .fin false 8388608 (-19) := by decide +kernel
theorem ldk_w125 : FP.Core.val32 1040187392 = .fin false 8388608 (-26) := by decide +kernel
theorem ldk_nz64 {a : UInt64} {s : Bool} {c : Nat} {q : Int} (h : FP.Core.val64 a = .fin s c q) (hc : c ≠ 0) : FP.Core.DFin a ∧ ¬ FP.Core.DZero a := by
  refine ⟨⟨s, c, q, h⟩, fun ⟨s', q', z⟩ => ?_⟩
  rw [h] at z
  injection z with z1 z2 z3
  exact hc z2
theorem ldk_nz32 {a : UInt32} {s : Bool} {c : Nat} {q : Int} (h : FP.Core.val32 a = .fin s c q) (hc : c ≠ 0) : FP.Core.FFin a ∧ ¬ FP.Core.FZero a := by
  refine ⟨⟨s, c, q, h⟩, fun ⟨s', q', z⟩ => ?_⟩
  rw [h] at z
  injection z with z1 z2 z3
  exact hc z2
theorem ldk_hn (x : Int32) : vf_n64 (FP.ddiv (FP.i2d x) 4625196817309499392) :=
  ldk_nn64 (FP.Core.ddiv_out (FP.Core.i2d_fin x).notNaN (ldk_nz64 ldk_v16 (by decide)).1 (ldk_nz64 ldk_v16 (by decide)).2)
theorem ldk_hnl (x : Int64) : vf_n64 (FP.ddiv (FP.l2d x) 4629700416936869888) :=
  ldk_nn64 (FP.Core.ddiv_out (FP.Core.l2d_fin x).notNaN (ldk_nz64 ldk_v32 (by decide)).1 (ldk_nz64 ldk_v32 (by decide)).2)
theorem ldk_hnf0 (x : Int32) : FP.Core.fIsNaN (FP.fdiv (FP.i2f x) 1098907648) = false :=
  FP.Core.fdiv_out (FP.Core.i2f_fin x).notNaN (ldk_nz32 ldk_w16 (by decide)).1 (ldk_nz32 ldk_w16 (by decide)).2
theorem ldk_hnf (x : Int32) : vf_n32 (FP.fdiv (FP.i2f x) 1098907648) := ldk_nn32 (ldk_hnf0 x)
theorem ldk_f2d {a : UInt32} (h : FP.Core.fIsNaN a = false) : FP.Core.dIsNaN (FP.f2d a) = false := by
  have := FP.f2d_nan a
  exact this.trans h
theorem ldk_a0d0 (k : Int32) : FP.Core.dIsNaN (FP.dmul (FP.i2d k) 4593671619917905920) = false :=
  FP.Core.dmul_out (FP.Core.i2d_fin k) (ldk_nz64 ldk_v125 (by decide)).1
theorem ldk_a0f0 (k : Int32) : FP.Core.fIsNaN (FP.fmul (FP.i2f k) 1040187392) = false :=
  FP.Core.fmul_out (FP.Core.i2f_fin k) (ldk_nz32 ldk_w125 (by decide)).1
theorem ldk_n8 {a : UInt64} (h : FP.Core.dIsNaN a = false) : FP.Core.dIsNaN (FP.dmul a 4620693217682128896) = false :=
  FP.Core.dmul_out' h (ldk_nz64 ldk_v8 (by decide)).1 (ldk_nz64 ldk_v8 (by decide)).2
theorem ldk_n8f {a : UInt32} (h : FP.Core.fIsNaN a = false) : FP.Core.fIsNaN (FP.fmul a 1090519040) = false :=
  FP.Core.fmul_out' h (ldk_nz32 ldk_w8 (by decide)).1 (ldk_nz32 ldk_w8 (by decide)).2
/-! eight times -/
theorem ldk_m8 {a V : UInt64} {s : Bool} {c : Nat} {q : Int} (ha : FP.Core.val64 a = .fin s c q) (hV : FP.Core.val64 V ≠ .nan) :
    (FP.Core.zval FP.Core.b64 (FP.Core.val64 a) * 8 ≤ FP.Core.zval FP.Core.b64 (FP.Core.val64 V) → FP.Core.zval FP.Core.b64 (FP.Core.val64 (FP.dmul a 4620693217682128896)) ≤ FP.Core.zval FP.Core.b64 (FP.Core.val64 V)) ∧
    (FP.Core.zval FP.Core.b64 (FP.Core.val64 V) ≤ FP.Core.zval FP.Core.b64 (FP.Core.val64 a) * 8 → FP.Core.zval FP.Core.b64 (FP.Core.val64 V) ≤ FP.Core.zval FP.Core.b64 (FP.Core.val64 (FP.dmul a 4620693217682128896))) := by
  have em : FP.Core.val64 (FP.dmul a 4620693217682128896) = FP.Core.round FP.Core.b64 (.fin s (c * 4503599627370496) (q + -49)) := by
    rw [show FP.dmul a 4620693217682128896 = FP.Core.dmul a 4620693217682128896 from rfl, FP.Core.val64_dmul, ha, ldk_v8]
    show FP.Core.round FP.Core.b64 (.fin (s != false) (c * 4503599627370496) (q + -49)) = _
    rw [show (s != false) = s by cases s <;> rfl]
  have hq : FP.Core.b64.qmin ≤ q := by
    have := FP.Core.val64_fits a
    rw [ha] at this; exact this.2.1
  have hu : FP.Core.signed s (FP.Core.inUnits (c * 4503599627370496) (q + -49) (FP.Core.b64.qmin + -49)) = FP.Core.zval FP.Core.b64 (FP.Core.val64 a) * ((4503599627370496 : Nat) : Int) := by
    rw [ha]
    show FP.Core.signed s (c * 4503599627370496 * 2 ^ (q + -49 - (FP.Core.b64.qmin + -49)).toNat) = FP.Core.signed s (c * 2 ^ (q - FP.Core.b64.qmin).toNat) * ((4503599627370496 : Nat) : Int)
    rw [← FP.Core.signed_mul, show q + -49 - (FP.Core.b64.qmin + -49) = q - FP.Core.b64.qmin by omega, Nat.mul_right_comm]
  have pw : ((2 ^ (FP.Core.b64.qmin - (FP.Core.b64.qmin + -49)).toNat : Nat) : Int) = 562949953421312 := by
    rw [show FP.Core.b64.qmin - (FP.Core.b64.qmin + -49) = 49 by omega]; decide
  have k1 : ∀ z v : Int, z * 8 ≤ v → z * ((4503599627370496 : Nat) : Int) ≤ v * 562949953421312 := fun z v h => by omega
  have k2 : ∀ z v : Int, v ≤ z * 8 → v * 562949953421312 ≤ z * ((4503599627370496 : Nat) : Int) := fun z v h => by omega
  have e1 : FP.Core.b64.qmin + -49 ≤ FP.Core.b64.qmin := by omega
  have e2 : FP.Core.b64.qmin + -49 ≤ q + -49 := by omega
  rw [em]
  exact ⟨fun h => FP.Core.zval_round_le FP.Core.good_b64 (FP.Core.val64_fits V) hV e1 e2 (by rw [hu, pw]; exact k1 _ _ h), fun h => FP.Core.zval_round_ge FP.Core.good_b64 (FP.Core.val64_fits V) hV e1 e2 (by rw [hu, pw]; exact k2 _ _ h)⟩
theorem ldk_m8f {a V : UInt32} {s : Bool} {c : Nat} {q : Int} (ha : FP.Core.val32 a = .fin s c q) (hV : FP.Core.val32 V ≠ .nan) :
    (FP.Core.zval FP.Core.b32 (FP.Core.val32 a) * 8 ≤ FP.Core.zval FP.Core.b32 (FP.Core.val32 V) → FP.Core.zval FP.Core.b32 (FP.Core.val32 (FP.fmul a 1090519040)) ≤ FP.Core.zval FP.Core.b32 (FP.Core.val32 V)) ∧
    (FP.Core.zval FP.Core.b32 (FP.Core.val32 V) ≤ FP.Core.zval FP.Core.b32 (FP.Core.val32 a) * 8 → FP.Core.zval FP.Core.b32 (FP.Core.val32 V) ≤ FP.Core.zval FP.Core.b32 (FP.Core.val32 (FP.fmul a 1090519040))) := by
  have em : FP.Core.val32 (FP.fmul a 1090519040) = FP.Core.round FP.Core.b32 (.fin s (c * 8388608) (q + -20)) := by
    rw [show FP.fmul a 1090519040 = FP.Core.fmul a 1090519040 from rfl, FP.Core.val32_fmul, ha, ldk_w8]
    show FP.Core.round FP.Core.b32 (.fin (s != false) (c * 8388608) (q + -20)) = _
    rw [show (s != false) = s by cases s <;> rfl]
  have hq : FP.Core.b32.qmin ≤ q := by
    have := FP.Core.val32_fits a
    rw [ha] at this; exact this.2.1
  have hu : FP.Core.signed s (FP.Core.inUnits (c * 8388608) (q + -20) (FP.Core.b32.qmin + -20)) = FP.Core.zval FP.Core.b32 (FP.Core.val32 a) * ((8388608 : Nat) : Int) := by
    rw [ha]
    show FP.Core.signed s (c * 8388608 * 2 ^ (q + -20 - (FP.Core.b32.qmin + -20)).toNat) = FP.Core.signed s (c * 2 ^ (q - FP.Core.b32.qmin).toNat) * ((8388608 : Nat) : Int)
    rw [← FP.Core.signed_mul, show q + -20 - (FP.Core.b32.qmin + -20) = q - FP.Core.b32.qmin by omega, Nat.mul_right_comm]
  have pw : ((2 ^ (FP.Core.b32.qmin - (FP.Core.b32.qmin + -20)).toNat : Nat) : Int) = 1048576 := by
    rw [show FP.Core.b32.qmin - (FP.Core.b32.qmin + -20) = 20 by omega]; decide
  have k1 : ∀ z v : Int, z * 8 ≤ v → z * ((8388608 : Nat) : Int) ≤ v * 1048576 := fun z v h => by omega
  have k2 : ∀ z v : Int, v ≤ z * 8 → v * 1048576 ≤ z * ((8388608 : Nat) : Int) := fun z v h => by omega
  have e1 : FP.Core.b32.qmin + -20 ≤ FP.Core.b32.qmin := by omega
  have e2 : FP.Core.b32.qmin + -20 ≤ q + -20 := by omega
  rw [em]
  exact ⟨fun h => FP.Core.zval_round_le FP.Core.good_b32 (FP.Core.val32_fits V) hV e1 e2 (by rw [hu, pw]; exact k1 _ _ h), fun h => FP.Core.zval_round_ge FP.Core.good_b32 (FP.Core.val32_fits V) hV e1 e2 (by rw [hu, pw]; exact k2 _ _ h)⟩
theorem ldk_sg {t : Bool} {m o H : Nat} {L : Nat} (ho : 0 < o) (h0 : (L : Int) * (o : Int) ≤ FP.Core.signed t m) (h1 : FP.Core.signed t m ≤ (H : Int) * (o : Int)) : (L : Int) ≤ FP.Core.signed t (m / o) ∧ FP.Core.signed t (m / o) ≤ (H : Int) := by
  rw [← Int.natCast_mul] at h0 h1
  cases t with
  | false =>
    have h0' : L * o ≤ m := by have : ((L * o : Nat) : Int) ≤ (m : Int) := h0; omega
    have h1' : m ≤ H * o := by have : (m : Int) ≤ ((H * o : Nat) : Int) := h1; omega
    have a1 : L ≤ m / o := (Nat.le_div_iff_mul_le ho).mpr h0'
    have a2 : m / o ≤ H := Nat.div_le_of_le_mul (by rw [Nat.mul_comm]; exact h1')
    show (L : Int) ≤ ((m / o : Nat) : Int) ∧ ((m / o : Nat) : Int) ≤ (H : Int)
    omega
  | true =>
    have h0' : ((L * o : Nat) : Int) ≤ -(m : Int) := h0
    have hm : m = 0 := by omega
    have hLo : L * o = 0 := by omega
    have hL : L = 0 := by
      rcases Nat.mul_eq_zero.mp hLo with z | z
      · exact z
      · omega
    subst hm; subst hL
    rw [Nat.zero_div]
    show ((0 : Nat) : Int) ≤ -((0 : Nat) : Int) ∧ -((0 : Nat) : Int) ≤ (H : Int)
    omega
theorem ldk_cl0 {a b : Int} (h : ¬ Op.cmpValue (some (compare a b)) .l < 0) : b ≤ a := by
  rw [FP.Core.compare_ite] at h
  by_cases c : a < b
  · rw [if_pos c] at h; exact absurd (by decide) h
  · omega
theorem ldk_cg0 {a b : Int} (h : Op.cmpValue (some (compare a b)) .g ≤ 0) : a ≤ b := by
  rw [FP.Core.compare_ite] at h
  by_cases c : a < b
  · omega
  · rw [if_neg c] at h
    by_cases c2 : a = b
    · omega
    · rw [if_neg c2] at h; exact absurd h (by decide)
theorem ldk_nnan {a : UInt64} (h : FP.Core.dIsNaN a = false) : FP.Core.val64 a ≠ .nan := (FP.Core.notNaN_iff a).mp h
theorem ldk_nnanf {a : UInt32} (h : FP.Core.fIsNaN a = false) : FP.Core.val32 a ≠ .nan := (FP.Core.notNaN_iff32 a).mp h
/-- degrees within bounds: their eighths are -/
theorem ldk_rngd {a hi V : UInt64} {H : Nat} (hn : FP.Core.dIsNaN a = false) (h0 : ¬ Op.cmpValue (FP.dcmp a FP.dconst0) .l < 0) (h1 : Op.cmpValue (FP.dcmp a hi) .g ≤ 0) (hh : FP.Core.val64 hi ≠ .nan) (hV : FP.Core.val64 V ≠ .nan)
    (hf : FP.Core.zval FP.Core.b64 (FP.Core.val64 hi) < ((FP.Core.b64.tails * 2 ^ (FP.Core.b64.exps - 2) : Nat) : Int)) (e1 : FP.Core.zval FP.Core.b64 (FP.Core.val64 hi) * 8 = FP.Core.zval FP.Core.b64 (FP.Core.val64 V)) (e2 : FP.Core.zval FP.Core.b64 (FP.Core.val64 V) = (H : Int) * (FP.Core.one64 : Int)) (hH : H ≤ 100000) :
    0 ≤ (FP.d2i (FP.dmul a 4620693217682128896)).toInt ∧ (FP.d2i (FP.dmul a 4620693217682128896)).toInt ≤ H := by
  have na := ldk_nnan hn
  have n0 : FP.Core.val64 FP.dconst0 ≠ .nan := by decide +kernel
  have z0 : FP.Core.zval FP.Core.b64 (FP.Core.val64 FP.dconst0) = 0 := FP.Core.zval64_zero
  rw [show FP.dcmp a FP.dconst0 = FP.Core.dcmp a FP.dconst0 from rfl, FP.Core.dcmp_zval na n0, z0] at h0
  rw [show FP.dcmp a hi = FP.Core.dcmp a hi from rfl, FP.Core.dcmp_zval na hh] at h1
  have b0 := ldk_cl0 h0
  have b1 := ldk_cg0 h1
  obtain ⟨s, c, q, ha⟩ : ∃ s c q, FP.Core.val64 a = .fin s c q := by
    cases hv : FP.Core.val64 a with
    | nan => exact absurd hv na
    | fin s c q => exact ⟨s, c, q, rfl⟩
    | inf s =>
      exfalso
      have e : FP.Core.zval FP.Core.b64 (FP.Core.val64 a) = FP.Core.signed s (FP.Core.b64.tails * 2 ^ (FP.Core.b64.exps - 2)) := by rw [hv]; rfl
      have hp : 0 < FP.Core.b64.tails * 2 ^ (FP.Core.b64.exps - 2) := Nat.mul_pos (FP.Core.tails_pos _) (Nat.two_pow_pos _)
      rw [e] at b0 b1
      generalize FP.Core.b64.tails * 2 ^ (FP.Core.b64.exps - 2) = T at *
      generalize FP.Core.zval FP.Core.b64 (FP.Core.val64 hi) = zh at *
      cases s with
      | false => have b1 : (T : Int) ≤ zh := b1; omega
      | true => have b0 : 0 ≤ -(T : Int) := b0; omega
  have m1 := (ldk_m8 ha hV).1 (by rw [← e1]; generalize FP.Core.zval FP.Core.b64 (FP.Core.val64 a) = x at *; generalize FP.Core.zval FP.Core.b64 (FP.Core.val64 hi) = y at *; omega)
  have m0 := (ldk_m8 ha n0).2 (by rw [z0]; generalize FP.Core.zval FP.Core.b64 (FP.Core.val64 a) = x at *; omega)
  rw [z0] at m0
  rw [e2] at m1
  rw [show FP.d2i (FP.dmul a 4620693217682128896) = FP.Core.d2i (FP.dmul a 4620693217682128896) from rfl, FP.Core.d2i_val (ldk_nnan (ldk_n8 hn))]
  have := ldk_sg (L := 0) (H := H) FP.Core.one64_pos (t := FP.Core.sgn (FP.Core.val64 (FP.dmul a 4620693217682128896))) (m := FP.Core.zmag FP.Core.b64 (FP.Core.val64 (FP.dmul a 4620693217682128896))) (by rw [show ((0 : Nat) : Int) = 0 from rfl, Int.zero_mul]; exact m0) m1
  generalize FP.Core.signed (FP.Core.sgn (FP.Core.val64 (FP.dmul a 4620693217682128896))) (FP.Core.zmag FP.Core.b64 (FP.Core.val64 (FP.dmul a 4620693217682128896)) / FP.Core.one64) = w at *
  obtain ⟨g1, g2⟩ := this
  have g1 : 0 ≤ w := g1
  omega
