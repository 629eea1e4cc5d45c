/-! ===== the cloth ===== -/
theorem ldk_fm {x : Int32} {k : Nat} (h : x.toInt % 64 = k) : sJ9_floorMod_7cf53 x 64 = nI k := by
  rw [ldk_nI (by omega), jx_fm]; exact h
theorem ldk_qd {d : Int32} (h1 : 20 ≤ d.toInt) (h2 : d.toInt ≤ 400) : sX0_quarters d = 4000 / d ∧ ((4000 / d : Int32).toInt64).toInt = 4000 / d.toInt ∧ 0 ≤ 4000 / d.toInt ∧ 4000 / d.toInt ≤ 200 := by
  have e1 : (4000 / d : Int32).toInt = 4000 / d.toInt := by
    rw [Int32.toInt_div, show (4000 : Int32).toInt = 4000 by decide, Int.tdiv_eq_ediv_of_nonneg (by omega)]
    have h3 : 0 ≤ 4000 / d.toInt := Int.ediv_nonneg (by omega) (by omega)
    have h4 : 4000 / d.toInt ≤ 4000 := Int.ediv_le_self _ (by omega)
    exact jx_bm32 (by omega) (by omega)
  refine ⟨?_, ?_, Int.ediv_nonneg (by omega) (by omega), ?_⟩
  · unfold sX0_quarters
    rw [if_neg (by rw [Int32.le_iff_toInt_le, ldk_t0']; omega)]
  · rw [Int32.toInt_toInt64, e1]
  · exact Int.ediv_le_of_le_mul (by omega) (by omega)
section LDKC
variable {S0 : Int} {I2 : Nat → Int32} {L2 : Nat → Int64} {f0 f1 f2 J : Nat → Int32} {M : Nat → Int64} {g0 g1 g2 : Nat → Int32}
/-- one more pick -/
theorem ldk_eC_beat {a b d : Int32} {J' : Nat → Int32} {M' : Nat → Int64} {K' : Int32} {h0 h1 h2 : Nat → Int32} (hc : ldk_eC S0 I2 L2 f0 f1 f2 J M g0 g1 g2) (hS : S0 ≤ 1000000000000) (d1 : 20 ≤ d.toInt) (d2 : d.toInt ≤ 400)
    (hb : (J 38 = 64 → K' = J 38 - 1 ∧ h0 = ldk_shk g0 64 ∧ h1 = ldk_shk g1 64 ∧ h2 = ldk_shk g2 64) ∧ (¬ J 38 = 64 → K' = J 38 ∧ h0 = g0 ∧ h1 = g1 ∧ h2 = g2)) (e1 : J' 38 = K' + 1) (e2 : M' 33 = M 33 + 1) (e3 : M' 32 = M 32 + (4000 / d).toInt64) :
    ldk_eC (S0 + 200) (sX0_beatUp I2 L2 f0 f1 f2 a b d).1 (sX0_beatUp I2 L2 f0 f1 f2 a b d).2.1 (sX0_beatUp I2 L2 f0 f1 f2 a b d).2.2.1 (sX0_beatUp I2 L2 f0 f1 f2 a b d).2.2.2.1 (sX0_beatUp I2 L2 f0 f1 f2 a b d).2.2.2.2 J' M' (upd h0 K'.toNatClampNeg a) (upd h1 K'.toNatClampNeg b) (upd h2 K'.toNatClampNeg d) := by
  obtain ⟨nx, K, c1, c2, c3, c4, c5, c6, c7, c8, c9, c10, c11⟩ := hc
  obtain ⟨q1, q2, q3, q4⟩ := ldk_qd d1 d2
  have hp := ldk_qs_pos (g := g2) K (fun j hj => by have := c9 j hj; omega)
  have m1 : sJ9_floorMod_7cf53 (I2 3) 64 = nI nx := ldk_fm (by rw [c3, nI_toInt (by omega)]; omega)
  have m2 : sJ9_floorMod_7cf53 (nI nx + 1) 64 = nI ((nx + 1) % 64) := ldk_fm (by rw [← nI_succ, nI_toInt (by omega)]; omega)
  have e64 : (nI K = 64) ↔ K = 64 := by rw [show (64 : Int32) = nI 64 from rfl, ldk_eq, nI_toInt (by omega), nI_toInt (by omega)]; omega
  -- what the row is, and where the new pick goes
  have key : ∃ P : Nat, P + 1 = (if K = 64 then 64 else K + 1) ∧ K' = nI P ∧ (∀ i, i < P → f0 ((nx + 127 - i) % 64) = h0 (P - 1 - i) ∧ f1 ((nx + 127 - i) % 64) = h1 (P - 1 - i) ∧ f2 ((nx + 127 - i) % 64) = h2 (P - 1 - i)) ∧ (∀ j, j < P → 20 ≤ (h2 j).toInt ∧ (h2 j).toInt ≤ 400) ∧ ldk_qs h2 P ≤ ldk_qs g2 K := by
    by_cases h64 : K = 64
    · subst h64
      obtain ⟨z1, z2, z3, z4⟩ := hb.1 (c5.trans (e64.mpr rfl))
      subst z2; subst z3; subst z4
      refine ⟨63, by simp, ?_, fun i hi => ?_, fun j hj => ?_, ?_⟩
      · rw [z1, c5]; rfl
      · have := c8 i (by omega)
        unfold ldk_shk
        rw [if_pos (by omega), if_pos (by omega), if_pos (by omega), show 63 - 1 - i + 1 = 64 - 1 - i by omega]
        exact this
      · unfold ldk_shk
        rw [if_pos (by omega)]
        exact c9 (j + 1) (by omega)
      · rw [ldk_qs_tail (g := g2) 63, ldk_qs_ext (g := ldk_shk g2 64) (h := fun j => g2 (j + 1)) 63 (fun j hj => by unfold ldk_shk; rw [if_pos (by omega)])]
        have : 0 ≤ 4000 / (g2 0).toInt := Int.ediv_nonneg (by omega) (by have := c9 0 (by omega); omega)
        omega
    · obtain ⟨z1, z2, z3, z4⟩ := hb.2 (by rw [c5]; exact fun z => h64 (e64.mp z))
      subst z2; subst z3; subst z4
      exact ⟨K, by rw [if_neg h64], z1.trans c5, c8, c9, Int.le_refl _⟩
  obtain ⟨P, p1, p2, p3, p4, p5⟩ := key
  have hP : P ≤ 63 := by split at p1 <;> omega
  have cP : K'.toNatClampNeg = P := by rw [p2, nI_clamp (by omega)]
  rw [cP]
  unfold sX0_beatUp
  dsimp only
  rw [m1, m2, nI_clamp (by omega)]
  refine ⟨(nx + 1) % 64, P + 1, by omega, by omega, ?_, ?_, ?_, ?_, ?_, fun i hi => ?_, fun j hj => ?_, ?_, ?_⟩
  · rw [pk_un (by decide), pk_us]
  · rw [pk_us, c4, ← nI_succ]
    by_cases h64 : K = 64
    · subst h64; rw [if_pos (by decide), p1]; rfl
    · rw [if_neg (by rw [Int32.lt_iff_toInt_lt, show (64 : Int32).toInt = 64 by decide, nI_toInt (by omega)]; omega), p1, if_neg h64]
  · rw [e1, p2, ← nI_succ]
  · rw [pk_uLn (by decide), pk_uLs, e2, c6]
  · rw [pk_uLs, e3, c7, q1]
  · by_cases hi0 : i = 0
    · subst hi0
      rw [show ((nx + 1) % 64 + 127 - 0) % 64 = nx by omega, show P + 1 - 1 - 0 = P by omega, pk_us, pk_us, pk_us, pk_us, pk_us, pk_us]
      exact ⟨rfl, rfl, rfl⟩
    · have hne : (nx + 127 - (i - 1)) % 64 ≠ nx := by omega
      have := p3 (i - 1) (by omega)
      rw [show ((nx + 1) % 64 + 127 - i) % 64 = (nx + 127 - (i - 1)) % 64 by omega, pk_un hne, pk_un hne, pk_un hne, pk_un (by omega), pk_un (by omega), pk_un (by omega), show P + 1 - 1 - i = P - 1 - (i - 1) by omega]
      exact this
  · by_cases hj0 : j = P
    · subst hj0; rw [pk_us]; exact ⟨d1, d2⟩
    · rw [pk_un hj0]; exact p4 j (by omega)
  · rw [pk_uLs, q1, ldk_la (by rw [q2]; omega) (by rw [q2]; omega), q2]
    show ldk_qs _ P + 4000 / (upd h2 P d P).toInt ≤ _
    rw [pk_us, ldk_qs_ext (h := h2) P (fun j hj => pk_un (by omega))]
    omega
  · rw [pk_uLs, q1, ldk_la (by rw [q2]; omega) (by rw [q2]; omega), q2]
    omega
/-- the newest pick off -/
theorem ldk_eC_off {J' : Nat → Int32} {M' : Nat → Int64} (hc : ldk_eC S0 I2 L2 f0 f1 f2 J M g0 g1 g2) (hS : S0 ≤ 1000000000000) :
    ((sX0_takeOff I2 L2 f2).1 = 0 ↔ J 38 ≤ 0) ∧ (J 38 ≤ 0 → J' 38 = J 38 → M' 33 = M 33 → M' 32 = M 32 → ldk_eC S0 (sX0_takeOff I2 L2 f2).2.1 (sX0_takeOff I2 L2 f2).2.2 f0 f1 f2 J' M' g0 g1 g2) ∧
    (¬ J 38 ≤ 0 → J' 38 = J 38 - 1 → M' 33 = M 33 - 1 → M' 32 = M 32 - (4000 / (g2 (J 38 - 1).toNatClampNeg)).toInt64 → ldk_eC S0 (sX0_takeOff I2 L2 f2).2.1 (sX0_takeOff I2 L2 f2).2.2 f0 f1 f2 J' M' g0 g1 g2) := by
  obtain ⟨nx, K, c1, c2, c3, c4, c5, c6, c7, c8, c9, c10, c11⟩ := hc
  have hK : (J 38 ≤ 0) ↔ K = 0 := by rw [c5, Int32.le_iff_toInt_le, nI_toInt (by omega), ldk_t0']; omega
  have hK2 : (0 < I2 4) ↔ ¬ K = 0 := by rw [c4, Int32.lt_iff_toInt_lt, nI_toInt (by omega), ldk_t0']; omega
  unfold sX0_takeOff
  by_cases h0 : K = 0
  · rw [if_neg (fun z => hK2.mp z h0)]
    refine ⟨⟨fun _ => hK.mpr h0, fun _ => rfl⟩, fun _ e1 e2 e3 => ⟨nx, K, c1, c2, c3, c4, e1.trans c5, e2.trans c6, e3.trans c7, c8, c9, c10, c11⟩, fun z => absurd (hK.mpr h0) z⟩
  · rw [if_pos (hK2.mpr h0)]
    refine ⟨⟨fun z => absurd z (show ¬ (1 : Int32) = 0 by decide), fun z => absurd (hK.mp z) h0⟩, fun z => absurd (hK.mp z) h0, fun _ e1 e2 e3 => ?_⟩
    obtain ⟨P, rfl⟩ : ∃ P, K = P + 1 := ⟨K - 1, by omega⟩
    have hs : sX0_slotOf I2 0 = nI ((nx + 127) % 64) := by
      unfold sX0_slotOf
      refine ldk_fm ?_
      have e : (I2 3 - 1 - 0).toInt = (nx : Int) - 1 := by
        rw [ldk_is (by rw [ldk_is (by rw [c3, nI_toInt (by omega), ldk_t1']; omega) (by rw [c3, nI_toInt (by omega), ldk_t1']; omega), c3, nI_toInt (by omega), ldk_t1', ldk_t0']; omega) (by rw [ldk_is (by rw [c3, nI_toInt (by omega), ldk_t1']; omega) (by rw [c3, nI_toInt (by omega), ldk_t1']; omega), c3, nI_toInt (by omega), ldk_t1', ldk_t0']; omega), ldk_is (by rw [c3, nI_toInt (by omega), ldk_t1']; omega) (by rw [c3, nI_toInt (by omega), ldk_t1']; omega), c3, nI_toInt (by omega), ldk_t1', ldk_t0']
        omega
      rw [e]; omega
    have hd := (c8 0 (by omega)).2.2
    rw [show nx + 127 - 0 = nx + 127 by omega, show P + 1 - 1 - 0 = P by omega] at hd
    have hJ : (J 38 - 1).toNatClampNeg = P := by rw [c5, nI_pred, nI_clamp (by omega)]
    rw [hJ] at e3
    obtain ⟨d1, d2⟩ := c9 P (by omega)
    obtain ⟨q1, q2, q3, q4⟩ := ldk_qd d1 d2
    have hp := ldk_qs_pos (g := g2) P (fun j hj => by have := c9 j (by omega); omega)
    have c10' : ldk_qs g2 P + 4000 / (g2 P).toInt ≤ (L2 6).toInt := c10
    dsimp only
    rw [hs, nI_clamp (by omega), hd, q1]
    refine ⟨(nx + 127) % 64, P, by omega, by omega, ?_, ?_, ?_, ?_, ?_, fun i hi => ?_, fun j hj => c9 j (by omega), ?_, ?_⟩
    · rw [pk_un (by decide), pk_us]
    · rw [pk_us, c4, nI_pred]
    · rw [e1, c5, nI_pred]
    · rw [pk_uLn (by decide), pk_uLs, e2, c6]
    · rw [pk_uLs, e3, c7]
    · have := c8 (i + 1) (by omega)
      rw [show ((nx + 127) % 64 + 127 - i) % 64 = (nx + 127 - (i + 1)) % 64 by omega, show P - 1 - i = P + 1 - 1 - (i + 1) by omega]
      exact this
    · rw [pk_uLs, ldk_ls (by rw [q2]; omega) (by rw [q2]; omega), q2]; omega
    · rw [pk_uLs, ldk_ls (by rw [q2]; omega) (by rw [q2]; omega), q2]; omega
/-- what is told of the cloth -/
theorem ldk_eC_tell (hc : ldk_eC S0 I2 L2 f0 f1 f2 J M g0 g1 g2) (i w : Int32) : sX0_tell I2 f0 f1 f2 i w = (sX7_cloth J g0 g1 g2 i w).1 := by
  obtain ⟨nx, K, c1, c2, c3, c4, c5, c6, c7, c8, c9, c10, c11⟩ := hc
  unfold sX0_tell sX7_cloth
  by_cases h0 : i < 0
  · rw [if_pos h0, if_pos h0]
  rw [if_neg h0, if_neg h0, c4, c5]
  by_cases h1 : i < nI K
  · rw [if_pos h1, if_pos h1]
    rw [Int32.lt_iff_toInt_lt, ldk_t0'] at h0
    rw [Int32.lt_iff_toInt_lt, nI_toInt (by omega)] at h1
    obtain ⟨n, hn⟩ : ∃ n : Nat, i.toInt = n := ⟨i.toInt.toNat, by omega⟩
    have s1 : sX0_slotOf I2 i = nI ((nx + 127 - n) % 64) := by
      unfold sX0_slotOf
      refine ldk_fm ?_
      have e0 : (I2 3 - 1).toInt = (nx : Int) - 1 := by
        rw [ldk_is (by rw [c3, nI_toInt (by omega), ldk_t1']; omega) (by rw [c3, nI_toInt (by omega), ldk_t1']; omega), c3, nI_toInt (by omega), ldk_t1']
      rw [ldk_is (by rw [e0]; omega) (by rw [e0]; omega), e0]; omega
    have s2 : (nI K - 1 - i).toNatClampNeg = K - 1 - n := by
      obtain ⟨P, rfl⟩ : ∃ P, K = P + 1 := ⟨K - 1, by omega⟩
      rw [nI_pred]
      refine ldk_clamp ?_
      rw [ldk_is (by rw [nI_toInt (by omega)]; omega) (by rw [nI_toInt (by omega)]; omega), nI_toInt (by omega)]; omega
    rw [s1, s2, nI_clamp (by omega)]
    obtain ⟨t1, t2, t3⟩ := c8 n (by omega)
    by_cases w0 : w = 0
    · subst w0; rw [if_pos rfl, if_pos rfl]; exact t1
    rw [if_neg w0, if_neg w0]
    by_cases w1 : w = 1
    · subst w1; rw [if_pos rfl, if_pos rfl]; exact t2
    rw [if_neg w1, if_neg w1]
    by_cases w2 : w = 2
    · subst w2; rw [if_pos rfl, if_pos rfl]; exact t3
    rw [if_neg w2, if_neg w2]
  · rw [if_neg h1, if_neg h1]
end LDKC
