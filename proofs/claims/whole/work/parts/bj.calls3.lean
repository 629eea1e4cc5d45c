/-! ===== the calls, one by one (what is only told; the pattern) ===== -/
section LDKW3
variable {S0 : Int} {I : Nat → Int32} {L : Nat → Int64} {I1 : Nat → Int32} {L1 : Nat → Int64} {I2 : Nat → Int32} {L2 : Nat → Int64} {c0 c1 c2 I3 m0 : Nat → Int32} {m1 : Nat → Int64} {I4 : Nat → Int32} {L4 : Nat → Int64} {A : LdkA} {It t0 : Nat → Int32} {J : Nat → Int32} {M : Nat → Int64} {g0 g1 g2 q39 q40 : Nat → Int32} {q41 : Nat → Int64} {Q : LdkQ} {xr : LdkR} {f1 : Nat → Int32}
theorem ldk_c_angle (h : ldk_IV S0 (I, L, I1, L1, I2, L2, c0, c1, c2, I3, m0, m1, I4, L4) A It t0 (J, M, g0, g1, g2, q39, q40, q41) Q xr f1) :
    sX6_angle I1 = (sX7_angle J).1 ∧ ldk_IV S0 (I, L, I1, L1, I2, L2, c0, c1, c2, I3, m0, m1, I4, L4) A It t0 ((sX7_angle J).2, M, g0, g1, g2, q39, q40, q41) Q xr f1 := by
  have hI := h
  obtain ⟨n, len, ⟨hA, hB, hC, hD, hP, h6, h7⟩, hPP, ht, h2, hz, hs, h9⟩ := h
  have b9 : J 22 = I1 0 := hB.2.1
  unfold sX6_angle sX6_degrees sX7_angle
  rw [b9]; exact ⟨rfl, ldk_IV_0 hI⟩
theorem ldk_c_left (h : ldk_IV S0 (I, L, I1, L1, I2, L2, c0, c1, c2, I3, m0, m1, I4, L4) A It t0 (J, M, g0, g1, g2, q39, q40, q41) Q xr f1) :
    sX6_left I1 = (sX7_left J).1 ∧ ldk_IV S0 (I, L, I1, L1, I2, L2, c0, c1, c2, I3, m0, m1, I4, L4) A It t0 ((sX7_left J).2, M, g0, g1, g2, q39, q40, q41) Q xr f1 := by
  have hI := h
  obtain ⟨n, len, ⟨hA, hB, hC, hD, hP, h6, h7⟩, hPP, ht, h2, hz, hs, h9⟩ := h
  have b6 : I1 2 = if J 21 = 2 then J 23 else 0 := hB.1.2.2.2.2.2.1
  unfold sX6_left sX7_left
  by_cases d : J 21 = 2
  · rw [if_pos d] at b6
    rw [if_pos d, b6]; exact ⟨rfl, ldk_IV_0 hI⟩
  · rw [if_neg d] at b6
    rw [if_neg d, b6]; exact ⟨(show FP.fdiv (FP.i2f 0) 1098907648 = FP.fconst0 by decide +kernel), ldk_IV_0 hI⟩
theorem ldk_IVt (h : ldk_IV S0 (I, L, I1, L1, I2, L2, c0, c1, c2, I3, m0, m1, I4, L4) A It t0 (J, M, g0, g1, g2, q39, q40, q41) Q xr f1) : M 32 = L2 6 ∧ 0 ≤ (L2 6).toInt ∧ M 33 = L2 5 := by
  obtain ⟨n, len, ⟨hA, hB, hC, hD, hP, h6, h7⟩, hPP, ht, h2, hz, hs, h9⟩ := h
  dsimp only at hC
  obtain ⟨nx, K, k1, k2, k3, k4, k5, k6, k7, k8, k9, k10, k11⟩ := hC
  have hq := ldk_qs_pos (g := g2) K (fun j hj => by have := k9 j hj; omega)
  have k10 : ldk_qs g2 K ≤ (L2 6).toInt := k10
  exact ⟨k7, by omega, k6⟩
theorem ldk_c_roll (a : UInt64) (h : ldk_IV S0 (I, L, I1, L1, I2, L2, c0, c1, c2, I3, m0, m1, I4, L4) A It t0 (J, M, g0, g1, g2, q39, q40, q41) Q xr f1) :
    sX6_roll L2 a = (sX7_roll J M a).1 ∧ ldk_IV S0 (I, L, I1, L1, I2, L2, c0, c1, c2, I3, m0, m1, I4, L4) A It t0 ((sX7_roll J M a).2, M, g0, g1, g2, q39, q40, q41) Q xr f1 := by
  obtain ⟨e, -, -⟩ := ldk_IVt h
  unfold sX6_roll sX7_roll
  rw [e]
  split
  · exact ⟨rfl, ldk_IV_0 h⟩
  · split
    · exact ⟨rfl, ldk_IV_0 h⟩
    · exact ⟨rfl, ldk_IV_0 h⟩
theorem ldk_c_letOff (k : Int32) (h : ldk_IV S0 (I, L, I1, L1, I2, L2, c0, c1, c2, I3, m0, m1, I4, L4) A It t0 (J, M, g0, g1, g2, q39, q40, q41) Q xr f1) :
    sX6_letOff (FP.fmul (FP.i2f k) 1040187392) = (sX7_letOff J (FP.fmul (FP.i2f k) 1040187392)).1 ∧ ldk_IV S0 (I, L, I1, L1, I2, L2, c0, c1, c2, I3, m0, m1, I4, L4) A It t0 ((sX7_letOff J (FP.fmul (FP.i2f k) 1040187392)).2, M, g0, g1, g2, q39, q40, q41) Q xr f1 := by
  obtain ⟨e1, e2⟩ := ldk_letOff J k
  rw [e2]; exact ⟨e1, ldk_IV_0 h⟩
theorem ldk_fd4 {a : Int64} (h : 0 ≤ a.toInt) : sJ9_floorDiv_f86c9 a 4 = a / 4 := by
  unfold sJ9_floorDiv_f86c9
  refine if_pos ?_
  rw [Int64.le_iff_toInt_le, ldk_T0]
  have m : (a ^^^ 4).toBitVec.msb = false := by
    rw [Int64.toBitVec_xor, BitVec.msb_xor]
    have m1 : a.toBitVec.msb = false := by
      rw [BitVec.msb_eq_toInt]
      exact decide_eq_false (by show ¬ a.toInt < 0; omega)
    rw [m1]; decide
  rw [BitVec.msb_eq_toInt] at m
  have := of_decide_eq_false m
  show 0 ≤ (a ^^^ 4).toBitVec.toInt
  omega
theorem ldk_c_state (a : Int32) (h : ldk_IV S0 (I, L, I1, L1, I2, L2, c0, c1, c2, I3, m0, m1, I4, L4) A It t0 (J, M, g0, g1, g2, q39, q40, q41) Q xr f1) :
    sX6_state I I1 L2 a = (sX7_state J M a).1 ∧ ldk_IV S0 (I, L, I1, L1, I2, L2, c0, c1, c2, I3, m0, m1, I4, L4) A It t0 ((sX7_state J M a).2, M, g0, g1, g2, q39, q40, q41) Q xr f1 := by
  have hI := h
  obtain ⟨e1, e2, -⟩ := ldk_IVt h
  obtain ⟨n, len, ⟨hA, hB, hC, hD, hP, h6, h7⟩, hPP, ht, h2, hz, hs, h9⟩ := h
  dsimp only at hA hB
  obtain ⟨a1, a2, a3, a4, a5, a6, a7, a8⟩ := hA
  obtain ⟨⟨b1, b2, b3, b4, b5, b6, b7, b8⟩, b9, b10, b11⟩ := hB
  have hz := ldk_IV_0 (v := 0) hI
  unfold sX6_state sX7_state
  rw [b1, a1, a2, a3, a4, b2, e1, a6, ldk_fd4 e2]
  repeat' split
  all_goals exact ⟨rfl, hz⟩
theorem ldk_c_count (a : Int32) (h : ldk_IV S0 (I, L, I1, L1, I2, L2, c0, c1, c2, I3, m0, m1, I4, L4) A It t0 (J, M, g0, g1, g2, q39, q40, q41) Q xr f1) :
    sX6_count L L1 L2 a = (sX7_count J M a).1 ∧ ldk_IV S0 (I, L, I1, L1, I2, L2, c0, c1, c2, I3, m0, m1, I4, L4) A It t0 ((sX7_count J M a).2, M, g0, g1, g2, q39, q40, q41) Q xr f1 := by
  have hI := h
  obtain ⟨-, -, e3⟩ := ldk_IVt h
  obtain ⟨n, len, ⟨hA, hB, hC, hD, hP, h6, h7⟩, hPP, ht, h2, hz, hs, h9⟩ := h
  have b3 : M 34 = L1 5 := hB.1.2.2.1
  have p1 : M 25 = L 5 := hP.1
  have hz := ldk_IV_0 (v := 0) hI
  unfold sX6_count sX7_count
  rw [p1, e3, b3]
  repeat' split
  all_goals exact ⟨rfl, hz⟩
theorem ldk_c_cloth (a b : Int32) (h : ldk_IV S0 (I, L, I1, L1, I2, L2, c0, c1, c2, I3, m0, m1, I4, L4) A It t0 (J, M, g0, g1, g2, q39, q40, q41) Q xr f1) :
    sX6_cloth I2 c0 c1 c2 a b = (sX7_cloth J g0 g1 g2 a b).1 ∧ (J 38).toInt ≤ 64 ∧ ldk_IV S0 (I, L, I1, L1, I2, L2, c0, c1, c2, I3, m0, m1, I4, L4) A It t0 ((sX7_cloth J g0 g1 g2 a b).2, M, g0, g1, g2, q39, q40, q41) Q xr f1 := by
  have hI := h
  obtain ⟨n, len, ⟨hA, hB, hC, hD, hP, h6, h7⟩, hPP, ht, h2, hz, hs, h9⟩ := h
  have e2 : (sX7_cloth J g0 g1 g2 a b).2 = upd J 0 0 := by
    unfold sX7_cloth
    repeat' split
    all_goals rfl
  rw [e2]
  refine ⟨ldk_eC_tell hC a b, ?_, ldk_IV_0 hI⟩
  obtain ⟨nx, K, k1, k2, k3, k4, k5, -⟩ := hC
  have k5 : J 38 = nI K := k5
  rw [k5, nI_toInt (by omega)]; omega
theorem ldk_c_length (h : ldk_IV S0 (I, L, I1, L1, I2, L2, c0, c1, c2, I3, m0, m1, I4, L4) A It t0 (J, M, g0, g1, g2, q39, q40, q41) Q xr f1) :
    sX6_length L4 = (sX7_length J M).1 ∧ ldk_IV S0 (I, L, I1, L1, I2, L2, c0, c1, c2, I3, m0, m1, I4, L4) A It t0 ((sX7_length J M).2, M, g0, g1, g2, q39, q40, q41) Q xr f1 := by
  have hI := h
  obtain ⟨n, len, ⟨hA, hB, hC, hD, hP, h6, h7⟩, hPP, ht, h2, hz, hs, h9⟩ := h
  have p2 : M 10 = len := hP.2.1
  have h7 : L4 7 = len := h7
  unfold sX6_length sX7_length
  rw [p2, h7]; exact ⟨rfl, ldk_IV_0 hI⟩
theorem ldk_tellno {a0 a1 a2 : Nat → Int32} {a3 : Nat → Int64} {a4 a5 : Nat → Int32} {w : Int32} (w0 : ¬ w = 0) (w1 : ¬ w = 1) (w2 : ¬ w = 2) : ∀ (n : Nat) (k : Int32) (I : Nat → Int32) (L : Nat → Int64), (tellF a0 a1 a2 a3 a4 a5 w n k I L).1 = -1 := by
  intro n
  induction n with
  | zero => intro k I L; rfl
  | succ n ih =>
    intro k I L
    rw [tellF]
    split
    · rfl
    · split
      · rfl
      · split
        · dsimp only; unfold sX1_tellHere; rw [if_neg w0, if_neg w1, if_neg w2]
        · exact ih _ _ _
theorem ldk_c_design (p : Int64) (w : Int32) (h : ldk_IV S0 (I, L, I1, L1, I2, L2, c0, c1, c2, I3, m0, m1, I4, L4) A It t0 (J, M, g0, g1, g2, q39, q40, q41) Q xr f1) :
    (sX6_design I4 L4 A.1 A.2.1 A.2.2.1 A.2.2.2.1 A.2.2.2.2.1 A.2.2.2.2.2 p w).1 = (sX7_design J M Q.1 Q.2.1 Q.2.2 xr.1 xr.2.1 xr.2.2 p w).1 ∧ (I4 6).toInt ≤ 80 ∧ (0 ≤ p.toInt → p.toInt < (M 10).toInt → ldkOK Q.1 Q.2.1 Q.2.2 xr.1 xr.2.1 xr.2.2 161 (0, 100, p, 0)) ∧
    ldk_IV S0 (I, L, I1, L1, I2, L2, c0, c1, c2, I3, m0, m1, (sX6_design I4 L4 A.1 A.2.1 A.2.2.1 A.2.2.2.1 A.2.2.2.2.1 A.2.2.2.2.2 p w).2.1, (sX6_design I4 L4 A.1 A.2.1 A.2.2.1 A.2.2.2.1 A.2.2.2.2.1 A.2.2.2.2.2 p w).2.2) A It t0 ((sX7_design J M Q.1 Q.2.1 Q.2.2 xr.1 xr.2.1 xr.2.2 p w).2, M, g0, g1, g2, q39, q40, q41) Q xr f1 := by
  have hI := h
  obtain ⟨n, len, ⟨hA, hB, hC, hD, hP, h6, h7⟩, hPP, ht, h2, hz, hs, h9⟩ := h
  dsimp only at hA hB hC hD hP h6 h7 h2 h9
  obtain ⟨hpT, l0, l1, hn⟩ := ldk_PP_pT hPP
  have p2 : M 10 = len := hP.2.1
  have e2 : (sX7_design J M Q.1 Q.2.1 Q.2.2 xr.1 xr.2.1 xr.2.2 p w).2 = upd J 0 0 := by
    unfold sX7_design
    repeat' split
    all_goals rfl
  have i80 : (I4 6).toInt ≤ 80 := by rw [h6, nI_toInt (by omega)]; omega
  rw [e2]
  by_cases d1 : 0 ≤ p.toInt ∧ p.toInt < len.toInt
  · obtain ⟨t0', t1', t2', t3', t4', -⟩ := hpT I4 L4 p h6 h7 d1.1 d1.2
    refine ⟨?_, i80, fun _ _ => t4', ldk_IV_0 (ldk_IV_mk n len hA hB hC hD hP (t3' w).1 (t3' w).2 hPP ht h2 hz hs h9)⟩
    have e7 : (sX7_design J M Q.1 Q.2.1 Q.2.2 xr.1 xr.2.1 xr.2.2 p w).1 = if w < 0 then -1 else if w ≤ 2 then sX7_look Q.1 Q.2.1 Q.2.2 xr.1 xr.2.1 xr.2.2 p w else -1 := by
      unfold sX7_design
      rw [if_neg (show ¬ p < 0 by rw [Int64.lt_iff_toInt_lt, ldk_T0]; omega), if_neg (show ¬ M 10 ≤ p by rw [p2, Int64.le_iff_toInt_le]; omega)]
      repeat' split
      all_goals rfl
    rw [e7]
    show (sX1_tell I4 L4 A.1 A.2.1 A.2.2.1 A.2.2.2.1 A.2.2.2.2.1 A.2.2.2.2.2 p w).1 = _
    by_cases w0 : w = 0
    · subst w0; rw [if_neg (by decide), if_pos (by decide)]; exact t0'
    by_cases w1 : w = 1
    · subst w1; rw [if_neg (by decide), if_pos (by decide)]; exact t1'
    by_cases w2 : w = 2
    · subst w2; rw [if_neg (by decide), if_pos (by decide)]; exact t2'
    have er : (if w < 0 then (-1 : Int32) else if w ≤ 2 then sX7_look Q.1 Q.2.1 Q.2.2 xr.1 xr.2.1 xr.2.2 p w else -1) = -1 := by
      by_cases z : w < 0
      · rw [if_pos z]
      · rw [if_neg z, if_neg]
        rw [Int32.lt_iff_toInt_lt, ldk_t0'] at z
        rw [ldk_ne, ldk_t0'] at w0
        rw [ldk_ne, ldk_t1'] at w1
        rw [ldk_ne, ldk_t2'] at w2
        rw [Int32.le_iff_toInt_le, ldk_t2']; omega
    rw [er]
    unfold sX1_tell
    split
    · rfl
    · exact ldk_tellno w0 w1 w2 _ _ _ _
  · have hh : sX1_has L4 p = 0 := by
      unfold sX1_has
      by_cases z : p < 0
      · rw [if_pos z]
      · rw [if_neg z, h7]
        rw [Int64.lt_iff_toInt_lt, ldk_T0] at z
        rw [if_pos (by rw [Int64.le_iff_toInt_le]; omega)]
    have e6 : sX6_design I4 L4 A.1 A.2.1 A.2.2.1 A.2.2.2.1 A.2.2.2.2.1 A.2.2.2.2.2 p w = (-1, I4, L4) := by
      unfold sX6_design sX1_tell; rw [if_pos hh]
    have e7 : (sX7_design J M Q.1 Q.2.1 Q.2.2 xr.1 xr.2.1 xr.2.2 p w).1 = -1 := by
      unfold sX7_design
      by_cases z : p < 0
      · rw [if_pos z]
      · rw [if_neg z, p2]
        rw [Int64.lt_iff_toInt_lt, ldk_T0] at z
        rw [if_pos (by rw [Int64.le_iff_toInt_le]; omega)]
    rw [e6, e7]
    exact ⟨rfl, i80, fun z1 z2 => absurd ⟨z1, by rw [p2] at z2; exact z2⟩ d1, ldk_IV_0 hI⟩
end LDKW3
