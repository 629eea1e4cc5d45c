/-! ===== the calls, one by one: class and reference alike (start, stop, weft, jump, speed) ===== -/
section LDKW1
variable {S0 : Int} {I : Nat → Int32} {L : Nat → Int64} {I1 : Nat → Int32} {L1 : Nat → Int64} {I2 : Nat → Int32} {L2 : Nat → Int64} {c0 c1 c2 I3 m0 : Nat → Int32} {m1 : Nat → Int64} {I4 : Nat → Int32} {L4 : Nat → Int64} {A : LdkA} {It t0 : Nat → Int32} {J : Nat → Int32} {M : Nat → Int64} {g0 g1 g2 q39 q40 : Nat → Int32} {q41 : Nat → Int64} {Q : LdkQ} {xr : LdkR} {f1 : Nat → Int32}
theorem ldk_IV_mk (n : Nat) (len : Int64) (hA : ldk_eA I J) (hB : ldk_eB I1 L1 J M) (hC : ldk_eC S0 I2 L2 c0 c1 c2 J M g0 g1 g2) (hD : ldk_eD len I3 m0 m1 J q39 q40 q41) (hP : ldk_eP len L M (J 21)) (h6 : I4 6 = nI n) (h7 : L4 7 = len) (hPP : ldk_PP A Q xr n len) (ht : f1 = t0) (h2 : J 2 = It 1) (hz : 0 ≤ (It 1).toInt) (hs : (It 1).toInt ≤ 160) (h9 : J 9 = nI n) :
    ldk_IV S0 (I, L, I1, L1, I2, L2, c0, c1, c2, I3, m0, m1, I4, L4) A It t0 (J, M, g0, g1, g2, q39, q40, q41) Q xr f1 := ⟨n, len, ⟨hA, hB, hC, hD, hP, h6, h7⟩, hPP, ht, h2, hz, hs, h9⟩
theorem ldk_c_start (h : ldk_IV S0 (I, L, I1, L1, I2, L2, c0, c1, c2, I3, m0, m1, I4, L4) A It t0 (J, M, g0, g1, g2, q39, q40, q41) Q xr f1) :
    (sX6_start I I1 L4).1 = (sX7_start J M).1 ∧ ldk_IV S0 (I, L, (sX6_start I I1 L4).2, L1, I2, L2, c0, c1, c2, I3, m0, m1, I4, L4) A It t0 ((sX7_start J M).2, M, g0, g1, g2, q39, q40, q41) Q xr f1 := by
  have hI := h
  obtain ⟨n, len, ⟨hA, hB, hC, hD, hP, h6, h7⟩, hPP, ht, h2, hz, hs, h9⟩ := h
  dsimp only at hA hB hC hD hP h6 h7 h2 h9
  have hA' := hA
  obtain ⟨a1, a2, a3, a4, a5, a6, a7, a8⟩ := hA
  obtain ⟨⟨b1, b2, b3, b4, b5, b6, b7, b8⟩, b9, b10, b11⟩ := hB
  obtain ⟨p1, p2, p3, p4, p5, p6, p7⟩ := hP
  have no : sX7_start J M = (0, upd J 0 0) → sX6_start I I1 L4 = (0, I1) → (sX6_start I I1 L4).1 = (sX7_start J M).1 ∧ ldk_IV S0 (I, L, (sX6_start I I1 L4).2, L1, I2, L2, c0, c1, c2, I3, m0, m1, I4, L4) A It t0 ((sX7_start J M).2, M, g0, g1, g2, q39, q40, q41) Q xr f1 := fun e1 e2 => by
    rw [e1, e2]; exact ⟨rfl, ldk_IV_0 hI⟩
  by_cases d1 : I 11 = 0
  · refine no ?_ ?_
    · unfold sX7_start; rw [a6, if_pos d1]; split
      · split <;> rfl
      · rfl
    · unfold sX6_start; rw [if_pos d1]
  by_cases d2 : I1 1 = 0
  · by_cases d3 : len = 0
    · refine no ?_ ?_
      · unfold sX7_start; rw [b1, if_pos d2, p2, if_pos d3]
      · unfold sX6_start sX4_stands; rw [if_neg d1, if_pos d2, if_neg (by decide), h7, if_pos d3]
    · have e1 : sX7_start J M = (1, upd (upd J 0 0) 21 1) := by
        unfold sX7_start; rw [b1, if_pos d2, p2, if_neg d3, a6, if_neg d1]
      have e2 : sX6_start I I1 L4 = (1, upd I1 1 1) := by
        unfold sX6_start sX4_stands; rw [if_neg d1, if_pos d2, if_neg (by decide), h7, if_neg d3]
      rw [e1, e2]
      dsimp only
      refine ⟨rfl, ldk_IV_mk n len ?_ ⟨⟨?_, ?_, b3, ?_, ?_, ?_, ?_, ?_⟩, ?_, ?_, ?_⟩ (ldk_eC_of hC (by rw [pk_un (by decide), pk_un (by decide)]) rfl rfl) (ldk_eD_of hD (by rw [pk_un (by decide), pk_un (by decide)])) ⟨p1, p2, p3, p4, p5, p6, ?_⟩ h6 h7 hPP ht ?_ hz hs ?_⟩
      · refine ldk_eA_of hA' ?_ ?_ ?_ ?_ ?_ ?_ <;> (rw [pk_un (by decide), pk_un (by decide)])
      · rw [pk_us, pk_us]
      · rw [pk_un (by decide), pk_un (by decide), pk_un (by decide)]; exact b2
      · rw [pk_un (by decide), pk_un (by decide), pk_un (by decide)]; exact b4
      · rw [pk_un (by decide)]; exact b5
      · rw [pk_us, if_neg (by decide), pk_un (by decide), b6, if_neg (by rw [b1, d2]; decide)]
      · rw [pk_us]; exact Or.inr (Or.inl rfl)
      · rw [pk_us]; exact fun z => absurd z (by decide)
      · rw [pk_un (by decide), pk_un (by decide), pk_un (by decide)]; exact b9
      · rw [pk_un (by decide), pk_un (by decide)]; exact b10
      · rw [pk_us]; exact fun z => absurd z (by decide)
      · intro _
        have : len.toInt ≠ 0 := fun z => d3 (ldk_Eq.mpr (z.trans ldk_T0.symm))
        omega
      · rw [pk_un (by decide), pk_un (by decide)]; exact h2
      · rw [pk_un (by decide), pk_un (by decide)]; exact h9
  · refine no ?_ ?_
    · unfold sX7_start; rw [b1, if_neg d2]
    · unfold sX6_start sX4_stands; rw [if_neg d1, if_neg d2, if_pos rfl]
theorem ldk_c_stop (h : ldk_IV S0 (I, L, I1, L1, I2, L2, c0, c1, c2, I3, m0, m1, I4, L4) A It t0 (J, M, g0, g1, g2, q39, q40, q41) Q xr f1) :
    (sX6_stop I1).1 = (sX7_stop J).1 ∧ ldk_IV S0 (I, L, (sX6_stop I1).2, L1, I2, L2, c0, c1, c2, I3, m0, m1, I4, L4) A It t0 ((sX7_stop J).2, M, g0, g1, g2, q39, q40, q41) Q xr f1 := by
  have hI := h
  obtain ⟨n, len, ⟨hA, hB, hC, hD, hP, h6, h7⟩, hPP, ht, h2, hz, hs, h9⟩ := h
  dsimp only at hA hB hC hD hP h6 h7 h2 h9
  obtain ⟨⟨b1, b2, b3, b4, b5, b6, b7, b8⟩, b9, b10, b11⟩ := hB
  obtain ⟨p1, p2, p3, p4, p5, p6, p7⟩ := hP
  by_cases d1 : I1 1 = 1
  · have e1 : sX7_stop J = (1, upd (upd (upd (upd J 0 0) 21 2) 23 (I1 3)) 31 (J 31 + 1)) := by
      unfold sX7_stop sX7_brakes
      rw [b1, if_pos d1, pk_un (show (21 : Nat) ≠ 0 by decide), b1, if_pos d1, pk_un (show (24 : Nat) ≠ 0 by decide), b4, ldk_half (by omega) (by omega), pk_un (show (31 : Nat) ≠ 0 by decide)]
    have e2 : sX6_stop I1 = (1, upd (upd (upd I1 1 2) 2 (I1 3)) 4 (I1 4 + 1)) := by
      unfold sX6_stop sX4_orderBrake; rw [if_pos d1]
    rw [e1, e2]
    dsimp only
    refine ⟨rfl, ldk_IV_mk n len ?_ ⟨⟨?_, ?_, b3, ?_, ?_, ?_, ?_, ?_⟩, ?_, ?_, ?_⟩ (ldk_eC_of hC (by rw [pk_un (by decide), pk_un (by decide), pk_un (by decide), pk_un (by decide)]) rfl rfl) (ldk_eD_of hD (by rw [pk_un (by decide), pk_un (by decide), pk_un (by decide), pk_un (by decide)])) ⟨p1, p2, p3, p4, p5, p6, ?_⟩ h6 h7 hPP ht ?_ hz hs ?_⟩
    · refine ldk_eA_of hA ?_ ?_ ?_ ?_ ?_ ?_ <;> (rw [pk_un (by decide), pk_un (by decide), pk_un (by decide), pk_un (by decide)])
    · rw [pk_un (by decide), pk_un (by decide), pk_us, pk_un (by decide), pk_un (by decide), pk_us]
    · rw [pk_us, pk_us, b2]
    · rw [pk_un (by decide), pk_un (by decide), pk_un (by decide), pk_un (by decide), pk_un (by decide), pk_un (by decide), pk_un (by decide)]; exact b4
    · rw [pk_un (by decide), pk_un (by decide), pk_un (by decide)]; exact b5
    · rw [pk_un (show (21 : Nat) ≠ 31 by decide), pk_un (show (21 : Nat) ≠ 23 by decide), pk_us, if_pos rfl, pk_un (show (2 : Nat) ≠ 4 by decide), pk_us, pk_un (show (23 : Nat) ≠ 31 by decide), pk_us]
    · rw [pk_un (by decide), pk_un (by decide), pk_us]; exact Or.inr (Or.inr rfl)
    · rw [pk_un (show (23 : Nat) ≠ 31 by decide), pk_us]; exact fun _ => ⟨by omega, by omega⟩
    · rw [pk_un (by decide), pk_un (by decide), pk_un (by decide), pk_un (by decide), pk_un (by decide), pk_un (by decide), pk_un (by decide)]; exact b9
    · rw [pk_un (by decide), pk_un (by decide), pk_un (by decide), pk_un (by decide)]; exact b10
    · rw [pk_un (show (23 : Nat) ≠ 31 by decide), pk_us]; exact fun _ => by omega
    · intro _; exact p7 (by rw [b1, d1]; decide)
    · rw [pk_un (by decide), pk_un (by decide), pk_un (by decide), pk_un (by decide)]; exact h2
    · rw [pk_un (by decide), pk_un (by decide), pk_un (by decide), pk_un (by decide)]; exact h9
  · have e1 : sX7_stop J = (0, upd J 0 0) := by unfold sX7_stop; rw [b1, if_neg d1]
    have e2 : sX6_stop I1 = (0, I1) := by unfold sX6_stop sX4_orderBrake; rw [if_neg d1]
    rw [e1, e2]; exact ⟨rfl, ldk_IV_0 hI⟩
theorem ldk_c_weft (a : Int32) (ha : a = 0 ∨ a = 1) (h : ldk_IV S0 (I, L, I1, L1, I2, L2, c0, c1, c2, I3, m0, m1, I4, L4) A It t0 (J, M, g0, g1, g2, q39, q40, q41) Q xr f1) :
    (sX6_weft I a).1 = (sX7_weft J a).1 ∧ ldk_IV S0 ((sX6_weft I a).2, L, I1, L1, I2, L2, c0, c1, c2, I3, m0, m1, I4, L4) A It t0 ((sX7_weft J a).2, M, g0, g1, g2, q39, q40, q41) Q xr f1 := by
  have hI := h
  obtain ⟨n, len, ⟨hA, hB, hC, hD, hP, h6, h7⟩, hPP, ht, h2, hz, hs, h9⟩ := h
  dsimp only at hA hB hC hD hP h6 h7 h2 h9
  obtain ⟨a1, a2, a3, a4, a5, a6, a7, a8⟩ := hA
  unfold sX6_weft sX7_weft
  rw [a6]
  by_cases d1 : I 11 = 0
  · rw [if_pos d1, if_pos d1]; exact ⟨rfl, ldk_IV_0 hI⟩
  · rw [if_neg d1, if_neg d1]
    have u : ∀ k, k ≠ 0 → k ≠ 29 → upd (upd J 0 0) 29 a k = J k := fun k z1 z2 => by rw [pk_un z2, pk_un z1]
    dsimp only
    refine ⟨rfl, ldk_IV_mk n len ⟨?_, ?_, ?_, ?_, ?_, ?_, ?_, ?_⟩ ?_ (ldk_eC_of hC (u 38 (by decide) (by decide)) rfl rfl) (ldk_eD_of hD (u 42 (by decide) (by decide))) ?_ h6 h7 hPP ht ?_ hz hs ?_⟩
    · rw [u 26 (by decide) (by decide), pk_un (by decide)]; exact a1
    · rw [u 27 (by decide) (by decide), pk_un (by decide)]; exact a2
    · rw [u 28 (by decide) (by decide), pk_un (by decide)]; exact a3
    · rw [u 30 (by decide) (by decide), pk_un (by decide)]; exact a4
    · rw [pk_us, pk_us]
    · rw [u 20 (by decide) (by decide), pk_un (by decide)]; exact a6
    · rw [pk_us]; exact ha
    · rw [pk_un (by decide)]; exact a8
    · unfold ldk_eB ldk_eB0 at hB ⊢
      rw [u 21 (by decide) (by decide), u 22 (by decide) (by decide), u 23 (by decide) (by decide), u 24 (by decide) (by decide), u 31 (by decide) (by decide)]; exact hB
    · rw [u 21 (by decide) (by decide)]; exact hP
    · rw [u 2 (by decide) (by decide)]; exact h2
    · rw [u 9 (by decide) (by decide)]; exact h9
theorem ldk_c_jump (a : Int64) (h : ldk_IV S0 (I, L, I1, L1, I2, L2, c0, c1, c2, I3, m0, m1, I4, L4) A It t0 (J, M, g0, g1, g2, q39, q40, q41) Q xr f1) :
    (sX6_jump I L I1 L4 a).1 = (sX7_jump J M a).1 ∧ ldk_IV S0 (I, (sX6_jump I L I1 L4 a).2, I1, L1, I2, L2, c0, c1, c2, I3, m0, m1, I4, L4) A It t0 ((sX7_jump J M a).2.1, (sX7_jump J M a).2.2, g0, g1, g2, q39, q40, q41) Q xr f1 := by
  have hI := h
  obtain ⟨n, len, ⟨hA, hB, hC, hD, hP, h6, h7⟩, hPP, ht, h2, hz, hs, h9⟩ := h
  dsimp only at hA hB hC hD hP h6 h7 h2 h9
  have hA' := hA
  have hB' := hB
  obtain ⟨a1, a2, a3, a4, a5, a6, a7, a8⟩ := hA
  obtain ⟨⟨b1, b2, b3, b4, b5, b6, b7, b8⟩, b9, b10, b11⟩ := hB
  obtain ⟨p1, p2, p3, p4, p5, p6, p7⟩ := hP
  have no : sX7_jump J M a = (0, upd J 0 0, M) → sX6_jump I L I1 L4 a = (0, L) → (sX6_jump I L I1 L4 a).1 = (sX7_jump J M a).1 ∧ ldk_IV S0 (I, (sX6_jump I L I1 L4 a).2, I1, L1, I2, L2, c0, c1, c2, I3, m0, m1, I4, L4) A It t0 ((sX7_jump J M a).2.1, (sX7_jump J M a).2.2, g0, g1, g2, q39, q40, q41) Q xr f1 := fun e1 e2 => by
    rw [e1, e2]; exact ⟨rfl, ldk_IV_0 hI⟩
  have s0 : I1 1 = 0 → sX4_stands I1 = 1 := fun z => by unfold sX4_stands; rw [if_pos z]
  have s1 : ¬ I1 1 = 0 → sX4_stands I1 = 0 := fun z => by unfold sX4_stands; rw [if_neg z]
  have e7 : sX7_jump J M a = if I1 1 = 0 then (if (480 : Int32) ≤ I1 0 then (0, upd J 0 0, M) else if a < 0 then (0, upd J 0 0, M) else if len ≤ a then (0, upd J 0 0, M) else if I 11 = 0 then (0, upd J 0 0, M) else (1, upd J 0 0, vp_updL M 25 a)) else (0, upd J 0 0, M) := by
    unfold sX7_jump; rw [a6, b1, b9, p2]
  have e6 : sX6_jump I L I1 L4 a = if I 11 = 0 then (0, L) else if sX4_stands I1 = 0 then (0, L) else if (480 : Int32) ≤ I1 0 then (0, L) else if (if a < 0 then (0 : Int32) else if len ≤ a then 0 else 1) = 0 then (0, L) else (1, vp_updL L 5 a) := by
    unfold sX6_jump sX1_has; rw [h7]
  by_cases d1 : I 11 = 0
  · refine no ?_ (e6.trans (if_pos d1))
    rw [e7, if_pos d1]
    repeat' split
    all_goals rfl
  by_cases d2 : I1 1 = 0
  · by_cases d3 : (480 : Int32) ≤ I1 0
    · refine no ?_ ?_
      · rw [e7, if_pos d2, if_pos d3]
      · rw [e6, if_neg d1, s0 d2, if_neg (by decide), if_pos d3]
    · by_cases d4 : a < 0
      · refine no ?_ ?_
        · rw [e7, if_pos d2, if_neg d3, if_pos d4]
        · rw [e6, if_neg d1, s0 d2, if_neg (by decide), if_neg d3, if_pos d4, if_pos rfl]
      · by_cases d5 : len ≤ a
        · refine no ?_ ?_
          · rw [e7, if_pos d2, if_neg d3, if_neg d4, if_pos d5]
          · rw [e6, if_neg d1, s0 d2, if_neg (by decide), if_neg d3, if_neg d4, if_pos d5, if_pos rfl]
        · clear no
          have f7 : sX7_jump J M a = (1, upd J 0 0, vp_updL M 25 a) := by rw [e7, if_pos d2, if_neg d3, if_neg d4, if_neg d5, if_neg d1]
          have f6 : sX6_jump I L I1 L4 a = (1, vp_updL L 5 a) := by rw [e6, if_neg d1, s0 d2, if_neg (by decide), if_neg d3, if_neg d4, if_neg d5, if_neg (by decide)]
          rw [f7, f6]
          dsimp only
          rw [Int64.lt_iff_toInt_lt, ldk_T0] at d4
          rw [Int64.le_iff_toInt_le] at d5
          refine ⟨rfl, ldk_IV_0 (ldk_IV_mk n len hA' ?_ (ldk_eC_of hC rfl (pk_uLn (show (33 : Nat) ≠ 25 by decide)) (pk_uLn (show (32 : Nat) ≠ 25 by decide))) hD ⟨?_, ?_, ?_, ?_, p5, p6, p7⟩ h6 h7 hPP ht h2 hz hs h9)⟩
          · unfold ldk_eB ldk_eB0 at hB' ⊢
            rw [pk_uLn (show (34 : Nat) ≠ 25 by decide)]; exact hB'
          · rw [pk_uLs, pk_uLs]
          · rw [pk_uLn (by decide)]; exact p2
          · rw [pk_uLs]; omega
          · rw [pk_uLs]; intro _; omega
  · refine no ?_ ?_
    · rw [e7, if_neg d2]
    · rw [e6, if_neg d1, s1 d2, if_pos rfl]
theorem ldk_c_speed (a : UInt32) (hn : FP.Core.fIsNaN a = false) (h : ldk_IV S0 (I, L, I1, L1, I2, L2, c0, c1, c2, I3, m0, m1, I4, L4) A It t0 (J, M, g0, g1, g2, q39, q40, q41) Q xr f1) :
    (sX6_speed I1 a).1 = (sX7_speed J a).1 ∧ ldk_IV S0 (I, L, (sX6_speed I1 a).2, L1, I2, L2, c0, c1, c2, I3, m0, m1, I4, L4) A It t0 ((sX7_speed J a).2, M, g0, g1, g2, q39, q40, q41) Q xr f1 := by
  have hI := h
  obtain ⟨n, len, ⟨hA, hB, hC, hD, hP, h6, h7⟩, hPP, ht, h2, hz, hs, h9⟩ := h
  dsimp only at hA hB hC hD hP h6 h7 h2 h9
  obtain ⟨⟨b1, b2, b3, b4, b5, b6, b7, b8⟩, b9, b10, b11⟩ := hB
  unfold sX7_speed sX6_speed sX4_stands
  rw [b1]
  by_cases d2 : I1 1 = 0
  · rw [if_pos d2, if_neg (by decide), if_pos d2]
    by_cases d3 : Op.cmpValue (FP.fcmp a 1114636288) .l < 0
    · rw [if_pos d3, if_pos d3]; exact ⟨rfl, ldk_IV_0 hI⟩
    · rw [if_neg d3, if_neg d3]
      by_cases d4 : Op.cmpValue (FP.fcmp a 1133903872) .g ≤ 0
      · rw [if_pos d4, if_pos d4]
        have rg := ldk_rngf hn d3 d4
        generalize FP.f2i (FP.fmul a 1090519040) = v at rg ⊢
        have u : ∀ k, k ≠ 0 → k ≠ 24 → upd (upd J 0 0) 24 (v * 2) k = J k := fun k z1 z2 => by rw [pk_un z2, pk_un z1]
        dsimp only
        refine ⟨rfl, ldk_IV_mk n len ?_ ⟨⟨?_, ?_, b3, ?_, ?_, ?_, ?_, ?_⟩, ?_, ?_, ?_⟩ (ldk_eC_of hC (u 38 (by decide) (by decide)) rfl rfl) (ldk_eD_of hD (u 42 (by decide) (by decide))) ?_ h6 h7 hPP ht ?_ hz hs ?_⟩
        · refine ldk_eA_of hA ?_ ?_ ?_ ?_ ?_ ?_ <;> exact u _ (by decide) (by decide)
        · rw [u 21 (by decide) (by decide), pk_un (by decide)]; exact b1
        · rw [u 31 (by decide) (by decide), pk_un (by decide)]; exact b2
        · rw [pk_us, pk_us]
        · rw [pk_us]; exact rg
        · rw [pk_un (by decide), u 21 (by decide) (by decide), u 23 (by decide) (by decide)]; exact b6
        · rw [u 21 (by decide) (by decide)]; exact b7
        · rw [u 21 (by decide) (by decide), u 23 (by decide) (by decide)]; exact b8
        · rw [u 22 (by decide) (by decide), pk_un (by decide)]; exact b9
        · rw [u 22 (by decide) (by decide)]; exact b10
        · rw [u 21 (by decide) (by decide), u 23 (by decide) (by decide)]; exact b11
        · rw [u 21 (by decide) (by decide)]; exact hP
        · rw [u 2 (by decide) (by decide)]; exact h2
        · rw [u 9 (by decide) (by decide)]; exact h9
      · rw [if_neg d4, if_neg d4]; exact ⟨rfl, ldk_IV_0 hI⟩
  · rw [if_neg d2, if_pos rfl, if_neg d2]; exact ⟨rfl, ldk_IV_0 hI⟩
end LDKW1
