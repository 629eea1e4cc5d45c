/-! ===== the calls, one by one (findPick, back, turn) ===== -/
def sX6_bth (I I1 : Nat → Int32) (L4 : Nat → Int64) (a : UInt64) : Int32 := if I 11 = 0 then 1 else if sX4_stands I1 = 0 then 1 else if L4 7 = 0 then 1 else if Op.cmpValue (FP.dcmp a FP.dconst0) .l < 0 then 2 else if Op.cmpValue (FP.dcmp a (4652464705678344192 : UInt64)) .g ≤ 0 then 0 else 2
def sX6_tth (I I1 : Nat → Int32) (a : UInt64) : Int32 := if I 11 = 0 then 1 else if sX4_stands I1 = 0 then (if Op.cmpValue (FP.dcmp a FP.dconst0) .l < 0 then 2 else if Op.cmpValue (FP.dcmp a (4660134898793709568 : UInt64)) .g ≤ 0 then 0 else 2) else 1
def ldk_bst (J : Nat → Int32) (M : Nat → Int64) : Int32 := if J 21 = 0 then (if M 10 = (0 : Int64) then (1 : Int32) else (if J 20 = 0 then (1 : Int32) else (0 : Int32))) else (1 : Int32)
def ldk_bbd (a0 : UInt64) : Int32 := if Op.cmpValue (FP.dcmp a0 FP.dconst0) .l < 0 then (1 : Int32) else (if Op.cmpValue (FP.dcmp a0 (4652464705678344192 : UInt64)) .g ≤ 0 then (0 : Int32) else (1 : Int32))
def ldk_bth (J : Nat → Int32) (M : Nat → Int64) (a0 : UInt64) : Int32 := if ldk_bst J M = 0 then (if ldk_bbd a0 = 0 then (0 : Int32) else (2 : Int32)) else (1 : Int32)
theorem ldk_back_eq (J : Nat → Int32) (M : Nat → Int64) (g2 : Nat → Int32) (a0 : UInt64) : sX7_back J M g2 a0 = if ldk_bth J M a0 ≤ 0 then (FP.ddiv (FP.i2d ((sX7_goesBack (upd J 0 (ldk_bth J M a0)) M g2 (ldk_r0 a0)).1 22)) (4625196817309499392 : UInt64), sX7_goesBack (upd J 0 (ldk_bth J M a0)) M g2 (ldk_r0 a0)) else (FP.dconst0, upd J 0 (ldk_bth J M a0), M) := rfl
theorem ldk_r0d {x : Int32} {H : Int} (h0 : 0 ≤ x.toInt) (h1 : x.toInt ≤ H) (hH : H ≤ 100000) : (x * 2).toInt = x.toInt * 2 := by
  rw [ldk_im (by rw [ldk_t2']; omega) (by rw [ldk_t2']; omega), ldk_t2']
section LDKW4
variable {S0 : Int} {I : Nat → Int32} {L : Nat → Int64} {I1 : Nat → Int32} {L1 : Nat → Int64} {I2 : Nat → Int32} {L2 : Nat → Int64} {c0 c1 c2 I3 m0 : Nat → Int32} {m1 : Nat → Int64} {I4 : Nat → Int32} {L4 : Nat → Int64} {A : LdkA} {It t0 : Nat → Int32} {J : Nat → Int32} {M : Nat → Int64} {g0 g1 g2 q39 q40 : Nat → Int32} {q41 : Nat → Int64} {Q : LdkQ} {xr : LdkR} {f1 : Nat → Int32}
theorem ldk_gob {r : Int32} (hS : S0 ≤ 1000000000000) (h : ldk_IV S0 (I, L, I1, L1, I2, L2, c0, c1, c2, I3, m0, m1, I4, L4) A It t0 (J, M, g0, g1, g2, q39, q40, q41) Q xr f1) (h21 : J 21 = 0) (r0 : 0 ≤ r.toInt) (r1 : r.toInt ≤ 17280) (hz : 0 < (L4 7).toInt ∨ r.toInt ≤ (I1 0).toInt) :
    ldk_IV S0 ((sX6_goBackwards I L I1 L1 I2 L2 c2 L4 r).1, (sX6_goBackwards I L I1 L1 I2 L2 c2 L4 r).2.1, (sX6_goBackwards I L I1 L1 I2 L2 c2 L4 r).2.2.1, (sX6_goBackwards I L I1 L1 I2 L2 c2 L4 r).2.2.2.1, (sX6_goBackwards I L I1 L1 I2 L2 c2 L4 r).2.2.2.2.1, (sX6_goBackwards I L I1 L1 I2 L2 c2 L4 r).2.2.2.2.2, c0, c1, c2, I3, m0, m1, I4, L4) A It t0 ((sX7_goesBack J M g2 r).1, (sX7_goesBack J M g2 r).2, g0, g1, g2, q39, q40, q41) Q xr f1 ∧ (sX7_goesBack J M g2 r).1 22 = (sX6_goBackwards I L I1 L1 I2 L2 c2 L4 r).2.2.1 0 ∧ (∀ j, j ≠ 22 → j ≠ 28 → j ≠ 38 → (sX7_goesBack J M g2 r).1 j = J j) := by
  obtain ⟨n, len, ⟨hA, hB, hC, hD, hP, h6, h7⟩, hPP, ht, h2, hz', hs, h9⟩ := h
  dsimp only at hA hB hC hD hP h6 h7 h2 h9
  obtain ⟨hB0, b9, b10, b11⟩ := hB
  rw [h7] at hz
  have b10' := b10
  rw [b9] at b10'
  have ec : (I1 0 + 1).toInt = (I1 0).toInt + 1 := by rw [ldk_ia (by rw [ldk_t1']; omega) (by rw [ldk_t1']; omega), ldk_t1']
  have key := ldk_bway (S0 := S0) (f20 := c0) (f21 := c1) (f22 := c2) (g0 := g0) (g1 := g1) (g2 := g2) (L4 := L4) (len := len) hS h7 64 (r.toNatClampNeg + 2) r (I1 0 + 1) r (I, L, I1, L1, I2, L2) J M ⟨hA, hB0, hC, hP⟩ (by rw [b9, ec]; omega) (by rw [ec]; omega) (by rw [ec]; omega) (Or.inr ⟨by dsimp only; rw [ec]; omega, by omega⟩) (by dsimp only; rw [ec]; omega) r0 (by omega) (by
    have e : r.toNatClampNeg = r.toInt.toNat := rfl
    rw [e]; omega) hz
  unfold sX7_goesBack sX6_goBackwards
  generalize ldk_bF g2 (r.toNatClampNeg + 2) r J M = B at key ⊢
  generalize bF c2 L4 64 r (I1 0 + 1) (I, L, I1, L1, I2, L2) = G at key ⊢
  obtain ⟨⟨kA, kB, kC, kP⟩, k22, k0, k1, kk⟩ := key
  dsimp only
  have e21 : B.1 21 = 0 := (kk 21 (by decide) (by decide) (by decide)).trans h21
  refine ⟨ldk_IV_mk n len kA ⟨ldk_eB0_at _ kB, by rw [pk_us]; exact k22, ⟨k0, k1⟩, fun z => absurd (e21.symm.trans z) (by decide)⟩ kC (ldk_eD_of hD (kk 42 (by decide) (by decide) (by decide))) kP h6 h7 hPP ht ((kk 2 (by decide) (by decide) (by decide)).trans h2) hz' hs ((kk 9 (by decide) (by decide) (by decide)).trans h9), by rw [pk_us]; exact k22, kk⟩
theorem ldk_IVg (h : ldk_IV S0 (I, L, I1, L1, I2, L2, c0, c1, c2, I3, m0, m1, I4, L4) A It t0 (J, M, g0, g1, g2, q39, q40, q41) Q xr f1) : 0 ≤ (J 22).toInt ∧ ldk_cl (J 38) g2 ∧ (I3 2 = 0 ∨ I3 2 = 1) ∧ (J 42 = 0 ∨ J 42 = 1) ∧ (I4 6).toInt ≤ 80 ∧ 0 ≤ (J 2).toInt ∧ (J 2).toInt ≤ 160 ∧ (It 1).toInt ≤ 160 := by
  obtain ⟨n, len, ⟨hA, hB, hC, hD, hP, h6, h7⟩, hPP, ht, h2, hz', hs, h9⟩ := h
  dsimp only at hA hB hC hD hP h6 h7 h2 h9
  have hn := (ldk_PP_pT hPP).2.2.2
  refine ⟨hB.2.2.1.1, ldk_eC_cl hC, hD.1, by rw [hD.2.1]; exact hD.1, by rw [h6, nI_toInt (by omega)]; omega, by rw [h2]; exact hz', by rw [h2]; exact hs, hs⟩
theorem ldk_c_find (hS : S0 ≤ 1000000000000) (h : ldk_IV S0 (I, L, I1, L1, I2, L2, c0, c1, c2, I3, m0, m1, I4, L4) A It t0 (J, M, g0, g1, g2, q39, q40, q41) Q xr f1) :
    (sX6_findPick I L I1 L1 I2 L2 c2 L4).1 = (sX7_findPick J M g2).1 ∧ ldk_IV S0 ((sX6_findPick I L I1 L1 I2 L2 c2 L4).2.1, (sX6_findPick I L I1 L1 I2 L2 c2 L4).2.2.1, (sX6_findPick I L I1 L1 I2 L2 c2 L4).2.2.2.1, (sX6_findPick I L I1 L1 I2 L2 c2 L4).2.2.2.2.1, (sX6_findPick I L I1 L1 I2 L2 c2 L4).2.2.2.2.2.1, (sX6_findPick I L I1 L1 I2 L2 c2 L4).2.2.2.2.2.2, c0, c1, c2, I3, m0, m1, I4, L4) A It t0 ((sX7_findPick J M g2).2.1, (sX7_findPick J M g2).2.2, g0, g1, g2, q39, q40, q41) Q xr f1 := by
  have hI := h
  obtain ⟨n, len, ⟨hA, hB, hC, hD, hP, h6, h7⟩, hPP, ht, h2, hz, hs, h9⟩ := h
  dsimp only at hA hB hC hD hP h6 h7 h2 h9
  obtain ⟨a1, a2, a3, a4, a5, a6, a7, a8⟩ := hA
  obtain ⟨⟨b1, b2, b3, b4, b5, b6, b7, b8⟩, b9, b10, b11⟩ := hB
  have no : sX7_findPick J M g2 = (0, upd J 0 0, M) → sX6_findPick I L I1 L1 I2 L2 c2 L4 = (0, I, L, I1, L1, I2, L2) → (sX6_findPick I L I1 L1 I2 L2 c2 L4).1 = (sX7_findPick J M g2).1 ∧ ldk_IV S0 ((sX6_findPick I L I1 L1 I2 L2 c2 L4).2.1, (sX6_findPick I L I1 L1 I2 L2 c2 L4).2.2.1, (sX6_findPick I L I1 L1 I2 L2 c2 L4).2.2.2.1, (sX6_findPick I L I1 L1 I2 L2 c2 L4).2.2.2.2.1, (sX6_findPick I L I1 L1 I2 L2 c2 L4).2.2.2.2.2.1, (sX6_findPick I L I1 L1 I2 L2 c2 L4).2.2.2.2.2.2, c0, c1, c2, I3, m0, m1, I4, L4) A It t0 ((sX7_findPick J M g2).2.1, (sX7_findPick J M g2).2.2, g0, g1, g2, q39, q40, q41) Q xr f1 := fun e1 e2 => by
    rw [e1, e2]; exact ⟨rfl, ldk_IV_0 hI⟩
  have e7 : sX7_findPick J M g2 = if I1 1 = 0 then (if I 8 = 2 then (if I 11 = 0 then (0, upd J 0 0, M) else if I1 0 ≤ 960 then (1, upd J 0 0, M) else (1, sX7_goesBack (upd J 0 0) M g2 (I1 0 - 960))) else (0, upd J 0 0, M)) else (0, upd J 0 0, M) := by
    unfold sX7_findPick; rw [b1, a3, a6, b9]
  have e6 : sX6_findPick I L I1 L1 I2 L2 c2 L4 = if I 11 = 0 then (0, I, L, I1, L1, I2, L2) else if sX4_stands I1 = 0 then (0, I, L, I1, L1, I2, L2) else if I 8 = 2 then (if I1 0 ≤ 960 then (1, I, L, I1, L1, I2, L2) else (1, sX6_goBackwards I L I1 L1 I2 L2 c2 L4 (I1 0 - 960))) else (0, I, L, I1, L1, I2, L2) := by
    unfold sX6_findPick; rfl
  have s0 : I1 1 = 0 → sX4_stands I1 = 1 := fun z => by unfold sX4_stands; rw [if_pos z]
  have s1 : ¬ I1 1 = 0 → sX4_stands I1 = 0 := fun z => by unfold sX4_stands; rw [if_neg z]
  by_cases d1 : I 11 = 0
  · refine no ?_ (e6.trans (if_pos d1))
    rw [e7, if_pos d1]
    repeat' split
    all_goals rfl
  by_cases d2 : I1 1 = 0
  · by_cases d3 : I 8 = 2
    · by_cases d4 : I1 0 ≤ 960
      · have f7 : sX7_findPick J M g2 = (1, upd J 0 0, M) := by rw [e7, if_pos d2, if_pos d3, if_neg d1, if_pos d4]
        have f6 : sX6_findPick I L I1 L1 I2 L2 c2 L4 = (1, I, L, I1, L1, I2, L2) := by rw [e6, if_neg d1, s0 d2, if_neg (by decide), if_pos d3, if_pos d4]
        rw [f7, f6]; exact ⟨rfl, ldk_IV_0 hI⟩
      · have f7 : sX7_findPick J M g2 = (1, sX7_goesBack (upd J 0 0) M g2 (I1 0 - 960)) := by rw [e7, if_pos d2, if_pos d3, if_neg d1, if_neg d4]
        have f6 : sX6_findPick I L I1 L1 I2 L2 c2 L4 = (1, sX6_goBackwards I L I1 L1 I2 L2 c2 L4 (I1 0 - 960)) := by rw [e6, if_neg d1, s0 d2, if_neg (by decide), if_pos d3, if_neg d4]
        rw [Int32.le_iff_toInt_le, show (960 : Int32).toInt = 960 by decide] at d4
        rw [b9] at b10
        have er : (I1 0 - 960).toInt = (I1 0).toInt - 960 := by rw [ldk_is (by rw [show (960 : Int32).toInt = 960 by decide]; omega) (by rw [show (960 : Int32).toInt = 960 by decide]; omega), show (960 : Int32).toInt = 960 by decide]
        have g := ldk_gob (r := I1 0 - 960) hS (ldk_IV_0 (v := 0) hI) (by rw [pk_un (by decide), b1]; exact d2) (by rw [er]; omega) (by rw [er]; omega) (Or.inr (by rw [er]; omega))
        rw [f7, f6]; exact ⟨rfl, g.1⟩
    · refine no ?_ ?_
      · rw [e7, if_pos d2, if_neg d3]
      · rw [e6, if_neg d1, s0 d2, if_neg (by decide), if_neg d3]
  · refine no ?_ ?_
    · rw [e7, if_neg d2]
    · rw [e6, if_neg d1, s1 d2, if_pos rfl]
theorem ldk_c_back (a : UInt64) (hn : FP.Core.dIsNaN a = false) (hS : S0 ≤ 1000000000000) (h : ldk_IV S0 (I, L, I1, L1, I2, L2, c0, c1, c2, I3, m0, m1, I4, L4) A It t0 (J, M, g0, g1, g2, q39, q40, q41) Q xr f1) :
    sX6_bth I I1 L4 a = ldk_bth J M a ∧ (sX7_back J M g2 a).2.1 0 = ldk_bth J M a ∧ (¬ ldk_bth J M a = 0 → ldk_IV S0 (I, L, I1, L1, I2, L2, c0, c1, c2, I3, m0, m1, I4, L4) A It t0 ((sX7_back J M g2 a).2.1, (sX7_back J M g2 a).2.2, g0, g1, g2, q39, q40, q41) Q xr f1) ∧
    (ldk_bth J M a = 0 → sX6_degrees ((sX6_goBackwards I L I1 L1 I2 L2 c2 L4 (sX6_sixteenths a)).2.2.1 0) = (sX7_back J M g2 a).1 ∧ ldk_IV S0 ((sX6_goBackwards I L I1 L1 I2 L2 c2 L4 (sX6_sixteenths a)).1, (sX6_goBackwards I L I1 L1 I2 L2 c2 L4 (sX6_sixteenths a)).2.1, (sX6_goBackwards I L I1 L1 I2 L2 c2 L4 (sX6_sixteenths a)).2.2.1, (sX6_goBackwards I L I1 L1 I2 L2 c2 L4 (sX6_sixteenths a)).2.2.2.1, (sX6_goBackwards I L I1 L1 I2 L2 c2 L4 (sX6_sixteenths a)).2.2.2.2.1, (sX6_goBackwards I L I1 L1 I2 L2 c2 L4 (sX6_sixteenths a)).2.2.2.2.2, c0, c1, c2, I3, m0, m1, I4, L4) A It t0 ((sX7_back J M g2 a).2.1, (sX7_back J M g2 a).2.2, g0, g1, g2, q39, q40, q41) Q xr f1) := by
  have hI := h
  obtain ⟨n, len, ⟨hA, hB, hC, hD, hP, h6, h7⟩, hPP, ht, h2, hz, hs, h9⟩ := h
  dsimp only at hA hB hC hD hP h6 h7 h2 h9
  have a6 : J 20 = I 11 := hA.2.2.2.2.2.1
  have b1 : J 21 = I1 1 := hB.1.1
  have p2 : M 10 = len := hP.2.1
  have p5 : 0 ≤ len.toInt := hP.2.2.2.2.1
  have s0 : I1 1 = 0 → sX4_stands I1 = 1 := fun z => by unfold sX4_stands; rw [if_pos z]
  have s1 : ¬ I1 1 = 0 → sX4_stands I1 = 0 := fun z => by unfold sX4_stands; rw [if_neg z]
  have et : sX6_bth I I1 L4 a = ldk_bth J M a := by
    unfold sX6_bth ldk_bth ldk_bst ldk_bbd
    rw [h7, a6, b1, p2]
    by_cases d1 : I 11 = 0
    · rw [if_pos d1, if_pos d1]
      by_cases d2 : I1 1 = 0
      · rw [if_pos d2]
        by_cases d3 : len = 0
        · rw [if_pos d3, if_neg (by decide)]
        · rw [if_neg d3, if_neg (by decide)]
      · rw [if_neg d2, if_neg (by decide)]
    · rw [if_neg d1, if_neg d1]
      by_cases d2 : I1 1 = 0
      · rw [if_pos d2, s0 d2, if_neg (show ¬ (1 : Int32) = 0 by decide)]
        by_cases d3 : len = 0
        · rw [if_pos d3, if_pos d3, if_neg (by decide)]
        · rw [if_neg d3, if_neg d3, if_pos rfl]
          by_cases d4 : Op.cmpValue (FP.dcmp a FP.dconst0) .l < 0
          · rw [if_pos d4, if_pos d4, if_neg (by decide)]
          · rw [if_neg d4, if_neg d4]
            by_cases d5 : Op.cmpValue (FP.dcmp a (4652464705678344192 : UInt64)) .g ≤ 0
            · rw [if_pos d5, if_pos d5, if_pos rfl]
            · rw [if_neg d5, if_neg d5, if_neg (by decide)]
      · rw [if_neg d2, s1 d2, if_pos rfl, if_neg (by decide)]
  refine ⟨et, ?_⟩
  by_cases d : ldk_bth J M a = 0
  · have hb : ldk_bst J M = 0 ∧ ldk_bbd a = 0 := by
      unfold ldk_bth at d
      by_cases z : ldk_bst J M = 0
      · rw [if_pos z] at d
        by_cases z2 : ldk_bbd a = 0
        · exact ⟨z, z2⟩
        · rw [if_neg z2] at d; exact absurd d (by decide)
      · rw [if_neg z] at d; exact absurd d (by decide)
    have h21 : J 21 = 0 := by
      have z := hb.1
      unfold ldk_bst at z
      by_cases q : J 21 = 0
      · exact q
      · rw [if_neg q] at z; exact absurd z (by decide)
    have hl : 0 < (L4 7).toInt := by
      have z := hb.1
      unfold ldk_bst at z
      rw [if_pos h21, p2] at z
      by_cases q : len = 0
      · rw [if_pos q] at z; exact absurd z (by decide)
      · have : len.toInt ≠ 0 := fun y => q (ldk_Eq.mpr (y.trans ldk_T0.symm))
        rw [h7]; omega
    have hr : 0 ≤ (FP.d2i (FP.dmul a 4620693217682128896)).toInt ∧ (FP.d2i (FP.dmul a 4620693217682128896)).toInt ≤ 8640 := by
      have z := hb.2
      unfold ldk_bbd at z
      by_cases d4 : Op.cmpValue (FP.dcmp a FP.dconst0) .l < 0
      · rw [if_pos d4] at z; exact absurd z (by decide)
      · rw [if_neg d4] at z
        by_cases d5 : Op.cmpValue (FP.dcmp a (4652464705678344192 : UInt64)) .g ≤ 0
        · exact ldk_rng1080 hn d4 d5
        · rw [if_neg d5] at z; exact absurd z (by decide)
    have e2 := ldk_r0d hr.1 hr.2 (by decide)
    have er : sX6_sixteenths a = ldk_r0 a := rfl
    have g := ldk_gob (r := ldk_r0 a) hS (ldk_IV_0 (v := 0) hI) (by rw [pk_un (by decide)]; exact h21) (by unfold ldk_r0; rw [e2]; omega) (by unfold ldk_r0; rw [e2]; omega) (Or.inl hl)
    have e7 : sX7_back J M g2 a = (FP.ddiv (FP.i2d ((sX7_goesBack (upd J 0 0) M g2 (ldk_r0 a)).1 22)) (4625196817309499392 : UInt64), sX7_goesBack (upd J 0 0) M g2 (ldk_r0 a)) := by
      rw [ldk_back_eq, d]; exact if_pos (by decide)
    rw [er, e7]
    generalize sX7_goesBack (upd J 0 0) M g2 (ldk_r0 a) = B at g ⊢
    generalize sX6_goBackwards I L I1 L1 I2 L2 c2 L4 (ldk_r0 a) = G at g ⊢
    refine ⟨by dsimp only; rw [d, g.2.2 0 (by decide) (by decide) (by decide), pk_us], fun z => absurd d z, fun _ => ⟨?_, g.1⟩⟩
    unfold sX6_degrees; rw [← g.2.1]
  · have dn : ¬ ldk_bth J M a ≤ 0 := by
      unfold ldk_bth at d ⊢
      by_cases z : ldk_bst J M = 0
      · rw [if_pos z] at d ⊢
        by_cases z2 : ldk_bbd a = 0
        · rw [if_pos z2] at d; exact absurd rfl d
        · rw [if_neg z2]; decide
      · rw [if_neg z]; decide
    have e7 : sX7_back J M g2 a = (FP.dconst0, upd J 0 (ldk_bth J M a), M) := by
      rw [ldk_back_eq]; exact if_neg dn
    rw [e7]
    exact ⟨by dsimp only; rw [pk_us], fun _ => ldk_IV_0 hI, fun z => absurd z d⟩
end LDKW4
