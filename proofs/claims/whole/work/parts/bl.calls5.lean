/-! ===== the calls, one by one (turn, compile) ===== -/
section LDKW5
variable {f3 f4 f5 f6 f7 : Nat → Int32} {f8 : Nat → Int64} {j : Nat}
theorem ldk_comesK (hj : j < 20) (J : Nat → Int32) (M : Nat → Int64) (q35 q36 q37 q39 q40 : Nat → Int32) (q41 : Nat → Int64) (a : Int32) : (sX7_comes J M f3 f4 f5 f6 f7 f8 q35 q36 q37 q39 q40 q41 a).1 j = J j := by
  have hb : ∀ K : Nat → Int32, sX7_brakes K j = K j := fun K => by
    unfold sX7_brakes; split
    · rw [pk_un (by omega), pk_un (by omega), pk_un (by omega)]
    · rfl
  have hu : (sX7_beatUp J M f3 f4 f5 f6 f7 f8 q35 q36 q37).1 j = J j := by
    unfold sX7_beatUp ldk_bu; split <;> (dsimp only; rw [pk_un (by omega)])
  unfold sX7_comes
  split
  · dsimp only; rw [pk_un (by omega)]
  · split
    · split
      · dsimp only; rw [pk_un (by omega), pk_un (by omega)]
      · dsimp only
        rw [pk_un (by omega), hb, pk_un (by omega)]
    · split
      · unfold sX7_record; dsimp only; rw [pk_un (by omega), pk_un (by omega)]
      · split
        · unfold sX7_record; dsimp only
          rw [pk_un (by omega), pk_un (by omega), pk_un (by omega), hu]
        · unfold sX7_record; dsimp only; rw [pk_un (by omega), pk_un (by omega), pk_un (by omega)]
theorem ldk_tSK (hj : j < 20) {y : LdkT} {r : Int32} : (ldk_tS f3 f4 f5 f6 f7 f8 r y).1 j = y.1 j := by
  have hA : (ldk_tA f3 f4 f5 f6 f7 f8 r y).1 j = y.1 j := by unfold ldk_tA; dsimp only; rw [pk_un (by omega), ldk_comesK hj, pk_un (by omega), pk_un (by omega)]
  have hB : (ldk_tB r y).1 j = y.1 j := by unfold ldk_tB; dsimp only; rw [pk_un (by omega), pk_un (by omega), pk_un (by omega)]
  unfold ldk_tS
  repeat (first | exact hA | exact hB | split)
theorem ldk_tFK (hj : j < 20) : ∀ (n : Nat) (r g : Int32) (y : LdkT), (ldk_tF f3 f4 f5 f6 f7 f8 n r g y).2.2.1 j = y.1 j := by
  intro n
  induction n with
  | zero => intro r g y; rfl
  | succ n ih =>
    intro r g y
    rw [ldk_tF]
    split
    · rfl
    · split
      · rfl
      · rw [ih]; exact ldk_tSK hj
theorem ldk_ms64 {a r : Int} (h0 : 0 ≤ a) (h1 : a < 5760) (h2 : 0 ≤ r) (h3 : r ≤ 57600) : ldk_ms a r < ((64 : Nat) : Int) := by
  have hmi : ∀ a : Int, 0 ≤ ldk_mi a ∧ ldk_mi a ≤ 3 := fun a => by unfold ldk_mi; repeat (first | omega | split)
  have m1 := hmi a
  have m2 := hmi ((a + r) % 5760)
  unfold ldk_ms
  omega
end LDKW5
section LDKW6
variable {S0 : Int} {I : Nat → Int32} {L : Nat → Int64} {I1 : Nat → Int32} {L1 : Nat → Int64} {I2 : Nat → Int32} {L2 : Nat → Int64} {c0 c1 c2 I3 m0 : Nat → Int32} {m1 : Nat → Int64} {I4 : Nat → Int32} {L4 : Nat → Int64} {A : LdkA} {It t0 : Nat → Int32} {J : Nat → Int32} {M : Nat → Int64} {g0 g1 g2 q39 q40 : Nat → Int32} {q41 : Nat → Int64} {Q : LdkQ} {xr : LdkR} {f1 : Nat → Int32}
theorem ldk_c_turn (a : UInt64) (hn : FP.Core.dIsNaN a = false) (hS : S0 + 12800 ≤ 1000000000000) (h : ldk_IV S0 (I, L, I1, L1, I2, L2, c0, c1, c2, I3, m0, m1, I4, L4) A It t0 (J, M, g0, g1, g2, q39, q40, q41) Q xr f1) :
    sX6_tth I I1 a = ldk_th J a ∧ (sX7_turn J M Q.1 Q.2.1 Q.2.2 xr.1 xr.2.1 xr.2.2 g0 g1 g2 q39 q40 q41 a).2.1 0 = ldk_th J a ∧ (ldk_th J a ≤ 0 → ldk_tOK Q.1 Q.2.1 Q.2.2 xr.1 xr.2.1 xr.2.2 ((ldk_r0 a).toNatClampNeg + 1) (ldk_r0 a) (upd J 0 (ldk_th J a), M, g0, g1, g2, q39, q40, q41)) ∧
    (¬ ldk_th J a = 0 → ldk_IV S0 (I, L, I1, L1, I2, L2, c0, c1, c2, I3, m0, m1, I4, L4) A It t0 (sX7_turn J M Q.1 Q.2.1 Q.2.2 xr.1 xr.2.1 xr.2.2 g0 g1 g2 q39 q40 q41 a).2 Q xr f1) ∧
    (ldk_th J a = 0 → sX6_degrees (sX6_goForwards I L I1 L1 I2 L2 c0 c1 c2 I3 m0 m1 I4 L4 A.1 A.2.1 A.2.2.1 A.2.2.2.1 A.2.2.2.2.1 A.2.2.2.2.2 (sX6_sixteenths a)).1 = (sX7_turn J M Q.1 Q.2.1 Q.2.2 xr.1 xr.2.1 xr.2.2 g0 g1 g2 q39 q40 q41 a).1 ∧ ldk_IV (S0 + 12800) (sX6_goForwards I L I1 L1 I2 L2 c0 c1 c2 I3 m0 m1 I4 L4 A.1 A.2.1 A.2.2.1 A.2.2.2.1 A.2.2.2.2.1 A.2.2.2.2.2 (sX6_sixteenths a)).2 A It t0 (sX7_turn J M Q.1 Q.2.1 Q.2.2 xr.1 xr.2.1 xr.2.2 g0 g1 g2 q39 q40 q41 a).2 Q xr f1) := by
  have hI := h
  obtain ⟨n, len, hrel, hPP, ht, h2, hz, hs, h9⟩ := h
  have hrel' := hrel
  obtain ⟨hA, hB, hC, hD, hP, h6, h7⟩ := hrel
  dsimp only at hA hB hC hD hP h6 h7 h2 h9
  have a6 : J 20 = I 11 := hA.2.2.2.2.2.1
  have b1 : J 21 = I1 1 := hB.1.1
  have b10 : 0 ≤ (J 22).toInt ∧ (J 22).toInt < 5760 := hB.2.2.1
  have s0 : I1 1 = 0 → sX4_stands I1 = 1 := fun z => by unfold sX4_stands; rw [if_pos z]
  have s1 : ¬ I1 1 = 0 → sX4_stands I1 = 0 := fun z => by unfold sX4_stands; rw [if_neg z]
  have et : sX6_tth I I1 a = ldk_th J a := by
    unfold sX6_tth ldk_th ldk_st ldk_bd
    rw [a6, b1]
    by_cases d1 : I 11 = 0
    · rw [if_pos d1, if_pos d1]
      by_cases d2 : I1 1 = 0
      · rw [if_pos d2, if_neg (by decide)]
      · rw [if_neg d2, if_neg (by decide)]
    · rw [if_neg d1, if_neg d1]
      by_cases d2 : I1 1 = 0
      · rw [if_pos d2, s0 d2, if_neg (show ¬ (1 : Int32) = 0 by decide), if_neg (show ¬ (1 : Int32) = 0 by decide)]
      · rw [if_neg d2, s1 d2, if_pos rfl, if_pos rfl]
        by_cases d4 : Op.cmpValue (FP.dcmp a FP.dconst0) .l < 0
        · rw [if_pos d4, if_pos d4, if_neg (by decide)]
        · rw [if_neg d4, if_neg d4]
          by_cases d5 : Op.cmpValue (FP.dcmp a (4660134898793709568 : UInt64)) .g ≤ 0
          · rw [if_pos d5, if_pos d5, if_pos rfl]
          · rw [if_neg d5, if_neg d5, if_neg (by decide)]
  refine ⟨et, ?_⟩
  by_cases d : ldk_th J a = 0
  · have hb : ldk_bd a = 0 := by
      unfold ldk_th at d
      by_cases z : ldk_st J = 0
      · rw [if_pos z] at d
        by_cases z2 : ldk_bd a = 0
        · exact z2
        · rw [if_neg z2] at d; exact absurd d (by decide)
      · rw [if_neg z] at d; exact absurd d (by decide)
    have hr : 0 ≤ (FP.d2i (FP.dmul a 4620693217682128896)).toInt ∧ (FP.d2i (FP.dmul a 4620693217682128896)).toInt ≤ 28800 := by
      unfold ldk_bd at hb
      by_cases d4 : Op.cmpValue (FP.dcmp a FP.dconst0) .l < 0
      · rw [if_pos d4] at hb; exact absurd hb (by decide)
      · rw [if_neg d4] at hb
        by_cases d5 : Op.cmpValue (FP.dcmp a (4660134898793709568 : UInt64)) .g ≤ 0
        · exact ldk_rng3600 hn d4 d5
        · rw [if_neg d5] at hb; exact absurd hb (by decide)
    have e2 := ldk_r0d hr.1 hr.2 (by decide)
    have er0 : 0 ≤ (ldk_r0 a).toInt := by unfold ldk_r0; rw [e2]; omega
    have er1 : (ldk_r0 a).toInt ≤ 57600 := by unfold ldk_r0; rw [e2]; omega
    have er : sX6_sixteenths a = ldk_r0 a := rfl
    have key := ldk_fway (ldk_PP_pT hPP).1 64 ((ldk_r0 a).toNatClampNeg + 1) (ldk_r0 a) 0 (I, L, I1, L1, I2, L2, c0, c1, c2, I3, m0, m1, I4, L4) (upd J 0 0, M, g0, g1, g2, q39, q40, q41) S0 (ldk_rel_J hrel' (fun k k1 _ => pk_un (by omega))) (by omega) (by omega) er0 (by decide) (by rw [ldk_t0']; omega) (by
      have e : (ldk_r0 a).toNatClampNeg = (ldk_r0 a).toInt.toNat := rfl
      rw [e]; omega) (fun _ => by dsimp only; rw [pk_un (show (22 : Nat) ≠ 0 by decide)]; exact ldk_ms64 b10.1 b10.2 er0 er1)
    have kp : ∀ {j : Nat}, j < 20 → (ldk_tF Q.1 Q.2.1 Q.2.2 xr.1 xr.2.1 xr.2.2 ((ldk_r0 a).toNatClampNeg + 1) (ldk_r0 a) 0 (upd J 0 0, M, g0, g1, g2, q39, q40, q41)).2.2.1 j = upd J 0 0 j := fun hj => ldk_tFK hj _ _ _ _
    have e7 : sX7_turn J M Q.1 Q.2.1 Q.2.2 xr.1 xr.2.1 xr.2.2 g0 g1 g2 q39 q40 q41 a = (FP.ddiv (FP.i2d (ldk_tF Q.1 Q.2.1 Q.2.2 xr.1 xr.2.1 xr.2.2 ((ldk_r0 a).toNatClampNeg + 1) (ldk_r0 a) 0 (upd J 0 0, M, g0, g1, g2, q39, q40, q41)).2.1) (4625196817309499392 : UInt64), (ldk_tF Q.1 Q.2.1 Q.2.2 xr.1 xr.2.1 xr.2.2 ((ldk_r0 a).toNatClampNeg + 1) (ldk_r0 a) 0 (upd J 0 0, M, g0, g1, g2, q39, q40, q41)).2.2) := by
      unfold sX7_turn ldk_tZ; rw [d]; exact if_pos (by decide)
    rw [er, e7, d]
    unfold sX6_goForwards
    obtain ⟨k1, k2, ⟨k3, k4⟩, k5, k6⟩ := key
    generalize ldk_tF Q.1 Q.2.1 Q.2.2 xr.1 xr.2.1 xr.2.2 ((ldk_r0 a).toNatClampNeg + 1) (ldk_r0 a) 0 (upd J 0 0, M, g0, g1, g2, q39, q40, q41) = B at k1 k2 k3 k4 k5 kp ⊢
    generalize gF A.1 A.2.1 A.2.2.1 A.2.2.2.1 A.2.2.2.2.1 A.2.2.2.2.2 64 (ldk_r0 a) (I, L, I1, L1, I2, L2, c0, c1, c2, I3, m0, m1, I4, L4) = G at k1 k5 ⊢
    refine ⟨by dsimp only; rw [kp (by decide), pk_us], fun _ => k6, fun z => absurd rfl z, fun _ => ⟨?_, n, len, ?_, hPP, ht, ?_, hz, hs, ?_⟩⟩
    · have : ldk_r0 a - G.1 = B.2.1 := by
        rw [ldk_eq, k2, ldk_is (by rw [k1]; omega) (by rw [k1]; omega), k1, ldk_t0']; omega
      dsimp only
      unfold sX6_degrees
      rw [this]
    · rw [show S0 + 200 * ((64 : Nat) : Int) = S0 + 12800 by omega] at k5; exact k5
    · dsimp only; rw [kp (by decide), pk_un (by decide)]; exact h2
    · dsimp only; rw [kp (by decide), pk_un (by decide)]; exact h9
  · have dn : ¬ ldk_th J a ≤ 0 := by
      unfold ldk_th at d ⊢
      by_cases z : ldk_st J = 0
      · rw [if_pos z] at d ⊢
        by_cases z2 : ldk_bd a = 0
        · rw [if_pos z2] at d; exact absurd rfl d
        · rw [if_neg z2]; decide
      · rw [if_neg z]; decide
    have e7 : sX7_turn J M Q.1 Q.2.1 Q.2.2 xr.1 xr.2.1 xr.2.2 g0 g1 g2 q39 q40 q41 a = (FP.dconst0, upd J 0 (ldk_th J a), M, g0, g1, g2, q39, q40, q41) := by
      unfold sX7_turn; exact if_neg dn
    rw [e7]
    exact ⟨by dsimp only; rw [pk_us], fun z => absurd z dn, fun _ => ldk_IV_0 hI, fun z => absurd z d⟩
/-- compile: the pattern stays, or the reader's goal comes in its place -/
theorem ldk_c_comp {R R0 : Nat → Nat} {I0 IG : Nat → Int32} {LG : Nat → Int64} {b0 b1 b2 : Nat → Int32} {b3 : Nat → Int64} {b4 b5 r5 : Nat → Int32} {r6 : Nat → Int64} {r7 r8 f11 f12 f13 f16 f17 : Nat → Int32}
    {C : Int32 × (Nat → Nat) × (Nat → Int64) × (Nat → Nat) × (Nat → Int32) × (Nat → Int32) × (Nat → Int32) × (Nat → Int64) × (Nat → Int32) × (Nat → Int32) × (Nat → Int32) × (Nat → Int64) × (Nat → Int32) × (Nat → Int32) × (Nat → Int32) × (Nat → Int64) × (Nat → Int32) × (Nat → Int32) × (Nat → Int32)}
    {E : Int32 × (Nat → Int32) × (Nat → Int64) × (Nat → Int32) × (Nat → Int32) × (Nat → Int32) × (Nat → Int32) × (Nat → Int32) × (Nat → Int64) × (Nat → Int32) × (Nat → Int32) × (Nat → Int32) × (Nat → Int32) × (Nat → Int32) × (Nat → Int32)}
    (h : ldk_IV S0 (I, L, I1, L1, I2, L2, c0, c1, c2, I3, m0, m1, I4, L4) A It t0 (J, M, g0, g1, g2, q39, q40, q41) Q xr f1)
    (hC : C = sX6_compile R I L I1 R0 I0 It t0 IG LG b0 b1 b2 b3 b4 b5 r5 r6 r7 r8 m0) (hE : E = sX7_compile J M f1 Q.1 Q.2.1 Q.2.2 xr.1 xr.2.1 xr.2.2 f11 f12 f13 f16 f17 q39) :
    C.1 = E.1 ∧ ldk_cmOK J f1 Q.1 Q.2.1 Q.2.2 xr.1 xr.2.1 M xr.2.2 f11 f12 f13 f16 f17 ∧
    ((C.2.1 = R ∧ C.2.2.2.1 = R0 ∧ ldk_IV S0 (I, C.2.2.1, I1, L1, I2, L2, c0, c1, c2, I3, C.2.2.2.2.2.2.2.2.2.2.2.2.2.2.2.2.2.2, m1, I4, L4) A C.2.2.2.2.2.1 t0 (E.2.1, E.2.2.1, g0, g1, g2, E.2.2.2.2.2.2.2.2.2.2.2.2.2.2, q40, q41) (E.2.2.2.1, E.2.2.2.2.1, E.2.2.2.2.2.1) (E.2.2.2.2.2.2.1, E.2.2.2.2.2.2.2.1, E.2.2.2.2.2.2.2.2.1) f1) ∨
     (C.2.1 = va_up R 4 (R0 1) ∧ C.2.2.2.1 = va_up R0 1 (R 4) ∧ ldk_IV S0 (I, C.2.2.1, I1, L1, I2, L2, c0, c1, c2, I3, C.2.2.2.2.2.2.2.2.2.2.2.2.2.2.2.2.2.2, m1, C.2.2.2.2.2.2.1, C.2.2.2.2.2.2.2.1) (C.2.2.2.2.2.2.2.2.1, C.2.2.2.2.2.2.2.2.2.1, C.2.2.2.2.2.2.2.2.2.2.1, C.2.2.2.2.2.2.2.2.2.2.2.1, C.2.2.2.2.2.2.2.2.2.2.2.2.1, C.2.2.2.2.2.2.2.2.2.2.2.2.2.1) C.2.2.2.2.2.1 t0 (E.2.1, E.2.2.1, g0, g1, g2, E.2.2.2.2.2.2.2.2.2.2.2.2.2.2, q40, q41) (E.2.2.2.1, E.2.2.2.2.1, E.2.2.2.2.2.1) (E.2.2.2.2.2.2.1, E.2.2.2.2.2.2.2.1, E.2.2.2.2.2.2.2.2.1) f1)) := by
  have hI := h
  obtain ⟨n, len, ⟨hA, hB, hC', hD, hP, h6, h7⟩, hPP, ht, h2, hz, hs, h9⟩ := h
  dsimp only at hA hB hC' hD hP h6 h7 h2 h9
  subst ht
  have a6 : J 20 = I 11 := hA.2.2.2.2.2.1
  have b1' : J 21 = I1 1 := hB.1.1
  obtain ⟨p1, p2, p3, p4, p5, p6, p7⟩ := hP
  have s0 : I1 1 = 0 → sX4_stands I1 = 1 := fun z => by unfold sX4_stands; rw [if_pos z]
  have s1 : ¬ I1 1 = 0 → sX4_stands I1 = 0 := fun z => by unfold sX4_stands; rw [if_neg z]
  obtain ⟨hok, J', M', k3, k4, k5, k6, k7, k8, k11, k12, k13, k16, k17, x1, x2, x3, x4⟩ := ldk_comp (I0 := It) (f := f1) (I2 := I0) (IG := IG) (LG := LG) (b0 := b0) (b1 := b1) (b2 := b2) (b3 := b3) (b4 := b4) (b5 := b5) (r5 := r5) (r6 := r6) (r7 := r7) (r8 := r8) (J := J) (f11 := f11) (f12 := f12) (f13 := f13) (f16 := f16) (f17 := f17) (f39 := q39) (M := M) (A := A) (f3 := Q.1) (f4 := Q.2.1) (f5 := Q.2.2) (f6 := xr.1) (f7 := xr.2.1) (f8 := xr.2.2) hz hs h2 hPP h9 p2 rfl
  by_cases d1 : I 11 = 0
  · have f6 : C = (-1, R, L, R0, I0, It, IG, LG, b0, b1, b2, b3, b4, b5, r5, r6, r7, r8, m0) := by rw [hC]; unfold sX6_compile; rw [if_pos d1]
    have f7 : E = (-1, upd J 0 0, M, Q.1, Q.2.1, Q.2.2, xr.1, xr.2.1, xr.2.2, f11, f12, f13, f16, f17, q39) := by
      rw [hE]; unfold sX7_compile
      by_cases d2 : J 21 = 0
      · rw [if_pos d2, if_pos (a6.trans d1)]
      · rw [if_neg d2]
    subst f6; subst f7
    exact ⟨rfl, hok, Or.inl ⟨rfl, rfl, ldk_IV_0 hI⟩⟩
  by_cases d2 : I1 1 = 0
  · have h20 : ¬ J 20 = 0 := by rw [a6]; exact d1
    have h21 : J 21 = 0 := b1'.trans d2
    rw [ldk_cmI_eq _ _ _ _ _ _ _ _ _ _ _ _ _ _ h21 h20] at hE
    have eC : C = if (sX2_read I0 It f1 IG LG b0 b1 b2 b3 b4 b5 r5 r6 r7 r8).1 = (-1 : Int32) then ((0 : Int32), va_up R 4 (R0 1), vp_updL L 5 0, va_up R0 1 (R 4), (sX2_read I0 It f1 IG LG b0 b1 b2 b3 b4 b5 r5 r6 r7 r8).2.1, (sX2_read I0 It f1 IG LG b0 b1 b2 b3 b4 b5 r5 r6 r7 r8).2.2.1, (sX2_read I0 It f1 IG LG b0 b1 b2 b3 b4 b5 r5 r6 r7 r8).2.2.2.1, (sX2_read I0 It f1 IG LG b0 b1 b2 b3 b4 b5 r5 r6 r7 r8).2.2.2.2.1, (sX2_read I0 It f1 IG LG b0 b1 b2 b3 b4 b5 r5 r6 r7 r8).2.2.2.2.2.1, (sX2_read I0 It f1 IG LG b0 b1 b2 b3 b4 b5 r5 r6 r7 r8).2.2.2.2.2.2.1, (sX2_read I0 It f1 IG LG b0 b1 b2 b3 b4 b5 r5 r6 r7 r8).2.2.2.2.2.2.2.1, (sX2_read I0 It f1 IG LG b0 b1 b2 b3 b4 b5 r5 r6 r7 r8).2.2.2.2.2.2.2.2.1, (sX2_read I0 It f1 IG LG b0 b1 b2 b3 b4 b5 r5 r6 r7 r8).2.2.2.2.2.2.2.2.2.1, (sX2_read I0 It f1 IG LG b0 b1 b2 b3 b4 b5 r5 r6 r7 r8).2.2.2.2.2.2.2.2.2.2.1, (sX2_read I0 It f1 IG LG b0 b1 b2 b3 b4 b5 r5 r6 r7 r8).2.2.2.2.2.2.2.2.2.2.2.1, (sX2_read I0 It f1 IG LG b0 b1 b2 b3 b4 b5 r5 r6 r7 r8).2.2.2.2.2.2.2.2.2.2.2.2.1, (sX2_read I0 It f1 IG LG b0 b1 b2 b3 b4 b5 r5 r6 r7 r8).2.2.2.2.2.2.2.2.2.2.2.2.2.1, (sX2_read I0 It f1 IG LG b0 b1 b2 b3 b4 b5 r5 r6 r7 r8).2.2.2.2.2.2.2.2.2.2.2.2.2.2, sX3_clear m0)
        else ((sX2_read I0 It f1 IG LG b0 b1 b2 b3 b4 b5 r5 r6 r7 r8).1 + 1, R, L, R0, (sX2_read I0 It f1 IG LG b0 b1 b2 b3 b4 b5 r5 r6 r7 r8).2.1, (sX2_read I0 It f1 IG LG b0 b1 b2 b3 b4 b5 r5 r6 r7 r8).2.2.1, (sX2_read I0 It f1 IG LG b0 b1 b2 b3 b4 b5 r5 r6 r7 r8).2.2.2.1, (sX2_read I0 It f1 IG LG b0 b1 b2 b3 b4 b5 r5 r6 r7 r8).2.2.2.2.1, (sX2_read I0 It f1 IG LG b0 b1 b2 b3 b4 b5 r5 r6 r7 r8).2.2.2.2.2.1, (sX2_read I0 It f1 IG LG b0 b1 b2 b3 b4 b5 r5 r6 r7 r8).2.2.2.2.2.2.1, (sX2_read I0 It f1 IG LG b0 b1 b2 b3 b4 b5 r5 r6 r7 r8).2.2.2.2.2.2.2.1, (sX2_read I0 It f1 IG LG b0 b1 b2 b3 b4 b5 r5 r6 r7 r8).2.2.2.2.2.2.2.2.1, (sX2_read I0 It f1 IG LG b0 b1 b2 b3 b4 b5 r5 r6 r7 r8).2.2.2.2.2.2.2.2.2.1, (sX2_read I0 It f1 IG LG b0 b1 b2 b3 b4 b5 r5 r6 r7 r8).2.2.2.2.2.2.2.2.2.2.1, (sX2_read I0 It f1 IG LG b0 b1 b2 b3 b4 b5 r5 r6 r7 r8).2.2.2.2.2.2.2.2.2.2.2.1, (sX2_read I0 It f1 IG LG b0 b1 b2 b3 b4 b5 r5 r6 r7 r8).2.2.2.2.2.2.2.2.2.2.2.2.1, (sX2_read I0 It f1 IG LG b0 b1 b2 b3 b4 b5 r5 r6 r7 r8).2.2.2.2.2.2.2.2.2.2.2.2.2.1, (sX2_read I0 It f1 IG LG b0 b1 b2 b3 b4 b5 r5 r6 r7 r8).2.2.2.2.2.2.2.2.2.2.2.2.2.2, m0) := by
      rw [hC]; unfold sX6_compile; rw [if_neg d1, s0 d2, if_neg (show ¬ (1 : Int32) = 0 by decide)]
    have eIt : (sX2_read I0 It f1 IG LG b0 b1 b2 b3 b4 b5 r5 r6 r7 r8).2.2.1 1 = 0 := by
      unfold sX2_read rTup sX5_clear; dsimp only; rw [pk_us]
    generalize sX2_read I0 It f1 IG LG b0 b1 b2 b3 b4 b5 r5 r6 r7 r8 = rd at x4 eC eIt
    have w1 : ∀ k, 20 ≤ k → k ≤ 42 → J' k = J k := fun k z1 z2 => x1 k (by omega) (by omega) (by omega) (by omega) (by omega) (by omega) (by omega) (by omega)
    have hA2 : ldk_eA I J' := ldk_eA_of hA (w1 26 (by decide) (by decide)) (w1 27 (by decide) (by decide)) (w1 28 (by decide) (by decide)) (w1 30 (by decide) (by decide)) (w1 29 (by decide) (by decide)) (w1 20 (by decide) (by decide))
    have hB2 : ldk_eB I1 L1 J' M' := by
      unfold ldk_eB ldk_eB0 at hB ⊢
      rw [w1 21 (by decide) (by decide), w1 22 (by decide) (by decide), w1 23 (by decide) (by decide), w1 24 (by decide) (by decide), w1 31 (by decide) (by decide), x3 34 (by decide) (by decide)]; exact hB
    have hC2 : ldk_eC S0 I2 L2 c0 c1 c2 J' M' g0 g1 g2 := ldk_eC_of hC' (w1 38 (by decide) (by decide)) (x3 33 (by decide) (by decide)) (x3 32 (by decide) (by decide))
    have e21 := w1 21 (by decide) (by decide)
    have hz2 : 0 ≤ (rd.2.2.1 1).toInt := by rw [eIt]; decide
    have hs2 : (rd.2.2.1 1).toInt ≤ 160 := by rw [eIt]; decide
    have h22 : J' 2 = rd.2.2.1 1 := by rw [eIt]; exact x2
    rcases x4 with ⟨y1, y2, y3, y4, y5, y6⟩ | ⟨y1, y2, n', len', y3, y4, y5, y6, y7, y8, y9⟩
    · rw [if_neg y1] at eC
      rw [y6] at hE
      subst eC; subst hE
      exact ⟨rfl, hok, Or.inl ⟨rfl, rfl, ldk_IV_mk n len hA2 hB2 hC2 (ldk_eD_of hD (w1 42 (by decide) (by decide))) ⟨by dsimp only; rw [y4]; exact p1, y3, p3, p4, p5, p6, by dsimp only; rw [e21]; exact p7⟩ h6 h7 y5 rfl h22 hz2 hs2 y2⟩⟩
    · rw [if_pos y1] at eC
      rw [y9] at hE
      subst eC; subst hE
      obtain ⟨-, l0, l1, -⟩ := ldk_PP_pT y8
      refine ⟨rfl, hok, Or.inr ⟨rfl, rfl, ldk_IV_mk n' len' hA2 hB2 hC2 ?_ ⟨by dsimp only; rw [y2, pk_uLs], y4, by dsimp only; rw [pk_uLs]; decide, fun z => by dsimp only; rw [pk_uLs, ldk_T0]; exact z, l0, l1, fun _ => y5⟩ y6 y7 y8 rfl h22 hz2 hs2 y3⟩⟩
      obtain ⟨u1, u2, u3⟩ := hD
      refine ⟨u1, (w1 42 (by decide) (by decide)).trans u2, fun r hr => Or.inl ?_⟩
      unfold sX3_clear
      dsimp only
      have hr' : r = 0 ∨ r = 1 := by omega
      rcases hr' with z | z <;> subst z <;> exact ⟨rfl, rfl⟩
  · have f6 : C = (-1, R, L, R0, I0, It, IG, LG, b0, b1, b2, b3, b4, b5, r5, r6, r7, r8, m0) := by rw [hC]; unfold sX6_compile; rw [if_neg d1, s1 d2, if_pos rfl]
    have f7 : E = (-1, upd J 0 0, M, Q.1, Q.2.1, Q.2.2, xr.1, xr.2.1, xr.2.2, f11, f12, f13, f16, f17, q39) := by
      rw [hE]; unfold sX7_compile
      rw [if_neg (by rw [b1']; exact d2)]
    subst f6; subst f7
    exact ⟨rfl, hok, Or.inl ⟨rfl, rfl, ldk_IV_0 hI⟩⟩
end LDKW6
