/-! ===== the calls, one by one (cut, on, and what is only told) ===== -/
section LDKW2
variable {S0 : Int} {I : Nat → Int32} {L : Nat → Int64} {I1 : Nat → Int32} {L1 : Nat → Int64} {I2 : Nat → Int32} {L2 : Nat → Int64} {c0 c1 c2 I3 m0 : Nat → Int32} {m1 : Nat → Int64} {I4 : Nat → Int32} {L4 : Nat → Int64} {A : LdkA} {It t0 : Nat → Int32} {J : Nat → Int32} {M : Nat → Int64} {g0 g1 g2 q39 q40 : Nat → Int32} {q41 : Nat → Int64} {Q : LdkQ} {xr : LdkR} {f1 : Nat → Int32} {len : Int64}
theorem ldk_eC_fg {J' : Nat → Int32} (h : ldk_eC S0 I2 L2 c0 c1 c2 J M g0 g1 g2) (e : J' 38 = 0) : ldk_eC S0 (sX0_forget I2) L2 c0 c1 c2 J' M g0 g1 g2 := by
  obtain ⟨nx, K, k1, k2, k3, k4, k5, k6, k7, k8, k9, k10, k11⟩ := h
  have hq := ldk_qs_pos (g := g2) K (fun j hj => by have := k9 j hj; omega)
  unfold sX0_forget
  refine ⟨nx, 0, k1, by omega, by rw [pk_un (by decide)]; exact k3, by rw [pk_us]; rfl, by rw [e]; rfl, k6, k7, fun i hi => by omega, fun j hj => by omega, ?_, k11⟩
  show (0 : Int) ≤ (L2 6).toInt
  omega
theorem ldk_c_cut (a : Int32) (h : ldk_IV S0 (I, L, I1, L1, I2, L2, c0, c1, c2, I3, m0, m1, I4, L4) A It t0 (J, M, g0, g1, g2, q39, q40, q41) Q xr f1) :
    (sX6_cut I I1 I2 I3 m0 a).1 = (sX7_cut J q39 a).1 ∧ ldk_IV S0 ((sX6_cut I I1 I2 I3 m0 a).2.1, L, (sX6_cut I I1 I2 I3 m0 a).2.2.1, L1, (sX6_cut I I1 I2 I3 m0 a).2.2.2.1, L2, c0, c1, c2, I3, (sX6_cut I I1 I2 I3 m0 a).2.2.2.2, m1, I4, L4) A It t0 ((sX7_cut J q39 a).2.1, M, g0, g1, g2, (sX7_cut J q39 a).2.2, q40, q41) Q xr f1 := by
  have hI := h
  obtain ⟨n, len, ⟨hA, hB, hC, hD, hP, h6, h7⟩, hPP, ht, h2, hz, hs, h9⟩ := h
  dsimp only at hA hB hC hD hP h6 h7 h2 h9
  obtain ⟨a1, a2, a3, a4, a5, a6, a7, a8⟩ := hA
  obtain ⟨⟨b1, b2, b3, b4, b5, b6, b7, b8⟩, b9, b10, b11⟩ := hB
  obtain ⟨p1, p2, p3, p4, p5, p6, p7⟩ := hP
  by_cases d1 : I 11 = 0
  · have e7 : sX7_cut J q39 a = (0, upd J 0 0, q39) := by unfold sX7_cut; rw [a6, if_pos d1]
    have e6 : sX6_cut I I1 I2 I3 m0 a = (0, I, I1, I2, m0) := by unfold sX6_cut; rw [if_pos d1]
    rw [e7, e6]; exact ⟨rfl, ldk_IV_0 hI⟩
  · have main : ∀ (q39' m0' : Nat → Int32), ldk_eD len I3 m0' m1 J q39' q40 q41 → ldk_IV S0 (upd (upd (upd (upd (upd I 6 0) 7 0) 8 0) 10 0) 11 0, L, sX4_stand I1, L1, sX0_forget I2, L2, c0, c1, c2, I3, m0', m1, I4, L4) A It t0 (upd (upd (upd (upd (upd (upd (upd (upd J 0 0) 20 0) 21 0) 26 0) 27 0) 28 0) 29 0) 38 0, M, g0, g1, g2, q39', q40, q41) Q xr f1 := by
      intro q39' m0' hD'
      have w0 : ∀ v : Nat, v = 20 ∨ v = 21 ∨ v = 26 ∨ v = 27 ∨ v = 28 ∨ v = 29 ∨ v = 38 → upd (upd (upd (upd (upd (upd (upd (upd J 0 0) 20 0) 21 0) 26 0) 27 0) 28 0) 29 0) 38 0 v = 0 := by
        intro v hv; rcases hv with z | z | z | z | z | z | z <;> subst z <;> rfl
      have w1 : ∀ v : Nat, v ≠ 0 → v ≠ 20 → v ≠ 21 → v ≠ 26 → v ≠ 27 → v ≠ 28 → v ≠ 29 → v ≠ 38 → upd (upd (upd (upd (upd (upd (upd (upd J 0 0) 20 0) 21 0) 26 0) 27 0) 28 0) 29 0) 38 0 v = J v := by
        intro v z0 z1 z2 z3 z4 z5 z6 z7
        rw [pk_un z7, pk_un z6, pk_un z5, pk_un z4, pk_un z3, pk_un z2, pk_un z1, pk_un z0]
      generalize upd (upd (upd (upd (upd (upd (upd (upd J 0 0) 20 0) 21 0) 26 0) 27 0) 28 0) 29 0) 38 0 = K at w0 w1 ⊢
      have v20 := w0 20 (by decide)
      have v21 := w0 21 (by decide)
      have v26 := w0 26 (by decide)
      have v27 := w0 27 (by decide)
      have v28 := w0 28 (by decide)
      have v29 := w0 29 (by decide)
      have v38 := w0 38 (by decide)
      have v22 := w1 22 (by decide) (by decide) (by decide) (by decide) (by decide) (by decide) (by decide) (by decide)
      have v24 := w1 24 (by decide) (by decide) (by decide) (by decide) (by decide) (by decide) (by decide) (by decide)
      have v30 := w1 30 (by decide) (by decide) (by decide) (by decide) (by decide) (by decide) (by decide) (by decide)
      have v31 := w1 31 (by decide) (by decide) (by decide) (by decide) (by decide) (by decide) (by decide) (by decide)
      have v42 := w1 42 (by decide) (by decide) (by decide) (by decide) (by decide) (by decide) (by decide) (by decide)
      have v2 := w1 2 (by decide) (by decide) (by decide) (by decide) (by decide) (by decide) (by decide) (by decide)
      have v9 := w1 9 (by decide) (by decide) (by decide) (by decide) (by decide) (by decide) (by decide) (by decide)
      refine ldk_IV_mk n len ⟨?_, ?_, ?_, ?_, ?_, ?_, ?_, ?_⟩ ⟨⟨?_, ?_, b3, ?_, ?_, ?_, ?_, ?_⟩, ?_, ?_, ?_⟩ (ldk_eC_fg hC v38) (ldk_eD_of hD' v42) ⟨p1, p2, p3, p4, p5, p6, ?_⟩ h6 h7 hPP ht (v2.trans h2) hz hs (v9.trans h9)
      · rw [v26]; rfl
      · rw [v27]; rfl
      · rw [v28]; rfl
      · rw [v30, pk_un (by decide), pk_un (by decide), pk_un (by decide), pk_un (by decide), pk_un (by decide)]; exact a4
      · rw [v29]; rfl
      · rw [v20]; rfl
      · exact Or.inl rfl
      · exact Or.inl rfl
      · rw [v21]; rfl
      · rw [v31]; unfold sX4_stand; rw [pk_un (by decide), pk_un (by decide)]; exact b2
      · rw [v24]; unfold sX4_stand; rw [pk_un (by decide), pk_un (by decide)]; exact b4
      · unfold sX4_stand; rw [pk_un (by decide), pk_un (by decide)]; exact b5
      · rw [v21, if_neg (by decide)]; rfl
      · exact Or.inl v21
      · rw [v21]; exact fun z => absurd z (by decide)
      · rw [v22]; unfold sX4_stand; rw [pk_un (by decide), pk_un (by decide)]; exact b9
      · rw [v22]; exact b10
      · rw [v21]; exact fun z => absurd z (by decide)
      · exact fun z => absurd v21 z
    by_cases d2 : a = 0
    · have e7 : sX7_cut J q39 a = (1, upd (upd (upd (upd (upd (upd (upd (upd J 0 0) 20 0) 21 0) 26 0) 27 0) 28 0) 29 0) 38 0, q39) := by unfold sX7_cut; rw [a6, if_neg d1, if_pos d2]
      have e6 : sX6_cut I I1 I2 I3 m0 a = (1, upd (upd (upd (upd (upd I 6 0) 7 0) 8 0) 10 0) 11 0, sX4_stand I1, sX0_forget I2, m0) := by unfold sX6_cut; rw [if_neg d1, if_pos d2]
      rw [e7, e6]; exact ⟨rfl, main q39 m0 hD⟩
    · have e7 : sX7_cut J q39 a = (1, upd (upd (upd (upd (upd (upd (upd (upd J 0 0) 20 0) 21 0) 26 0) 27 0) 28 0) 29 0) 38 0, upd q39 (J 42).toNatClampNeg 0) := by unfold sX7_cut; rw [a6, if_neg d1, if_neg d2]
      have e6 : sX6_cut I I1 I2 I3 m0 a = (1, upd (upd (upd (upd (upd I 6 0) 7 0) 8 0) 10 0) 11 0, sX4_stand I1, sX0_forget I2, upd m0 (I3 2).toNatClampNeg (-1)) := by unfold sX6_cut sX3_spoilLast; rw [if_neg d1, if_neg d2]
      rw [e7, e6]
      refine ⟨rfl, main (upd q39 (J 42).toNatClampNeg 0) (upd m0 (I3 2).toNatClampNeg (-1)) ?_⟩
      obtain ⟨x1, x2, x3⟩ := hD
      refine ⟨x1, x2, fun r hr => ?_⟩
      rw [x2]
      by_cases q : r = (I3 2).toNatClampNeg
      · rw [q, pk_us, pk_us]; exact Or.inl ⟨rfl, rfl⟩
      · rw [pk_un q, pk_un q]; exact x3 r hr
theorem ldk_rec (hD : ldk_eD len I3 m0 m1 J q39 q40 q41) : ∃ r : Int32, sX3_newest I3 m0 = r ∧ (if q39 (J 42).toNatClampNeg = 0 then (if q39 ((1 : Int32) - J 42).toNatClampNeg = 0 then (-1 : Int32) else ((1 : Int32) - J 42)) else J 42) = r ∧ (r = -1 ∨ ((r = 0 ∨ r = 1) ∧ ((m0 r.toNatClampNeg = 300 ∧ q40 r.toNatClampNeg = 1) ∨ (m0 r.toNatClampNeg = 0 ∧ q40 r.toNatClampNeg = 0)) ∧ m1 r.toNatClampNeg = q41 r.toNatClampNeg ∧ 0 ≤ (q41 r.toNatClampNeg).toInt ∧ (q41 r.toNatClampNeg).toInt < len.toInt)) := by
  obtain ⟨h1, h2, h3⟩ := hD
  have key : ∀ w v : Int32, (w = 0 ∨ w = 1) → (v = 0 ∨ v = 1) → ∃ r : Int32, (if m0 w.toNatClampNeg = -1 then (if m0 v.toNatClampNeg = -1 then (-1 : Int32) else v) else w) = r ∧ (if q39 w.toNatClampNeg = 0 then (if q39 v.toNatClampNeg = 0 then (-1 : Int32) else v) else w) = r ∧ (r = -1 ∨ ((r = 0 ∨ r = 1) ∧ ((m0 r.toNatClampNeg = 300 ∧ q40 r.toNatClampNeg = 1) ∨ (m0 r.toNatClampNeg = 0 ∧ q40 r.toNatClampNeg = 0)) ∧ m1 r.toNatClampNeg = q41 r.toNatClampNeg ∧ 0 ≤ (q41 r.toNatClampNeg).toInt ∧ (q41 r.toNatClampNeg).toInt < len.toInt)) := by
    intro w v hw hv
    have lw : w.toNatClampNeg ≤ 1 := by rcases hw with z | z <;> subst z <;> decide
    have lv : v.toNatClampNeg ≤ 1 := by rcases hv with z | z <;> subst z <;> decide
    have ne : ∀ {y : Int32}, y = 300 ∨ y = 0 → ¬ y = -1 := fun z => by rcases z with z | z <;> rw [z] <;> decide
    rcases h3 _ lw with ⟨e1, e2⟩ | ⟨e1, e2, e3⟩
    · rcases h3 _ lv with ⟨y1, y2⟩ | ⟨y1, y2, y3⟩
      · exact ⟨-1, by rw [if_pos e1, if_pos y1], by rw [if_pos e2, if_pos y2], Or.inl rfl⟩
      · exact ⟨v, by rw [if_pos e1, if_neg (ne (y2.elim (fun z => Or.inl z.1) (fun z => Or.inr z.1)))], by rw [if_pos e2, if_neg (by rw [y1]; decide)], Or.inr ⟨hv, y2, y3⟩⟩
    · exact ⟨w, by rw [if_neg (ne (e2.elim (fun z => Or.inl z.1) (fun z => Or.inr z.1)))], by rw [if_neg (by rw [e1]; decide)], Or.inr ⟨hw, e2, e3⟩⟩
  unfold sX3_newest sX3_other
  rw [h2]
  rcases h1 with z | z
  · rw [z, if_pos rfl]; exact key 0 1 (Or.inl rfl) (Or.inr rfl)
  · rw [z, if_neg (show ¬ (1 : Int32) = 0 by decide)]; exact key 1 0 (Or.inr rfl) (Or.inl rfl)
theorem ldk_on_eq (hD : ldk_eD len I3 m0 m1 J q39 q40 q41) (h20 : J 20 = 0) (h22 : J 22 = I1 0) (h10 : M 10 = len) (h7 : L4 7 = len) (hl0 : 0 ≤ len.toInt) (hl : len.toInt ≤ 2000000000) :
    sX7_on J M q39 q40 q41 = (1, upd (upd (upd J 0 0) 20 1) 28 (if I1 0 < 1440 then (0 : Int32) else (1 : Int32)), vp_updL M 25 (sX6_recall I1 I3 m0 m1 L4)) ∧ 0 ≤ (sX6_recall I1 I3 m0 m1 L4).toInt ∧ (0 < len.toInt → (sX6_recall I1 I3 m0 m1 L4).toInt < len.toInt) := by
  obtain ⟨r, e1, e2, e3⟩ := ldk_rec hD
  unfold sX7_on sX6_recall
  rw [if_pos h20, h22, h10, e1, e2]
  rcases e3 with z | ⟨z1, z2, z3, z4, z5⟩
  · rw [if_pos z, if_pos z, if_pos z]
    exact ⟨rfl, by decide, fun q => by rw [ldk_T0]; exact q⟩
  · have nr : ¬ r = -1 := by rcases z1 with z | z <;> subst z <;> decide
    have em : sX3_markOf m0 r = m0 r.toNatClampNeg := by
      unfold sX3_markOf; rcases z1 with z | z <;> subst z <;> rfl
    have ep : sX3_placeOf m1 r = q41 r.toNatClampNeg := by
      rw [← z3]; unfold sX3_placeOf; rcases z1 with z | z <;> subst z <;> rfl
    rw [if_neg nr, if_neg nr, if_neg nr, em, ep]
    generalize r.toNatClampNeg = k at *
    generalize q41 k = pl at *
    obtain ⟨y1, y2, y3⟩ := ldk_beh (L4 := L4) (p := pl) z4 (by rw [h7]; exact z5) (by rw [h7]; exact hl)
    rw [h7] at y1 y3
    rcases z2 with ⟨x1, x2⟩ | ⟨x1, x2⟩
    · rw [x1, x2, if_pos rfl, if_neg (show ¬ (1 : Int32) = 0 by decide)]
      by_cases d : (4800 : Int32) ≤ I1 0
      · rw [if_pos d, if_pos d, if_pos rfl]
        exact ⟨rfl, z4, fun _ => z5⟩
      · rw [if_neg d, if_neg d, if_neg (show ¬ (1 : Int32) = 0 by decide)]
        refine ⟨?_, y2, fun _ => y3⟩
        rw [y1]
        by_cases d2 : pl + 1 = len
        · rw [if_pos d2, if_pos d2]
        · rw [if_neg d2, if_neg d2]
    · rw [x1, x2, if_pos rfl, if_neg (show ¬ (0 : Int32) = 300 by decide), if_pos rfl]
      exact ⟨rfl, z4, fun _ => z5⟩
theorem ldk_c_on (h : ldk_IV S0 (I, L, I1, L1, I2, L2, c0, c1, c2, I3, m0, m1, I4, L4) A It t0 (J, M, g0, g1, g2, q39, q40, q41) Q xr f1) :
    (sX6_on I L I1 I3 m0 m1 L4).1 = (sX7_on J M q39 q40 q41).1 ∧ ldk_IV S0 ((sX6_on I L I1 I3 m0 m1 L4).2.1, (sX6_on I L I1 I3 m0 m1 L4).2.2, I1, L1, I2, L2, c0, c1, c2, I3, m0, m1, I4, L4) A It t0 ((sX7_on J M q39 q40 q41).2.1, (sX7_on J M q39 q40 q41).2.2, g0, g1, g2, q39, q40, q41) Q xr f1 := by
  have hI := h
  obtain ⟨n, len, ⟨hA, hB, hC, hD, hP, h6, h7⟩, hPP, ht, h2, hz, hs, h9⟩ := h
  dsimp only at hA hB hC hD hP h6 h7 h2 h9
  obtain ⟨a1, a2, a3, a4, a5, a6, a7, a8⟩ := hA
  have hB' := hB
  obtain ⟨⟨b1, b2, b3, b4, b5, b6, b7, b8⟩, b9, b10, b11⟩ := hB
  obtain ⟨p1, p2, p3, p4, p5, p6, p7⟩ := hP
  by_cases d1 : I 11 = 0
  · obtain ⟨e7, r0, r1⟩ := ldk_on_eq (I1 := I1) (M := M) (L4 := L4) hD (a6.trans d1) b9 p2 h7 p5 p6
    have e6 : sX6_on I L I1 I3 m0 m1 L4 = (1, upd (upd I 8 (if I1 0 < 1440 then (0 : Int32) else (1 : Int32))) 11 1, vp_updL L 5 (sX6_recall I1 I3 m0 m1 L4)) := by
      unfold sX6_on; rw [if_pos d1]
      by_cases d2 : I1 0 < 1440
      · rw [if_pos d2, if_pos d2]
      · rw [if_neg d2, if_neg d2]
    rw [e7, e6]
    dsimp only
    generalize (if I1 0 < 1440 then (0 : Int32) else (1 : Int32)) = pk
    generalize sX6_recall I1 I3 m0 m1 L4 = rc at r0 r1 ⊢
    have w1 : ∀ v : Nat, v ≠ 0 → v ≠ 20 → v ≠ 28 → upd (upd (upd J 0 0) 20 1) 28 pk v = J v := fun v x1 x2 x3 => by rw [pk_un x3, pk_un x2, pk_un x1]
    have v20 : upd (upd (upd J 0 0) 20 1) 28 pk 20 = 1 := by rw [pk_un (by decide), pk_us]
    have v28 : upd (upd (upd J 0 0) 20 1) 28 pk 28 = pk := pk_us ..
    generalize upd (upd (upd J 0 0) 20 1) 28 pk = K at w1 v20 v28 ⊢
    have v21 := w1 21 (by decide) (by decide) (by decide)
    refine ⟨rfl, ldk_IV_mk n len ⟨?_, ?_, ?_, ?_, ?_, ?_, ?_, ?_⟩ ?_ (ldk_eC_of hC (w1 38 (by decide) (by decide) (by decide)) (pk_uLn (show (33 : Nat) ≠ 25 by decide)) (pk_uLn (show (32 : Nat) ≠ 25 by decide))) (ldk_eD_of hD (w1 42 (by decide) (by decide) (by decide))) ⟨?_, ?_, ?_, ?_, p5, p6, ?_⟩ h6 h7 hPP ht ((w1 2 (by decide) (by decide) (by decide)).trans h2) hz hs ((w1 9 (by decide) (by decide) (by decide)).trans h9)⟩
    · rw [w1 26 (by decide) (by decide) (by decide), pk_un (by decide), pk_un (by decide)]; exact a1
    · rw [w1 27 (by decide) (by decide) (by decide), pk_un (by decide), pk_un (by decide)]; exact a2
    · rw [v28, pk_un (by decide), pk_us]
    · rw [w1 30 (by decide) (by decide) (by decide), pk_un (by decide), pk_un (by decide)]; exact a4
    · rw [w1 29 (by decide) (by decide) (by decide), pk_un (by decide), pk_un (by decide)]; exact a5
    · rw [v20, pk_us]
    · rw [pk_un (by decide), pk_un (by decide)]; exact a7
    · exact Or.inr (pk_us ..)
    · unfold ldk_eB ldk_eB0 at hB' ⊢
      rw [v21, w1 22 (by decide) (by decide) (by decide), w1 23 (by decide) (by decide) (by decide), w1 24 (by decide) (by decide) (by decide), w1 31 (by decide) (by decide) (by decide), pk_uLn (show (34 : Nat) ≠ 25 by decide)]; exact hB'
    · rw [pk_uLs, pk_uLs]
    · rw [pk_uLn (by decide)]; exact p2
    · rw [pk_uLs]; exact r0
    · rw [pk_uLs]; exact r1
    · rw [v21]; exact p7
  · have e7 : sX7_on J M q39 q40 q41 = (0, upd J 0 0, M) := by unfold sX7_on; rw [if_neg (by rw [a6]; exact d1)]
    have e6 : sX6_on I L I1 I3 m0 m1 L4 = (0, I, L) := by unfold sX6_on; rw [if_neg d1]
    rw [e7, e6]; exact ⟨rfl, ldk_IV_0 hI⟩
end LDKW2
