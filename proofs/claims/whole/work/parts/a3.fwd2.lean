/-! ===== forwards: what comes at a mark, on both sides ===== -/
section LDKF
variable {f4_0 f4_1 f4_2 : Nat → Int32} {f4_3 : Nat → Int64} {f4_4 f4_5 f3 f4 f5 f6 f7 : Nat → Int32} {f8 : Nat → Int64} {z6 : Int32} {len : Int64} {S0 : Int}
theorem ldk_gs_m {x : GS} {r : Int32} (h : (sX4_goTowards x.2.2.1 (sX4_markAbove x.2.2.1) r).2 0 = sX4_markAbove x.2.2.1) :
    (gStep f4_0 f4_1 f4_2 f4_3 f4_4 f4_5 r x).2 = (fun c : GS => (c.1, c.2.1, sX4_standWhenSpent c.2.2.1, c.2.2.2)) (sX6_comeTo x.1 x.2.1 (sX4_goTowards x.2.2.1 (sX4_markAbove x.2.2.1) r).2 x.2.2.2.1 x.2.2.2.2.1 x.2.2.2.2.2.1 x.2.2.2.2.2.2.1 x.2.2.2.2.2.2.2.1 x.2.2.2.2.2.2.2.2.1 x.2.2.2.2.2.2.2.2.2.1 x.2.2.2.2.2.2.2.2.2.2.1 x.2.2.2.2.2.2.2.2.2.2.2.1 x.2.2.2.2.2.2.2.2.2.2.2.2.1 x.2.2.2.2.2.2.2.2.2.2.2.2.2 f4_0 f4_1 f4_2 f4_3 f4_4 f4_5 (sX4_markAbove x.2.2.1)) := by
  unfold gStep
  exact if_pos h
theorem ldk_gs_n {x : GS} {r : Int32} (h : ¬ (sX4_goTowards x.2.2.1 (sX4_markAbove x.2.2.1) r).2 0 = sX4_markAbove x.2.2.1) :
    (gStep f4_0 f4_1 f4_2 f4_3 f4_4 f4_5 r x).2 = (x.1, x.2.1, sX4_standWhenSpent (sX4_goTowards x.2.2.1 (sX4_markAbove x.2.2.1) r).2, x.2.2.2) := by
  unfold gStep
  exact if_neg h
/-- the insertion: the weft is in or broken; broken, the brake is ordered -/
theorem ldk_ins {I I1 J : Nat → Int32} {L1 M : Nat → Int64} (hA : ldk_eA I J) (hB : ldk_eB0 I1 L1 J M) (hm : ¬ J 21 = 0) :
    ldk_eA (sX6_insert I I1).1 (sX7_comes J M f3 f4 f5 f6 f7 f8 f3 f3 f3 f3 f3 f8 1440).1 ∧ ldk_eB0 (sX6_insert I I1).2 L1 (sX7_comes J M f3 f4 f5 f6 f7 f8 f3 f3 f3 f3 f3 f8 1440).1 M ∧ (sX6_insert I I1).2 0 = I1 0 ∧
    ((sX7_comes J M f3 f4 f5 f6 f7 f8 f3 f3 f3 f3 f3 f8 1440).1 21 = 2 ∧ (sX7_comes J M f3 f4 f5 f6 f7 f8 f3 f3 f3 f3 f3 f8 1440).1 23 = 0 ↔ J 21 = 2 ∧ J 23 = 0) ∧ ¬ (sX7_comes J M f3 f4 f5 f6 f7 f8 f3 f3 f3 f3 f3 f8 1440).1 21 = 0 ∧ (∀ k, k ≠ 21 → k ≠ 23 → k ≠ 31 → k ≠ 28 → k ≠ 29 → (sX7_comes J M f3 f4 f5 f6 f7 f8 f3 f3 f3 f3 f3 f8 1440).1 k = J k) := by
  obtain ⟨a1, a2, a3, a4, a5, a6, a7, a8⟩ := hA
  obtain ⟨b1, b2, b3, b4, b5, b6, b7, b8⟩ := hB
  unfold sX7_comes
  rw [if_neg (show ¬ (1440 : Int32) = 480 by decide), if_pos (show (1440 : Int32) = 1440 from rfl)]
  unfold sX6_insert
  rw [a5]
  by_cases h0 : I 10 = 0
  · rw [if_pos h0, if_pos h0, if_pos h0]
    dsimp only
    refine ⟨⟨?_, ?_, ?_, ?_, ?_, ?_, ?_, ?_⟩, ⟨?_, ?_, b3, ?_, b5, ?_, ?_, ?_⟩, rfl, ?_, ?_, fun k h1 h2 h3 h4 h5 => ?_⟩
    · simp [upd]; exact a1
    · simp [upd]; exact a2
    · simp [upd]
    · simp [upd]; exact a4
    · simp [upd]
    · simp [upd]; exact a6
    · simp [upd]
    · simp [upd]; exact a8
    · simp [upd]; exact b1
    · simp [upd]; exact b2
    · simp [upd]; exact b4
    · simp [upd]; exact b6
    · simp [upd]; exact b7
    · simp [upd]; exact b8
    · simp [upd]
    · simp [upd]; exact hm
    · rw [pk_un h5, pk_un h4]
  · rw [if_neg h0, if_neg h0, if_neg h0]
    dsimp only
    unfold sX7_brakes sX4_orderBrake
    rw [pk_un (show (21 : Nat) ≠ 28 by decide), ← b1]
    by_cases h1 : J 21 = 1
    · rw [if_pos h1, if_pos h1]
      have hh : J 24 / 2 = I1 3 := by rw [b4]; exact ldk_half (by omega) (by omega)
      dsimp only
      refine ⟨⟨?_, ?_, ?_, ?_, ?_, ?_, ?_, ?_⟩, ⟨?_, ?_, b3, ?_, ?_, ?_, ?_, ?_⟩, ?_, ?_, ?_, fun k h1 h2 h3 h4 h5 => ?_⟩
      · simp [upd]; exact a1
      · simp [upd]; exact a2
      · simp [upd]
      · simp [upd]; exact a4
      · simp [upd]
      · simp [upd]; exact a6
      · simp [upd]
      · simp [upd]; exact a8
      · simp [upd]
      · simp [upd]; rw [b2]
      · simp [upd]; exact b4
      · simp [upd]; exact b5
      · simp [upd]; exact hh.symm
      · simp [upd]
      · intro _
        have e : ∀ v : Int32, v = I1 3 → 0 ≤ v.toInt ∧ v.toInt ≤ 2400 := fun v hv => by rw [hv]; exact ⟨by omega, b5.2⟩
        exact e _ (by simp [upd]; exact hh)
      · simp [upd]
      · simp [upd]
        rw [hh, h1]
        refine ⟨fun z => ?_, fun z => absurd z.1 (by decide)⟩
        rw [ldk_eq, ldk_t0'] at z; omega
      · simp [upd]
      · rw [pk_un h5, pk_un h3, pk_un h2, pk_un h1, pk_un h4]
    · rw [if_neg h1, if_neg h1]
      dsimp only
      refine ⟨⟨?_, ?_, ?_, ?_, ?_, ?_, ?_, ?_⟩, ⟨?_, ?_, b3, ?_, b5, ?_, ?_, ?_⟩, rfl, ?_, ?_, fun k h1 h2 h3 h4 h5 => ?_⟩
      · simp [upd]; exact a1
      · simp [upd]; exact a2
      · simp [upd]
      · simp [upd]; exact a4
      · simp [upd]
      · simp [upd]; exact a6
      · simp [upd]
      · simp [upd]; exact a8
      · simp [upd]; exact b1
      · simp [upd]; exact b2
      · simp [upd]; exact b4
      · simp [upd]; exact b6
      · simp [upd]; exact b7
      · simp [upd]; exact b8
      · simp [upd]
      · simp [upd]; exact hm
      · rw [pk_un h5, pk_un h4]
/-- the end of a turn -/
theorem ldk_end (hp : ldk_pT f4_0 f4_1 f4_2 f4_3 f4_4 f4_5 f3 f4 f5 f6 f7 f8 z6 len) (hS : S0 ≤ 1000000000000) {I : Nat → Int32} {L : Nat → Int64} {I1 : Nat → Int32} {L1 : Nat → Int64} {I2 : Nat → Int32} {L2 : Nat → Int64} {f20 f21 f22 I3 f30 : Nat → Int32} {f31 : Nat → Int64} {I4 : Nat → Int32} {L4 : Nat → Int64} {J : Nat → Int32} {M : Nat → Int64} {q35 q36 q37 q39 q40 : Nat → Int32} {q41 : Nat → Int64} {y : LdkT} {x : GS}
    (hA : ldk_eA I J) (hC : ldk_eC S0 I2 L2 f20 f21 f22 J M q35 q36 q37) (hDr : ldk_eD len I3 f30 f31 J q39 q40 q41) (hPl : ldk_eP len L M (J 21)) (hm : ¬ J 21 = 0) (h34 : M 34 = L1 5) (h6 : I4 6 = z6) (h7 : L4 7 = len)
    (ey : y = sX7_comes J M f3 f4 f5 f6 f7 f8 q35 q36 q37 q39 q40 q41 5760) (ex : x = sX6_comeTo I L I1 L1 I2 L2 f20 f21 f22 I3 f30 f31 I4 L4 f4_0 f4_1 f4_2 f4_3 f4_4 f4_5 5760) :
    ldk_eA x.1 y.1 ∧ x.2.2.1 = upd I1 0 0 ∧ y.2.1 34 = x.2.2.2.1 5 ∧ ldk_eC (S0 + 200) x.2.2.2.2.1 x.2.2.2.2.2.1 x.2.2.2.2.2.2.1 x.2.2.2.2.2.2.2.1 x.2.2.2.2.2.2.2.2.1 y.1 y.2.1 y.2.2.1 y.2.2.2.1 y.2.2.2.2.1 ∧ ldk_eD len x.2.2.2.2.2.2.2.2.2.1 x.2.2.2.2.2.2.2.2.2.2.1 x.2.2.2.2.2.2.2.2.2.2.2.1 y.1 y.2.2.2.2.2.1 y.2.2.2.2.2.2.1 y.2.2.2.2.2.2.2 ∧ ldk_eP len x.2.1 y.2.1 (J 21) ∧ x.2.2.2.2.2.2.2.2.2.2.2.2.1 6 = z6 ∧ x.2.2.2.2.2.2.2.2.2.2.2.2.2 7 = len ∧ (∀ k, k ≠ 28 → k ≠ 30 → k ≠ 38 → k ≠ 42 → y.1 k = J k) := by
  obtain ⟨a1, a2, a3, a4, a5, a6, a7, a8⟩ := hA
  obtain ⟨p1, p2, p3, p4, p5, p6, p7⟩ := hPl
  have hlen := p7 hm
  have pl1 := p4 hlen
  obtain ⟨t0, t1, t2, tk, tok, td1, td2⟩ := hp I4 L4 (L 5) h6 h7 p3 pl1
  unfold sX7_comes at ey
  unfold sX6_comeTo at ex
  rw [if_neg (show ¬ (5760 : Int32) = 480 by decide), if_neg (show ¬ (5760 : Int32) = 1440 by decide), if_neg (show ¬ (5760 : Int32) = 4800 by decide)] at ey ex
  unfold sX6_endTurn at ex
  rw [a3] at ey
  by_cases h1 : I 8 = 1
  · rw [if_pos h1] at ey ex
    obtain ⟨tk1, tk2⟩ := tk 2
    have hb := ldk_beh (L4 := (sX1_tell I4 L4 f4_0 f4_1 f4_2 f4_3 f4_4 f4_5 (L 5) 2).2.2) (p := L 5) p3 (by rw [tk2]; exact pl1) (by rw [tk2]; exact p6)
    rw [tk2] at hb
    have hBU : ∃ (K' : Int32) (g0 g1 g2 : Nat → Int32), sX7_beatUp J M f3 f4 f5 f6 f7 f8 q35 q36 q37 = ldk_bu J M (sX7_look f3 f4 f5 f6 f7 f8 (M 25) 2) K' g0 g1 g2 ∧ (J 38 = 64 → K' = J 38 - 1 ∧ g0 = ldk_shk q35 64 ∧ g1 = ldk_shk q36 64 ∧ g2 = ldk_shk q37 64) ∧ (¬ J 38 = 64 → K' = J 38 ∧ g0 = q35 ∧ g1 = q36 ∧ g2 = q37) := by
      unfold sX7_beatUp
      by_cases c : J 38 = 64
      · exact ⟨_, _, _, _, if_pos c, fun _ => ⟨rfl, rfl, rfl, rfl⟩, fun z => absurd c z⟩
      · exact ⟨_, _, _, _, if_neg c, fun z => absurd z c, fun _ => ⟨rfl, rfl, rfl, rfl⟩⟩
    obtain ⟨K', g0, g1, g2, hBe, hB1, hB2⟩ := hBU
    rw [hBe] at ey
    unfold ldk_bu sX7_record at ey
    dsimp only at ey
    rw [p1, p2] at ey
    have e30 : (if upd J 38 (K' + 1) 28 = (2 : Int32) then (1 : Int32) else (0 : Int32)) = 0 := if_neg (by rw [pk_un (by decide), a3, h1]; decide)
    rw [e30] at ey
    rw [t2] at ex
    generalize hd : sX7_look f3 f4 f5 f6 f7 f8 (L 5) 2 = d at ey ex td1 td2
    subst ey; subst ex
    dsimp only
    refine ⟨⟨?_, ?_, ?_, ?_, ?_, ?_, a7, a8⟩, rfl, ?_, ?_, ?_, ⟨?_, ?_, ?_, ?_, p5, p6, fun _ => hlen⟩, tk1, tk2, fun k k1 k2 k3 k4 => ?_⟩
    · simp [upd]; exact a1
    · simp [upd]; exact a2
    · simp [upd]
    · simp [upd]; exact a4
    · simp [upd]; exact a5
    · simp [upd]; exact a6
    · simp [vp_updL]; exact h34
    · have := ldk_eC_beat (a := I 6) (b := I 7) (d := d) (K' := K') (h0 := g0) (h1 := g1) (h2 := g2) hC hS td1 td2 ⟨hB1, hB2⟩ (J' := upd J 38 (K' + 1)) (M' := vp_updL (vp_updL (vp_updL M 25 0) 32 (M 32 + (4000 / d).toInt64)) 33 (M 33 + 1)) (by rw [pk_us]) (by rw [pk_uLs]) (by rw [pk_uLn (by decide), pk_uLs])
      rw [a1, a2]
      exact ldk_eC_of this (by simp [upd]) (by simp [vp_updL]) (by simp [vp_updL])
    · have e42 : upd (upd (upd J 38 (K' + 1)) 28 0) 30 (upd J 38 (K' + 1) 30 + 0) 42 = J 42 := by simp [upd]
      rw [e42]
      rw [pk_uLn (show (25 : Nat) ≠ 33 by decide), pk_uLn (show (25 : Nat) ≠ 32 by decide), pk_uLs, ← hb.1]
      exact ldk_eD_write hDr (Or.inr ⟨rfl, rfl⟩) hb.2.1 hb.2.2 (by rw [pk_us])
    · rw [pk_uLn (show (25 : Nat) ≠ 34 by decide), pk_uLn (show (25 : Nat) ≠ 33 by decide), pk_uLn (show (25 : Nat) ≠ 32 by decide), pk_uLs, pk_uLs, hb.1]
    · simp [vp_updL]; exact p2
    · rw [pk_uLs]; exact hb.2.1
    · rw [pk_uLs]; exact fun _ => hb.2.2
    · rw [pk_un k4, pk_un k2, pk_un k1, pk_un k3]
  · rw [if_neg h1] at ey ex
    unfold sX7_record at ey
    dsimp only at ey
    have e42 : upd (upd J 28 0) 30 (J 30 + (if I 8 = 2 then (1 : Int32) else 0)) 42 = J 42 := by simp [upd]
    rw [e42, p1] at ey
    have hW := ldk_eD_write (a := 0) (up := 0) (pl := L 5) (J' := y.1) hDr (Or.inr ⟨rfl, rfl⟩) p3 pl1 (by rw [ey]; dsimp only; rw [pk_us])
    by_cases h2 : I 8 = 2
    · rw [if_pos h2] at ey ex
      rw [ey] at hW
      subst ey; subst ex
      dsimp only at hW ⊢
      refine ⟨⟨?_, ?_, ?_, ?_, ?_, ?_, a7, a8⟩, rfl, ?_, ldk_eC_wider (by omega) (ldk_eC_of hC (by simp [upd]) (by simp [vp_updL]) (by simp [vp_updL])), hW, ⟨?_, ?_, p3, p4, p5, p6, p7⟩, h6, h7, fun k k1 k2 k3 k4 => ?_⟩
      · simp [upd]; exact a1
      · simp [upd]; exact a2
      · simp [upd]
      · simp [upd]; rw [a4]
      · simp [upd]; exact a5
      · simp [upd]; exact a6
      · simp [vp_updL]; exact h34
      · simp [vp_updL]; exact p1
      · simp [vp_updL]; exact p2
      · rw [pk_un k4, pk_un k2, pk_un k1]
    · rw [if_neg h2] at ey ex
      rw [ey] at hW
      subst ey; subst ex
      dsimp only at hW ⊢
      refine ⟨⟨?_, ?_, ?_, ?_, ?_, ?_, a7, a8⟩, rfl, ?_, ldk_eC_wider (by omega) (ldk_eC_of hC (by simp [upd]) (by simp [vp_updL]) (by simp [vp_updL])), hW, ⟨?_, ?_, p3, p4, p5, p6, p7⟩, h6, h7, fun k k1 k2 k3 k4 => ?_⟩
      · simp [upd]; exact a1
      · simp [upd]; exact a2
      · simp [upd]
      · simp [upd]; exact a4
      · simp [upd]; exact a5
      · simp [upd]; exact a6
      · simp [vp_updL]; exact h34
      · simp [vp_updL]; exact p1
      · simp [vp_updL]; exact p2
      · rw [pk_un k4, pk_un k2, pk_un k1]
end LDKF
