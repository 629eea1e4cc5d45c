/-! ===== compile: reading and taking over, in both ===== -/
theorem ldk_most_max {I : Nat → Int32} {a b : Nat} (h9 : I 9 = nI a) (h14 : I 14 = nI b) (ha : a ≤ 80) (hb : b ≤ 80) : (ldk_most I).toNatClampNeg = if a ≤ b then b else a := by
  unfold ldk_most
  rw [h14, h9]
  by_cases c : nI a ≤ nI b
  · rw [if_pos c, nI_clamp (by omega)]
    rw [Int32.le_iff_toInt_le, nI_toInt (by omega), nI_toInt (by omega)] at c
    rw [if_pos (by omega)]
  · rw [if_neg c, nI_clamp (by omega)]
    rw [Int32.le_iff_toInt_le, nI_toInt (by omega), nI_toInt (by omega)] at c
    rw [if_neg (by omega)]
def ldk_cmI (I : Nat → Int32) (L : Nat → Int64) (f1 f3 f4 f5 f6 f7 : Nat → Int32) (f8 : Nat → Int64) (f11 f12 f13 f16 f17 f39 : Nat → Int32) : Int32 × (Nat → Int32) × (Nat → Int64) × (Nat → Int32) × (Nat → Int32) × (Nat → Int32) × (Nat → Int32) × (Nat → Int32) × (Nat → Int64) × (Nat → Int32) × (Nat → Int32) × (Nat → Int32) × (Nat → Int32) × (Nat → Int32) × (Nat → Int32) :=
  (if (ldk_cK I f1 f11 f12 f13 f16 f17).1 = 0 then ((ldk_cK I f1 f11 f12 f13 f16 f17).2.1 15 + 1, upd (ldk_cK I f1 f11 f12 f13 f16 f17).2.1 2 0, L, f3, f4, f5, f6, f7, f8, (ldk_cK I f1 f11 f12 f13 f16 f17).2.2.1, (ldk_cK I f1 f11 f12 f13 f16 f17).2.2.2.1, (ldk_cK I f1 f11 f12 f13 f16 f17).2.2.2.2.1, (ldk_cK I f1 f11 f12 f13 f16 f17).2.2.2.2.2.1, (ldk_cK I f1 f11 f12 f13 f16 f17).2.2.2.2.2.2, f39) else
      (if ldk_cg I f1 f3 f4 f5 f6 f7 L f8 f11 f12 f13 f16 f17 = 0 then ((ldk_cJ I f1 f3 f4 f5 f6 f7 L f8 f11 f12 f13 f16 f17) 15 + 1, upd (ldk_cT I f1 f3 f4 f5 f6 f7 L f8 f11 f12 f13 f16 f17).1 2 0, (ldk_cT I f1 f3 f4 f5 f6 f7 L f8 f11 f12 f13 f16 f17).2.1, (ldk_cT I f1 f3 f4 f5 f6 f7 L f8 f11 f12 f13 f16 f17).2.2.1, (ldk_cT I f1 f3 f4 f5 f6 f7 L f8 f11 f12 f13 f16 f17).2.2.2.1, (ldk_cT I f1 f3 f4 f5 f6 f7 L f8 f11 f12 f13 f16 f17).2.2.2.2.1, (ldk_cT I f1 f3 f4 f5 f6 f7 L f8 f11 f12 f13 f16 f17).2.2.2.2.2.1, (ldk_cT I f1 f3 f4 f5 f6 f7 L f8 f11 f12 f13 f16 f17).2.2.2.2.2.2.1, (ldk_cT I f1 f3 f4 f5 f6 f7 L f8 f11 f12 f13 f16 f17).2.2.2.2.2.2.2.1, (ldk_cT I f1 f3 f4 f5 f6 f7 L f8 f11 f12 f13 f16 f17).2.2.2.2.2.2.2.2.1, (ldk_cT I f1 f3 f4 f5 f6 f7 L f8 f11 f12 f13 f16 f17).2.2.2.2.2.2.2.2.2.1, (ldk_cT I f1 f3 f4 f5 f6 f7 L f8 f11 f12 f13 f16 f17).2.2.2.2.2.2.2.2.2.2, (ldk_cK I f1 f11 f12 f13 f16 f17).2.2.2.2.2.1, (ldk_cK I f1 f11 f12 f13 f16 f17).2.2.2.2.2.2, f39)
        else (0, upd (ldk_cJ I f1 f3 f4 f5 f6 f7 L f8 f11 f12 f13 f16 f17) 2 0, vp_updL (ldk_cS I f1 f3 f4 f5 f6 f7 L f8 f11 f12 f13 f16 f17).2.1 25 0, (ldk_cS I f1 f3 f4 f5 f6 f7 L f8 f11 f12 f13 f16 f17).2.2.1, (ldk_cS I f1 f3 f4 f5 f6 f7 L f8 f11 f12 f13 f16 f17).2.2.2.1, (ldk_cS I f1 f3 f4 f5 f6 f7 L f8 f11 f12 f13 f16 f17).2.2.2.2.1, (ldk_cS I f1 f3 f4 f5 f6 f7 L f8 f11 f12 f13 f16 f17).2.2.2.2.2.1, (ldk_cS I f1 f3 f4 f5 f6 f7 L f8 f11 f12 f13 f16 f17).2.2.2.2.2.2.1, (ldk_cS I f1 f3 f4 f5 f6 f7 L f8 f11 f12 f13 f16 f17).2.2.2.2.2.2.2.1, (ldk_cS I f1 f3 f4 f5 f6 f7 L f8 f11 f12 f13 f16 f17).2.2.2.2.2.2.2.2.1, (ldk_cS I f1 f3 f4 f5 f6 f7 L f8 f11 f12 f13 f16 f17).2.2.2.2.2.2.2.2.2.1, (ldk_cS I f1 f3 f4 f5 f6 f7 L f8 f11 f12 f13 f16 f17).2.2.2.2.2.2.2.2.2.2, (ldk_cK I f1 f11 f12 f13 f16 f17).2.2.2.2.2.1, (ldk_cK I f1 f11 f12 f13 f16 f17).2.2.2.2.2.2, upd (upd f39 ((0 : Int32)).toNatClampNeg (0 : Int32)) ((1 : Int32)).toNatClampNeg (0 : Int32))))
theorem ldk_cmI_eq {I : Nat → Int32} (L : Nat → Int64) (f1 f3 f4 f5 f6 f7 : Nat → Int32) (f8 : Nat → Int64) (f11 f12 f13 f16 f17 f39 : Nat → Int32) (h21 : I 21 = 0) (h20 : ¬ I 20 = 0) : sX7_compile I L f1 f3 f4 f5 f6 f7 f8 f11 f12 f13 f16 f17 f39 = ldk_cmI I L f1 f3 f4 f5 f6 f7 f8 f11 f12 f13 f16 f17 f39 := by
  unfold sX7_compile ldk_cmI; rw [if_pos h21, if_neg h20]
section LDKD
variable {I0 f I2 IG : Nat → Int32} {LG : Nat → Int64} {b0 b1 b2 : Nat → Int32} {b3 : Nat → Int64} {b4 b5 r5 : Nat → Int32} {r6 : Nat → Int64} {r7 r8 J f11 f12 f13 f16 f17 : Nat → Int32}
theorem ldk_rd0_keep {k : Nat} (a0 : k ≠ 0) (a : k ≠ 14) (b : k ≠ 15) (d : k ≠ 18) (e : k ≠ 19) (g : k ≠ 43) : ldk_rd0 (upd J 0 0) f k = J k := by
  unfold ldk_rd0
  rw [sk_keep _ _ b, pk_un g, pk_un e, pk_un d, pk_un b, pk_un a, pk_un a0]
theorem ldk_PR0 (hs : (I0 1).toInt ≤ 160) (hs0 : 0 ≤ (I0 1).toInt) (h2 : J 2 = I0 1) :
    ldk_PRn I0 (sX5_behindBlanks I0 f 0) 0 0 0 (rStart I2 I0 f IG LG b0 b1 b2 b3 b4 b5 r5 r6 r7 r8) (ldk_rd0 (upd J 0 0) f, f11, f12, f13, f16, f17) ∧ 0 ≤ (sX5_behindBlanks I0 f 0).toInt := by
  have hsk := ldk_skp (I0 := I0) (f := f) (J := upd (upd (upd (upd (upd (upd J 0 0) 14 0) 15 0) 18 0) 19 0) 43 1) hs (by rw [pk_un (by decide), pk_un (by decide), pk_un (by decide), pk_un (by decide), pk_un (by decide), pk_un (by decide)]; exact h2) (by rw [pk_un (by decide), pk_un (by decide), pk_un (by decide), pk_us]; decide)
  rw [pk_un (show (15 : Nat) ≠ 43 by decide), pk_un (show (15 : Nat) ≠ 19 by decide), pk_un (show (15 : Nat) ≠ 18 by decide), pk_us] at hsk
  obtain ⟨s1, s2, s3⟩ := hsk
  have s3' := s3 (by rw [ldk_t0']; exact hs0)
  rw [ldk_t0'] at s2
  have e15 : ldk_rd0 (upd J 0 0) f 15 = sX5_behindBlanks I0 f 0 := s1
  have kp : ∀ {k : Nat}, k ≠ 15 → ldk_rd0 (upd J 0 0) f k = upd (upd (upd (upd (upd (upd J 0 0) 14 0) 15 0) 18 0) 19 0) 43 1 k := fun hk => sk_keep _ _ hk
  refine ⟨⟨?_, ?_, ?_, ?_, ?_, ?_, ?_, ?_, ?_, ?_, ?_, ?_, ?_, ?_⟩, s2⟩
  · refine ⟨fun _ => [], fun _ => 0, fun _ => 0, fun _ => 0, fun _ => [], by omega, by omega, by omega, fun i hi => by omega, fun i hi => by omega, fun l hl => by omega, fun l hl => ?_, fun l hl => by omega, fun l h1 h2 => by omega⟩
    have hl0 : l = 0 := by omega
    subst hl0
    refine ⟨⟨rfl, ?_, ?_, ?_, ?_, ?_⟩, fun j hj => absurd hj List.not_mem_nil⟩
    · unfold rStart sX2_beginLevel; dsimp only; rw [pk_us, show (0 : Int32).toNatClampNeg = 0 from rfl, pk_uLs]; rfl
    · unfold rStart sX2_beginLevel; dsimp only; rw [pk_us, show (0 : Int32).toNatClampNeg = 0 from rfl, pk_us]; rfl
    · unfold rStart sX2_beginLevel; dsimp only; rw [pk_us, show (0 : Int32).toNatClampNeg = 0 from rfl, pk_us]; rfl
    · unfold rStart sX2_beginLevel; dsimp only; rw [pk_us, show (0 : Int32).toNatClampNeg = 0 from rfl, pk_uLs]; decide
    · unfold rStart sX2_beginLevel; dsimp only; rw [pk_us, show (0 : Int32).toNatClampNeg = 0 from rfl, pk_uLs]; decide
  · unfold rStart; dsimp only; rw [e15, pk_un (by decide), pk_un (by decide), pk_us]
  · dsimp only; rw [ldk_rd0_keep (by decide) (by decide) (by decide) (by decide) (by decide) (by decide)]; exact h2
  · unfold rStart; dsimp only; rw [pk_un (by decide), pk_un (by decide), pk_us]; exact s2
  · unfold rStart; dsimp only; rw [pk_un (by decide), pk_un (by decide), pk_us]; exact s3'
  · unfold rStart; dsimp only; rw [pk_un (by decide), pk_un (by decide), pk_us]; omega
  · unfold rStart; dsimp only; rw [pk_un (by decide), pk_us]
  · unfold rStart; dsimp only; rw [pk_us]; rfl
  · dsimp only; rw [kp (by decide), pk_un (by decide), pk_un (by decide), pk_us]; rfl
  · unfold rStart sX1_clear; dsimp only; rw [pk_us]; rfl
  · dsimp only; rw [kp (by decide), pk_un (by decide), pk_un (by decide), pk_un (by decide), pk_un (by decide), pk_us]; rfl
  · dsimp only; rw [kp (by decide), pk_un (by decide), pk_us]; rfl
  · dsimp only; rw [kp (by decide), pk_us]; exact Or.inr rfl
  · intro _
    refine Or.inl ⟨rfl, rfl, ?_⟩
    unfold rStart; dsimp only; rw [pk_un (by decide), pk_un (by decide), pk_us]
/-- reading and taking over, in both -/
theorem ldk_comp {A : LdkA} {n0 : Nat} {len0 : Int64} {M : Nat → Int64} {f3 f4 f5 f6 f7 : Nat → Int32} {f8 : Nat → Int64} {f39 : Nat → Int32}
    {rd : Int32 × (Nat → Int32) × (Nat → Int32) × (Nat → Int32) × (Nat → Int64) × (Nat → Int32) × (Nat → Int32) × (Nat → Int32) × (Nat → Int64) × (Nat → Int32) × (Nat → Int32) × (Nat → Int32) × (Nat → Int64) × (Nat → Int32) × (Nat → Int32)}
    (hs0 : 0 ≤ (I0 1).toInt) (hs : (I0 1).toInt ≤ 160) (h2 : J 2 = I0 1) (hP : ldk_PP A (f3, f4, f5) (f6, f7, f8) n0 len0) (h9 : J 9 = nI n0) (h10 : M 10 = len0) (hrd : rd = sX2_read I2 I0 f IG LG b0 b1 b2 b3 b4 b5 r5 r6 r7 r8) :
    ldk_cmOK J f f3 f4 f5 f6 f7 M f8 f11 f12 f13 f16 f17 ∧
    ∃ (J' : Nat → Int32) (M' : Nat → Int64) (g3 g4 g5 g6 g7 : Nat → Int32) (g8 : Nat → Int64) (g11 g12 g13 g16 g17 : Nat → Int32),
      (∀ k, k ≠ 0 → k ≠ 2 → k ≠ 9 → k ≠ 14 → k ≠ 15 → k ≠ 18 → k ≠ 19 → k ≠ 43 → J' k = J k) ∧ J' 2 = 0 ∧ (∀ k, k ≠ 10 → k ≠ 25 → M' k = M k) ∧
      ((¬ rd.1 = -1 ∧ J' 9 = nI n0 ∧ M' 10 = len0 ∧ M' 25 = M 25 ∧ ldk_PP A (g3, g4, g5) (g6, g7, g8) n0 len0 ∧ ldk_cmI J M f f3 f4 f5 f6 f7 f8 f11 f12 f13 f16 f17 f39 = (rd.1 + 1, J', M', g3, g4, g5, g6, g7, g8, g11, g12, g13, g16, g17, f39)) ∨
       (rd.1 = -1 ∧ M' 25 = 0 ∧ ∃ (n : Nat) (len : Int64), J' 9 = nI n ∧ M' 10 = len ∧ 0 < len.toInt ∧ rd.2.2.2.1 6 = nI n ∧ rd.2.2.2.2.1 7 = len ∧ ldk_PP (rd.2.2.2.2.2.1, rd.2.2.2.2.2.2.1, rd.2.2.2.2.2.2.2.1, rd.2.2.2.2.2.2.2.2.1, rd.2.2.2.2.2.2.2.2.2.1, rd.2.2.2.2.2.2.2.2.2.2.1) (g3, g4, g5) (g6, g7, g8) n len ∧ ldk_cmI J M f f3 f4 f5 f6 f7 f8 f11 f12 f13 f16 f17 f39 = (0, J', M', g3, g4, g5, g6, g7, g8, g11, g12, g13, g16, g17, upd (upd f39 ((0 : Int32)).toNatClampNeg (0 : Int32)) ((1 : Int32)).toNatClampNeg (0 : Int32)))) := by
  have km1 : (-1 : Int32).toInt = -1 := by decide
  have k2b : (2000000000 : Int64).toInt = 2000000000 := by decide
  obtain ⟨hPR, hf0⟩ := ldk_PR0 (f := f) (I2 := I2) (IG := IG) (LG := LG) (b0 := b0) (b1 := b1) (b2 := b2) (b3 := b3) (b4 := b4) (b5 := b5) (r5 := r5) (r6 := r6) (r7 := r7) (r8 := r8) (J := J) (f11 := f11) (f12 := f12) (f13 := f13) (f16 := f16) (f17 := f17) hs hs0 h2
  have hx2 : 0 ≤ ((rStart I2 I0 f IG LG b0 b1 b2 b3 b4 b5 r5 r6 r7 r8).1 2).toInt := hPR.2.2.2.1
  obtain ⟨L1, L2, L3⟩ := ldk_lp (f := f) hs 160 161 _ _ 0 0 0 hPR (by omega) (by omega)
  have eK : ldk_rdF f 161 (ldk_rd0 (upd J 0 0) f, f11, f12, f13, f16, f17) = ldk_cK J f f11 f12 f13 f16 f17 := by
    unfold ldk_cK sX7_reads; rfl
  rw [eK] at L2 L3
  have eX : rd = rTup I0 (sX1_clear IG LG).2 (sX5_behindBlanks I0 f 0) (rF I0 f 160 (rStart I2 I0 f IG LG b0 b1 b2 b3 b4 b5 r5 r6 r7 r8)) := by
    rw [hrd]; unfold sX2_read; rfl
  have eS0 := ldk_cS_eq J f f3 f4 f5 f6 f7 M f8 f11 f12 f13 f16 f17
  have eJ0 := ldk_cJ_eq J f f3 f4 f5 f6 f7 M f8 f11 f12 f13 f16 f17
  have eT0 := ldk_cT_eq J f f3 f4 f5 f6 f7 M f8 f11 f12 f13 f16 f17
  have eg0 := ldk_cg_eq J f f3 f4 f5 f6 f7 M f8 f11 f12 f13 f16 f17
  unfold ldk_cmOK ldk_cmI
  clear hPR hrd eK
  generalize ldk_cg J f f3 f4 f5 f6 f7 M f8 f11 f12 f13 f16 f17 = cg at eg0 ⊢
  generalize ldk_cT J f f3 f4 f5 f6 f7 M f8 f11 f12 f13 f16 f17 = T at eT0 ⊢
  generalize ldk_cJ J f f3 f4 f5 f6 f7 M f8 f11 f12 f13 f16 f17 = Jc at eJ0 eT0 ⊢
  generalize ldk_cS J f f3 f4 f5 f6 f7 M f8 f11 f12 f13 f16 f17 = S at eS0 eJ0 eT0 eg0 ⊢
  generalize ldk_cK J f f11 f12 f13 f16 f17 = K at L2 L3 eS0 eT0 ⊢
  generalize rF I0 f 160 (rStart I2 I0 f IG LG b0 b1 b2 b3 b4 b5 r5 r6 r7 r8) = Xs at L3 eX
  generalize hfst : sX5_behindBlanks I0 f 0 = first at *
  have hk : ∀ k, k ≠ 0 → k ≠ 14 → k ≠ 15 → k ≠ 18 → k ≠ 19 → k ≠ 43 → K.2.1 k = J k := fun k a0 a b d e g => (L2 k a b d e g).trans (ldk_rd0_keep a0 a b d e g)
  have hK2 : K.2.1 2 = I0 1 := (hk 2 (by decide) (by decide) (by decide) (by decide) (by decide) (by decide)).trans h2
  have hK9 : K.2.1 9 = nI n0 := (hk 9 (by decide) (by decide) (by decide) (by decide) (by decide) (by decide)).trans h9
  rcases L3 with ⟨a1, a2, a3⟩ | ⟨a1, n, s, hPR⟩
  · -- the text is wrong
    refine ⟨⟨by rw [h2]; exact hs, L1, by rw [hK2]; exact hs, fun z => absurd a1 z⟩, ?_⟩
    rw [if_pos a1]
    have er : rd.1 = K.2.1 15 := by rw [eX]; exact a2
    refine ⟨upd K.2.1 2 0, M, f3, f4, f5, f6, f7, f8, K.2.2.1, K.2.2.2.1, K.2.2.2.2.1, K.2.2.2.2.2.1, K.2.2.2.2.2.2, ?_, pk_us .., fun _ _ _ => rfl, Or.inl ⟨?_, ?_, h10, rfl, hP, ?_⟩⟩
    · intro k a0 a2 a9 a14 a15 a18 a19 a43; rw [pk_un a2]; exact hk k a0 a14 a15 a18 a19 a43
    · rw [er, ldk_ne, km1]; omega
    · rw [pk_un (by decide)]; exact hK9
    · rw [er]
  · -- the text is right
    obtain ⟨p1, p2, p3, p4, p5, p6, p7, p8, p9, p10, p11, p12, p13, p14⟩ := hPR
    obtain ⟨X, E, o, bf, cs, b1, b2, b3, b4, b5, b6, b7, b8, b9⟩ := p1
    have hC : ldk_CS (Xs.2.2.1, Xs.2.2.2.1, Xs.2.2.2.2.1, Xs.2.2.2.2.2.1, Xs.2.2.2.2.2.2.1, Xs.2.2.2.2.2.2.2.1) (K.2.2.1, K.2.2.2.1, K.2.2.2.2.1) n X E (cs 0) := by
      refine ⟨b1, fun i hi => ?_, ?_⟩
      · obtain ⟨u1, u2, -⟩ := b5 i hi (fun l hl => by omega)
        exact ⟨u1, u2⟩
      · have := (b7 0 (Nat.le_refl _)).1.1
        rw [if_pos rfl, if_pos rfl] at this; exact this
    have hg6 : (Xs.2.2.2.2.2.2.2.2.2.1 0).toInt = ldk_fc (ldk_tc Xs.2.2.1 Xs.2.2.2.1 Xs.2.2.2.2.2.1) 0 (cs 0) := (b7 0 (Nat.le_refl _)).1.2.1
    obtain ⟨X0, E0, xs0, hC0, hR0, hl0, hL0⟩ := hP
    have hn0 := hC0.1
    obtain ⟨w1, x1, len1, eS, hC1, hR1, hl1⟩ := ldk_swp (I := K.2.1) (L := M) (f3 := f3) (f4 := f4) (f5 := f5) (f6 := f6) (f7 := f7) (f8 := f8) hC p11 hK9 hn0
    obtain ⟨v1, v2, v3⟩ := ldk_CS_len hC1 hR1 hl1
    rw [← hg6] at v1
    have hM1 := ldk_most_max hK9 p11 hn0 b1
    generalize (ldk_most K.2.1).toNatClampNeg = M1 at *
    rw [eS] at eS0
    have eS10 : S.2.1 10 = len1 := by rw [eS0]; dsimp only; rw [pk_uLs]
    rw [eS10] at eg0
    subst eS0
    dsimp only at eJ0 eT0 ⊢
    have jk : ∀ k, k ≠ 9 → k ≠ 14 → k ≠ 15 → Jc k = K.2.1 k := fun k q1 q2 q3 => by rw [eJ0, sk_keep _ _ q3, pk_un q3, pk_un q2, pk_un q1]
    have j9 : Jc 9 = nI n := by rw [eJ0, sk_keep _ _ (by decide), pk_un (by decide), pk_un (by decide), pk_us]
    have j14 : Jc 14 = nI n0 := by rw [eJ0, sk_keep _ _ (by decide), pk_un (by decide), pk_us]
    have j2 : Jc 2 = I0 1 := (jk 2 (by decide) (by decide) (by decide)).trans hK2
    have hsk := ldk_skp (I0 := I0) (f := f) (J := upd (upd (upd K.2.1 9 (nI n)) 14 (nI n0)) 15 0) hs (by rw [pk_un (by decide), pk_un (by decide), pk_un (by decide)]; exact hK2) (by rw [pk_us]; decide)
    rw [pk_us] at hsk
    have hC2 : ldk_CS A (ldk_sw K.2.2.1 f3 M1, ldk_sw K.2.2.2.1 f4 M1, ldk_sw K.2.2.2.2.1 f5 M1) n0 X0 E0 xs0 := ldk_CS_ext hC0 (fun i hi => by
      have : i < M1 := by rw [hM1]; split <;> omega
      exact ⟨ldk_sw_lt this, ldk_sw_lt this, ldk_sw_lt this⟩)
    obtain ⟨w2, x2, len2, eT, hC3, hR3, hl3⟩ := ldk_swp (I := Jc) (L := vp_updL M 10 len1) (f3 := ldk_sw f3 K.2.2.1 M1) (f4 := ldk_sw f4 K.2.2.2.1 M1) (f5 := ldk_sw f5 K.2.2.2.2.1 M1) (f6 := x1.1) (f7 := x1.2.1) (f8 := x1.2.2) hC2 j14 j9 b1
    have hM2 : (ldk_most Jc).toNatClampNeg = M1 := by
      rw [ldk_most_max j9 j14 b1 hn0, hM1]
      by_cases q1 : n ≤ n0
      · rw [if_pos q1]
        by_cases q2 : n0 ≤ n
        · rw [if_pos q2]; omega
        · rw [if_neg q2]
      · rw [if_neg q1, if_pos (by omega)]
    rw [hM2, ldk_sw_sw, ldk_sw_sw, ldk_sw_sw, ldk_sw_sw, ldk_sw_sw, ldk_sw_sw] at eT
    rw [hM2, ldk_sw_sw, ldk_sw_sw, ldk_sw_sw] at hC3
    rw [hM2, ldk_sw_sw, ldk_sw_sw] at hR3 hl3
    rw [eT] at eT0
    subst eT0
    dsimp only at hsk ⊢
    refine ⟨⟨by rw [h2]; exact hs, L1, by rw [hK2]; exact hs, fun _ => ⟨w1, w2⟩⟩, ?_⟩
    rw [if_neg (by rw [a1]; decide)]
    have eE : rd.1 = if Xs.2.2.2.2.2.2.2.2.2.1 0 < 1 then first else if Xs.2.2.2.2.2.2.2.2.2.1 0 ≤ 2000000000 then -1 else first := by
      rw [eX]
      show rEnd I0 first Xs 3 = _
      unfold rEnd
      rw [show (0 : Int32).toNatClampNeg = 0 from rfl, if_pos (show Xs.1 4 ≤ 0 by rw [p8]; decide)]
      split
      · exact ldk_fa1 p7
      · split
        · exact p7
        · exact ldk_fa1 p7
    by_cases gd : 0 < len1.toInt ∧ len1.toInt ≤ 2000000000
    · have eg : Xs.2.2.2.2.2.2.2.2.2.1 0 = len1 := ldk_Eq.mpr (by rw [v1]; unfold ldk_mn; rw [if_pos (by omega)])
      have hcg : ¬ cg = 0 := by
        rw [eg0, if_neg (by rw [Int64.le_iff_toInt_le, ldk_T0]; omega), if_neg (by rw [Int64.lt_iff_toInt_lt, k2b]; omega)]; decide
      rw [if_neg hcg]
      refine ⟨upd Jc 2 0, vp_updL (vp_updL M 10 len1) 25 0, ldk_sw f3 K.2.2.1 M1, ldk_sw f4 K.2.2.2.1 M1, ldk_sw f5 K.2.2.2.2.1 M1, x1.1, x1.2.1, x1.2.2, ldk_sw K.2.2.1 f3 M1, ldk_sw K.2.2.2.1 f4 M1, ldk_sw K.2.2.2.2.1 f5 M1, K.2.2.2.2.2.1, K.2.2.2.2.2.2, ?_, pk_us .., fun k q1 q2 => by rw [pk_uLn q2, pk_uLn q1], Or.inr ⟨?_, pk_uLs .., n, len1, ?_, ?_, gd.1, ?_, ?_, ?_, rfl⟩⟩
      · intro k a0 a2 a9 a14 a15 a18 a19 a43; rw [pk_un a2, jk k a9 a14 a15]; exact hk k a0 a14 a15 a18 a19 a43
      · rw [eE, eg, if_neg (by rw [Int64.lt_iff_toInt_lt, ldk_T1]; omega), if_pos (by rw [Int64.le_iff_toInt_le, k2b]; omega)]
      · rw [pk_un (by decide)]; exact j9
      · rw [pk_uLn (by decide), pk_uLs]
      · rw [eX]; exact p10
      · rw [eX]
        unfold rTup
        dsimp only
        rw [pk_uLs]; exact eg
      · rw [eX]
        exact ⟨X, E, cs 0, hC1, hR1, hl1, gd.2⟩
    · have hcg : cg = 0 := by
        rw [eg0]
        by_cases q : len1 ≤ 0
        · rw [if_pos q]
        · rw [if_neg q]
          rw [Int64.le_iff_toInt_le, ldk_T0] at q
          rw [if_pos (by rw [Int64.lt_iff_toInt_lt, k2b]; omega)]
      rw [if_pos hcg]
      have er : rd.1 = first := by
        rw [eE]
        by_cases q : Xs.2.2.2.2.2.2.2.2.2.1 0 < 1
        · rw [if_pos q]
        · rw [if_neg q]
          rw [Int64.lt_iff_toInt_lt, ldk_T1, v1] at q
          rw [if_neg (by rw [Int64.le_iff_toInt_le, k2b, v1]; unfold ldk_mn at q ⊢; split <;> split at q <;> omega)]
      obtain ⟨z1, z2, z3⟩ := ldk_CS_len hC3 hR3 hl3
      obtain ⟨y1, y2, y3⟩ := ldk_CS_len hC0 hR0 hl0
      have el : len2 = len0 := by
        rw [y1] at z1
        refine ldk_Eq.mpr ?_
        unfold ldk_mn at z1
        split at z1 <;> split at z1 <;> omega
      have hj15 : Jc 15 = first := by rw [eJ0, ← hfst]; exact hsk.1
      refine ⟨upd (upd (upd Jc 9 (nI n0)) 14 (nI n)) 2 0, vp_updL (vp_updL M 10 len1) 10 len2, f3, f4, f5, x2.1, x2.2.1, x2.2.2, K.2.2.1, K.2.2.2.1, K.2.2.2.2.1, K.2.2.2.2.2.1, K.2.2.2.2.2.2, ?_, pk_us .., fun k q1 q2 => by rw [pk_uLn q1, pk_uLn q1], Or.inl ⟨?_, ?_, ?_, ?_, ?_, ?_⟩⟩
      · intro k a0 a2 a9 a14 a15 a18 a19 a43; rw [pk_un a2, pk_un a14, pk_un a9, jk k a9 a14 a15]; exact hk k a0 a14 a15 a18 a19 a43
      · rw [er, ldk_ne, km1]; omega
      · rw [pk_un (by decide), pk_un (by decide), pk_us]
      · rw [pk_uLs]; exact el
      · rw [pk_uLn (by decide), pk_uLn (by decide)]
      · exact ⟨X0, E0, xs0, hC3, hR3, by rw [← el]; exact hl3, hL0⟩
      · rw [er, hj15]
end LDKD
