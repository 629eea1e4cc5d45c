/-! ===== the two readers: brackets ===== -/
section LDKI3
variable {I0 f : Nat → Int32} {first : Int32} {n d s : Nat} {I I1 k0 k1 k2 : Nat → Int32} {k3 : Nat → Int64} {k4 k5 g5 : Nat → Int32} {g6 : Nat → Int64} {g7 g8 J q11 q12 q13 q16 q17 : Nat → Int32}
/-- an opening bracket, in both -/
theorem ldk_opn {c v kd : Int32} {X Jm : Nat → Int32} (hc : (c = 114 ∧ kd = 3) ∨ (c = 109 ∧ kd = 4 ∧ v = 2)) (hv1 : 1 ≤ v.toInt) (hv2 : v.toInt ≤ 9999) (hs : (I0 1).toInt ≤ 160) (hPS : ldk_PS n d s (k0, k1, k2, k3, k4, k5) (g5, g6, g7, g8) (q11, q12, q13) q16 q17) (h10 : I1 6 = nI n)
    (hX : Jm 15 = X 2) (h2 : Jm 2 = I0 1) (h0 : 2 * (n : Int) + 1 ≤ (X 2).toInt) (h1 : (X 2).toInt ≤ (I0 1).toInt) (h3 : X 3 = -1) (h4 : X 4 = nI d) (h18 : Jm 18 = nI d) (h14 : Jm 14 = nI n) (h19 : Jm 19 = nI s) :
    ((ldk_oE c v Jm f q11 q12 q13 q16 q17).1 = 0 ∧ (sX2_open X I0 f I1 k0 k1 g5 g6 g7 g8 kd v).1 3 = (ldk_oE c v Jm f q11 q12 q13 q16 q17).2.1 15 ∧ 0 ≤ ((ldk_oE c v Jm f q11 q12 q13 q16 q17).2.1 15).toInt) ∨
    ((ldk_oE c v Jm f q11 q12 q13 q16 q17).1 = 1 ∧ (X 2).toInt + 1 ≤ ((sX2_open X I0 f I1 k0 k1 g5 g6 g7 g8 kd v).1 2).toInt ∧ ldk_PRn I0 first (n + 1) (d + 1) s ((sX2_open X I0 f I1 k0 k1 g5 g6 g7 g8 kd v).1, (sX2_open X I0 f I1 k0 k1 g5 g6 g7 g8 kd v).2.1, (sX2_open X I0 f I1 k0 k1 g5 g6 g7 g8 kd v).2.2.1, (sX2_open X I0 f I1 k0 k1 g5 g6 g7 g8 kd v).2.2.2.1, k2, k3, k4, k5, (sX2_open X I0 f I1 k0 k1 g5 g6 g7 g8 kd v).2.2.2.2)
      (upd (ldk_oE c v Jm f q11 q12 q13 q16 q17).2.1 15 ((ldk_oE c v Jm f q11 q12 q13 q16 q17).2.1 15 - 1 + 1), (ldk_oE c v Jm f q11 q12 q13 q16 q17).2.2)) := by
  have hd6 : d ≤ 6 := by obtain ⟨_, _, _, _, _, _, z, _⟩ := hPS; exact z
  have hbb := ldk_skp (I0 := I0) (f := f) (J := Jm) hs h2 (by rw [hX]; omega)
  rcases ldk_oE_ok (f := f) (q11 := q11) (q12 := q12) (q13 := q13) (q16 := q16) (q17 := q17) (c := c) (v := v) (hc.elim (fun q => Or.inl q.1) (fun q => Or.inr q.1)) hs h2 (by rw [hX]; omega) (by rw [hX]; exact h1) hd6 h18 with ⟨n1, n2, n3⟩ | ⟨m1, m2, m3, m4, m5, m6⟩
  · left
    rw [hX] at n1 n3 hbb
    refine ⟨n2, ?_, by rw [n3]; omega⟩
    rw [n3]
    have ef : sX2_faultAt (upd X 2 (sX5_behindBlanks I0 f (X 2))) (sX5_behindBlanks I0 f (X 2)) 3 = sX5_behindBlanks I0 f (X 2) := by
      unfold sX2_faultAt; rw [pk_un (by decide), if_pos h3, pk_us]
    unfold sX2_open
    by_cases c40 : sX5_charOf I0 f (sX5_behindBlanks I0 f (X 2)) = 40
    · rw [if_pos c40, h4, if_neg (fun z => n1 ⟨c40, z⟩)]; exact ef
    · rw [if_neg c40]; exact ef
  · right
    rw [hX] at m1 m4 m5 m6
    obtain ⟨w1, w2, w3, w4, w5, w6, w7, w8, w9, w10, w11⟩ := m6
    have hn : n < 80 := by omega
    rw [h14, nI_clamp (by omega)] at w7 w8 w9
    rw [h14, h18, nI_clamp (by omega)] at w10
    rw [h18, h19, nI_clamp (by omega)] at w11
    rw [h14] at w3
    rw [h18] at w4
    have hkd : (if c = 114 then (3 : Int32) else 4) = kd := by
      rcases hc with ⟨q1, q2⟩ | ⟨q1, q2, -⟩
      · rw [if_pos q1, q2]
      · rw [if_neg (by rw [q1]; decide), q2]
    rw [hkd] at w7
    have eo : sX2_open X I0 f I1 k0 k1 g5 g6 g7 g8 kd v = (upd (upd X 2 (sX5_behindBlanks I0 f (X 2) + 1)) 4 (nI (d + 1)), upd I1 6 (nI (n + 1)), upd k0 n kd, upd k1 n v, upd (upd g5 (d + 1) (-1)) (d + 1) (nI n), vp_updL g6 (d + 1) 0, upd g7 (d + 1) (-1), upd g8 (d + 1) (-1)) := by
      unfold sX2_open
      rw [if_pos m1, h4, if_pos m2, ldk_add1 h10 hn]
      unfold sX2_beginLevel
      dsimp only
      rw [pk_us, ← nI_succ, nI_clamp (by omega), h10]
    rw [eo]
    refine ⟨w1, by dsimp only; rw [pk_un (by decide), pk_us]; exact m4, ?_, ?_, ?_, ?_, ?_, ?_, ?_, ?_, ?_, ?_, ?_, ?_, ?_, ?_⟩
    · dsimp only
      rw [w7, w8, w9, w10, w11]
      refine ldk_PS_open (kd := kd) (v := v) hPS hn m3 (hc.elim (fun q => Or.inl q.2) (fun q => Or.inr q.2)) hv1 hv2 rfl (by rw [← nI_succ]) ?_ ?_ ?_ ?_ ?_ ?_ ?_ ?_
      · intro l hl; dsimp only; rw [pk_un hl, pk_un hl]
      · intro l hl; exact pk_uLn hl
      · intro l hl; exact pk_un hl
      · intro l hl; exact pk_un hl
      · dsimp only; rw [pk_us]
      · dsimp only; rw [pk_uLs]
      · dsimp only; rw [pk_us]
      · dsimp only; rw [pk_us]
    · dsimp only; rw [pk_us, ldk_s1a, w2, pk_un (by decide), pk_us]
    · dsimp only; rw [pk_un (by decide), w6 2 (by decide) (by decide) (by decide) (by decide)]; exact h2
    · dsimp only; rw [pk_un (by decide), pk_us]; omega
    · dsimp only; rw [pk_un (by decide), pk_us]; exact m5
    · dsimp only; rw [pk_un (by decide), pk_us]; omega
    · dsimp only; rw [pk_un (by decide), pk_un (by decide)]; exact h3
    · dsimp only; rw [pk_us]
    · dsimp only; rw [pk_un (by decide), w4, nI_succ]
    · dsimp only; rw [pk_us]
    · dsimp only; rw [pk_un (by decide), w3, nI_succ]
    · dsimp only; rw [pk_un (by decide), w6 19 (by decide) (by decide) (by decide) (by decide)]; exact h19
    · dsimp only; rw [pk_un (by decide), w5]; exact Or.inr rfl
    · dsimp only; intro _; rw [pk_uLs]; exact Or.inr ⟨by omega, by decide⟩
/-- a closing bracket, in both -/
theorem ldk_cls2 (hs : (I0 1).toInt ≤ 160) (h : ldk_PRn I0 first n d s (I, I1, k0, k1, k2, k3, k4, k5, g5, g6, g7, g8) (J, q11, q12, q13, q16, q17)) (hlt : (I 2).toInt < (I0 1).toInt) :
    ((ldk_rdC f J q11 q12 q13 q16 q17).1 = 0 ∧ (sX2_close I I1 k1 k2 k3 k4 k5 g5 g6 g7 g8).1 3 = (ldk_rdC f J q11 q12 q13 q16 q17).2.1 15 ∧ 0 ≤ ((ldk_rdC f J q11 q12 q13 q16 q17).2.1 15).toInt) ∨
    ((ldk_rdC f J q11 q12 q13 q16 q17).1 = 1 ∧ 0 < n ∧ (I 2).toInt + 1 ≤ ((sX2_close I I1 k1 k2 k3 k4 k5 g5 g6 g7 g8).1 2).toInt ∧ ∃ ym : LdkRd, ldk_PRn I0 first n (d - 1) s ((sX2_close I I1 k1 k2 k3 k4 k5 g5 g6 g7 g8).1, I1, k0, k1, (sX2_close I I1 k1 k2 k3 k4 k5 g5 g6 g7 g8).2.1, (sX2_close I I1 k1 k2 k3 k4 k5 g5 g6 g7 g8).2.2.1, (sX2_close I I1 k1 k2 k3 k4 k5 g5 g6 g7 g8).2.2.2.1, (sX2_close I I1 k1 k2 k3 k4 k5 g5 g6 g7 g8).2.2.2.2.1, g5, (sX2_close I I1 k1 k2 k3 k4 k5 g5 g6 g7 g8).2.2.2.2.2.1, (sX2_close I I1 k1 k2 k3 k4 k5 g5 g6 g7 g8).2.2.2.2.2.2.1, (sX2_close I I1 k1 k2 k3 k4 k5 g5 g6 g7 g8).2.2.2.2.2.2.2) ym ∧ (ldk_rdC f J q11 q12 q13 q16 q17).2 = (sX7_skip ym.1 f, ym.2)) := by
  obtain ⟨h1, h2, h3, h4, h5, h6, h7, h8, h9, h10, h11, h12, h13, h14⟩ := h
  dsimp only at h1 h2 h3 h4 h5 h6 h7 h8 h9 h10 h11 h12 h13 h14
  have hfa : sX2_faultAt I (I 2) 3 = I 2 := by unfold sX2_faultAt; rw [if_pos h7, pk_us]
  have hPS := h1
  obtain ⟨X, E, o, bf, cs, b1, b2, b3, b4, b5, b6, b7, b8, b9⟩ := h1
  by_cases hd : d = 0
  · left
    subst hd
    have e18 : J 18 = 0 := h9
    unfold ldk_rdC sX2_close
    rw [if_pos e18, h8, if_pos (by decide)]
    exact ⟨rfl, hfa.trans h2.symm, by dsimp only; rw [h2]; exact h4⟩
  · have e18 : ¬ J 18 = 0 := by rw [h9, ldk_eq, nI_toInt (by omega), ldk_t0']; omega
    have e4 : ¬ I 4 ≤ 0 := by rw [h8, Int32.le_iff_toInt_le, nI_toInt (by omega), ldk_t0']; omega
    have ecd : (I 4).toNatClampNeg = d := by rw [h8]; exact nI_clamp (by omega)
    have e18m : (J 18 - 1).toNatClampNeg = d - 1 := by
      obtain ⟨e, rfl⟩ : ∃ e, d = e + 1 := ⟨d - 1, by omega⟩
      rw [h9, nI_pred, nI_clamp (by omega)]; rfl
    obtain ⟨c81, c82, c83⟩ := b8 (d - 1) (by omega)
    have c9 := b9 d (by omega) (Nat.le_refl _)
    rw [if_pos rfl] at c9
    dsimp only at c9
    have hseen : J 19 = q17 (J 18 - 1).toNatClampNeg ↔ (g6 d).toInt = 0 := by
      rw [e18m, h12, c81, c9]
      exact ⟨fun z => ldk_nIinj (by omega) (by omega) z, fun z => by rw [z]⟩
    by_cases hp0 : (g6 d).toInt = 0
    · left
      have hg : g6 (I 4).toNatClampNeg = 0 := by rw [ecd, ldk_Eq, ldk_T0]; exact hp0
      unfold ldk_rdC sX2_close
      rw [if_neg e18, if_neg e4, if_pos hg]
      by_cases w : J 43 = 0
      · rw [if_pos w, if_pos (hseen.mpr hp0)]
        exact ⟨rfl, hfa.trans h2.symm, by dsimp only; rw [h2]; exact h4⟩
      · rw [if_neg w]
        exact ⟨rfl, hfa.trans h2.symm, by dsimp only; rw [h2]; exact h4⟩
    · right
      have hg : ¬ g6 (I 4).toNatClampNeg = 0 := by rw [ecd]; exact fun z => hp0 (by rw [z]; decide)
      have w : J 43 = 0 := by
        rcases h13 with q | q
        · exact q
        · rcases h14 q with z | z
          · omega
          · exact absurd z.2 hp0
      obtain ⟨o1, o2, o3, o4, o5, o6, o7⟩ := b6 (d - 1) (by omega)
      dsimp only at o2 o3 o4 o6
      rw [show d - 1 + 1 = d by omega] at o6
      have hob : o (d - 1) < 80 := by omega
      have hA1 := (b4 (o (d - 1)) o1).2
      dsimp only at hA1
      have lvd := (b7 d (Nat.le_refl _)).1.2.2.2.2
      have lve := (b7 (d - 1) (by omega)).1.2.2.2.2
      dsimp only at lvd lve
      have eC : ldk_rdC f J q11 q12 q13 q16 q17 = (1, sX7_skip (upd (upd J 15 (J 15 + 1)) 18 (J 18 - 1)) f, q11, q12, upd q13 (o (d - 1)) (nI n), q16, q17) := by
        unfold ldk_rdC
        rw [if_neg e18, if_pos w, if_neg (fun z => hp0 (hseen.mp z)), e18m, o5, nI_clamp (by omega), h11]
      have eE : sX1_end I1 k1 k2 k3 k4 k5 (g5 d) (g6 d) (g7 d) (g8 d) = (k1 (o (d - 1)), upd k2 (o (d - 1)) (nI n), vp_updL k3 (o (d - 1)) (g6 d), upd k4 (o (d - 1)) (g7 d), upd k5 (o (d - 1)) (g8 d)) := by
        unfold sX1_end
        rw [o6, if_neg (nI_pos (by omega)), h10, if_pos (nI_lt o1 (by omega)), nI_clamp (by omega)]
      have edm : (upd (upd I 2 (I 2 + 1)) 4 (I 4 - 1) 4).toNatClampNeg = d - 1 := by
        obtain ⟨e, rfl⟩ : ∃ e, d = e + 1 := ⟨d - 1, by omega⟩
        rw [pk_us, h8, nI_pred, nI_clamp (by omega)]; rfl
      have hI4 : I 4 - 1 = nI (d - 1) := by
        obtain ⟨e, rfl⟩ : ∃ e, d = e + 1 := ⟨d - 1, by omega⟩
        rw [h8, nI_pred]; rfl
      have hJ18 : J 18 - 1 = nI (d - 1) := by
        obtain ⟨e, rfl⟩ : ∃ e, d = e + 1 := ⟨d - 1, by omega⟩
        rw [h9, nI_pred]; rfl
      have eCl : sX2_close I I1 k1 k2 k3 k4 k5 g5 g6 g7 g8 = (upd (upd I 2 (I 2 + 1)) 4 (nI (d - 1)), upd k2 (o (d - 1)) (nI n), vp_updL k3 (o (d - 1)) (g6 d), upd k4 (o (d - 1)) (g7 d), upd k5 (o (d - 1)) (g8 d), vp_updL g6 (d - 1) (if (2000000001 : Int64) < g6 (d - 1) + g6 d * (k1 (o (d - 1))).toInt64 then 2000000001 else g6 (d - 1) + g6 d * (k1 (o (d - 1))).toInt64), (if g7 d = (-1 : Int32) then g7 else upd g7 (d - 1) (g7 d)), (if g8 d = (-1 : Int32) then g8 else upd g8 (d - 1) (g8 d))) := by
        unfold sX2_close
        rw [if_neg e4, if_neg hg, ecd, eE]
        dsimp only
        unfold sX2_addPicks
        rw [edm, hI4]
        by_cases c7 : g7 d = (-1 : Int32)
        · rw [if_pos c7, if_pos c7]
          by_cases c8 : g8 d = (-1 : Int32)
          · rw [if_pos c8, if_pos c8]
          · rw [if_neg c8, if_neg c8]
            first | rfl | simp [upd, nI_clamp (show d - 1 < 2 ^ 31 by omega)]
        · rw [if_neg c7, if_neg c7]
          by_cases c8 : g8 d = (-1 : Int32)
          · rw [if_pos c8, if_pos c8]
            first | rfl | simp [upd, nI_clamp (show d - 1 < 2 ^ 31 by omega)]
          · rw [if_neg c8, if_neg c8]
            first | rfl | simp [upd, nI_clamp (show d - 1 < 2 ^ 31 by omega)]
      have ei : (I 2 + 1).toInt = (I 2).toInt + 1 := by rw [ldk_ia (by rw [ldk_t1']; omega) (by rw [ldk_t1']; omega), ldk_t1']
      rw [eC, eCl]
      refine ⟨rfl, by omega, by dsimp only; rw [pk_un (by decide), pk_us, ei]; exact Int.le_refl _, (upd (upd J 15 (J 15 + 1)) 18 (J 18 - 1), q11, q12, upd q13 (o (d - 1)) (nI n), q16, q17), ⟨?_, ?_, ?_, ?_, ?_, ?_, ?_, ?_, ?_, h10, ?_, ?_, ?_, ?_⟩, rfl⟩
      · dsimp only
        refine ldk_PS_close (b := o (d - 1)) hPS (by omega) hp0 o5 hob rfl rfl rfl ?_ ?_ ?_ ?_ ?_ ?_
        · intro l hl; exact pk_uLn hl
        · intro l hl; dsimp only; split; rfl; exact pk_un hl
        · intro l hl; dsimp only; split; rfl; exact pk_un hl
        · dsimp only
          rw [pk_uLs]
          have hv : ((k1 (o (d - 1))).toInt64).toInt = (k1 (o (d - 1))).toInt := Int32.toInt_toInt64 _
          have hb1 : (g6 d).toInt * (k1 (o (d - 1))).toInt ≤ 2000000001 * 9999 := Int.mul_le_mul lvd.2 (by rw [← hA1]; exact o4) (by rw [← hA1]; omega) (by decide)
          have hb0 : 0 ≤ (g6 d).toInt * (k1 (o (d - 1))).toInt := Int.mul_nonneg lvd.1 (by rw [← hA1]; omega)
          have em : (g6 d * (k1 (o (d - 1))).toInt64).toInt = (g6 d).toInt * (k1 (o (d - 1))).toInt := by rw [ldk_lm (by rw [hv]; omega) (by rw [hv]; omega), hv]
          have es : (g6 (d - 1) + g6 d * (k1 (o (d - 1))).toInt64).toInt = (g6 (d - 1)).toInt + (g6 d).toInt * (k1 (o (d - 1))).toInt := by rw [ldk_la (by rw [em]; omega) (by rw [em]; omega), em]
          generalize g6 (d - 1) + g6 d * (k1 (o (d - 1))).toInt64 = W at *
          have KM : (2000000001 : Int64).toInt = 2000000001 := by decide
          rw [← es]
          by_cases q : (2000000001 : Int64) < W
          · rw [if_pos q, KM]; rw [Int64.lt_iff_toInt_lt, KM] at q; rw [if_neg (by omega)]
          · rw [if_neg q]; rw [Int64.lt_iff_toInt_lt, KM] at q; rw [if_pos (by omega)]
        · dsimp only; split; rfl; exact pk_us ..
        · dsimp only; split; rfl; exact pk_us ..
      · dsimp only; rw [pk_un (by decide), pk_us, pk_un (by decide), pk_us, h2]
      · dsimp only; rw [pk_un (by decide), pk_un (by decide)]; exact h3
      · dsimp only; rw [pk_un (by decide), pk_us, ei]; omega
      · dsimp only; rw [pk_un (by decide), pk_us, ei]; omega
      · dsimp only; rw [pk_un (by decide), pk_us, ei]; omega
      · dsimp only; rw [pk_un (by decide), pk_un (by decide)]; exact h7
      · dsimp only; rw [pk_us]
      · dsimp only; rw [pk_us]; exact hJ18
      · dsimp only; rw [pk_un (by decide), pk_un (by decide)]; exact h11
      · dsimp only; rw [pk_un (by decide), pk_un (by decide)]; exact h12
      · dsimp only; rw [pk_un (by decide), pk_un (by decide)]; exact Or.inl w
      · dsimp only; rw [pk_un (by decide), pk_un (by decide)]; intro z; rw [w] at z; exact absurd z (by decide)
end LDKI3
