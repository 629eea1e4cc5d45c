/-! ===== the two readers: one item, whatever it is ===== -/
def ldk_St (I0 f : Nat → Int32) (first : Int32) (p0 : Int) (R : RS) (S : Int32 × LdkRd) : Prop := (S.1 = 0 ∧ R.1 3 = S.2.1 15 ∧ 0 ≤ (S.2.1 15).toInt) ∨ (S.1 = 1 ∧ p0 + 1 ≤ (R.1 2).toInt ∧ ∃ (n' d' s' : Nat) (ym : LdkRd), 0 < n' ∧ ldk_PRn I0 first n' d' s' R ym ∧ S.2 = (sX7_skip ym.1 f, ym.2))
section LDKI4
variable {I0 f : Nat → Int32} {first : Int32} {n d s : Nat} {I I1 k0 k1 k2 : Nat → Int32} {k3 : Nat → Int64} {k4 k5 g5 : Nat → Int32} {g6 : Nat → Int64} {g7 g8 J q11 q12 q13 q16 q17 : Nat → Int32}
theorem ldk_rdW_eq {c : Int32} (h : sX7_see J f = c) : ldk_rdW f J q11 q12 q13 q16 q17 = if (sX7_readsWord (upd J 15 (J 15 + 1)) f q11 q12 q13 c).1 = 0 then (0, (sX7_readsWord (upd J 15 (J 15 + 1)) f q11 q12 q13 c).2.1, (sX7_readsWord (upd J 15 (J 15 + 1)) f q11 q12 q13 c).2.2.1, (sX7_readsWord (upd J 15 (J 15 + 1)) f q11 q12 q13 c).2.2.2.1, (sX7_readsWord (upd J 15 (J 15 + 1)) f q11 q12 q13 c).2.2.2.2, q16, q17) else (1, sX7_skip (upd (upd (sX7_readsWord (upd J 15 (J 15 + 1)) f q11 q12 q13 c).2.1 15 ((sX7_readsWord (upd J 15 (J 15 + 1)) f q11 q12 q13 c).2.1 15 - 1 + 1)) 43 0) f, (sX7_readsWord (upd J 15 (J 15 + 1)) f q11 q12 q13 c).2.2.1, (sX7_readsWord (upd J 15 (J 15 + 1)) f q11 q12 q13 c).2.2.2.1, (sX7_readsWord (upd J 15 (J 15 + 1)) f q11 q12 q13 c).2.2.2.2, q16, q17) := by
  subst h; rfl
theorem ldk_rdO_eq {c : Int32} (h : sX7_see J f = c) : ldk_rdO f J q11 q12 q13 q16 q17 = if (sX7_readsOpening (upd J 15 (J 15 + 1)) f q11 q12 q13 q16 q17 c).1 = 0 then (0, (sX7_readsOpening (upd J 15 (J 15 + 1)) f q11 q12 q13 q16 q17 c).2) else (1, sX7_skip (upd (sX7_readsOpening (upd J 15 (J 15 + 1)) f q11 q12 q13 q16 q17 c).2.1 15 ((sX7_readsOpening (upd J 15 (J 15 + 1)) f q11 q12 q13 q16 q17 c).2.1 15 - 1 + 1)) f, (sX7_readsOpening (upd J 15 (J 15 + 1)) f q11 q12 q13 q16 q17 c).2.2) := by
  subst h; rfl
theorem ldk_open3 {X : Nat → Int32} {a b : Int32} (h : ¬ X 3 = -1) : (sX2_open X I0 f I1 k0 k1 g5 g6 g7 g8 a b).1 3 = X 3 := by
  have hf : ∀ p, sX2_faultAt (upd X 2 p) p 3 = X 3 := fun p => by
    unfold sX2_faultAt; rw [if_neg (by rw [pk_un (by decide)]; exact h), pk_un (by decide)]
  unfold sX2_open
  split
  · split
    · dsimp only; rw [pk_un (by decide), pk_un (by decide)]
    · exact hf _
  · exact hf _
theorem ldk_fa1 {Y : Nat → Int32} {p : Int32} (h : Y 3 = -1) : sX2_faultAt Y p 3 = p := by unfold sX2_faultAt; rw [if_pos h, pk_us]
theorem ldk_fa2 {Y : Nat → Int32} {p : Int32} (h : ¬ Y 3 = -1) : sX2_faultAt Y p 3 = Y 3 := by unfold sX2_faultAt; rw [if_neg h]
set_option maxHeartbeats 2000000 in
theorem ldk_step (hs : (I0 1).toInt ≤ 160) (h : ldk_PRn I0 first n d s (I, I1, k0, k1, k2, k3, k4, k5, g5, g6, g7, g8) (J, q11, q12, q13, q16, q17)) (hlt : (I 2).toInt < (I0 1).toInt) :
    ldk_St I0 f first (I 2).toInt (sX2_readItem I I0 f I1 k0 k1 k2 k3 k4 k5 g5 g6 g7 g8) (ldk_rdS f J q11 q12 q13 q16 q17) := by
  have hPR := h
  obtain ⟨h1, h2, h3, h4, h5, h6, h7, h8, h9, h10, h11, h12, h13, h14⟩ := h
  dsimp only at h1 h2 h3 h4 h5 h6 h7 h8 h9 h10 h11 h12 h13 h14
  have hsee : sX7_see J f = sX5_charOf I0 f (I 2) := by rw [ldk_see h3 (by rw [h2]; exact h4), h2]
  have ei : (I 2 + 1).toInt = (I 2).toInt + 1 := by rw [ldk_ia (by rw [ldk_t1']; omega) (by rw [ldk_t1']; omega), ldk_t1']
  -- what stands behind the letter
  have j2 : upd J 15 (J 15 + 1) 2 = I0 1 := by rw [pk_un (by decide)]; exact h3
  have jp : upd J 15 (J 15 + 1) 15 = upd I 2 (I 2 + 1) 2 := by rw [pk_us, pk_us, h2]
  have jx : upd I 2 (I 2 + 1) 2 = I 2 + 1 := pk_us ..
  have jx0 : 0 ≤ (upd I 2 (I 2 + 1) 2).toInt := by rw [jx, ei]; omega
  have jx1 : (upd I 2 (I 2 + 1) 2).toInt ≤ (I0 1).toInt := by rw [jx, ei]; omega
  have jx3 : upd I 2 (I 2 + 1) 3 = -1 := by rw [pk_un (by decide)]; exact h7
  have jx4 : upd I 2 (I 2 + 1) 4 = nI d := by rw [pk_un (by decide)]; exact h8
  have hd6 : d ≤ 6 := by obtain ⟨_, _, _, _, _, _, z, _⟩ := h1; exact z
  have cd : ∀ (Y : Nat → Int32), Y 4 = nI d → (Y 4).toNatClampNeg = d := fun Y hY => by rw [hY]; exact nI_clamp (by omega)
  have wdone : ∀ {c kd v p : Int32} {dp : Nat} {V' : LdkV} {R : RS}, sX7_see J f = c → (c = 104 ∨ c = 99 ∨ c = 100) → ((kd = 0 ∧ dp = 1) ∨ (kd = 1 ∧ dp = 0 ∧ ¬ v = -1) ∨ (kd = 2 ∧ dp = 0 ∧ 20 ≤ v.toInt ∧ v.toInt ≤ 400)) → ldk_Wok (upd J 15 (J 15 + 1)) q11 q12 q13 (sX7_readsWord (upd J 15 (J 15 + 1)) f q11 q12 q13 c) kd v p (if kd = 0 then 1 else 0) → (upd I 2 (I 2 + 1) 2).toInt + 1 ≤ p.toInt → p.toInt ≤ (I0 1).toInt → V' = (g5, (if kd = 0 then vp_updL g6 d (if (2000000001 : Int64) < g6 d + 1 then 2000000001 else g6 d + 1) else g6), (if kd = 1 then upd g7 d v else g7), (if kd = 2 then upd g8 d v else g8)) → (n < 80 → R = (upd (upd I 2 (I 2 + 1)) 2 p, upd I1 6 (nI (n + 1)), upd k0 n kd, upd k1 n v, k2, k3, k4, k5, V')) → ldk_St I0 f first (I 2).toInt R (ldk_rdS f J q11 q12 q13 q16 q17) := by
    intro c kd v p dp V' R hc1 hc2 hk hK hp1 hp2 hV hR
    obtain ⟨hn, hP⟩ := ldk_wd (dp := dp) hs hPR hk hK (by rw [jx, ei] at hp1; omega) hp2 hV
    right
    have hS : ldk_rdS f J q11 q12 q13 q16 q17 = ldk_rdW f J q11 q12 q13 q16 q17 := ldk_rdS_w (by rw [hc1]; exact hc2)
    rw [hS, ldk_rdW_eq hc1, if_neg (by rw [hK.1]; decide), hR hn]
    exact ⟨rfl, by dsimp only; rw [pk_us]; rw [jx, ei] at hp1; omega, n + 1, d, s + dp, _, by omega, hP, rfl⟩
  have wfail : ∀ {c : Int32} {R : RS}, sX7_see J f = c → (c = 104 ∨ c = 99 ∨ c = 100) → (sX7_readsWord (upd J 15 (J 15 + 1)) f q11 q12 q13 c).1 = 0 → (sX7_readsWord (upd J 15 (J 15 + 1)) f q11 q12 q13 c).2.1 15 = upd I 2 (I 2 + 1) 2 → R.1 3 = upd I 2 (I 2 + 1) 2 → ldk_St I0 f first (I 2).toInt R (ldk_rdS f J q11 q12 q13 q16 q17) := by
    intro c R hc1 hc2 hK hK2 hR
    left
    have hS : ldk_rdS f J q11 q12 q13 q16 q17 = ldk_rdW f J q11 q12 q13 q16 q17 := ldk_rdS_w (by rw [hc1]; exact hc2)
    rw [hS, ldk_rdW_eq hc1, if_pos hK]
    exact ⟨rfl, by dsimp only; rw [hK2]; exact hR, by dsimp only; rw [hK2]; exact jx0⟩
  unfold sX2_readItem
  by_cases c41 : sX5_charOf I0 f (I 2) = 41
  · rw [if_pos c41]
    rw [c41] at hsee
    rw [ldk_rdS_c hsee]
    rcases ldk_cls2 (f := f) hs hPR hlt with ⟨e1, e2, e3⟩ | ⟨e1, e2, e5, ym, e3, e4⟩
    · exact Or.inl ⟨e1, e2, e3⟩
    · exact Or.inr ⟨e1, e5, n, d - 1, s, ym, e2, e3, e4⟩
  rw [if_neg c41]
  by_cases c99 : sX5_charOf I0 f (I 2) = 99
  · rw [if_pos c99]
    rw [c99] at hsee
    unfold sX2_readCarrier
    have hw := ldk_word_c (f := f) (q11 := q11) (q12 := q12) (q13 := q13) hs j2 jp jx0 jx1 jx3
    generalize sX2_readDigits (upd I 2 (I 2 + 1)) I0 f 8 1 = D at hw ⊢
    rcases hw with ⟨e1, e2, e3⟩ | ⟨v, p, e1, e2, e3, e4, e5⟩
    · exact wfail hsee (Or.inr (Or.inl rfl)) e1 e2 e3
    · refine wdone (kd := 1) (v := v) (p := p) (dp := 0) (V' := (g5, g6, upd g7 d v, g8)) hsee (Or.inr (Or.inl rfl)) (Or.inr (Or.inl ⟨rfl, rfl, e3⟩)) (by rw [if_neg (show ¬ (1 : Int32) = 0 by decide)]; exact e1) e4 e5 (by rw [if_neg (show ¬ (1 : Int32) = 0 by decide), if_pos (show (1 : Int32) = 1 from rfl), if_neg (show ¬ (1 : Int32) = 2 by decide)]) (fun hn => ?_)
      rw [e2, ldk_add1 h10 hn]
      dsimp only
      rw [cd _ (by rw [pk_un (by decide)]; exact jx4)]
  rw [if_neg c99]
  by_cases c100 : sX5_charOf I0 f (I 2) = 100
  · rw [if_pos c100]
    rw [c100] at hsee
    unfold sX2_readDensity
    have hw := ldk_word_d (f := f) (q11 := q11) (q12 := q12) (q13 := q13) hs j2 jp jx0 jx1 jx3
    generalize sX2_readDigits (upd I 2 (I 2 + 1)) I0 f 10 160 = D at hw ⊢
    rcases hw with ⟨e1, e2, e3, e4⟩ | ⟨v, p, e1, e2, e3, e4, e5, e6, e7⟩
    · refine wfail hsee (Or.inr (Or.inr rfl)) e1 e2 ?_
      rw [if_pos e3]
      dsimp only
      unfold sX2_faultAt
      by_cases q : D.2 3 = -1
      · rw [if_pos q, pk_us, jx]
      · rw [if_neg q]; exact e4.resolve_right q
    · refine wdone (kd := 2) (v := v) (p := p) (dp := 0) (V' := (g5, g6, g7, upd g8 d v)) hsee (Or.inr (Or.inr rfl)) (Or.inr (Or.inr ⟨rfl, rfl, e4, e5⟩)) (by rw [if_neg (show ¬ (2 : Int32) = 0 by decide)]; exact e1) e6 e7 (by rw [if_neg (show ¬ (2 : Int32) = 0 by decide), if_neg (show ¬ (2 : Int32) = 1 by decide), if_pos (show (2 : Int32) = 2 from rfl)]) (fun hn => ?_)
      rw [e2]
      dsimp only
      rw [if_neg e3, ldk_add1 h10 hn]
      dsimp only
      rw [cd _ (by rw [pk_un (by decide)]; exact jx4)]
  rw [if_neg c100]
  by_cases c104 : sX5_charOf I0 f (I 2) = 104
  · rw [if_pos c104]
    rw [c104] at hsee
    unfold sX2_readPick
    have hw := ldk_word_h (f := f) (q11 := q11) (q12 := q12) (q13 := q13) hs j2 jp jx0 jx1 jx3
    generalize sX2_readDigits (upd I 2 (I 2 + 1)) I0 f 16 6 = D at hw ⊢
    rcases hw with ⟨e1, e2, e3⟩ | ⟨v, p, e1, e2, e3, e4⟩
    · exact wfail hsee (Or.inl rfl) e1 e2 e3
    · refine wdone (kd := 0) (v := v) (p := p) (dp := 1) (V' := (g5, vp_updL g6 d (if (2000000001 : Int64) < g6 d + 1 then 2000000001 else g6 d + 1), g7, g8)) hsee (Or.inl rfl) (Or.inl ⟨rfl, rfl⟩) (by rw [if_pos (show (0 : Int32) = 0 from rfl)]; exact e1) e3 e4 (by rw [if_pos (show (0 : Int32) = 0 from rfl), if_neg (show ¬ (0 : Int32) = 1 by decide), if_neg (show ¬ (0 : Int32) = 2 by decide)]) (fun hn => ?_)
      rw [e2, ldk_add1 h10 hn]
      dsimp only
      unfold sX2_addPicks
      rw [cd _ (by rw [pk_un (by decide)]; exact jx4)]
  rw [if_neg c104]
  have odone : ∀ {c kd v : Int32} {Jm X : Nat → Int32} {R : RS}, sX7_see J f = c → ((c = 114 ∧ kd = 3) ∨ (c = 109 ∧ kd = 4 ∧ v = 2)) → 1 ≤ v.toInt → v.toInt ≤ 9999 → sX7_readsOpening (upd J 15 (J 15 + 1)) f q11 q12 q13 q16 q17 c = ldk_oE c v Jm f q11 q12 q13 q16 q17 → Jm 15 = X 2 → (∀ j, j ≠ 15 → Jm j = J j) → (upd I 2 (I 2 + 1) 2).toInt ≤ (X 2).toInt → (X 2).toInt ≤ (I0 1).toInt → X 3 = -1 → X 4 = nI d → R = ((sX2_open X I0 f I1 k0 k1 g5 g6 g7 g8 kd v).1, (sX2_open X I0 f I1 k0 k1 g5 g6 g7 g8 kd v).2.1, (sX2_open X I0 f I1 k0 k1 g5 g6 g7 g8 kd v).2.2.1, (sX2_open X I0 f I1 k0 k1 g5 g6 g7 g8 kd v).2.2.2.1, k2, k3, k4, k5, (sX2_open X I0 f I1 k0 k1 g5 g6 g7 g8 kd v).2.2.2.2) → ldk_St I0 f first (I 2).toInt R (ldk_rdS f J q11 q12 q13 q16 q17) := by
    intro c kd v Jm X R hc1 hc2 hv1 hv2 hO hX hJ hx1 hx2 hx3 hx4 hR
    have hS : ldk_rdS f J q11 q12 q13 q16 q17 = ldk_rdO f J q11 q12 q13 q16 q17 := ldk_rdS_o (by rw [hc1]; rcases hc2 with q | q; exact Or.inl q.1; exact Or.inr q.1)
    have hq := ldk_opn (first := first) (f := f) (I0 := I0) (I1 := I1) (X := X) (Jm := Jm) hc2 hv1 hv2 hs h1 h10 hX (by rw [hJ 2 (by decide)]; exact h3) (by rw [jx, ei] at hx1; omega) hx2 hx3 hx4 (by rw [hJ 18 (by decide)]; exact h9) (by rw [hJ 14 (by decide)]; exact h11) (by rw [hJ 19 (by decide)]; exact h12)
    rw [hS, ldk_rdO_eq hc1, hO, hR]
    generalize ldk_oE c v Jm f q11 q12 q13 q16 q17 = K at hq ⊢
    generalize sX2_open X I0 f I1 k0 k1 g5 g6 g7 g8 kd v = O at hq ⊢
    rcases hq with ⟨e1, e2, e3⟩ | ⟨e1, e4, e2⟩
    · rw [if_pos e1]; exact Or.inl ⟨rfl, e2, e3⟩
    · rw [if_neg (by rw [e1]; decide)]; exact Or.inr ⟨rfl, by dsimp only; rw [jx, ei] at hx1; omega, n + 1, d + 1, s, _, by omega, e2, rfl⟩
  by_cases c109 : sX5_charOf I0 f (I 2) = 109
  · rw [if_pos c109]
    rw [c109] at hsee
    refine odone (c := 109) (kd := 4) (v := 2) (Jm := upd J 15 (J 15 + 1)) (X := upd I 2 (I 2 + 1)) hsee (Or.inr ⟨rfl, rfl, rfl⟩) (by decide) (by decide) ?_ jp (fun j hj => pk_un hj) (Int.le_refl _) jx1 jx3 jx4 (by generalize sX2_open (upd I 2 (I 2 + 1)) I0 f I1 k0 k1 g5 g6 g7 g8 4 2 = O; rfl)
    unfold sX7_readsOpening
    rw [if_neg (by decide)]
  rw [if_neg c109]
  by_cases c114 : sX5_charOf I0 f (I 2) = 114
  · rw [if_pos c114]
    rw [c114] at hsee
    have hS : ldk_rdS f J q11 q12 q13 q16 q17 = ldk_rdO f J q11 q12 q13 q16 q17 := ldk_rdS_o (by rw [hsee]; exact Or.inl rfl)
    have K10 : (10 : Int32).toInt = 10 := by decide
    obtain ⟨k, e1, e2, e3, e4, e5, e6, e7⟩ := ldk_digs (I0 := I0) (f := f) (b := 10) (c := 114) (fr := upd J 15 (J 15 + 1) 15) (mo := 4) (Or.inl rfl) (by omega) hs (fun i v w => v = w ∧ 0 ≤ v.toInt ∧ v.toInt < ldk_B 10 i) (by
      intro i v w dg ⟨e, q1, q2⟩ d0 d1 hi
      subst e
      have hB := ldk_B10 (i + 1) (by omega)
      have hB' : (10 : Int) * ldk_B 10 i ≤ 10000 := hB
      rw [K10] at d1
      have em : (v * 10).toInt = v.toInt * 10 := by rw [ldk_im (by rw [K10]; omega) (by rw [K10]; omega), K10]
      have ea : (v * 10 + dg).toInt = v.toInt * 10 + dg.toInt := by rw [ldk_ia (by rw [em]; omega) (by rw [em]; omega), em]
      rw [if_neg (by rw [Int32.lt_iff_toInt_lt, ea, show (16777215 : Int32).toInt = 16777215 by decide]; omega)]
      refine ⟨?_, by rw [ea]; omega, ?_⟩
      · unfold ldk_num; rw [if_neg (by decide), Int32.mul_comm]
      · rw [ea]; show v.toInt * 10 + dg.toInt < 10 * ldk_B 10 i; omega) 4 0 0 0 (upd J 15 (J 15 + 1)) 161 rfl j2 (by rw [jp]; exact jx0) (by omega) (by rw [jp]; exact jx1) ⟨rfl, by decide, by decide⟩ (by rw [jp]; omega)
    have eW : ldk_oW (upd J 15 (J 15 + 1)) f = ldk_wF f 114 10 (nI 4) (upd J 15 (J 15 + 1) 15) 161 0 (upd J 15 (J 15 + 1)) := rfl
    rw [← eW] at e2 e3 e4
    rw [jp] at e2 e4 e5 e6 e7
    obtain ⟨pd, vd, hrd⟩ : ∃ pd vd, rdF I0 f 10 4 (upd I 2 (I 2 + 1) 2) 0 = (pd, vd) := ⟨_, _, rfl⟩
    obtain ⟨g1, g2⟩ := ldk_rdg (I0 := I0) (f := f) (I := upd I 2 (I 2 + 1)) (b := 10) (m := 4) (p := pd) (v := vd) (by rw [show (4 : Int32).toNatClampNeg = 4 by decide]; exact hrd) jx3
    rw [hrd] at e2 e4 e5 e6 e7
    dsimp only at e2 e4 e5 e6 e7
    obtain ⟨v0, v1, v2⟩ := e4
    have hB4 := ldk_B10 (0 + k) (by omega)
    have jxp : (upd I 2 (I 2 + 1) 2).toInt ≤ pd.toInt := by omega
    have hD1 : (sX2_readDigits (upd I 2 (I 2 + 1)) I0 f 10 4).1 = vd := by
      by_cases q : pd = upd I 2 (I 2 + 1) 2
      · rw [g1 q]
      · rw [g2 q]
    unfold sX2_readRepeat
    generalize sX2_readDigits (upd I 2 (I 2 + 1)) I0 f 10 4 = D at g1 g2 hD1 ⊢
    rw [hD1]
    by_cases cv : vd = 0
    · -- no times
      rw [if_pos cv, hS, ldk_rdO_eq hsee]
      unfold sX7_readsOpening
      rw [if_pos (show (114 : Int32) = 114 from rfl), ← v0, if_pos cv]
      unfold ldk_oB
      rw [if_pos cv]
      have hat : (if (ldk_oW (upd J 15 (J 15 + 1)) f).2 15 ≤ upd J 15 (J 15 + 1) 15 then (ldk_oW (upd J 15 (J 15 + 1)) f).2 15 else upd J 15 (J 15 + 1) 15) = upd I 2 (I 2 + 1) 2 := by
        rw [e2, jp]
        by_cases q : pd ≤ upd I 2 (I 2 + 1) 2
        · rw [if_pos q, ldk_eq]; rw [Int32.le_iff_toInt_le] at q; omega
        · rw [if_neg q]
      rw [hat, if_pos rfl]
      have hX3 : sX2_faultAt D.2 (I 2 + 1) 3 = upd I 2 (I 2 + 1) 2 := by
        by_cases q : pd = upd I 2 (I 2 + 1) 2
        · have e : D.2 3 = upd I 2 (I 2 + 1) 2 := by rw [g1 q]; dsimp only; rw [pk_us]; exact q
          exact (ldk_fa2 (by rw [e, ldk_ne, show (-1 : Int32).toInt = -1 by decide]; omega)).trans e
        · have e : D.2 3 = -1 := by rw [g2 q]; dsimp only; rw [pk_un (by decide)]; exact jx3
          exact (ldk_fa1 e).trans jx.symm
      refine Or.inl ⟨rfl, ?_, ?_⟩
      · dsimp only
        rw [ldk_open3 (by rw [hX3, ldk_ne, show (-1 : Int32).toInt = -1 by decide]; omega), hX3]; exact (pk_us ..).symm
      · dsimp only; rw [pk_us]; exact jx0
    · rw [if_neg cv]
      have hk1 : 1 ≤ k := by
        rcases Nat.eq_zero_or_pos k with z | z
        · exfalso; apply cv
          subst z
          have v2' : vd.toInt < 1 := v2
          rw [ldk_eq, ldk_t0']; omega
        · exact z
      have hne : ¬ pd = upd I 2 (I 2 + 1) 2 := fun z => by rw [z] at e5; omega
      rw [g2 hne]
      dsimp only
      have hv1 : 1 ≤ vd.toInt := by
        have : vd.toInt ≠ 0 := fun z => cv (ldk_eq.mpr (z.trans ldk_t0'.symm))
        omega
      have hsee2 : sX7_see (ldk_oW (upd J 15 (J 15 + 1)) f).2 f = sX5_charOf I0 f pd := by
        rw [ldk_see (I0 := I0) (by rw [e3 2 (by decide)]; exact j2) (by rw [e2]; omega), e2]
      have hx2 : upd (upd I 2 (I 2 + 1)) 2 pd 2 = pd := pk_us ..
      by_cases c10 : (10 : Int32) ≤ sX7_digit (sX5_charOf I0 f pd)
      · refine odone (c := 114) (kd := 3) (v := vd) (Jm := (ldk_oW (upd J 15 (J 15 + 1)) f).2) (X := upd (upd I 2 (I 2 + 1)) 2 pd) hsee (Or.inl ⟨rfl, rfl⟩) hv1 (by omega) ?_ (by rw [e2, hx2]) (fun j hj => (e3 j hj).trans (pk_un hj)) (by rw [hx2]; exact jxp) (by rw [hx2]; exact e6) (by rw [pk_un (by decide)]; exact jx3) (by rw [pk_un (by decide)]; exact jx4) (by generalize sX2_open (upd (upd I 2 (I 2 + 1)) 2 pd) I0 f I1 k0 k1 g5 g6 g7 g8 3 vd = O; rfl)
        unfold sX7_readsOpening
        rw [if_pos (show (114 : Int32) = 114 from rfl), ← v0, if_neg cv, hsee2, if_pos c10]
      · -- a fifth digit
        have n32 : ¬ sX5_charOf I0 f pd = 32 := fun z => c10 (by rw [z]; decide)
        have n40 : ¬ sX5_charOf I0 f pd = 40 := fun z => c10 (by rw [z]; decide)
        have hbb : sX5_behindBlanks I0 f pd = pd := by
          unfold sX5_behindBlanks
          rw [bbF, if_neg n32]
        rw [hS, ldk_rdO_eq hsee]
        unfold sX7_readsOpening
        rw [if_pos (show (114 : Int32) = 114 from rfl), ← v0, if_neg cv, hsee2, if_neg c10]
        unfold ldk_oB
        rw [if_neg cv, if_pos rfl]
        refine Or.inl ⟨rfl, ?_, ?_⟩
        · dsimp only
          unfold sX2_open
          rw [hx2, hbb, if_neg n40]
          dsimp only
          unfold sX2_faultAt
          rw [pk_un (by decide), pk_un (by decide), jx3, if_pos rfl, pk_us, pk_us, e2]
        · dsimp only; rw [pk_us, e2]; omega
  · rw [if_neg c114]
    left
    rw [ldk_rdS_x (by rw [hsee]; exact c41) (by rw [hsee]; exact c104) (by rw [hsee]; exact c99) (by rw [hsee]; exact c100) (by rw [hsee]; exact c114) (by rw [hsee]; exact c109)]
    refine ⟨rfl, ?_, by dsimp only; rw [h2]; exact h4⟩
    dsimp only
    unfold sX2_faultAt
    rw [if_pos h7, pk_us, h2]
end LDKI4
