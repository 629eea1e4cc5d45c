/-! ===== the two readers: the whole text ===== -/
section LDKI5
variable {I0 f : Nat → Int32} {first : Int32} {J q11 q12 q13 q16 q17 : Nat → Int32}
theorem ldk_rW_keep (c : Int32) (h0 : 0 ≤ (J 15).toInt) (h2 : (J 2).toInt ≤ 160) : 0 ≤ ((sX7_readsWord J f q11 q12 q13 c).2.1 15).toInt ∧ ∀ k, k ≠ 14 → k ≠ 15 → k ≠ 19 → (sX7_readsWord J f q11 q12 q13 c).2.1 k = J k := by
  have hZ : (J 15).toInt ≤ ((ldk_rwZ J f c).2 15).toInt ∧ ∀ j, j ≠ 15 → (ldk_rwZ J f c).2 j = J j := by
    obtain ⟨g1, -, g3⟩ := ldk_wF_gen (f := f) (c := c) (mo := if c = (104 : Int32) then (6 : Int32) else (if c = (99 : Int32) then (1 : Int32) else (160 : Int32))) (fr := J 15) (ldk_ba c) 161 0 J h0 h2
    exact ⟨g1, g3⟩
  unfold sX7_readsWord
  generalize ldk_rwZ J f c = Z at hZ ⊢
  obtain ⟨g1, g3⟩ := hZ
  have hJ : 0 ≤ (Z.2 15).toInt ∧ ∀ k, k ≠ 14 → k ≠ 15 → k ≠ 19 → Z.2 k = J k := ⟨by omega, fun k _ b _ => g3 k b⟩
  have hF : 0 ≤ (upd Z.2 15 (J 15) 15).toInt ∧ ∀ k, k ≠ 14 → k ≠ 15 → k ≠ 19 → upd Z.2 15 (J 15) k = J k := ⟨by rw [pk_us]; exact h0, fun k _ b _ => by rw [pk_un b]; exact g3 k b⟩
  have hG : 0 ≤ ((ldk_rwG c Z.1 Z.2 q11 q12 q13).2.1 15).toInt ∧ ∀ k, k ≠ 14 → k ≠ 15 → k ≠ 19 → (ldk_rwG c Z.1 Z.2 q11 q12 q13).2.1 k = J k := by
    unfold ldk_rwG sX7_item
    dsimp only
    exact ⟨by rw [pk_un (by decide), pk_un (by decide)]; omega, fun k a b d => by rw [pk_un a, pk_un d]; exact g3 k b⟩
  unfold ldk_rwT
  repeat' split
  all_goals first | exact hG | exact hF | exact hJ
theorem ldk_oE_keep {c v : Int32} (h0 : 0 ≤ (J 15).toInt) (h2 : (J 2).toInt ≤ 160) : 0 ≤ ((ldk_oE c v J f q11 q12 q13 q16 q17).2.1 15).toInt ∧ ∀ k, k ≠ 14 → k ≠ 15 → k ≠ 18 → k ≠ 43 → (ldk_oE c v J f q11 q12 q13 q16 q17).2.1 k = J k := by
  have k0 := sk_pos J f h0 h2
  have kk : ∀ k, k ≠ 15 → sX7_skip J f k = J k := fun k hk => sk_keep J f hk
  have k2 : ((sX7_skip J f) 2).toInt ≤ 160 := by rw [kk 2 (by decide)]; exact h2
  unfold ldk_oE
  generalize sX7_skip J f = K at k0 kk k2 ⊢
  have hJ : 0 ≤ (K 15).toInt ∧ ∀ k, k ≠ 14 → k ≠ 15 → k ≠ 18 → k ≠ 43 → K k = J k := ⟨k0, fun k _ b _ _ => kk k b⟩
  by_cases c40 : sX7_see K f = (40 : Int32)
  · rw [if_pos c40]
    have hlt : (K 15).toInt < (K 2).toInt := by
      by_cases z : K 2 ≤ K 15
      · unfold sX7_see at c40; rw [if_pos z] at c40; exact absurd c40 (by decide)
      · rw [Int32.le_iff_toInt_le] at z; omega
    have hG : 0 ≤ ((ldk_oG c v K q11 q12 q13 q16 q17).2.1 15).toInt ∧ ∀ k, k ≠ 14 → k ≠ 15 → k ≠ 18 → k ≠ 43 → (ldk_oG c v K q11 q12 q13 q16 q17).2.1 k = J k := by
      unfold ldk_oG sX7_item
      dsimp only
      refine ⟨?_, fun k a b d e => by rw [pk_un e, pk_un a, pk_un d, pk_un b]; exact kk k b⟩
      rw [pk_un (by decide), pk_un (by decide), pk_un (by decide), pk_us, ldk_ia (by rw [ldk_t1']; omega) (by rw [ldk_t1']; omega), ldk_t1']; omega
    by_cases c6 : K 18 = (6 : Int32)
    · rw [if_pos c6]; exact hJ
    · rw [if_neg c6]; exact hG
  · rw [if_neg c40]; exact hJ
theorem ldk_rO_keep (c : Int32) (h0 : 0 ≤ (J 15).toInt) (h2 : (J 2).toInt ≤ 160) : 0 ≤ ((sX7_readsOpening J f q11 q12 q13 q16 q17 c).2.1 15).toInt ∧ ∀ k, k ≠ 14 → k ≠ 15 → k ≠ 18 → k ≠ 43 → (sX7_readsOpening J f q11 q12 q13 q16 q17 c).2.1 k = J k := by
  unfold sX7_readsOpening
  by_cases c1 : c = (114 : Int32)
  · rw [if_pos c1]
    have hW : (J 15).toInt ≤ ((ldk_oW J f).2 15).toInt ∧ ∀ j, j ≠ 15 → (ldk_oW J f).2 j = J j := by
      obtain ⟨g1, -, g3⟩ := ldk_wF_gen (f := f) (c := 114) (b := 10) (mo := 4) (fr := J 15) (by decide) 161 0 J h0 h2
      exact ⟨g1, g3⟩
    generalize ldk_oW J f = Z at hW ⊢
    obtain ⟨g1, g3⟩ := hW
    have hB : 0 ≤ ((ldk_oB J Z.1 Z.2 q11 q12 q13 q16 q17).2.1 15).toInt ∧ ∀ k, k ≠ 14 → k ≠ 15 → k ≠ 18 → k ≠ 43 → (ldk_oB J Z.1 Z.2 q11 q12 q13 q16 q17).2.1 k = J k := by
      unfold ldk_oB
      dsimp only
      refine ⟨?_, fun k _ b _ _ => by rw [pk_un b]; exact g3 k b⟩
      rw [pk_us]
      split
      · split
        · omega
        · exact h0
      · omega
    have hE := ldk_oE_keep (f := f) (J := Z.2) (q11 := q11) (q12 := q12) (q13 := q13) (q16 := q16) (q17 := q17) (c := c) (v := Z.1) (by omega) (by rw [g3 2 (by decide)]; exact h2)
    have hE' : 0 ≤ ((ldk_oE c Z.1 Z.2 f q11 q12 q13 q16 q17).2.1 15).toInt ∧ ∀ k, k ≠ 14 → k ≠ 15 → k ≠ 18 → k ≠ 43 → (ldk_oE c Z.1 Z.2 f q11 q12 q13 q16 q17).2.1 k = J k := ⟨hE.1, fun k a b d e => (hE.2 k a b d e).trans (g3 k b)⟩
    split
    · exact hB
    · split
      · exact hE'
      · exact hB
  · rw [if_neg c1]
    exact ldk_oE_keep h0 h2
/-- what an item leaves alone -/
theorem ldk_rdS_keep (h0 : 0 ≤ (J 15).toInt) (h2 : (J 2).toInt ≤ 160) (hlt : (J 15).toInt < (J 2).toInt) (k : Nat) (a : k ≠ 14) (b : k ≠ 15) (d : k ≠ 18) (e : k ≠ 19) (g : k ≠ 43) : (ldk_rdS f J q11 q12 q13 q16 q17).2.1 k = J k := by
  have ei : (J 15 + 1).toInt = (J 15).toInt + 1 := by rw [ldk_ia (by rw [ldk_t1']; omega) (by rw [ldk_t1']; omega), ldk_t1']
  have w := (ldk_rW_keep (f := f) (J := upd J 15 (J 15 + 1)) (q11 := q11) (q12 := q12) (q13 := q13) (sX7_see J f) (by rw [pk_us, ei]; omega) (by rw [pk_un (by decide)]; exact h2)).2 k a b e
  have o := (ldk_rO_keep (f := f) (J := upd J 15 (J 15 + 1)) (q11 := q11) (q12 := q12) (q13 := q13) (q16 := q16) (q17 := q17) (sX7_see J f) (by rw [pk_us, ei]; omega) (by rw [pk_un (by decide)]; exact h2)).2 k a b d g
  rw [pk_un b] at w o
  unfold ldk_rdS
  split
  · unfold ldk_rdC
    repeat' split
    all_goals first | rfl | (dsimp only; rw [sk_keep _ _ b, pk_un d, pk_un b])
  · split
    · unfold ldk_rdW
      split
      · exact w
      · dsimp only; rw [sk_keep _ _ b, pk_un g, pk_un b]; exact w
    · split
      · unfold ldk_rdO
        split
        · exact o
        · dsimp only; rw [sk_keep _ _ b, pk_un b]; exact o
      · rfl
theorem ldk_rF_flt {n : Nat} {x : RS} (h : ¬ x.1 3 = -1) : rF I0 f n x = x := by
  cases n with
  | zero => rfl
  | succ n => rw [rF, if_neg h]
theorem ldk_fa3 {Y : Nat → Int32} {p : Int32} (h : ¬ Y 3 = -1) : sX2_faultAt Y p = Y := by unfold sX2_faultAt; rw [if_neg h]
theorem ldk_rEnd_flt {x : RS} (h : ¬ x.1 3 = -1) : rEnd I0 first x 3 = x.1 3 := by
  unfold rEnd
  rw [ldk_fa3 h, show (if x.1 4 ≤ 0 then x.1 else x.1) = x.1 by split <;> rfl, ldk_fa3 h]
  split
  · rfl
  · split <;> rfl
theorem ldk_lp_end (hs : (I0 1).toInt ≤ 160) {fu m : Nat} {x : RS} {y : LdkRd} {n d s : Nat} (h : ldk_PRn I0 first n d s x y) (c : I0 1 ≤ x.1 2) (hm : 160 < (x.1 2).toInt + m) :
    ldk_rdOK f m y ∧ (∀ k, k ≠ 14 → k ≠ 15 → k ≠ 18 → k ≠ 19 → k ≠ 43 → (ldk_rdF f m y).2.1 k = y.1 k) ∧
    (((ldk_rdF f m y).1 = 0 ∧ rEnd I0 first (rF I0 f fu x) 3 = (ldk_rdF f m y).2.1 15 ∧ 0 ≤ ((ldk_rdF f m y).2.1 15).toInt) ∨
     ((ldk_rdF f m y).1 = 1 ∧ ∃ n s, ldk_PRn I0 first n 0 s (rF I0 f fu x) (ldk_rdF f m y).2)) := by
  have km1 : (-1 : Int32).toInt = -1 := by decide
  obtain ⟨I, I1, k0, k1, k2, k3, k4, k5, g5, g6, g7, g8⟩ := x
  obtain ⟨J, q11, q12, q13, q16, q17⟩ := y
  have hPR := h
  obtain ⟨h1, h2, h3, h4, h5, h6, h7, h8, h9, h10, h11, h12, h13, h14⟩ := h
  dsimp only at h1 h2 h3 h4 h5 h6 h7 h8 h9 h10 h11 h12 h13 h14 c hm
  have ci := c
  rw [Int32.le_iff_toInt_le] at ci
  have ex : I 2 = I0 1 := ldk_eq.mpr (by omega)
  obtain ⟨m', rfl⟩ : ∃ m', m = m' + 1 := ⟨m - 1, by omega⟩
  have hc : J 2 ≤ J 15 := by rw [h3, h2]; exact c
  have erF : rF I0 f fu (I, I1, k0, k1, k2, k3, k4, k5, g5, g6, g7, g8) = (I, I1, k0, k1, k2, k3, k4, k5, g5, g6, g7, g8) := by
    cases fu with
    | zero => rfl
    | succ fu => rw [rF, if_pos h7, if_pos c]
  have erd : ldk_rdF f (m' + 1) (J, q11, q12, q13, q16, q17) = (ldk_rdE J, J, q11, q12, q13, q16, q17) := by
    rw [ldk_rdF, if_pos hc]
  have eOK : ldk_rdOK f (m' + 1) (J, q11, q12, q13, q16, q17) = (0 ≤ (J 15).toInt ∧ (J 2).toInt ≤ 160 ∧ (¬ J 2 ≤ J 15 → ldk_rdG f J q11 q12 q13 q16 q17 ∧ (¬ (ldk_rdS f J q11 q12 q13 q16 q17).1 = 0 → ldk_rdOK f m' (ldk_rdS f J q11 q12 q13 q16 q17).2))) := rfl
  have hd6 : d ≤ 6 := by obtain ⟨_, _, _, _, _, _, z, _⟩ := h1; exact z
  rw [erF, erd, eOK]
  refine ⟨⟨by rw [h2]; exact h4, by rw [h3]; exact hs, fun z => absurd hc z⟩, fun _ _ _ _ _ _ => rfl, ?_⟩
  have e0 : (0 : Int32).toNatClampNeg = 0 := rfl
  by_cases hd : d = 0
  · subst hd
    have e18 : J 18 = 0 := h9
    by_cases w : J 43 = 0
    · right
      refine ⟨?_, n, s, hPR⟩
      dsimp only
      unfold ldk_rdE
      rw [if_pos e18, if_pos w]
    · left
      have w1 : J 43 = 1 := h13.resolve_left w
      obtain ⟨-, n0, f0⟩ := (h14 w1).resolve_right (fun z => by omega)
      have hg6 : (g6 0).toInt = 0 := by
        obtain ⟨X, E, o, bf, cs, b1, b2, b3, b4, b5, b6, b7, b8, b9⟩ := h1
        have l := (b7 0 (Nat.le_refl _)).1
        rw [if_pos rfl, if_pos rfl, n0] at l
        have e : cs 0 = [] := by
          have := (ldk_ch_le _ _ _ l.1).2
          exact List.eq_nil_of_length_eq_zero (by omega)
        have l2 := l.2.1
        rw [e] at l2
        exact l2
      refine ⟨?_, ?_, by dsimp only; rw [h2]; exact h4⟩
      · dsimp only; unfold ldk_rdE; rw [if_pos e18, if_neg w]
      · unfold rEnd
        dsimp only
        rw [e0, if_pos (show g6 0 < 1 by rw [Int64.lt_iff_toInt_lt, hg6, ldk_T1]; omega), if_pos (show I 4 ≤ 0 by rw [h8]; decide), ldk_fa1 h7, h2, f0]
  · left
    have hn18 : ¬ J 18 = 0 := by rw [h9, ldk_ne, nI_toInt (by omega), ldk_t0']; omega
    refine ⟨?_, ?_, by dsimp only; rw [h2]; exact h4⟩
    · dsimp only; unfold ldk_rdE; rw [if_neg hn18]
    · have hY : sX2_faultAt I (I0 1) 3 = I0 1 := ldk_fa1 h7
      have hYn : ¬ sX2_faultAt I (I0 1) 3 = -1 := by rw [hY, ldk_ne, km1]; omega
      unfold rEnd
      dsimp only
      rw [if_neg (show ¬ I 4 ≤ 0 by rw [h8, Int32.le_iff_toInt_le, nI_toInt (by omega), ldk_t0']; omega), ldk_fa3 hYn]
      have e : J 15 = I0 1 := h2.trans ex
      split
      · rw [hY, e]
      · split
        · rw [hY, e]
        · rw [hY, e]
theorem ldk_lp (hs : (I0 1).toInt ≤ 160) : ∀ (fu m : Nat) (x : RS) (y : LdkRd) (n d s : Nat), ldk_PRn I0 first n d s x y → 160 ≤ (x.1 2).toInt + fu → 160 < (x.1 2).toInt + m →
    ldk_rdOK f m y ∧ (∀ k, k ≠ 14 → k ≠ 15 → k ≠ 18 → k ≠ 19 → k ≠ 43 → (ldk_rdF f m y).2.1 k = y.1 k) ∧
    (((ldk_rdF f m y).1 = 0 ∧ rEnd I0 first (rF I0 f fu x) 3 = (ldk_rdF f m y).2.1 15 ∧ 0 ≤ ((ldk_rdF f m y).2.1 15).toInt) ∨
     ((ldk_rdF f m y).1 = 1 ∧ ∃ n s, ldk_PRn I0 first n 0 s (rF I0 f fu x) (ldk_rdF f m y).2)) := by
  have km1 : (-1 : Int32).toInt = -1 := by decide
  intro fu
  induction fu with
  | zero =>
    intro m x y n d s h hf hm
    exact ldk_lp_end hs h (by obtain ⟨_, _, _, _, h5, _⟩ := h; rw [Int32.le_iff_toInt_le]; omega) hm
  | succ fu ih =>
    intro m x y n d s h hf hm
    by_cases c : I0 1 ≤ x.1 2
    · exact ldk_lp_end hs h c hm
    obtain ⟨I, I1, k0, k1, k2, k3, k4, k5, g5, g6, g7, g8⟩ := x
    obtain ⟨J, q11, q12, q13, q16, q17⟩ := y
    have hPR := h
    obtain ⟨h1, h2, h3, h4, h5, h6, h7, h8, h9, h10, h11, h12, h13, h14⟩ := h
    dsimp only at h1 h2 h3 h4 h5 h6 h7 h8 h9 h10 h11 h12 h13 h14 c hf hm
    have hlt : (I 2).toInt < (I0 1).toInt := by rw [Int32.le_iff_toInt_le] at c; omega
    obtain ⟨m', rfl⟩ : ∃ m', m = m' + 1 := ⟨m - 1, by omega⟩
    have hc : ¬ J 2 ≤ J 15 := by rw [h3, h2]; exact c
    have j0 : 0 ≤ (J 15).toInt := by rw [h2]; exact h4
    have j2 : (J 2).toInt ≤ 160 := by rw [h3]; exact hs
    have jlt : (J 15).toInt < (J 2).toInt := by rw [h2, h3]; exact hlt
    have ei : (J 15 + 1).toInt = (J 15).toInt + 1 := by rw [ldk_ia (by rw [ldk_t1']; omega) (by rw [ldk_t1']; omega), ldk_t1']
    have hst := ldk_step (f := f) hs hPR hlt
    have hkp := ldk_rdS_keep (f := f) (q11 := q11) (q12 := q12) (q13 := q13) (q16 := q16) (q17 := q17) j0 j2 jlt
    have hG : ldk_rdG f J q11 q12 q13 q16 q17 := by
      obtain ⟨X, E, o, bf, cs, b1, b2, b3, b4, b5, b6, b7, b8, b9⟩ := h1
      have w := ldk_rW_keep (f := f) (J := upd J 15 (J 15 + 1)) (q11 := q11) (q12 := q12) (q13 := q13) (sX7_see J f) (by rw [pk_us, ei]; omega) (by rw [pk_un (by decide)]; exact j2)
      have o' := ldk_rO_keep (f := f) (J := upd J 15 (J 15 + 1)) (q11 := q11) (q12 := q12) (q13 := q13) (q16 := q16) (q17 := q17) (sX7_see J f) (by rw [pk_us, ei]; omega) (by rw [pk_un (by decide)]; exact j2)
      refine ⟨?_, ?_, ?_, ?_, ?_⟩
      · rw [h11]; exact vp_in_nI (by omega) (by omega)
      · rw [h9, nI_toInt (by omega)]; omega
      · intro z
        have hd : 0 < d := by
          rcases Nat.eq_zero_or_pos d with q | q
          · exact absurd (by rw [h9, q]; rfl) z
          · exact q
        have e1 : (J 18 - 1).toNatClampNeg = d - 1 := ldk_clamp (by rw [h9, ldk_is (by rw [nI_toInt (by omega), ldk_t1']; omega) (by rw [nI_toInt (by omega), ldk_t1']; omega), nI_toInt (by omega), ldk_t1']; omega)
        have := (b6 (d - 1) (by omega))
        rw [e1, this.2.2.2.2.1]
        exact vp_in_nI (by omega) (by omega)
      · rw [ldk_s1a, w.2 2 (by decide) (by decide) (by decide), pk_un (by decide)]; exact ⟨w.1, j2⟩
      · rw [ldk_s1a, o'.2 2 (by decide) (by decide) (by decide) (by decide), pk_un (by decide)]; exact ⟨o'.1, j2⟩
    have erF : rF I0 f (fu + 1) (I, I1, k0, k1, k2, k3, k4, k5, g5, g6, g7, g8) = rF I0 f fu (rStep I0 f (I, I1, k0, k1, k2, k3, k4, k5, g5, g6, g7, g8)) := by
      rw [rF, if_pos h7, if_neg c]
    have eSt : rStep I0 f (I, I1, k0, k1, k2, k3, k4, k5, g5, g6, g7, g8) = (upd (sX2_readItem I I0 f I1 k0 k1 k2 k3 k4 k5 g5 g6 g7 g8).1 2 (sX5_behindBlanks I0 f ((sX2_readItem I I0 f I1 k0 k1 k2 k3 k4 k5 g5 g6 g7 g8).1 2)), (sX2_readItem I I0 f I1 k0 k1 k2 k3 k4 k5 g5 g6 g7 g8).2) := rfl
    have erd : ldk_rdF f (m' + 1) (J, q11, q12, q13, q16, q17) = if (ldk_rdS f J q11 q12 q13 q16 q17).1 = 0 then (0, (ldk_rdS f J q11 q12 q13 q16 q17).2) else ldk_rdF f m' (ldk_rdS f J q11 q12 q13 q16 q17).2 := by
      rw [ldk_rdF, if_neg hc]
    have eOK : ldk_rdOK f (m' + 1) (J, q11, q12, q13, q16, q17) = (0 ≤ (J 15).toInt ∧ (J 2).toInt ≤ 160 ∧ (¬ J 2 ≤ J 15 → ldk_rdG f J q11 q12 q13 q16 q17 ∧ (¬ (ldk_rdS f J q11 q12 q13 q16 q17).1 = 0 → ldk_rdOK f m' (ldk_rdS f J q11 q12 q13 q16 q17).2))) := rfl
    rw [erF, eSt, erd, eOK]
    generalize sX2_readItem I I0 f I1 k0 k1 k2 k3 k4 k5 g5 g6 g7 g8 = RR at hst ⊢
    generalize ldk_rdS f J q11 q12 q13 q16 q17 = SS at hst hkp ⊢
    rcases hst with ⟨e1, e2, e3⟩ | ⟨e1, e2, n', d', s', ym, e3, e4, e5⟩
    · rw [if_pos e1]
      have hne : ¬ (upd RR.1 2 (sX5_behindBlanks I0 f (RR.1 2)), RR.2).1 3 = -1 := by
        dsimp only; rw [pk_un (by decide), e2, ldk_ne, km1]; omega
      refine ⟨⟨j0, j2, fun _ => ⟨hG, fun z => absurd e1 z⟩⟩, hkp, Or.inl ⟨rfl, ?_, e3⟩⟩
      rw [ldk_rF_flt hne, ldk_rEnd_flt hne]
      dsimp only
      rw [pk_un (by decide)]; exact e2
    · rw [if_neg (by rw [e1]; decide)]
      have hp := ldk_PR_skip (f := f) hs e3 e4
      rw [← e5] at hp
      have hge : (RR.1 2).toInt ≤ (sX5_behindBlanks I0 f (RR.1 2)).toInt := by
        obtain ⟨_, p2, p3, p4, _⟩ := e4
        have := (ldk_skp (I0 := I0) (f := f) (J := ym.1) hs p3 (by rw [p2]; exact p4)).2.1
        rw [p2] at this; exact this
      have i := ih m' _ _ _ _ _ hp (by dsimp only; rw [pk_us]; omega) (by dsimp only; rw [pk_us]; omega)
      refine ⟨⟨j0, j2, fun _ => ⟨hG, fun _ => i.1⟩⟩, fun k a b d' e g => (i.2.1 k a b d' e g).trans (hkp k a b d' e g), i.2.2⟩
end LDKI5
