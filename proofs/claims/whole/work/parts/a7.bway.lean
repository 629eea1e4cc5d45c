/-! ===== backwards: the whole way ===== -/
section LDKB2
variable {len : Int64} {S0 : Int} {f20 f21 f22 g0 g1 g2 : Nat → Int32} {L4 : Nat → Int64}
theorem ldk_bar1 {N a : Int} (hN : N = 0 ∨ N = 480 ∨ N = 1440 ∨ N = 4800) (h : a = if N = 0 then 5760 else N) : 480 ≤ a ∧ a ≤ 5760 ∧ (a = 480 ∨ a = 1440 ∨ a = 4800 ∨ a = 5760) ∧ (N ≠ 0 → a = N) := by
  rcases hN with q | q | q | q <;> subst q <;> subst h <;> decide
theorem ldk_bar2 {p c N r n : Int} (c1 : 1 ≤ c) (hat : p = c ∧ (c = 480 ∨ c = 1440 ∨ c = 4800 ∨ c = 5760) ∧ r ≤ 480 * (n + 1) ∨ p = c - 1 ∧ r + 480 ≤ 480 * (n + 1)) (m2 : N = 0 ∧ c - 1 < 480 ∨ N = 480 ∧ 480 ≤ c - 1 ∧ c - 1 < 1440 ∨ N = 1440 ∧ 1440 ≤ c - 1 ∧ c - 1 < 4800 ∨ N = 4800 ∧ 4800 ≤ c - 1) : r - (p - N) ≤ 480 * n := by
  rcases hat with ⟨q1, q2, q3⟩ | ⟨q1, q2⟩
  · rcases m2 with m | m | m | m <;> omega
  · rcases m2 with m | m | m | m <;> omega
theorem ldk_bite (N : Int32) : (if N = 0 then (5760 : Int32) else N).toInt = if N.toInt = 0 then 5760 else N.toInt := by
  by_cases q : N = 0
  · rw [if_pos q, if_pos (by rw [q]; decide)]; decide
  · rw [if_neg q, if_neg (fun z => q (ldk_eq.mpr (z.trans ldk_t0'.symm)))]
theorem ldk_bar3 {p N r a : Int} (hg : p - N < r) (q : r ≤ p) (c6 : N ≠ 0 → a = N) (hN : 0 ≤ N) : r - (p - N) ≤ a := by
  by_cases n : N = 0
  · omega
  · rw [c6 n]; omega
theorem ldk_bar4 {rm r p c j N a : Int} (hrm : rm = r - (p - c + 1)) (hc : j = c - 1) : rm - (j - N) - 1 = r - (p - N) - (a - a + 1) := by omega
theorem ldk_bar5 {rm r p c j N : Int} (hrm : rm = r - (p - c + 1)) (hc : j = c - 1) (hg : p - N < r) : 0 ≤ rm - (j - N) - 1 := by omega
theorem ldk_bar6 {r p c j N : Int} (hc : j = c - 1) (hN : N ≤ j) (hat : p = c ∨ p = c - 1) (hr : r ≤ 1000000) : r - (p - N) ≤ 1000000 := by omega
theorem ldk_bar7 {rm j N k : Int} (hk : rm < k + 1) (hN : N ≤ j) : rm - (j - N) - 1 < k := by omega
/-- class and reference go the same way back -/
theorem ldk_bway (hS : S0 ≤ 1000000000000) (h7 : L4 7 = len) : ∀ (n k : Nat) (r c rm : Int32) (x : BS) (J : Nat → Int32) (M : Nat → Int64), ldk_bR len S0 f20 f21 f22 g0 g1 g2 x J M → (J 22).toInt = c.toInt - 1 → 1 ≤ c.toInt → c.toInt ≤ 5760 → ((x.2.2.1 0).toInt = c.toInt ∧ (c.toInt = 480 ∨ c.toInt = 1440 ∨ c.toInt = 4800 ∨ c.toInt = 5760) ∧ r.toInt ≤ 480 * n ∨ (x.2.2.1 0).toInt = c.toInt - 1 ∧ r.toInt + 480 ≤ 480 * n) → rm.toInt = r.toInt - ((x.2.2.1 0).toInt - c.toInt + 1) → 0 ≤ rm.toInt → r.toInt ≤ 1000000 → rm.toInt < k → (0 < len.toInt ∨ r.toInt ≤ (x.2.2.1 0).toInt) →
    ldk_bR len S0 f20 f21 f22 g0 g1 g2 (bF f22 L4 n r c x).2 (ldk_bF g2 k rm J M).1 (ldk_bF g2 k rm J M).2 ∧ (ldk_bF g2 k rm J M).1 22 = (bF f22 L4 n r c x).2.2.2.1 0 - (bF f22 L4 n r c x).1 ∧ 0 ≤ ((ldk_bF g2 k rm J M).1 22).toInt ∧ ((ldk_bF g2 k rm J M).1 22).toInt < 5760 ∧ (∀ j, j ≠ 22 → j ≠ 28 → j ≠ 38 → (ldk_bF g2 k rm J M).1 j = J j) := by
  intro n
  induction n with
  | zero => intro k r c rm x J M h hc c1 c2 hat hrm r0 r1 hk hz; exfalso; omega
  | succ n ih =>
    intro k r c rm x J M h hc c1 c2 hat hrm r0 r1 hk hz
    obtain ⟨m1, -⟩ := ldk_mb hc
    have m2 := ldk_naD (J 22)
    have hm0 : 0 ≤ (sX7_notAbove (J 22)).toInt ∧ (sX7_notAbove (J 22)).toInt ≤ (J 22).toInt ∧ (sX7_notAbove (J 22)).toInt ≤ 4800 := by omega
    have es : (x.2.2.1 0 - sX4_markBelow c).toInt = (x.2.2.1 0).toInt - (sX7_notAbove (J 22)).toInt := by rw [m1]; exact ldk_is (by omega) (by omega)
    have ejs : (J 22 - sX7_notAbove (J 22)).toInt = (J 22).toInt - (sX7_notAbove (J 22)).toInt := ldk_is (by omega) (by omega)
    by_cases hgo : x.2.2.1 0 - sX4_markBelow c < r
    · -- past the mark
      have hgo' : (x.2.2.1 0).toInt - (sX7_notAbove (J 22)).toInt < r.toInt := by rw [Int32.lt_iff_toInt_lt, es] at hgo; exact hgo
      obtain ⟨k', rfl⟩ : ∃ k', k = k' + 1 := ⟨k - 1, by omega⟩
      have hrm0 : ¬ rm ≤ 0 := by rw [Int32.le_iff_toInt_le, ldk_t0']; omega
      have hgo2 : J 22 - sX7_notAbove (J 22) < rm := by rw [Int32.lt_iff_toInt_lt, ejs]; omega
      have eC : bF f22 L4 (n + 1) r c x = bF f22 L4 n (r - (x.2.2.1 0 - sX4_markBelow c)) ((bStep f22 L4 c x).2.2.1 0) (bStep f22 L4 c x) := if_pos hgo
      have eR : ldk_bF g2 (k' + 1) rm J M = ldk_bF g2 k' (rm - (J 22 - sX7_notAbove (J 22)) + (-1)) (upd (ldk_bS g2 J M).1 22 ((if sX7_notAbove (J 22) = 0 then (5760 : Int32) else sX7_notAbove (J 22)) - 1)) (ldk_bS g2 J M).2 := (if_neg hrm0).trans (if_pos hgo2)
      rw [eC, eR]
      have hu := ldk_undo (x := x) (mk := sX4_markBelow c) hS h7 h m1.symm (fun z => by
        rw [m1] at z
        have z' : (sX7_notAbove (J 22)).toInt = 0 := by rw [z]; decide
        rcases hz with q | q
        · exact q
        · omega) ((if sX7_notAbove (J 22) = 0 then (5760 : Int32) else sX7_notAbove (J 22)) - 1)
      obtain ⟨u1, u2, u3, u4⟩ := hu
      have hst : bStep f22 L4 c x = sX6_undo x.1 x.2.1 (upd x.2.2.1 0 (sX4_markBelow c)) x.2.2.2.1 x.2.2.2.2.1 x.2.2.2.2.2 f22 L4 (sX4_markBelow c) := rfl
      rw [← hst] at u1 u2
      rw [m1] at u2
      generalize bStep f22 L4 c x = X at u1 u2 ⊢
      generalize hN : sX7_notAbove (J 22) = N at m1 m2 hm0 es ejs hgo' hgo2 u1 u2 ⊢
      have e1 : (r - (x.2.2.1 0 - sX4_markBelow c)).toInt = r.toInt - ((x.2.2.1 0).toInt - N.toInt) := by rw [ldk_is (by rw [es]; omega) (by rw [es]; omega), es]
      have e2a : (rm - (J 22 - N)).toInt = rm.toInt - ((J 22).toInt - N.toInt) := by rw [ldk_is (by rw [ejs]; omega) (by rw [ejs]; omega), ejs]
      have e2 : (rm - (J 22 - N) + (-1)).toInt = rm.toInt - ((J 22).toInt - N.toInt) - 1 := by
        rw [ldk_ia (by rw [e2a, show (-1 : Int32).toInt = -1 by decide]; omega) (by rw [e2a, show (-1 : Int32).toInt = -1 by decide]; omega), e2a, show (-1 : Int32).toInt = -1 by decide]; omega
      have hNv : N.toInt = 0 ∨ N.toInt = 480 ∨ N.toInt = 1440 ∨ N.toInt = 4800 := by rcases m2 with m | m | m | m <;> simp [m.1]
      obtain ⟨c3, c4, c5, c6⟩ := ldk_bar1 (a := (X.2.2.1 0).toInt) hNv (by rw [u2]; exact ldk_bite N)
      have hb2 : r.toInt - ((x.2.2.1 0).toInt - N.toInt) ≤ 480 * (n : Int) := by
        rw [hc] at m2
        exact ldk_bar2 c1 (by rw [show ((n + 1 : Nat) : Int) = (n : Int) + 1 by omega] at hat; exact hat) m2
      have hz2 : 0 < len.toInt ∨ (r - (x.2.2.1 0 - sX4_markBelow c)).toInt ≤ (X.2.2.1 0).toInt := by
        rcases hz with q | q
        · exact Or.inl q
        · right
          rw [e1]
          exact ldk_bar3 hgo' q c6 hm0.1
      have hpos : 0 < (X.2.2.1 0).toInt := Int.lt_of_lt_of_le (by decide) c3
      have e4 : ((if N = 0 then (5760 : Int32) else N) - 1).toInt = (X.2.2.1 0).toInt - 1 := by
        rw [← u2]; exact ldk_dec hpos
      have g1 : (rm - (J 22 - N) + (-1)).toInt = (r - (x.2.2.1 0 - sX4_markBelow c)).toInt - ((X.2.2.1 0).toInt - (X.2.2.1 0).toInt + 1) := by rw [e1, e2]; exact ldk_bar4 hrm hc
      have g2' : 0 ≤ (rm - (J 22 - N) + (-1)).toInt := by rw [e2]; exact ldk_bar5 hrm hc hgo'
      have g3 : (r - (x.2.2.1 0 - sX4_markBelow c)).toInt ≤ 1000000 := by rw [e1]; exact ldk_bar6 hc hm0.2.1 (hat.elim (fun q => Or.inl q.1) (fun q => Or.inr q.1)) r1
      have g4 : (rm - (J 22 - N) + (-1)).toInt < k' := by rw [e2]; exact ldk_bar7 (by rw [show ((k' + 1 : Nat) : Int) = (k' : Int) + 1 from rfl] at hk; exact hk) hm0.2.1
      obtain ⟨i1, i2, i3, i4, i5⟩ := ih k' (r - (x.2.2.1 0 - sX4_markBelow c)) (X.2.2.1 0) (rm - (J 22 - N) + (-1)) X _ _ u1 (by rw [pk_us, e4]) hpos c4 (Or.inl ⟨rfl, c5, by rw [e1]; exact hb2⟩) g1 g2' g3 g4 hz2
      exact ⟨i1, i2, i3, i4, fun j j1 j2 j3 => (i5 j j1 j2 j3).trans ((pk_un j1).trans (u3 j j1 j2 j3))⟩
    · -- it ends here
      have hgo' : r.toInt ≤ (x.2.2.1 0).toInt - (sX7_notAbove (J 22)).toInt := by rw [Int32.lt_iff_toInt_lt, es] at hgo; omega
      have eC : bF f22 L4 (n + 1) r c x = (r, x) := if_neg hgo
      rw [eC]
      have ear : (x.2.2.1 0 - r).toInt = (x.2.2.1 0).toInt - r.toInt := ldk_is (by omega) (by omega)
      obtain ⟨k', rfl⟩ : ∃ k', k = k' + 1 := ⟨k - 1, by omega⟩
      by_cases hrm0 : rm ≤ 0
      · have eR : ldk_bF g2 (k' + 1) rm J M = (J, M) := if_pos hrm0
        rw [eR]
        rw [Int32.le_iff_toInt_le, ldk_t0'] at hrm0
        dsimp only
        exact ⟨h, by rw [ldk_eq, ear]; omega, by omega, by omega, fun _ _ _ _ => rfl⟩
      · have hgo2 : ¬ J 22 - sX7_notAbove (J 22) < rm := by rw [Int32.lt_iff_toInt_lt, ejs]; omega
        have hrm0' := hrm0
        rw [Int32.le_iff_toInt_le, ldk_t0'] at hrm0'
        obtain ⟨k2, rfl⟩ : ∃ k2, k' = k2 + 1 := ⟨k' - 1, by omega⟩
        have eR : ldk_bF g2 (k2 + 1 + 1) rm J M = (upd J 22 (J 22 - rm), M) := (if_neg hrm0).trans ((if_neg hgo2).trans (if_pos (by decide)))
        have ejr : (J 22 - rm).toInt = (J 22).toInt - rm.toInt := ldk_is (by omega) (by omega)
        rw [eR]
        dsimp only
        obtain ⟨w1, w2, w3, w4⟩ := h
        refine ⟨⟨?_, ?_, ?_, ?_⟩, by rw [pk_us, ldk_eq, ear, ejr]; omega, by rw [pk_us, ejr]; omega, by rw [pk_us, ejr]; omega, fun j j1 _ _ => pk_un j1⟩
        · exact ldk_eA_of w1 (by simp [upd]) (by simp [upd]) (by simp [upd]) (by simp [upd]) (by simp [upd]) (by simp [upd])
        · exact ldk_eB0_of w2 (by simp [upd]) (by simp [upd]) (by simp [upd]) (by simp [upd]) w2.2.2.1
        · exact ldk_eC_of w3 (by simp [upd]) rfl rfl
        · obtain ⟨p1, p2, p3, p4, p5, p6, p7⟩ := w4
          exact ⟨p1, p2, p3, p4, p5, p6, by simp [upd]; exact p7⟩
end LDKB2
