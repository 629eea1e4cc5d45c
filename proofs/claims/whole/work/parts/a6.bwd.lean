/-! ===== backwards ===== -/
theorem ldk_mb {c a : Int32} (h : a.toInt = c.toInt - 1) : sX4_markBelow c = sX7_notAbove a ∧ (sX7_notAbove a).toInt = (if a.toInt < 480 then 0 else if a.toInt < 1440 then 480 else if a.toInt < 4800 then 1440 else 4800) := by
  unfold sX4_markBelow sX7_notAbove
  simp only [Int32.le_iff_toInt_le, Int32.lt_iff_toInt_lt, show (480 : Int32).toInt = 480 by decide, show (1440 : Int32).toInt = 1440 by decide, show (4800 : Int32).toInt = 4800 by decide]
  by_cases h3 : a.toInt < 4800
  · rw [if_pos (show c.toInt ≤ 4800 by omega), if_pos h3]
    by_cases h2 : a.toInt < 1440
    · rw [if_pos (show c.toInt ≤ 1440 by omega), if_pos h2]
      by_cases h1 : a.toInt < 480
      · rw [if_pos (show c.toInt ≤ 480 by omega), if_pos h1, if_pos h1]; exact ⟨rfl, by decide⟩
      · rw [if_neg (show ¬ c.toInt ≤ 480 by omega), if_neg h1, if_neg h1, if_pos h2]; exact ⟨rfl, by decide⟩
    · rw [if_neg (show ¬ c.toInt ≤ 1440 by omega), if_neg h2, if_neg (show ¬ a.toInt < 480 by omega), if_neg h2, if_pos h3]; exact ⟨rfl, by decide⟩
  · rw [if_neg (show ¬ c.toInt ≤ 4800 by omega), if_neg h3, if_neg (show ¬ a.toInt < 480 by omega), if_neg (show ¬ a.toInt < 1440 by omega), if_neg h3]; exact ⟨rfl, by decide⟩
theorem ldk_bef {L4 : Nat → Int64} {p : Int64} (h0 : 0 ≤ p.toInt) (h1 : p.toInt < (L4 7).toInt) (h2 : (L4 7).toInt ≤ 2000000000) : sX1_before L4 p = (if p = 0 then L4 7 - 1 else p - 1) ∧ 0 ≤ (sX1_before L4 p).toInt ∧ (sX1_before L4 p).toInt < (L4 7).toInt := by
  have e : (p - 1).toInt = p.toInt - 1 := by rw [ldk_ls (by rw [ldk_T1]; omega) (by rw [ldk_T1]; omega), ldk_T1]
  have e7 : (L4 7 - 1).toInt = (L4 7).toInt - 1 := by rw [ldk_ls (by rw [ldk_T1]; omega) (by rw [ldk_T1]; omega), ldk_T1]
  unfold sX1_before
  by_cases c : p = 0
  · have c' : p.toInt = 0 := by rw [c]; decide
    have h3 : sX1_has L4 (p - 1) = 0 := by unfold sX1_has; rw [if_pos (show p - 1 < 0 by rw [Int64.lt_iff_toInt_lt, ldk_T0]; omega)]
    rw [if_pos h3, if_pos c]
    by_cases h4 : (0 : Int64) < L4 7 - 1
    · rw [if_pos h4]; exact ⟨rfl, by omega, by omega⟩
    · rw [if_neg h4]
      rw [Int64.lt_iff_toInt_lt, ldk_T0] at h4
      exact ⟨by rw [ldk_Eq, ldk_T0]; omega, by decide, by rw [ldk_T0]; omega⟩
  · have c' : p.toInt ≠ 0 := fun z => c (ldk_Eq.mpr z)
    have h3 : ¬ sX1_has L4 (p - 1) = 0 := by
      unfold sX1_has
      rw [if_neg (show ¬ p - 1 < 0 by rw [Int64.lt_iff_toInt_lt, ldk_T0]; omega), if_neg (show ¬ L4 7 ≤ p - 1 by rw [Int64.le_iff_toInt_le]; omega)]; decide
    rw [if_neg h3, if_neg c]
    exact ⟨rfl, by omega, by omega⟩
def ldk_bR (len : Int64) (S0 : Int) (f20 f21 f22 g0 g1 g2 : Nat → Int32) (x : BS) (J : Nat → Int32) (M : Nat → Int64) : Prop :=
  ldk_eA x.1 J ∧ ldk_eB0 x.2.2.1 x.2.2.2.1 J M ∧ ldk_eC S0 x.2.2.2.2.1 x.2.2.2.2.2 f20 f21 f22 J M g0 g1 g2 ∧ ldk_eP len x.2.1 M (J 21)
theorem ldk_eB0_of {I1 J J' : Nat → Int32} {L1 L1' M M' : Nat → Int64} (h : ldk_eB0 I1 L1 J M) (e21 : J' 21 = J 21) (e31 : J' 31 = J 31) (e24 : J' 24 = J 24) (e23 : J' 23 = J 23) (e34 : M' 34 = L1' 5) : ldk_eB0 I1 L1' J' M' := by
  obtain ⟨b1, b2, b3, b4, b5, b6, b7, b8⟩ := h
  exact ⟨e21.trans b1, e31.trans b2, e34, e24.trans b4, b5, by rw [e21, e23]; exact b6, by rw [e21]; exact b7, by rw [e21, e23]; exact b8⟩
section LDKB
variable {len : Int64} {S0 : Int} {f20 f21 f22 g0 g1 g2 : Nat → Int32} {L4 : Nat → Int64}
/-- a mark is undone -/
theorem ldk_undo {x : BS} {J : Nat → Int32} {M : Nat → Int64} {mk : Int32} (hS : S0 ≤ 1000000000000) (h7 : L4 7 = len) (h : ldk_bR len S0 f20 f21 f22 g0 g1 g2 x J M) (hn : sX7_notAbove (J 22) = mk) (hz : mk = 0 → 0 < len.toInt) (v : Int32) :
    ldk_bR len S0 f20 f21 f22 g0 g1 g2 (sX6_undo x.1 x.2.1 (upd x.2.2.1 0 mk) x.2.2.2.1 x.2.2.2.2.1 x.2.2.2.2.2 f22 L4 mk) (upd (ldk_bS g2 J M).1 22 v) (ldk_bS g2 J M).2 ∧
    (sX6_undo x.1 x.2.1 (upd x.2.2.1 0 mk) x.2.2.2.1 x.2.2.2.2.1 x.2.2.2.2.2 f22 L4 mk).2.2.1 0 = (if mk = 0 then 5760 else mk) ∧ (∀ k, k ≠ 22 → k ≠ 28 → k ≠ 38 → (ldk_bS g2 J M).1 k = J k) ∧ (ldk_bS g2 J M).2 10 = M 10 := by
  obtain ⟨I, L, I1, L1, I2, L2⟩ := x
  obtain ⟨hA, hB, hC, hP⟩ := h
  dsimp only at hA hB hC hP ⊢
  obtain ⟨a1, a2, a3, a4, a5, a6, a7, a8⟩ := hA
  obtain ⟨p1, p2, p3, p4, p5, p6, p7⟩ := hP
  have h34 := hB.2.2.1
  unfold ldk_bS sX6_undo
  rw [hn]
  by_cases c1 : mk = 1440
  · subst c1
    rw [if_pos (show (1440 : Int32) = 1440 from rfl), if_pos (show (1440 : Int32) = 1440 from rfl), if_neg (show ¬ (1440 : Int32) = 0 by decide), if_neg (show ¬ (1440 : Int32) = 0 by decide)]
    dsimp only
    refine ⟨⟨⟨?_, ?_, ?_, ?_, ?_, ?_, ?_, ?_⟩, ?_, ?_, ?_⟩, pk_us .., fun k k1 k2 k3 => pk_un k2, rfl⟩
    · simp [upd]; exact a1
    · simp [upd]; exact a2
    · simp [upd]
    · simp [upd]; exact a4
    · simp [upd]; exact a5
    · simp [upd]; exact a6
    · simp [upd]; exact a7
    · simp [upd]; exact a8
    · exact ldk_eB0_of (ldk_eB0_at 1440 hB) (by simp [upd]) (by simp [upd]) (by simp [upd]) (by simp [upd]) h34
    · exact ldk_eC_of hC (by simp [upd]) rfl rfl
    · exact ⟨p1, p2, p3, p4, p5, p6, by simp [upd]; exact p7⟩
  · rw [if_neg c1, if_neg c1]
    by_cases c0 : mk = 0
    · subst c0
      rw [if_pos (show (0 : Int32) = 0 from rfl), if_pos (show (0 : Int32) = 0 from rfl), if_pos (show (0 : Int32) = 0 from rfl)]
      have hlen := hz rfl
      have pl1 := p4 hlen
      have hb := ldk_bef (L4 := L4) (p := L 5) p3 (by rw [h7]; exact pl1) (by rw [h7]; exact p6)
      rw [h7] at hb
      unfold sX6_reopenTurn sX7_unpicks
      by_cases ck : J 38 ≤ 0
      · rw [if_pos ck]
        have ho := ldk_eC_off (J' := upd (upd J 28 0) 22 v) (M' := vp_updL M 34 (M 34 - 1)) hC hS
        rw [if_pos (ho.1.mpr ck)]
        dsimp only
        refine ⟨⟨⟨?_, ?_, ?_, ?_, ?_, ?_, ?_, ?_⟩, ?_, ?_, ?_⟩, pk_us .., fun k k1 k2 k3 => pk_un k2, by simp [vp_updL]⟩
        · simp [upd]; exact a1
        · simp [upd]; exact a2
        · simp [upd]
        · simp [upd]; exact a4
        · simp [upd]; exact a5
        · simp [upd]; exact a6
        · simp [upd]; exact a7
        · simp [upd]; exact a8
        · exact ldk_eB0_of (ldk_eB0_at 5760 (ldk_eB0_at 0 hB)) (by simp [upd]) (by simp [upd]) (by simp [upd]) (by simp [upd]) (by simp [vp_updL]; rw [h34])
        · exact ho.2.1 ck (by simp [upd]) (by simp [vp_updL]) (by simp [vp_updL])
        · exact ⟨by simp [vp_updL]; exact p1, by simp [vp_updL]; exact p2, p3, p4, p5, p6, fun _ => hlen⟩
      · rw [if_neg ck]
        have ho := fun (M' : Nat → Int64) => ldk_eC_off (J' := upd (upd (upd J 28 1) 38 (J 38 - 1)) 22 v) (M' := M') hC hS
        rw [if_neg (fun z => ck ((ho M).1.mp z))]
        by_cases cp : M 25 = 0
        · rw [if_pos cp]
          rw [p1] at cp
          rw [if_pos cp] at hb
          dsimp only
          refine ⟨⟨⟨?_, ?_, ?_, ?_, ?_, ?_, ?_, ?_⟩, ?_, ?_, ?_⟩, pk_us .., fun k k1 k2 k3 => by rw [pk_un k3, pk_un k2], by simp [vp_updL]⟩
          · simp [upd]; exact a1
          · simp [upd]; exact a2
          · simp [upd]
          · simp [upd]; exact a4
          · simp [upd]; exact a5
          · simp [upd]; exact a6
          · simp [upd]; exact a7
          · simp [upd]; exact a8
          · exact ldk_eB0_of (ldk_eB0_at 5760 (ldk_eB0_at 0 hB)) (by simp [upd]) (by simp [upd]) (by simp [upd]) (by simp [upd]) (by simp [vp_updL]; rw [h34])
          · exact (ho _).2.2 ck (by simp [upd]) (by simp [vp_updL]) (by simp [vp_updL])
          · refine ⟨?_, by simp [vp_updL]; exact p2, ?_, ?_, p5, p6, fun _ => hlen⟩
            · dsimp only; rw [pk_uLs, pk_uLn (by decide), pk_uLn (by decide), pk_uLn (by decide), pk_uLs, hb.1, p2]
            · dsimp only; rw [pk_uLs]; exact hb.2.1
            · dsimp only; rw [pk_uLs]; exact fun _ => hb.2.2
        · rw [if_neg cp]
          rw [p1] at cp
          rw [if_neg cp] at hb
          dsimp only
          refine ⟨⟨⟨?_, ?_, ?_, ?_, ?_, ?_, ?_, ?_⟩, ?_, ?_, ?_⟩, pk_us .., fun k k1 k2 k3 => by rw [pk_un k3, pk_un k2], by simp [vp_updL]⟩
          · simp [upd]; exact a1
          · simp [upd]; exact a2
          · simp [upd]
          · simp [upd]; exact a4
          · simp [upd]; exact a5
          · simp [upd]; exact a6
          · simp [upd]; exact a7
          · simp [upd]; exact a8
          · exact ldk_eB0_of (ldk_eB0_at 5760 (ldk_eB0_at 0 hB)) (by simp [upd]) (by simp [upd]) (by simp [upd]) (by simp [upd]) (by simp [vp_updL]; rw [h34])
          · exact (ho _).2.2 ck (by simp [upd]) (by simp [vp_updL]) (by simp [vp_updL])
          · refine ⟨?_, by simp [vp_updL]; exact p2, ?_, ?_, p5, p6, fun _ => hlen⟩
            · dsimp only; rw [pk_uLs, pk_uLn (by decide), pk_uLn (by decide), pk_uLn (by decide), pk_uLs, hb.1, p1]
            · dsimp only; rw [pk_uLs]; exact hb.2.1
            · dsimp only; rw [pk_uLs]; exact fun _ => hb.2.2
    · rw [if_neg c0, if_neg c0, if_neg c0]
      dsimp only
      refine ⟨⟨?_, ?_, ?_, ?_⟩, pk_us .., fun k k1 k2 k3 => rfl, rfl⟩
      · exact ldk_eA_of ⟨a1, a2, a3, a4, a5, a6, a7, a8⟩ (by simp [upd]) (by simp [upd]) (by simp [upd]) (by simp [upd]) (by simp [upd]) (by simp [upd])
      · exact ldk_eB0_of (ldk_eB0_at mk hB) (by simp [upd]) (by simp [upd]) (by simp [upd]) (by simp [upd]) h34
      · exact ldk_eC_of hC (by simp [upd]) rfl rfl
      · exact ⟨p1, p2, p3, p4, p5, p6, by simp [upd]; exact p7⟩
theorem ldk_naD (a : Int32) : (sX7_notAbove a).toInt = 0 ∧ a.toInt < 480 ∨ (sX7_notAbove a).toInt = 480 ∧ 480 ≤ a.toInt ∧ a.toInt < 1440 ∨ (sX7_notAbove a).toInt = 1440 ∧ 1440 ≤ a.toInt ∧ a.toInt < 4800 ∨ (sX7_notAbove a).toInt = 4800 ∧ 4800 ≤ a.toInt := by
  unfold sX7_notAbove
  simp only [Int32.lt_iff_toInt_lt, show (480 : Int32).toInt = 480 by decide, show (1440 : Int32).toInt = 1440 by decide, show (4800 : Int32).toInt = 4800 by decide]
  by_cases h3 : a.toInt < 4800
  · rw [if_pos h3]
    by_cases h2 : a.toInt < 1440
    · rw [if_pos h2]
      by_cases h1 : a.toInt < 480
      · rw [if_pos h1]; exact Or.inl ⟨by decide, h1⟩
      · rw [if_neg h1]; exact Or.inr (Or.inl ⟨by decide, by omega, h2⟩)
    · rw [if_neg h2]; exact Or.inr (Or.inr (Or.inl ⟨by decide, by omega, h3⟩))
  · rw [if_neg h3]; exact Or.inr (Or.inr (Or.inr ⟨by decide, by omega⟩))
end LDKB
