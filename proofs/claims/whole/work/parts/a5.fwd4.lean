/-! ===== forwards: the whole way ===== -/
/-- how many marks lie ahead -/
def ldk_mi (a : Int) : Int := if a < 480 then 0 else if a < 1440 then 1 else if a < 4800 then 2 else 3
def ldk_ms (a r : Int) : Int := 4 * ((a + r) / 5760) + ldk_mi ((a + r) % 5760) - ldk_mi a
section LDKJ
variable {f4_0 f4_1 f4_2 : Nat → Int32} {f4_3 : Nat → Int64} {f4_4 f4_5 f3 f4 f5 f6 f7 : Nat → Int32} {f8 : Nat → Int64} {z6 : Int32} {len : Int64}
theorem ldk_stands {I1 J : Nat → Int32} (h : J 21 = I1 1) : (sX4_stands I1 = 0) ↔ ¬ J 21 = 0 := by
  unfold sX4_stands
  rw [← h]
  by_cases c : J 21 = 0
  · rw [if_pos c]; exact ⟨fun z => absurd z (by decide), fun z => absurd c z⟩
  · rw [if_neg c]; exact ⟨fun _ => c, fun _ => rfl⟩
/-- class and reference go the same way -/
theorem ldk_fway (hp : ldk_pT f4_0 f4_1 f4_2 f4_3 f4_4 f4_5 f3 f4 f5 f6 f7 f8 z6 len) : ∀ (n k : Nat) (r g : Int32) (x : GS) (y : LdkT) (S0 : Int), ldk_rel z6 len S0 x y → S0 + 200 * n ≤ 1000000000000 → r.toInt ≤ 1000000 → 0 ≤ r.toInt → 0 ≤ g.toInt → g.toInt + r.toInt ≤ 1000000 → r.toInt < k → (0 < r.toInt → ldk_ms (y.1 22).toInt r.toInt < n) →
    (gF f4_0 f4_1 f4_2 f4_3 f4_4 f4_5 n r x).1 = (ldk_tF f3 f4 f5 f6 f7 f8 k r g y).1 ∧ (ldk_tF f3 f4 f5 f6 f7 f8 k r g y).2.1.toInt = g.toInt + r.toInt - (ldk_tF f3 f4 f5 f6 f7 f8 k r g y).1.toInt ∧ (0 ≤ (ldk_tF f3 f4 f5 f6 f7 f8 k r g y).1.toInt ∧ (ldk_tF f3 f4 f5 f6 f7 f8 k r g y).1.toInt ≤ r.toInt) ∧ ldk_rel z6 len (S0 + 200 * n) (gF f4_0 f4_1 f4_2 f4_3 f4_4 f4_5 n r x).2 (ldk_tF f3 f4 f5 f6 f7 f8 k r g y).2.2 ∧ ldk_tOK f3 f4 f5 f6 f7 f8 k r y := by
  intro n
  induction n with
  | zero =>
    intro k r g x y S0 h hS r1 r0 g0 gr hk hms
    by_cases hr : 0 < r.toInt
    · exfalso
      have := hms hr
      obtain ⟨-, hB, -⟩ := h
      have h22 := hB.2.2.1
      unfold ldk_ms at this
      have hmi : ∀ a : Int, 0 ≤ ldk_mi a ∧ ldk_mi a ≤ 3 := fun a => by unfold ldk_mi; repeat (first | omega | split)
      have m1 := hmi ((y.1 22).toInt)
      have m2 := hmi (((y.1 22).toInt + r.toInt) % 5760)
      by_cases q : (y.1 22).toInt + r.toInt < 5760
      · have e1 : ((y.1 22).toInt + r.toInt) % 5760 = (y.1 22).toInt + r.toInt := Int.emod_eq_of_lt (by omega) (by omega)
        have e2 : ((y.1 22).toInt + r.toInt) / 5760 = 0 := Int.ediv_eq_zero_of_lt (by omega) (by omega)
        rw [e1, e2] at this
        have mono : ldk_mi (y.1 22).toInt ≤ ldk_mi ((y.1 22).toInt + r.toInt) := by
          unfold ldk_mi
          repeat (first | omega | split)
        omega
      · have : 1 ≤ ((y.1 22).toInt + r.toInt) / 5760 := by omega
        omega
    · have hr' : r ≤ 0 := by rw [Int32.le_iff_toInt_le, ldk_t0']; omega
      obtain ⟨k', rfl⟩ : ∃ k', k = k' + 1 := ⟨k - 1, by omega⟩
      have e : ldk_tF f3 f4 f5 f6 f7 f8 (k' + 1) r g y = (r, g, y) := if_pos hr'
      rw [e]
      dsimp only
      refine ⟨rfl, by omega, by omega, ?_, fun z => absurd hr' z⟩
      show ldk_rel z6 len (S0 + 200 * ((0 : Nat) : Int)) x y
      rw [show S0 + 200 * ((0 : Nat) : Int) = S0 by omega]; exact h
  | succ n ih =>
    intro k r g x y S0 h hS r1 r0 g0 gr hk hms
    obtain ⟨k', rfl⟩ : ∃ k', k = k' + 1 := ⟨k - 1, by omega⟩
    have hwide : ldk_rel z6 len (S0 + 200 * ((n + 1 : Nat) : Int)) x y := by
      obtain ⟨w1, w2, w3, w4⟩ := h
      exact ⟨w1, w2, ldk_eC_wider (by omega) w3, w4⟩
    by_cases hr : r ≤ 0
    · have e : ldk_tF f3 f4 f5 f6 f7 f8 (k' + 1) r g y = (r, g, y) := if_pos hr
      have e2 : gF f4_0 f4_1 f4_2 f4_3 f4_4 f4_5 (n + 1) r x = (r, x) := if_pos hr
      rw [e, e2]
      dsimp only
      exact ⟨rfl, by omega, by omega, hwide, fun z => absurd hr z⟩
    · have hst := ldk_stands (I1 := x.2.2.1) (J := y.1) h.2.1.1.1
      by_cases hm : y.1 21 = 0
      · have e : ldk_tF f3 f4 f5 f6 f7 f8 (k' + 1) r g y = (r, g, y) := (if_neg hr).trans (if_pos hm)
        have e2 : gF f4_0 f4_1 f4_2 f4_3 f4_4 f4_5 (n + 1) r x = (r, x) := (if_neg hr).trans (if_neg (fun z => hst.mp z hm))
        rw [e, e2]
        dsimp only
        exact ⟨rfl, by omega, by omega, hwide, fun _ z => absurd hm z⟩
      · have hr' : 0 < r.toInt := by rw [Int32.le_iff_toInt_le, ldk_t0'] at hr; omega
        obtain ⟨s1, s2, s3, s4, s5⟩ := ldk_fstep hp (S0 := S0) (by omega) h hr r1 hm
        obtain ⟨n1, n2, n3, n4, n5, n6⟩ := ldk_num1 h.2.1 hr r1
        have e : ldk_tF f3 f4 f5 f6 f7 f8 (k' + 1) r g y = ldk_tF f3 f4 f5 f6 f7 f8 k' (r - ldk_t2 y.1 r) (g + ldk_t2 y.1 r) (ldk_tS f3 f4 f5 f6 f7 f8 r y) := (if_neg hr).trans (if_neg hm)
        have e2 : gF f4_0 f4_1 f4_2 f4_3 f4_4 f4_5 (n + 1) r x = gF f4_0 f4_1 f4_2 f4_3 f4_4 f4_5 n (r - ldk_t2 y.1 r) (gStep f4_0 f4_1 f4_2 f4_3 f4_4 f4_5 r x).2 := by
          rw [← s1]; exact (if_neg hr).trans (if_pos (hst.mpr hm))
        have er : (r - ldk_t2 y.1 r).toInt = r.toInt - (ldk_t2 y.1 r).toInt := ldk_is (by omega) (by omega)
        have eg : (g + ldk_t2 y.1 r).toInt = g.toInt + (ldk_t2 y.1 r).toInt := ldk_ia (by omega) (by omega)
        have hms' : 0 < (r - ldk_t2 y.1 r).toInt → ldk_ms ((ldk_tS f3 f4 f5 f6 f7 f8 r y).1 22).toInt (r - ldk_t2 y.1 r).toInt < n ∨ (ldk_tS f3 f4 f5 f6 f7 f8 r y).1 21 = 0 := by
          intro hpos
          rcases s5 with z | z | z
          · left
            have hm0 := hms hr'
            have hc := h.2.1.2.2.1
            have hab := ldk_ab (y.1 22)
            rw [s4, er]
            unfold ldk_ms at hm0 ⊢
            by_cases q : ldk_ta y.1 r = 5760
            · rw [if_pos q, ldk_t0']
              have q' : (ldk_ta y.1 r).toInt = 5760 := by rw [q]; decide
              rw [show (0 : Int) + (r.toInt - (ldk_t2 y.1 r).toInt) = (y.1 22).toInt + r.toInt - 5760 by omega]
              have d1 : ((y.1 22).toInt + r.toInt - 5760) / 5760 = ((y.1 22).toInt + r.toInt) / 5760 - 1 := by omega
              have d2 : ((y.1 22).toInt + r.toInt - 5760) % 5760 = ((y.1 22).toInt + r.toInt) % 5760 := by omega
              rw [d1, d2]
              have m0 : ldk_mi 0 = 0 := by decide
              have m3 : ldk_mi (y.1 22).toInt = 3 := by
                unfold ldk_mi
                split at hab
                · omega
                · split at hab
                  · omega
                  · split at hab
                    · omega
                    · rw [if_neg (by omega), if_neg (by omega), if_neg (by omega)]
              rw [m0]; rw [m3] at hm0; omega
            · rw [if_neg q]
              have q' : (ldk_ta y.1 r).toInt ≠ 5760 := fun w => q (ldk_eq.mpr (w.trans (by decide)))
              rw [show (ldk_ta y.1 r).toInt + (r.toInt - (ldk_t2 y.1 r).toInt) = (y.1 22).toInt + r.toInt by omega]
              have m3 : ldk_mi (ldk_ta y.1 r).toInt = ldk_mi (y.1 22).toInt + 1 := by
                rw [z]
                unfold ldk_mi
                split at hab
                · rw [hab, if_neg (by omega), if_pos (by omega), if_pos (by omega)]; rfl
                · split at hab
                  · rw [hab, if_neg (by omega), if_neg (by omega), if_pos (by omega), if_neg (by omega), if_pos (by omega)]; rfl
                  · split at hab
                    · rw [hab, if_neg (by omega), if_neg (by omega), if_neg (by omega), if_neg (by omega), if_neg (by omega), if_pos (by omega)]; rfl
                    · omega
              rw [m3]; omega
          · omega
          · exact Or.inr z
        rw [e, e2]
        by_cases hz : (ldk_tS f3 f4 f5 f6 f7 f8 r y).1 21 = 0
        · -- the shaft stands
          obtain ⟨k2, rfl⟩ : ∃ k2, k' = k2 + 1 := ⟨k' - 1, by omega⟩
          have w1 : ldk_tF f3 f4 f5 f6 f7 f8 (k2 + 1) (r - ldk_t2 y.1 r) (g + ldk_t2 y.1 r) (ldk_tS f3 f4 f5 f6 f7 f8 r y) = (r - ldk_t2 y.1 r, g + ldk_t2 y.1 r, ldk_tS f3 f4 f5 f6 f7 f8 r y) := by
            by_cases c : r - ldk_t2 y.1 r ≤ 0
            · exact if_pos c
            · exact (if_neg c).trans (if_pos hz)
          have hst2 := ldk_stands (I1 := (gStep f4_0 f4_1 f4_2 f4_3 f4_4 f4_5 r x).2.2.2.1) (J := (ldk_tS f3 f4 f5 f6 f7 f8 r y).1) s2.2.1.1.1
          have w2 : gF f4_0 f4_1 f4_2 f4_3 f4_4 f4_5 n (r - ldk_t2 y.1 r) (gStep f4_0 f4_1 f4_2 f4_3 f4_4 f4_5 r x).2 = (r - ldk_t2 y.1 r, (gStep f4_0 f4_1 f4_2 f4_3 f4_4 f4_5 r x).2) := by
            cases n with
            | zero => rfl
            | succ n =>
              by_cases c : r - ldk_t2 y.1 r ≤ 0
              · exact if_pos c
              · exact (if_neg c).trans (if_neg (fun z => hst2.mp z hz))
          rw [w1, w2]
          dsimp only
          refine ⟨rfl, by omega, by omega, ?_, fun _ _ => ⟨s3, fun _ z => absurd hz z⟩⟩
          obtain ⟨v1, v2, v3, v4⟩ := s2
          exact ⟨v1, v2, ldk_eC_wider (by omega) v3, v4⟩
        · obtain ⟨i1, i2, i3, i4, i5⟩ := ih k' (r - ldk_t2 y.1 r) (g + ldk_t2 y.1 r) _ _ (S0 + 200) s2 (by omega) (by omega) (by omega) (by omega) (by omega) (by omega) (fun hpos => (hms' hpos).resolve_right hz)
          refine ⟨i1, by omega, by omega, ?_, fun _ _ => ⟨s3, i5⟩⟩
          rw [show S0 + 200 * ((n + 1 : Nat) : Int) = S0 + 200 + 200 * (n : Int) by omega]
          exact i4
end LDKJ
