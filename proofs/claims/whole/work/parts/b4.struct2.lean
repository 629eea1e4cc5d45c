/-! ===== the two readers: a bracket opens, a bracket closes ===== -/
section LDKO2
variable {n d s : Nat} {A A' : LdkA} {V V' : LdkV} {Q Q' : LdkQ} {q16 q17 : Nat → Int32}
theorem ldk_PS_open {kd v : Int32} (h : ldk_PS n d s A V Q q16 q17) (hn : n < 80) (hd : d < 6) (hk : kd = 3 ∨ (kd = 4 ∧ v = 2)) (hv1 : 1 ≤ v.toInt) (hv2 : v.toInt ≤ 9999)
    (hA : A' = (upd A.1 n kd, upd A.2.1 n v, A.2.2)) (hQ : Q' = (upd Q.1 n kd, upd Q.2.1 n v, upd Q.2.2 n (nI (n + 1))))
    (hV1 : ∀ l, l ≠ d + 1 → V'.1 l = V.1 l) (hV2 : ∀ l, l ≠ d + 1 → V'.2.1 l = V.2.1 l) (hV3 : ∀ l, l ≠ d + 1 → V'.2.2.1 l = V.2.2.1 l) (hV4 : ∀ l, l ≠ d + 1 → V'.2.2.2 l = V.2.2.2 l)
    (hW1 : V'.1 (d + 1) = nI n) (hW2 : V'.2.1 (d + 1) = 0) (hW3 : V'.2.2.1 (d + 1) = -1) (hW4 : V'.2.2.2 (d + 1) = -1) :
    ldk_PS (n + 1) (d + 1) s A' V' Q' (upd q16 d (nI n)) (upd q17 d (nI s)) := by
  obtain ⟨X, E, o, bf, cs, b1, b2, b3, b4, b5, b6, b7, b8, b9⟩ := h
  have hag : ∀ j, j < n → ldk_ag A A' Q Q' j := fun j hj => by
    have hne : j ≠ n := by omega
    rw [hA, hQ]
    exact ⟨pk_un hne, pk_un hne, rfl, rfl, rfl, rfl, pk_un hne, pk_un hne, pk_un hne⟩
  have eA0 : A'.1 n = kd := by rw [hA]; exact pk_us ..
  have eA1 : A'.2.1 n = v := by rw [hA]; exact pk_us ..
  have eQ0 : Q'.1 n = kd := by rw [hQ]; exact pk_us ..
  have eQ1 : Q'.2.1 n = v := by rw [hQ]; exact pk_us ..
  have hod : ∀ l, l < d → va_up o d n l = o l := fun l hl => by unfold va_up; rw [if_neg (by omega)]
  have hodd : va_up o d n d = n := by unfold va_up; rw [if_pos rfl]
  have hbd : ∀ l, l < d → va_up bf d s l = bf l := fun l hl => by unfold va_up; rw [if_neg (by omega)]
  have hbdd : va_up bf d s d = s := by unfold va_up; rw [if_pos rfl]
  refine ⟨X, E, va_up o d n, va_up bf d s, va_up cs (d + 1) [], by omega, by omega, by omega, ?_, ?_, ?_, ?_, ?_, ?_⟩
  · intro i hi
    by_cases c : i = n
    · subst c; rw [eA0, eA1, eQ0, eQ1]; exact ⟨rfl, rfl⟩
    · have := hag i (by omega)
      rw [this.2.2.2.2.2.2.1, this.2.2.2.2.2.2.2.1, this.1, this.2.1]; exact b4 i (by omega)
  · intro i hi ho
    have hin : i ≠ n := fun z => ho d (by omega) (by rw [hodd, z])
    obtain ⟨c1, c2, c3⟩ := b5 i (by omega) (fun l hl z => ho l (by omega) (by rw [hod l hl]; exact z))
    have hmem := fun j hj => ldk_ch_mem _ _ _ c2.1.2.2.1 j hj
    refine ⟨by omega, ldk_wfk_ext c2 (hag i (by omega)) (fun j hj => hag j (by have := hmem j hj; omega)) rfl rfl, fun j hj l hl => ?_⟩
    by_cases c : l = d
    · subst c; rw [hodd]; have := hmem j hj; omega
    · rw [hod l (by omega)]; exact c3 j hj l (by omega)
  · intro l hl
    by_cases c : l = d
    · subst c
      rw [hodd, eQ0, eQ1, pk_us, hW1]
      exact ⟨by omega, hk, hv1, hv2, rfl, rfl, fun m hm => by rw [hod m hm]; exact (b6 m hm).1⟩
    · have hl' : l < d := by omega
      obtain ⟨o1, o2, o3, o4, o5, o6, o7⟩ := b6 l hl'
      have := hag (o l) o1
      rw [hod l hl', this.2.2.2.2.2.2.1, this.2.2.2.2.2.2.2.1, pk_un c, hV1 (l + 1) (by omega)]
      exact ⟨by omega, o2, o3, o4, o5, o6, fun m hm => by rw [hod m (by omega)]; exact o7 m hm⟩
  · intro l hl
    by_cases c : l = d + 1
    · subst c
      rw [if_neg (by omega), if_pos rfl, hW2, hW3, hW4, Nat.add_sub_cancel, hodd, show va_up cs (d + 1) [] (d + 1) = [] by unfold va_up; rw [if_pos rfl]]
      exact ⟨⟨rfl, rfl, rfl, rfl, by decide, by decide⟩, fun j hj => absurd hj List.not_mem_nil⟩
    · obtain ⟨l1, l2⟩ := b7 l (by omega)
      have hle : ∀ j, j ∈ cs l → j < n := fun j hj => by
        have := ldk_ch_mem _ _ _ l1.1 j hj
        by_cases c2 : l = d
        · rw [if_pos c2] at this; omega
        · rw [if_neg c2] at this; have := (b6 l (by omega)).1; omega
      have l1' := ldk_lv_ext l1 (fun j hj => hag j (hle j hj))
      rw [hV2 l c, hV3 l c, hV4 l c, show va_up cs (d + 1) [] l = cs l by unfold va_up; rw [if_neg c], if_neg c]
      refine ⟨?_, fun j hj m hm => ?_⟩
      · have e1 : (if l = 0 then 0 else va_up o d n (l - 1) + 1) = (if l = 0 then 0 else o (l - 1) + 1) := by
          by_cases c0 : l = 0
          · rw [if_pos c0, if_pos c0]
          · rw [if_neg c0, if_neg c0, hod (l - 1) (by omega)]
        have e2 : va_up o d n l = (if l = d then n else o l) := by
          by_cases c2 : l = d
          · subst c2; rw [hodd, if_pos rfl]
          · rw [if_neg c2, hod l (by omega)]
        rw [e1, e2]; exact l1'
      · by_cases c2 : m = d
        · subst c2; rw [hodd]; have := hle j hj; omega
        · rw [hod m (by omega)]; exact l2 j hj m (by omega)
  · intro l hl
    by_cases c : l = d
    · subst c
      rw [pk_us, hbdd]
      exact ⟨rfl, Nat.le_refl _, fun m hm => by rw [hbd m hm]; exact (b8 m hm).2.1⟩
    · obtain ⟨c1, c2, c3⟩ := b8 l (by omega)
      rw [pk_un c, hbd l (by omega)]
      exact ⟨c1, c2, fun m hm => by rw [hbd m (by omega)]; exact c3 m hm⟩
  · intro l h1 h2
    by_cases c : l = d + 1
    · subst c
      rw [hW2, if_pos rfl, Nat.add_sub_cancel, hbdd]
      exact ⟨fun _ => rfl, fun _ => by decide⟩
    · have b := b9 l h1 (by omega)
      rw [hV2 l c, if_neg c, hbd (l - 1) (by omega)]
      by_cases c2 : l = d
      · subst c2; rw [if_pos rfl] at b; rw [hbdd]; exact b
      · rw [if_neg c2] at b; rw [hbd l (by omega)]; exact b
theorem ldk_PS_close {b : Nat} (h : ldk_PS n d s A V Q q16 q17) (hd : 0 < d) (hp : ¬ (V.2.1 d).toInt = 0) (hb : q16 (d - 1) = nI b) (hbn : b < 80)
    (hA : A' = (A.1, A.2.1, upd A.2.2.1 b (nI n), vp_updL A.2.2.2.1 b (V.2.1 d), upd A.2.2.2.2.1 b (V.2.2.1 d), upd A.2.2.2.2.2 b (V.2.2.2 d))) (hQ : Q' = (Q.1, Q.2.1, upd Q.2.2 b (nI n)))
    (hV1 : V'.1 = V.1) (hV2 : ∀ l, l ≠ d - 1 → V'.2.1 l = V.2.1 l) (hV3 : ∀ l, l ≠ d - 1 → V'.2.2.1 l = V.2.2.1 l) (hV4 : ∀ l, l ≠ d - 1 → V'.2.2.2 l = V.2.2.2 l)
    (hW2 : (V'.2.1 (d - 1)).toInt = (if (V.2.1 (d - 1)).toInt + (V.2.1 d).toInt * (A.2.1 b).toInt ≤ 2000000001 then (V.2.1 (d - 1)).toInt + (V.2.1 d).toInt * (A.2.1 b).toInt else 2000000001))
    (hW3 : V'.2.2.1 (d - 1) = (if V.2.2.1 d = (-1 : Int32) then V.2.2.1 (d - 1) else V.2.2.1 d)) (hW4 : V'.2.2.2 (d - 1) = (if V.2.2.2 d = (-1 : Int32) then V.2.2.2 (d - 1) else V.2.2.2 d)) :
    ldk_PS n (d - 1) s A' V' Q' q16 q17 := by
  obtain ⟨X, E, o, bf, cs, b1, b2, b3, b4, b5, b6, b7, b8, b9⟩ := h
  obtain ⟨e, rfl⟩ : ∃ e, d = e + 1 := ⟨d - 1, by omega⟩
  rw [Nat.add_sub_cancel] at *
  obtain ⟨o1, o2, o3, o4, o5, o6, o7⟩ := b6 e (by omega)
  have hob : o e = b := ldk_nIinj (by omega) (by omega) (o5.symm.trans hb)
  rw [hob] at o1 o2 o3 o4 o6 o7
  have hag : ∀ j, j ≠ b → ldk_ag A A' Q Q' j := fun j hj => by
    rw [hA, hQ]
    exact ⟨rfl, rfl, pk_un hj, pk_uLn hj, pk_un hj, pk_un hj, rfl, rfl, pk_un hj⟩
  obtain ⟨L1, L2⟩ := b7 (e + 1) (Nat.le_refl _)
  rw [if_neg (by omega), if_pos rfl, Nat.add_sub_cancel, hob] at L1
  obtain ⟨M1, M2⟩ := b7 e (by omega)
  rw [if_neg (show ¬ e = e + 1 by omega), hob] at M1
  obtain ⟨v1, v2⟩ := L1.2.2.2.2
  have hcb : ∀ l, l ≤ e + 1 → ∀ j, j ∈ cs l → j ≠ b := fun l hl j hj => by
    have := (b7 l hl).2 j hj e (by omega)
    rw [hob] at this; exact fun z => this z.symm
  have hk34 : Q.1 b = 3 ∨ Q.1 b = 4 := by rcases o2 with q | q; exact Or.inl q; exact Or.inr q.1
  have hA0 := (b4 b o1).1
  have hA1 := (b4 b o1).2
  have eA0 : A'.1 = A.1 := by rw [hA]
  have eA1 : A'.2.1 = A.2.1 := by rw [hA]
  have eA2 : A'.2.2.1 b = nI n := by rw [hA]; exact pk_us ..
  have eA3 : A'.2.2.2.1 b = V.2.1 (e + 1) := by rw [hA]; exact pk_uLs ..
  have eA4 : A'.2.2.2.2.1 b = V.2.2.1 (e + 1) := by rw [hA]; exact pk_us ..
  have eA5 : A'.2.2.2.2.2 b = V.2.2.2 (e + 1) := by rw [hA]; exact pk_us ..
  have eQ0 : Q'.1 = Q.1 := by rw [hQ]
  have eQ1 : Q'.2.1 = Q.2.1 := by rw [hQ]
  have eQ2 : Q'.2.2 b = nI n := by rw [hQ]; exact pk_us ..
  have hne : ¬ A.1 b = 0 ∧ ¬ A.1 b = 1 ∧ ¬ A.1 b = 2 := by
    rw [← hA0]; rcases hk34 with q | q <;> rw [q] <;> decide
  have hk34' : A.1 b = 3 ∨ A.1 b = 4 := by rw [← hA0]; exact hk34
  have etc : ldk_tc A'.1 A'.2.1 A'.2.2.2.1 b = (V.2.1 (e + 1)).toInt * (A.2.1 b).toInt := by
    unfold ldk_tc; rw [eA0, eA1, eA3, if_neg hne.1, if_pos hk34']
  have eg1 : ldk_g1 A'.1 A'.2.1 A'.2.2.2.2.1 b = V.2.2.1 (e + 1) := by
    unfold ldk_g1; rw [eA0, eA4, if_neg hne.2.1, if_pos hk34']
  have eg2 : ldk_g2 A'.1 A'.2.1 A'.2.2.2.2.2 b = V.2.2.2 (e + 1) := by
    unfold ldk_g2; rw [eA0, eA5, if_neg hne.2.2, if_pos hk34']
  have htc0 : 0 ≤ (V.2.1 (e + 1)).toInt * (A.2.1 b).toInt := Int.mul_nonneg v1 (by rw [← hA1]; omega)
  have hL := ldk_lv_ext L1 (fun j hj => hag j (hcb (e + 1) (Nat.le_refl _) j hj))
  have hM := ldk_lv_ext M1 (fun j hj => hag j (hcb e (by omega) j hj))
  have hpos : 0 < (V.2.1 (e + 1)).toInt := by omega
  refine ⟨va_up X b (cs (e + 1)), va_up E b n, o, bf, va_up cs e (cs e ++ [b]), b1, by omega, b3, ?_, ?_, ?_, ?_, ?_, ?_⟩
  · rw [eA0, eA1, eQ0, eQ1]; exact b4
  · intro i hi ho
    by_cases c : i = b
    · subst c
      rw [show va_up X i (cs (e + 1)) i = cs (e + 1) by unfold va_up; rw [if_pos rfl], show va_up E i n i = n by unfold va_up; rw [if_pos rfl]]
      refine ⟨Nat.le_refl _, ⟨⟨?_, ?_, ?_, ?_⟩, ?_, ?_, ?_⟩, fun j hj l hl => L2 j hj l (by omega)⟩
      · rw [show va_up E i n i = n by unfold va_up; rw [if_pos rfl]]; exact o1
      · rw [show va_up E i n i = n by unfold va_up; rw [if_pos rfl]]; exact eQ2
      · rw [show va_up E i n i = n by unfold va_up; rw [if_pos rfl], show va_up X i (cs (e + 1)) i = cs (e + 1) by unfold va_up; rw [if_pos rfl]]; exact hL.1
      · rw [eQ0, eQ1]; exact Or.inr (Or.inr (Or.inr ⟨o2, o3, o4⟩))
      · rw [eA0, eQ0]; exact hA0.symm
      · rw [eA1, eQ1]; exact hA1.symm
      · intro _
        rw [show va_up X i (cs (e + 1)) i = cs (e + 1) by unfold va_up; rw [if_pos rfl], eA2, eQ2, eA3, eA4, eA5]
        exact ⟨rfl, hL.2.1, hL.2.2.1, hL.2.2.2.1, by omega⟩
    · obtain ⟨c1, c2, c3⟩ := b5 i hi (fun l hl => by
        by_cases q : l = e
        · subst q; rw [hob]; exact fun z => c z.symm
        · exact ho l (by omega))
      have eX : va_up X b (cs (e + 1)) i = X i := by unfold va_up; rw [if_neg c]
      have eE : va_up E b n i = E i := by unfold va_up; rw [if_neg c]
      rw [eX, eE]
      refine ⟨c1, ldk_wfk_ext c2 (hag i c) (fun j hj => hag j (fun z => ?_)) eX eE, fun j hj l hl => c3 j hj l (by omega)⟩
      have := c3 j hj e (by omega)
      rw [hob] at this; exact this z.symm
  · intro l hl
    rw [eQ0, eQ1, hV1]; exact b6 l (by omega)
  · intro l hl
    by_cases c : l = e
    · subst c
      rw [if_pos rfl, show va_up cs l (cs l ++ [b]) l = cs l ++ [b] by unfold va_up; rw [if_pos rfl]]
      have app := ldk_lv_app (e := n) (p6' := V'.2.1 l) hM o1 eQ2 (by rw [etc]; exact htc0) (by rw [etc]; exact hW2)
      rw [eg1, eg2, ← hW3, ← hW4] at app
      refine ⟨app, fun j hj m hm => ?_⟩
      rcases List.mem_append.mp hj with z | z
      · exact M2 j z m (by omega)
      · rw [List.mem_singleton.mp z]; have := o7 m hm; omega
    · obtain ⟨l1, l2⟩ := b7 l (by omega)
      have l1' := ldk_lv_ext l1 (fun j hj => hag j (hcb l (by omega) j hj))
      rw [if_neg (show ¬ l = e + 1 by omega)] at l1'
      rw [if_neg c, hV2 l c, hV3 l c, hV4 l c, show va_up cs e (cs e ++ [b]) l = cs l by unfold va_up; rw [if_neg c]]
      exact ⟨l1', fun j hj m hm => l2 j hj m (by omega)⟩
  · intro l hl; exact b8 l (by omega)
  · intro l h1 h2
    by_cases c : l = e
    · subst c
      rw [if_pos rfl]
      have bt := b9 (l + 1) (by omega) (Nat.le_refl _)
      rw [if_pos rfl, Nat.add_sub_cancel] at bt
      have q1 : s ≠ bf l := fun z => hp (bt.mpr z)
      have q2 := (b8 l (by omega)).2.1
      have q3 := (b8 l (by omega)).2.2 (l - 1) (by omega)
      have hne6 : (V'.2.1 l).toInt ≠ 0 := by
        rw [hW2]
        have := M1.2.2.2.2.1
        have h1' : (V.2.1 (l + 1)).toInt * 1 ≤ (V.2.1 (l + 1)).toInt * (A.2.1 b).toInt := Int.mul_le_mul_of_nonneg_left (by rw [← hA1]; exact o3) (by omega)
        split <;> omega
      exact ⟨fun z => absurd z hne6, fun z => by omega⟩
    · have bb := b9 l h1 (by omega)
      rw [if_neg (show ¬ l = e + 1 by omega)] at bb
      rw [hV2 l c, if_neg c]; exact bb
end LDKO2
