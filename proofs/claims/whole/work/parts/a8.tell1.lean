/-! ===== the walk to one pick: one item ===== -/
def ldk_cd (I : Nat → Int32) (c d : Int32) : Nat → Int32 := if c = (-1 : Int32) then (if d = (-1 : Int32) then I else upd I 10 d) else (if d = (-1 : Int32) then upd I 9 c else upd (upd I 9 c) 10 d)
theorem ldk_cd9 (I : Nat → Int32) (c d : Int32) : ldk_cd I c d 9 = (if c = (-1 : Int32) then I 9 else c) ∧ ldk_cd I c d 10 = (if d = (-1 : Int32) then I 10 else d) ∧ ldk_cd I c d 6 = I 6 := by
  unfold ldk_cd
  by_cases h1 : c = (-1 : Int32)
  · rw [if_pos h1, if_pos h1]
    by_cases h2 : d = (-1 : Int32)
    · rw [if_pos h2, if_pos h2]; exact ⟨rfl, rfl, rfl⟩
    · rw [if_neg h2, if_neg h2]; exact ⟨by simp [upd], by simp [upd], by simp [upd]⟩
  · rw [if_neg h1, if_neg h1]
    by_cases h2 : d = (-1 : Int32)
    · rw [if_pos h2, if_pos h2]; exact ⟨by simp [upd], by simp [upd], by simp [upd]⟩
    · rw [if_neg h2, if_neg h2]; exact ⟨by simp [upd], by simp [upd], by simp [upd]⟩
section LDKQ
variable {I : Nat → Int32} {L : Nat → Int64} {f0 f1 f2 : Nat → Int32} {f3 : Nat → Int64} {f4 f5 : Nat → Int32} {k : Int32}
theorem ldk_pb1 (h : ¬ f3 k.toNatClampNeg ≤ L 8) : sX1_passBracket I L f0 f1 f2 f3 f4 f5 k = (k + 1, I, L) := if_neg h
theorem ldk_pb2 (h : f3 k.toNatClampNeg ≤ L 8) (h4 : f0 k.toNatClampNeg = (4 : Int32)) (ha : ¬ f3 k.toNatClampNeg * (f1 k.toNatClampNeg).toInt64 ≤ L 8) : sX1_passBracket I L f0 f1 f2 f3 f4 f5 k = (k + 1, I, vp_updL L 8 ((f3 k.toNatClampNeg * (f1 k.toNatClampNeg).toInt64 - 1) - L 8)) := (if_pos h).trans ((if_pos h4).trans (if_neg ha))
theorem ldk_pb3 (h : f3 k.toNatClampNeg ≤ L 8) (ha : f3 k.toNatClampNeg * (f1 k.toNatClampNeg).toInt64 ≤ L 8) : sX1_passBracket I L f0 f1 f2 f3 f4 f5 k = (f2 k.toNatClampNeg, ldk_cd I (f4 k.toNatClampNeg) (f5 k.toNatClampNeg), vp_updL L 8 (L 8 - f3 k.toNatClampNeg * (f1 k.toNatClampNeg).toInt64)) := by
  unfold sX1_passBracket ldk_cd
  rw [if_pos h]
  by_cases h4 : f0 k.toNatClampNeg = (4 : Int32)
  · rw [if_pos h4, if_pos ha]
    by_cases c1 : f4 k.toNatClampNeg = (-1 : Int32)
    · rw [if_pos c1, if_pos c1]
      by_cases c2 : f5 k.toNatClampNeg = (-1 : Int32)
      · rw [if_pos c2, if_pos c2, if_pos ha]
      · rw [if_neg c2, if_neg c2, if_pos ha]
    · rw [if_neg c1, if_neg c1]
      by_cases c2 : f5 k.toNatClampNeg = (-1 : Int32)
      · rw [if_pos c2, if_pos c2, if_pos ha]
      · rw [if_neg c2, if_neg c2, if_pos ha]
  · rw [if_neg h4]
    by_cases c1 : f4 k.toNatClampNeg = (-1 : Int32)
    · rw [if_pos c1, if_pos c1]
      by_cases c2 : f5 k.toNatClampNeg = (-1 : Int32)
      · rw [if_pos c2, if_pos c2, if_pos ha]
      · rw [if_neg c2, if_neg c2, if_pos ha]
    · rw [if_neg c1, if_neg c1]
      by_cases c2 : f5 k.toNatClampNeg = (-1 : Int32)
      · rw [if_pos c2, if_pos c2, if_pos ha]
      · rw [if_neg c2, if_neg c2, if_pos ha]
theorem ldk_pb4 (h : f3 k.toNatClampNeg ≤ L 8) (h4 : ¬ f0 k.toNatClampNeg = (4 : Int32)) (ha : ¬ f3 k.toNatClampNeg * (f1 k.toNatClampNeg).toInt64 ≤ L 8) (h0 : ¬ f3 k.toNatClampNeg ≤ 0) : sX1_passBracket I L f0 f1 f2 f3 f4 f5 k = (k + 1, ldk_cd I (f4 k.toNatClampNeg) (f5 k.toNatClampNeg), vp_updL L 8 (L 8 - L 8 / f3 k.toNatClampNeg * f3 k.toNatClampNeg)) := by
  unfold sX1_passBracket ldk_cd
  rw [if_pos h, if_neg h4]
  by_cases c1 : f4 k.toNatClampNeg = (-1 : Int32)
  · rw [if_pos c1, if_pos c1]
    by_cases c2 : f5 k.toNatClampNeg = (-1 : Int32)
    · rw [if_pos c2, if_pos c2, if_neg ha, if_neg h0]
    · rw [if_neg c2, if_neg c2, if_neg ha, if_neg h0]
  · rw [if_neg c1, if_neg c1]
    by_cases c2 : f5 k.toNatClampNeg = (-1 : Int32)
    · rw [if_pos c2, if_pos c2, if_neg ha, if_neg h0]
    · rw [if_neg c2, if_neg c2, if_neg ha, if_neg h0]
end LDKQ
theorem ldk_lmod {a b : Int64} (ha : 0 ≤ a.toInt) (hb : 0 < b.toInt) : (a - a / b * b).toInt = a.toInt % b.toInt ∧ 0 ≤ a.toInt % b.toInt ∧ a.toInt % b.toInt < b.toInt := by
  obtain ⟨r1, r2⟩ := jx_rg64 a
  have hq0 : 0 ≤ a.toInt / b.toInt := Int.ediv_nonneg ha (Int.le_of_lt hb)
  have hq1 : a.toInt / b.toInt ≤ a.toInt := Int.ediv_le_self _ ha
  have hd : (a / b).toInt = a.toInt / b.toInt := by
    rw [Int64.toInt_div, Int.tdiv_eq_ediv_of_nonneg ha]
    exact jx_bm64 (by omega) (by omega)
  have hm := Int.emod_add_mul_ediv a.toInt b.toInt
  have hm0 := Int.emod_nonneg a.toInt (Int.ne_of_gt hb)
  have hm1 := Int.emod_lt_of_pos a.toInt hb
  have hp : a.toInt / b.toInt * b.toInt = a.toInt - a.toInt % b.toInt := by rw [Int.mul_comm]; omega
  have hp0 : 0 ≤ a.toInt / b.toInt * b.toInt := Int.mul_nonneg hq0 (Int.le_of_lt hb)
  have hmul : (a / b * b).toInt = a.toInt / b.toInt * b.toInt := by
    rw [ldk_lm (by rw [hd]; omega) (by rw [hd]; omega), hd]
  refine ⟨?_, hm0, hm1⟩
  rw [ldk_ls (by rw [hmul]; omega) (by rw [hmul]; omega), hmul, hp]; omega
/-! the pattern, in both -/
def ldk_it (a0 a1 a2 : Nat → Int32) (a3 : Nat → Int64) (a4 a5 f3 f4 f5 f6 f7 : Nat → Int32) (f8 : Nat → Int64) (i : Nat) : Prop :=
  a0 i = f3 i ∧ a1 i = f4 i ∧ ((f3 i = 0 ∧ f5 i = nI (i + 1) ∧ f6 i = -1 ∧ f7 i = -1) ∨ (f3 i = 1 ∧ f5 i = nI (i + 1) ∧ f6 i = f4 i ∧ f7 i = -1 ∧ ¬ f4 i = -1) ∨ (f3 i = 2 ∧ f5 i = nI (i + 1) ∧ f6 i = -1 ∧ f7 i = f4 i ∧ 20 ≤ (f4 i).toInt ∧ (f4 i).toInt ≤ 400) ∨
    ((f3 i = 3 ∨ (f3 i = 4 ∧ f4 i = 2)) ∧ 1 ≤ (f4 i).toInt ∧ (f4 i).toInt ≤ 9999 ∧ a2 i = f5 i ∧ a3 i = f8 i ∧ a4 i = f6 i ∧ a5 i = f7 i ∧ 1 ≤ (f8 i).toInt ∧ (f8 i).toInt ≤ 2000000000 ∧ (f4 i).toInt * (f8 i).toInt ≤ 2000000000 ∧ (f7 i = -1 ∨ (20 ≤ (f7 i).toInt ∧ (f7 i).toInt ≤ 400))))
def ldk_ch (f5 : Nat → Int32) : Nat → List Nat → Nat → Prop
  | k, [], e => k = e
  | k, x :: xs, e => x = k ∧ ∃ j : Nat, k < j ∧ j ≤ e ∧ f5 k = nI j ∧ ldk_ch f5 j xs e
def ldk_T (f3 f4 : Nat → Int32) (f8 : Nat → Int64) (i : Nat) : Int := if f3 i = 0 then 1 else if f3 i = 3 ∨ f3 i = 4 then (f4 i).toInt * (f8 i).toInt else 0
def ldk_sT (f3 f4 : Nat → Int32) (f8 : Nat → Int64) : List Nat → Int
  | [] => 0
  | x :: xs => ldk_T f3 f4 f8 x + ldk_sT f3 f4 f8 xs
section LDKP
variable {a0 a1 a2 : Nat → Int32} {a3 : Nat → Int64} {a4 a5 f3 f4 f5 f6 f7 : Nat → Int32} {f8 : Nat → Int64} {I : Nat → Int32} {L : Nat → Int64} {k : Nat}
/-- over the item, or into it: the same in both -/
theorem ldk_pstep (h : ldk_it a0 a1 a2 a3 a4 a5 f3 f4 f5 f6 f7 f8 k) (hk : k < 80) (r0 : 0 ≤ (L 8).toInt) (r1 : (L 8).toInt ≤ 2000000000) (hn : ¬ (f3 k = 0 ∧ L 8 = 0)) :
    (sX1_pass I L a0 a1 a2 a3 a4 a5 (nI k)).1 = (ldkS f3 f4 f5 f6 f7 f8 (I 9, I 10, L 8, nI k)).2.2.2 ∧ (sX1_pass I L a0 a1 a2 a3 a4 a5 (nI k)).2.1 9 = (ldkS f3 f4 f5 f6 f7 f8 (I 9, I 10, L 8, nI k)).1 ∧ (sX1_pass I L a0 a1 a2 a3 a4 a5 (nI k)).2.1 10 = (ldkS f3 f4 f5 f6 f7 f8 (I 9, I 10, L 8, nI k)).2.1 ∧ (sX1_pass I L a0 a1 a2 a3 a4 a5 (nI k)).2.2 8 = (ldkS f3 f4 f5 f6 f7 f8 (I 9, I 10, L 8, nI k)).2.2.1 ∧ (sX1_pass I L a0 a1 a2 a3 a4 a5 (nI k)).2.1 6 = I 6 ∧ (sX1_pass I L a0 a1 a2 a3 a4 a5 (nI k)).2.2 7 = L 7 ∧
    ((ldkS f3 f4 f5 f6 f7 f8 (I 9, I 10, L 8, nI k)).2.1 = I 10 ∨ (20 ≤ (ldkS f3 f4 f5 f6 f7 f8 (I 9, I 10, L 8, nI k)).2.1.toInt ∧ (ldkS f3 f4 f5 f6 f7 f8 (I 9, I 10, L 8, nI k)).2.1.toInt ≤ 400)) ∧
    (((ldkS f3 f4 f5 f6 f7 f8 (I 9, I 10, L 8, nI k)).2.2.2 = f5 k ∧ (ldkS f3 f4 f5 f6 f7 f8 (I 9, I 10, L 8, nI k)).2.2.1.toInt = (L 8).toInt - ldk_T f3 f4 f8 k ∧ ldk_T f3 f4 f8 k ≤ (L 8).toInt ∧ 0 ≤ ldk_T f3 f4 f8 k) ∨ ((f3 k = 3 ∨ f3 k = 4) ∧ ¬ f8 k = 0 ∧ (ldkS f3 f4 f5 f6 f7 f8 (I 9, I 10, L 8, nI k)).2.2.2 = nI (k + 1) ∧ 0 ≤ (ldkS f3 f4 f5 f6 f7 f8 (I 9, I 10, L 8, nI k)).2.2.1.toInt ∧ (ldkS f3 f4 f5 f6 f7 f8 (I 9, I 10, L 8, nI k)).2.2.1.toInt < (f8 k).toInt)) := by
  obtain ⟨i1, i2, i3⟩ := h
  have ck : (nI k).toNatClampNeg = k := nI_clamp (by omega)
  rcases i3 with ⟨d1, d2, d3, d4⟩ | ⟨d1, d2, d3, d4, d5⟩ | ⟨d1, d2, d3, d4, d5, d6⟩ | ⟨d1, d2, d3, d4, d5, d6, d7, d8, d8', d9, d10⟩
  · -- a pick
    have hb : sX7_isBracket f3 (nI k) = 0 := by unfold sX7_isBracket; rw [ck, d1]; decide
    have hS : ldkS f3 f4 f5 f6 f7 f8 (I 9, I 10, L 8, nI k) = (I 9, I 10, L 8 - 1, f5 k) := by
      unfold ldkS ldkIn
      dsimp only
      rw [hb, if_pos rfl, if_pos rfl]
      unfold ldkC ldkR1
      rw [ck, hb, if_pos rfl, d3, d4, d1, if_pos rfl, if_pos rfl, if_pos rfl]
    have hp : sX1_pass I L a0 a1 a2 a3 a4 a5 (nI k) = (nI k + 1, I, vp_updL L 8 (L 8 - 1)) := by
      unfold sX1_pass; rw [ck, i1, d1]; exact if_pos rfl
    have hT : ldk_T f3 f4 f8 k = 1 := by unfold ldk_T; rw [if_pos d1]
    have hne : (L 8).toInt ≠ 0 := fun z => hn ⟨d1, ldk_Eq.mpr (z.trans ldk_T0.symm)⟩
    rw [hS, hp, hT]
    dsimp only
    refine ⟨by rw [d2, nI_succ], rfl, rfl, by rw [pk_uLs], rfl, by rw [pk_uLn (by decide)], Or.inl rfl, Or.inl ⟨rfl, ?_, by omega, by omega⟩⟩
    rw [ldk_ls (by rw [ldk_T1]; omega) (by rw [ldk_T1]; omega), ldk_T1]
  · -- a carrier
    have hb : sX7_isBracket f3 (nI k) = 0 := by unfold sX7_isBracket; rw [ck, d1]; decide
    have hS : ldkS f3 f4 f5 f6 f7 f8 (I 9, I 10, L 8, nI k) = (f4 k, I 10, L 8 - 0, f5 k) := by
      unfold ldkS ldkIn
      dsimp only
      rw [hb, if_pos rfl, if_pos rfl]
      unfold ldkC ldkR1
      rw [ck, hb, if_pos rfl, d3, d4, d1, if_neg d5, if_pos rfl, if_neg (show ¬ (1 : Int32) = 0 by decide)]
    have hp : sX1_pass I L a0 a1 a2 a3 a4 a5 (nI k) = (nI k + 1, upd I 9 (a1 k), L) := by
      unfold sX1_pass; rw [ck, i1, d1]; exact (if_neg (by decide)).trans (if_pos rfl)
    have hT : ldk_T f3 f4 f8 k = 0 := by unfold ldk_T; rw [d1, if_neg (by decide), if_neg (by decide)]
    have e0 : (L 8 - 0).toInt = (L 8).toInt - 0 := by rw [ldk_ls (by rw [ldk_T0]; omega) (by rw [ldk_T0]; omega), ldk_T0]
    rw [hS, hp, hT]
    dsimp only
    refine ⟨by rw [d2, nI_succ], by rw [pk_us, i2], by rw [pk_un (by decide)], ?_, by rw [pk_un (by decide)], rfl, Or.inl rfl, Or.inl ⟨rfl, e0, by omega, by omega⟩⟩
    rw [ldk_Eq, e0]; omega
  · -- a density
    have hb : sX7_isBracket f3 (nI k) = 0 := by unfold sX7_isBracket; rw [ck, d1]; decide
    have d7 : ¬ f4 k = -1 := by rw [ldk_ne, show (-1 : Int32).toInt = -1 by decide]; omega
    have hS : ldkS f3 f4 f5 f6 f7 f8 (I 9, I 10, L 8, nI k) = (I 9, f4 k, L 8 - 0, f5 k) := by
      unfold ldkS ldkIn
      dsimp only
      rw [hb, if_pos rfl, if_pos rfl]
      unfold ldkC ldkR1
      rw [ck, hb, if_pos rfl, d3, d4, d1, if_neg d7, if_pos rfl, if_neg (show ¬ (2 : Int32) = 0 by decide)]
    have hp : sX1_pass I L a0 a1 a2 a3 a4 a5 (nI k) = (nI k + 1, upd I 10 (a1 k), L) := by
      unfold sX1_pass; rw [ck, i1, d1]; exact (if_neg (by decide)).trans ((if_neg (by decide)).trans (if_pos rfl))
    have hT : ldk_T f3 f4 f8 k = 0 := by unfold ldk_T; rw [d1, if_neg (by decide), if_neg (by decide)]
    have e0 : (L 8 - 0).toInt = (L 8).toInt - 0 := by rw [ldk_ls (by rw [ldk_T0]; omega) (by rw [ldk_T0]; omega), ldk_T0]
    rw [hS, hp, hT]
    dsimp only
    refine ⟨by rw [d2, nI_succ], by rw [pk_un (by decide)], by rw [pk_us, i2], ?_, by rw [pk_un (by decide)], rfl, Or.inr ⟨d5, d6⟩, Or.inl ⟨rfl, e0, by omega, by omega⟩⟩
    rw [ldk_Eq, e0]; omega
  · -- a bracket
    have hb3 : (3 : Int32) ≤ f3 k := by
      rcases d1 with z | ⟨z, -⟩ <;> rw [z] <;> decide
    have hne0 : ¬ f3 k = 0 ∧ ¬ f3 k = 1 ∧ ¬ f3 k = 2 := by
      rcases d1 with z | ⟨z, -⟩ <;> rw [z] <;> decide
    have hb : sX7_isBracket f3 (nI k) = 1 := by
      unfold sX7_isBracket; rw [ck, if_neg (by rw [Int32.le_iff_toInt_le] at hb3; rw [Int32.lt_iff_toInt_lt]; omega)]
    have hv : ((f4 k).toInt64).toInt = (f4 k).toInt := Int32.toInt_toInt64 _
    have ht0 : (f8 k).toInt ≤ (f4 k).toInt * (f8 k).toInt := by
      have := Int.mul_le_mul_of_nonneg_right d2 (show 0 ≤ (f8 k).toInt by omega)
      omega
    have hall : (f8 k * (f4 k).toInt64).toInt = (f4 k).toInt * (f8 k).toInt := by
      rw [ldk_lm (by rw [hv, Int.mul_comm]; omega) (by rw [hv, Int.mul_comm]; omega), hv, Int.mul_comm]
    have htm : sX7_times f3 f4 f8 (nI k) = f8 k * (f4 k).toInt64 := by
      unfold sX7_times
      rw [ck]
      have e : (if f3 k = (3 : Int32) then (f4 k).toInt64 else (2 : Int64)) * f8 k = f8 k * (f4 k).toInt64 := by
        rcases d1 with z | ⟨z, z2⟩
        · rw [if_pos z, Int64.mul_comm]
        · rw [if_neg (by rw [z]; decide), z2, Int64.mul_comm]; rfl
      rw [e, if_pos (by rw [Int64.le_iff_toInt_le, hall, show (1099511627776 : Int64).toInt = 1099511627776 by decide]; omega)]
    have hT : ldk_T f3 f4 f8 k = (f4 k).toInt * (f8 k).toInt := by
      unfold ldk_T; rw [if_neg hne0.1, if_pos (by rcases d1 with z | z; exact Or.inl z; exact Or.inr z.1)]
    have hk34 : f3 k = 3 ∨ f3 k = 4 := by rcases d1 with z | z; exact Or.inl z; exact Or.inr z.1
    have h80 : ¬ f8 k = 0 := fun z => by rw [z, ldk_T0] at d8; omega
    have hpass : sX1_pass I L a0 a1 a2 a3 a4 a5 (nI k) = sX1_passBracket I L a0 a1 a2 a3 a4 a5 (nI k) := by
      unfold sX1_pass; rw [ck, i1]; exact (if_neg hne0.1).trans ((if_neg hne0.2.1).trans (if_neg hne0.2.2))
    rw [hpass, hT]
    generalize hTT : (f4 k).toInt * (f8 k).toInt = t at *
    have hIn : ldkIn f3 f4 f8 (L 8) (nI k) = if f8 k * (f4 k).toInt64 ≤ L 8 then 0 else 1 := by
      unfold ldkIn; rw [hb, if_neg (by decide), htm]
    by_cases q1 : f8 k ≤ L 8
    · have q1' := q1
      rw [Int64.le_iff_toInt_le] at q1'
      by_cases q2 : f8 k * (f4 k).toInt64 ≤ L 8
      · -- past it
        have q2' := q2
        rw [Int64.le_iff_toInt_le, hall] at q2'
        have hp := ldk_pb3 (I := I) (L := L) (f0 := a0) (f1 := a1) (f2 := a2) (f3 := a3) (f4 := a4) (f5 := a5) (k := nI k) (by rw [ck, d5]; exact q1) (by rw [ck, d5, i2]; exact q2)
        rw [ck, d5, i2, d4, d6, d7] at hp
        have hS : ldkS f3 f4 f5 f6 f7 f8 (I 9, I 10, L 8, nI k) = ((if f6 k = (-1 : Int32) then I 9 else f6 k), (if f7 k = (-1 : Int32) then I 10 else f7 k), L 8 - f8 k * (f4 k).toInt64, f5 k) := by
          unfold ldkS
          dsimp only
          rw [hIn, if_pos q2, if_pos rfl]
          unfold ldkC ldkR1
          rw [ck, hb, if_neg (show ¬ (1 : Int32) = 0 by decide), htm]
        obtain ⟨w1, w2, w3⟩ := ldk_cd9 I (f6 k) (f7 k)
        rw [hS, hp]
        dsimp only
        refine ⟨rfl, w1, w2, by rw [pk_uLs], w3, by rw [pk_uLn (by decide)], ?_, Or.inl ⟨rfl, ?_, q2', by omega⟩⟩
        · rcases d10 with z | z
          · rw [if_pos z]; exact Or.inl rfl
          · rw [if_neg (by rw [ldk_ne, show (-1 : Int32).toInt = -1 by decide]; omega)]; exact Or.inr z
        · rw [ldk_ls (by rw [hall]; omega) (by rw [hall]; omega), hall]
      · have q2' := q2
        rw [Int64.le_iff_toInt_le, hall] at q2'
        rcases d1 with z3 | ⟨z4, z2⟩
        · -- once more
          have hp := ldk_pb4 (I := I) (L := L) (f0 := a0) (f1 := a1) (f2 := a2) (f3 := a3) (f4 := a4) (f5 := a5) (k := nI k) (by rw [ck, d5]; exact q1) (by rw [ck, i1, z3]; decide) (by rw [ck, d5, i2]; exact q2) (by rw [ck, d5, Int64.le_iff_toInt_le, ldk_T0]; omega)
          rw [ck, d5, d6, d7] at hp
          have hS : ldkS f3 f4 f5 f6 f7 f8 (I 9, I 10, L 8, nI k) = ((if f6 k = (-1 : Int32) then I 9 else f6 k), (if f7 k = (-1 : Int32) then I 10 else f7 k), L 8 - L 8 / f8 k * f8 k, nI k + 1) := by
            unfold ldkS ldkAg
            dsimp only
            rw [hIn, if_neg q2, if_neg (show ¬ (1 : Int32) = 0 by decide), ck, if_neg (show ¬ (1 : Int32) = 0 by decide), if_pos z3, if_neg (show ¬ L 8 < f8 k by rw [Int64.lt_iff_toInt_lt]; omega), if_neg (show ¬ (1 : Int32) = 0 by decide)]
            unfold ldkC ldkR2
            rw [ck, if_pos z3]
          obtain ⟨w1, w2, w3⟩ := ldk_cd9 I (f6 k) (f7 k)
          obtain ⟨m1, m2, m3⟩ := ldk_lmod (a := L 8) (b := f8 k) r0 (by omega)
          rw [hS, hp]
          dsimp only
          refine ⟨rfl, w1, w2, by rw [pk_uLs], w3, by rw [pk_uLn (by decide)], ?_, Or.inr ⟨Or.inl z3, h80, (nI_succ k).symm, by rw [m1]; exact m2, by rw [m1]; exact m3⟩⟩
          rcases d10 with z | z
          · rw [if_pos z]; exact Or.inl rfl
          · rw [if_neg (by rw [ldk_ne, show (-1 : Int32).toInt = -1 by decide]; omega)]; exact Or.inr z
        · -- the way back of a mirror
          have hp := ldk_pb2 (I := I) (L := L) (f0 := a0) (f1 := a1) (f2 := a2) (f3 := a3) (f4 := a4) (f5 := a5) (k := nI k) (by rw [ck, d5]; exact q1) (by rw [ck, i1]; exact z4) (by rw [ck, d5, i2]; exact q2)
          rw [ck, d5, i2] at hp
          have e2 : f8 k * (f4 k).toInt64 = 2 * f8 k := by rw [z2, Int64.mul_comm]; rfl
          have hS : ldkS f3 f4 f5 f6 f7 f8 (I 9, I 10, L 8, nI k) = (I 9, I 10, (2 * f8 k - 1) - L 8, nI k + 1) := by
            unfold ldkS ldkAg
            dsimp only
            rw [hIn, if_neg q2, if_neg (by decide), ck, if_neg (show ¬ (1 : Int32) = 0 by decide), if_neg (show ¬ f3 k = 3 by rw [z4]; decide), if_pos rfl]
            unfold ldkR2
            rw [ck, if_neg (show ¬ f3 k = 3 by rw [z4]; decide), if_pos q1]
          rw [hS, hp, e2]
          rw [e2] at hall
          have ht2 : t = 2 * (f8 k).toInt := by rw [← hTT, z2]; rfl
          have e3 : (2 * f8 k - 1).toInt = t - 1 := by rw [ldk_ls (by rw [hall, ldk_T1]; omega) (by rw [hall, ldk_T1]; omega), hall, ldk_T1]
          have e4 : (2 * f8 k - 1 - L 8).toInt = t - 1 - (L 8).toInt := by rw [ldk_ls (by rw [e3]; omega) (by rw [e3]; omega), e3]
          dsimp only
          refine ⟨rfl, rfl, rfl, by rw [pk_uLs], rfl, by rw [pk_uLn (by decide)], Or.inl rfl, Or.inr ⟨Or.inr z4, h80, (nI_succ k).symm, by rw [e4]; omega, by rw [e4]; omega⟩⟩
    · -- the first time in
      have q1' := q1
      rw [Int64.le_iff_toInt_le] at q1'
      have q2 : ¬ f8 k * (f4 k).toInt64 ≤ L 8 := by rw [Int64.le_iff_toInt_le, hall]; omega
      have hp := ldk_pb1 (I := I) (L := L) (f0 := a0) (f1 := a1) (f2 := a2) (f3 := a3) (f4 := a4) (f5 := a5) (k := nI k) (by rw [ck, d5]; exact q1)
      obtain ⟨m1, m2, m3⟩ := ldk_lmod (a := L 8) (b := f8 k) r0 (by omega)
      have hR : ldkR2 f3 f8 (L 8) (nI k) = L 8 := by
        unfold ldkR2
        rw [ck]
        by_cases z3 : f3 k = 3
        · rw [if_pos z3, ldk_Eq, m1]; exact Int.emod_eq_of_lt r0 (by omega)
        · rw [if_neg z3, if_neg q1]
      have hS : ldkS f3 f4 f5 f6 f7 f8 (I 9, I 10, L 8, nI k) = (I 9, I 10, L 8, nI k + 1) := by
        unfold ldkS ldkAg
        dsimp only
        rw [hIn, if_neg q2, if_neg (by decide), ck, if_neg (show ¬ (1 : Int32) = 0 by decide), hR]
        by_cases z3 : f3 k = 3
        · rw [if_pos z3, if_pos (show L 8 < f8 k by rw [Int64.lt_iff_toInt_lt]; omega), if_pos rfl]
        · rw [if_neg z3, if_pos rfl]
      rw [hS, hp]
      dsimp only
      exact ⟨rfl, rfl, rfl, rfl, rfl, rfl, Or.inl rfl, Or.inr ⟨hk34, h80, (nI_succ k).symm, r0, by omega⟩⟩
end LDKP
