/-! ===== forwards: one stretch ===== -/
theorem ldk_min1 (a b : Int32) : (if a < b then a else b) = (if a ≤ b then a else b) := by
  by_cases h : a < b
  · rw [if_pos h, if_pos (by rw [Int32.lt_iff_toInt_lt] at h; rw [Int32.le_iff_toInt_le]; omega)]
  · rw [if_neg h]
    by_cases h2 : a ≤ b
    · rw [if_pos h2, ldk_eq]; rw [Int32.lt_iff_toInt_lt] at h; rw [Int32.le_iff_toInt_le] at h2; omega
    · rw [if_neg h2]
theorem ldk_min2 (a b : Int32) : (if b < a then b else a) = (if a ≤ b then a else b) := by
  by_cases h : b < a
  · rw [if_pos h, if_neg (by rw [Int32.lt_iff_toInt_lt] at h; rw [Int32.le_iff_toInt_le]; omega)]
  · rw [if_neg h, if_pos (by rw [Int32.lt_iff_toInt_lt] at h; rw [Int32.le_iff_toInt_le]; omega)]
theorem ldk_ab (a : Int32) : (sX7_above a).toInt = if a.toInt < 480 then 480 else if a.toInt < 1440 then 1440 else if a.toInt < 4800 then 4800 else 5760 := by
  unfold sX7_above
  simp only [Int32.le_iff_toInt_le, show (480 : Int32).toInt = 480 by decide, show (1440 : Int32).toInt = 1440 by decide, show (4800 : Int32).toInt = 4800 by decide]
  by_cases h1 : (480 : Int) ≤ a.toInt
  · rw [if_pos h1, if_neg (show ¬ a.toInt < 480 by omega)]
    by_cases h2 : (1440 : Int) ≤ a.toInt
    · rw [if_pos h2, if_neg (show ¬ a.toInt < 1440 by omega)]
      by_cases h3 : (4800 : Int) ≤ a.toInt
      · rw [if_pos h3, if_neg (show ¬ a.toInt < 4800 by omega)]; decide
      · rw [if_neg h3, if_pos (show a.toInt < 4800 by omega)]; decide
    · rw [if_neg h2, if_pos (show a.toInt < 1440 by omega)]; decide
  · rw [if_neg h1, if_pos (show a.toInt < 480 by omega)]; decide
section LDKG
variable {I1 J : Nat → Int32} {L1 M : Nat → Int64} {r : Int32}
theorem ldk_go (h : ldk_eB I1 L1 J M) : sX4_markAbove I1 = sX7_above (J 22) ∧ (sX4_goTowards I1 (sX4_markAbove I1) r).1 = ldk_t2 J r ∧ (sX4_goTowards I1 (sX4_markAbove I1) r).2 0 = ldk_ta J r ∧ (sX4_goTowards I1 (sX4_markAbove I1) r).2 1 = J 21 ∧ (sX4_goTowards I1 (sX4_markAbove I1) r).2 2 = (if J 21 = 2 then ldk_tl J r else 0) ∧ (sX4_goTowards I1 (sX4_markAbove I1) r).2 3 = I1 3 ∧ (sX4_goTowards I1 (sX4_markAbove I1) r).2 4 = I1 4 := by
  obtain ⟨⟨b1, b2, b3, b4, b5, b6, b7, b8⟩, c1, c2, c3⟩ := h
  have e0 : sX4_markAbove I1 = sX7_above (J 22) := by rw [c1]; rfl
  refine ⟨e0, ?_⟩
  have e1 : (if r < sX4_markAbove I1 - I1 0 then r else sX4_markAbove I1 - I1 0) = ldk_t1 J r := by
    rw [ldk_min1, e0, ← c1]; rfl
  unfold sX4_goTowards
  rw [e1, ← b1]
  by_cases h2 : J 21 = 2
  · rw [if_pos h2] at b6
    have e2 : (if I1 2 < ldk_t1 J r then I1 2 else ldk_t1 J r) = ldk_t2 J r := by
      rw [b6, ldk_min2]; unfold ldk_t2; rw [if_pos h2]
    rw [e2, if_pos h2, if_pos h2]
    dsimp only
    refine ⟨rfl, ?_, ?_, ?_, ?_, ?_⟩
    · rw [pk_un (by decide), pk_us, ← c1]; rfl
    · rw [pk_un (by decide), pk_un (by decide)]; exact b1.symm
    · rw [pk_us, b6]; unfold ldk_tl; rw [if_pos h2]
    · rw [pk_un (by decide), pk_un (by decide)]
    · rw [pk_un (by decide), pk_un (by decide)]
  · rw [if_neg h2] at b6
    have e2 : ldk_t1 J r = ldk_t2 J r := by unfold ldk_t2; rw [if_neg h2]
    rw [e2, if_neg h2, if_neg h2]
    dsimp only
    refine ⟨rfl, ?_, ?_, ?_, ?_, ?_⟩
    · rw [pk_us, ← c1]; rfl
    · rw [pk_un (by decide)]; exact b1.symm
    · rw [pk_un (by decide), b6]
    · rw [pk_un (by decide)]
    · rw [pk_un (by decide)]
theorem ldk_num1 (h : ldk_eB I1 L1 J M) (hr : ¬ r ≤ 0) (hr2 : r.toInt ≤ 1000000) : 1 ≤ (ldk_t2 J r).toInt ∧ (ldk_t2 J r).toInt ≤ r.toInt ∧ (ldk_ta J r).toInt = (J 22).toInt + (ldk_t2 J r).toInt ∧ (ldk_ta J r).toInt ≤ (sX7_above (J 22)).toInt ∧ (J 21 = 2 → (ldk_tl J r).toInt = (J 23).toInt - (ldk_t2 J r).toInt ∧ 0 ≤ (ldk_tl J r).toInt ∧ (ldk_tl J r).toInt ≤ 2400) ∧ ((ldk_ta J r).toInt = (sX7_above (J 22)).toInt ∨ (ldk_t2 J r).toInt = r.toInt ∨ (J 21 = 2 ∧ (ldk_tl J r).toInt = 0)) := by
  obtain ⟨⟨b1, b2, b3, b4, b5, b6, b7, b8⟩, c1, c2, c3⟩ := h
  rw [Int32.le_iff_toInt_le, ldk_t0'] at hr
  have hab := ldk_ab (J 22)
  have ab1 : (J 22).toInt < (sX7_above (J 22)).toInt ∧ (sX7_above (J 22)).toInt ≤ 5760 := by
    rw [hab]; split
    · omega
    · split
      · omega
      · split <;> omega
  have e0 : (ldk_t0 J).toInt = (sX7_above (J 22)).toInt - (J 22).toInt := by
    unfold ldk_t0; exact ldk_is (by omega) (by omega)
  have e1 : (ldk_t1 J r).toInt = if r.toInt ≤ (ldk_t0 J).toInt then r.toInt else (ldk_t0 J).toInt := by
    unfold ldk_t1
    by_cases q : r ≤ ldk_t0 J
    · rw [if_pos q, if_pos (Int32.le_iff_toInt_le.mp q)]
    · rw [if_neg q, if_neg (fun z => q (Int32.le_iff_toInt_le.mpr z))]
  have e2 : (ldk_t2 J r).toInt = if J 21 = 2 then (if (ldk_t1 J r).toInt ≤ (J 23).toInt then (ldk_t1 J r).toInt else (J 23).toInt) else (ldk_t1 J r).toInt := by
    unfold ldk_t2
    by_cases q : J 21 = 2
    · rw [if_pos q, if_pos q]
      by_cases q2 : ldk_t1 J r ≤ J 23
      · rw [if_pos q2, if_pos (Int32.le_iff_toInt_le.mp q2)]
      · rw [if_neg q2, if_neg (fun z => q2 (Int32.le_iff_toInt_le.mpr z))]
    · rw [if_neg q, if_neg q]
  have r1 : 1 ≤ (ldk_t1 J r).toInt ∧ (ldk_t1 J r).toInt ≤ r.toInt ∧ (ldk_t1 J r).toInt ≤ (ldk_t0 J).toInt ∧ ((ldk_t1 J r).toInt = r.toInt ∨ (ldk_t1 J r).toInt = (ldk_t0 J).toInt) := by
    rw [e1]; split <;> omega
  have r2 : 1 ≤ (ldk_t2 J r).toInt ∧ (ldk_t2 J r).toInt ≤ (ldk_t1 J r).toInt ∧ (J 21 = 2 → (ldk_t2 J r).toInt ≤ (J 23).toInt) ∧ ((ldk_t2 J r).toInt = (ldk_t1 J r).toInt ∨ (J 21 = 2 ∧ (ldk_t2 J r).toInt = (J 23).toInt)) := by
    rw [e2]
    by_cases q : J 21 = 2
    · have := c3 q
      rw [if_pos q]
      split
      · exact ⟨by omega, by omega, fun _ => by omega, Or.inl rfl⟩
      · exact ⟨by omega, by omega, fun _ => by omega, Or.inr ⟨q, rfl⟩⟩
    · rw [if_neg q]; exact ⟨by omega, by omega, fun z => absurd z q, Or.inl rfl⟩
  have ea : (ldk_ta J r).toInt = (J 22).toInt + (ldk_t2 J r).toInt := by
    unfold ldk_ta; exact ldk_ia (by omega) (by omega)
  have el : J 21 = 2 → (ldk_tl J r).toInt = (J 23).toInt - (ldk_t2 J r).toInt := fun q => by
    unfold ldk_tl; rw [if_pos q]
    have := b8 q; have := r2.2.2.1 q
    exact ldk_is (by omega) (by omega)
  refine ⟨r2.1, by omega, ea, by omega, fun q => ?_, ?_⟩
  · have := el q; have := b8 q; have := r2.2.2.1 q; exact ⟨by omega, by omega, by omega⟩
  · rcases r2.2.2.2 with z | ⟨z1, z2⟩
    · rcases r1.2.2.2 with z3 | z3
      · right; left; omega
      · left; omega
    · right; right; exact ⟨z1, by have := el z1; omega⟩
theorem ldk_mk (h : ldk_eB I1 L1 J M) (hr : ¬ r ≤ 0) (hr2 : r.toInt ≤ 1000000) : (ldk_ta J r = sX7_above (J 22)) ↔ ldk_tm (ldk_ta J r) := by
  obtain ⟨n1, n2, n3, n4, n5, n6⟩ := ldk_num1 h hr hr2
  obtain ⟨-, -, c2, -⟩ := h
  have hab := ldk_ab (J 22)
  unfold ldk_tm
  rw [ldk_eq, ldk_eq, ldk_eq, ldk_eq, ldk_eq, show (480 : Int32).toInt = 480 by decide, show (1440 : Int32).toInt = 1440 by decide, show (4800 : Int32).toInt = 4800 by decide, show (5760 : Int32).toInt = 5760 by decide]
  split at hab
  · omega
  · split at hab
    · omega
    · split at hab <;> omega
theorem ldk_ts0 : ldk_ts J r = 0 ↔ ¬ (J 21 = 2 ∧ ldk_tl J r = 0) := by
  unfold ldk_ts
  by_cases q : J 21 = 2
  · rw [if_pos q]
    by_cases q2 : ldk_tl J r = 0
    · rw [if_pos q2]; exact ⟨fun z => absurd z (by decide), fun z => absurd ⟨q, q2⟩ z⟩
    · rw [if_neg q2]; exact ⟨fun _ z => q2 z.2, fun _ => rfl⟩
  · rw [if_neg q]; exact ⟨fun _ z => q z.1, fun _ => rfl⟩
/-- the shaft stands when the brake is spent -/
theorem ldk_stand {t : Int32} {J' : Nat → Int32} {M' : Nat → Int64} {L1' : Nat → Int64} (h : ldk_eB0 I1 L1 J M) (hm : ¬ J 21 = 0) (ht : t = 0 ↔ ¬ (J 21 = 2 ∧ J 23 = 0)) (e21 : J' 21 = if t = 0 then J 21 else 0) (e31 : J' 31 = J 31) (e24 : J' 24 = J 24) (e23 : J' 23 = J 23) (e34 : M' 34 = L1' 5) :
    ldk_eB0 (sX4_standWhenSpent I1) L1' J' M' ∧ (J' 21 = 2 → 0 < (J' 23).toInt) ∧ sX4_standWhenSpent I1 0 = I1 0 := by
  obtain ⟨b1, b2, b3, b4, b5, b6, b7, b8⟩ := h
  unfold sX4_standWhenSpent
  rw [← b1]
  by_cases h2 : J 21 = 2
  · rw [if_pos h2] at b6
    rw [if_pos h2, b6]
    by_cases h3 : J 23 = 0
    · have ht' : ¬ t = 0 := fun z => ht.mp z ⟨h2, h3⟩
      rw [if_neg ht'] at e21
      rw [if_pos h3]
      unfold sX4_stand
      refine ⟨⟨?_, ?_, e34, ?_, ?_, ?_, ?_, ?_⟩, ?_, ?_⟩
      · rw [e21, pk_un (by decide), pk_us]
      · rw [e31, b2, pk_un (by decide), pk_un (by decide)]
      · rw [e24, b4, pk_un (by decide), pk_un (by decide)]
      · rw [pk_un (by decide), pk_un (by decide)]; exact b5
      · rw [pk_us, e21, if_neg (by decide)]
      · exact Or.inl e21
      · intro z; rw [e21] at z; exact absurd z (by decide)
      · intro z; rw [e21] at z; exact absurd z (by decide)
      · rw [pk_un (by decide), pk_un (by decide)]
    · have ht' : t = 0 := ht.mpr (fun z => h3 z.2)
      rw [if_pos ht'] at e21
      rw [if_neg h3]
      refine ⟨⟨e21.trans b1, e31.trans b2, e34, e24.trans b4, b5, ?_, ?_, ?_⟩, ?_, rfl⟩
      · rw [e21, if_pos h2, e23]; exact b6
      · rw [e21]; exact b7
      · rw [e21, e23]; exact b8
      · intro _; have := b8 h2; rw [e23]; rw [ldk_ne, ldk_t0'] at h3; omega
  · have ht' : t = 0 := ht.mpr (fun z => h2 z.1)
    rw [if_pos ht'] at e21
    rw [if_neg h2] at b6
    rw [if_neg h2]
    refine ⟨⟨e21.trans b1, e31.trans b2, e34, e24.trans b4, b5, ?_, ?_, ?_⟩, ?_, rfl⟩
    · rw [e21, if_neg h2]; exact b6
    · rw [e21]; exact b7
    · rw [e21, e23]; exact b8
    · intro z; rw [e21] at z; exact absurd z h2
/-- the shaft behind one stretch -/
theorem ldk_moved {J' : Nat → Int32} (h : ldk_eB I1 L1 J M) (hr : ¬ r ≤ 0) (hr2 : r.toInt ≤ 1000000) (e21 : J' 21 = J 21) (e31 : J' 31 = J 31) (e24 : J' 24 = J 24) (e23 : J' 23 = ldk_tl J r) : ldk_eB0 (sX4_goTowards I1 (sX4_markAbove I1) r).2 L1 J' M := by
  obtain ⟨g0, g1, g2, g3, g4, g5, g6⟩ := ldk_go (r := r) h
  obtain ⟨n1, n2, n3, n4, n5, n6⟩ := ldk_num1 h hr hr2
  obtain ⟨⟨b1, b2, b3, b4, b5, b6, b7, b8⟩, c1, c2, c3⟩ := h
  refine ⟨e21.trans g3.symm, ?_, b3, ?_, ?_, ?_, ?_, ?_⟩
  · rw [e31, g6]; exact b2
  · rw [e24, g5]; exact b4
  · rw [g5]; exact b5
  · rw [g4, e21, e23]
  · rw [e21]; exact b7
  · rw [e21, e23]; exact fun z => (n5 z).2
end LDKG
/-- a record is written -/
theorem ldk_eD_write {len : Int64} {I3 f0 : Nat → Int32} {f1 : Nat → Int64} {J J' q39 q40 : Nat → Int32} {q41 : Nat → Int64} {a up : Int32} {pl : Int64} (h : ldk_eD len I3 f0 f1 J q39 q40 q41) (hm : (a = 300 ∧ up = 1) ∨ (a = 0 ∧ up = 0)) (p0 : 0 ≤ pl.toInt) (p1 : pl.toInt < len.toInt) (e : J' 42 = 1 - J 42) :
    ldk_eD len (sX3_write I3 f0 f1 a pl).1 (sX3_write I3 f0 f1 a pl).2.1 (sX3_write I3 f0 f1 a pl).2.2 J' (upd q39 (1 - J 42).toNatClampNeg 1) (upd q40 (1 - J 42).toNatClampNeg up) (vp_updL q41 (1 - J 42).toNatClampNeg pl) := by
  obtain ⟨h1, h2, h3⟩ := h
  unfold sX3_write
  dsimp only
  have key : ∀ w : Nat, w ≤ 1 → ∀ r : Nat, r ≤ 1 → (upd f0 w a r = -1 ∧ upd q39 w 1 r = 0) ∨ (upd q39 w 1 r = 1 ∧ ((upd f0 w a r = 300 ∧ upd q40 w up r = 1) ∨ (upd f0 w a r = 0 ∧ upd q40 w up r = 0)) ∧ vp_updL f1 w pl r = vp_updL q41 w pl r ∧ 0 ≤ (vp_updL q41 w pl r).toInt ∧ (vp_updL q41 w pl r).toInt < len.toInt) := by
    intro w hw r hr
    by_cases hrw : r = w
    · subst hrw
      rw [pk_us, pk_us, pk_us, pk_uLs, pk_uLs]
      exact Or.inr ⟨rfl, hm, rfl, p0, p1⟩
    · rw [pk_un hrw, pk_un hrw, pk_un hrw, pk_uLn hrw, pk_uLn hrw]
      exact h3 r hr
  rw [h2] at e ⊢
  rcases h1 with z | z
  · have e1 : sX3_other I3 = 1 := by unfold sX3_other; rw [if_pos z]
    rw [e1, z]
    rw [z] at e
    exact ⟨Or.inr (pk_us ..), by rw [pk_us, e]; decide, key 1 (by omega)⟩
  · have e1 : sX3_other I3 = 0 := by unfold sX3_other; rw [z]; rfl
    rw [e1, z]
    rw [z] at e
    exact ⟨Or.inl (pk_us ..), by rw [pk_us, e]; decide, key 0 (by omega)⟩
theorem ldk_eD_of {len : Int64} {I3 f0 : Nat → Int32} {f1 : Nat → Int64} {J J' q39 q40 : Nat → Int32} {q41 : Nat → Int64} (h : ldk_eD len I3 f0 f1 J q39 q40 q41) (e : J' 42 = J 42) : ldk_eD len I3 f0 f1 J' q39 q40 q41 := ⟨h.1, e.trans h.2.1, h.2.2⟩
/-- the place behind -/
theorem ldk_beh {L4 : Nat → Int64} {p : Int64} (h0 : 0 ≤ p.toInt) (h1 : p.toInt < (L4 7).toInt) (h2 : (L4 7).toInt ≤ 2000000000) : sX1_behind L4 p = (if p + 1 = L4 7 then 0 else p + 1) ∧ 0 ≤ (sX1_behind L4 p).toInt ∧ (sX1_behind L4 p).toInt < (L4 7).toInt := by
  have e : (p + 1).toInt = p.toInt + 1 := by rw [ldk_la (by rw [ldk_T1]; omega) (by rw [ldk_T1]; omega), ldk_T1]
  have hh : sX1_has L4 (p + 1) = if L4 7 ≤ p + 1 then 0 else 1 := by
    unfold sX1_has
    rw [if_neg (show ¬ p + 1 < 0 by rw [Int64.lt_iff_toInt_lt, ldk_T0]; omega)]
  unfold sX1_behind
  by_cases c : p + 1 = L4 7
  · have h3 : sX1_has L4 (p + 1) = 0 := by rw [hh, if_pos (show L4 7 ≤ p + 1 by rw [Int64.le_iff_toInt_le, c]; omega)]
    rw [if_pos h3, if_pos c]
    exact ⟨rfl, by decide, by rw [ldk_T0]; omega⟩
  · have c' : (p + 1).toInt ≠ (L4 7).toInt := fun z => c (ldk_Eq.mpr z)
    have h3 : ¬ sX1_has L4 (p + 1) = 0 := by rw [hh, if_neg (show ¬ L4 7 ≤ p + 1 by rw [Int64.le_iff_toInt_le]; omega)]; decide
    rw [if_neg h3, if_neg c]
    exact ⟨rfl, by omega, by omega⟩
