/-! ===== the two readers: words ===== -/
def ldk_B (b : Int) : Nat → Int
  | 0 => 1
  | n + 1 => b * ldk_B b n
theorem ldk_B16 : ∀ i, i < 7 → ldk_B 16 i ≤ 16777216 := by decide
theorem ldk_B10 : ∀ i, i < 5 → ldk_B 10 i ≤ 10000 := by decide
theorem ldk_wF_gen {f : Nat → Int32} {c b mo fr : Int32} (hb : b.toInt ≤ 16) : ∀ (n : Nat) (v : Int32) (J : Nat → Int32), 0 ≤ (J 15).toInt → (J 2).toInt ≤ 160 → (J 15).toInt ≤ ((ldk_wF f c b mo fr n v J).2 15).toInt ∧ (((ldk_wF f c b mo fr n v J).2 15).toInt ≤ (J 15).toInt ∨ ((ldk_wF f c b mo fr n v J).2 15).toInt ≤ (J 2).toInt) ∧ ∀ j, j ≠ 15 → (ldk_wF f c b mo fr n v J).2 j = J j := by
  intro n
  induction n with
  | zero => intro v J _ _; exact ⟨Int.le_refl _, Or.inl (Int.le_refl _), fun _ _ => rfl⟩
  | succ n ih =>
    intro v J h0 h2
    by_cases c1 : mo ≤ J 15 - fr
    · have e : ldk_wF f c b mo fr (n + 1) v J = (v, J) := if_pos c1
      rw [e]; exact ⟨Int.le_refl _, Or.inl (Int.le_refl _), fun _ _ => rfl⟩
    · by_cases c2 : b ≤ sX7_digit (sX7_see J f)
      · have e : ldk_wF f c b mo fr (n + 1) v J = (v, J) := (if_neg c1).trans (if_pos c2)
        rw [e]; exact ⟨Int.le_refl _, Or.inl (Int.le_refl _), fun _ _ => rfl⟩
      · have e : ldk_wF f c b mo fr (n + 1) v J = ldk_wF f c b mo fr n (ldk_num c b v (sX7_digit (sX7_see J f))) (upd J 15 (J 15 + 1)) := (if_neg c1).trans (if_neg c2)
        have hlt := ldk_dig_lt hb c2
        have ei : (J 15 + 1).toInt = (J 15).toInt + 1 := toInt_inc hlt (by omega)
        have i := ih (ldk_num c b v (sX7_digit (sX7_see J f))) (upd J 15 (J 15 + 1)) (by rw [pk_us, ei]; omega) (by rw [pk_un (by decide)]; exact h2)
        rw [pk_us, ei, pk_un (show (2 : Nat) ≠ 15 by decide)] at i
        rw [e]
        exact ⟨by omega, by omega, fun j hj => (i.2.2 j hj).trans (pk_un hj)⟩
theorem ldk_alw (d : Int32) : sX2_isAllowed d = sX7_isDensity d := by
  unfold sX7_isDensity
  show (if (20 : Int32) = d then (1 : Int32) else if (25 : Int32) = d then 1 else if (40 : Int32) = d then 1 else if (50 : Int32) = d then 1 else if (80 : Int32) = d then 1 else if (100 : Int32) = d then 1 else if (125 : Int32) = d then 1 else if (160 : Int32) = d then 1 else if (200 : Int32) = d then 1 else if (250 : Int32) = d then 1 else if (400 : Int32) = d then 1 else 0) = _
  simp only [eq_comm]
theorem ldk_den {d : Int32} (h : ¬ sX7_isDensity d = 0) : 20 ≤ d.toInt ∧ d.toInt ≤ 400 := by
  unfold sX7_isDensity at h
  by_cases c1 : d = 20
  · subst c1; decide
  rw [if_neg c1] at h
  by_cases c2 : d = 25
  · subst c2; decide
  rw [if_neg c2] at h
  by_cases c3 : d = 40
  · subst c3; decide
  rw [if_neg c3] at h
  by_cases c4 : d = 50
  · subst c4; decide
  rw [if_neg c4] at h
  by_cases c5 : d = 80
  · subst c5; decide
  rw [if_neg c5] at h
  by_cases c6 : d = 100
  · subst c6; decide
  rw [if_neg c6] at h
  by_cases c7 : d = 125
  · subst c7; decide
  rw [if_neg c7] at h
  by_cases c8 : d = 160
  · subst c8; decide
  rw [if_neg c8] at h
  by_cases c9 : d = 200
  · subst c9; decide
  rw [if_neg c9] at h
  by_cases ca : d = 250
  · subst ca; decide
  rw [if_neg ca] at h
  by_cases cb : d = 400
  · subst cb; decide
  rw [if_neg cb] at h
  exact absurd rfl h
/-- a word was read: what the reference has then -/
def ldk_Wok (J1 q11 q12 q13 : Nat → Int32) (K : Int32 × (Nat → Int32) × (Nat → Int32) × (Nat → Int32) × (Nat → Int32)) (kd v p dp : Int32) : Prop :=
  K.1 = 1 ∧ K.2.1 15 = p ∧ K.2.1 14 = J1 14 + 1 ∧ K.2.1 19 = J1 19 + dp ∧ (∀ j, j ≠ 15 → j ≠ 14 → j ≠ 19 → K.2.1 j = J1 j) ∧ K.2.2.1 = upd q11 (J1 14).toNatClampNeg kd ∧ K.2.2.2.1 = upd q12 (J1 14).toNatClampNeg v ∧ K.2.2.2.2 = upd q13 (J1 14).toNatClampNeg (J1 14 + 1)
theorem ldk_Wok_of {J1 J2 q11 q12 q13 : Nat → Int32} {kd v dp : Int32} (h : ∀ j, j ≠ 15 → J2 j = J1 j) : ldk_Wok J1 q11 q12 q13 (1, sX7_item (upd J2 19 (J2 19 + dp)) q11 q12 q13 kd v) kd v (J2 15) dp := by
  unfold sX7_item
  have e14 : upd J2 19 (J2 19 + dp) 14 = J1 14 := by rw [pk_un (by decide)]; exact h 14 (by decide)
  refine ⟨rfl, ?_, ?_, ?_, fun j h1 h2 h3 => ?_, ?_, ?_, ?_⟩
  · dsimp only; rw [pk_un (by decide), pk_un (by decide)]
  · dsimp only; rw [pk_us, e14]
  · dsimp only; rw [pk_un (by decide), pk_us, h 19 (by decide)]
  · dsimp only; rw [pk_un h2, pk_un h3]; exact h j h1
  · dsimp only; rw [e14]
  · dsimp only; rw [e14]
  · dsimp only; rw [e14]
section LDKX
variable {I0 f J1 I q11 q12 q13 : Nat → Int32}
/-- a row of digits in the class -/
theorem ldk_rdg {b m : Int32} {p v : Int32} (h : rdF I0 f b m.toNatClampNeg (I 2) 0 = (p, v)) (h3 : I 3 = -1) : (p = I 2 → sX2_readDigits I I0 f b m = (v, upd (upd I 2 p) 3 p)) ∧ (¬ p = I 2 → sX2_readDigits I I0 f b m = (v, upd I 2 p)) := by
  unfold sX2_readDigits
  rw [h]
  dsimp only
  refine ⟨fun q => ?_, fun q => if_neg q⟩
  rw [if_pos q]
  unfold sX2_faultAt
  rw [pk_un (by decide), if_pos h3]
theorem ldk_word_h (hs : (I0 1).toInt ≤ 160) (h2 : J1 2 = I0 1) (hp : J1 15 = I 2) (h0 : 0 ≤ (I 2).toInt) (h1 : (I 2).toInt ≤ (I0 1).toInt) (h3 : I 3 = -1) :
    ((sX7_readsWord J1 f q11 q12 q13 104).1 = 0 ∧ (sX7_readsWord J1 f q11 q12 q13 104).2.1 15 = I 2 ∧ (sX2_readDigits I I0 f 16 6).2 3 = I 2) ∨
    (∃ v p : Int32, ldk_Wok J1 q11 q12 q13 (sX7_readsWord J1 f q11 q12 q13 104) 0 v p 1 ∧ sX2_readDigits I I0 f 16 6 = (v, upd I 2 p) ∧ (I 2).toInt + 1 ≤ p.toInt ∧ p.toInt ≤ (I0 1).toInt) := by
  obtain ⟨k, k1, k2, k3, k4, k5, k6, k7⟩ := ldk_digs (I0 := I0) (f := f) (b := 16) (c := 104) (fr := J1 15) (mo := 6) (Or.inr rfl) (by omega) hs (fun i v w => v = w ∧ 0 ≤ v.toInt ∧ v.toInt < ldk_B 16 i) (by
    intro i v w d ⟨e, q1, q2⟩ d0 d1 hi
    subst e
    have hB := ldk_B16 (i + 1) (by omega)
    have hB' : (16 : Int) * ldk_B 16 i ≤ 16777216 := hB
    rw [show (16 : Int32).toInt = 16 by decide] at d1
    have em : (v * 16).toInt = v.toInt * 16 := by rw [ldk_im (by rw [show (16 : Int32).toInt = 16 by decide]; omega) (by rw [show (16 : Int32).toInt = 16 by decide]; omega), show (16 : Int32).toInt = 16 by decide]
    have ea : (v * 16 + d).toInt = v.toInt * 16 + d.toInt := by rw [ldk_ia (by rw [em]; omega) (by rw [em]; omega), em]
    rw [if_neg (by rw [Int32.lt_iff_toInt_lt, ea, show (16777215 : Int32).toInt = 16777215 by decide]; omega)]
    refine ⟨?_, by rw [ea]; omega, ?_⟩
    · unfold ldk_num; rw [if_neg (by decide), Int32.mul_comm]
    · rw [ea]; show v.toInt * 16 + d.toInt < 16 * ldk_B 16 i; omega) 6 0 0 0 J1 161 rfl h2 (by rw [hp]; exact h0) (by omega) (by rw [hp]; exact h1) ⟨rfl, by decide, by decide⟩ (by rw [hp]; omega)
  have eZ : ldk_rwZ J1 f 104 = ldk_wF f 104 16 (nI 6) (J1 15) 161 0 J1 := rfl
  rw [← eZ] at k2 k3 k4
  rw [hp] at k2 k4 k5 k6
  have ecl : (6 : Int32).toNatClampNeg = 6 := by decide
  obtain ⟨pd, vd, hrd⟩ : ∃ pd vd, rdF I0 f 16 6 (I 2) 0 = (pd, vd) := ⟨_, _, rfl⟩
  obtain ⟨g1, g2⟩ := ldk_rdg (I0 := I0) (f := f) (I := I) (b := 16) (m := 6) (p := pd) (v := vd) (by rw [ecl]; exact hrd) h3
  rw [hrd] at k2 k4 k5 k6
  dsimp only at k2 k4 k5 k6
  unfold sX7_readsWord ldk_rwT
  rw [hp]
  by_cases c : pd = I 2
  · left
    rw [if_pos (k2.trans c)]
    refine ⟨rfl, k2.trans c, ?_⟩
    rw [g1 c]; dsimp only; rw [pk_us]; exact c
  · right
    have hk : 1 ≤ k := by
      rcases Nat.eq_zero_or_pos k with z | z
      · exfalso; apply c; rw [ldk_eq]; subst z; omega
      · exact z
    rw [if_neg (by rw [k2]; exact c), if_neg (show ¬ (104 : Int32) = 99 by decide), if_neg (show ¬ (104 : Int32) = 100 by decide)]
    refine ⟨vd, pd, ?_, g2 c, by omega, k6⟩
    have := ldk_Wok_of (J1 := J1) (q11 := q11) (q12 := q12) (q13 := q13) (kd := 0) (v := (ldk_rwZ J1 f 104).1) (dp := 1) k3
    rw [k2] at this
    rw [k4.1]
    exact this
theorem ldk_word_d (hs : (I0 1).toInt ≤ 160) (h2 : J1 2 = I0 1) (hp : J1 15 = I 2) (h0 : 0 ≤ (I 2).toInt) (h1 : (I 2).toInt ≤ (I0 1).toInt) (h3 : I 3 = -1) :
    ((sX7_readsWord J1 f q11 q12 q13 100).1 = 0 ∧ (sX7_readsWord J1 f q11 q12 q13 100).2.1 15 = I 2 ∧ sX2_isAllowed (sX2_readDigits I I0 f 10 160).1 = 0 ∧ ((sX2_readDigits I I0 f 10 160).2 3 = I 2 ∨ (sX2_readDigits I I0 f 10 160).2 3 = -1)) ∨
    (∃ v p : Int32, ldk_Wok J1 q11 q12 q13 (sX7_readsWord J1 f q11 q12 q13 100) 2 v p 0 ∧ sX2_readDigits I I0 f 10 160 = (v, upd I 2 p) ∧ ¬ sX2_isAllowed v = 0 ∧ 20 ≤ v.toInt ∧ v.toInt ≤ 400 ∧ (I 2).toInt + 1 ≤ p.toInt ∧ p.toInt ≤ (I0 1).toInt) := by
  have K10 : (10 : Int32).toInt = 10 := by decide
  have K1000 : (1000 : Int32).toInt = 1000 := by decide
  have Kx : (16777215 : Int32).toInt = 16777215 := by decide
  obtain ⟨k, k1, k2, k3, k4, k5, k6, k7⟩ := ldk_digs (I0 := I0) (f := f) (b := 10) (c := 100) (fr := J1 15) (mo := 160) (Or.inl rfl) (by omega) hs (fun i v w => 0 ≤ v.toInt ∧ v.toInt ≤ 16777215 ∧ w.toInt = (if v.toInt ≤ 1000 then v.toInt else 1000)) (by
    intro i v w d ⟨q0, q1, q2⟩ d0 d1 hi
    rw [K10] at d1
    have em : (v * 10).toInt = v.toInt * 10 := by rw [ldk_im (by rw [K10]; omega) (by rw [K10]; omega), K10]
    have ea : (v * 10 + d).toInt = v.toInt * 10 + d.toInt := by rw [ldk_ia (by rw [em]; omega) (by rw [em]; omega), em]
    have hw : 0 ≤ w.toInt ∧ w.toInt ≤ 1000 := by rw [q2]; split <;> omega
    have em2 : (10 * w).toInt = 10 * w.toInt := by rw [ldk_im (by rw [K10]; omega) (by rw [K10]; omega), K10]
    have ea2 : (10 * w + d).toInt = 10 * w.toInt + d.toInt := by rw [ldk_ia (by rw [em2]; omega) (by rw [em2]; omega), em2]
    have ev : (if 16777215 < v * 10 + d then 16777215 else v * 10 + d : Int32).toInt = if 16777215 < v.toInt * 10 + d.toInt then 16777215 else v.toInt * 10 + d.toInt := by
      by_cases q : (16777215 : Int32) < v * 10 + d
      · rw [if_pos q, Kx]; rw [Int32.lt_iff_toInt_lt, ea, Kx] at q; rw [if_pos q]
      · rw [if_neg q, ea]; rw [Int32.lt_iff_toInt_lt, ea, Kx] at q; rw [if_neg q]
    have ew : (ldk_num 100 10 w d).toInt = if 10 * w.toInt + d.toInt ≤ 1000 then 10 * w.toInt + d.toInt else 1000 := by
      unfold ldk_num
      rw [if_pos rfl]
      by_cases q : (10 * w + d : Int32) ≤ 1000
      · rw [if_pos q, ea2]; rw [Int32.le_iff_toInt_le, ea2, K1000] at q; rw [if_pos q]
      · rw [if_neg q, K1000]; rw [Int32.le_iff_toInt_le, ea2, K1000] at q; rw [if_neg q]
    rw [ev, ew]
    clear ev ew ea ea2 em em2
    generalize v.toInt = V at *
    generalize w.toInt = W at *
    generalize d.toInt = D at *
    refine ⟨by split <;> omega, by split <;> omega, ?_⟩
    by_cases q : V ≤ 1000
    · rw [if_pos q] at q2; subst q2
      rw [if_neg (show ¬ 16777215 < W * 10 + D by omega), Int.mul_comm 10 W]
    · rw [if_neg q] at q2; subst q2
      rw [if_neg (show ¬ (10 : Int) * 1000 + D ≤ 1000 by omega)]
      by_cases q3 : 16777215 < V * 10 + D
      · rw [if_pos q3, if_neg (by decide)]
      · rw [if_neg q3, if_neg (by omega)]) 160 0 0 0 J1 161 rfl h2 (by rw [hp]; exact h0) (by omega) (by rw [hp]; exact h1) ⟨by decide, by decide, by decide⟩ (by rw [hp]; omega)
  have eZ : ldk_rwZ J1 f 100 = ldk_wF f 100 10 (nI 160) (J1 15) 161 0 J1 := rfl
  rw [← eZ] at k2 k3 k4
  rw [hp] at k2 k4 k5 k6
  have ecl : (160 : Int32).toNatClampNeg = 160 := by decide
  obtain ⟨pd, vd, hrd⟩ : ∃ pd vd, rdF I0 f 10 160 (I 2) 0 = (pd, vd) := ⟨_, _, rfl⟩
  obtain ⟨g1, g2⟩ := ldk_rdg (I0 := I0) (f := f) (I := I) (b := 10) (m := 160) (p := pd) (v := vd) (by rw [ecl]; exact hrd) h3
  rw [hrd] at k2 k4 k5 k6
  dsimp only at k2 k4 k5 k6
  obtain ⟨v0, v1, v2⟩ := k4
  have hal : sX2_isAllowed vd = sX7_isDensity (ldk_rwZ J1 f 100).1 ∧ (¬ sX7_isDensity (ldk_rwZ J1 f 100).1 = 0 → (ldk_rwZ J1 f 100).1 = vd) := by
    by_cases q : vd.toInt ≤ 1000
    · rw [if_pos q] at v2
      have e : (ldk_rwZ J1 f 100).1 = vd := ldk_eq.mpr v2
      rw [e]; exact ⟨ldk_alw vd, fun _ => rfl⟩
    · rw [if_neg q] at v2
      have e : (ldk_rwZ J1 f 100).1 = 1000 := ldk_eq.mpr (v2.trans K1000.symm)
      rw [e, ldk_alw]
      refine ⟨?_, fun z => absurd (by decide) z⟩
      have : sX7_isDensity vd = 0 := by
        by_cases z : sX7_isDensity vd = 0
        · exact z
        · have := ldk_den z; omega
      rw [this]; decide
  unfold sX7_readsWord ldk_rwT
  rw [hp]
  by_cases c : pd = I 2
  · left
    rw [if_pos (k2.trans c)]
    have hv0 : vd = 0 := by
      have e : rdF I0 f 10 160 (I 2) 0 = (I 2, vd) := by rw [hrd, c]
      have kz : k = 0 := by rw [c] at k5; omega
      subst kz
      rcases k7 with z | z
      · exact absurd z (by decide)
      · rw [hp, hrd, c] at z
        dsimp only at z
        have e2 : rdF I0 f 10 (159 + 1) (I 2) 0 = (I 2, 0) := by
          rcases ldk_dg (sX5_charOf I0 f (I 2)) with ⟨q1, q2⟩ | ⟨q1, q2, q3⟩
          · exact if_pos (by rw [q1]; decide)
          · exact (if_neg (by rw [q1, Int32.lt_iff_toInt_lt, ldk_t0']; omega)).trans (if_neg (by rw [q1, Int32.lt_iff_toInt_lt]; rw [Int32.le_iff_toInt_le] at z; omega))
        rw [e2] at e
        exact (Prod.mk.inj e).2.symm
    refine ⟨rfl, k2.trans c, ?_, ?_⟩
    · rw [g1 c]; show sX2_isAllowed vd = 0; rw [hv0]; decide
    · rw [g1 c]; dsimp only; rw [pk_us]; exact Or.inl c
  · have hk : 1 ≤ k := by
      rcases Nat.eq_zero_or_pos k with z | z
      · exfalso; apply c; rw [ldk_eq]; subst z; omega
      · exact z
    rw [if_neg (by rw [k2]; exact c), if_neg (show ¬ (100 : Int32) = 99 by decide), if_pos (show (100 : Int32) = 100 from rfl)]
    by_cases z : sX7_isDensity (ldk_rwZ J1 f 100).1 = 0
    · left
      rw [if_pos z]
      refine ⟨rfl, by dsimp only; rw [pk_us], ?_, ?_⟩
      · rw [g2 c]; exact hal.1.trans z
      · rw [g2 c]; dsimp only; rw [pk_un (by decide)]; exact Or.inr h3
    · right
      rw [if_neg z]
      obtain ⟨z1, z2⟩ := ldk_den z
      have ev := hal.2 z
      rw [ev] at z1 z2
      refine ⟨vd, pd, ?_, g2 c, by rw [hal.1]; exact z, z1, z2, by omega, k6⟩
      have := ldk_Wok_of (J1 := J1) (q11 := q11) (q12 := q12) (q13 := q13) (kd := 2) (v := (ldk_rwZ J1 f 100).1) (dp := 0) k3
      rw [k2, ev] at this
      rw [ev]
      exact this
end LDKX
