/-! ===== the two readers: a carrier, an opening ===== -/
section LDKX2
variable {I0 f J1 I q11 q12 q13 q16 q17 : Nat → Int32}
theorem ldk_word_c (hs : (I0 1).toInt ≤ 160) (h2 : J1 2 = I0 1) (hp : J1 15 = I 2) (h0 : 0 ≤ (I 2).toInt) (h1 : (I 2).toInt ≤ (I0 1).toInt) (h3 : I 3 = -1) :
    ((sX7_readsWord J1 f q11 q12 q13 99).1 = 0 ∧ (sX7_readsWord J1 f q11 q12 q13 99).2.1 15 = I 2 ∧ (sX2_readDigits I I0 f 8 1).2 3 = I 2) ∨
    (∃ v p : Int32, ldk_Wok J1 q11 q12 q13 (sX7_readsWord J1 f q11 q12 q13 99) 1 v p 0 ∧ sX2_readDigits I I0 f 8 1 = (v, upd I 2 p) ∧ ¬ v = -1 ∧ (I 2).toInt + 1 ≤ p.toInt ∧ p.toInt ≤ (I0 1).toInt) := by
  have K10 : (10 : Int32).toInt = 10 := by decide
  have K8 : (8 : Int32).toInt = 8 := by decide
  have K7 : (7 : Int32).toInt = 7 := by decide
  have ecl : (1 : Int32).toNatClampNeg = 1 := by decide
  have hsee : sX7_see J1 f = sX5_charOf I0 f (I 2) := by rw [ldk_see h2 (by rw [hp]; exact h0), hp]
  have hz0 : ¬ (1 : Int32) ≤ J1 15 - J1 15 := by
    rw [Int32.le_iff_toInt_le, ldk_is (by omega) (by omega), ldk_t1']; omega
  have eZ : ldk_rwZ J1 f 99 = ldk_wF f 99 10 1 (J1 15) 161 0 J1 := rfl
  generalize hdg : sX7_digit (sX5_charOf I0 f (I 2)) = dg
  have hdc := ldk_dg (sX5_charOf I0 f (I 2))
  rw [hdg] at hdc
  have e1r : ∀ x, rdF I0 f 8 1 (I 2) 0 = x → x = (if sX2_digitOf (sX5_charOf I0 f (I 2)) < 0 then (I 2, 0) else if sX2_digitOf (sX5_charOf I0 f (I 2)) < 8 then (I 2 + 1, (if 16777215 < 0 * 8 + sX2_digitOf (sX5_charOf I0 f (I 2)) then 16777215 else 0 * 8 + sX2_digitOf (sX5_charOf I0 f (I 2)))) else (I 2, 0)) := fun x hx => hx.symm
  by_cases c10 : (10 : Int32) ≤ dg
  · -- no digit
    left
    have hz : ldk_rwZ J1 f 99 = (0, J1) := by rw [eZ]; exact (if_neg hz0).trans (if_pos (by rw [hsee, hdg]; exact c10))
    have hrd : rdF I0 f 8 1 (I 2) 0 = (I 2, 0) := by
      refine (e1r _ rfl).trans ?_
      rcases hdc with ⟨q1, q2⟩ | ⟨q1, q2, q3⟩
      · rw [q1]; exact if_pos (by decide)
      · rw [q1]
        rw [Int32.le_iff_toInt_le, K10] at c10
        exact (if_neg (by rw [Int32.lt_iff_toInt_lt, ldk_t0']; omega)).trans (if_neg (by rw [Int32.lt_iff_toInt_lt, K8]; omega))
    obtain ⟨g1, g2⟩ := ldk_rdg (I0 := I0) (f := f) (I := I) (b := 8) (m := 1) (p := I 2) (v := 0) (by rw [ecl]; exact hrd) h3
    unfold sX7_readsWord ldk_rwT
    rw [hz, hp, if_pos hp]
    exact ⟨rfl, hp, by rw [g1 rfl]; dsimp only; rw [pk_us]⟩
  · have c10' := c10
    rw [Int32.le_iff_toInt_le, K10] at c10'
    obtain ⟨q1, q2, q3⟩ : sX2_digitOf (sX5_charOf I0 f (I 2)) = dg ∧ 0 ≤ dg.toInt ∧ dg.toInt ≤ 15 := by
      rcases hdc with ⟨q1, q2⟩ | q
      · rw [q2, show (99 : Int32).toInt = 99 by decide] at c10'; omega
      · exact q
    have hlt := ldk_char_lt (I0 := I0) (f := f) (p := I 2) (fun z => by
      rw [z] at hdg
      rw [← hdg, show sX7_digit (-1) = 99 by decide, show (99 : Int32).toInt = 99 by decide] at c10'; omega)
    have ei : (I 2 + 1).toInt = (I 2).toInt + 1 := by rw [ldk_ia (by rw [ldk_t1']; omega) (by rw [ldk_t1']; omega), ldk_t1']
    have hnum : ldk_num 99 10 0 dg = dg := by
      unfold ldk_num
      rw [if_neg (by decide), ldk_eq, ldk_ia (by rw [show ((10 : Int32) * 0).toInt = 0 by decide]; omega) (by rw [show ((10 : Int32) * 0).toInt = 0 by decide]; omega), show ((10 : Int32) * 0).toInt = 0 by decide]; omega
    have hz : ldk_rwZ J1 f 99 = (dg, upd J1 15 (J1 15 + 1)) := by
      have s1 : ldk_wF f 99 10 1 (J1 15) 161 0 J1 = ldk_wF f 99 10 1 (J1 15) 160 (ldk_num 99 10 0 (sX7_digit (sX7_see J1 f))) (upd J1 15 (J1 15 + 1)) := (if_neg hz0).trans (if_neg (by rw [hsee, hdg]; exact c10))
      rw [eZ, s1, hsee, hdg, hnum]
      exact if_pos (by rw [pk_us, Int32.le_iff_toInt_le, hp, ldk_is (by rw [ei]; omega) (by rw [ei]; omega), ei, ldk_t1']; omega)
    have hne : ¬ upd J1 15 (J1 15 + 1) 15 = I 2 := by rw [pk_us, hp, ldk_eq, ei]; omega
    unfold sX7_readsWord ldk_rwT
    rw [hz, hp]
    dsimp only
    rw [hp] at hne
    rw [if_neg hne, if_pos (show (99 : Int32) = 99 from rfl)]
    by_cases c7 : (7 : Int32) < dg
    · left
      have c7' := c7
      rw [Int32.lt_iff_toInt_lt, K7] at c7'
      rw [if_pos c7]
      have hrd : rdF I0 f 8 1 (I 2) 0 = (I 2, 0) := by
        refine (e1r _ rfl).trans ?_
        rw [q1]
        exact (if_neg (by rw [Int32.lt_iff_toInt_lt, ldk_t0']; omega)).trans (if_neg (by rw [Int32.lt_iff_toInt_lt, K8]; omega))
      obtain ⟨g1, g2⟩ := ldk_rdg (I0 := I0) (f := f) (I := I) (b := 8) (m := 1) (p := I 2) (v := 0) (by rw [ecl]; exact hrd) h3
      refine ⟨rfl, by dsimp only; rw [pk_us], by rw [g1 rfl]; dsimp only; rw [pk_us]⟩
    · right
      have c7' := c7
      rw [Int32.lt_iff_toInt_lt, K7] at c7'
      rw [if_neg c7, if_neg (show ¬ (99 : Int32) = 100 by decide)]
      have h08 : ((0 : Int32) * 8 + dg).toInt = dg.toInt := by rw [ldk_ia (by rw [show ((0 : Int32) * 8).toInt = 0 by decide]; omega) (by rw [show ((0 : Int32) * 8).toInt = 0 by decide]; omega), show ((0 : Int32) * 8).toInt = 0 by decide]; omega
      have hrd : rdF I0 f 8 1 (I 2) 0 = (I 2 + 1, dg) := by
        refine (e1r _ rfl).trans ?_
        rw [q1]
        refine (if_neg (by rw [Int32.lt_iff_toInt_lt, ldk_t0']; omega)).trans ((if_pos (by rw [Int32.lt_iff_toInt_lt, K8]; omega)).trans ?_)
        rw [if_neg (by rw [Int32.lt_iff_toInt_lt, h08, show (16777215 : Int32).toInt = 16777215 by decide]; omega)]
        rw [show (0 : Int32) * 8 + dg = dg from ldk_eq.mpr h08]
      obtain ⟨g1, g2⟩ := ldk_rdg (I0 := I0) (f := f) (I := I) (b := 8) (m := 1) (p := I 2 + 1) (v := dg) (by rw [ecl]; exact hrd) h3
      refine ⟨dg, I 2 + 1, ?_, g2 (by rw [ldk_eq, ei]; omega), by rw [ldk_ne, show (-1 : Int32).toInt = -1 by decide]; omega, by rw [ei]; omega, by rw [ei]; omega⟩
      have := ldk_Wok_of (J1 := J1) (J2 := upd J1 15 (I 2 + 1)) (q11 := q11) (q12 := q12) (q13 := q13) (kd := 1) (v := dg) (dp := 0) (fun j hj => pk_un hj)
      rw [pk_us] at this
      exact this
/-- an opening was read -/
def ldk_Ook (K0 q11 q12 q13 q16 q17 : Nat → Int32) (K : LdkO) (kd v p : Int32) : Prop :=
  K.1 = 1 ∧ K.2.1 15 = p ∧ K.2.1 14 = K0 14 + 1 ∧ K.2.1 18 = K0 18 + 1 ∧ K.2.1 43 = 1 ∧ (∀ j, j ≠ 15 → j ≠ 14 → j ≠ 18 → j ≠ 43 → K.2.1 j = K0 j) ∧ K.2.2.1 = upd q11 (K0 14).toNatClampNeg kd ∧ K.2.2.2.1 = upd q12 (K0 14).toNatClampNeg v ∧ K.2.2.2.2.1 = upd q13 (K0 14).toNatClampNeg (K0 14 + 1) ∧ K.2.2.2.2.2.1 = upd q16 (K0 18).toNatClampNeg (K0 14) ∧ K.2.2.2.2.2.2 = upd q17 (K0 18).toNatClampNeg (K0 19)
/-- the bracket behind r or m, in both -/
theorem ldk_oE_ok {c v : Int32} {d : Nat} (hc : c = 114 ∨ c = 109) (hs : (I0 1).toInt ≤ 160) (h2 : J1 2 = I0 1) (h0 : 0 ≤ (J1 15).toInt) (h1 : (J1 15).toInt ≤ (I0 1).toInt) (hd : d ≤ 6) (h18 : J1 18 = nI d) :
    (¬ (sX5_charOf I0 f (sX5_behindBlanks I0 f (J1 15)) = 40 ∧ nI d < 6) ∧ (ldk_oE c v J1 f q11 q12 q13 q16 q17).1 = 0 ∧ (ldk_oE c v J1 f q11 q12 q13 q16 q17).2.1 15 = sX5_behindBlanks I0 f (J1 15)) ∨
    (sX5_charOf I0 f (sX5_behindBlanks I0 f (J1 15)) = 40 ∧ nI d < 6 ∧ d < 6 ∧ (J1 15).toInt + 1 ≤ (sX5_behindBlanks I0 f (J1 15) + 1).toInt ∧ (sX5_behindBlanks I0 f (J1 15) + 1).toInt ≤ (I0 1).toInt ∧ ldk_Ook J1 q11 q12 q13 q16 q17 (ldk_oE c v J1 f q11 q12 q13 q16 q17) (if c = 114 then 3 else 4) v (sX5_behindBlanks I0 f (J1 15) + 1)) := by
  obtain ⟨s1, s2, s3⟩ := ldk_skp (I0 := I0) (f := f) hs h2 h0
  have s3' := s3 h1
  have kp : ∀ {k : Nat}, k ≠ 15 → sX7_skip J1 f k = J1 k := fun hk => sk_keep J1 f hk
  have hsee : sX7_see (sX7_skip J1 f) f = sX5_charOf I0 f (sX5_behindBlanks I0 f (J1 15)) := by
    rw [ldk_see (I0 := I0) (by rw [kp (by decide)]; exact h2) (by rw [s1]; omega), s1]
  unfold ldk_oE
  rw [hsee]
  by_cases c40 : sX5_charOf I0 f (sX5_behindBlanks I0 f (J1 15)) = 40
  · rw [if_pos c40, kp (show (18 : Nat) ≠ 15 by decide), h18]
    by_cases c6 : d = 6
    · left
      subst c6
      rw [if_pos (show nI 6 = (6 : Int32) from rfl)]
      exact ⟨fun z => absurd z.2 (by decide), rfl, s1⟩
    · right
      have hd6 : d < 6 := by omega
      rw [if_neg (show ¬ nI d = (6 : Int32) by rw [ldk_eq, nI_toInt (by omega), show (6 : Int32).toInt = 6 by decide]; omega)]
      have hlt := ldk_char_lt (I0 := I0) (f := f) (p := sX5_behindBlanks I0 f (J1 15)) (by rw [c40]; decide)
      have ei : (sX5_behindBlanks I0 f (J1 15) + 1).toInt = (sX5_behindBlanks I0 f (J1 15)).toInt + 1 := by rw [ldk_ia (by rw [ldk_t1']; omega) (by rw [ldk_t1']; omega), ldk_t1']
      refine ⟨c40, by rw [Int32.lt_iff_toInt_lt, nI_toInt (by omega), show (6 : Int32).toInt = 6 by decide]; omega, hd6, by rw [ei]; omega, by rw [ei]; omega, ?_⟩
      unfold ldk_oG sX7_item
      have e14 : upd (upd (sX7_skip J1 f) 15 (sX7_skip J1 f 15 + 1)) 18 (sX7_skip J1 f 18 + 1) 14 = J1 14 := by rw [pk_un (by decide), pk_un (by decide), kp (by decide)]
      dsimp only
      refine ⟨rfl, ?_, ?_, ?_, ?_, fun j j1 j2 j3 j4 => ?_, ?_, ?_, ?_, ?_, ?_⟩
      · dsimp only; rw [pk_un (by decide), pk_un (by decide), pk_un (by decide), pk_us, s1]
      · dsimp only; rw [pk_un (by decide), pk_us, e14]
      · dsimp only; rw [pk_un (by decide), pk_un (by decide), pk_us, kp (by decide)]
      · dsimp only; rw [pk_us]
      · dsimp only; rw [pk_un j4, pk_un j2, pk_un j3, pk_un j1, kp j1]
      · dsimp only; rw [e14]
      · dsimp only; rw [e14]
      · dsimp only; rw [e14]
      · dsimp only; rw [kp (show (18 : Nat) ≠ 15 by decide), kp (show (14 : Nat) ≠ 15 by decide)]
      · dsimp only; rw [kp (show (18 : Nat) ≠ 15 by decide), kp (show (19 : Nat) ≠ 15 by decide)]
  · left
    rw [if_neg c40]
    exact ⟨fun z => c40 z.1, rfl, s1⟩
end LDKX2
