/-! ===== the two readers: characters, blanks, digits ===== -/
section LDKL
variable {I0 f : Nat → Int32}
theorem ldk_see {J : Nat → Int32} (h2 : J 2 = I0 1) (h0 : 0 ≤ (J 15).toInt) : sX7_see J f = sX5_charOf I0 f (J 15) := by
  unfold sX7_see sX5_charOf
  rw [if_neg (show ¬ J 15 < 0 by rw [Int32.lt_iff_toInt_lt, ldk_t0']; omega), h2]
theorem ldk_char_lt {p : Int32} (h : ¬ sX5_charOf I0 f p = -1) : 0 ≤ p.toInt ∧ p.toInt < (I0 1).toInt := by
  unfold sX5_charOf at h
  by_cases c1 : p < 0
  · rw [if_pos c1] at h; exact absurd rfl h
  · rw [if_neg c1] at h
    by_cases c2 : I0 1 ≤ p
    · rw [if_pos c2] at h; exact absurd rfl h
    · rw [Int32.lt_iff_toInt_lt, ldk_t0'] at c1
      rw [Int32.le_iff_toInt_le] at c2
      omega
theorem ldk_blk (hs : (I0 1).toInt ≤ 160) : ∀ (n m : Nat) (J : Nat → Int32), J 2 = I0 1 → 0 ≤ (J 15).toInt → 160 ≤ (J 15).toInt + n → 160 ≤ (J 15).toInt + m →
    skF f m J 15 = bbF I0 f n (J 15) ∧ (J 15).toInt ≤ (bbF I0 f n (J 15)).toInt ∧ ((J 15).toInt ≤ (I0 1).toInt → (bbF I0 f n (J 15)).toInt ≤ (I0 1).toInt) := by
  intro n
  induction n with
  | zero =>
    intro m J h2 h0 hn hm
    have hc : ¬ sX5_charOf I0 f (J 15) = 32 := fun z => by
      have := ldk_char_lt (I0 := I0) (f := f) (p := J 15) (by rw [z]; decide)
      omega
    refine ⟨?_, Int.le_refl _, fun z => z⟩
    cases m with
    | zero => rfl
    | succ m =>
      rw [skF, if_neg (by rw [ldk_see h2 h0]; exact hc)]; rfl
  | succ n ih =>
    intro m J h2 h0 hn hm
    by_cases hc : sX5_charOf I0 f (J 15) = 32
    · have hlt := ldk_char_lt (I0 := I0) (f := f) (p := J 15) (by rw [hc]; decide)
      obtain ⟨m', rfl⟩ : ∃ m', m = m' + 1 := ⟨m - 1, by omega⟩
      have e1 : skF f (m' + 1) J = skF f m' (upd J 15 (J 15 + 1)) := by
        rw [skF, if_pos (by rw [ldk_see h2 h0]; exact hc)]
      have e2 : bbF I0 f (n + 1) (J 15) = bbF I0 f n (J 15 + 1) := by
        rw [bbF, if_pos hc]
      have ei : (J 15 + 1).toInt = (J 15).toInt + 1 := by rw [ldk_ia (by rw [ldk_t1']; omega) (by rw [ldk_t1']; omega), ldk_t1']
      have i := ih m' (upd J 15 (J 15 + 1)) (by rw [pk_un (by decide)]; exact h2) (by rw [pk_us, ei]; omega) (by rw [pk_us, ei]; omega) (by rw [pk_us, ei]; omega)
      rw [pk_us, ei] at i
      rw [e1, e2]
      exact ⟨i.1, by omega, fun z => i.2.2 (by omega)⟩
    · have e2 : bbF I0 f (n + 1) (J 15) = J 15 := by rw [bbF, if_neg hc]
      rw [e2]
      refine ⟨?_, Int.le_refl _, fun z => z⟩
      cases m with
      | zero => rfl
      | succ m => rw [skF, if_neg (by rw [ldk_see h2 h0]; exact hc)]
theorem ldk_skp {J : Nat → Int32} (hs : (I0 1).toInt ≤ 160) (h2 : J 2 = I0 1) (h0 : 0 ≤ (J 15).toInt) : sX7_skip J f 15 = sX5_behindBlanks I0 f (J 15) ∧ (J 15).toInt ≤ (sX5_behindBlanks I0 f (J 15)).toInt ∧ ((J 15).toInt ≤ (I0 1).toInt → (sX5_behindBlanks I0 f (J 15)).toInt ≤ (I0 1).toInt) :=
  ldk_blk hs 160 161 J h2 h0 (by omega) (by omega)
theorem ldk_dg (c : Int32) : (sX2_digitOf c = -1 ∧ sX7_digit c = 99) ∨ (sX2_digitOf c = sX7_digit c ∧ 0 ≤ (sX7_digit c).toInt ∧ (sX7_digit c).toInt ≤ 15) := by
  unfold sX2_digitOf sX7_digit
  have k48 : (48 : Int32).toInt = 48 := by decide
  have k57 : (57 : Int32).toInt = 57 := by decide
  have k97 : (97 : Int32).toInt = 97 := by decide
  have k102 : (102 : Int32).toInt = 102 := by decide
  have k10 : (10 : Int32).toInt = 10 := by decide
  have hex : 97 ≤ c.toInt → c.toInt ≤ 102 → 0 ≤ (c - 97 + 10).toInt ∧ (c - 97 + 10).toInt ≤ 15 := fun h1 h2 => by
    have e : (c - 97).toInt = c.toInt - 97 := by rw [ldk_is (by rw [k97]; omega) (by rw [k97]; omega), k97]
    rw [ldk_ia (by rw [e, k10]; omega) (by rw [e, k10]; omega), e, k10]; omega
  by_cases h1 : c < 48
  · rw [if_pos h1, if_pos h1]
    by_cases h3 : c < 97
    · rw [if_pos h3, if_pos h3]; exact Or.inl ⟨rfl, rfl⟩
    · rw [if_neg h3, if_neg h3]
      rw [Int32.lt_iff_toInt_lt, k48] at h1
      rw [Int32.lt_iff_toInt_lt, k97] at h3
      omega
  · rw [if_neg h1, if_neg h1]
    rw [Int32.lt_iff_toInt_lt, k48] at h1
    by_cases h2 : (57 : Int32) < c
    · rw [if_pos h2, if_pos h2]
      by_cases h3 : c < 97
      · rw [if_pos h3, if_pos h3]; exact Or.inl ⟨rfl, rfl⟩
      · rw [if_neg h3, if_neg h3]
        rw [Int32.lt_iff_toInt_lt, k97] at h3
        by_cases h4 : (102 : Int32) < c
        · rw [if_pos h4, if_pos h4]; exact Or.inl ⟨rfl, rfl⟩
        · rw [if_neg h4, if_neg h4]
          rw [Int32.lt_iff_toInt_lt, k102] at h4
          exact Or.inr ⟨rfl, hex (by omega) (by omega)⟩
    · rw [if_neg h2, if_neg h2]
      rw [Int32.lt_iff_toInt_lt, k57] at h2
      refine Or.inr ⟨rfl, ?_⟩
      rw [ldk_is (by rw [k48]; omega) (by rw [k48]; omega), k48]; omega
/-- a row of digits -/
theorem ldk_digs {b c fr : Int32} {mo : Nat} (hb : b = 10 ∨ b = 16) (hmo : mo ≤ 160) (hs : (I0 1).toInt ≤ 160) (ρ : Nat → Int32 → Int32 → Prop) (hρ : ∀ (i : Nat) (v w d : Int32), ρ i v w → 0 ≤ d.toInt → d.toInt < b.toInt → i < mo → ρ (i + 1) (if 16777215 < v * b + d then 16777215 else v * b + d) (ldk_num c b w d)) :
    ∀ (n i : Nat) (v w : Int32) (J : Nat → Int32) (fuel : Nat), i + n = mo → J 2 = I0 1 → 0 ≤ fr.toInt → (J 15).toInt = fr.toInt + i → (J 15).toInt ≤ (I0 1).toInt → ρ i v w → 160 - (J 15).toInt < fuel →
      ∃ k : Nat, k ≤ n ∧ (ldk_wF f c b (nI mo) fr fuel w J).2 15 = (rdF I0 f b n (J 15) v).1 ∧ (∀ j, j ≠ 15 → (ldk_wF f c b (nI mo) fr fuel w J).2 j = J j) ∧ ρ (i + k) (rdF I0 f b n (J 15) v).2 (ldk_wF f c b (nI mo) fr fuel w J).1 ∧ ((rdF I0 f b n (J 15) v).1).toInt = (J 15).toInt + k ∧ ((rdF I0 f b n (J 15) v).1).toInt ≤ (I0 1).toInt ∧ (k = n ∨ b ≤ sX7_digit (sX5_charOf I0 f (rdF I0 f b n (J 15) v).1)) := by
  have hb16 : 10 ≤ b.toInt ∧ b.toInt ≤ 16 := by rcases hb with q | q <;> subst q <;> decide
  intro n
  induction n with
  | zero =>
    intro i v w J fuel hi h2 hf hat hsz hr hfu
    obtain ⟨fu, rfl⟩ : ∃ fu, fuel = fu + 1 := ⟨fuel - 1, by omega⟩
    have e : ldk_wF f c b (nI mo) fr (fu + 1) w J = (w, J) := if_pos (by
      rw [Int32.le_iff_toInt_le, nI_toInt (by omega), ldk_is (by omega) (by omega)]; omega)
    rw [e]
    exact ⟨0, Nat.le_refl _, rfl, fun _ _ => rfl, hr, by show (J 15).toInt = (J 15).toInt + ((0 : Nat) : Int); omega, hsz, Or.inl rfl⟩
  | succ n ih =>
    intro i v w J fuel hi h2 hf hat hsz hr hfu
    obtain ⟨fu, rfl⟩ : ∃ fu, fuel = fu + 1 := ⟨fuel - 1, by omega⟩
    have hno : ¬ nI mo ≤ J 15 - fr := by
      rw [Int32.le_iff_toInt_le, nI_toInt (by omega), ldk_is (by omega) (by omega)]; omega
    have hsee : sX7_see J f = sX5_charOf I0 f (J 15) := ldk_see h2 (by omega)
    by_cases hd : b ≤ sX7_digit (sX5_charOf I0 f (J 15))
    · have e : ldk_wF f c b (nI mo) fr (fu + 1) w J = (w, J) := (if_neg hno).trans (if_pos (by rw [hsee]; exact hd))
      have eC : rdF I0 f b (n + 1) (J 15) v = (J 15, v) := by
        rcases ldk_dg (sX5_charOf I0 f (J 15)) with ⟨q1, q2⟩ | ⟨q1, q2, q3⟩
        · exact if_pos (by rw [q1]; decide)
        · refine (if_neg (by rw [q1, Int32.lt_iff_toInt_lt, ldk_t0']; omega)).trans (if_neg (by rw [q1, Int32.lt_iff_toInt_lt]; rw [Int32.le_iff_toInt_le] at hd; omega))
      rw [e, eC]
      exact ⟨0, Nat.zero_le _, rfl, fun _ _ => rfl, hr, by show (J 15).toInt = (J 15).toInt + ((0 : Nat) : Int); omega, hsz, Or.inr hd⟩
    · have hd' := hd
      rw [Int32.le_iff_toInt_le] at hd'
      have q : sX2_digitOf (sX5_charOf I0 f (J 15)) = sX7_digit (sX5_charOf I0 f (J 15)) ∧ 0 ≤ (sX7_digit (sX5_charOf I0 f (J 15))).toInt ∧ (sX7_digit (sX5_charOf I0 f (J 15))).toInt ≤ 15 := by
        rcases ldk_dg (sX5_charOf I0 f (J 15)) with ⟨q1, q2⟩ | q
        · rw [q2, show (99 : Int32).toInt = 99 by decide] at hd'; omega
        · exact q
      have hlt := ldk_char_lt (I0 := I0) (f := f) (p := J 15) (fun z => by
        rw [z, show sX7_digit (-1) = 99 by decide, show (99 : Int32).toInt = 99 by decide] at hd'; omega)
      have ei : (J 15 + 1).toInt = (J 15).toInt + 1 := by rw [ldk_ia (by rw [ldk_t1']; omega) (by rw [ldk_t1']; omega), ldk_t1']
      have e : ldk_wF f c b (nI mo) fr (fu + 1) w J = ldk_wF f c b (nI mo) fr fu (ldk_num c b w (sX7_digit (sX5_charOf I0 f (J 15)))) (upd J 15 (J 15 + 1)) := by
        have hstep : ldk_wF f c b (nI mo) fr (fu + 1) w J = ldk_wF f c b (nI mo) fr fu (ldk_num c b w (sX7_digit (sX7_see J f))) (upd J 15 (J 15 + 1)) := (if_neg hno).trans (if_neg (by rw [hsee]; exact hd))
        rw [hstep, hsee]
      have eC : rdF I0 f b (n + 1) (J 15) v = rdF I0 f b n (J 15 + 1) (if 16777215 < v * b + sX7_digit (sX5_charOf I0 f (J 15)) then 16777215 else v * b + sX7_digit (sX5_charOf I0 f (J 15))) := by
        rw [← q.1]
        exact (if_neg (by rw [q.1, Int32.lt_iff_toInt_lt, ldk_t0']; omega)).trans (if_pos (by rw [q.1, Int32.lt_iff_toInt_lt]; omega))
      have i' := ih (i + 1) (if 16777215 < v * b + sX7_digit (sX5_charOf I0 f (J 15)) then 16777215 else v * b + sX7_digit (sX5_charOf I0 f (J 15))) (ldk_num c b w (sX7_digit (sX5_charOf I0 f (J 15)))) (upd J 15 (J 15 + 1)) fu (by omega) (by rw [pk_un (by decide)]; exact h2) hf (by rw [pk_us, ei]; omega) (by rw [pk_us, ei]; omega) (hρ i v w _ hr q.2.1 (by omega) (by omega)) (by rw [pk_us, ei]; omega)
      rw [pk_us, ei] at i'
      obtain ⟨k, k1, k2, k3, k4, k5, k6, k7⟩ := i'
      rw [e, eC]
      refine ⟨k + 1, by omega, k2, fun j hj => (k3 j hj).trans (pk_un hj), by rw [show i + (k + 1) = i + 1 + k by omega]; exact k4, by rw [k5]; omega, k6, k7.elim (fun z => Or.inl (by omega)) Or.inr⟩
end LDKL
