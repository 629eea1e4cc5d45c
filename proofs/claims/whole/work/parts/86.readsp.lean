abbrev LdkRd : Type := (Nat → Int32) × (Nat → Int32) × (Nat → Int32) × (Nat → Int32) × (Nat → Int32) × (Nat → Int32)
def ldk_rdW (f1 J q11 q12 q13 q16 q17 : Nat → Int32) : Int32 × LdkRd := if (sX7_readsWord (upd J 15 (J 15 + 1)) f1 q11 q12 q13 (sX7_see J f1)).1 = 0 then (0, (sX7_readsWord (upd J 15 (J 15 + 1)) f1 q11 q12 q13 (sX7_see J f1)).2.1, (sX7_readsWord (upd J 15 (J 15 + 1)) f1 q11 q12 q13 (sX7_see J f1)).2.2.1, (sX7_readsWord (upd J 15 (J 15 + 1)) f1 q11 q12 q13 (sX7_see J f1)).2.2.2.1, (sX7_readsWord (upd J 15 (J 15 + 1)) f1 q11 q12 q13 (sX7_see J f1)).2.2.2.2, q16, q17) else (1, (sX7_skip (upd (upd (sX7_readsWord (upd J 15 (J 15 + 1)) f1 q11 q12 q13 (sX7_see J f1)).2.1 15 ((sX7_readsWord (upd J 15 (J 15 + 1)) f1 q11 q12 q13 (sX7_see J f1)).2.1 15 - 1 + 1)) 43 0) f1, (sX7_readsWord (upd J 15 (J 15 + 1)) f1 q11 q12 q13 (sX7_see J f1)).2.2.1, (sX7_readsWord (upd J 15 (J 15 + 1)) f1 q11 q12 q13 (sX7_see J f1)).2.2.2.1, (sX7_readsWord (upd J 15 (J 15 + 1)) f1 q11 q12 q13 (sX7_see J f1)).2.2.2.2, q16, q17))
def ldk_rdO (f1 J q11 q12 q13 q16 q17 : Nat → Int32) : Int32 × LdkRd := if (sX7_readsOpening (upd J 15 (J 15 + 1)) f1 q11 q12 q13 q16 q17 (sX7_see J f1)).1 = 0 then (0, (sX7_readsOpening (upd J 15 (J 15 + 1)) f1 q11 q12 q13 q16 q17 (sX7_see J f1)).2.1, (sX7_readsOpening (upd J 15 (J 15 + 1)) f1 q11 q12 q13 q16 q17 (sX7_see J f1)).2.2.1, (sX7_readsOpening (upd J 15 (J 15 + 1)) f1 q11 q12 q13 q16 q17 (sX7_see J f1)).2.2.2.1, (sX7_readsOpening (upd J 15 (J 15 + 1)) f1 q11 q12 q13 q16 q17 (sX7_see J f1)).2.2.2.2.1, (sX7_readsOpening (upd J 15 (J 15 + 1)) f1 q11 q12 q13 q16 q17 (sX7_see J f1)).2.2.2.2.2.1, (sX7_readsOpening (upd J 15 (J 15 + 1)) f1 q11 q12 q13 q16 q17 (sX7_see J f1)).2.2.2.2.2.2) else (1, (sX7_skip (upd (sX7_readsOpening (upd J 15 (J 15 + 1)) f1 q11 q12 q13 q16 q17 (sX7_see J f1)).2.1 15 ((sX7_readsOpening (upd J 15 (J 15 + 1)) f1 q11 q12 q13 q16 q17 (sX7_see J f1)).2.1 15 - 1 + 1)) f1, (sX7_readsOpening (upd J 15 (J 15 + 1)) f1 q11 q12 q13 q16 q17 (sX7_see J f1)).2.2.1, (sX7_readsOpening (upd J 15 (J 15 + 1)) f1 q11 q12 q13 q16 q17 (sX7_see J f1)).2.2.2.1, (sX7_readsOpening (upd J 15 (J 15 + 1)) f1 q11 q12 q13 q16 q17 (sX7_see J f1)).2.2.2.2.1, (sX7_readsOpening (upd J 15 (J 15 + 1)) f1 q11 q12 q13 q16 q17 (sX7_see J f1)).2.2.2.2.2.1, (sX7_readsOpening (upd J 15 (J 15 + 1)) f1 q11 q12 q13 q16 q17 (sX7_see J f1)).2.2.2.2.2.2))
def ldk_rdC (f1 J q11 q12 q13 q16 q17 : Nat → Int32) : Int32 × LdkRd := if J 18 = 0 then (0, J, q11, q12, q13, q16, q17) else if J 43 = 0 then (if J 19 = q17 (J 18 - 1).toNatClampNeg then (0, J, q11, q12, q13, q16, q17) else (1, (sX7_skip (upd (upd J 15 (J 15 + 1)) 18 (J 18 - 1)) f1, q11, q12, upd q13 (q16 (J 18 - 1).toNatClampNeg).toNatClampNeg (J 14), q16, q17))) else (0, J, q11, q12, q13, q16, q17)
/-- one item -/
def ldk_rdS (f1 J q11 q12 q13 q16 q17 : Nat → Int32) : Int32 × LdkRd :=
  if (sX7_see J f1) = (41 : Int32) then ldk_rdC f1 J q11 q12 q13 q16 q17 else if (sX7_see J f1) = (104 : Int32) ∨ (sX7_see J f1) = (99 : Int32) ∨ (sX7_see J f1) = (100 : Int32) then ldk_rdW f1 J q11 q12 q13 q16 q17 else if (sX7_see J f1) = (114 : Int32) ∨ (sX7_see J f1) = (109 : Int32) then ldk_rdO f1 J q11 q12 q13 q16 q17 else (0, J, q11, q12, q13, q16, q17)
def ldk_rdE (J : Nat → Int32) : Int32 := if J 18 = 0 then (if J 43 = 0 then (1 : Int32) else (0 : Int32)) else (0 : Int32)
def ldk_rdF (f1 : Nat → Int32) : Nat → LdkRd → Int32 × LdkRd
  | 0, x => (0, x)
  | n + 1, (J, q11, q12, q13, q16, q17) => if J 2 ≤ J 15 then (ldk_rdE J, J, q11, q12, q13, q16, q17) else if (ldk_rdS f1 J q11 q12 q13 q16 q17).1 = 0 then (0, (ldk_rdS f1 J q11 q12 q13 q16 q17).2) else ldk_rdF f1 n (ldk_rdS f1 J q11 q12 q13 q16 q17).2
/-- what an item needs -/
def ldk_rdG (f1 J q11 q12 q13 q16 q17 : Nat → Int32) : Prop := vp_in (J 14) 160 ∧ (0 ≤ (J 18).toInt ∧ (J 18).toInt ≤ 6) ∧ (¬ J 18 = 0 → vp_in (q16 (J 18 - 1).toNatClampNeg) 160) ∧ (0 ≤ ((sX7_readsWord (upd J 15 (J 15 + 1)) f1 q11 q12 q13 (sX7_see J f1)).2.1 15 - 1 + 1).toInt ∧ ((sX7_readsWord (upd J 15 (J 15 + 1)) f1 q11 q12 q13 (sX7_see J f1)).2.1 2).toInt ≤ 160) ∧ (0 ≤ ((sX7_readsOpening (upd J 15 (J 15 + 1)) f1 q11 q12 q13 q16 q17 (sX7_see J f1)).2.1 15 - 1 + 1).toInt ∧ ((sX7_readsOpening (upd J 15 (J 15 + 1)) f1 q11 q12 q13 q16 q17 (sX7_see J f1)).2.1 2).toInt ≤ 160)
def ldk_rdOK (f1 : Nat → Int32) : Nat → LdkRd → Prop
  | 0, _ => False
  | n + 1, (J, q11, q12, q13, q16, q17) => 0 ≤ (J 15).toInt ∧ (J 2).toInt ≤ 160 ∧ (¬ J 2 ≤ J 15 → ldk_rdG f1 J q11 q12 q13 q16 q17 ∧ (¬ (ldk_rdS f1 J q11 q12 q13 q16 q17).1 = 0 → ldk_rdOK f1 n (ldk_rdS f1 J q11 q12 q13 q16 q17).2))
def ldk_rdI (f1 : Nat → Int32) (Z : Int32 × LdkRd) (nn : Nat) (J q11 q12 q13 q16 q17 : Nat → Int32) : Prop := ldk_rdF f1 nn (J, q11, q12, q13, q16, q17) = Z ∧ ldk_rdOK f1 nn (J, q11, q12, q13, q16, q17)
section LDKRD
variable {f1 J q11 q12 q13 q16 q17 : Nat → Int32} {Z : Int32 × LdkRd} {nn : Nat}
theorem ldk_rdI_pos (h : ldk_rdI f1 Z nn J q11 q12 q13 q16 q17) : ∃ n, nn = n + 1 := by
  cases nn with
  | zero => exact absurd h.2 (by unfold ldk_rdOK; exact id)
  | succ n => exact ⟨n, rfl⟩
theorem ldk_rdI_a (h : ldk_rdI f1 Z nn J q11 q12 q13 q16 q17) : 0 ≤ (J 15).toInt ∧ (J 2).toInt ≤ 160 := by
  obtain ⟨n, rfl⟩ := ldk_rdI_pos h
  exact ⟨h.2.1, h.2.2.1⟩
theorem ldk_rdI_g (h : ldk_rdI f1 Z nn J q11 q12 q13 q16 q17) (c : ¬ J 2 ≤ J 15) : ldk_rdG f1 J q11 q12 q13 q16 q17 := by
  obtain ⟨n, rfl⟩ := ldk_rdI_pos h
  exact (h.2.2.2 c).1
theorem ldk_rdI_in (h : ldk_rdI f1 Z nn J q11 q12 q13 q16 q17) (c : ¬ J 2 ≤ J 15) : 0 ≤ ((upd J 15 (J 15 + 1)) 15).toInt ∧ ((upd J 15 (J 15 + 1)) 2).toInt ≤ 160 ∧ vp_in ((upd J 15 (J 15 + 1)) 14) 160 ∧ (0 ≤ ((upd J 15 (J 15 + 1)) 18).toInt ∧ ((upd J 15 (J 15 + 1)) 18).toInt ≤ 6) := by
  have g := ldk_rdI_g h c
  obtain ⟨a, b⟩ := ldk_rdI_a h
  have lt : (J 15).toInt < (J 2).toInt := by rw [Int32.le_iff_toInt_le] at c; omega
  have e := toInt_inc lt (by omega)
  rw [pk_us, pk_un (by decide), pk_un (by decide), pk_un (by decide), e]
  exact ⟨by omega, b, g.1, g.2.1⟩
theorem ldk_rdI_o (h : ldk_rdI f1 Z nn J q11 q12 q13 q16 q17) (c : ¬ J 2 ≤ J 15) (z : ¬ J 18 = 0) : vp_in (J 18 - 1) 6 := by
  have g := (ldk_rdI_g h c).2.1
  have z' : (J 18).toInt ≠ 0 := fun y => z (Int32.toInt_inj.mp y)
  rw [vp_in_iff, ldk_dec (by omega)]; omega
theorem ldk_rdI_e (h : ldk_rdI f1 Z nn J q11 q12 q13 q16 q17) (c : J 2 ≤ J 15) : Z = (if J 18 = 0 then (if J 43 = 0 then (1 : Int32) else (0 : Int32)) else (0 : Int32), J, q11, q12, q13, q16, q17) := by
  obtain ⟨n, rfl⟩ := ldk_rdI_pos h
  rw [← h.1]; exact if_pos c
theorem ldk_rdI_f {y : LdkRd} (h : ldk_rdI f1 Z nn J q11 q12 q13 q16 q17) (c : ¬ J 2 ≤ J 15) (e : ldk_rdS f1 J q11 q12 q13 q16 q17 = (0, y)) : Z = (0, y) := by
  obtain ⟨n, rfl⟩ := ldk_rdI_pos h
  have h1 := h.1
  unfold ldk_rdF at h1
  rw [if_neg c, e] at h1
  rw [← h1]; exact if_pos rfl
theorem ldk_rdI_s {J' q11' q12' q13' q16' q17' : Nat → Int32} (h : ldk_rdI f1 Z nn J q11 q12 q13 q16 q17) (c : ¬ J 2 ≤ J 15) (e : ldk_rdS f1 J q11 q12 q13 q16 q17 = (1, J', q11', q12', q13', q16', q17')) : ldk_rdI f1 Z (nn - 1) J' q11' q12' q13' q16' q17' ∧ nn - 1 < nn := by
  obtain ⟨n, rfl⟩ := ldk_rdI_pos h
  have h1 := h.1
  have h2 := (h.2.2.2 c).2
  unfold ldk_rdF at h1
  rw [if_neg c, e] at h1
  rw [e] at h2
  refine ⟨⟨?_, ?_⟩, by omega⟩
  · rw [Nat.add_sub_cancel, ← h1]; exact (if_neg (show ¬ (1 : Int32) = 0 by decide)).symm
  · rw [Nat.add_sub_cancel]; exact h2 (show ¬ (1 : Int32) = 0 by decide)
theorem ldk_rdS_c (m : (sX7_see J f1) = 41) : ldk_rdS f1 J q11 q12 q13 q16 q17 = ldk_rdC f1 J q11 q12 q13 q16 q17 := if_pos m
theorem ldk_rdS_w (m : (sX7_see J f1) = 104 ∨ (sX7_see J f1) = 99 ∨ (sX7_see J f1) = 100) : ldk_rdS f1 J q11 q12 q13 q16 q17 = ldk_rdW f1 J q11 q12 q13 q16 q17 := by
  have n : ¬ (sX7_see J f1) = 41 := by rcases m with m | m | m <;> rw [m] <;> decide
  exact (if_neg n).trans (if_pos m)
theorem ldk_rdS_o (m : (sX7_see J f1) = 114 ∨ (sX7_see J f1) = 109) : ldk_rdS f1 J q11 q12 q13 q16 q17 = ldk_rdO f1 J q11 q12 q13 q16 q17 := by
  have n : ¬ (sX7_see J f1) = 41 := by rcases m with m | m <;> rw [m] <;> decide
  have n2 : ¬ ((sX7_see J f1) = 104 ∨ (sX7_see J f1) = 99 ∨ (sX7_see J f1) = 100) := by rcases m with m | m <;> rw [m] <;> decide
  exact (if_neg n).trans ((if_neg n2).trans (if_pos m))
theorem ldk_rdS_x (n1 : ¬ (sX7_see J f1) = 41) (n2 : ¬ (sX7_see J f1) = 104) (n3 : ¬ (sX7_see J f1) = 99) (n4 : ¬ (sX7_see J f1) = 100) (n5 : ¬ (sX7_see J f1) = 114) (n6 : ¬ (sX7_see J f1) = 109) : ldk_rdS f1 J q11 q12 q13 q16 q17 = (0, J, q11, q12, q13, q16, q17) :=
  (if_neg n1).trans ((if_neg (fun q => q.elim n2 (fun q => q.elim n3 n4))).trans (if_neg (fun q => q.elim n5 n6)))
theorem ldk_rdS_c0 (m : (sX7_see J f1) = 41) (c : J 18 = 0) : ldk_rdS f1 J q11 q12 q13 q16 q17 = (0, J, q11, q12, q13, q16, q17) := (ldk_rdS_c m).trans (if_pos c)
theorem ldk_rdS_c1 (m : (sX7_see J f1) = 41) (c : ¬ J 18 = 0) (c2 : ¬ J 43 = 0) : ldk_rdS f1 J q11 q12 q13 q16 q17 = (0, J, q11, q12, q13, q16, q17) := (ldk_rdS_c m).trans ((if_neg c).trans (if_neg c2))
theorem ldk_rdS_c2 (m : (sX7_see J f1) = 41) (c : ¬ J 18 = 0) (c2 : J 43 = 0) (c3 : J 19 = q17 (J 18 - 1).toNatClampNeg) : ldk_rdS f1 J q11 q12 q13 q16 q17 = (0, J, q11, q12, q13, q16, q17) := (ldk_rdS_c m).trans ((if_neg c).trans ((if_pos c2).trans (if_pos c3)))
theorem ldk_rdS_c3 (m : (sX7_see J f1) = 41) (c : ¬ J 18 = 0) (c2 : J 43 = 0) (c3 : ¬ J 19 = q17 (J 18 - 1).toNatClampNeg) : ldk_rdS f1 J q11 q12 q13 q16 q17 = (1, (sX7_skip (upd (upd J 15 (J 15 + 1)) 18 (J 18 - 1)) f1, q11, q12, upd q13 (q16 (J 18 - 1).toNatClampNeg).toNatClampNeg (J 14), q16, q17)) := (ldk_rdS_c m).trans ((if_neg c).trans ((if_pos c2).trans (if_neg c3)))
theorem ldk_rdS_w0 (m : (sX7_see J f1) = 104 ∨ (sX7_see J f1) = 99 ∨ (sX7_see J f1) = 100) (z : (sX7_readsWord (upd J 15 (J 15 + 1)) f1 q11 q12 q13 (sX7_see J f1)).1 = 0) : ldk_rdS f1 J q11 q12 q13 q16 q17 = (0, (sX7_readsWord (upd J 15 (J 15 + 1)) f1 q11 q12 q13 (sX7_see J f1)).2.1, (sX7_readsWord (upd J 15 (J 15 + 1)) f1 q11 q12 q13 (sX7_see J f1)).2.2.1, (sX7_readsWord (upd J 15 (J 15 + 1)) f1 q11 q12 q13 (sX7_see J f1)).2.2.2.1, (sX7_readsWord (upd J 15 (J 15 + 1)) f1 q11 q12 q13 (sX7_see J f1)).2.2.2.2, q16, q17) := (ldk_rdS_w m).trans (if_pos z)
theorem ldk_rdS_w1 (m : (sX7_see J f1) = 104 ∨ (sX7_see J f1) = 99 ∨ (sX7_see J f1) = 100) (z : ¬ (sX7_readsWord (upd J 15 (J 15 + 1)) f1 q11 q12 q13 (sX7_see J f1)).1 = 0) : ldk_rdS f1 J q11 q12 q13 q16 q17 = (1, (sX7_skip (upd (upd (sX7_readsWord (upd J 15 (J 15 + 1)) f1 q11 q12 q13 (sX7_see J f1)).2.1 15 ((sX7_readsWord (upd J 15 (J 15 + 1)) f1 q11 q12 q13 (sX7_see J f1)).2.1 15 - 1 + 1)) 43 0) f1, (sX7_readsWord (upd J 15 (J 15 + 1)) f1 q11 q12 q13 (sX7_see J f1)).2.2.1, (sX7_readsWord (upd J 15 (J 15 + 1)) f1 q11 q12 q13 (sX7_see J f1)).2.2.2.1, (sX7_readsWord (upd J 15 (J 15 + 1)) f1 q11 q12 q13 (sX7_see J f1)).2.2.2.2, q16, q17)) := (ldk_rdS_w m).trans (if_neg z)
theorem ldk_rdS_o0 (m : (sX7_see J f1) = 114 ∨ (sX7_see J f1) = 109) (z : (sX7_readsOpening (upd J 15 (J 15 + 1)) f1 q11 q12 q13 q16 q17 (sX7_see J f1)).1 = 0) : ldk_rdS f1 J q11 q12 q13 q16 q17 = (0, (sX7_readsOpening (upd J 15 (J 15 + 1)) f1 q11 q12 q13 q16 q17 (sX7_see J f1)).2.1, (sX7_readsOpening (upd J 15 (J 15 + 1)) f1 q11 q12 q13 q16 q17 (sX7_see J f1)).2.2.1, (sX7_readsOpening (upd J 15 (J 15 + 1)) f1 q11 q12 q13 q16 q17 (sX7_see J f1)).2.2.2.1, (sX7_readsOpening (upd J 15 (J 15 + 1)) f1 q11 q12 q13 q16 q17 (sX7_see J f1)).2.2.2.2.1, (sX7_readsOpening (upd J 15 (J 15 + 1)) f1 q11 q12 q13 q16 q17 (sX7_see J f1)).2.2.2.2.2.1, (sX7_readsOpening (upd J 15 (J 15 + 1)) f1 q11 q12 q13 q16 q17 (sX7_see J f1)).2.2.2.2.2.2) := (ldk_rdS_o m).trans (if_pos z)
theorem ldk_rdS_o1 (m : (sX7_see J f1) = 114 ∨ (sX7_see J f1) = 109) (z : ¬ (sX7_readsOpening (upd J 15 (J 15 + 1)) f1 q11 q12 q13 q16 q17 (sX7_see J f1)).1 = 0) : ldk_rdS f1 J q11 q12 q13 q16 q17 = (1, (sX7_skip (upd (sX7_readsOpening (upd J 15 (J 15 + 1)) f1 q11 q12 q13 q16 q17 (sX7_see J f1)).2.1 15 ((sX7_readsOpening (upd J 15 (J 15 + 1)) f1 q11 q12 q13 q16 q17 (sX7_see J f1)).2.1 15 - 1 + 1)) f1, (sX7_readsOpening (upd J 15 (J 15 + 1)) f1 q11 q12 q13 q16 q17 (sX7_see J f1)).2.2.1, (sX7_readsOpening (upd J 15 (J 15 + 1)) f1 q11 q12 q13 q16 q17 (sX7_see J f1)).2.2.2.1, (sX7_readsOpening (upd J 15 (J 15 + 1)) f1 q11 q12 q13 q16 q17 (sX7_see J f1)).2.2.2.2.1, (sX7_readsOpening (upd J 15 (J 15 + 1)) f1 q11 q12 q13 q16 q17 (sX7_see J f1)).2.2.2.2.2.1, (sX7_readsOpening (upd J 15 (J 15 + 1)) f1 q11 q12 q13 q16 q17 (sX7_see J f1)).2.2.2.2.2.2)) := (ldk_rdS_o m).trans (if_neg z)
end LDKRD
def ldk_rd0 (I f1 : Nat → Int32) : Nat → Int32 := sX7_skip (upd (upd (upd (upd (upd I 14 0) 15 0) 18 0) 19 0) 43 1) f1
def sX7_reads (I f1 f11 f12 f13 f16 f17 : Nat → Int32) : Int32 × (Nat → Int32) × (Nat → Int32) × (Nat → Int32) × (Nat → Int32) × (Nat → Int32) × (Nat → Int32) := ldk_rdF f1 161 (ldk_rd0 I f1, f11, f12, f13, f16, f17)
