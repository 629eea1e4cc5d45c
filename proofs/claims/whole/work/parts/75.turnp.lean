abbrev LdkT : Type := (Nat → Int32) × (Nat → Int64) × (Nat → Int32) × (Nat → Int32) × (Nat → Int32) × (Nat → Int32) × (Nat → Int32) × (Nat → Int64)
def ldk_t0 (J : Nat → Int32) : Int32 := sX7_above (J 22) - J 22
def ldk_t1 (J : Nat → Int32) (r : Int32) : Int32 := if r ≤ ldk_t0 J then r else ldk_t0 J
def ldk_t2 (J : Nat → Int32) (r : Int32) : Int32 := if J 21 = (2 : Int32) then (if ldk_t1 J r ≤ J 23 then ldk_t1 J r else J 23) else ldk_t1 J r
def ldk_ta (J : Nat → Int32) (r : Int32) : Int32 := J 22 + ldk_t2 J r
def ldk_tl (J : Nat → Int32) (r : Int32) : Int32 := J 23 - (if J 21 = (2 : Int32) then ldk_t2 J r else (0 : Int32))
def ldk_ts (J : Nat → Int32) (r : Int32) : Int32 := if J 21 = (2 : Int32) then (if ldk_tl J r = 0 then (1 : Int32) else (0 : Int32)) else (0 : Int32)
def ldk_tm (a : Int32) : Prop := a = 480 ∨ a = 1440 ∨ a = 4800 ∨ a = 5760
/-- at a mark -/
def ldk_tA (f3 f4 f5 f6 f7 : Nat → Int32) (f8 : Nat → Int64) (r : Int32) (x : LdkT) : LdkT := (upd (sX7_comes (upd (upd x.1 22 (if ldk_ta x.1 r = 5760 then (0 : Int32) else ldk_ta x.1 r)) 23 (ldk_tl x.1 r)) x.2.1 f3 f4 f5 f6 f7 f8 x.2.2.1 x.2.2.2.1 x.2.2.2.2.1 x.2.2.2.2.2.1 x.2.2.2.2.2.2.1 x.2.2.2.2.2.2.2 (ldk_ta x.1 r)).1 21 (if ldk_ts x.1 r = 0 then (sX7_comes (upd (upd x.1 22 (if ldk_ta x.1 r = 5760 then (0 : Int32) else ldk_ta x.1 r)) 23 (ldk_tl x.1 r)) x.2.1 f3 f4 f5 f6 f7 f8 x.2.2.1 x.2.2.2.1 x.2.2.2.2.1 x.2.2.2.2.2.1 x.2.2.2.2.2.2.1 x.2.2.2.2.2.2.2 (ldk_ta x.1 r)).1 21 else (0 : Int32)), (sX7_comes (upd (upd x.1 22 (if ldk_ta x.1 r = 5760 then (0 : Int32) else ldk_ta x.1 r)) 23 (ldk_tl x.1 r)) x.2.1 f3 f4 f5 f6 f7 f8 x.2.2.1 x.2.2.2.1 x.2.2.2.2.1 x.2.2.2.2.2.1 x.2.2.2.2.2.2.1 x.2.2.2.2.2.2.2 (ldk_ta x.1 r)).2)
/-- between marks -/
def ldk_tB (r : Int32) (x : LdkT) : LdkT := (upd (upd (upd x.1 21 (if ldk_ts x.1 r = 0 then x.1 21 else (0 : Int32))) 22 (ldk_ta x.1 r)) 23 (ldk_tl x.1 r), x.2)
def ldk_tS (f3 f4 f5 f6 f7 : Nat → Int32) (f8 : Nat → Int64) (r : Int32) (x : LdkT) : LdkT := if ldk_ta x.1 r = 480 then ldk_tA f3 f4 f5 f6 f7 f8 r x else if ldk_ta x.1 r = 1440 then ldk_tA f3 f4 f5 f6 f7 f8 r x else if ldk_ta x.1 r = 4800 then ldk_tA f3 f4 f5 f6 f7 f8 r x else if ldk_ta x.1 r = 5760 then ldk_tA f3 f4 f5 f6 f7 f8 r x else ldk_tB r x
def ldk_tF (f3 f4 f5 f6 f7 : Nat → Int32) (f8 : Nat → Int64) : Nat → Int32 → Int32 → LdkT → Int32 × Int32 × LdkT
  | 0, r, g, x => (r, g, x)
  | n + 1, r, g, x => if r ≤ 0 then (r, g, x) else if x.1 21 = 0 then (r, g, x) else ldk_tF f3 f4 f5 f6 f7 f8 n (r - ldk_t2 x.1 r) (g + ldk_t2 x.1 r) (ldk_tS f3 f4 f5 f6 f7 f8 r x)
def ldk_tG (f3 f4 f5 f6 f7 : Nat → Int32) (f8 : Nat → Int64) (x : LdkT) : Prop := ldkOK f3 f4 f5 f6 f7 f8 161 (0, 100, x.2.1 25, 0) ∧ ¬ sX7_look f3 f4 f5 f6 f7 f8 (x.2.1 25) 2 = 0 ∧ ldk_cl (x.1 38) x.2.2.2.2.1 ∧ (x.1 42 = 0 ∨ x.1 42 = 1)
/-- the way ends, and at each mark the reference has what it needs -/
def ldk_tOK (f3 f4 f5 f6 f7 : Nat → Int32) (f8 : Nat → Int64) : Nat → Int32 → LdkT → Prop
  | 0, _, _ => False
  | n + 1, r, x => ¬ r ≤ 0 → ¬ x.1 21 = 0 → (ldk_tm (ldk_ta x.1 r) → ldk_tG f3 f4 f5 f6 f7 f8 x) ∧ ldk_tOK f3 f4 f5 f6 f7 f8 n (r - ldk_t2 x.1 r) (ldk_tS f3 f4 f5 f6 f7 f8 r x)
def ldk_tI (f3 f4 f5 f6 f7 : Nat → Int32) (f8 : Nat → Int64) (Z : Int32 × Int32 × LdkT) (nn : Nat) (r g : Int32) (x : LdkT) : Prop := ldk_tF f3 f4 f5 f6 f7 f8 nn r g x = Z ∧ ldk_tOK f3 f4 f5 f6 f7 f8 nn r x
section LDKT
variable {f3 f4 f5 f6 f7 : Nat → Int32} {f8 : Nat → Int64} {Z : Int32 × Int32 × LdkT} {nn : Nat} {r g : Int32} {x : LdkT}
theorem ldk_tI_pos (h : ldk_tI f3 f4 f5 f6 f7 f8 Z nn r g x) : ∃ n, nn = n + 1 := by
  cases nn with
  | zero => exact absurd h.2 (by unfold ldk_tOK; exact id)
  | succ n => exact ⟨n, rfl⟩
theorem ldk_tI_e1 (h : ldk_tI f3 f4 f5 f6 f7 f8 Z nn r g x) (c : r ≤ 0) : Z = (r, g, x) := by
  obtain ⟨n, rfl⟩ := ldk_tI_pos h
  rw [← h.1]; exact if_pos c
theorem ldk_tI_e2 (h : ldk_tI f3 f4 f5 f6 f7 f8 Z nn r g x) (c : ¬ r ≤ 0) (c2 : x.1 21 = 0) : Z = (r, g, x) := by
  obtain ⟨n, rfl⟩ := ldk_tI_pos h
  rw [← h.1]; exact (if_neg c).trans (if_pos c2)
theorem ldk_tI_good (h : ldk_tI f3 f4 f5 f6 f7 f8 Z nn r g x) (c : ¬ r ≤ 0) (c2 : ¬ x.1 21 = 0) (m : ldk_tm (ldk_ta x.1 r)) : ldk_tG f3 f4 f5 f6 f7 f8 x := by
  obtain ⟨n, rfl⟩ := ldk_tI_pos h
  have h2 := h.2
  unfold ldk_tOK at h2
  exact (h2 c c2).1 m
theorem ldk_tI_step (h : ldk_tI f3 f4 f5 f6 f7 f8 Z nn r g x) (c : ¬ r ≤ 0) (c2 : ¬ x.1 21 = 0) : ldk_tI f3 f4 f5 f6 f7 f8 Z (nn - 1) (r - ldk_t2 x.1 r) (g + ldk_t2 x.1 r) (ldk_tS f3 f4 f5 f6 f7 f8 r x) ∧ nn - 1 < nn := by
  obtain ⟨n, rfl⟩ := ldk_tI_pos h
  have h2 := h.2
  unfold ldk_tOK at h2
  refine ⟨⟨?_, (h2 c c2).2⟩, by omega⟩
  rw [← h.1, Nat.add_sub_cancel]
  exact ((if_neg c).trans (if_neg c2)).symm
theorem ldk_tS_m (m : ldk_tm (ldk_ta x.1 r)) : ldk_tS f3 f4 f5 f6 f7 f8 r x = ldk_tA f3 f4 f5 f6 f7 f8 r x := by
  unfold ldk_tS
  rcases m with m | m | m | m
  · rw [if_pos m]
  · split
    · rfl
    · first | rfl | rw [if_pos m]
  · split
    · rfl
    · split
      · rfl
      · first | rfl | rw [if_pos m]
  · split
    · rfl
    · split
      · rfl
      · split
        · rfl
        · first | rfl | rw [if_pos m]
theorem ldk_tI_a (h : ldk_tI f3 f4 f5 f6 f7 f8 Z nn r g x) (c : ¬ r ≤ 0) (c2 : ¬ x.1 21 = 0) (m : ldk_tm (ldk_ta x.1 r)) : ldk_tI f3 f4 f5 f6 f7 f8 Z (nn - 1) (r - ldk_t2 x.1 r) (g + ldk_t2 x.1 r) (ldk_tA f3 f4 f5 f6 f7 f8 r x) := by
  have h2 := (ldk_tI_step h c c2).1
  rw [ldk_tS_m m] at h2
  exact h2
theorem ldk_tI_b (h : ldk_tI f3 f4 f5 f6 f7 f8 Z nn r g x) (c : ¬ r ≤ 0) (c2 : ¬ x.1 21 = 0) (m1 : ¬ ldk_ta x.1 r = 480) (m2 : ¬ ldk_ta x.1 r = 1440) (m3 : ¬ ldk_ta x.1 r = 4800) (m4 : ¬ ldk_ta x.1 r = 5760) : ldk_tI f3 f4 f5 f6 f7 f8 Z (nn - 1) (r - ldk_t2 x.1 r) (g + ldk_t2 x.1 r) (ldk_tB r x) := by
  have h2 := (ldk_tI_step h c c2).1
  unfold ldk_tS at h2
  rw [if_neg m1, if_neg m2, if_neg m3, if_neg m4] at h2
  exact h2
end LDKT
