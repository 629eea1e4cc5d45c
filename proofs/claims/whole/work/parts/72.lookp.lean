abbrev LdkS : Type := Int32 × Int32 × Int64 × Int32
def ldkIn (f3 f4 : Nat → Int32) (f8 : Nat → Int64) (r : Int64) (k : Int32) : Int32 := (if sX7_isBracket f3 k = 0 then (0 : Int32) else (if sX7_times f3 f4 f8 k ≤ r then (0 : Int32) else (1 : Int32)))
def ldkAg (f3 f4 : Nat → Int32) (f8 : Nat → Int64) (r : Int64) (k : Int32) : Int32 := (if ldkIn f3 f4 f8 r k = 0 then (0 : Int32) else (if f3 k.toNatClampNeg = (3 : Int32) then (if r < f8 k.toNatClampNeg then (0 : Int32) else (1 : Int32)) else (0 : Int32)))
def ldkC (f6 : Nat → Int32) (c k : Int32) : Int32 := (if f6 k.toNatClampNeg = (-1 : Int32) then c else f6 k.toNatClampNeg)
def ldkR1 (f3 f4 : Nat → Int32) (f8 : Nat → Int64) (r : Int64) (k : Int32) : Int64 := r - (if sX7_isBracket f3 k = 0 then (if f3 k.toNatClampNeg = 0 then (1 : Int64) else (0 : Int64)) else sX7_times f3 f4 f8 k)
def ldkR2 (f3 : Nat → Int32) (f8 : Nat → Int64) (r : Int64) (k : Int32) : Int64 := (if f3 k.toNatClampNeg = (3 : Int32) then (r - r / f8 k.toNatClampNeg * f8 k.toNatClampNeg) else (if f8 k.toNatClampNeg ≤ r then (((2 : Int64) * f8 k.toNatClampNeg - (1 : Int64)) - r) else r))
def ldkS (f3 f4 f5 f6 f7 : Nat → Int32) (f8 : Nat → Int64) (x : LdkS) : LdkS :=
  if ldkIn f3 f4 f8 x.2.2.1 x.2.2.2 = 0 then (ldkC f6 x.1 x.2.2.2, ldkC f7 x.2.1 x.2.2.2, ldkR1 f3 f4 f8 x.2.2.1 x.2.2.2, f5 x.2.2.2.toNatClampNeg)
  else if ldkAg f3 f4 f8 x.2.2.1 x.2.2.2 = 0 then (x.1, x.2.1, ldkR2 f3 f8 x.2.2.1 x.2.2.2, x.2.2.2 + 1) else (ldkC f6 x.1 x.2.2.2, ldkC f7 x.2.1 x.2.2.2, ldkR2 f3 f8 x.2.2.1 x.2.2.2, x.2.2.2 + 1)
def ldkF (f3 f4 f5 f6 f7 : Nat → Int32) (f8 : Nat → Int64) : Nat → LdkS → LdkS
  | 0, x => x
  | n + 1, x => if f3 x.2.2.2.toNatClampNeg = 0 ∧ x.2.2.1 ≤ 0 then x else ldkF f3 f4 f5 f6 f7 f8 n (ldkS f3 f4 f5 f6 f7 f8 x)
/-- the walk stays among the items and comes to its pick -/
def ldkOK (f3 f4 f5 f6 f7 : Nat → Int32) (f8 : Nat → Int64) : Nat → LdkS → Prop
  | 0, _ => False
  | n + 1, x => vp_in x.2.2.2 160 ∧ (¬ (f3 x.2.2.2.toNatClampNeg = 0 ∧ x.2.2.1 ≤ 0) → (¬ ldkIn f3 f4 f8 x.2.2.1 x.2.2.2 = 0 → f3 x.2.2.2.toNatClampNeg = 3 → ¬ f8 x.2.2.2.toNatClampNeg = 0) ∧ ldkOK f3 f4 f5 f6 f7 f8 n (ldkS f3 f4 f5 f6 f7 f8 x))
def sX7_look (f3 f4 f5 f6 f7 : Nat → Int32) (f8 : Nat → Int64) (a0 : Int64) (a1 : Int32) : Int32 := if a1 = 0 then f4 (ldkF f3 f4 f5 f6 f7 f8 161 (0, 100, a0, 0)).2.2.2.toNatClampNeg else if a1 = 1 then (ldkF f3 f4 f5 f6 f7 f8 161 (0, 100, a0, 0)).1 else (ldkF f3 f4 f5 f6 f7 f8 161 (0, 100, a0, 0)).2.1
def ldkI (f3 f4 f5 f6 f7 : Nat → Int32) (f8 : Nat → Int64) (Z : LdkS) (nn : Nat) (x : LdkS) : Prop := ldkF f3 f4 f5 f6 f7 f8 nn x = Z ∧ ldkOK f3 f4 f5 f6 f7 f8 nn x
section LDKI
variable {f3 f4 f5 f6 f7 : Nat → Int32} {f8 : Nat → Int64} {Z : LdkS} {nn : Nat} {c d k : Int32} {r : Int64}
theorem ldkI_in (h : ldkI f3 f4 f5 f6 f7 f8 Z nn (c, d, r, k)) : vp_in k 160 := by
  obtain ⟨h1, h2⟩ := h
  cases nn with
  | zero => exact absurd h2 (by unfold ldkOK; exact id)
  | succ n => unfold ldkOK at h2; exact h2.1
theorem ldkI_ne (h : ldkI f3 f4 f5 f6 f7 f8 Z nn (c, d, r, k)) (c0 : ¬ (f3 k.toNatClampNeg = 0 ∧ r ≤ 0)) (ci : ¬ ldkIn f3 f4 f8 r k = 0) (c3 : f3 k.toNatClampNeg = 3) : ¬ f8 k.toNatClampNeg = 0 := by
  obtain ⟨h1, h2⟩ := h
  cases nn with
  | zero => exact absurd h2 (by unfold ldkOK; exact id)
  | succ n => unfold ldkOK at h2; exact (h2.2 c0).1 ci c3
theorem ldkI_end (h : ldkI f3 f4 f5 f6 f7 f8 Z nn (c, d, r, k)) (c0 : f3 k.toNatClampNeg = 0 ∧ r ≤ 0) : Z = (c, d, r, k) := by
  obtain ⟨h1, h2⟩ := h
  cases nn with
  | zero => exact absurd h2 (by unfold ldkOK; exact id)
  | succ n => rw [← h1]; exact if_pos c0
theorem ldkI_step (h : ldkI f3 f4 f5 f6 f7 f8 Z nn (c, d, r, k)) (c0 : ¬ (f3 k.toNatClampNeg = 0 ∧ r ≤ 0)) : ldkI f3 f4 f5 f6 f7 f8 Z (nn - 1) (ldkS f3 f4 f5 f6 f7 f8 (c, d, r, k)) ∧ nn - 1 < nn := by
  obtain ⟨h1, h2⟩ := h
  cases nn with
  | zero => exact absurd h2 (by unfold ldkOK; exact id)
  | succ n =>
    unfold ldkOK at h2
    refine ⟨⟨?_, (h2.2 c0).2⟩, by omega⟩
    rw [← h1, Nat.add_sub_cancel]
    exact (if_neg c0).symm
theorem ldkI_a (h : ldkI f3 f4 f5 f6 f7 f8 Z nn (c, d, r, k)) (c0 : ¬ (f3 k.toNatClampNeg = 0 ∧ r ≤ 0)) (ci : ldkIn f3 f4 f8 r k = 0) : ldkI f3 f4 f5 f6 f7 f8 Z (nn - 1) (ldkC f6 c k, ldkC f7 d k, ldkR1 f3 f4 f8 r k, f5 k.toNatClampNeg) := by
  have h2 := (ldkI_step h c0).1
  unfold ldkS at h2
  dsimp only at h2
  rw [if_pos ci] at h2
  exact h2
theorem ldkI_b (h : ldkI f3 f4 f5 f6 f7 f8 Z nn (c, d, r, k)) (c0 : ¬ (f3 k.toNatClampNeg = 0 ∧ r ≤ 0)) (ci : ¬ ldkIn f3 f4 f8 r k = 0) (ca : ldkAg f3 f4 f8 r k = 0) : ldkI f3 f4 f5 f6 f7 f8 Z (nn - 1) (c, d, ldkR2 f3 f8 r k, k + 1) := by
  have h2 := (ldkI_step h c0).1
  unfold ldkS at h2
  dsimp only at h2
  rw [if_neg ci, if_pos ca] at h2
  exact h2
theorem ldkI_c (h : ldkI f3 f4 f5 f6 f7 f8 Z nn (c, d, r, k)) (c0 : ¬ (f3 k.toNatClampNeg = 0 ∧ r ≤ 0)) (ci : ¬ ldkIn f3 f4 f8 r k = 0) (ca : ¬ ldkAg f3 f4 f8 r k = 0) : ldkI f3 f4 f5 f6 f7 f8 Z (nn - 1) (ldkC f6 c k, ldkC f7 d k, ldkR2 f3 f8 r k, k + 1) := by
  have h2 := (ldkI_step h c0).1
  unfold ldkS at h2
  dsimp only at h2
  rw [if_neg ci, if_neg ca] at h2
  exact h2
end LDKI
