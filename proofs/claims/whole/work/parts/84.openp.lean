theorem skF_keep (f1 : Nat → Int32) {k : Nat} (hk : k ≠ 15) : ∀ (n : Nat) (J : Nat → Int32), skF f1 n J k = J k := by
  intro n
  induction n with
  | zero => intro J; rfl
  | succ n ih =>
    intro J
    rw [skF]
    split
    · rw [ih, pk_un hk]
    · rfl
theorem skF_pos (f1 : Nat → Int32) : ∀ (n : Nat) (J : Nat → Int32), 0 ≤ (J 15).toInt → (J 2).toInt ≤ 160 → 0 ≤ (skF f1 n J 15).toInt := by
  intro n
  induction n with
  | zero => intro J h _; exact h
  | succ n ih =>
    intro J h h2
    rw [skF]
    split
    · rename_i h3
      have h4 := toInt_inc (see_lt h3) (by omega)
      exact ih _ (by rw [pk_us, h4]; omega) (by rw [pk_un (by decide)]; exact h2)
    · exact h
theorem sk_keep (J f1 : Nat → Int32) {k : Nat} (hk : k ≠ 15) : (sX7_skip J f1) k = J k := skF_keep f1 hk 161 J
theorem sk_pos (J f1 : Nat → Int32) (h : 0 ≤ (J 15).toInt) (h2 : (J 2).toInt ≤ 160) : 0 ≤ ((sX7_skip J f1) 15).toInt := skF_pos f1 161 J h h2
theorem ldk_op6 {x : Int32} (h : 0 ≤ x.toInt ∧ x.toInt ≤ 6) (c : ¬ x = 6) : vp_in x 6 := by
  have c' : x.toInt ≠ 6 := fun z => c (Int32.toInt_inj.mp z)
  rw [vp_in_iff]; omega
abbrev LdkO : Type := Int32 × (Nat → Int32) × (Nat → Int32) × (Nat → Int32) × (Nat → Int32) × (Nat → Int32) × (Nat → Int32)
def ldk_oG (c v : Int32) (K f11 f12 f13 f16 f17 : Nat → Int32) : LdkO :=
  (1, upd (sX7_item (upd (upd K 15 (K 15 + 1)) 18 (K 18 + 1)) f11 f12 f13 (if c = (114 : Int32) then (3 : Int32) else (4 : Int32)) v).1 43 1, (sX7_item (upd (upd K 15 (K 15 + 1)) 18 (K 18 + 1)) f11 f12 f13 (if c = (114 : Int32) then (3 : Int32) else (4 : Int32)) v).2.1, (sX7_item (upd (upd K 15 (K 15 + 1)) 18 (K 18 + 1)) f11 f12 f13 (if c = (114 : Int32) then (3 : Int32) else (4 : Int32)) v).2.2.1, (sX7_item (upd (upd K 15 (K 15 + 1)) 18 (K 18 + 1)) f11 f12 f13 (if c = (114 : Int32) then (3 : Int32) else (4 : Int32)) v).2.2.2, upd f16 (K 18).toNatClampNeg (K 14), upd f17 (K 18).toNatClampNeg (K 19))
/-- the bracket behind r or m -/
def ldk_oE (c v : Int32) (J f1 f11 f12 f13 f16 f17 : Nat → Int32) : LdkO :=
  if sX7_see (sX7_skip J f1) f1 = (40 : Int32) then (if (sX7_skip J f1) 18 = (6 : Int32) then (0, (sX7_skip J f1), f11, f12, f13, f16, f17) else ldk_oG c v (sX7_skip J f1) f11 f12 f13 f16 f17) else (0, (sX7_skip J f1), f11, f12, f13, f16, f17)
def ldk_oW (I f1 : Nat → Int32) : Int32 × (Nat → Int32) := ldk_wF f1 114 10 4 (I 15) 161 0 I
def ldk_oB (I : Nat → Int32) (v : Int32) (J f11 f12 f13 f16 f17 : Nat → Int32) : LdkO := (0, upd J 15 (if v = 0 then (if J 15 ≤ I 15 then J 15 else I 15) else J 15), f11, f12, f13, f16, f17)
def sX7_readsOpening (I f1 f11 f12 f13 f16 f17 : Nat → Int32) (a0 : Int32) : LdkO :=
  if a0 = (114 : Int32) then (if (ldk_oW I f1).1 = 0 then ldk_oB I (ldk_oW I f1).1 (ldk_oW I f1).2 f11 f12 f13 f16 f17 else (if (10 : Int32) ≤ sX7_digit (sX7_see (ldk_oW I f1).2 f1) then ldk_oE a0 (ldk_oW I f1).1 (ldk_oW I f1).2 f1 f11 f12 f13 f16 f17 else ldk_oB I (ldk_oW I f1).1 (ldk_oW I f1).2 f11 f12 f13 f16 f17)) else ldk_oE a0 2 I f1 f11 f12 f13 f16 f17
