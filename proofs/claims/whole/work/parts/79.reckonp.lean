abbrev LdkR : Type := (Nat → Int32) × (Nat → Int32) × (Nat → Int64)
def ldk_cnt (f3 f4 : Nat → Int32) (f8 : Nat → Int64) (i : Int32) : Int64 := if sX7_isBracket f3 i = 0 then (if f3 i.toNatClampNeg = 0 then (1 : Int64) else (0 : Int64)) else sX7_times f3 f4 f8 i
/-- what one item within bracket k gives to it -/
def ldk_kS (f3 f4 : Nat → Int32) (k i : Int32) (x : LdkR) : LdkR := (upd x.1 k.toNatClampNeg (if x.1 i.toNatClampNeg = (-1 : Int32) then x.1 k.toNatClampNeg else x.1 i.toNatClampNeg), upd x.2.1 k.toNatClampNeg (if x.2.1 i.toNatClampNeg = (-1 : Int32) then x.2.1 k.toNatClampNeg else x.2.1 i.toNatClampNeg), vp_updL x.2.2 k.toNatClampNeg (sX7_sum (x.2.2 k.toNatClampNeg) (ldk_cnt f3 f4 x.2.2 i)))
def ldk_kF (f3 f4 f5 : Nat → Int32) (k : Int32) : Nat → Int32 → LdkR → LdkR
  | 0, _, x => x
  | n + 1, i, x => if f5 k.toNatClampNeg ≤ i then x else ldk_kF f3 f4 f5 k n (f5 i.toNatClampNeg) (ldk_kS f3 f4 k i x)
/-- the chain from i comes to e -/
def ldk_cOK (f5 : Nat → Int32) (e : Int32) : Nat → Int32 → Prop
  | 0, _ => False
  | n + 1, i => ¬ e ≤ i → vp_in i 160 ∧ ldk_cOK f5 e n (f5 i.toNatClampNeg)
def ldk_k0 (f3 f4 : Nat → Int32) (k : Int32) (x : LdkR) : LdkR := (upd x.1 k.toNatClampNeg (if f3 k.toNatClampNeg = (1 : Int32) then f4 k.toNatClampNeg else (-1 : Int32)), upd x.2.1 k.toNatClampNeg (if f3 k.toNatClampNeg = (2 : Int32) then f4 k.toNatClampNeg else (-1 : Int32)), vp_updL x.2.2 k.toNatClampNeg 0)
def ldk_oF (f3 f4 f5 : Nat → Int32) : Nat → Int32 → LdkR → LdkR
  | 0, _, x => x
  | n + 1, k, x => if k < 0 then x else ldk_oF f3 f4 f5 n (k + (-1)) (ldk_kF f3 f4 f5 k 161 (k + 1) (ldk_k0 f3 f4 k x))
def ldk_lF (f3 f4 f5 : Nat → Int32) (f8 : Nat → Int64) (e : Int32) : Nat → Int32 → Int64 → Int64
  | 0, _, a => a
  | n + 1, i, a => if e ≤ i then a else ldk_lF f3 f4 f5 f8 e n (f5 i.toNatClampNeg) (sX7_sum a (ldk_cnt f3 f4 f8 i))
def ldk_oZ (I f3 f4 f5 f6 f7 : Nat → Int32) (f8 : Nat → Int64) : LdkR := ldk_oF f3 f4 f5 ((I 9).toNatClampNeg + 1) (I 9 - 1) (f6, f7, f8)
def sX7_reckon (I : Nat → Int32) (L : Nat → Int64) (f3 f4 f5 f6 f7 : Nat → Int32) (f8 : Nat → Int64) : (Nat → Int64) × (Nat → Int32) × (Nat → Int32) × (Nat → Int64) :=
  (vp_updL L 10 (ldk_lF f3 f4 f5 (ldk_oZ I f3 f4 f5 f6 f7 f8).2.2 (I 9) 161 0 0), ldk_oZ I f3 f4 f5 f6 f7 f8)
def ldk_rOK (f5 : Nat → Int32) (k : Int32) : Prop := ∀ j : Int32, 0 ≤ j.toInt → j.toInt ≤ k.toInt → vp_in j 160 ∧ ldk_cOK f5 (f5 j.toNatClampNeg) 161 (j + 1)
def ldk_oI (f3 f4 f5 : Nat → Int32) (Z : LdkR) (nn : Nat) (k : Int32) (x : LdkR) : Prop := ldk_oF f3 f4 f5 nn k x = Z ∧ k.toInt < nn ∧ -1 ≤ k.toInt ∧ ldk_rOK f5 k
def ldk_kI (f3 f4 f5 : Nat → Int32) (k : Int32) (Z : LdkR) (nn : Nat) (i : Int32) (x : LdkR) : Prop := ldk_kF f3 f4 f5 k nn i x = Z ∧ ldk_cOK f5 (f5 k.toNatClampNeg) nn i
def ldk_lI (f3 f4 f5 : Nat → Int32) (f8 : Nat → Int64) (e : Int32) (Z : Int64) (nn : Nat) (i : Int32) (a : Int64) : Prop := ldk_lF f3 f4 f5 f8 e nn i a = Z ∧ ldk_cOK f5 e nn i
section LDKR
variable {f3 f4 f5 : Nat → Int32} {f8 : Nat → Int64} {Z : LdkR} {nn : Nat} {k i e : Int32} {x : LdkR} {a z : Int64}
theorem ldk_oI_in (h : ldk_oI f3 f4 f5 Z nn k x) (c : ¬ k < 0) : vp_in k 160 ∧ ldk_cOK f5 (f5 k.toNatClampNeg) 161 (k + 1) := by
  rw [Int32.lt_iff_toInt_lt, show (0 : Int32).toInt = 0 from rfl] at c
  exact h.2.2.2 k (by omega) (by omega)
theorem ldk_oI_end (h : ldk_oI f3 f4 f5 Z nn k x) (c : k < 0) : Z = x := by
  obtain ⟨h1, h2, h3, h4⟩ := h
  rw [← h1]
  cases nn with
  | zero => rfl
  | succ n => exact if_pos c
theorem ldk_oI_step (h : ldk_oI f3 f4 f5 Z nn k x) (c : ¬ k < 0) {y : LdkR} (hy : ldk_kF f3 f4 f5 k 161 (k + 1) (ldk_k0 f3 f4 k x) = y) : ldk_oI f3 f4 f5 Z (nn - 1) (k + (-1)) y ∧ nn - 1 < nn := by
  obtain ⟨h1, h2, h3, h4⟩ := h
  have c' := c
  rw [Int32.lt_iff_toInt_lt, show (0 : Int32).toInt = 0 from rfl] at c'
  obtain ⟨r1, r2⟩ := jx_rg32 k
  have ek : (k + (-1)).toInt = k.toInt - 1 := by
    rw [Int32.toInt_add, show (-1 : Int32).toInt = -1 from rfl]; exact jx_bm32 (by omega) (by omega)
  cases nn with
  | zero => omega
  | succ n =>
    refine ⟨⟨?_, by rw [ek]; omega, by rw [ek]; omega, fun j hj1 hj2 => h4 j hj1 (by rw [ek] at hj2; omega)⟩, by omega⟩
    rw [← h1, Nat.add_sub_cancel, ← hy]
    exact (if_neg c).symm
theorem ldk_cOK_pos (h : ldk_cOK f5 e nn i) : ∃ n, nn = n + 1 := by
  cases nn with
  | zero => exact absurd h (by unfold ldk_cOK; exact id)
  | succ n => exact ⟨n, rfl⟩
theorem ldk_cOK_in (h : ldk_cOK f5 e nn i) (c : ¬ e ≤ i) : vp_in i 160 ∧ ldk_cOK f5 e (nn - 1) (f5 i.toNatClampNeg) ∧ nn - 1 < nn := by
  obtain ⟨n, rfl⟩ := ldk_cOK_pos h
  unfold ldk_cOK at h
  exact ⟨(h c).1, (h c).2, by omega⟩
theorem ldk_kI_end (h : ldk_kI f3 f4 f5 k Z nn i x) (c : f5 k.toNatClampNeg ≤ i) : Z = x := by
  obtain ⟨n, rfl⟩ := ldk_cOK_pos h.2
  rw [← h.1]; exact if_pos c
theorem ldk_kI_step (h : ldk_kI f3 f4 f5 k Z nn i x) (c : ¬ f5 k.toNatClampNeg ≤ i) : ldk_kI f3 f4 f5 k Z (nn - 1) (f5 i.toNatClampNeg) (ldk_kS f3 f4 k i x) := by
  refine ⟨?_, (ldk_cOK_in h.2 c).2.1⟩
  obtain ⟨n, rfl⟩ := ldk_cOK_pos h.2
  rw [← h.1, Nat.add_sub_cancel]; exact (if_neg c).symm
theorem ldk_lI_end (h : ldk_lI f3 f4 f5 f8 e z nn i a) (c : e ≤ i) : z = a := by
  obtain ⟨n, rfl⟩ := ldk_cOK_pos h.2
  rw [← h.1]; exact if_pos c
theorem ldk_lI_step (h : ldk_lI f3 f4 f5 f8 e z nn i a) (c : ¬ e ≤ i) : ldk_lI f3 f4 f5 f8 e z (nn - 1) (f5 i.toNatClampNeg) (sX7_sum a (ldk_cnt f3 f4 f8 i)) := by
  refine ⟨?_, (ldk_cOK_in h.2 c).2.1⟩
  obtain ⟨n, rfl⟩ := ldk_cOK_pos h.2
  rw [← h.1, Nat.add_sub_cancel]; exact (if_neg c).symm
theorem ldk_i9 {n : Int32} (h : 0 ≤ n.toInt) : (n - 1).toInt = n.toInt - 1 := by
  obtain ⟨r1, r2⟩ := jx_rg32 n
  rw [Int32.toInt_sub, show (1 : Int32).toInt = 1 from rfl]; exact jx_bm32 (by omega) (by omega)
end LDKR
