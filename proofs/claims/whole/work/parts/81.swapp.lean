def ldk_sw (f g : Nat → Int32) (n : Nat) : Nat → Int32 := fun j => if j < n then g j else f j
theorem ldk_sw0 (f g : Nat → Int32) : ldk_sw f g 0 = f := by funext j; unfold ldk_sw; rw [if_neg (by omega)]
theorem ldk_sw_step (f g : Nat → Int32) {kk : Nat} (h : kk < 2 ^ 31) : upd (ldk_sw f g kk) (nI kk).toNatClampNeg (ldk_sw g f kk (nI kk).toNatClampNeg) = ldk_sw f g (kk + 1) := by
  rw [nI_clamp h]
  funext j
  by_cases hj : j = kk
  · subst hj
    rw [pk_us]; unfold ldk_sw
    rw [if_neg (by omega), if_pos (by omega)]
  · rw [pk_un hj]; unfold ldk_sw
    by_cases h3 : j < kk
    · rw [if_pos h3, if_pos (by omega)]
    · rw [if_neg h3, if_neg (by omega)]
def ldk_most (I : Nat → Int32) : Int32 := if I 9 ≤ I 14 then I 14 else I 9
def sX7_swap (I : Nat → Int32) (L : Nat → Int64) (f3 f4 f5 f6 f7 : Nat → Int32) (f8 : Nat → Int64) (f11 f12 f13 : Nat → Int32) : (Nat → Int32) × (Nat → Int64) × (Nat → Int32) × (Nat → Int32) × (Nat → Int32) × (Nat → Int32) × (Nat → Int32) × (Nat → Int64) × (Nat → Int32) × (Nat → Int32) × (Nat → Int32) :=
  ((upd (upd I 9 (I 14)) 14 (I 9)), (sX7_reckon (upd (upd I 9 (I 14)) 14 (I 9)) L (ldk_sw f3 f11 (ldk_most I).toNatClampNeg) (ldk_sw f4 f12 (ldk_most I).toNatClampNeg) (ldk_sw f5 f13 (ldk_most I).toNatClampNeg) f6 f7 f8).1, (ldk_sw f3 f11 (ldk_most I).toNatClampNeg), (ldk_sw f4 f12 (ldk_most I).toNatClampNeg), (ldk_sw f5 f13 (ldk_most I).toNatClampNeg), (sX7_reckon (upd (upd I 9 (I 14)) 14 (I 9)) L (ldk_sw f3 f11 (ldk_most I).toNatClampNeg) (ldk_sw f4 f12 (ldk_most I).toNatClampNeg) (ldk_sw f5 f13 (ldk_most I).toNatClampNeg) f6 f7 f8).2.1, (sX7_reckon (upd (upd I 9 (I 14)) 14 (I 9)) L (ldk_sw f3 f11 (ldk_most I).toNatClampNeg) (ldk_sw f4 f12 (ldk_most I).toNatClampNeg) (ldk_sw f5 f13 (ldk_most I).toNatClampNeg) f6 f7 f8).2.2.1, (sX7_reckon (upd (upd I 9 (I 14)) 14 (I 9)) L (ldk_sw f3 f11 (ldk_most I).toNatClampNeg) (ldk_sw f4 f12 (ldk_most I).toNatClampNeg) (ldk_sw f5 f13 (ldk_most I).toNatClampNeg) f6 f7 f8).2.2.2, (ldk_sw f11 f3 (ldk_most I).toNatClampNeg), (ldk_sw f12 f4 (ldk_most I).toNatClampNeg), (ldk_sw f13 f5 (ldk_most I).toNatClampNeg))
def ldk_wI (f3 f4 f5 f11 f12 f13 : Nat → Int32) (v : Int32) (kk : Nat) (ii : Int32) (p3 p4 p5 p11 p12 p13 : Nat → Int32) : Prop := ii = nI kk ∧ kk ≤ v.toNatClampNeg ∧ p3 = ldk_sw f3 f11 kk ∧ p4 = ldk_sw f4 f12 kk ∧ p5 = ldk_sw f5 f13 kk ∧ p11 = ldk_sw f11 f3 kk ∧ p12 = ldk_sw f12 f4 kk ∧ p13 = ldk_sw f13 f5 kk
section LDKW
variable {f3 f4 f5 f11 f12 f13 p3 p4 p5 p11 p12 p13 : Nat → Int32} {v ii : Int32} {kk : Nat}
theorem ldk_wI_lt (h : ldk_wI f3 f4 f5 f11 f12 f13 v kk ii p3 p4 p5 p11 p12 p13) (c : ¬ v ≤ ii) : kk < v.toNatClampNeg := by
  obtain ⟨h1, h2, -⟩ := h
  rw [h1, jx_clk h2] at c; omega
theorem ldk_wI_in (h : ldk_wI f3 f4 f5 f11 f12 f13 v kk ii p3 p4 p5 p11 p12 p13) (c : ¬ v ≤ ii) (hv : v.toInt ≤ 160) : vp_in ii 160 := by
  have h5 := ldk_wI_lt h c
  have e : v.toNatClampNeg = v.toInt.toNat := rfl
  rw [h.1]; exact vp_in_nI (by omega) (by omega)
theorem ldk_wI_step (h : ldk_wI f3 f4 f5 f11 f12 f13 v kk ii p3 p4 p5 p11 p12 p13) (c : ¬ v ≤ ii) : ldk_wI f3 f4 f5 f11 f12 f13 v (kk + 1) (ii + 1) (upd p3 ii.toNatClampNeg (p11 ii.toNatClampNeg)) (upd p4 ii.toNatClampNeg (p12 ii.toNatClampNeg)) (upd p5 ii.toNatClampNeg (p13 ii.toNatClampNeg)) (upd p11 ii.toNatClampNeg (p3 ii.toNatClampNeg)) (upd p12 ii.toNatClampNeg (p4 ii.toNatClampNeg)) (upd p13 ii.toNatClampNeg (p5 ii.toNatClampNeg)) ∧ v.toNatClampNeg - (kk + 1) < v.toNatClampNeg - kk := by
  have h5 := ldk_wI_lt h c
  obtain ⟨r1, r2⟩ := jx_rg32 v
  have e : v.toNatClampNeg = v.toInt.toNat := rfl
  obtain ⟨h1, h2, rfl, rfl, rfl, rfl, rfl, rfl⟩ := h
  subst h1
  have hk : kk < 2 ^ 31 := by omega
  exact ⟨⟨nI_1 kk, by omega, ldk_sw_step _ _ hk, ldk_sw_step _ _ hk, ldk_sw_step _ _ hk, ldk_sw_step _ _ hk, ldk_sw_step _ _ hk, ldk_sw_step _ _ hk⟩, by omega⟩
theorem ldk_wI_end (h : ldk_wI f3 f4 f5 f11 f12 f13 v kk ii p3 p4 p5 p11 p12 p13) (c : v ≤ ii) : p3 = ldk_sw f3 f11 v.toNatClampNeg ∧ p4 = ldk_sw f4 f12 v.toNatClampNeg ∧ p5 = ldk_sw f5 f13 v.toNatClampNeg ∧ p11 = ldk_sw f11 f3 v.toNatClampNeg ∧ p12 = ldk_sw f12 f4 v.toNatClampNeg ∧ p13 = ldk_sw f13 f5 v.toNatClampNeg := by
  obtain ⟨h1, h2, h3⟩ := h
  rw [h1, jx_clk h2] at c
  rw [← c]; exact h3
theorem ldk_most_le {I : Nat → Int32} (h1 : (I 9).toInt ≤ 160) (h2 : (I 14).toInt ≤ 160) : (ldk_most I).toInt ≤ 160 := by
  unfold ldk_most; split
  · exact h2
  · exact h1
end LDKW
