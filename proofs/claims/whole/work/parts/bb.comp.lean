/-! ===== compile: the pattern, in both ===== -/
def ldk_CS (A : LdkA) (Q : LdkQ) (n : Nat) (X : Nat → List Nat) (E : Nat → Nat) (xs : List Nat) : Prop := n ≤ 80 ∧ (∀ i, i < n → E i ≤ n ∧ ldk_wfk A Q X E i) ∧ ldk_ch Q.2.2 0 xs n
def ldk_PP (A : LdkA) (Q : LdkQ) (x : LdkR) (n : Nat) (len : Int64) : Prop := ∃ (X : Nat → List Nat) (E : Nat → Nat) (xs : List Nat), ldk_CS A Q n X E xs ∧ (∀ i, i < n → ldk_R Q.1 Q.2.1 X x i) ∧ len = ldk_fs (fun j => ldk_cnt Q.1 Q.2.1 x.2.2 (nI j)) 0 xs ∧ len.toInt ≤ 2000000000
section LDKC
variable {A : LdkA} {Q : LdkQ} {x : LdkR} {n : Nat} {len : Int64} {X : Nat → List Nat} {E : Nat → Nat} {xs : List Nat}
theorem ldk_CS_len (h : ldk_CS A Q n X E xs) (hR : ∀ i, i < n → ldk_R Q.1 Q.2.1 X x i) (hl : len = ldk_fs (fun j => ldk_cnt Q.1 Q.2.1 x.2.2 (nI j)) 0 xs) :
    ldk_fc (ldk_tc A.1 A.2.1 A.2.2.2.1) 0 xs = ldk_mn len.toInt ∧ 0 ≤ len.toInt ∧ (len.toInt ≤ 2000000000 → ldk_pat A.1 A.2.1 A.2.2.1 A.2.2.2.1 A.2.2.2.2.1 A.2.2.2.2.2 Q.1 Q.2.1 Q.2.2 x.1 x.2.1 x.2.2 n len) :=
  ldk_good h.1 (fun i hi => (h.2.1 i hi).1) (fun i hi => (h.2.1 i hi).2.1) (fun i hi => (h.2.1 i hi).2.2) hR h.2.2 hl
theorem ldk_PP_pT (h : ldk_PP A Q x n len) : ldk_pT A.1 A.2.1 A.2.2.1 A.2.2.2.1 A.2.2.2.2.1 A.2.2.2.2.2 Q.1 Q.2.1 Q.2.2 x.1 x.2.1 x.2.2 (nI n) len ∧ 0 ≤ len.toInt ∧ len.toInt ≤ 2000000000 ∧ n ≤ 80 := by
  obtain ⟨X, E, xs, h1, h2, h3, h4⟩ := h
  obtain ⟨-, g2, g3⟩ := ldk_CS_len h1 h2 h3
  exact ⟨ldk_pat_pT (g3 h4) h4, g2, h4, h1.1⟩
theorem ldk_CS_ext {Q' : LdkQ} (h : ldk_CS A Q n X E xs) (e : ∀ i, i < n → Q'.1 i = Q.1 i ∧ Q'.2.1 i = Q.2.1 i ∧ Q'.2.2 i = Q.2.2 i) : ldk_CS A Q' n X E xs := by
  obtain ⟨h1, h2, h3⟩ := h
  have ag : ∀ i, i < n → ldk_ag A A Q Q' i := fun i hi => ⟨rfl, rfl, rfl, rfl, rfl, rfl, (e i hi).1, (e i hi).2.1, (e i hi).2.2⟩
  refine ⟨h1, fun i hi => ?_, ldk_ch_ext _ _ _ h3 (fun j hj => (e j (ldk_ch_mem _ _ _ h3 j hj).2).2.2)⟩
  obtain ⟨a, b⟩ := h2 i hi
  exact ⟨a, ldk_wfk_ext b (ag i hi) (fun j hj => ag j (by have := (ldk_ch_mem _ _ _ b.1.2.2.1 j hj).2; omega)) rfl rfl⟩
theorem ldk_sw_lt {f g : Nat → Int32} {n k : Nat} (h : k < n) : ldk_sw f g n k = g k := if_pos h
theorem ldk_sw_sw (f g : Nat → Int32) (n : Nat) : ldk_sw (ldk_sw f g n) (ldk_sw g f n) n = f := by
  funext j; unfold ldk_sw
  by_cases h : j < n
  · rw [if_pos h, if_pos h]
  · rw [if_neg h, if_neg h]
theorem ldk_most_ge {I : Nat → Int32} {n n0 : Nat} (h14 : I 14 = nI n) (h9 : I 9 = nI n0) (hn : n ≤ 80) (hn0 : n0 ≤ 80) : n ≤ (ldk_most I).toNatClampNeg ∧ n0 ≤ (ldk_most I).toNatClampNeg := by
  unfold ldk_most
  rw [h14, h9]
  by_cases c : nI n0 ≤ nI n
  · rw [if_pos c, nI_clamp (by omega)]
    rw [Int32.le_iff_toInt_le, nI_toInt (by omega), nI_toInt (by omega)] at c
    omega
  · rw [if_neg c, nI_clamp (by omega)]
    rw [Int32.le_iff_toInt_le, nI_toInt (by omega), nI_toInt (by omega)] at c
    omega
theorem ldk_swap_eq (I : Nat → Int32) (L : Nat → Int64) (f3 f4 f5 f6 f7 : Nat → Int32) (f8 : Nat → Int64) (f11 f12 f13 a b c : Nat → Int32) (M : Nat) (Z : LdkR) (hM : M = (ldk_most I).toNatClampNeg) (ha : a = ldk_sw f3 f11 M) (hb : b = ldk_sw f4 f12 M) (hc : c = ldk_sw f5 f13 M) (hZ : Z = ldk_oZ (upd (upd I 9 (I 14)) 14 (I 9)) a b c f6 f7 f8) :
    sX7_swap I L f3 f4 f5 f6 f7 f8 f11 f12 f13 = (upd (upd I 9 (I 14)) 14 (I 9), vp_updL L 10 (ldk_lF a b c Z.2.2 (upd (upd I 9 (I 14)) 14 (I 9) 9) 161 0 0), a, b, c, Z.1, Z.2.1, Z.2.2, ldk_sw f11 f3 M, ldk_sw f12 f4 M, ldk_sw f13 f5 M) := by
  subst hM
  unfold sX7_swap sX7_reckon
  rw [← ha, ← hb, ← hc, ← hZ]
theorem ldk_swp {I : Nat → Int32} {L : Nat → Int64} {f3 f4 f5 f6 f7 : Nat → Int32} {f8 : Nat → Int64} {f11 f12 f13 : Nat → Int32} {n0 : Nat} (h : ldk_CS A (f11, f12, f13) n X E xs) (h14 : I 14 = nI n) (h9 : I 9 = nI n0) (hn0 : n0 ≤ 80) :
    ldk_swOK I f5 f13 ∧ ∃ (x : LdkR) (len : Int64), sX7_swap I L f3 f4 f5 f6 f7 f8 f11 f12 f13 = (upd (upd I 9 (nI n)) 14 (nI n0), vp_updL L 10 len, ldk_sw f3 f11 (ldk_most I).toNatClampNeg, ldk_sw f4 f12 (ldk_most I).toNatClampNeg, ldk_sw f5 f13 (ldk_most I).toNatClampNeg, x.1, x.2.1, x.2.2, ldk_sw f11 f3 (ldk_most I).toNatClampNeg, ldk_sw f12 f4 (ldk_most I).toNatClampNeg, ldk_sw f13 f5 (ldk_most I).toNatClampNeg) ∧
      ldk_CS A (ldk_sw f3 f11 (ldk_most I).toNatClampNeg, ldk_sw f4 f12 (ldk_most I).toNatClampNeg, ldk_sw f5 f13 (ldk_most I).toNatClampNeg) n X E xs ∧ (∀ i, i < n → ldk_R (ldk_sw f3 f11 (ldk_most I).toNatClampNeg) (ldk_sw f4 f12 (ldk_most I).toNatClampNeg) X x i) ∧ len = ldk_fs (fun j => ldk_cnt (ldk_sw f3 f11 (ldk_most I).toNatClampNeg) (ldk_sw f4 f12 (ldk_most I).toNatClampNeg) x.2.2 (nI j)) 0 xs := by
  have hM := (ldk_most_ge h14 h9 h.1 hn0).1
  have hn := h.1
  have hC : ldk_CS A (ldk_sw f3 f11 (ldk_most I).toNatClampNeg, ldk_sw f4 f12 (ldk_most I).toNatClampNeg, ldk_sw f5 f13 (ldk_most I).toNatClampNeg) n X E xs := ldk_CS_ext h (fun i hi => ⟨ldk_sw_lt (by omega), ldk_sw_lt (by omega), ldk_sw_lt (by omega)⟩)
  unfold ldk_swOK
  generalize eM : (ldk_most I).toNatClampNeg = M at hM hC ⊢
  generalize ea : ldk_sw f3 f11 M = a at hC ⊢
  generalize eb : ldk_sw f4 f12 M = b at hC ⊢
  generalize ec : ldk_sw f5 f13 M = c at hC ⊢
  have hX : ∀ i, i < n → E i ≤ n ∧ c i = nI (E i) ∧ ldk_ch c (i + 1) (X i) (E i) := fun i hi => ⟨(hC.2.1 i hi).1, (hC.2.1 i hi).2.1.2.1, (hC.2.1 i hi).2.1.2.2.1⟩
  have hch : ldk_ch c 0 xs n := hC.2.2
  have hlen := (ldk_ch_le _ _ _ hch).2
  have e9 : upd (upd I 9 (I 14)) 14 (I 9) 9 = nI n := by rw [pk_un (by decide), pk_us]; exact h14
  generalize eZ : ldk_oZ (upd (upd I 9 (I 14)) 14 (I 9)) a b c f6 f7 f8 = Z
  have hR : ∀ i, i < n → ldk_R a b X Z i := by
    have := ldk_oF_R (f3 := a) (f4 := b) (f5 := c) hn hX n (n + 1) (f6, f7, f8) (Nat.le_refl _) (by omega) (fun i h1 h2 => by omega)
    intro i hi
    have t := this i hi
    have e : ldk_oF a b c (n + 1) (nI n - 1) (f6, f7, f8) = Z := by
      rw [← eZ]; unfold ldk_oZ; rw [e9, nI_clamp (by omega)]
    rw [e] at t; exact t
  refine ⟨⟨?_, ?_, ?_, ?_, ?_⟩, Z, ldk_lF a b c Z.2.2 (nI n) 161 0 0, ?_, hC, hR, ?_⟩
  · rw [h9, nI_toInt (by omega)]; omega
  · rw [h14, nI_toInt (by omega)]; omega
  · rw [h14, nI_toInt (by omega)]; omega
  · intro j j0 j1
    rw [h14, ldk_is (by rw [nI_toInt (by omega), ldk_t1']; omega) (by rw [nI_toInt (by omega), ldk_t1']; omega), nI_toInt (by omega), ldk_t1'] at j1
    obtain ⟨k, hk⟩ : ∃ k : Nat, j.toInt = k := ⟨j.toInt.toNat, by omega⟩
    have ej : j = nI k := (ldk_nI (by omega)).mpr hk
    have hkn : k < n := by omega
    subst ej
    refine ⟨vp_in_nI (by omega) (by omega), ?_⟩
    obtain ⟨x1, x2, x3⟩ := hX k hkn
    rw [nI_clamp (by omega), x2, ← nI_succ]
    exact ldk_cOK_ch (by omega) (X k) 161 (k + 1) x3 (by have := (ldk_ch_le _ _ _ x3).2; omega)
  · rw [h14]
    exact ldk_cOK_ch (by omega) xs 161 0 hch (by omega)
  · rw [ldk_swap_eq I L f3 f4 f5 f6 f7 f8 f11 f12 f13 a b c M Z eM.symm ea.symm eb.symm ec.symm eZ.symm, e9, h14, h9]
  · exact ldk_lF_ch hn xs 161 0 0 hch (by omega)
end LDKC
