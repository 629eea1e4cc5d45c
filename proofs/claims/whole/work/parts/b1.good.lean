/-! ===== the class's sums and the reference's ===== -/
def ldk_fc (t : Nat → Int) : Int → List Nat → Int
  | s, [] => s
  | s, x :: xs => ldk_fc t (if s + t x ≤ 2000000001 then s + t x else 2000000001) xs
def ldk_tc (a0 a1 : Nat → Int32) (a3 : Nat → Int64) (j : Nat) : Int := if a0 j = 0 then 1 else if a0 j = 3 ∨ a0 j = 4 then (a3 j).toInt * (a1 j).toInt else 0
def ldk_g1 (a0 a1 a4 : Nat → Int32) (j : Nat) : Int32 := if a0 j = 1 then a1 j else if a0 j = 3 ∨ a0 j = 4 then a4 j else -1
def ldk_g2 (a0 a1 a5 : Nat → Int32) (j : Nat) : Int32 := if a0 j = 2 then a1 j else if a0 j = 3 ∨ a0 j = 4 then a5 j else -1
def ldk_wfi (f3 f4 f5 : Nat → Int32) (X : Nat → List Nat) (E : Nat → Nat) (i : Nat) : Prop := i < E i ∧ f5 i = nI (E i) ∧ ldk_ch f5 (i + 1) (X i) (E i) ∧ ((f3 i = 0 ∧ X i = []) ∨ (f3 i = 1 ∧ X i = [] ∧ ¬ f4 i = -1) ∨ (f3 i = 2 ∧ X i = [] ∧ 20 ≤ (f4 i).toInt ∧ (f4 i).toInt ≤ 400) ∨ ((f3 i = 3 ∨ (f3 i = 4 ∧ f4 i = 2)) ∧ 1 ≤ (f4 i).toInt ∧ (f4 i).toInt ≤ 9999))
def ldk_kli (a0 a1 a2 : Nat → Int32) (a3 : Nat → Int64) (a4 a5 f3 f4 f5 : Nat → Int32) (X : Nat → List Nat) (i : Nat) : Prop := a0 i = f3 i ∧ a1 i = f4 i ∧ ((f3 i = 3 ∨ f3 i = 4) → a2 i = f5 i ∧ (a3 i).toInt = ldk_fc (ldk_tc a0 a1 a3) 0 (X i) ∧ a4 i = ldk_lst (ldk_g1 a0 a1 a4) (-1) (X i) ∧ a5 i = ldk_lst (ldk_g2 a0 a1 a5) (-1) (X i) ∧ 1 ≤ (a3 i).toInt)
theorem ldk_sumI {a b : Int64} (a0 : 0 ≤ a.toInt) (a1 : a.toInt ≤ 1099511627776) (b0 : 0 ≤ b.toInt) (b1 : b.toInt ≤ 1099511627776) : (sX7_sum a b).toInt = if a.toInt + b.toInt ≤ 1099511627776 then a.toInt + b.toInt else 1099511627776 := by
  have e : (a + b).toInt = a.toInt + b.toInt := ldk_la (by omega) (by omega)
  have eF : (1099511627776 : Int64).toInt = 1099511627776 := by decide
  unfold sX7_sum
  by_cases h : a + b ≤ 1099511627776
  · rw [if_pos h]
    rw [Int64.le_iff_toInt_le, e, eF] at h
    rw [if_pos h, e]
  · rw [if_neg h]
    rw [Int64.le_iff_toInt_le, e, eF] at h
    rw [if_neg h, eF]
def ldk_mn (x : Int) : Int := if x ≤ 2000000001 then x else 2000000001
theorem ldk_fold {t : Nat → Int64} {tc : Nat → Int} : ∀ (xs : List Nat) (s : Int64) (sc : Int), (∀ j, j ∈ xs → 0 ≤ (t j).toInt ∧ (t j).toInt ≤ 1099511627776 ∧ 0 ≤ tc j ∧ ldk_mn (t j).toInt = ldk_mn (tc j)) → 0 ≤ s.toInt → s.toInt ≤ 1099511627776 → sc = ldk_mn s.toInt → 0 ≤ (ldk_fs t s xs).toInt ∧ (ldk_fs t s xs).toInt ≤ 1099511627776 ∧ ldk_fc tc sc xs = ldk_mn (ldk_fs t s xs).toInt := by
  intro xs
  induction xs with
  | nil => intro s sc _ h0 h1 h2; exact ⟨h0, h1, h2⟩
  | cons x xs ih =>
    intro s sc q h0 h1 h2
    obtain ⟨t0, t1, t2, t3⟩ := q x (List.mem_cons_self)
    have e := ldk_sumI h0 h1 t0 t1
    refine ih (sX7_sum s (t x)) _ (fun j hj => q j (List.mem_cons_of_mem _ hj)) ?_ ?_ ?_
    · rw [e]; split <;> omega
    · rw [e]; split <;> omega
    · rw [e, h2]
      unfold ldk_mn at t3 ⊢
      generalize (t x).toInt = T at *
      generalize s.toInt = S at *
      generalize tc x = C at *
      by_cases c1 : T ≤ 2000000001
      · rw [if_pos c1] at t3
        by_cases c2 : C ≤ 2000000001
        · rw [if_pos c2] at t3; subst t3
          by_cases c3 : S ≤ 2000000001
          · rw [if_pos c3, if_pos (show S + T ≤ 1099511627776 by omega)]
          · rw [if_neg c3]
            by_cases c4 : S + T ≤ 1099511627776
            · rw [if_pos c4, if_neg (show ¬ S + T ≤ 2000000001 by omega)]; split <;> omega
            · rw [if_neg c4, if_neg (show ¬ (1099511627776 : Int) ≤ 2000000001 by decide)]; split <;> omega
        · rw [if_neg c2] at t3
          subst t3
          by_cases c3 : S ≤ 2000000001
          · rw [if_pos c3, if_pos (show S + 2000000001 ≤ 1099511627776 by omega)]; split <;> (split <;> omega)
          · rw [if_neg c3, if_neg (show ¬ 2000000001 + C ≤ 2000000001 by omega)]
            by_cases c4 : S + 2000000001 ≤ 1099511627776
            · rw [if_pos c4, if_neg (by omega)]
            · rw [if_neg c4, if_neg (by decide)]
      · rw [if_neg c1] at t3
        have c2 : 2000000001 ≤ C := by split at t3 <;> omega
        have r : (if (if S + T ≤ 1099511627776 then S + T else 1099511627776) ≤ 2000000001 then (if S + T ≤ 1099511627776 then S + T else 1099511627776) else 2000000001) = (2000000001 : Int) := by
          by_cases c4 : S + T ≤ 1099511627776
          · rw [if_pos c4, if_neg (by omega)]
          · rw [if_neg c4, if_neg (by decide)]
        rw [r]
        by_cases c3 : S ≤ 2000000001
        · rw [if_pos c3]; split <;> omega
        · rw [if_neg c3]; split <;> omega
theorem ldk_mnmul {v x : Int} (hv : 1 ≤ v) (hx : 0 ≤ x) : ldk_mn (if v * x ≤ 1099511627776 then v * x else 1099511627776) = ldk_mn (ldk_mn x * v) ∧ 0 ≤ ldk_mn x * v ∧ 0 ≤ v * x := by
  have hvx : x ≤ v * x := by
    have := Int.mul_le_mul_of_nonneg_right hv hx
    omega
  have hvM : 2000000001 ≤ 2000000001 * v := by omega
  unfold ldk_mn
  by_cases c : x ≤ 2000000001
  · rw [if_pos c, Int.mul_comm x v]
    refine ⟨?_, by omega, by omega⟩
    generalize v * x = y at *
    by_cases c2 : y ≤ 1099511627776
    · rw [if_pos c2]
    · rw [if_neg c2, if_neg (by decide), if_neg (by omega)]
  · rw [if_neg c]
    refine ⟨?_, by omega, by omega⟩
    generalize v * x = y at *
    by_cases c2 : y ≤ 1099511627776
    · rw [if_pos c2, if_neg (by omega)]; split <;> omega
    · rw [if_neg c2, if_neg (by decide)]; split <;> omega
theorem ldk_lst_rng {g : Nat → Int32} : ∀ (xs : List Nat) (s : Int32), (∀ j, j ∈ xs → g j = -1 ∨ (20 ≤ (g j).toInt ∧ (g j).toInt ≤ 400)) → (s = -1 ∨ (20 ≤ s.toInt ∧ s.toInt ≤ 400)) → ldk_lst g s xs = -1 ∨ (20 ≤ (ldk_lst g s xs).toInt ∧ (ldk_lst g s xs).toInt ≤ 400) := by
  intro xs
  induction xs with
  | nil => intro s _ h; exact h
  | cons x xs ih =>
    intro s q h
    refine ih _ (fun j hj => q j (List.mem_cons_of_mem _ hj)) ?_
    by_cases c : g x = (-1 : Int32)
    · rw [if_pos c]; exact h
    · rw [if_neg c]; exact q x (List.mem_cons_self)
theorem ldk_cnt0 {f3 f4 : Nat → Int32} {f8 : Nat → Int64} {i : Nat} (hi : i < 2 ^ 31) (h : f3 i = 0) : ldk_cnt f3 f4 f8 (nI i) = 1 := by
  unfold ldk_cnt sX7_isBracket
  rw [nI_clamp hi, h, if_pos (show (if (0 : Int32) < 3 then (0 : Int32) else 1) = 0 by decide), if_pos rfl]
theorem ldk_cnt1 {f3 f4 : Nat → Int32} {f8 : Nat → Int64} {i : Nat} (hi : i < 2 ^ 31) (h : f3 i = 1) : ldk_cnt f3 f4 f8 (nI i) = 0 := by
  unfold ldk_cnt sX7_isBracket
  rw [nI_clamp hi, h, if_pos (show (if (1 : Int32) < 3 then (0 : Int32) else 1) = 0 by decide), if_neg (show ¬ (1 : Int32) = 0 by decide)]
theorem ldk_cnt2 {f3 f4 : Nat → Int32} {f8 : Nat → Int64} {i : Nat} (hi : i < 2 ^ 31) (h : f3 i = 2) : ldk_cnt f3 f4 f8 (nI i) = 0 := by
  unfold ldk_cnt sX7_isBracket
  rw [nI_clamp hi, h, if_pos (show (if (2 : Int32) < 3 then (0 : Int32) else 1) = 0 by decide), if_neg (show ¬ (2 : Int32) = 0 by decide)]
section LDKK
variable {a0 a1 a2 : Nat → Int32} {a3 : Nat → Int64} {a4 a5 f3 f4 f5 : Nat → Int32} {X : Nat → List Nat} {E : Nat → Nat} {n : Nat} {x : LdkR}
/-- item by item, from the last: what the class keeps is what the reference reckons -/
theorem ldk_cls (hn : n ≤ 80) (hE : ∀ i, i < n → E i ≤ n) (hw : ∀ i, i < n → ldk_wfi f3 f4 f5 X E i) (hk : ∀ i, i < n → ldk_kli a0 a1 a2 a3 a4 a5 f3 f4 f5 X i) (hR : ∀ i, i < n → ldk_R f3 f4 X x i) : ∀ (d i : Nat), i < n → n - i ≤ d →
    ldk_g1 a0 a1 a4 i = x.1 i ∧ ldk_g2 a0 a1 a5 i = x.2.1 i ∧ (x.2.1 i = -1 ∨ (20 ≤ (x.2.1 i).toInt ∧ (x.2.1 i).toInt ≤ 400)) ∧ 0 ≤ (ldk_cnt f3 f4 x.2.2 (nI i)).toInt ∧ (ldk_cnt f3 f4 x.2.2 (nI i)).toInt ≤ 1099511627776 ∧ 0 ≤ ldk_tc a0 a1 a3 i ∧ ldk_mn (ldk_cnt f3 f4 x.2.2 (nI i)).toInt = ldk_mn (ldk_tc a0 a1 a3 i) ∧ ((f3 i = 3 ∨ f3 i = 4) → 0 ≤ (x.2.2 i).toInt ∧ (x.2.2 i).toInt ≤ 1099511627776 ∧ (a3 i).toInt = ldk_mn (x.2.2 i).toInt ∧ a4 i = x.1 i ∧ a5 i = x.2.1 i ∧ (ldk_cnt f3 f4 x.2.2 (nI i)).toInt = (if (f4 i).toInt * (x.2.2 i).toInt ≤ 1099511627776 then (f4 i).toInt * (x.2.2 i).toInt else 1099511627776)) := by
  intro d
  induction d with
  | zero => intro i h1 h2; omega
  | succ d ih =>
    intro i hi hd
    obtain ⟨w1, w2, w3, w4⟩ := hw i hi
    obtain ⟨k1, k2, k3⟩ := hk i hi
    obtain ⟨r1, r2, r3⟩ := hR i hi
    have hEi := hE i hi
    have ck : (nI i).toNatClampNeg = i := nI_clamp (by omega)
    have hmem : ∀ j, j ∈ X i → j < n ∧ n - j ≤ d := fun j hj => by
      have := ldk_ch_mem _ _ _ w3 j hj
      omega
    unfold ldk_g1 ldk_g2
    rw [k1, k2]
    rcases w4 with ⟨z1, z2⟩ | ⟨z1, z2, z3⟩ | ⟨z1, z2, z3⟩ | ⟨z1, z2, z3⟩
    · rw [z2, z1] at r1 r2
      rw [z1]
      have r1 : x.1 i = -1 := r1
      have r2 : x.2.1 i = -1 := r2
      have ht : ldk_tc a0 a1 a3 i = 1 := by unfold ldk_tc; rw [k1, z1]; exact if_pos rfl
      rw [r1, r2, ldk_cnt0 (by omega) z1, ht]
      exact ⟨rfl, rfl, Or.inl rfl, by decide, by decide, by decide, by decide, fun q => absurd q (by decide)⟩
    · rw [z2, z1] at r1 r2
      rw [z1]
      have r1 : x.1 i = f4 i := r1
      have r2 : x.2.1 i = -1 := r2
      have ht : ldk_tc a0 a1 a3 i = 0 := by unfold ldk_tc; rw [k1, z1]; exact (if_neg (by decide)).trans (if_neg (by decide))
      rw [r1, r2, ldk_cnt1 (by omega) z1, ht]
      exact ⟨rfl, rfl, Or.inl rfl, by decide, by decide, by decide, by decide, fun q => absurd q (by decide)⟩
    · rw [z2, z1] at r1 r2
      rw [z1]
      have r1 : x.1 i = -1 := r1
      have r2 : x.2.1 i = f4 i := r2
      have ht : ldk_tc a0 a1 a3 i = 0 := by unfold ldk_tc; rw [k1, z1]; exact (if_neg (by decide)).trans (if_neg (by decide))
      rw [r1, r2, ldk_cnt2 (by omega) z1, ht]
      exact ⟨rfl, rfl, Or.inr z3, by decide, by decide, by decide, by decide, fun q => absurd q (by decide)⟩
    · have hk34 : f3 i = 3 ∨ f3 i = 4 := by rcases z1 with q | q; exact Or.inl q; exact Or.inr q.1
      have hne : ¬ f3 i = 0 ∧ ¬ f3 i = 1 ∧ ¬ f3 i = 2 ∧ ¬ f3 i < 3 := by
        rcases hk34 with q | q <;> rw [q] <;> decide
      obtain ⟨m1, m2, m3, m4, m5⟩ := k3 hk34
      rw [if_neg hne.2.1] at r1
      rw [if_neg hne.2.2.1] at r2
      have eg1 : a4 i = x.1 i := by rw [m3, r1]; exact ldk_lst_ext _ _ (fun j hj => (ih j (hmem j hj).1 (hmem j hj).2).1)
      have eg2 : a5 i = x.2.1 i := by rw [m4, r2]; exact ldk_lst_ext _ _ (fun j hj => (ih j (hmem j hj).1 (hmem j hj).2).2.1)
      have erng : x.2.1 i = -1 ∨ (20 ≤ (x.2.1 i).toInt ∧ (x.2.1 i).toInt ≤ 400) := by
        rw [r2]; exact ldk_lst_rng _ _ (fun j hj => (ih j (hmem j hj).1 (hmem j hj).2).2.2.1) (Or.inl rfl)
      obtain ⟨s0, s1, s2⟩ := ldk_fold (t := fun j => ldk_cnt f3 f4 x.2.2 (nI j)) (tc := ldk_tc a0 a1 a3) (X i) 0 0 (fun j hj => by
        have := ih j (hmem j hj).1 (hmem j hj).2
        exact ⟨this.2.2.2.1, this.2.2.2.2.1, this.2.2.2.2.2.1, this.2.2.2.2.2.2.1⟩) (by decide) (by decide) (by decide)
      rw [← r3] at s0 s1 s2
      rw [← m2] at s2
      obtain ⟨u1, u2, u3⟩ := ldk_mnmul z2 s0
      have etm : (sX7_times f3 f4 x.2.2 (nI i)).toInt = if (f4 i).toInt * (x.2.2 i).toInt ≤ 1099511627776 then (f4 i).toInt * (x.2.2 i).toInt else 1099511627776 := by
        unfold sX7_times
        rw [ck]
        have hv : ((if f3 i = (3 : Int32) then (f4 i).toInt64 else (2 : Int64))).toInt = (f4 i).toInt := by
          rcases z1 with q | ⟨q, q2⟩
          · rw [if_pos q]; exact Int32.toInt_toInt64 _
          · rw [if_neg (by rw [q]; decide), q2]; rfl
        have hb : (f4 i).toInt * (x.2.2 i).toInt ≤ 9999 * 1099511627776 := Int.mul_le_mul z3 s1 s0 (by decide)
        have hm : ((if f3 i = (3 : Int32) then (f4 i).toInt64 else (2 : Int64)) * x.2.2 i).toInt = (f4 i).toInt * (x.2.2 i).toInt := by
          rw [ldk_lm (by rw [hv]; omega) (by rw [hv]; omega), hv]
        generalize (if f3 i = (3 : Int32) then (f4 i).toInt64 else (2 : Int64)) * x.2.2 i = W at *
        have eF : (1099511627776 : Int64).toInt = 1099511627776 := by decide
        by_cases c : W ≤ 1099511627776
        · rw [if_pos c]; rw [Int64.le_iff_toInt_le, hm, eF] at c; rw [if_pos c, hm]
        · rw [if_neg c]; rw [Int64.le_iff_toInt_le, hm, eF] at c; rw [if_neg c, eF]
      have ecn : ldk_cnt f3 f4 x.2.2 (nI i) = sX7_times f3 f4 x.2.2 (nI i) := by
        unfold ldk_cnt sX7_isBracket
        rw [ck, if_neg hne.2.2.2, if_neg (show ¬ (1 : Int32) = 0 by decide)]
      have etc : ldk_tc a0 a1 a3 i = (a3 i).toInt * (f4 i).toInt := by
        unfold ldk_tc; rw [k1, k2, if_neg hne.1, if_pos hk34]
      rw [if_neg hne.2.1, if_pos hk34, if_neg hne.2.2.1, if_pos hk34, ecn, etc, eg1, eg2, etm]
      refine ⟨rfl, rfl, erng, ?_, ?_, ?_, ?_, fun _ => ⟨s0, s1, s2, rfl, rfl, rfl⟩⟩
      · split <;> omega
      · split <;> omega
      · rw [s2]; exact u2
      · rw [u1, s2]
/-- no sum is cut where all is within the bounds -/
theorem ldk_fs_le {t : Nat → Int64} : ∀ (xs : List Nat) (s : Int64), (∀ j, j ∈ xs → 0 ≤ (t j).toInt ∧ (t j).toInt ≤ 1099511627776) → 0 ≤ s.toInt → s.toInt ≤ 1099511627776 → (ldk_fs t s xs).toInt ≤ 2000000000 → s.toInt ≤ (ldk_fs t s xs).toInt ∧ ∀ j, j ∈ xs → (t j).toInt ≤ 2000000000 := by
  intro xs
  induction xs with
  | nil => intro s _ _ _ h; exact ⟨Int.le_refl _, fun j hj => absurd hj List.not_mem_nil⟩
  | cons x xs ih =>
    intro s q h0 h1 h2
    obtain ⟨t0, t1⟩ := q x (List.mem_cons_self)
    have e := ldk_sumI h0 h1 t0 t1
    have h2' : (ldk_fs t (sX7_sum s (t x)) xs).toInt ≤ 2000000000 := h2
    obtain ⟨i1, i2⟩ := ih (sX7_sum s (t x)) (fun j hj => q j (List.mem_cons_of_mem _ hj)) (by rw [e]; split <;> omega) (by rw [e]; split <;> omega) h2'
    have i1' : (sX7_sum s (t x)).toInt ≤ 2000000000 := by omega
    have e2 : s.toInt + (t x).toInt ≤ (ldk_fs t (sX7_sum s (t x)) xs).toInt := by
      rw [e] at i1 i1'
      split at i1' <;> omega
    refine ⟨by show s.toInt ≤ (ldk_fs t (sX7_sum s (t x)) xs).toInt; omega, fun j hj => ?_⟩
    rcases List.mem_cons.mp hj with z | z
    · subst z; omega
    · exact i2 j z
theorem ldk_fs_sT {f3 f4 : Nat → Int32} {f8 : Nat → Int64} : ∀ (xs : List Nat) (s : Int64), (∀ j, j ∈ xs → 0 ≤ (ldk_cnt f3 f4 f8 (nI j)).toInt ∧ (ldk_cnt f3 f4 f8 (nI j)).toInt ≤ 1099511627776 ∧ ((ldk_cnt f3 f4 f8 (nI j)).toInt ≤ 2000000000 → (ldk_cnt f3 f4 f8 (nI j)).toInt = ldk_T f3 f4 f8 j)) → 0 ≤ s.toInt → s.toInt ≤ 1099511627776 → (ldk_fs (fun j => ldk_cnt f3 f4 f8 (nI j)) s xs).toInt ≤ 2000000000 → (ldk_fs (fun j => ldk_cnt f3 f4 f8 (nI j)) s xs).toInt = s.toInt + ldk_sT f3 f4 f8 xs := by
  intro xs
  induction xs with
  | nil => intro s _ _ _ h; show s.toInt = s.toInt + 0; omega
  | cons x xs ih =>
    intro s q h0 h1 h2
    obtain ⟨t0, t1, t2⟩ := q x (List.mem_cons_self)
    have e := ldk_sumI h0 h1 t0 t1
    obtain ⟨v1, v2⟩ := ldk_fs_le (t := fun j => ldk_cnt f3 f4 f8 (nI j)) (x :: xs) s (fun j hj => ⟨(q j hj).1, (q j hj).2.1⟩) h0 h1 h2
    have v3 := t2 (v2 x (List.mem_cons_self))
    have v4 := v2 x (List.mem_cons_self)
    have h2' : (ldk_fs (fun j => ldk_cnt f3 f4 f8 (nI j)) (sX7_sum s (ldk_cnt f3 f4 f8 (nI x))) xs).toInt ≤ 2000000000 := h2
    have i := ih (sX7_sum s (ldk_cnt f3 f4 f8 (nI x))) (fun j hj => q j (List.mem_cons_of_mem _ hj)) (by rw [e]; split <;> omega) (by rw [e]; split <;> omega) h2'
    show (ldk_fs (fun j => ldk_cnt f3 f4 f8 (nI j)) (sX7_sum s (ldk_cnt f3 f4 f8 (nI x))) xs).toInt = s.toInt + (ldk_T f3 f4 f8 x + ldk_sT f3 f4 f8 xs)
    rw [i, e, if_pos (by omega), v3]; omega
/-- the pattern is good: all of it is the same in both -/
theorem ldk_good {xs : List Nat} (hn : n ≤ 80) (hE : ∀ i, i < n → E i ≤ n) (hw : ∀ i, i < n → ldk_wfi f3 f4 f5 X E i) (hk : ∀ i, i < n → ldk_kli a0 a1 a2 a3 a4 a5 f3 f4 f5 X i) (hR : ∀ i, i < n → ldk_R f3 f4 X x i) (hc : ldk_ch f5 0 xs n) {len : Int64} (hl : len = ldk_fs (fun j => ldk_cnt f3 f4 x.2.2 (nI j)) 0 xs) :
    ldk_fc (ldk_tc a0 a1 a3) 0 xs = ldk_mn len.toInt ∧ 0 ≤ len.toInt ∧ (len.toInt ≤ 2000000000 → ldk_pat a0 a1 a2 a3 a4 a5 f3 f4 f5 x.1 x.2.1 x.2.2 n len) := by
  have cl := fun i hi => ldk_cls hn hE hw hk hR n i hi (by omega)
  have hxs : ∀ j, j ∈ xs → j < n := fun j hj => (ldk_ch_mem _ _ _ hc j hj).2
  obtain ⟨s0, s1, s2⟩ := ldk_fold (t := fun j => ldk_cnt f3 f4 x.2.2 (nI j)) (tc := ldk_tc a0 a1 a3) xs 0 0 (fun j hj => by
    have := cl j (hxs j hj)
    exact ⟨this.2.2.2.1, this.2.2.2.2.1, this.2.2.2.2.2.1, this.2.2.2.2.2.2.1⟩) (by decide) (by decide) (by decide)
  rw [← hl] at s0 s1 s2
  refine ⟨s2, s0, fun hlen => ?_⟩
  have hcT : ∀ i, i < n → (ldk_cnt f3 f4 x.2.2 (nI i)).toInt ≤ 2000000000 → (ldk_cnt f3 f4 x.2.2 (nI i)).toInt = ldk_T f3 f4 x.2.2 i := by
    intro i hi hle
    obtain ⟨w1, w2, w3, w4⟩ := hw i hi
    have ck : (nI i).toNatClampNeg = i := nI_clamp (by omega)
    rcases w4 with ⟨z1, -⟩ | ⟨z1, -⟩ | ⟨z1, -⟩ | ⟨z1, -⟩
    · rw [ldk_cnt0 (by omega) z1]; unfold ldk_T; rw [if_pos z1]; decide
    · rw [ldk_cnt1 (by omega) z1]; unfold ldk_T; rw [z1, if_neg (show ¬ (1 : Int32) = 0 by decide), if_neg (show ¬ ((1 : Int32) = 3 ∨ (1 : Int32) = 4) by decide)]; decide
    · rw [ldk_cnt2 (by omega) z1]; unfold ldk_T; rw [z1, if_neg (show ¬ (2 : Int32) = 0 by decide), if_neg (show ¬ ((2 : Int32) = 3 ∨ (2 : Int32) = 4) by decide)]; decide
    · have hk34 : f3 i = 3 ∨ f3 i = 4 := by rcases z1 with q | q; exact Or.inl q; exact Or.inr q.1
      have e := ((cl i hi).2.2.2.2.2.2.2 hk34).2.2.2.2.2
      rw [e] at hle ⊢
      unfold ldk_T
      rw [if_neg (show ¬ f3 i = 0 by rcases hk34 with q | q <;> rw [q] <;> decide), if_pos hk34]
      split at hle
      · rename_i q; rw [if_pos q]
      · omega
  -- what is within the bounds, chain by chain
  have key : ∀ (d k : Nat) (ys : List Nat) (e : Nat), ldk_ch f5 k ys e → e ≤ n → e - k ≤ d → (∀ j, j ∈ ys → (ldk_cnt f3 f4 x.2.2 (nI j)).toInt ≤ 2000000000) → ∀ i, k ≤ i → i < e → (ldk_cnt f3 f4 x.2.2 (nI i)).toInt ≤ 2000000000 := by
    intro d
    induction d with
    | zero => intro k ys e _ _ h1 _ i h2 h3; omega
    | succ d ih =>
      intro k ys e hch he hd hys i h2 h3
      cases ys with
      | nil => have hch : k = e := hch; omega
      | cons y ys =>
        obtain ⟨g1, j, g2, g3, g4, g5⟩ := hch
        subst g1
        by_cases c1 : i = y
        · subst c1; exact hys i (List.mem_cons_self)
        · by_cases c2 : j ≤ i
          · exact ih j ys e g5 he (by omega) (fun z hz => hys z (List.mem_cons_of_mem _ hz)) i c2 h3
          · have hyn : y < n := by omega
            obtain ⟨w1, w2, w3, w4⟩ := hw y hyn
            have hEj : E y = j := ldk_nIinj (by have := hE y hyn; omega) (by omega) (w2.symm.trans g4)
            rw [hEj] at w3
            have hy := hys y (List.mem_cons_self)
            have hmem := fun z hz => ldk_ch_mem _ _ _ w3 z hz
            rcases w4 with ⟨-, z2⟩ | ⟨-, z2, -⟩ | ⟨-, z2, -⟩ | ⟨z1, z2, z3⟩
            · rw [z2] at w3; have w3 : y + 1 = j := w3; omega
            · rw [z2] at w3; have w3 : y + 1 = j := w3; omega
            · rw [z2] at w3; have w3 : y + 1 = j := w3; omega
            · have hk34 : f3 y = 3 ∨ f3 y = 4 := by rcases z1 with q | q; exact Or.inl q; exact Or.inr q.1
              obtain ⟨b0, b1, b2, b3, b4, b5⟩ := (cl y hyn).2.2.2.2.2.2.2 hk34
              rw [b5] at hy
              have hle : (x.2.2 y).toInt ≤ 2000000000 := by
                obtain ⟨u1, u2, u3⟩ := ldk_mnmul z2 b0
                have := Int.mul_le_mul_of_nonneg_right z2 b0
                split at hy <;> omega
              have hr3 := (hR y hyn).2.2
              obtain ⟨-, v2⟩ := ldk_fs_le (t := fun j => ldk_cnt f3 f4 x.2.2 (nI j)) (X y) 0 (fun z hz => by
                have := cl z (by have := hmem z hz; omega)
                exact ⟨this.2.2.2.1, this.2.2.2.2.1⟩) (by decide) (by decide) (by rw [← hr3]; exact hle)
              exact ih (y + 1) (X y) j w3 (by omega) (by omega) v2 i (by omega) (by omega)
  obtain ⟨-, top⟩ := ldk_fs_le (t := fun j => ldk_cnt f3 f4 x.2.2 (nI j)) xs 0 (fun z hz => by
    have := cl z (hxs z hz)
    exact ⟨this.2.2.2.1, this.2.2.2.2.1⟩) (by decide) (by decide) (by rw [← hl]; exact hlen)
  have all : ∀ i, i < n → (ldk_cnt f3 f4 x.2.2 (nI i)).toInt ≤ 2000000000 := fun i hi => key n 0 xs n hc (Nat.le_refl _) (by omega) top i (Nat.zero_le _) hi
  have br : ∀ i, i < n → (f3 i = 3 ∨ f3 i = 4) → 1 ≤ (f4 i).toInt → (f4 i).toInt * (x.2.2 i).toInt ≤ 2000000000 ∧ (x.2.2 i).toInt ≤ 2000000000 := by
    intro i hi hk34 hv
    obtain ⟨b0, b1, b2, b3, b4, b5⟩ := (cl i hi).2.2.2.2.2.2.2 hk34
    have hy := all i hi
    rw [b5] at hy
    have := Int.mul_le_mul_of_nonneg_right hv b0
    split at hy <;> omega
  refine ⟨hn, fun i hi => ?_, fun i hi hk34 => ?_, xs, hc, ?_⟩
  · obtain ⟨k1, k2, k3⟩ := hk i hi
    obtain ⟨w1, w2, w3, w4⟩ := hw i hi
    obtain ⟨r1, r2, r3⟩ := hR i hi
    refine ⟨k1, k2, ?_⟩
    rcases w4 with ⟨z1, z2⟩ | ⟨z1, z2, z3⟩ | ⟨z1, z2, z3⟩ | ⟨z1, z2, z3⟩
    · rw [z2] at w3 r1 r2
      have w3 : i + 1 = E i := w3
      rw [z1] at r1 r2
      exact Or.inl ⟨z1, by rw [w2, w3], r1, r2⟩
    · rw [z2] at w3 r1 r2
      have w3 : i + 1 = E i := w3
      rw [z1] at r1 r2
      exact Or.inr (Or.inl ⟨z1, by rw [w2, w3], r1, r2, z3⟩)
    · rw [z2] at w3 r1 r2
      have w3 : i + 1 = E i := w3
      rw [z1] at r1 r2
      exact Or.inr (Or.inr (Or.inl ⟨z1, by rw [w2, w3], r1, r2, z3⟩))
    · have hk34 : f3 i = 3 ∨ f3 i = 4 := by rcases z1 with q | q; exact Or.inl q; exact Or.inr q.1
      obtain ⟨b0, b1, b2, b3, b4, b5⟩ := (cl i hi).2.2.2.2.2.2.2 hk34
      obtain ⟨c1, c2⟩ := br i hi hk34 z2
      obtain ⟨m1, m2, m3, m4, m5⟩ := k3 hk34
      have e3 : (a3 i).toInt = (x.2.2 i).toInt := by rw [b2]; unfold ldk_mn; rw [if_pos (by omega)]
      exact Or.inr (Or.inr (Or.inr ⟨z1, z2, z3, m1, ldk_Eq.mpr e3, b3, b4, by omega, c2, c1, (cl i hi).2.2.1⟩))
  · obtain ⟨w1, w2, w3, w4⟩ := hw i hi
    have hv : 1 ≤ (f4 i).toInt := by
      rcases w4 with ⟨z1, -⟩ | ⟨z1, -⟩ | ⟨z1, -⟩ | ⟨-, z2, -⟩
      · rcases hk34 with q | q <;> rw [z1] at q <;> exact absurd q (by decide)
      · rcases hk34 with q | q <;> rw [z1] at q <;> exact absurd q (by decide)
      · rcases hk34 with q | q <;> rw [z1] at q <;> exact absurd q (by decide)
      · exact z2
    obtain ⟨c1, c2⟩ := br i hi hk34 hv
    refine ⟨X i, E i, hE i hi, w2, w3, ?_⟩
    have hr3 := (hR i hi).2.2
    have := ldk_fs_sT (f3 := f3) (f4 := f4) (f8 := x.2.2) (X i) 0 (fun z hz => by
      have hz' := (ldk_ch_mem _ _ _ w3 z hz).2
      have hzn : z < n := by have := hE i hi; omega
      have := cl z hzn
      exact ⟨this.2.2.2.1, this.2.2.2.2.1, hcT z hzn⟩) (by decide) (by decide) (by rw [← hr3]; exact c2)
    rw [← hr3, ldk_T0] at this
    omega
  · have := ldk_fs_sT (f3 := f3) (f4 := f4) (f8 := x.2.2) xs 0 (fun z hz => by
      have := cl z (hxs z hz)
      exact ⟨this.2.2.2.1, this.2.2.2.2.1, hcT z (hxs z hz)⟩) (by decide) (by decide) (by rw [← hl]; exact hlen)
    rw [← hl, ldk_T0] at this
    omega
end LDKK
