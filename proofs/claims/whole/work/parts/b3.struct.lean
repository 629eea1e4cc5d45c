/-! ===== the two readers: what has been read so far ===== -/
abbrev LdkA : Type := (Nat → Int32) × (Nat → Int32) × (Nat → Int32) × (Nat → Int64) × (Nat → Int32) × (Nat → Int32)
abbrev LdkQ : Type := (Nat → Int32) × (Nat → Int32) × (Nat → Int32)
abbrev LdkV : Type := (Nat → Int32) × (Nat → Int64) × (Nat → Int32) × (Nat → Int32)
def ldk_ag (A A' : LdkA) (Q Q' : LdkQ) (j : Nat) : Prop := A'.1 j = A.1 j ∧ A'.2.1 j = A.2.1 j ∧ A'.2.2.1 j = A.2.2.1 j ∧ A'.2.2.2.1 j = A.2.2.2.1 j ∧ A'.2.2.2.2.1 j = A.2.2.2.2.1 j ∧ A'.2.2.2.2.2 j = A.2.2.2.2.2 j ∧ Q'.1 j = Q.1 j ∧ Q'.2.1 j = Q.2.1 j ∧ Q'.2.2 j = Q.2.2 j
def ldk_wfk (A : LdkA) (Q : LdkQ) (X : Nat → List Nat) (E : Nat → Nat) (i : Nat) : Prop := ldk_wfi Q.1 Q.2.1 Q.2.2 X E i ∧ ldk_kli A.1 A.2.1 A.2.2.1 A.2.2.2.1 A.2.2.2.2.1 A.2.2.2.2.2 Q.1 Q.2.1 Q.2.2 X i
def ldk_lv (A : LdkA) (Q : LdkQ) (st sp : Nat) (c : List Nat) (p6 : Int64) (p7 p8 : Int32) : Prop := ldk_ch Q.2.2 st c sp ∧ p6.toInt = ldk_fc (ldk_tc A.1 A.2.1 A.2.2.2.1) 0 c ∧ p7 = ldk_lst (ldk_g1 A.1 A.2.1 A.2.2.2.2.1) (-1) c ∧ p8 = ldk_lst (ldk_g2 A.1 A.2.1 A.2.2.2.2.2) (-1) c ∧ 0 ≤ p6.toInt ∧ p6.toInt ≤ 2000000001
theorem ldk_fc_ext {t u : Nat → Int} : ∀ (xs : List Nat) (s : Int), (∀ j, j ∈ xs → t j = u j) → ldk_fc t s xs = ldk_fc u s xs := by
  intro xs
  induction xs with
  | nil => intro s _; rfl
  | cons x xs ih =>
    intro s q
    show ldk_fc t (if s + t x ≤ 2000000001 then s + t x else 2000000001) xs = ldk_fc u (if s + u x ≤ 2000000001 then s + u x else 2000000001) xs
    rw [q x (List.mem_cons_self), ih _ (fun j hj => q j (List.mem_cons_of_mem _ hj))]
theorem ldk_fc_app {t : Nat → Int} (y : Nat) : ∀ (xs : List Nat) (s : Int), ldk_fc t s (xs ++ [y]) = (if ldk_fc t s xs + t y ≤ 2000000001 then ldk_fc t s xs + t y else 2000000001) := by
  intro xs
  induction xs with
  | nil => intro s; rfl
  | cons x xs ih => intro s; exact ih _
section LDKS
variable {A A' : LdkA} {Q Q' : LdkQ}
theorem ldk_ag_tc {j : Nat} (h : ldk_ag A A' Q Q' j) : ldk_tc A'.1 A'.2.1 A'.2.2.2.1 j = ldk_tc A.1 A.2.1 A.2.2.2.1 j ∧ ldk_g1 A'.1 A'.2.1 A'.2.2.2.2.1 j = ldk_g1 A.1 A.2.1 A.2.2.2.2.1 j ∧ ldk_g2 A'.1 A'.2.1 A'.2.2.2.2.2 j = ldk_g2 A.1 A.2.1 A.2.2.2.2.2 j := by
  obtain ⟨h1, h2, h3, h4, h5, h6, h7, h8, h9⟩ := h
  unfold ldk_tc ldk_g1 ldk_g2
  rw [h1, h2, h4, h5, h6]; exact ⟨rfl, rfl, rfl⟩
theorem ldk_wfk_ext {X X' : Nat → List Nat} {E E' : Nat → Nat} {i : Nat} (h : ldk_wfk A Q X E i) (hi : ldk_ag A A' Q Q' i) (hm : ∀ j, j ∈ X i → ldk_ag A A' Q Q' j) (eX : X' i = X i) (eE : E' i = E i) : ldk_wfk A' Q' X' E' i := by
  obtain ⟨⟨w1, w2, w3, w4⟩, k1, k2, k3⟩ := h
  obtain ⟨g1, g2, g3, g4, g5, g6, g7, g8, g9⟩ := hi
  refine ⟨⟨by rw [eE]; exact w1, by rw [eE, g9]; exact w2, by rw [eX, eE]; exact ldk_ch_ext _ _ _ w3 (fun j hj => (hm j hj).2.2.2.2.2.2.2.2), by rw [g7, g8, eX]; exact w4⟩, by rw [g1, g7]; exact k1, by rw [g2, g8]; exact k2, ?_⟩
  rw [g7, eX]
  intro q
  obtain ⟨m1, m2, m3, m4, m5⟩ := k3 q
  refine ⟨by rw [g3, g9]; exact m1, ?_, ?_, ?_, by rw [g4]; exact m5⟩
  · rw [g4, m2]; exact ldk_fc_ext _ _ (fun j hj => (ldk_ag_tc (hm j hj)).1.symm)
  · rw [g5, m3]; exact ldk_lst_ext _ _ (fun j hj => (ldk_ag_tc (hm j hj)).2.1.symm)
  · rw [g6, m4]; exact ldk_lst_ext _ _ (fun j hj => (ldk_ag_tc (hm j hj)).2.2.symm)
theorem ldk_lv_ext {st sp : Nat} {c : List Nat} {p6 : Int64} {p7 p8 : Int32} (h : ldk_lv A Q st sp c p6 p7 p8) (hm : ∀ j, j ∈ c → ldk_ag A A' Q Q' j) : ldk_lv A' Q' st sp c p6 p7 p8 := by
  obtain ⟨h1, h2, h3, h4, h5⟩ := h
  refine ⟨ldk_ch_ext _ _ _ h1 (fun j hj => (hm j hj).2.2.2.2.2.2.2.2), ?_, ?_, ?_, h5⟩
  · rw [h2]; exact ldk_fc_ext _ _ (fun j hj => (ldk_ag_tc (hm j hj)).1.symm)
  · rw [h3]; exact ldk_lst_ext _ _ (fun j hj => (ldk_ag_tc (hm j hj)).2.1.symm)
  · rw [h4]; exact ldk_lst_ext _ _ (fun j hj => (ldk_ag_tc (hm j hj)).2.2.symm)
/-- one more item in a level -/
theorem ldk_lv_app {st b e : Nat} {c : List Nat} {p6 p6' : Int64} {p7 p8 : Int32} (h : ldk_lv A Q st b c p6 p7 p8) (hbe : b < e) (hf : Q.2.2 b = nI e) (ht : 0 ≤ ldk_tc A.1 A.2.1 A.2.2.2.1 b) (h6 : p6'.toInt = (if p6.toInt + ldk_tc A.1 A.2.1 A.2.2.2.1 b ≤ 2000000001 then p6.toInt + ldk_tc A.1 A.2.1 A.2.2.2.1 b else 2000000001)) :
    ldk_lv A Q st e (c ++ [b]) p6' (if ldk_g1 A.1 A.2.1 A.2.2.2.2.1 b = (-1 : Int32) then p7 else ldk_g1 A.1 A.2.1 A.2.2.2.2.1 b) (if ldk_g2 A.1 A.2.1 A.2.2.2.2.2 b = (-1 : Int32) then p8 else ldk_g2 A.1 A.2.1 A.2.2.2.2.2 b) := by
  obtain ⟨h1, h2, h3, h4, h5, h7⟩ := h
  refine ⟨ldk_ch_app _ _ _ _ h1 hbe hf, ?_, ?_, ?_, ?_, ?_⟩
  · rw [h6, h2, ldk_fc_app]
  · rw [ldk_lst_app, h3]
  · rw [ldk_lst_app, h4]
  · rw [h6]; split <;> omega
  · rw [h6]; split <;> omega
end LDKS
/-- n items, d open brackets, s picks seen -/
def ldk_PS (n d s : Nat) (A : LdkA) (V : LdkV) (Q : LdkQ) (q16 q17 : Nat → Int32) : Prop :=
  ∃ (X : Nat → List Nat) (E o bf : Nat → Nat) (cs : Nat → List Nat), n ≤ 80 ∧ d ≤ 6 ∧ s ≤ n ∧
    (∀ i, i < n → Q.1 i = A.1 i ∧ Q.2.1 i = A.2.1 i) ∧
    (∀ i, i < n → (∀ l, l < d → o l ≠ i) → E i ≤ n ∧ ldk_wfk A Q X E i ∧ ∀ j, j ∈ X i → ∀ l, l < d → o l ≠ j) ∧
    (∀ l, l < d → o l < n ∧ (Q.1 (o l) = 3 ∨ (Q.1 (o l) = 4 ∧ Q.2.1 (o l) = 2)) ∧ 1 ≤ (Q.2.1 (o l)).toInt ∧ (Q.2.1 (o l)).toInt ≤ 9999 ∧ q16 l = nI (o l) ∧ V.1 (l + 1) = nI (o l) ∧ ∀ m, m < l → o m < o l) ∧
    (∀ l, l ≤ d → ldk_lv A Q (if l = 0 then 0 else o (l - 1) + 1) (if l = d then n else o l) (cs l) (V.2.1 l) (V.2.2.1 l) (V.2.2.2 l) ∧ ∀ j, j ∈ cs l → ∀ m, m < d → o m ≠ j) ∧
    (∀ l, l < d → q17 l = nI (bf l) ∧ bf l ≤ s ∧ ∀ m, m < l → bf m ≤ bf l) ∧
    (∀ l, 1 ≤ l → l ≤ d → ((V.2.1 l).toInt = 0 ↔ (if l = d then s else bf l) = bf (l - 1)))
section LDKO
variable {n d s : Nat} {A A' : LdkA} {V V' : LdkV} {Q Q' : LdkQ} {q16 q17 : Nat → Int32}
/-- a pick, a carrier, a density -/
theorem ldk_PS_item {kd v : Int32} {dp : Nat} (h : ldk_PS n d s A V Q q16 q17) (hn : n < 80) (hk : (kd = 0 ∧ dp = 1) ∨ (kd = 1 ∧ dp = 0 ∧ ¬ v = -1) ∨ (kd = 2 ∧ dp = 0 ∧ 20 ≤ v.toInt ∧ v.toInt ≤ 400))
    (hA : A' = (upd A.1 n kd, upd A.2.1 n v, A.2.2)) (hQ : Q' = (upd Q.1 n kd, upd Q.2.1 n v, upd Q.2.2 n (nI (n + 1))))
    (hV : V' = (V.1, (if kd = 0 then vp_updL V.2.1 d (if (2000000001 : Int64) < V.2.1 d + 1 then 2000000001 else V.2.1 d + 1) else V.2.1), (if kd = 1 then upd V.2.2.1 d v else V.2.2.1), (if kd = 2 then upd V.2.2.2 d v else V.2.2.2))) :
    ldk_PS (n + 1) d (s + dp) A' V' Q' q16 q17 := by
  obtain ⟨X, E, o, bf, cs, b1, b2, b3, b4, b5, b6, b7, b8, b9⟩ := h
  have hag : ∀ j, j < n → ldk_ag A A' Q Q' j := fun j hj => by
    have hne : j ≠ n := by omega
    rw [hA, hQ]
    exact ⟨pk_un hne, pk_un hne, rfl, rfl, rfl, rfl, pk_un hne, pk_un hne, pk_un hne⟩
  have eA0 : A'.1 n = kd := by rw [hA]; exact pk_us ..
  have eA1 : A'.2.1 n = v := by rw [hA]; exact pk_us ..
  have eQ0 : Q'.1 n = kd := by rw [hQ]; exact pk_us ..
  have eQ1 : Q'.2.1 n = v := by rw [hQ]; exact pk_us ..
  have eQ2 : Q'.2.2 n = nI (n + 1) := by rw [hQ]; exact pk_us ..
  have hon : ∀ l, l < d → o l ≠ n := fun l hl => by have := (b6 l hl).1; omega
  have hne34 : ¬ (kd = 3 ∨ kd = 4) := by rcases hk with ⟨q, -⟩ | ⟨q, -⟩ | ⟨q, -⟩ <;> subst q <;> decide
  have etc : ldk_tc A'.1 A'.2.1 A'.2.2.2.1 n = (if kd = 0 then 1 else 0) := by
    unfold ldk_tc; rw [eA0]
    by_cases q : kd = 0
    · rw [if_pos q, if_pos q]
    · rw [if_neg q, if_neg q, if_neg hne34]
  have eg1 : ldk_g1 A'.1 A'.2.1 A'.2.2.2.2.1 n = (if kd = 1 then v else -1) := by
    unfold ldk_g1; rw [eA0, eA1, if_neg hne34]
  have eg2 : ldk_g2 A'.1 A'.2.1 A'.2.2.2.2.2 n = (if kd = 2 then v else -1) := by
    unfold ldk_g2; rw [eA0, eA1, if_neg hne34]
  refine ⟨fun i => if i = n then [] else X i, fun i => if i = n then n + 1 else E i, o, bf, fun l => if l = d then cs d ++ [n] else cs l, by omega, b2, ?_, ?_, ?_, ?_, ?_, ?_, ?_⟩
  · rcases hk with ⟨-, q⟩ | ⟨-, q, -⟩ | ⟨-, q, -⟩ <;> omega
  · intro i hi
    by_cases c : i = n
    · subst c; rw [eA0, eA1, eQ0, eQ1]; exact ⟨rfl, rfl⟩
    · have := hag i (by omega)
      rw [this.2.2.2.2.2.2.1, this.2.2.2.2.2.2.2.1, this.1, this.2.1]; exact b4 i (by omega)
  · intro i hi ho
    by_cases c : i = n
    · subst c
      dsimp only
      rw [if_pos rfl, if_pos rfl]
      refine ⟨Nat.le_refl _, ⟨⟨?_, ?_, ?_, ?_⟩, ?_, ?_, ?_⟩, fun j hj => absurd hj List.not_mem_nil⟩
      · dsimp only; rw [if_pos rfl]; omega
      · dsimp only; rw [if_pos rfl]; exact eQ2
      · dsimp only; rw [if_pos rfl, if_pos rfl]; exact rfl
      · dsimp only; rw [if_pos rfl, eQ0, eQ1]
        rcases hk with ⟨q, -⟩ | ⟨q, -, q2⟩ | ⟨q, -, q2⟩
        · exact Or.inl ⟨q, rfl⟩
        · exact Or.inr (Or.inl ⟨q, rfl, q2⟩)
        · exact Or.inr (Or.inr (Or.inl ⟨q, rfl, q2⟩))
      · rw [eA0, eQ0]
      · rw [eA1, eQ1]
      · rw [eQ0]; exact fun z => absurd z hne34
    · obtain ⟨c1, c2, c3⟩ := b5 i (by omega) ho
      have hmem := fun j hj => ldk_ch_mem _ _ _ c2.1.2.2.1 j hj
      dsimp only
      rw [if_neg c, if_neg c]
      exact ⟨by omega, ldk_wfk_ext c2 (hag i (by omega)) (fun j hj => hag j (by have := hmem j hj; omega)) (if_neg c) (if_neg c), c3⟩
  · intro l hl
    obtain ⟨o1, o2, o3, o4, o5, o6, o7⟩ := b6 l hl
    have := hag (o l) o1
    rw [this.2.2.2.2.2.2.1, this.2.2.2.2.2.2.2.1, hV]
    exact ⟨by omega, o2, o3, o4, o5, o6, o7⟩
  · intro l hl
    obtain ⟨l1, l2⟩ := b7 l hl
    have hle : ∀ j, j ∈ cs l → j < n := fun j hj => by
      have := ldk_ch_mem _ _ _ l1.1 j hj
      by_cases c : l = d
      · rw [if_pos c] at this; omega
      · rw [if_neg c] at this; have := (b6 l (by omega)).1; omega
    have l1' := ldk_lv_ext l1 (fun j hj => hag j (hle j hj))
    by_cases c : l = d
    · subst c
      rw [if_pos rfl] at l1' ⊢
      dsimp only
      rw [if_pos rfl]
      obtain ⟨v1, v2⟩ := l1.2.2.2.2
      have app := ldk_lv_app (e := n + 1) (p6' := if kd = 0 then (if (2000000001 : Int64) < V.2.1 l + 1 then 2000000001 else V.2.1 l + 1) else V.2.1 l) l1' (by omega) eQ2 (by rw [etc]; split <;> omega) (by
        rw [etc]
        by_cases q : kd = 0
        · rw [if_pos q, if_pos q]
          have e1 : (V.2.1 l + 1).toInt = (V.2.1 l).toInt + 1 := by rw [ldk_la (by rw [ldk_T1]; omega) (by rw [ldk_T1]; omega), ldk_T1]
          by_cases q2 : (2000000001 : Int64) < V.2.1 l + 1
          · rw [if_pos q2]
            rw [Int64.lt_iff_toInt_lt, e1, show (2000000001 : Int64).toInt = 2000000001 by decide] at q2
            rw [if_neg (by omega)]; decide
          · rw [if_neg q2]
            rw [Int64.lt_iff_toInt_lt, e1, show (2000000001 : Int64).toInt = 2000000001 by decide] at q2
            rw [if_pos (by omega), e1]
        · rw [if_neg q, if_neg q, if_pos (by omega)]; omega)
      rw [eg1, eg2] at app
      refine ⟨?_, fun j hj m hm => ?_⟩
      · have e6 : V'.2.1 l = (if kd = 0 then (if (2000000001 : Int64) < V.2.1 l + 1 then 2000000001 else V.2.1 l + 1) else V.2.1 l) := by
          rw [hV]; dsimp only
          by_cases q : kd = 0
          · rw [if_pos q, if_pos q, pk_uLs]
          · rw [if_neg q, if_neg q]
        have e7 : V'.2.2.1 l = (if (if kd = 1 then v else -1) = (-1 : Int32) then V.2.2.1 l else (if kd = 1 then v else -1)) := by
          rw [hV]; dsimp only
          by_cases q : kd = 1
          · rw [if_pos q, if_pos q, pk_us]
            rw [if_neg (show ¬ v = -1 by rcases hk with ⟨z, -⟩ | ⟨z, -, z2⟩ | ⟨z, -, z2⟩; (rw [z] at q; exact absurd q (by decide)); exact z2; (rw [z] at q; exact absurd q (by decide)))]
          · rw [if_neg q, if_neg q, if_pos rfl]
        have e8 : V'.2.2.2 l = (if (if kd = 2 then v else -1) = (-1 : Int32) then V.2.2.2 l else (if kd = 2 then v else -1)) := by
          rw [hV]; dsimp only
          by_cases q : kd = 2
          · rw [if_pos q, if_pos q, pk_us]
            rw [if_neg (show ¬ v = -1 by rcases hk with ⟨z, -⟩ | ⟨z, -, z2⟩ | ⟨z, -, z2⟩; (rw [z] at q; exact absurd q (by decide)); (rw [z] at q; exact absurd q (by decide)); (rw [ldk_ne, show (-1 : Int32).toInt = -1 by decide]; omega))]
          · rw [if_neg q, if_neg q, if_pos rfl]
        rw [e6, e7, e8]; exact app
      · rcases List.mem_append.mp hj with z | z
        · exact l2 j z m hm
        · rw [List.mem_singleton.mp z]; exact hon m hm
    · rw [if_neg c] at l1' ⊢
      dsimp only
      rw [if_neg c]
      refine ⟨?_, l2⟩
      have e6 : V'.2.1 l = V.2.1 l := by rw [hV]; dsimp only; split; exact pk_uLn c; rfl
      have e7 : V'.2.2.1 l = V.2.2.1 l := by rw [hV]; dsimp only; split; exact pk_un c; rfl
      have e8 : V'.2.2.2 l = V.2.2.2 l := by rw [hV]; dsimp only; split; exact pk_un c; rfl
      rw [e6, e7, e8]; exact l1'
  · intro l hl
    obtain ⟨c1, c2, c3⟩ := b8 l hl
    exact ⟨c1, by omega, c3⟩
  · intro l h1 h2
    have b := b9 l h1 h2
    by_cases c : l = d
    · subst c
      rw [if_pos rfl] at b ⊢
      have v := (b7 l h2).1.2.2.2.2
      have c2 := (b8 (l - 1) (by omega)).2.1
      by_cases q : kd = 0
      · have e6 : V'.2.1 l = (if (2000000001 : Int64) < V.2.1 l + 1 then 2000000001 else V.2.1 l + 1) := by
          rw [hV]; dsimp only; rw [if_pos q, pk_uLs]
        have e1 : (V.2.1 l + 1).toInt = (V.2.1 l).toInt + 1 := by rw [ldk_la (by rw [ldk_T1]; omega) (by rw [ldk_T1]; omega), ldk_T1]
        have hne : (V'.2.1 l).toInt ≠ 0 := by
          rw [e6]; split
          · decide
          · rw [e1]; omega
        have hdp : dp = 1 := by
          rcases hk with ⟨-, z⟩ | ⟨z, -⟩ | ⟨z, -⟩
          · exact z
          · rw [z] at q; exact absurd q (by decide)
          · rw [z] at q; exact absurd q (by decide)
        exact ⟨fun z => absurd z hne, fun z => by omega⟩
      · have e6 : V'.2.1 l = V.2.1 l := by rw [hV]; dsimp only; rw [if_neg q]
        have hdp : dp = 0 := by
          rcases hk with ⟨z, -⟩ | ⟨-, z, -⟩ | ⟨-, z, -⟩
          · exact absurd z q
          · exact z
          · exact z
        rw [e6, hdp]; exact b
    · rw [if_neg c] at b ⊢
      have e6 : V'.2.1 l = V.2.1 l := by rw [hV]; dsimp only; split; exact pk_uLn c; rfl
      rw [e6]; exact b
end LDKO
