/-! ===== the walk to one pick: all of it ===== -/
def ldk_pat (a0 a1 a2 : Nat → Int32) (a3 : Nat → Int64) (a4 a5 f3 f4 f5 f6 f7 : Nat → Int32) (f8 : Nat → Int64) (n : Nat) (len : Int64) : Prop :=
  n ≤ 80 ∧ (∀ i, i < n → ldk_it a0 a1 a2 a3 a4 a5 f3 f4 f5 f6 f7 f8 i) ∧ (∀ i, i < n → (f3 i = 3 ∨ f3 i = 4) → ∃ (xs : List Nat) (e : Nat), e ≤ n ∧ f5 i = nI e ∧ ldk_ch f5 (i + 1) xs e ∧ (f8 i).toInt = ldk_sT f3 f4 f8 xs) ∧ ∃ xs : List Nat, ldk_ch f5 0 xs n ∧ len.toInt = ldk_sT f3 f4 f8 xs
theorem ldk_nIinj {a b : Nat} (ha : a < 2 ^ 31) (hb : b < 2 ^ 31) (h : nI a = nI b) : a = b := by
  have := nI_toInt ha
  rw [h, nI_toInt hb] at this
  omega
section LDKW2
variable {a0 a1 a2 : Nat → Int32} {a3 : Nat → Int64} {a4 a5 f3 f4 f5 f6 f7 : Nat → Int32} {f8 : Nat → Int64} {n : Nat} {len : Int64}
theorem ldk_walk (hp : ldk_pat a0 a1 a2 a3 a4 a5 f3 f4 f5 f6 f7 f8 n len) : ∀ (m f k : Nat) (xs : List Nat) (e : Nat) (I : Nat → Int32) (L : Nat → Int64), ldk_ch f5 k xs e → e ≤ n → 0 ≤ (L 8).toInt → (L 8).toInt < ldk_sT f3 f4 f8 xs → (L 8).toInt ≤ 2000000000 → e - k ≤ m → e - k < f → I 6 = nI n →
    ∃ k' : Nat, k' < n ∧ (ldkF f3 f4 f5 f6 f7 f8 f (I 9, I 10, L 8, nI k)).2.2.2 = nI k' ∧ ldkOK f3 f4 f5 f6 f7 f8 f (I 9, I 10, L 8, nI k) ∧ (20 ≤ (I 10).toInt ∧ (I 10).toInt ≤ 400 → 20 ≤ (ldkF f3 f4 f5 f6 f7 f8 f (I 9, I 10, L 8, nI k)).2.1.toInt ∧ (ldkF f3 f4 f5 f6 f7 f8 f (I 9, I 10, L 8, nI k)).2.1.toInt ≤ 400) ∧
      ∀ w : Int32, (tellF a0 a1 a2 a3 a4 a5 w m (nI k) I L).1 = (if w = 0 then f4 k' else if w = 1 then (ldkF f3 f4 f5 f6 f7 f8 f (I 9, I 10, L 8, nI k)).1 else if w = 2 then (ldkF f3 f4 f5 f6 f7 f8 f (I 9, I 10, L 8, nI k)).2.1 else -1) ∧ (tellF a0 a1 a2 a3 a4 a5 w m (nI k) I L).2.1 6 = I 6 ∧ (tellF a0 a1 a2 a3 a4 a5 w m (nI k) I L).2.2 7 = L 7 := by
  obtain ⟨hn, hit, hbr, -⟩ := hp
  intro m
  induction m with
  | zero =>
    intro f k xs e I L hc he r0 r1 r2 hm hf h6
    exfalso
    cases xs with
    | nil => exact absurd r1 (by show ¬ (L 8).toInt < 0; omega)
    | cons x xs => obtain ⟨-, j, h1, h2, -⟩ := hc; omega
  | succ m ih =>
    intro f k xs e I L hc he r0 r1 r2 hm hf h6
    cases xs with
    | nil => exact absurd r1 (by show ¬ (L 8).toInt < 0; omega)
    | cons x xs =>
      obtain ⟨hx, j, hkj, hje, hf5, hch⟩ := hc
      subst hx
      obtain ⟨f', rfl⟩ : ∃ f', f = f' + 1 := ⟨f - 1, by omega⟩
      have hkn : x < n := by omega
      have ck : (nI x).toNatClampNeg = x := nI_clamp (by omega)
      have hvp : vp_in (nI x) 160 := vp_in_nI (by omega) (by omega)
      have hk0 : ¬ nI x < 0 := nI_pos (by omega)
      have hk6 : ¬ I 6 ≤ nI x := by rw [h6]; exact nI_ge hkn (by omega)
      have i1 := (hit x hkn).1
      by_cases hfd : f3 x = 0 ∧ L 8 = 0
      · have hz : L 8 ≤ 0 := by rw [hfd.2]; exact Int64.le_refl _
        have eF : ldkF f3 f4 f5 f6 f7 f8 (f' + 1) (I 9, I 10, L 8, nI x) = (I 9, I 10, L 8, nI x) := if_pos ⟨by dsimp only; rw [ck]; exact hfd.1, hz⟩
        refine ⟨x, hkn, by rw [eF], ⟨hvp, fun q => absurd ⟨by dsimp only; rw [ck]; exact hfd.1, hz⟩ q⟩, fun q => by rw [eF]; exact q, fun w => ?_⟩
        have eT : tellF a0 a1 a2 a3 a4 a5 w (m + 1) (nI x) I L = (sX1_tellHere I (a1 x) w, I, L) := by
          refine (if_neg hk0).trans ((if_neg hk6).trans ?_)
          rw [ck]
          exact if_pos ⟨i1.trans hfd.1, hfd.2⟩
        rw [eT, eF, ← (hit x hkn).2.1]
        exact ⟨rfl, rfl, rfl⟩
      · obtain ⟨s1, s2, s3, s4, s5, s6, s7, s8⟩ := ldk_pstep (I := I) (L := L) (hit x hkn) (by omega) r0 r2 hfd
        have hnf : ¬ (f3 (nI x).toNatClampNeg = 0 ∧ L 8 ≤ 0) := by
          rw [ck]; intro q
          refine hfd ⟨q.1, ?_⟩
          have := q.2
          rw [Int64.le_iff_toInt_le, ldk_T0] at this
          rw [ldk_Eq, ldk_T0]; omega
        have eT : ∀ w, tellF a0 a1 a2 a3 a4 a5 w (m + 1) (nI x) I L = tellF a0 a1 a2 a3 a4 a5 w m (sX1_pass I L a0 a1 a2 a3 a4 a5 (nI x)).1 (sX1_pass I L a0 a1 a2 a3 a4 a5 (nI x)).2.1 (sX1_pass I L a0 a1 a2 a3 a4 a5 (nI x)).2.2 := fun w => by
          refine (if_neg hk0).trans ((if_neg hk6).trans ?_)
          rw [ck]
          exact if_neg (fun q => hfd ⟨i1.symm.trans q.1, q.2⟩)
        have eF : ldkF f3 f4 f5 f6 f7 f8 (f' + 1) (I 9, I 10, L 8, nI x) = ldkF f3 f4 f5 f6 f7 f8 f' (ldkS f3 f4 f5 f6 f7 f8 (I 9, I 10, L 8, nI x)) := if_neg hnf
        have hne : f3 x = 3 → ¬ f8 x = 0 := by
          intro q z
          obtain ⟨-, -, q3⟩ := hit x hkn
          rcases q3 with d | d | d | d
          · rw [d.1] at q; exact absurd q (by decide)
          · rw [d.1] at q; exact absurd q (by decide)
          · rw [d.1] at q; exact absurd q (by decide)
          · have := d.2.2.2.2.2.2.2.1
            rw [z, ldk_T0] at this; omega
        generalize hSx : ldkS f3 f4 f5 f6 f7 f8 (I 9, I 10, L 8, nI x) = X at *
        generalize hPx : sX1_pass I L a0 a1 a2 a3 a4 a5 (nI x) = Y at *
        have eX : X = (Y.2.1 9, Y.2.1 10, Y.2.2 8, Y.1) := by rw [s1, s2, s3, s4]
        have fin : ∀ (k2 : Nat) (ys : List Nat) (e2 : Nat), X.2.2.2 = nI k2 → ldk_ch f5 k2 ys e2 → e2 ≤ n → 0 ≤ X.2.2.1.toInt → X.2.2.1.toInt < ldk_sT f3 f4 f8 ys → X.2.2.1.toInt ≤ 2000000000 → e2 - k2 ≤ m → e2 - k2 < f' → ∃ k' : Nat, k' < n ∧ (ldkF f3 f4 f5 f6 f7 f8 (f' + 1) (I 9, I 10, L 8, nI x)).2.2.2 = nI k' ∧ ldkOK f3 f4 f5 f6 f7 f8 (f' + 1) (I 9, I 10, L 8, nI x) ∧ (20 ≤ (I 10).toInt ∧ (I 10).toInt ≤ 400 → 20 ≤ (ldkF f3 f4 f5 f6 f7 f8 (f' + 1) (I 9, I 10, L 8, nI x)).2.1.toInt ∧ (ldkF f3 f4 f5 f6 f7 f8 (f' + 1) (I 9, I 10, L 8, nI x)).2.1.toInt ≤ 400) ∧
            ∀ w : Int32, (tellF a0 a1 a2 a3 a4 a5 w (m + 1) (nI x) I L).1 = (if w = 0 then f4 k' else if w = 1 then (ldkF f3 f4 f5 f6 f7 f8 (f' + 1) (I 9, I 10, L 8, nI x)).1 else if w = 2 then (ldkF f3 f4 f5 f6 f7 f8 (f' + 1) (I 9, I 10, L 8, nI x)).2.1 else -1) ∧ (tellF a0 a1 a2 a3 a4 a5 w (m + 1) (nI x) I L).2.1 6 = I 6 ∧ (tellF a0 a1 a2 a3 a4 a5 w (m + 1) (nI x) I L).2.2 7 = L 7 := by
          intro k2 ys e2 g1 g2 g3 g4 g5 g6 g7 g8
          rw [← s4] at g4 g5 g6
          obtain ⟨k', v1, v2, v3, v4, v5⟩ := ih f' k2 ys e2 Y.2.1 Y.2.2 g2 g3 g4 g5 g6 g7 g8 (s5.trans h6)
          rw [show ((Y.2.1 9, Y.2.1 10, Y.2.2 8, nI k2) : LdkS) = X by rw [eX, s1, g1]] at v2 v3 v4 v5
          rw [eF]
          refine ⟨k', v1, v2, ⟨hvp, fun _ => ⟨fun _ q => by dsimp only at q ⊢; rw [ck] at q ⊢; exact hne q, by rw [hSx]; exact v3⟩⟩, fun q => v4 ?_, fun w => ?_⟩
          · rw [s3]
            rcases s7 with z | z
            · rw [z]; exact q
            · exact z
          · rw [eT w, s1, g1]
            obtain ⟨z1, z2, z3⟩ := v5 w
            exact ⟨z1, z2.trans s5, z3.trans s6⟩
        rcases s8 with ⟨o1, o2, o3, o4⟩ | ⟨o1, o2, o3, o4, o5⟩
        · have r1' : (L 8).toInt < ldk_T f3 f4 f8 x + ldk_sT f3 f4 f8 xs := r1
          exact fin j xs e (o1.trans hf5) hch he (by omega) (by omega) (by omega) (by omega) (by omega)
        · obtain ⟨ys, e2, y1, y2, y3, y4⟩ := hbr x hkn o1
          have hej : e2 = j := ldk_nIinj (by omega) (by omega) (y2.symm.trans hf5)
          subst hej
          have hch2 : x + 1 ≤ e2 := by omega
          have h8 : (f8 x).toInt ≤ 2000000000 := by
            obtain ⟨-, -, q3⟩ := hit x hkn
            rcases q3 with d | d | d | d
            · rcases o1 with q | q <;> rw [d.1] at q <;> exact absurd q (by decide)
            · rcases o1 with q | q <;> rw [d.1] at q <;> exact absurd q (by decide)
            · rcases o1 with q | q <;> rw [d.1] at q <;> exact absurd q (by decide)
            · exact d.2.2.2.2.2.2.2.2.1
          exact fin (x + 1) ys e2 o3 y3 y1 o4 (by rw [← y4]; exact o5) (by omega) (by omega) (by omega)
/-- the pattern of the class tells what that of the reference does -/
theorem ldk_pat_pT (hp : ldk_pat a0 a1 a2 a3 a4 a5 f3 f4 f5 f6 f7 f8 n len) (hl : len.toInt ≤ 2000000000) : ldk_pT a0 a1 a2 a3 a4 a5 f3 f4 f5 f6 f7 f8 (nI n) len := by
  intro I4 L4 p h6 h7 p0 p1
  obtain ⟨hn, hit, hbr, xs, hc, hs⟩ := id hp
  obtain ⟨k', w1, w2, w3, w4, w5⟩ := ldk_walk hp 80 161 0 xs n (upd (upd I4 9 0) 10 100) (vp_updL L4 8 p) hc (Nat.le_refl _) (by rw [pk_uLs]; exact p0) (by rw [pk_uLs, ← hs]; exact p1) (by rw [pk_uLs]; omega) (by omega) (by omega) (by rw [pk_un (by decide), pk_un (by decide)]; exact h6)
  have e9 : upd (upd I4 9 0) 10 100 9 = 0 := by rw [pk_un (by decide), pk_us]
  have e10 : upd (upd I4 9 0) 10 100 10 = 100 := by rw [pk_us]
  rw [e9, e10, pk_uLs, nI_0] at w2 w3 w4 w5
  have hhas : ¬ sX1_has L4 p = 0 := by
    unfold sX1_has
    rw [if_neg (show ¬ p < 0 by rw [Int64.lt_iff_toInt_lt, ldk_T0]; omega), if_neg (show ¬ L4 7 ≤ p by rw [Int64.le_iff_toInt_le, h7]; omega)]; decide
  have eT : ∀ w, sX1_tell I4 L4 a0 a1 a2 a3 a4 a5 p w = tellF a0 a1 a2 a3 a4 a5 w 80 0 (upd (upd I4 9 0) 10 100) (vp_updL L4 8 p) := fun w => if_neg hhas
  have ck : (nI k').toNatClampNeg = k' := nI_clamp (by omega)
  have hd := w4 (by decide)
  refine ⟨?_, ?_, ?_, fun w => ⟨?_, ?_⟩, w3, ?_⟩
  · rw [eT, (w5 0).1, if_pos rfl]; unfold sX7_look; rw [if_pos rfl, w2, ck]
  · rw [eT, (w5 1).1, if_neg (by decide), if_pos rfl]; unfold sX7_look; rw [if_neg (by decide), if_pos rfl]
  · rw [eT, (w5 2).1, if_neg (by decide), if_neg (by decide), if_pos rfl]; unfold sX7_look; rw [if_neg (by decide), if_neg (by decide)]
  · rw [eT, (w5 w).2.1, pk_un (by decide), pk_un (by decide)]; exact h6
  · rw [eT, (w5 w).2.2, pk_uLn (by decide)]; exact h7
  · unfold sX7_look
    rw [if_neg (show ¬ (2 : Int32) = 0 by decide), if_neg (show ¬ (2 : Int32) = 1 by decide)]; exact hd
end LDKW2
