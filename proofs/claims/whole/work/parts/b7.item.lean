/-! ===== the two readers: one item ===== -/
def ldk_PRn (I0 : Nat → Int32) (first : Int32) (n d s : Nat) (x : RS) (y : LdkRd) : Prop :=
  ldk_PS n d s (x.2.2.1, x.2.2.2.1, x.2.2.2.2.1, x.2.2.2.2.2.1, x.2.2.2.2.2.2.1, x.2.2.2.2.2.2.2.1) x.2.2.2.2.2.2.2.2 (y.2.1, y.2.2.1, y.2.2.2.1) y.2.2.2.2.1 y.2.2.2.2.2 ∧
  y.1 15 = x.1 2 ∧ y.1 2 = I0 1 ∧ 0 ≤ (x.1 2).toInt ∧ (x.1 2).toInt ≤ (I0 1).toInt ∧ 2 * (n : Int) ≤ (x.1 2).toInt ∧ x.1 3 = -1 ∧ x.1 4 = nI d ∧ y.1 18 = nI d ∧ x.2.1 6 = nI n ∧ y.1 14 = nI n ∧ y.1 19 = nI s ∧ (y.1 43 = 0 ∨ y.1 43 = 1) ∧ (y.1 43 = 1 → (d = 0 ∧ n = 0 ∧ x.1 2 = first) ∨ (0 < d ∧ (x.2.2.2.2.2.2.2.2.2.1 d).toInt = 0))
theorem ldk_s1a (x : Int32) : x - 1 + 1 = x := Int32.sub_add_cancel x 1
theorem ldk_add1 {I1 k0 k1 : Nat → Int32} {kd v : Int32} {n : Nat} (h : I1 6 = nI n) (hn : n < 80) : sX1_add I1 k0 k1 kd v = (upd I1 6 (nI (n + 1)), upd k0 n kd, upd k1 n v) := by
  unfold sX1_add
  rw [h, if_neg (nI_pos (by omega)), if_pos (show nI n < (80 : Int32) by rw [Int32.lt_iff_toInt_lt, nI_toInt (by omega), show (80 : Int32).toInt = 80 by decide]; omega), nI_clamp (by omega), nI_succ]
/-- the blanks behind an item -/
theorem ldk_PR_skip {I0 f : Nat → Int32} {first : Int32} {n d s : Nat} {x : RS} {y : LdkRd} (hs : (I0 1).toInt ≤ 160) (hn : 0 < n) (h : ldk_PRn I0 first n d s x y) : ldk_PRn I0 first n d s (upd x.1 2 (sX5_behindBlanks I0 f (x.1 2)), x.2) (sX7_skip y.1 f, y.2) := by
  obtain ⟨h1, h2, h3, h4, h5, h6, h7, h8, h9, h10, h11, h12, h13, h14⟩ := h
  obtain ⟨s1, s2, s3⟩ := ldk_skp (I0 := I0) (f := f) (J := y.1) hs h3 (by rw [h2]; exact h4)
  rw [h2] at s1 s2 s3
  have kp : ∀ {k : Nat}, k ≠ 15 → sX7_skip y.1 f k = y.1 k := fun hk => sk_keep y.1 f hk
  refine ⟨h1, ?_, ?_, ?_, ?_, ?_, ?_, ?_, ?_, h10, ?_, ?_, ?_, ?_⟩
  · dsimp only; rw [pk_us]; exact s1
  · dsimp only; rw [kp (by decide)]; exact h3
  · dsimp only; rw [pk_us]; omega
  · dsimp only; rw [pk_us]; exact s3 h5
  · dsimp only; rw [pk_us]; omega
  · dsimp only; rw [pk_un (by decide)]; exact h7
  · dsimp only; rw [pk_un (by decide)]; exact h8
  · dsimp only; rw [kp (by decide)]; exact h9
  · dsimp only; rw [kp (by decide)]; exact h11
  · dsimp only; rw [kp (by decide)]; exact h12
  · dsimp only; rw [kp (by decide)]; exact h13
  · dsimp only
    rw [kp (by decide)]
    intro q
    rcases h14 q with z | z
    · omega
    · exact Or.inr z
section LDKI2
variable {I0 f : Nat → Int32} {first : Int32} {n d s : Nat} {I I1 k0 k1 k2 : Nat → Int32} {k3 : Nat → Int64} {k4 k5 g5 : Nat → Int32} {g6 : Nat → Int64} {g7 g8 J q11 q12 q13 q16 q17 : Nat → Int32}
/-- a word: the reference's state is made from what was read -/
theorem ldk_wd {kd v p : Int32} {dp : Nat} {K : Int32 × (Nat → Int32) × (Nat → Int32) × (Nat → Int32) × (Nat → Int32)} {V' : LdkV} (hs : (I0 1).toInt ≤ 160) (h : ldk_PRn I0 first n d s (I, I1, k0, k1, k2, k3, k4, k5, g5, g6, g7, g8) (J, q11, q12, q13, q16, q17)) (hk : (kd = 0 ∧ dp = 1) ∨ (kd = 1 ∧ dp = 0 ∧ ¬ v = -1) ∨ (kd = 2 ∧ dp = 0 ∧ 20 ≤ v.toInt ∧ v.toInt ≤ 400))
    (hK : ldk_Wok (upd J 15 (J 15 + 1)) q11 q12 q13 K kd v p (if kd = 0 then 1 else 0)) (hp1 : (I 2).toInt + 2 ≤ p.toInt) (hp2 : p.toInt ≤ (I0 1).toInt)
    (hV : V' = (g5, (if kd = 0 then vp_updL g6 d (if (2000000001 : Int64) < g6 d + 1 then 2000000001 else g6 d + 1) else g6), (if kd = 1 then upd g7 d v else g7), (if kd = 2 then upd g8 d v else g8))) :
    n < 80 ∧ ldk_PRn I0 first (n + 1) d (s + dp) (upd (upd I 2 (I 2 + 1)) 2 p, upd I1 6 (nI (n + 1)), upd k0 n kd, upd k1 n v, k2, k3, k4, k5, V') (upd (upd K.2.1 15 (K.2.1 15 - 1 + 1)) 43 0, K.2.2.1, K.2.2.2.1, K.2.2.2.2, q16, q17) := by
  obtain ⟨h1, h2, h3, h4, h5, h6, h7, h8, h9, h10, h11, h12, h13, h14⟩ := h
  dsimp only at h1 h2 h3 h4 h5 h6 h7 h8 h9 h10 h11 h12 h13 h14
  obtain ⟨w1, w2, w3, w4, w5, w6, w7, w8⟩ := hK
  have hn : n < 80 := by omega
  have e14 : upd J 15 (J 15 + 1) 14 = nI n := by rw [pk_un (by decide)]; exact h11
  have e19 : upd J 15 (J 15 + 1) 19 = nI s := by rw [pk_un (by decide)]; exact h12
  rw [e14] at w3 w6 w7 w8
  rw [e19] at w4
  rw [nI_clamp (by omega)] at w6 w7 w8
  refine ⟨hn, ?_, ?_, ?_, ?_, ?_, ?_, ?_, ?_, ?_, ?_, ?_, ?_, ?_, ?_⟩
  · dsimp only
    exact ldk_PS_item (kd := kd) (v := v) (dp := dp) h1 hn hk rfl (by rw [w6, w7, w8, ← nI_succ]) hV
  · dsimp only; rw [pk_un (by decide), pk_us, pk_us, ldk_s1a, w2]
  · dsimp only; rw [pk_un (by decide), pk_un (by decide), w5 2 (by decide) (by decide) (by decide), pk_un (by decide)]; exact h3
  · dsimp only; rw [pk_us]; omega
  · dsimp only; rw [pk_us]; exact hp2
  · dsimp only; rw [pk_us]; omega
  · dsimp only; rw [pk_un (by decide), pk_un (by decide)]; exact h7
  · dsimp only; rw [pk_un (by decide), pk_un (by decide)]; exact h8
  · dsimp only; rw [pk_un (by decide), pk_un (by decide), w5 18 (by decide) (by decide) (by decide), pk_un (by decide)]; exact h9
  · dsimp only; rw [pk_us]
  · dsimp only; rw [pk_un (by decide), pk_un (by decide), w3, nI_succ]
  · dsimp only; rw [pk_un (by decide), pk_un (by decide), w4]
    rcases hk with ⟨q, q2⟩ | ⟨q, q2, -⟩ | ⟨q, q2, -⟩
    · rw [if_pos q, q2, nI_succ]
    · rw [if_neg (by rw [q]; decide), q2, Nat.add_zero, ldk_eq, ldk_ia (by rw [nI_toInt (by have := h1; obtain ⟨_, _, _, _, _, _, _, z, _⟩ := this; omega), ldk_t0']; omega) (by rw [nI_toInt (by have := h1; obtain ⟨_, _, _, _, _, _, _, z, _⟩ := this; omega), ldk_t0']; have := h1; obtain ⟨_, _, _, _, _, _, _, z, _⟩ := this; omega), ldk_t0']; omega
    · rw [if_neg (by rw [q]; decide), q2, Nat.add_zero, ldk_eq, ldk_ia (by rw [nI_toInt (by have := h1; obtain ⟨_, _, _, _, _, _, _, z, _⟩ := this; omega), ldk_t0']; omega) (by rw [nI_toInt (by have := h1; obtain ⟨_, _, _, _, _, _, _, z, _⟩ := this; omega), ldk_t0']; have := h1; obtain ⟨_, _, _, _, _, _, _, z, _⟩ := this; omega), ldk_t0']; omega
  · dsimp only; rw [pk_us]; exact Or.inl rfl
  · dsimp only; rw [pk_us]; exact fun z => absurd z (by decide)
end LDKI2
