/-! ===== what holds between two calls of the law ===== -/
def ldk_IV (S0 : Int) (x : GS) (A : LdkA) (It t0 : Nat → Int32) (y : LdkT) (Q : LdkQ) (xr : LdkR) (f1 : Nat → Int32) : Prop :=
  ∃ (n : Nat) (len : Int64), ldk_rel (nI n) len S0 x y ∧ ldk_PP A Q xr n len ∧ f1 = t0 ∧ y.1 2 = It 1 ∧ 0 ≤ (It 1).toInt ∧ (It 1).toInt ≤ 160 ∧ y.1 9 = nI n
theorem ldk_rel_J {z6 : Int32} {len : Int64} {S0 : Int} {x : GS} {J J' : Nat → Int32} {M : Nat → Int64} {g0 g1 g2 q39 q40 : Nat → Int32} {q41 : Nat → Int64} (h : ldk_rel z6 len S0 x (J, M, g0, g1, g2, q39, q40, q41)) (e : ∀ k, 20 ≤ k → k ≤ 42 → J' k = J k) : ldk_rel z6 len S0 x (J', M, g0, g1, g2, q39, q40, q41) := by
  obtain ⟨hA, hB, hC, hD, hP, h6, h7⟩ := h
  dsimp only at hA hB hC hD hP
  have e20 := e 20 (by decide) (by decide)
  have e21 := e 21 (by decide) (by decide)
  have e22 := e 22 (by decide) (by decide)
  have e23 := e 23 (by decide) (by decide)
  have e24 := e 24 (by decide) (by decide)
  have e26 := e 26 (by decide) (by decide)
  have e27 := e 27 (by decide) (by decide)
  have e28 := e 28 (by decide) (by decide)
  have e29 := e 29 (by decide) (by decide)
  have e30 := e 30 (by decide) (by decide)
  have e31 := e 31 (by decide) (by decide)
  have e38 := e 38 (by decide) (by decide)
  have e42 := e 42 (by decide) (by decide)
  refine ⟨ldk_eA_of hA e26 e27 e28 e30 e29 e20, ?_, ldk_eC_of hC e38 rfl rfl, ldk_eD_of hD e42, ?_, h6, h7⟩
  · dsimp only
    unfold ldk_eB ldk_eB0 at hB ⊢
    rw [e21, e22, e23, e24, e31]; exact hB
  · dsimp only
    rw [e21]; exact hP
section LDKV
variable {S0 : Int} {x : GS} {A : LdkA} {It t0 : Nat → Int32} {J J' : Nat → Int32} {M : Nat → Int64} {g0 g1 g2 q39 q40 : Nat → Int32} {q41 : Nat → Int64} {Q : LdkQ} {xr : LdkR} {f1 : Nat → Int32}
theorem ldk_IV_J (h : ldk_IV S0 x A It t0 (J, M, g0, g1, g2, q39, q40, q41) Q xr f1) (e : ∀ k, 20 ≤ k → k ≤ 42 → J' k = J k) (e2 : J' 2 = J 2) (e9 : J' 9 = J 9) : ldk_IV S0 x A It t0 (J', M, g0, g1, g2, q39, q40, q41) Q xr f1 := by
  obtain ⟨n, len, h1, h2, h3, h4, h5, h6, h7⟩ := h
  exact ⟨n, len, ldk_rel_J h1 e, h2, h3, e2.trans h4, h5, h6, e9.trans h7⟩
theorem ldk_IV_0 {v : Int32} (h : ldk_IV S0 x A It t0 (J, M, g0, g1, g2, q39, q40, q41) Q xr f1) : ldk_IV S0 x A It t0 (upd J 0 v, M, g0, g1, g2, q39, q40, q41) Q xr f1 :=
  ldk_IV_J h (fun k h1 _ => pk_un (by omega)) (pk_un (by decide)) (pk_un (by decide))
end LDKV
/-! the bytes of a word -/
theorem ldk_255 : ∀ i, i < 32 → (255#32 : BitVec 32).getLsbD i = decide (i < 8) := by decide
theorem ldk_255L : ∀ i, i < 32 → (255#64 : BitVec 64).getLsbD i = decide (i < 8) := by decide
theorem ldk_byte (w : Int64) (su : UInt64) (si : Int64) (n : Nat) (hn : n ≤ 56) (h1 : (su.toBitVec % 64).toNat = n) (h2 : (si.toBitVec.smod 64).toNat = n) : (w.toUInt64 >>> su).toInt64.toInt32 &&& 255 = ((w >>> si) &&& 255).toInt32 := by
  apply Int32.toBitVec_inj.mp
  have eL : ((w.toUInt64 >>> su).toInt64.toInt32 &&& 255).toBitVec = (w.toBitVec >>> n).signExtend 32 &&& 255#32 := by
    rw [Int32.toBitVec_and, Int64.toBitVec_toInt32, show (w.toUInt64 >>> su).toInt64.toBitVec = (w.toUInt64 >>> su).toBitVec from rfl, UInt64.toBitVec_shiftRight]
    show (w.toBitVec >>> (su.toBitVec % 64)).signExtend 32 &&& 255#32 = _
    rw [show w.toBitVec >>> (su.toBitVec % 64) = w.toBitVec >>> (su.toBitVec % 64).toNat from rfl, h1]
  have eR : (((w >>> si) &&& 255).toInt32).toBitVec = (w.toBitVec.sshiftRight n &&& 255#64).signExtend 32 := by
    rw [Int64.toBitVec_toInt32, Int64.toBitVec_and, Int64.toBitVec_shiftRight]
    show (w.toBitVec.sshiftRight (si.toBitVec.smod 64).toNat &&& 255#64).signExtend 32 = _
    rw [h2]
  rw [eL, eR]
  apply BitVec.eq_of_getLsbD_eq
  intro i hi
  rw [BitVec.getLsbD_and, BitVec.getLsbD_signExtend, BitVec.getLsbD_signExtend, BitVec.getLsbD_and, BitVec.getLsbD_ushiftRight, BitVec.getLsbD_sshiftRight, ldk_255 i hi, ldk_255L i hi]
  by_cases c : i < 8
  · have a1 : i < 64 := by omega
    have a2 : n + i < 64 := by omega
    have a3 : ¬ 64 ≤ i := by omega
    simp [c, hi, a1, a2, a3]
  · have a3 : ¬ 64 ≤ i := by omega
    simp [c, hi, a3]
theorem ldk_bt {w : Int64} {k : Nat} (hk : k ≤ 7) : sX5_byteOf w (nI k) = (b7 w (nI k)).toInt32 ∧ 0 ≤ (b7 w (nI k)).toInt ∧ (b7 w (nI k)).toInt ≤ 255 ∧ (sX5_byteOf w (nI k)).toInt = (b7 w (nI k)).toInt := by
  have e : sX5_byteOf w (nI k) = (b7 w (nI k)).toInt32 := by
    unfold sX5_byteOf b7
    have hc : k = 0 ∨ k = 1 ∨ k = 2 ∨ k = 3 ∨ k = 4 ∨ k = 5 ∨ k = 6 ∨ k = 7 := by omega
    rcases hc with z | z | z | z | z | z | z | z <;> subst z
    · exact ldk_byte w _ _ 0 (by decide) (by decide) (by decide)
    · exact ldk_byte w _ _ 8 (by decide) (by decide) (by decide)
    · exact ldk_byte w _ _ 16 (by decide) (by decide) (by decide)
    · exact ldk_byte w _ _ 24 (by decide) (by decide) (by decide)
    · exact ldk_byte w _ _ 32 (by decide) (by decide) (by decide)
    · exact ldk_byte w _ _ 40 (by decide) (by decide) (by decide)
    · exact ldk_byte w _ _ 48 (by decide) (by decide) (by decide)
    · exact ldk_byte w _ _ 56 (by decide) (by decide) (by decide)
  have hb : 0 ≤ (b7 w (nI k)).toInt ∧ (b7 w (nI k)).toInt ≤ 255 := by
    unfold b7
    generalize w >>> (((8 : Int32) * nI k).toInt64 &&& 63) = v
    have hn : (v &&& 255).toBitVec.toNat ≤ 255 := by
      rw [Int64.toBitVec_and, BitVec.toNat_and]
      exact Nat.and_le_right
    have ht : (v &&& 255).toInt = ((v &&& 255).toBitVec.toNat : Int) := by
      show (v &&& 255).toBitVec.toInt = _
      exact BitVec.toInt_eq_toNat_of_lt (by omega)
    rw [ht]; omega
  exact ⟨e, hb.1, hb.2, by rw [e]; exact FP.Core.int64_toInt32 (by omega) (by omega)⟩
theorem ldk_pc {w : Int64} {nn : Nat} (hn : nn ≤ 8) : ∀ (m k : Nat), k ≤ 8 → pcF w (nI nn) m (nI k) = pc7F w (nI nn) m (nI k) := by
  intro m
  induction m with
  | zero => intro k _; rfl
  | succ m ih =>
    intro k hk8
    rw [pcF, pc7F]
    by_cases c : nI nn ≤ nI k
    · rw [if_pos c, if_pos c]
    · rw [if_neg c, if_neg c]
      have hk : k < nn := by rw [nI_leI (by omega) (by omega)] at c; omega
      obtain ⟨e, b0, b1, e2⟩ := ldk_bt (w := w) (k := k) (by omega)
      have l32 : sX5_byteOf w (nI k) < 32 ↔ b7 w (nI k) < 32 := by rw [Int32.lt_iff_toInt_lt, Int64.lt_iff_toInt_lt, e2, show (32 : Int32).toInt = 32 by decide, show (32 : Int64).toInt = 32 by decide]
      have l126 : sX5_byteOf w (nI k) ≤ 126 ↔ b7 w (nI k) ≤ 126 := by rw [Int32.le_iff_toInt_le, Int64.le_iff_toInt_le, e2, show (126 : Int32).toInt = 126 by decide, show (126 : Int64).toInt = 126 by decide]
      by_cases c2 : b7 w (nI k) < 32
      · rw [if_pos c2, if_pos (l32.mpr c2)]
      · rw [if_neg c2, if_neg (fun z => c2 (l32.mp z))]
        by_cases c3 : b7 w (nI k) ≤ 126
        · rw [if_pos c3, if_pos (l126.mpr c3), ← nI_succ]
          exact ih (k + 1) (by omega)
        · rw [if_neg c3, if_neg (fun z => c3 (l126.mp z))]
theorem ldk_pa {w : Int64} : ∀ (c m : Nat) (It t J f : Nat → Int32), c < m → c ≤ 8 → J 2 = It 1 → f = t → 0 ≤ (It 1).toInt → (It 1).toInt + c ≤ 160 →
    (pa7F w m (nI c - 1) J f).1 2 = (paF w m (nI c - 1) It t).1 1 ∧ (pa7F w m (nI c - 1) J f).2 = (paF w m (nI c - 1) It t).2 ∧ ((paF w m (nI c - 1) It t).1 1).toInt = (It 1).toInt + c ∧ ∀ k, k ≠ 2 → (pa7F w m (nI c - 1) J f).1 k = J k := by
  intro c
  induction c with
  | zero =>
    intro m It t J f hm _ h2 hf h0 h1
    obtain ⟨m', rfl⟩ : ∃ m', m = m' + 1 := ⟨m - 1, by omega⟩
    have e1 : pa7F w (m' + 1) (nI 0 - 1) J f = (J, f) := if_pos (by decide)
    have e2 : paF w (m' + 1) (nI 0 - 1) It t = (It, t) := if_pos (by decide)
    rw [e1, e2]
    exact ⟨h2, hf, by dsimp only; omega, fun _ _ => rfl⟩
  | succ c ih =>
    intro m It t J f hm hc h2 hf h0 h1
    obtain ⟨m', rfl⟩ : ∃ m', m = m' + 1 := ⟨m - 1, by omega⟩
    subst hf
    have ei : nI (c + 1) - 1 = nI c := by
      rw [ldk_nI (by omega), nI_m1 (by omega)]; omega
    have hn : ¬ nI c < 0 := nI_pos (by omega)
    obtain ⟨eb, -, -, -⟩ := ldk_bt (w := w) (k := c) (by omega)
    have ea : sX5_add It f (sX5_byteOf w (nI c)) = (upd It 1 (It 1 + 1), upd f (It 1).toNatClampNeg (sX5_byteOf w (nI c))) := by
      unfold sX5_add
      rw [if_neg (by rw [Int32.lt_iff_toInt_lt, ldk_t0']; omega), if_neg (by rw [Int32.le_iff_toInt_le, show (160 : Int32).toInt = 160 by decide]; omega)]
    have e1 : pa7F w (m' + 1) (nI c) J f = pa7F w m' (nI c + (-1)) (upd J 2 (J 2 + 1)) (upd f (J 2).toNatClampNeg (b7 w (nI c)).toInt32) := if_neg hn
    have e2 : paF w (m' + 1) (nI c) It f = paF w m' (nI c + (-1)) (sX5_add It f (sX5_byteOf w (nI c))).1 (sX5_add It f (sX5_byteOf w (nI c))).2 := if_neg hn
    have e3 : (It 1 + 1).toInt = (It 1).toInt + 1 := by rw [ldk_ia (by rw [ldk_t1']; omega) (by rw [ldk_t1']; omega), ldk_t1']
    rw [ei, e1, e2, ea, ldk_m1 (by omega)]
    dsimp only
    have i := ih m' (upd It 1 (It 1 + 1)) (upd f (It 1).toNatClampNeg (sX5_byteOf w (nI c))) (upd J 2 (J 2 + 1)) (upd f (J 2).toNatClampNeg (b7 w (nI c)).toInt32) (by omega) (by omega) (by rw [pk_us, pk_us, h2]) (by rw [h2, eb]) (by rw [pk_us, e3]; omega) (by rw [pk_us, e3]; omega)
    rw [pk_us, e3] at i
    exact ⟨i.1, i.2.1, by rw [i.2.2.1]; omega, fun k hk => (i.2.2.2 k hk).trans (pk_un hk)⟩
section LDKV2
variable {S0 : Int} {x : GS} {A : LdkA} {It t0 : Nat → Int32} {J : Nat → Int32} {M : Nat → Int64} {g0 g1 g2 q39 q40 : Nat → Int32} {q41 : Nat → Int64} {Q : LdkQ} {xr : LdkR} {f1 : Nat → Int32}
theorem ldk_c_type (w : Int64) (a : Int32) (h : ldk_IV S0 x A It t0 (J, M, g0, g1, g2, q39, q40, q41) Q xr f1) :
    (sX6_type It t0 w a).1 = (sX7_type J f1 w a).1 ∧ ldk_IV S0 x A (sX6_type It t0 w a).2.1 (sX6_type It t0 w a).2.2 ((sX7_type J f1 w a).2.1, M, g0, g1, g2, q39, q40, q41) Q xr (sX7_type J f1 w a).2.2 := by
  have hI := h
  obtain ⟨n, len, h1, h2, h3, h4, h5, h6, h7⟩ := h
  dsimp only at h4 h7
  subst h3
  unfold sX6_type sX5_put sX7_type
  by_cases c1 : a < 1
  · rw [if_pos c1, if_pos c1]; exact ⟨rfl, ldk_IV_0 hI⟩
  rw [if_neg c1, if_neg c1]
  by_cases c2 : (8 : Int32) < a
  · rw [if_pos c2, if_pos c2]; exact ⟨rfl, ldk_IV_0 hI⟩
  rw [if_neg c2, if_neg c2, h4]
  by_cases c3 : It 1 + a ≤ 160
  · rw [if_pos c3, if_pos c3]
    rw [Int32.lt_iff_toInt_lt, ldk_t1'] at c1
    rw [Int32.lt_iff_toInt_lt, show (8 : Int32).toInt = 8 by decide] at c2
    obtain ⟨nn, n1, n2, e⟩ := jx_natR (x := a) (a := 1) (b := 8) (by omega) (by omega)
    subst e
    rw [Int32.le_iff_toInt_le, ldk_ia (by rw [nI_toInt (by omega)]; omega) (by rw [nI_toInt (by omega)]; omega), nI_toInt (by omega), show (160 : Int32).toInt = 160 by decide] at c3
    have hpc := ldk_pc (w := w) (nn := nn) n2 9 0 (by omega)
    rw [show nI 0 = 0 from rfl] at hpc
    rw [hpc]
    by_cases c4 : pc7F w (nI nn) 9 0 = 0
    · rw [if_pos c4, if_pos c4]; exact ⟨rfl, ldk_IV_0 hI⟩
    · rw [if_neg c4, if_neg c4]
      obtain ⟨p1, p2, p3, p4⟩ := ldk_pa (w := w) nn (nn + 1) It f1 (upd J 0 0) f1 (by omega) n2 (by rw [pk_un (by decide)]; exact h4) rfl h5 c3
      rw [nI_clamp (by omega)]
      dsimp only
      generalize pa7F w (nn + 1) (nI nn - 1) (upd J 0 0) f1 = P7 at p1 p2 p4 ⊢
      generalize paF w (nn + 1) (nI nn - 1) It f1 = P5 at p1 p2 p3 ⊢
      refine ⟨rfl, n, len, ldk_rel_J h1 (fun k a b => (p4 k (by omega)).trans (pk_un (by omega))), h2, p2, p1, by rw [p3]; omega, by rw [p3]; exact c3, (p4 9 (by decide)).trans ((pk_un (by decide)).trans h7)⟩
  · rw [if_neg c3, if_neg c3]; exact ⟨rfl, ldk_IV_0 hI⟩
end LDKV2
