theorem law_len {L0_ k : Nat} (hL : L0_ ≤ 256) (hk : 4 * k ≤ L0_) : (Int32.ofNat L0_ - 4).toInt = (L0_ : Int) - 4 ∧ (nI (4 * k)).toInt = 4 * (k : Int) := by
  have e : Int32.ofNat L0_ = nI L0_ := rfl
  have k4 : (4 : Int32).toInt = 4 := by decide
  refine ⟨?_, by rw [nI_toInt (by omega)]; omega⟩
  rw [e, ldk_is (by rw [nI_toInt (by omega), k4]; omega) (by rw [nI_toInt (by omega), k4]; omega), nI_toInt (by omega), k4]
theorem law_lt {L0_ k : Nat} (hk : 4 * k + 4 ≤ L0_) (hL : L0_ ≤ 256) : ¬ Int32.ofNat L0_ - 4 < nI (4 * k) := by
  obtain ⟨a, b⟩ := law_len hL (show 4 * k ≤ L0_ by omega)
  rw [Int32.lt_iff_toInt_lt, a, b]; omega
/-- behind a call: the next four ints -/
theorem law_next {p : Program} {l : Launch} {e : Env} {s : State} {m : MethodId} {below : List Frame} {meth : Method} {c : Code} {D : va_G} {cI cJ cZ cD : ClassId} {b h g o L0_ k : Nat} {xs : Nat → Int32} {tA : Nat} {sa : Nat → Nat} (C0 : law_C p s m meth c b L0_ xs D cI cJ cZ cD tA sa) (hk : 4 * k + 4 ≤ L0_) (K : law_J 23 (k + 1) (50 + (k + 1)) (3260 + 6 * (k + 1)) (12800 * ((k + 1 : Nat) : Int)) p l e s m below meth c D cI cJ cZ cD b h g o) : law_J 959 k (50 + k + 1) (3260 + 6 * k + 6) (12800 * ((k : Int) + 1)) p l e s m below meth c D cI cJ cZ cD b h g o := by
  intro R I L R0 I0 L0 R0_0 I0_0 L0_0 f0_0_0 R0_1 I0_1 L0_1 f0_1_0 f0_1_1 f0_1_2 f0_1_3 f0_1_4 f0_1_5 f0_5 f0_6 f0_7 f0_8 R1 I1 L1 R2 I2 L2 f2_0 f2_1 f2_2 R3 I3 L3 f3_0 f3_1 R4 I4 L4 f4_0 f4_1 f4_2 f4_3 f4_4 f4_5 RM J M q1 q3 q4 q5 q6 q7 q8 q11 q12 q13 q16 q17 q35 q36 q37 q39 q40 q41 fo H locs ls hIV hP hD hS hl
  obtain ⟨hx, hb, hr, hml, hown, hts, hXs, hbl, hlocks, hK, hY, hL⟩ := C0
  obtain ⟨v, ev⟩ : ∃ y : Int32, y = nI (4 * k) + (4 : Int32) := ⟨_, rfl⟩
  refine lv_iinc (v := v) (lv' := [(4, .int v), (0, .ref b), (1, .ref h), (2, .ref g), (3, .ref o)]) hx hb dL_law_959 hl (k := 4) rfl (by rw [ev]; rfl) (by decide) rfl (fun ls hl => ?_)
  have e2 : v = nI (4 * (k + 1)) := by
    rw [ev, ldk_nI (by omega), ldk_ia (by rw [nI_toInt (by omega), show (4 : Int32).toInt = 4 by decide]; omega) (by rw [nI_toInt (by omega), show (4 : Int32).toInt = 4 by decide]; omega), nI_toInt (by omega), show (4 : Int32).toInt = 4 by decide]; omega
  subst e2
  refine lv_goto (tgt := 23) hx hb dL_law_962 (by decide) ?_
  refine W.widen (k := 50 + (k + 1)) (n := 3260 + 6 * (k + 1)) (by omega) (by omega) ?_
  exact K R I L R0 I0 L0 R0_0 I0_0 L0_0 f0_0_0 R0_1 I0_1 L0_1 f0_1_0 f0_1_1 f0_1_2 f0_1_3 f0_1_4 f0_1_5 f0_5 f0_6 f0_7 f0_8 R1 I1 L1 R2 I2 L2 f2_0 f2_1 f2_2 R3 I3 L3 f3_0 f3_1 R4 I4 L4 f4_0 f4_1 f4_2 f4_3 f4_4 f4_5 RM J M q1 q3 q4 q5 q6 q7 q8 q11 q12 q13 q16 q17 q35 q36 q37 q39 q40 q41 fo _ _ _ (ldk_IV_w (by omega) hIV) hP hD hS (lv_sub hl [1, 2, 3, 4, 0] rfl)
set_option maxHeartbeats 4000000 in
set_option maxRecDepth 100000 in
theorem law_step {p : Program} {l : Launch} {e : Env} {s : State} {m : MethodId} {below : List Frame} {meth : Method} {c : Code} {D : va_G} {cI cJ cZ cD : ClassId} {b h g o L0_ k : Nat} {xs : Nat → Int32} {tA : Nat} {sa : Nat → Nat} (hlt : l.stackTraces = false) (C0 : law_C p s m meth c b L0_ xs D cI cJ cZ cD tA sa) (hk : 4 * k + 4 ≤ L0_) (KE : law_J 959 k (50 + k + 1) (3260 + 6 * k + 6) (12800 * ((k : Int) + 1)) p l e s m below meth c D cI cJ cZ cD b h g o) : law_J 23 k (50 + k) (3260 + 6 * k) (12800 * (k : Int)) p l e s m below meth c D cI cJ cZ cD b h g o := by
  intro R I L R0 I0 L0 R0_0 I0_0 L0_0 f0_0_0 R0_1 I0_1 L0_1 f0_1_0 f0_1_1 f0_1_2 f0_1_3 f0_1_4 f0_1_5 f0_5 f0_6 f0_7 f0_8 R1 I1 L1 R2 I2 L2 f2_0 f2_1 f2_2 R3 I3 L3 f3_0 f3_1 R4 I4 L4 f4_0 f4_1 f4_2 f4_3 f4_4 f4_5 RM J M q1 q3 q4 q5 q6 q7 q8 q11 q12 q13 q16 q17 q35 q36 q37 q39 q40 q41 fo H locs ls hIV hP hD hS hl
  obtain ⟨hx, hb, hr, hml, hown, hts, hXs, hbl, hlocks, hK, hY, hL⟩ := id C0
  have hbA : ¬ (fun q : Nat => s.heap.size ≤ q) b := Nat.not_le.mpr hbl
  refine lv_iload hx hb dL_law_23 (lv_at hl 4 rfl) ?_
  refine lv_aload_n hx hb dL_law_25 rfl (lv_at hl 0 rfl) ?_
  refine va_slen hx hb hXs hbl hbA hS dL_law_26 ?_
  refine lv_iconst (v := 4) hx hb dL_law_27 (by decide) ?_
  refine lv_isub hx hb dL_law_28 ?_
  refine lv_icmp_gt (tgt := 965) hx hb dL_law_29 (by decide) (fun c_1 => ?_) (fun c_1 => ?_)
  · skip
    exact absurd c_1 (law_lt hk hL)
  · skip
    refine lv_aload_n hx hb dL_law_32 rfl (lv_at hl 0 rfl) ?_
    refine lv_iload hx hb dL_law_33 (lv_at hl 4 rfl) ?_
    refine va_sld hx hb hXs hbl hbA hS (law_ix0 hk hL) dL_law_35 ?_
    refine lv_bipush (v := 31) hx hb dL_law_36 (by decide) ?_
    refine lv_iand hx hb dL_law_38 ?_
    by_cases c_2 : ((xs (nI (4 * k)).toNatClampNeg) &&& (31 : Int32)) = (0 : Int32)
    · skip
      refine lv_tableIn (off := 97) (tgt := 136) hx hb dL_law_39 (by rw [c_2]; decide) (by rw [c_2]; decide) (by rw [c_2]; rfl) (by decide) ?_
      exact law_case0 hlt C0 hk KE R I L R0 I0 L0 R0_0 I0_0 L0_0 f0_0_0 R0_1 I0_1 L0_1 f0_1_0 f0_1_1 f0_1_2 f0_1_3 f0_1_4 f0_1_5 f0_5 f0_6 f0_7 f0_8 R1 I1 L1 R2 I2 L2 f2_0 f2_1 f2_2 R3 I3 L3 f3_0 f3_1 R4 I4 L4 f4_0 f4_1 f4_2 f4_3 f4_4 f4_5 RM J M q1 q3 q4 q5 q6 q7 q8 q11 q12 q13 q16 q17 q35 q36 q37 q39 q40 q41 fo _ _ _ hIV hP hD hS hl
    by_cases c_3 : ((xs (nI (4 * k)).toNatClampNeg) &&& (31 : Int32)) = (1 : Int32)
    · skip
      refine lv_tableIn (off := 166) (tgt := 205) hx hb dL_law_39 (by rw [c_3]; decide) (by rw [c_3]; decide) (by rw [c_3]; rfl) (by decide) ?_
      exact law_case1 hlt C0 hk KE R I L R0 I0 L0 R0_0 I0_0 L0_0 f0_0_0 R0_1 I0_1 L0_1 f0_1_0 f0_1_1 f0_1_2 f0_1_3 f0_1_4 f0_1_5 f0_5 f0_6 f0_7 f0_8 R1 I1 L1 R2 I2 L2 f2_0 f2_1 f2_2 R3 I3 L3 f3_0 f3_1 R4 I4 L4 f4_0 f4_1 f4_2 f4_3 f4_4 f4_5 RM J M q1 q3 q4 q5 q6 q7 q8 q11 q12 q13 q16 q17 q35 q36 q37 q39 q40 q41 fo _ _ _ hIV hP hD hS hl
    by_cases c_4 : ((xs (nI (4 * k)).toNatClampNeg) &&& (31 : Int32)) = (2 : Int32)
    · skip
      refine lv_tableIn (off := 179) (tgt := 218) hx hb dL_law_39 (by rw [c_4]; decide) (by rw [c_4]; decide) (by rw [c_4]; rfl) (by decide) ?_
      exact law_case2 hlt C0 hk KE R I L R0 I0 L0 R0_0 I0_0 L0_0 f0_0_0 R0_1 I0_1 L0_1 f0_1_0 f0_1_1 f0_1_2 f0_1_3 f0_1_4 f0_1_5 f0_5 f0_6 f0_7 f0_8 R1 I1 L1 R2 I2 L2 f2_0 f2_1 f2_2 R3 I3 L3 f3_0 f3_1 R4 I4 L4 f4_0 f4_1 f4_2 f4_3 f4_4 f4_5 RM J M q1 q3 q4 q5 q6 q7 q8 q11 q12 q13 q16 q17 q35 q36 q37 q39 q40 q41 fo _ _ _ hIV hP hD hS hl
    by_cases c_5 : ((xs (nI (4 * k)).toNatClampNeg) &&& (31 : Int32)) = (3 : Int32)
    · skip
      refine lv_tableIn (off := 193) (tgt := 232) hx hb dL_law_39 (by rw [c_5]; decide) (by rw [c_5]; decide) (by rw [c_5]; rfl) (by decide) ?_
      exact law_case3 hlt C0 hk KE R I L R0 I0 L0 R0_0 I0_0 L0_0 f0_0_0 R0_1 I0_1 L0_1 f0_1_0 f0_1_1 f0_1_2 f0_1_3 f0_1_4 f0_1_5 f0_5 f0_6 f0_7 f0_8 R1 I1 L1 R2 I2 L2 f2_0 f2_1 f2_2 R3 I3 L3 f3_0 f3_1 R4 I4 L4 f4_0 f4_1 f4_2 f4_3 f4_4 f4_5 RM J M q1 q3 q4 q5 q6 q7 q8 q11 q12 q13 q16 q17 q35 q36 q37 q39 q40 q41 fo _ _ _ hIV hP hD hS hl
    by_cases c_6 : ((xs (nI (4 * k)).toNatClampNeg) &&& (31 : Int32)) = (4 : Int32)
    · skip
      refine lv_tableIn (off := 262) (tgt := 301) hx hb dL_law_39 (by rw [c_6]; decide) (by rw [c_6]; decide) (by rw [c_6]; rfl) (by decide) ?_
      exact law_case4 hlt C0 hk KE R I L R0 I0 L0 R0_0 I0_0 L0_0 f0_0_0 R0_1 I0_1 L0_1 f0_1_0 f0_1_1 f0_1_2 f0_1_3 f0_1_4 f0_1_5 f0_5 f0_6 f0_7 f0_8 R1 I1 L1 R2 I2 L2 f2_0 f2_1 f2_2 R3 I3 L3 f3_0 f3_1 R4 I4 L4 f4_0 f4_1 f4_2 f4_3 f4_4 f4_5 RM J M q1 q3 q4 q5 q6 q7 q8 q11 q12 q13 q16 q17 q35 q36 q37 q39 q40 q41 fo _ _ _ hIV hP hD hS hl
    by_cases c_7 : ((xs (nI (4 * k)).toNatClampNeg) &&& (31 : Int32)) = (5 : Int32)
    · skip
      refine lv_tableIn (off := 275) (tgt := 314) hx hb dL_law_39 (by rw [c_7]; decide) (by rw [c_7]; decide) (by rw [c_7]; rfl) (by decide) ?_
      exact law_case5 hlt C0 hk KE R I L R0 I0 L0 R0_0 I0_0 L0_0 f0_0_0 R0_1 I0_1 L0_1 f0_1_0 f0_1_1 f0_1_2 f0_1_3 f0_1_4 f0_1_5 f0_5 f0_6 f0_7 f0_8 R1 I1 L1 R2 I2 L2 f2_0 f2_1 f2_2 R3 I3 L3 f3_0 f3_1 R4 I4 L4 f4_0 f4_1 f4_2 f4_3 f4_4 f4_5 RM J M q1 q3 q4 q5 q6 q7 q8 q11 q12 q13 q16 q17 q35 q36 q37 q39 q40 q41 fo _ _ _ hIV hP hD hS hl
    by_cases c_8 : ((xs (nI (4 * k)).toNatClampNeg) &&& (31 : Int32)) = (6 : Int32)
    · skip
      refine lv_tableIn (off := 288) (tgt := 327) hx hb dL_law_39 (by rw [c_8]; decide) (by rw [c_8]; decide) (by rw [c_8]; rfl) (by decide) ?_
      exact law_case6 hlt C0 hk KE R I L R0 I0 L0 R0_0 I0_0 L0_0 f0_0_0 R0_1 I0_1 L0_1 f0_1_0 f0_1_1 f0_1_2 f0_1_3 f0_1_4 f0_1_5 f0_5 f0_6 f0_7 f0_8 R1 I1 L1 R2 I2 L2 f2_0 f2_1 f2_2 R3 I3 L3 f3_0 f3_1 R4 I4 L4 f4_0 f4_1 f4_2 f4_3 f4_4 f4_5 RM J M q1 q3 q4 q5 q6 q7 q8 q11 q12 q13 q16 q17 q35 q36 q37 q39 q40 q41 fo _ _ _ hIV hP hD hS hl
    by_cases c_9 : ((xs (nI (4 * k)).toNatClampNeg) &&& (31 : Int32)) = (7 : Int32)
    · skip
      refine lv_tableIn (off := 371) (tgt := 410) hx hb dL_law_39 (by rw [c_9]; decide) (by rw [c_9]; decide) (by rw [c_9]; rfl) (by decide) ?_
      exact law_case7 hlt C0 hk KE R I L R0 I0 L0 R0_0 I0_0 L0_0 f0_0_0 R0_1 I0_1 L0_1 f0_1_0 f0_1_1 f0_1_2 f0_1_3 f0_1_4 f0_1_5 f0_5 f0_6 f0_7 f0_8 R1 I1 L1 R2 I2 L2 f2_0 f2_1 f2_2 R3 I3 L3 f3_0 f3_1 R4 I4 L4 f4_0 f4_1 f4_2 f4_3 f4_4 f4_5 RM J M q1 q3 q4 q5 q6 q7 q8 q11 q12 q13 q16 q17 q35 q36 q37 q39 q40 q41 fo _ _ _ hIV hP hD hS hl
    by_cases c_10 : ((xs (nI (4 * k)).toNatClampNeg) &&& (31 : Int32)) = (8 : Int32)
    · skip
      refine lv_tableIn (off := 454) (tgt := 493) hx hb dL_law_39 (by rw [c_10]; decide) (by rw [c_10]; decide) (by rw [c_10]; rfl) (by decide) ?_
      exact law_case8 hlt C0 hk KE R I L R0 I0 L0 R0_0 I0_0 L0_0 f0_0_0 R0_1 I0_1 L0_1 f0_1_0 f0_1_1 f0_1_2 f0_1_3 f0_1_4 f0_1_5 f0_5 f0_6 f0_7 f0_8 R1 I1 L1 R2 I2 L2 f2_0 f2_1 f2_2 R3 I3 L3 f3_0 f3_1 R4 I4 L4 f4_0 f4_1 f4_2 f4_3 f4_4 f4_5 RM J M q1 q3 q4 q5 q6 q7 q8 q11 q12 q13 q16 q17 q35 q36 q37 q39 q40 q41 fo _ _ _ hIV hP hD hS hl
    by_cases c_11 : ((xs (nI (4 * k)).toNatClampNeg) &&& (31 : Int32)) = (9 : Int32)
    · skip
      refine lv_tableIn (off := 495) (tgt := 534) hx hb dL_law_39 (by rw [c_11]; decide) (by rw [c_11]; decide) (by rw [c_11]; rfl) (by decide) ?_
      exact law_case9 hlt C0 hk KE R I L R0 I0 L0 R0_0 I0_0 L0_0 f0_0_0 R0_1 I0_1 L0_1 f0_1_0 f0_1_1 f0_1_2 f0_1_3 f0_1_4 f0_1_5 f0_5 f0_6 f0_7 f0_8 R1 I1 L1 R2 I2 L2 f2_0 f2_1 f2_2 R3 I3 L3 f3_0 f3_1 R4 I4 L4 f4_0 f4_1 f4_2 f4_3 f4_4 f4_5 RM J M q1 q3 q4 q5 q6 q7 q8 q11 q12 q13 q16 q17 q35 q36 q37 q39 q40 q41 fo _ _ _ hIV hP hD hS hl
    by_cases c_12 : ((xs (nI (4 * k)).toNatClampNeg) &&& (31 : Int32)) = (10 : Int32)
    · skip
      refine lv_tableIn (off := 508) (tgt := 547) hx hb dL_law_39 (by rw [c_12]; decide) (by rw [c_12]; decide) (by rw [c_12]; rfl) (by decide) ?_
      exact law_case10 hlt C0 hk KE R I L R0 I0 L0 R0_0 I0_0 L0_0 f0_0_0 R0_1 I0_1 L0_1 f0_1_0 f0_1_1 f0_1_2 f0_1_3 f0_1_4 f0_1_5 f0_5 f0_6 f0_7 f0_8 R1 I1 L1 R2 I2 L2 f2_0 f2_1 f2_2 R3 I3 L3 f3_0 f3_1 R4 I4 L4 f4_0 f4_1 f4_2 f4_3 f4_4 f4_5 RM J M q1 q3 q4 q5 q6 q7 q8 q11 q12 q13 q16 q17 q35 q36 q37 q39 q40 q41 fo _ _ _ hIV hP hD hS hl
    by_cases c_13 : ((xs (nI (4 * k)).toNatClampNeg) &&& (31 : Int32)) = (11 : Int32)
    · skip
      refine lv_tableIn (off := 565) (tgt := 604) hx hb dL_law_39 (by rw [c_13]; decide) (by rw [c_13]; decide) (by rw [c_13]; rfl) (by decide) ?_
      exact law_case11 hlt C0 hk KE R I L R0 I0 L0 R0_0 I0_0 L0_0 f0_0_0 R0_1 I0_1 L0_1 f0_1_0 f0_1_1 f0_1_2 f0_1_3 f0_1_4 f0_1_5 f0_5 f0_6 f0_7 f0_8 R1 I1 L1 R2 I2 L2 f2_0 f2_1 f2_2 R3 I3 L3 f3_0 f3_1 R4 I4 L4 f4_0 f4_1 f4_2 f4_3 f4_4 f4_5 RM J M q1 q3 q4 q5 q6 q7 q8 q11 q12 q13 q16 q17 q35 q36 q37 q39 q40 q41 fo _ _ _ hIV hP hD hS hl
    by_cases c_14 : ((xs (nI (4 * k)).toNatClampNeg) &&& (31 : Int32)) = (12 : Int32)
    · skip
      refine lv_tableIn (off := 598) (tgt := 637) hx hb dL_law_39 (by rw [c_14]; decide) (by rw [c_14]; decide) (by rw [c_14]; rfl) (by decide) ?_
      exact law_case12 hlt C0 hk KE R I L R0 I0 L0 R0_0 I0_0 L0_0 f0_0_0 R0_1 I0_1 L0_1 f0_1_0 f0_1_1 f0_1_2 f0_1_3 f0_1_4 f0_1_5 f0_5 f0_6 f0_7 f0_8 R1 I1 L1 R2 I2 L2 f2_0 f2_1 f2_2 R3 I3 L3 f3_0 f3_1 R4 I4 L4 f4_0 f4_1 f4_2 f4_3 f4_4 f4_5 RM J M q1 q3 q4 q5 q6 q7 q8 q11 q12 q13 q16 q17 q35 q36 q37 q39 q40 q41 fo _ _ _ hIV hP hD hS hl
    by_cases c_15 : ((xs (nI (4 * k)).toNatClampNeg) &&& (31 : Int32)) = (13 : Int32)
    · skip
      refine lv_tableIn (off := 639) (tgt := 678) hx hb dL_law_39 (by rw [c_15]; decide) (by rw [c_15]; decide) (by rw [c_15]; rfl) (by decide) ?_
      exact law_case13 hlt C0 hk KE R I L R0 I0 L0 R0_0 I0_0 L0_0 f0_0_0 R0_1 I0_1 L0_1 f0_1_0 f0_1_1 f0_1_2 f0_1_3 f0_1_4 f0_1_5 f0_5 f0_6 f0_7 f0_8 R1 I1 L1 R2 I2 L2 f2_0 f2_1 f2_2 R3 I3 L3 f3_0 f3_1 R4 I4 L4 f4_0 f4_1 f4_2 f4_3 f4_4 f4_5 RM J M q1 q3 q4 q5 q6 q7 q8 q11 q12 q13 q16 q17 q35 q36 q37 q39 q40 q41 fo _ _ _ hIV hP hD hS hl
    by_cases c_16 : ((xs (nI (4 * k)).toNatClampNeg) &&& (31 : Int32)) = (14 : Int32)
    · skip
      refine lv_tableIn (off := 652) (tgt := 691) hx hb dL_law_39 (by rw [c_16]; decide) (by rw [c_16]; decide) (by rw [c_16]; rfl) (by decide) ?_
      exact law_case14 hlt C0 hk KE R I L R0 I0 L0 R0_0 I0_0 L0_0 f0_0_0 R0_1 I0_1 L0_1 f0_1_0 f0_1_1 f0_1_2 f0_1_3 f0_1_4 f0_1_5 f0_5 f0_6 f0_7 f0_8 R1 I1 L1 R2 I2 L2 f2_0 f2_1 f2_2 R3 I3 L3 f3_0 f3_1 R4 I4 L4 f4_0 f4_1 f4_2 f4_3 f4_4 f4_5 RM J M q1 q3 q4 q5 q6 q7 q8 q11 q12 q13 q16 q17 q35 q36 q37 q39 q40 q41 fo _ _ _ hIV hP hD hS hl
    by_cases c_17 : ((xs (nI (4 * k)).toNatClampNeg) &&& (31 : Int32)) = (15 : Int32)
    · skip
      refine lv_tableIn (off := 693) (tgt := 732) hx hb dL_law_39 (by rw [c_17]; decide) (by rw [c_17]; decide) (by rw [c_17]; rfl) (by decide) ?_
      exact law_case15 hlt C0 hk KE R I L R0 I0 L0 R0_0 I0_0 L0_0 f0_0_0 R0_1 I0_1 L0_1 f0_1_0 f0_1_1 f0_1_2 f0_1_3 f0_1_4 f0_1_5 f0_5 f0_6 f0_7 f0_8 R1 I1 L1 R2 I2 L2 f2_0 f2_1 f2_2 R3 I3 L3 f3_0 f3_1 R4 I4 L4 f4_0 f4_1 f4_2 f4_3 f4_4 f4_5 RM J M q1 q3 q4 q5 q6 q7 q8 q11 q12 q13 q16 q17 q35 q36 q37 q39 q40 q41 fo _ _ _ hIV hP hD hS hl
    by_cases c_18 : ((xs (nI (4 * k)).toNatClampNeg) &&& (31 : Int32)) = (16 : Int32)
    · skip
      refine lv_tableIn (off := 736) (tgt := 775) hx hb dL_law_39 (by rw [c_18]; decide) (by rw [c_18]; decide) (by rw [c_18]; rfl) (by decide) ?_
      exact law_case16 hlt C0 hk KE R I L R0 I0 L0 R0_0 I0_0 L0_0 f0_0_0 R0_1 I0_1 L0_1 f0_1_0 f0_1_1 f0_1_2 f0_1_3 f0_1_4 f0_1_5 f0_5 f0_6 f0_7 f0_8 R1 I1 L1 R2 I2 L2 f2_0 f2_1 f2_2 R3 I3 L3 f3_0 f3_1 R4 I4 L4 f4_0 f4_1 f4_2 f4_3 f4_4 f4_5 RM J M q1 q3 q4 q5 q6 q7 q8 q11 q12 q13 q16 q17 q35 q36 q37 q39 q40 q41 fo _ _ _ hIV hP hD hS hl
    by_cases c_19 : ((xs (nI (4 * k)).toNatClampNeg) &&& (31 : Int32)) = (17 : Int32)
    · skip
      refine lv_tableIn (off := 799) (tgt := 838) hx hb dL_law_39 (by rw [c_19]; decide) (by rw [c_19]; decide) (by rw [c_19]; rfl) (by decide) ?_
      exact law_case17 hlt C0 hk KE R I L R0 I0 L0 R0_0 I0_0 L0_0 f0_0_0 R0_1 I0_1 L0_1 f0_1_0 f0_1_1 f0_1_2 f0_1_3 f0_1_4 f0_1_5 f0_5 f0_6 f0_7 f0_8 R1 I1 L1 R2 I2 L2 f2_0 f2_1 f2_2 R3 I3 L3 f3_0 f3_1 R4 I4 L4 f4_0 f4_1 f4_2 f4_3 f4_4 f4_5 RM J M q1 q3 q4 q5 q6 q7 q8 q11 q12 q13 q16 q17 q35 q36 q37 q39 q40 q41 fo _ _ _ hIV hP hD hS hl
    by_cases c_20 : ((xs (nI (4 * k)).toNatClampNeg) &&& (31 : Int32)) = (18 : Int32)
    · skip
      refine lv_tableIn (off := 832) (tgt := 871) hx hb dL_law_39 (by rw [c_20]; decide) (by rw [c_20]; decide) (by rw [c_20]; rfl) (by decide) ?_
      exact law_case18 hlt C0 hk KE R I L R0 I0 L0 R0_0 I0_0 L0_0 f0_0_0 R0_1 I0_1 L0_1 f0_1_0 f0_1_1 f0_1_2 f0_1_3 f0_1_4 f0_1_5 f0_5 f0_6 f0_7 f0_8 R1 I1 L1 R2 I2 L2 f2_0 f2_1 f2_2 R3 I3 L3 f3_0 f3_1 R4 I4 L4 f4_0 f4_1 f4_2 f4_3 f4_4 f4_5 RM J M q1 q3 q4 q5 q6 q7 q8 q11 q12 q13 q16 q17 q35 q36 q37 q39 q40 q41 fo _ _ _ hIV hP hD hS hl
    by_cases c_21 : ((xs (nI (4 * k)).toNatClampNeg) &&& (31 : Int32)) = (19 : Int32)
    · skip
      refine lv_tableIn (off := 857) (tgt := 896) hx hb dL_law_39 (by rw [c_21]; decide) (by rw [c_21]; decide) (by rw [c_21]; rfl) (by decide) ?_
      exact law_case19 hlt C0 hk KE R I L R0 I0 L0 R0_0 I0_0 L0_0 f0_0_0 R0_1 I0_1 L0_1 f0_1_0 f0_1_1 f0_1_2 f0_1_3 f0_1_4 f0_1_5 f0_5 f0_6 f0_7 f0_8 R1 I1 L1 R2 I2 L2 f2_0 f2_1 f2_2 R3 I3 L3 f3_0 f3_1 R4 I4 L4 f4_0 f4_1 f4_2 f4_3 f4_4 f4_5 RM J M q1 q3 q4 q5 q6 q7 q8 q11 q12 q13 q16 q17 q35 q36 q37 q39 q40 q41 fo _ _ _ hIV hP hD hS hl
    by_cases c_22 : ((xs (nI (4 * k)).toNatClampNeg) &&& (31 : Int32)) = (20 : Int32)
    · skip
      refine lv_tableIn (off := 883) (tgt := 922) hx hb dL_law_39 (by rw [c_22]; decide) (by rw [c_22]; decide) (by rw [c_22]; rfl) (by decide) ?_
      exact law_case20 hlt C0 hk KE R I L R0 I0 L0 R0_0 I0_0 L0_0 f0_0_0 R0_1 I0_1 L0_1 f0_1_0 f0_1_1 f0_1_2 f0_1_3 f0_1_4 f0_1_5 f0_5 f0_6 f0_7 f0_8 R1 I1 L1 R2 I2 L2 f2_0 f2_1 f2_2 R3 I3 L3 f3_0 f3_1 R4 I4 L4 f4_0 f4_1 f4_2 f4_3 f4_4 f4_5 RM J M q1 q3 q4 q5 q6 q7 q8 q11 q12 q13 q16 q17 q35 q36 q37 q39 q40 q41 fo _ _ _ hIV hP hD hS hl
    have hout : ((xs (nI (4 * k)).toNatClampNeg) &&& (31 : Int32)).toInt < 0 ∨ 20 < ((xs (nI (4 * k)).toNatClampNeg) &&& (31 : Int32)).toInt := by
      have z0 := lv_neT c_2 (show (0 : Int32).toInt = 0 by decide)
      have z1 := lv_neT c_3 (show (1 : Int32).toInt = 1 by decide)
      have z2 := lv_neT c_4 (show (2 : Int32).toInt = 2 by decide)
      have z3 := lv_neT c_5 (show (3 : Int32).toInt = 3 by decide)
      have z4 := lv_neT c_6 (show (4 : Int32).toInt = 4 by decide)
      have z5 := lv_neT c_7 (show (5 : Int32).toInt = 5 by decide)
      have z6 := lv_neT c_8 (show (6 : Int32).toInt = 6 by decide)
      have z7 := lv_neT c_9 (show (7 : Int32).toInt = 7 by decide)
      have z8 := lv_neT c_10 (show (8 : Int32).toInt = 8 by decide)
      have z9 := lv_neT c_11 (show (9 : Int32).toInt = 9 by decide)
      have z10 := lv_neT c_12 (show (10 : Int32).toInt = 10 by decide)
      have z11 := lv_neT c_13 (show (11 : Int32).toInt = 11 by decide)
      have z12 := lv_neT c_14 (show (12 : Int32).toInt = 12 by decide)
      have z13 := lv_neT c_15 (show (13 : Int32).toInt = 13 by decide)
      have z14 := lv_neT c_16 (show (14 : Int32).toInt = 14 by decide)
      have z15 := lv_neT c_17 (show (15 : Int32).toInt = 15 by decide)
      have z16 := lv_neT c_18 (show (16 : Int32).toInt = 16 by decide)
      have z17 := lv_neT c_19 (show (17 : Int32).toInt = 17 by decide)
      have z18 := lv_neT c_20 (show (18 : Int32).toInt = 18 by decide)
      have z19 := lv_neT c_21 (show (19 : Int32).toInt = 19 by decide)
      have z20 := lv_neT c_22 (show (20 : Int32).toInt = 20 by decide)
      omega
    refine lv_tableOut (tgt := 959) hx hb dL_law_39 hout (by decide) ?_
    refine W.widen (k := 50 + k + 1) (n := 3260 + 6 * k + 6) (by omega) (by omega) ?_
    exact KE R I L R0 I0 L0 R0_0 I0_0 L0_0 f0_0_0 R0_1 I0_1 L0_1 f0_1_0 f0_1_1 f0_1_2 f0_1_3 f0_1_4 f0_1_5 f0_5 f0_6 f0_7 f0_8 R1 I1 L1 R2 I2 L2 f2_0 f2_1 f2_2 R3 I3 L3 f3_0 f3_1 R4 I4 L4 f4_0 f4_1 f4_2 f4_3 f4_4 f4_5 RM J M q1 q3 q4 q5 q6 q7 q8 q11 q12 q13 q16 q17 q35 q36 q37 q39 q40 q41 fo _ _ _ (ldk_IV_w (by omega) hIV) hP hD hS hl
theorem law_exit {p : Program} {l : Launch} {e : Env} {s : State} {m : MethodId} {below : List Frame} {meth : Method} {c : Code} {D : va_G} {cI cJ cZ cD : ClassId} {b h g o L0_ k : Nat} {xs : Nat → Int32} {tA : Nat} {sa : Nat → Nat} (C0 : law_C p s m meth c b L0_ xs D cI cJ cZ cD tA sa) (hk : 4 * k ≤ L0_) (hn : ¬ 4 * k + 4 ≤ L0_) : law_J 23 k (50 + k) (3260 + 6 * k) (12800 * (k : Int)) p l e s m below meth c D cI cJ cZ cD b h g o := by
  intro R I L R0 I0 L0 R0_0 I0_0 L0_0 f0_0_0 R0_1 I0_1 L0_1 f0_1_0 f0_1_1 f0_1_2 f0_1_3 f0_1_4 f0_1_5 f0_5 f0_6 f0_7 f0_8 R1 I1 L1 R2 I2 L2 f2_0 f2_1 f2_2 R3 I3 L3 f3_0 f3_1 R4 I4 L4 f4_0 f4_1 f4_2 f4_3 f4_4 f4_5 RM J M q1 q3 q4 q5 q6 q7 q8 q11 q12 q13 q16 q17 q35 q36 q37 q39 q40 q41 fo H locs ls hIV hP hD hS hl
  obtain ⟨hx, hb, hr, hml, hown, hts, hXs, hbl, hlocks, hK, hY, hL⟩ := C0
  have hbA : ¬ (fun q : Nat => s.heap.size ≤ q) b := Nat.not_le.mpr hbl
  refine lv_iload hx hb dL_law_23 (lv_at hl 4 rfl) ?_
  refine lv_aload_n hx hb dL_law_25 rfl (lv_at hl 0 rfl) ?_
  refine va_slen hx hb hXs hbl hbA hS dL_law_26 ?_
  refine lv_iconst (v := 4) hx hb dL_law_27 (by decide) ?_
  refine lv_isub hx hb dL_law_28 ?_
  refine lv_icmp_gt (tgt := 965) hx hb dL_law_29 (by decide) (fun z => ?_) (fun z => ?_)
  · refine lv_iconst (v := 1) hx hb dL_law_965 (by decide) ?_
    refine va_forget (fun q hq => hS.2.2 q hq) ?_
    refine W.widen (k := 182) (n := 4308) (by omega) (by omega) ?_
    exact lw_ret hx hb hr hlocks dL_law_966
  · exfalso
    obtain ⟨a1, a2⟩ := law_len hL hk
    rw [Int32.lt_iff_toInt_lt, a1, a2] at z
    omega
theorem law_loop {p : Program} {l : Launch} {e : Env} {s : State} {m : MethodId} {below : List Frame} {meth : Method} {c : Code} {D : va_G} {cI cJ cZ cD : ClassId} {b h g o L0_ k : Nat} {xs : Nat → Int32} {tA : Nat} {sa : Nat → Nat} (hlt : l.stackTraces = false) (C0 : law_C p s m meth c b L0_ xs D cI cJ cZ cD tA sa) : ∀ (n k : Nat), 4 * k ≤ L0_ → L0_ < 4 * k + 4 * n + 4 → law_J 23 k (50 + k) (3260 + 6 * k) (12800 * (k : Int)) p l e s m below meth c D cI cJ cZ cD b h g o := by
  intro n
  induction n with
  | zero => intro k h1 h2; exact law_exit C0 h1 (by omega)
  | succ n ih =>
    intro k h1 h2
    by_cases hk : 4 * k + 4 ≤ L0_
    · exact law_step hlt C0 hk (law_next C0 hk (ih (k + 1) (by omega) (by omega)))
    · exact law_exit C0 h1 hk
