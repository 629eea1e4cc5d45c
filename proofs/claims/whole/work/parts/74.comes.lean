/-- the cloth's rows, moved by one up to the place kk -/
def ldk_shk (f : Nat → Int32) (kk : Nat) : Nat → Int32 := fun j => if j + 1 < kk then f (j + 1) else f j
theorem ldk_shk1 (f : Nat → Int32) : ldk_shk f 1 = f := by
  funext j; unfold ldk_shk; rw [if_neg (by omega)]
theorem ldk_shk_step (f : Nat → Int32) {kk : Nat} (h1 : 1 ≤ kk) (h2 : kk ≤ 64) : upd (ldk_shk f kk) (nI kk - 1).toNatClampNeg (ldk_shk f kk (nI kk).toNatClampNeg) = ldk_shk f (kk + 1) := by
  have e1 : (nI kk - 1).toNatClampNeg = kk - 1 := by
    show (nI kk - 1).toInt.toNat = _
    rw [nI_m1 (by omega)]; omega
  rw [e1, nI_clamp (by omega)]
  funext j
  by_cases hj : j = kk - 1
  · subst hj
    rw [pk_us]; unfold ldk_shk
    rw [if_neg (by omega), if_pos (by omega), show kk - 1 + 1 = kk from by omega]
  · rw [pk_un hj]; unfold ldk_shk
    by_cases h3 : j + 1 < kk
    · rw [if_pos h3, if_pos (by omega)]
    · rw [if_neg h3, if_neg (by omega)]
def ldk_shI (f35 f36 f37 : Nat → Int32) (kk : Nat) (ii : Int32) (g0 g1 g2 : Nat → Int32) : Prop := ii = nI kk ∧ 1 ≤ kk ∧ kk ≤ 64 ∧ g0 = ldk_shk f35 kk ∧ g1 = ldk_shk f36 kk ∧ g2 = ldk_shk f37 kk
theorem ldk_shI_lt {f35 f36 f37 g0 g1 g2 : Nat → Int32} {kk : Nat} {ii : Int32} (h : ldk_shI f35 f36 f37 kk ii g0 g1 g2) (c : ¬ 64 ≤ ii) : kk < 64 := by
  obtain ⟨h1, h2, h3, -⟩ := h
  have : kk ≠ 64 := fun z => c (by rw [h1]; exact (nI_lt64 h3).mpr z)
  omega
theorem ldk_shI_in {f35 f36 f37 g0 g1 g2 : Nat → Int32} {kk : Nat} {ii : Int32} (h : ldk_shI f35 f36 f37 kk ii g0 g1 g2) (c : ¬ 64 ≤ ii) : vp_in ii 64 ∧ vp_in (ii - 1) 64 := by
  have h5 := ldk_shI_lt h c
  obtain ⟨h1, h2, h3, -⟩ := h
  refine ⟨by rw [h1]; exact vp_in_nI h5 (by omega), ?_⟩
  rw [h1, vp_in_iff, nI_m1 (by omega)]; omega
theorem ldk_shI_step {f35 f36 f37 g0 g1 g2 : Nat → Int32} {kk : Nat} {ii : Int32} (h : ldk_shI f35 f36 f37 kk ii g0 g1 g2) (c : ¬ 64 ≤ ii) : ldk_shI f35 f36 f37 (kk + 1) (ii + 1) (upd g0 (ii - 1).toNatClampNeg (g0 ii.toNatClampNeg)) (upd g1 (ii - 1).toNatClampNeg (g1 ii.toNatClampNeg)) (upd g2 (ii - 1).toNatClampNeg (g2 ii.toNatClampNeg)) ∧ 64 - (kk + 1) < 64 - kk := by
  have h5 := ldk_shI_lt h c
  obtain ⟨h1, h2, h3, rfl, rfl, rfl⟩ := h
  subst h1
  exact ⟨⟨nI_1 kk, by omega, by omega, ldk_shk_step _ h2 h3, ldk_shk_step _ h2 h3, ldk_shk_step _ h2 h3⟩, by omega⟩
theorem ldk_shI_end {f35 f36 f37 g0 g1 g2 : Nat → Int32} {kk : Nat} {ii : Int32} (h : ldk_shI f35 f36 f37 kk ii g0 g1 g2) (c : 64 ≤ ii) : g0 = ldk_shk f35 64 ∧ g1 = ldk_shk f36 64 ∧ g2 = ldk_shk f37 64 := by
  obtain ⟨h1, h2, h3, h4, h5, h6⟩ := h
  have h7 := (nI_lt64 h3).mp (h1 ▸ c)
  subst h7
  exact ⟨h4, h5, h6⟩
def ldk_bu (I : Nat → Int32) (L : Nat → Int64) (d n : Int32) (g0 g1 g2 : Nat → Int32) : (Nat → Int32) × (Nat → Int64) × (Nat → Int32) × (Nat → Int32) × (Nat → Int32) :=
  (upd I 38 (n + 1), vp_updL (vp_updL (vp_updL L 25 (if L 25 + 1 = L 10 then 0 else L 25 + 1)) 32 (L 32 + (4000 / d).toInt64)) 33 (L 33 + 1), upd g0 n.toNatClampNeg (I 26), upd g1 n.toNatClampNeg (I 27), upd g2 n.toNatClampNeg d)
def sX7_beatUp (I : Nat → Int32) (L : Nat → Int64) (f3 f4 f5 f6 f7 : Nat → Int32) (f8 : Nat → Int64) (f35 f36 f37 : Nat → Int32) : (Nat → Int32) × (Nat → Int64) × (Nat → Int32) × (Nat → Int32) × (Nat → Int32) :=
  if I 38 = 64 then ldk_bu I L (sX7_look f3 f4 f5 f6 f7 f8 (L 25) 2) (I 38 - 1) (ldk_shk f35 64) (ldk_shk f36 64) (ldk_shk f37 64) else ldk_bu I L (sX7_look f3 f4 f5 f6 f7 f8 (L 25) 2) (I 38) f35 f36 f37
theorem ldk_63 {n : Int32} (h : n = 64) : vp_in (n - 1) 64 := by subst h; unfold vp_in; decide
theorem ldk_n64 {n : Int32} {f : Nat → Int32} (h : ldk_cl n f) (c : ¬ n = 64) : vp_in n 64 := by
  have c' : n.toInt ≠ 64 := fun z => c (Int32.toInt_inj.mp z)
  rw [vp_in_iff]
  have := h.1
  have := h.2.1
  omega
set_option maxRecDepth 20000 in
theorem iX7_beatUp_7 : ∀ w ∈ wsX70, w ∈ wsX7_beatUp := by decide +kernel
set_option maxHeartbeats 4000000 in
set_option maxRecDepth 100000 in
theorem kX7_beatUp (l : Launch) (D : va_G) (cI cJ cZ cD : ClassId) (tA : Nat) (h : Nat) (R : Nat → Nat) (I : Nat → Int32) (L : Nat → Int64) (f3 : Nat → Int32) (f4 : Nat → Int32) (f5 : Nat → Int32) (f6 : Nat → Int32) (f7 : Nat → Int32) (f8 : Nat → Int64) (f35 : Nat → Int32) (f36 : Nat → Int32) (f37 : Nat → Int32) (hlk : ldkOK f3 f4 f5 f6 f7 f8 161 (0, 100, L 25, 0)) (hd0 : ¬ sX7_look f3 f4 f5 f6 f7 f8 (L 25) 2 = 0) (hcl : ldk_cl (I 38) f37) : jx_M l yX7_beatUp wsX7_beatUp ({ frames := 2, cells := 0, slots := 0, locals := 53 }) D (jT cI cJ cZ cD) tA [.ref h] [(h, .inr (7, (oX7 R I L))), ((R 3), .inl (cI, 160, .inl f3)), ((R 4), .inl (cI, 160, .inl f4)), ((R 5), .inl (cI, 160, .inl f5)), ((R 6), .inl (cI, 160, .inl f6)), ((R 7), .inl (cI, 160, .inl f7)), ((R 8), .inl (cJ, 160, .inr (.inl f8))), ((R 35), .inl (cI, 64, .inl f35)), ((R 36), .inl (cI, 64, .inl f36)), ((R 37), .inl (cI, 64, .inl f37))] (jx_Qv D (jT cI cJ cZ cD) (fun (_ : Unit) => True) (fun _ => [(h, .inr (7, (oX7 R (sX7_beatUp I L f3 f4 f5 f6 f7 f8 f35 f36 f37).1 (sX7_beatUp I L f3 f4 f5 f6 f7 f8 f35 f36 f37).2.1))), ((R 3), .inl (cI, 160, .inl f3)), ((R 4), .inl (cI, 160, .inl f4)), ((R 5), .inl (cI, 160, .inl f5)), ((R 6), .inl (cI, 160, .inl f6)), ((R 7), .inl (cI, 160, .inl f7)), ((R 8), .inl (cJ, 160, .inr (.inl f8))), ((R 35), .inl (cI, 64, .inl ((sX7_beatUp I L f3 f4 f5 f6 f7 f8 f35 f36 f37).2.2.1))), ((R 36), .inl (cI, 64, .inl ((sX7_beatUp I L f3 f4 f5 f6 f7 f8 f35 f36 f37).2.2.2.1))), ((R 37), .inl (cI, 64, .inl ((sX7_beatUp I L f3 f4 f5 f6 f7 f8 f35 f36 f37).2.2.2.2)))])) := by
  refine jx_of (cc := cX7_beatUp) (maxL := 3) (ret := none) (by decide +kernel) rfl (Nat.le_of_ble_eq_true rfl) ?_
  intro p e s m below meth c A ls hx hb hr hlocks hml hown hts hK hP hD hA hS hX hl
  have hl : lv_has ls 3 [(0, .ref h)] := hl
  have hown : s.vm.findClass RX7 = some m.cls := hown
  have hk55 := hts (.fieldLink RX7 55 "LoomDeskModel" "clothShed" "[I") (by decide +kernel)
  have hk58 := hts (.fieldLink RX7 58 "LoomDeskModel" "clothCarrier" "[I") (by decide +kernel)
  have hk61 := hts (.fieldLink RX7 61 "LoomDeskModel" "clothDensity" "[I") (by decide +kernel)
  have hk130 := hts (.fieldLink RX7 130 "LoomDeskModel" "length" "J") (by decide +kernel)
  have hk163 := hts (.fieldLink RX7 163 "LoomDeskModel" "place" "J") (by decide +kernel)
  have hk182 := hts (.fieldLink RX7 182 "LoomDeskModel" "cloths" "I") (by decide +kernel)
  have hk185 := hts (.fieldLink RX7 185 "LoomDeskModel" "shed" "I") (by decide +kernel)
  have hk188 := hts (.fieldLink RX7 188 "LoomDeskModel" "carrier" "I") (by decide +kernel)
  have hk191 := hts (.fieldLink RX7 191 "LoomDeskModel" "quarters" "J") (by decide +kernel)
  have hk194 := hts (.fieldLink RX7 194 "LoomDeskModel" "beaten" "J") (by decide +kernel)
  refine lv_aload_n hx hb dX7_beatUp_0 rfl (lv_at hl 0 rfl) ?_
  refine lv_aload_n hx hb dX7_beatUp_1 rfl (lv_at hl 0 rfl) ?_
  refine jx_get (v := .long (L 25)) hx hb hts iX7_beatUp_7 hown hK hP 0 rfl rfl 25 (by decide) hk163 rfl rfl dX7_beatUp_2 ?_
  refine lv_iconst (v := 2) hx hb dX7_beatUp_5 (by decide) ?_
  refine jx_pcalli (wc := [(h, .inr (7, (oX7 R I L))), ((R 3), .inl (cI, 160, .inl f3)), ((R 4), .inl (cI, 160, .inl f4)), ((R 5), .inl (cI, 160, .inl f5)), ((R 6), .inl (cI, 160, .inl f6)), ((R 7), .inl (cI, 160, .inl f7)), ((R 8), .inl (cJ, 160, .inr (.inl f8)))]) hP hD hS hA [0, 1, 2, 3, 4, 5, 6] rfl (by decide) (fun hPc hDc hF => jx_runVs (As := [.long (L 25), .int (2 : Int32)]) (rest := []) (n := 2) (ci := 7) (q0 := 0) hx hb hml hown hts hK hX hS hl.1 (kX7_look l D cI cJ cZ cD tA h R I L f3 f4 f5 f6 f7 f8 (L 25) (2 : Int32) hlk) gX7_beatUp_X7_look rfl rfl rfl (by decide +kernel) ⟨Nat.le_of_ble_eq_true rfl, Nat.le_of_ble_eq_true rfl⟩ rfl rfl rfl rfl rfl (Nat.le_of_ble_eq_true rfl) dX7_beatUp_6 ⟨Nat.zero_le _, Nat.zero_le _⟩ hPc hDc hF) (fun r_1 er_1 => ?_)
  have er_1 : r_1 = (sX7_look f3 f4 f5 f6 f7 f8 (L 25) (2 : Int32)) := er_1
  refine lv_istore_n (lv' := [(1, .int r_1), (0, .ref h)]) hx hb dX7_beatUp_9 rfl hl (by decide) rfl (fun ls hl => ?_)
  refine lv_aload_n hx hb dX7_beatUp_10 rfl (lv_at hl 1 rfl) ?_
  refine jx_get (v := .int (I 38)) hx hb hts iX7_beatUp_7 hown hK hP 0 rfl rfl 38 (by decide) hk182 rfl rfl dX7_beatUp_11 ?_
  refine lv_bipush (v := 64) hx hb dX7_beatUp_14 (by decide) ?_
  refine lv_icmp_ne (tgt := 85) hx hb dX7_beatUp_16 (by decide) (fun c_2 => ?_) (fun c_2 => ?_)
  · skip
    refine lv_aload_n hx hb dX7_beatUp_85 rfl (lv_at hl 1 rfl) ?_
    refine jx_get (v := .ref (R 35)) hx hb hts iX7_beatUp_7 hown hK hP 0 rfl rfl 35 (by decide) hk55 rfl rfl dX7_beatUp_86 ?_
    refine lv_aload_n hx hb dX7_beatUp_89 rfl (lv_at hl 1 rfl) ?_
    refine jx_get (v := .int (I 38)) hx hb hts iX7_beatUp_7 hown hK hP 0 rfl rfl 38 (by decide) hk182 rfl rfl dX7_beatUp_90 ?_
    refine lv_aload_n hx hb dX7_beatUp_93 rfl (lv_at hl 1 rfl) ?_
    refine jx_get (v := .int (I 26)) hx hb hts iX7_beatUp_7 hown hK hP 0 rfl rfl 26 (by decide) hk185 rfl rfl dX7_beatUp_94 ?_
    refine jx_iast (w2 := [(h, .inr (7, (oX7 R I L))), ((R 3), .inl (cI, 160, .inl f3)), ((R 4), .inl (cI, 160, .inl f4)), ((R 5), .inl (cI, 160, .inl f5)), ((R 6), .inl (cI, 160, .inl f6)), ((R 7), .inl (cI, 160, .inl f7)), ((R 8), .inl (cJ, 160, .inr (.inl f8))), ((R 35), .inl (cI, 64, .inl (upd f35 (I 38).toNatClampNeg (I 26)))), ((R 36), .inl (cI, 64, .inl f36)), ((R 37), .inl (cI, 64, .inl f37))]) hx hb hK hP hD hS 7 0 rfl rfl (by clear hP hD hl; have z_ := er_1.symm; clear er_1; subst z_; exact ldk_n64 hcl c_2) dX7_beatUp_97 rfl (fun H locs hP hD hS => ?_)
    refine lv_aload_n hx hb dX7_beatUp_98 rfl (lv_at hl 1 rfl) ?_
    refine jx_get (v := .ref (R 36)) hx hb hts iX7_beatUp_7 hown hK hP 0 rfl rfl 36 (by decide) hk58 rfl rfl dX7_beatUp_99 ?_
    refine lv_aload_n hx hb dX7_beatUp_102 rfl (lv_at hl 1 rfl) ?_
    refine jx_get (v := .int (I 38)) hx hb hts iX7_beatUp_7 hown hK hP 0 rfl rfl 38 (by decide) hk182 rfl rfl dX7_beatUp_103 ?_
    refine lv_aload_n hx hb dX7_beatUp_106 rfl (lv_at hl 1 rfl) ?_
    refine jx_get (v := .int (I 27)) hx hb hts iX7_beatUp_7 hown hK hP 0 rfl rfl 27 (by decide) hk188 rfl rfl dX7_beatUp_107 ?_
    refine jx_iast (w2 := [(h, .inr (7, (oX7 R I L))), ((R 3), .inl (cI, 160, .inl f3)), ((R 4), .inl (cI, 160, .inl f4)), ((R 5), .inl (cI, 160, .inl f5)), ((R 6), .inl (cI, 160, .inl f6)), ((R 7), .inl (cI, 160, .inl f7)), ((R 8), .inl (cJ, 160, .inr (.inl f8))), ((R 35), .inl (cI, 64, .inl (upd f35 (I 38).toNatClampNeg (I 26)))), ((R 36), .inl (cI, 64, .inl (upd f36 (I 38).toNatClampNeg (I 27)))), ((R 37), .inl (cI, 64, .inl f37))]) hx hb hK hP hD hS 8 0 rfl rfl (by clear hP hD hl; have z_ := er_1.symm; clear er_1; subst z_; exact ldk_n64 hcl c_2) dX7_beatUp_110 rfl (fun H locs hP hD hS => ?_)
    refine lv_aload_n hx hb dX7_beatUp_111 rfl (lv_at hl 1 rfl) ?_
    refine jx_get (v := .ref (R 37)) hx hb hts iX7_beatUp_7 hown hK hP 0 rfl rfl 37 (by decide) hk61 rfl rfl dX7_beatUp_112 ?_
    refine lv_aload_n hx hb dX7_beatUp_115 rfl (lv_at hl 1 rfl) ?_
    refine jx_get (v := .int (I 38)) hx hb hts iX7_beatUp_7 hown hK hP 0 rfl rfl 38 (by decide) hk182 rfl rfl dX7_beatUp_116 ?_
    refine lv_iload_n hx hb dX7_beatUp_119 rfl (lv_at hl 0 rfl) ?_
    refine jx_iast (w2 := [(h, .inr (7, (oX7 R I L))), ((R 3), .inl (cI, 160, .inl f3)), ((R 4), .inl (cI, 160, .inl f4)), ((R 5), .inl (cI, 160, .inl f5)), ((R 6), .inl (cI, 160, .inl f6)), ((R 7), .inl (cI, 160, .inl f7)), ((R 8), .inl (cJ, 160, .inr (.inl f8))), ((R 35), .inl (cI, 64, .inl (upd f35 (I 38).toNatClampNeg (I 26)))), ((R 36), .inl (cI, 64, .inl (upd f36 (I 38).toNatClampNeg (I 27)))), ((R 37), .inl (cI, 64, .inl (upd f37 (I 38).toNatClampNeg r_1)))]) hx hb hK hP hD hS 9 0 rfl rfl (by clear hP hD hl; have z_ := er_1.symm; clear er_1; subst z_; exact ldk_n64 hcl c_2) dX7_beatUp_120 rfl (fun H locs hP hD hS => ?_)
    refine lv_aload_n hx hb dX7_beatUp_121 rfl (lv_at hl 1 rfl) ?_
    refine lv_dup hx hb dX7_beatUp_122 rfl ?_
    refine jx_get (v := .int (I 38)) hx hb hts iX7_beatUp_7 hown hK hP 0 rfl rfl 38 (by decide) hk182 rfl rfl dX7_beatUp_123 ?_
    refine lv_iconst (v := 1) hx hb dX7_beatUp_126 (by decide) ?_
    refine lv_iadd hx hb dX7_beatUp_127 ?_
    refine lv_topi (fun v_3 ev_3 => ?_)
    refine jx_put (w2 := [(h, .inr (7, (oX7 R (upd I 38 v_3) L))), ((R 3), .inl (cI, 160, .inl f3)), ((R 4), .inl (cI, 160, .inl f4)), ((R 5), .inl (cI, 160, .inl f5)), ((R 6), .inl (cI, 160, .inl f6)), ((R 7), .inl (cI, 160, .inl f7)), ((R 8), .inl (cJ, 160, .inr (.inl f8))), ((R 35), .inl (cI, 64, .inl (upd f35 (I 38).toNatClampNeg (I 26)))), ((R 36), .inl (cI, 64, .inl (upd f36 (I 38).toNatClampNeg (I 27)))), ((R 37), .inl (cI, 64, .inl (upd f37 (I 38).toNatClampNeg r_1)))]) hx hb hts iX7_beatUp_7 tyX7 tyX7_ok nmX7 hown hK hP hD hS 0 rfl rfl 38 (by decide) hk182 rfl rfl rfl rfl (Nat.le_of_ble_eq_true rfl) dX7_beatUp_128 rfl (fun H locs hP hD hS => ?_)
    refine lv_aload_n hx hb dX7_beatUp_131 rfl (lv_at hl 1 rfl) ?_
    refine lv_dup hx hb dX7_beatUp_132 rfl ?_
    refine jx_get (v := .long (L 32)) hx hb hts iX7_beatUp_7 hown hK hP 0 rfl rfl 32 (by decide) hk191 rfl rfl dX7_beatUp_133 ?_
    refine lv_sipush (v := 4000) hx hb dX7_beatUp_136 (by decide) ?_
    refine lv_iload_n hx hb dX7_beatUp_139 rfl (lv_at hl 0 rfl) ?_
    refine lv_idiv hx hb dX7_beatUp_140 (by clear hP hD hl; have z_ := ev_3.symm; clear ev_3; subst z_; have z_ := er_1.symm; clear er_1; subst z_; exact hd0) ?_
    refine lv_i2l hx hb dX7_beatUp_141 rfl ?_
    refine lv_ladd hx hb dX7_beatUp_142 ?_
    refine lv_topl (fun v_4 ev_4 => ?_)
    refine jx_put (w2 := [(h, .inr (7, (oX7 R (upd I 38 v_3) (vp_updL L 32 v_4)))), ((R 3), .inl (cI, 160, .inl f3)), ((R 4), .inl (cI, 160, .inl f4)), ((R 5), .inl (cI, 160, .inl f5)), ((R 6), .inl (cI, 160, .inl f6)), ((R 7), .inl (cI, 160, .inl f7)), ((R 8), .inl (cJ, 160, .inr (.inl f8))), ((R 35), .inl (cI, 64, .inl (upd f35 (I 38).toNatClampNeg (I 26)))), ((R 36), .inl (cI, 64, .inl (upd f36 (I 38).toNatClampNeg (I 27)))), ((R 37), .inl (cI, 64, .inl (upd f37 (I 38).toNatClampNeg r_1)))]) hx hb hts iX7_beatUp_7 tyX7 tyX7_ok nmX7 hown hK hP hD hS 0 rfl rfl 32 (by decide) hk191 rfl rfl rfl rfl (Nat.le_of_ble_eq_true rfl) dX7_beatUp_143 rfl (fun H locs hP hD hS => ?_)
    refine lv_aload_n hx hb dX7_beatUp_146 rfl (lv_at hl 1 rfl) ?_
    refine lv_dup hx hb dX7_beatUp_147 rfl ?_
    refine jx_get (v := .long (L 33)) hx hb hts iX7_beatUp_7 hown hK hP 0 rfl rfl 33 (by decide) hk194 rfl rfl dX7_beatUp_148 ?_
    refine lv_lconst (v := 1) hx hb dX7_beatUp_151 (by decide) ?_
    refine lv_ladd hx hb dX7_beatUp_152 ?_
    refine lv_topl (fun v_5 ev_5 => ?_)
    refine jx_put (w2 := [(h, .inr (7, (oX7 R (upd I 38 v_3) (vp_updL (vp_updL L 32 v_4) 33 v_5)))), ((R 3), .inl (cI, 160, .inl f3)), ((R 4), .inl (cI, 160, .inl f4)), ((R 5), .inl (cI, 160, .inl f5)), ((R 6), .inl (cI, 160, .inl f6)), ((R 7), .inl (cI, 160, .inl f7)), ((R 8), .inl (cJ, 160, .inr (.inl f8))), ((R 35), .inl (cI, 64, .inl (upd f35 (I 38).toNatClampNeg (I 26)))), ((R 36), .inl (cI, 64, .inl (upd f36 (I 38).toNatClampNeg (I 27)))), ((R 37), .inl (cI, 64, .inl (upd f37 (I 38).toNatClampNeg r_1)))]) hx hb hts iX7_beatUp_7 tyX7 tyX7_ok nmX7 hown hK hP hD hS 0 rfl rfl 33 (by decide) hk194 rfl rfl rfl rfl (Nat.le_of_ble_eq_true rfl) dX7_beatUp_153 rfl (fun H locs hP hD hS => ?_)
    refine lv_aload_n hx hb dX7_beatUp_156 rfl (lv_at hl 1 rfl) ?_
    refine lv_aload_n hx hb dX7_beatUp_157 rfl (lv_at hl 1 rfl) ?_
    refine jx_get (v := .long (L 25)) hx hb hts iX7_beatUp_7 hown hK hP 0 rfl rfl 25 (by decide) hk163 rfl rfl dX7_beatUp_158 ?_
    refine lv_lconst (v := 1) hx hb dX7_beatUp_161 (by decide) ?_
    refine lv_ladd hx hb dX7_beatUp_162 ?_
    refine lv_aload_n hx hb dX7_beatUp_163 rfl (lv_at hl 1 rfl) ?_
    refine jx_get (v := .long (L 10)) hx hb hts iX7_beatUp_7 hown hK hP 0 rfl rfl 10 (by decide) hk130 rfl rfl dX7_beatUp_164 ?_
    refine jx_joinl (J := 181) (v := (if ((L 25) + (1 : Int64)) = (L 10) then (0 : Int64) else ((L 25) + (1 : Int64)))) (rest := [.ref h]) (fun key => ?_) ?_
    · skip
      refine jx_l_ne (tgt := 175) hx hb dX7_beatUp_167 dX7_beatUp_168 (by decide) (fun c_6 => ?_) (fun c_6 => ?_)
      · skip
        refine lv_aload_n hx hb dX7_beatUp_175 rfl (lv_at hl 1 rfl) ?_
        refine jx_get (v := .long (L 25)) hx hb hts iX7_beatUp_7 hown hK hP 0 rfl rfl 25 (by decide) hk163 rfl rfl dX7_beatUp_176 ?_
        refine lv_lconst (v := 1) hx hb dX7_beatUp_179 (by decide) ?_
        refine lv_ladd hx hb dX7_beatUp_180 ?_
        rw [if_neg c_6] at key
        exact key
      · skip
        refine lv_lconst (v := 0) hx hb dX7_beatUp_171 (by decide) ?_
        refine lv_goto (tgt := 181) hx hb dX7_beatUp_172 (by decide) ?_
        rw [if_pos c_6] at key
        exact key
    refine lv_topl (fun v_7 ev_7 => ?_)
    refine jx_put (w2 := [(h, .inr (7, (oX7 R (upd I 38 v_3) (vp_updL (vp_updL (vp_updL L 25 v_7) 32 v_4) 33 v_5)))), ((R 3), .inl (cI, 160, .inl f3)), ((R 4), .inl (cI, 160, .inl f4)), ((R 5), .inl (cI, 160, .inl f5)), ((R 6), .inl (cI, 160, .inl f6)), ((R 7), .inl (cI, 160, .inl f7)), ((R 8), .inl (cJ, 160, .inr (.inl f8))), ((R 35), .inl (cI, 64, .inl (upd f35 (I 38).toNatClampNeg (I 26)))), ((R 36), .inl (cI, 64, .inl (upd f36 (I 38).toNatClampNeg (I 27)))), ((R 37), .inl (cI, 64, .inl (upd f37 (I 38).toNatClampNeg r_1)))]) hx hb hts iX7_beatUp_7 tyX7 tyX7_ok nmX7 hown hK hP hD hS 0 rfl rfl 25 (by decide) hk163 rfl rfl rfl rfl (Nat.le_of_ble_eq_true rfl) dX7_beatUp_181 rfl (fun H locs hP hD hS => ?_)
    have hq : (sX7_beatUp I L f3 f4 f5 f6 f7 f8 f35 f36 f37) = ((upd I 38 v_3), (vp_updL (vp_updL (vp_updL L 25 v_7) 32 v_4) 33 v_5), (upd f35 (I 38).toNatClampNeg (I 26)), (upd f36 (I 38).toNatClampNeg (I 27)), (upd f37 (I 38).toNatClampNeg r_1)) := (by clear hP hD hl; have z_ := ev_7.symm; clear ev_7; subst z_; have z_ := ev_5.symm; clear ev_5; subst z_; have z_ := ev_4.symm; clear ev_4; subst z_; have z_ := ev_3.symm; clear ev_3; subst z_; have z_ := er_1.symm; clear er_1; subst z_; exact (if_neg c_2).trans rfl)
    exact jx_vret () hx hb hr hlocks hK hP hD hS (by rw [hq]) trivial dX7_beatUp_184
  · skip
    refine lv_iconst (v := 1) hx hb dX7_beatUp_19 (by decide) ?_
    refine lv_istore_n (lv' := [(2, .int (1 : Int32)), (1, .int r_1), (0, .ref h)]) hx hb dX7_beatUp_20 rfl hl (by decide) rfl (fun ls hl => ?_)
    refine jx_loop (σ := (Int32) × ((Nat → Int32)) × ((Nat → Int32)) × ((Nat → Int32)) × (Nat) × (Unit)) (fun x H locs ls => va_P D vwCl [(h, .inr (7, (oX7 R I L))), ((R 3), .inl (cI, 160, .inl f3)), ((R 4), .inl (cI, 160, .inl f4)), ((R 5), .inl (cI, 160, .inl f5)), ((R 6), .inl (cI, 160, .inl f6)), ((R 7), .inl (cI, 160, .inl f7)), ((R 8), .inl (cJ, 160, .inr (.inl f8))), ((R 35), .inl (cI, 64, .inl x.2.1)), ((R 36), .inl (cI, 64, .inl x.2.2.1)), ((R 37), .inl (cI, 64, .inl x.2.2.2.1))] H ∧ va_D A [(h, .inr (7, (oX7 R I L))), ((R 3), .inl (cI, 160, .inl f3)), ((R 4), .inl (cI, 160, .inl f4)), ((R 5), .inl (cI, 160, .inl f5)), ((R 6), .inl (cI, 160, .inl f6)), ((R 7), .inl (cI, 160, .inl f7)), ((R 8), .inl (cJ, 160, .inr (.inl f8))), ((R 35), .inl (cI, 64, .inl x.2.1)), ((R 36), .inl (cI, 64, .inl x.2.2.1)), ((R 37), .inl (cI, 64, .inl x.2.2.2.1))] ∧ va_S A s.heap H locs ∧ lv_has ls 3 [(0, .ref h), (1, .int r_1), (2, .int x.1)] ∧ (ldk_shI f35 f36 f37 x.2.2.2.2.1 x.1 x.2.1 x.2.2.1 x.2.2.2.1)) (fun x => 64 - x.2.2.2.2.1) ((1 : Int32), f35, f36, f37, 1, ()) ⟨hP, hD, hS, lv_sub hl [2, 1, 0] rfl, (show ldk_shI f35 f36 f37 1 (1 : Int32) f35 f36 f37 from ⟨rfl, by omega, by omega, (ldk_shk1 _).symm, (ldk_shk1 _).symm, (ldk_shk1 _).symm⟩)⟩ ?_
    intro x H locs ls hI ih
    obtain ⟨ii, g0, g1, g2, kk, ux⟩ := x
    obtain ⟨hP, hD, hS, hl, hp⟩ := hI
    have hP : va_P D vwCl [(h, .inr (7, (oX7 R I L))), ((R 3), .inl (cI, 160, .inl f3)), ((R 4), .inl (cI, 160, .inl f4)), ((R 5), .inl (cI, 160, .inl f5)), ((R 6), .inl (cI, 160, .inl f6)), ((R 7), .inl (cI, 160, .inl f7)), ((R 8), .inl (cJ, 160, .inr (.inl f8))), ((R 35), .inl (cI, 64, .inl g0)), ((R 36), .inl (cI, 64, .inl g1)), ((R 37), .inl (cI, 64, .inl g2))] H := hP
    have hD : va_D A [(h, .inr (7, (oX7 R I L))), ((R 3), .inl (cI, 160, .inl f3)), ((R 4), .inl (cI, 160, .inl f4)), ((R 5), .inl (cI, 160, .inl f5)), ((R 6), .inl (cI, 160, .inl f6)), ((R 7), .inl (cI, 160, .inl f7)), ((R 8), .inl (cJ, 160, .inr (.inl f8))), ((R 35), .inl (cI, 64, .inl g0)), ((R 36), .inl (cI, 64, .inl g1)), ((R 37), .inl (cI, 64, .inl g2))] := hD
    have hl : lv_has ls 3 [(0, .ref h), (1, .int r_1), (2, .int ii)] := hl
    have hp : ldk_shI f35 f36 f37 kk ii g0 g1 g2 := hp
    refine lv_iload_n hx hb dX7_beatUp_21 rfl (lv_at hl 2 rfl) ?_
    refine lv_bipush (v := 64) hx hb dX7_beatUp_22 (by decide) ?_
    refine lv_icmp_ge (tgt := 75) hx hb dX7_beatUp_24 (by decide) (fun c_8 => ?_) (fun c_8 => ?_)
    · skip
      refine lv_aload_n hx hb dX7_beatUp_75 rfl (lv_at hl 0 rfl) ?_
      refine lv_dup hx hb dX7_beatUp_76 rfl ?_
      refine jx_get (v := .int (I 38)) hx hb hts iX7_beatUp_7 hown hK hP 0 rfl rfl 38 (by decide) hk182 rfl rfl dX7_beatUp_77 ?_
      refine lv_iconst (v := 1) hx hb dX7_beatUp_80 (by decide) ?_
      refine lv_isub hx hb dX7_beatUp_81 ?_
      refine lv_topi (fun v_9 ev_9 => ?_)
      refine jx_put (w2 := [(h, .inr (7, (oX7 R (upd I 38 v_9) L))), ((R 3), .inl (cI, 160, .inl f3)), ((R 4), .inl (cI, 160, .inl f4)), ((R 5), .inl (cI, 160, .inl f5)), ((R 6), .inl (cI, 160, .inl f6)), ((R 7), .inl (cI, 160, .inl f7)), ((R 8), .inl (cJ, 160, .inr (.inl f8))), ((R 35), .inl (cI, 64, .inl g0)), ((R 36), .inl (cI, 64, .inl g1)), ((R 37), .inl (cI, 64, .inl g2))]) hx hb hts iX7_beatUp_7 tyX7 tyX7_ok nmX7 hown hK hP hD hS 0 rfl rfl 38 (by decide) hk182 rfl rfl rfl rfl (Nat.le_of_ble_eq_true rfl) dX7_beatUp_82 rfl (fun H locs hP hD hS => ?_)
      refine lv_aload_n hx hb dX7_beatUp_85 rfl (lv_at hl 0 rfl) ?_
      refine jx_get (v := .ref (R 35)) hx hb hts iX7_beatUp_7 hown hK hP 0 rfl rfl 35 (by decide) hk55 rfl rfl dX7_beatUp_86 ?_
      refine lv_aload_n hx hb dX7_beatUp_89 rfl (lv_at hl 0 rfl) ?_
      refine jx_get (v := .int v_9) hx hb hts iX7_beatUp_7 hown hK hP 0 rfl rfl 38 (by decide) hk182 rfl rfl dX7_beatUp_90 ?_
      refine lv_aload_n hx hb dX7_beatUp_93 rfl (lv_at hl 0 rfl) ?_
      refine jx_get (v := .int (I 26)) hx hb hts iX7_beatUp_7 hown hK hP 0 rfl rfl 26 (by decide) hk185 rfl rfl dX7_beatUp_94 ?_
      refine jx_iast (w2 := [(h, .inr (7, (oX7 R (upd I 38 v_9) L))), ((R 3), .inl (cI, 160, .inl f3)), ((R 4), .inl (cI, 160, .inl f4)), ((R 5), .inl (cI, 160, .inl f5)), ((R 6), .inl (cI, 160, .inl f6)), ((R 7), .inl (cI, 160, .inl f7)), ((R 8), .inl (cJ, 160, .inr (.inl f8))), ((R 35), .inl (cI, 64, .inl (upd g0 v_9.toNatClampNeg (I 26)))), ((R 36), .inl (cI, 64, .inl g1)), ((R 37), .inl (cI, 64, .inl g2))]) hx hb hK hP hD hS 7 0 rfl rfl (by clear hP hD hl; have z_ := ev_9.symm; clear ev_9; subst z_; have z_ := er_1.symm; clear er_1; subst z_; exact ldk_63 c_2) dX7_beatUp_97 rfl (fun H locs hP hD hS => ?_)
      refine lv_aload_n hx hb dX7_beatUp_98 rfl (lv_at hl 0 rfl) ?_
      refine jx_get (v := .ref (R 36)) hx hb hts iX7_beatUp_7 hown hK hP 0 rfl rfl 36 (by decide) hk58 rfl rfl dX7_beatUp_99 ?_
      refine lv_aload_n hx hb dX7_beatUp_102 rfl (lv_at hl 0 rfl) ?_
      refine jx_get (v := .int v_9) hx hb hts iX7_beatUp_7 hown hK hP 0 rfl rfl 38 (by decide) hk182 rfl rfl dX7_beatUp_103 ?_
      refine lv_aload_n hx hb dX7_beatUp_106 rfl (lv_at hl 0 rfl) ?_
      refine jx_get (v := .int (I 27)) hx hb hts iX7_beatUp_7 hown hK hP 0 rfl rfl 27 (by decide) hk188 rfl rfl dX7_beatUp_107 ?_
      refine jx_iast (w2 := [(h, .inr (7, (oX7 R (upd I 38 v_9) L))), ((R 3), .inl (cI, 160, .inl f3)), ((R 4), .inl (cI, 160, .inl f4)), ((R 5), .inl (cI, 160, .inl f5)), ((R 6), .inl (cI, 160, .inl f6)), ((R 7), .inl (cI, 160, .inl f7)), ((R 8), .inl (cJ, 160, .inr (.inl f8))), ((R 35), .inl (cI, 64, .inl (upd g0 v_9.toNatClampNeg (I 26)))), ((R 36), .inl (cI, 64, .inl (upd g1 v_9.toNatClampNeg (I 27)))), ((R 37), .inl (cI, 64, .inl g2))]) hx hb hK hP hD hS 8 0 rfl rfl (by clear hP hD hl; have z_ := ev_9.symm; clear ev_9; subst z_; have z_ := er_1.symm; clear er_1; subst z_; exact ldk_63 c_2) dX7_beatUp_110 rfl (fun H locs hP hD hS => ?_)
      refine lv_aload_n hx hb dX7_beatUp_111 rfl (lv_at hl 0 rfl) ?_
      refine jx_get (v := .ref (R 37)) hx hb hts iX7_beatUp_7 hown hK hP 0 rfl rfl 37 (by decide) hk61 rfl rfl dX7_beatUp_112 ?_
      refine lv_aload_n hx hb dX7_beatUp_115 rfl (lv_at hl 0 rfl) ?_
      refine jx_get (v := .int v_9) hx hb hts iX7_beatUp_7 hown hK hP 0 rfl rfl 38 (by decide) hk182 rfl rfl dX7_beatUp_116 ?_
      refine lv_iload_n hx hb dX7_beatUp_119 rfl (lv_at hl 1 rfl) ?_
      refine jx_iast (w2 := [(h, .inr (7, (oX7 R (upd I 38 v_9) L))), ((R 3), .inl (cI, 160, .inl f3)), ((R 4), .inl (cI, 160, .inl f4)), ((R 5), .inl (cI, 160, .inl f5)), ((R 6), .inl (cI, 160, .inl f6)), ((R 7), .inl (cI, 160, .inl f7)), ((R 8), .inl (cJ, 160, .inr (.inl f8))), ((R 35), .inl (cI, 64, .inl (upd g0 v_9.toNatClampNeg (I 26)))), ((R 36), .inl (cI, 64, .inl (upd g1 v_9.toNatClampNeg (I 27)))), ((R 37), .inl (cI, 64, .inl (upd g2 v_9.toNatClampNeg r_1)))]) hx hb hK hP hD hS 9 0 rfl rfl (by clear hP hD hl; have z_ := ev_9.symm; clear ev_9; subst z_; have z_ := er_1.symm; clear er_1; subst z_; exact ldk_63 c_2) dX7_beatUp_120 rfl (fun H locs hP hD hS => ?_)
      refine lv_aload_n hx hb dX7_beatUp_121 rfl (lv_at hl 0 rfl) ?_
      refine lv_dup hx hb dX7_beatUp_122 rfl ?_
      refine jx_get (v := .int v_9) hx hb hts iX7_beatUp_7 hown hK hP 0 rfl rfl 38 (by decide) hk182 rfl rfl dX7_beatUp_123 ?_
      refine lv_iconst (v := 1) hx hb dX7_beatUp_126 (by decide) ?_
      refine lv_iadd hx hb dX7_beatUp_127 ?_
      refine lv_topi (fun v_10 ev_10 => ?_)
      refine jx_put (w2 := [(h, .inr (7, (oX7 R (upd I 38 v_10) L))), ((R 3), .inl (cI, 160, .inl f3)), ((R 4), .inl (cI, 160, .inl f4)), ((R 5), .inl (cI, 160, .inl f5)), ((R 6), .inl (cI, 160, .inl f6)), ((R 7), .inl (cI, 160, .inl f7)), ((R 8), .inl (cJ, 160, .inr (.inl f8))), ((R 35), .inl (cI, 64, .inl (upd g0 v_9.toNatClampNeg (I 26)))), ((R 36), .inl (cI, 64, .inl (upd g1 v_9.toNatClampNeg (I 27)))), ((R 37), .inl (cI, 64, .inl (upd g2 v_9.toNatClampNeg r_1)))]) hx hb hts iX7_beatUp_7 tyX7 tyX7_ok nmX7 hown hK hP hD hS 0 rfl rfl 38 (by decide) hk182 rfl rfl rfl rfl (Nat.le_of_ble_eq_true rfl) dX7_beatUp_128 rfl (fun H locs hP hD hS => ?_)
      refine lv_aload_n hx hb dX7_beatUp_131 rfl (lv_at hl 0 rfl) ?_
      refine lv_dup hx hb dX7_beatUp_132 rfl ?_
      refine jx_get (v := .long (L 32)) hx hb hts iX7_beatUp_7 hown hK hP 0 rfl rfl 32 (by decide) hk191 rfl rfl dX7_beatUp_133 ?_
      refine lv_sipush (v := 4000) hx hb dX7_beatUp_136 (by decide) ?_
      refine lv_iload_n hx hb dX7_beatUp_139 rfl (lv_at hl 1 rfl) ?_
      refine lv_idiv hx hb dX7_beatUp_140 (by clear hP hD hl; have z_ := ev_10.symm; clear ev_10; subst z_; have z_ := ev_9.symm; clear ev_9; subst z_; have z_ := er_1.symm; clear er_1; subst z_; exact hd0) ?_
      refine lv_i2l hx hb dX7_beatUp_141 rfl ?_
      refine lv_ladd hx hb dX7_beatUp_142 ?_
      refine lv_topl (fun v_11 ev_11 => ?_)
      refine jx_put (w2 := [(h, .inr (7, (oX7 R (upd I 38 v_10) (vp_updL L 32 v_11)))), ((R 3), .inl (cI, 160, .inl f3)), ((R 4), .inl (cI, 160, .inl f4)), ((R 5), .inl (cI, 160, .inl f5)), ((R 6), .inl (cI, 160, .inl f6)), ((R 7), .inl (cI, 160, .inl f7)), ((R 8), .inl (cJ, 160, .inr (.inl f8))), ((R 35), .inl (cI, 64, .inl (upd g0 v_9.toNatClampNeg (I 26)))), ((R 36), .inl (cI, 64, .inl (upd g1 v_9.toNatClampNeg (I 27)))), ((R 37), .inl (cI, 64, .inl (upd g2 v_9.toNatClampNeg r_1)))]) hx hb hts iX7_beatUp_7 tyX7 tyX7_ok nmX7 hown hK hP hD hS 0 rfl rfl 32 (by decide) hk191 rfl rfl rfl rfl (Nat.le_of_ble_eq_true rfl) dX7_beatUp_143 rfl (fun H locs hP hD hS => ?_)
      refine lv_aload_n hx hb dX7_beatUp_146 rfl (lv_at hl 0 rfl) ?_
      refine lv_dup hx hb dX7_beatUp_147 rfl ?_
      refine jx_get (v := .long (L 33)) hx hb hts iX7_beatUp_7 hown hK hP 0 rfl rfl 33 (by decide) hk194 rfl rfl dX7_beatUp_148 ?_
      refine lv_lconst (v := 1) hx hb dX7_beatUp_151 (by decide) ?_
      refine lv_ladd hx hb dX7_beatUp_152 ?_
      refine lv_topl (fun v_12 ev_12 => ?_)
      refine jx_put (w2 := [(h, .inr (7, (oX7 R (upd I 38 v_10) (vp_updL (vp_updL L 32 v_11) 33 v_12)))), ((R 3), .inl (cI, 160, .inl f3)), ((R 4), .inl (cI, 160, .inl f4)), ((R 5), .inl (cI, 160, .inl f5)), ((R 6), .inl (cI, 160, .inl f6)), ((R 7), .inl (cI, 160, .inl f7)), ((R 8), .inl (cJ, 160, .inr (.inl f8))), ((R 35), .inl (cI, 64, .inl (upd g0 v_9.toNatClampNeg (I 26)))), ((R 36), .inl (cI, 64, .inl (upd g1 v_9.toNatClampNeg (I 27)))), ((R 37), .inl (cI, 64, .inl (upd g2 v_9.toNatClampNeg r_1)))]) hx hb hts iX7_beatUp_7 tyX7 tyX7_ok nmX7 hown hK hP hD hS 0 rfl rfl 33 (by decide) hk194 rfl rfl rfl rfl (Nat.le_of_ble_eq_true rfl) dX7_beatUp_153 rfl (fun H locs hP hD hS => ?_)
      refine lv_aload_n hx hb dX7_beatUp_156 rfl (lv_at hl 0 rfl) ?_
      refine lv_aload_n hx hb dX7_beatUp_157 rfl (lv_at hl 0 rfl) ?_
      refine jx_get (v := .long (L 25)) hx hb hts iX7_beatUp_7 hown hK hP 0 rfl rfl 25 (by decide) hk163 rfl rfl dX7_beatUp_158 ?_
      refine lv_lconst (v := 1) hx hb dX7_beatUp_161 (by decide) ?_
      refine lv_ladd hx hb dX7_beatUp_162 ?_
      refine lv_aload_n hx hb dX7_beatUp_163 rfl (lv_at hl 0 rfl) ?_
      refine jx_get (v := .long (L 10)) hx hb hts iX7_beatUp_7 hown hK hP 0 rfl rfl 10 (by decide) hk130 rfl rfl dX7_beatUp_164 ?_
      refine jx_joinl (J := 181) (v := (if ((L 25) + (1 : Int64)) = (L 10) then (0 : Int64) else ((L 25) + (1 : Int64)))) (rest := [.ref h]) (fun key => ?_) ?_
      · skip
        refine jx_l_ne (tgt := 175) hx hb dX7_beatUp_167 dX7_beatUp_168 (by decide) (fun c_13 => ?_) (fun c_13 => ?_)
        · skip
          refine lv_aload_n hx hb dX7_beatUp_175 rfl (lv_at hl 0 rfl) ?_
          refine jx_get (v := .long (L 25)) hx hb hts iX7_beatUp_7 hown hK hP 0 rfl rfl 25 (by decide) hk163 rfl rfl dX7_beatUp_176 ?_
          refine lv_lconst (v := 1) hx hb dX7_beatUp_179 (by decide) ?_
          refine lv_ladd hx hb dX7_beatUp_180 ?_
          rw [if_neg c_13] at key
          exact key
        · skip
          refine lv_lconst (v := 0) hx hb dX7_beatUp_171 (by decide) ?_
          refine lv_goto (tgt := 181) hx hb dX7_beatUp_172 (by decide) ?_
          rw [if_pos c_13] at key
          exact key
      refine lv_topl (fun v_14 ev_14 => ?_)
      refine jx_put (w2 := [(h, .inr (7, (oX7 R (upd I 38 v_10) (vp_updL (vp_updL (vp_updL L 25 v_14) 32 v_11) 33 v_12)))), ((R 3), .inl (cI, 160, .inl f3)), ((R 4), .inl (cI, 160, .inl f4)), ((R 5), .inl (cI, 160, .inl f5)), ((R 6), .inl (cI, 160, .inl f6)), ((R 7), .inl (cI, 160, .inl f7)), ((R 8), .inl (cJ, 160, .inr (.inl f8))), ((R 35), .inl (cI, 64, .inl (upd g0 v_9.toNatClampNeg (I 26)))), ((R 36), .inl (cI, 64, .inl (upd g1 v_9.toNatClampNeg (I 27)))), ((R 37), .inl (cI, 64, .inl (upd g2 v_9.toNatClampNeg r_1)))]) hx hb hts iX7_beatUp_7 tyX7 tyX7_ok nmX7 hown hK hP hD hS 0 rfl rfl 25 (by decide) hk163 rfl rfl rfl rfl (Nat.le_of_ble_eq_true rfl) dX7_beatUp_181 rfl (fun H locs hP hD hS => ?_)
      have hq : (sX7_beatUp I L f3 f4 f5 f6 f7 f8 f35 f36 f37) = ((upd I 38 v_10), (vp_updL (vp_updL (vp_updL L 25 v_14) 32 v_11) 33 v_12), (upd g0 v_9.toNatClampNeg (I 26)), (upd g1 v_9.toNatClampNeg (I 27)), (upd g2 v_9.toNatClampNeg r_1)) := (by obtain ⟨q0, q1, q2⟩ := ldk_shI_end hp c_8; clear hP hD hl; have z_ := ev_14.symm; clear ev_14; subst z_; have z_ := ev_12.symm; clear ev_12; subst z_; have z_ := ev_11.symm; clear ev_11; subst z_; have z_ := ev_10.symm; clear ev_10; subst z_; have z_ := ev_9.symm; clear ev_9; subst z_; have z_ := er_1.symm; clear er_1; subst z_; subst q0; subst q1; subst q2; exact (if_pos c_2).trans rfl)
      exact jx_vret () hx hb hr hlocks hK hP hD hS (by rw [hq]) trivial dX7_beatUp_184
    · skip
      refine lv_aload_n hx hb dX7_beatUp_27 rfl (lv_at hl 0 rfl) ?_
      refine jx_get (v := .ref (R 35)) hx hb hts iX7_beatUp_7 hown hK hP 0 rfl rfl 35 (by decide) hk55 rfl rfl dX7_beatUp_28 ?_
      refine lv_iload_n hx hb dX7_beatUp_31 rfl (lv_at hl 2 rfl) ?_
      refine lv_iconst (v := 1) hx hb dX7_beatUp_32 (by decide) ?_
      refine lv_isub hx hb dX7_beatUp_33 ?_
      refine lv_aload_n hx hb dX7_beatUp_34 rfl (lv_at hl 0 rfl) ?_
      refine jx_get (v := .ref (R 35)) hx hb hts iX7_beatUp_7 hown hK hP 0 rfl rfl 35 (by decide) hk55 rfl rfl dX7_beatUp_35 ?_
      refine lv_iload_n hx hb dX7_beatUp_38 rfl (lv_at hl 2 rfl) ?_
      refine va_iald hx hb hK hP 7 0 rfl rfl (ldk_shI_in hp c_8).1 dX7_beatUp_39 ?_
      refine lv_topi (fun v_15 ev_15 => ?_)
      refine jx_iast (w2 := [(h, .inr (7, (oX7 R I L))), ((R 3), .inl (cI, 160, .inl f3)), ((R 4), .inl (cI, 160, .inl f4)), ((R 5), .inl (cI, 160, .inl f5)), ((R 6), .inl (cI, 160, .inl f6)), ((R 7), .inl (cI, 160, .inl f7)), ((R 8), .inl (cJ, 160, .inr (.inl f8))), ((R 35), .inl (cI, 64, .inl (upd g0 (ii - (1 : Int32)).toNatClampNeg v_15))), ((R 36), .inl (cI, 64, .inl g1)), ((R 37), .inl (cI, 64, .inl g2))]) hx hb hK hP hD hS 7 0 rfl rfl (ldk_shI_in hp c_8).2 dX7_beatUp_40 rfl (fun H locs hP hD hS => ?_)
      refine lv_aload_n hx hb dX7_beatUp_41 rfl (lv_at hl 0 rfl) ?_
      refine jx_get (v := .ref (R 36)) hx hb hts iX7_beatUp_7 hown hK hP 0 rfl rfl 36 (by decide) hk58 rfl rfl dX7_beatUp_42 ?_
      refine lv_iload_n hx hb dX7_beatUp_45 rfl (lv_at hl 2 rfl) ?_
      refine lv_iconst (v := 1) hx hb dX7_beatUp_46 (by decide) ?_
      refine lv_isub hx hb dX7_beatUp_47 ?_
      refine lv_aload_n hx hb dX7_beatUp_48 rfl (lv_at hl 0 rfl) ?_
      refine jx_get (v := .ref (R 36)) hx hb hts iX7_beatUp_7 hown hK hP 0 rfl rfl 36 (by decide) hk58 rfl rfl dX7_beatUp_49 ?_
      refine lv_iload_n hx hb dX7_beatUp_52 rfl (lv_at hl 2 rfl) ?_
      refine va_iald hx hb hK hP 8 0 rfl rfl (ldk_shI_in hp c_8).1 dX7_beatUp_53 ?_
      refine lv_topi (fun v_16 ev_16 => ?_)
      refine jx_iast (w2 := [(h, .inr (7, (oX7 R I L))), ((R 3), .inl (cI, 160, .inl f3)), ((R 4), .inl (cI, 160, .inl f4)), ((R 5), .inl (cI, 160, .inl f5)), ((R 6), .inl (cI, 160, .inl f6)), ((R 7), .inl (cI, 160, .inl f7)), ((R 8), .inl (cJ, 160, .inr (.inl f8))), ((R 35), .inl (cI, 64, .inl (upd g0 (ii - (1 : Int32)).toNatClampNeg v_15))), ((R 36), .inl (cI, 64, .inl (upd g1 (ii - (1 : Int32)).toNatClampNeg v_16))), ((R 37), .inl (cI, 64, .inl g2))]) hx hb hK hP hD hS 8 0 rfl rfl (ldk_shI_in hp c_8).2 dX7_beatUp_54 rfl (fun H locs hP hD hS => ?_)
      refine lv_aload_n hx hb dX7_beatUp_55 rfl (lv_at hl 0 rfl) ?_
      refine jx_get (v := .ref (R 37)) hx hb hts iX7_beatUp_7 hown hK hP 0 rfl rfl 37 (by decide) hk61 rfl rfl dX7_beatUp_56 ?_
      refine lv_iload_n hx hb dX7_beatUp_59 rfl (lv_at hl 2 rfl) ?_
      refine lv_iconst (v := 1) hx hb dX7_beatUp_60 (by decide) ?_
      refine lv_isub hx hb dX7_beatUp_61 ?_
      refine lv_aload_n hx hb dX7_beatUp_62 rfl (lv_at hl 0 rfl) ?_
      refine jx_get (v := .ref (R 37)) hx hb hts iX7_beatUp_7 hown hK hP 0 rfl rfl 37 (by decide) hk61 rfl rfl dX7_beatUp_63 ?_
      refine lv_iload_n hx hb dX7_beatUp_66 rfl (lv_at hl 2 rfl) ?_
      refine va_iald hx hb hK hP 9 0 rfl rfl (ldk_shI_in hp c_8).1 dX7_beatUp_67 ?_
      refine lv_topi (fun v_17 ev_17 => ?_)
      refine jx_iast (w2 := [(h, .inr (7, (oX7 R I L))), ((R 3), .inl (cI, 160, .inl f3)), ((R 4), .inl (cI, 160, .inl f4)), ((R 5), .inl (cI, 160, .inl f5)), ((R 6), .inl (cI, 160, .inl f6)), ((R 7), .inl (cI, 160, .inl f7)), ((R 8), .inl (cJ, 160, .inr (.inl f8))), ((R 35), .inl (cI, 64, .inl (upd g0 (ii - (1 : Int32)).toNatClampNeg v_15))), ((R 36), .inl (cI, 64, .inl (upd g1 (ii - (1 : Int32)).toNatClampNeg v_16))), ((R 37), .inl (cI, 64, .inl (upd g2 (ii - (1 : Int32)).toNatClampNeg v_17)))]) hx hb hK hP hD hS 9 0 rfl rfl (ldk_shI_in hp c_8).2 dX7_beatUp_68 rfl (fun H locs hP hD hS => ?_)
      obtain ⟨v_18, ev_18⟩ : ∃ y : Int32, y = ii + (1 : Int32) := ⟨_, rfl⟩
      refine lv_iinc (v := v_18) (lv' := [(2, .int v_18), (0, .ref h), (1, .int r_1)]) hx hb dX7_beatUp_69 hl (k := 2) rfl (by rw [ev_18]; rfl) (by decide) rfl (fun ls hl => ?_)
      refine lv_goto (tgt := 21) hx hb dX7_beatUp_72 (by decide) ?_
      exact ih (v_18, (upd g0 (ii - (1 : Int32)).toNatClampNeg v_15), (upd g1 (ii - (1 : Int32)).toNatClampNeg v_16), (upd g2 (ii - (1 : Int32)).toNatClampNeg v_17), kk + 1, ()) _ _ _ ⟨hP, hD, hS, lv_sub hl [1, 2, 0] rfl, (show ldk_shI f35 f36 f37 (kk + 1) v_18 (upd g0 (ii - (1 : Int32)).toNatClampNeg v_15) (upd g1 (ii - (1 : Int32)).toNatClampNeg v_16) (upd g2 (ii - (1 : Int32)).toNatClampNeg v_17) from (by clear hP hD hl; have z_ := ev_18.symm; clear ev_18; subst z_; have z_ := ev_17.symm; clear ev_17; subst z_; have z_ := ev_16.symm; clear ev_16; subst z_; have z_ := ev_15.symm; clear ev_15; subst z_; have z_ := er_1.symm; clear er_1; subst z_; exact (ldk_shI_step hp c_8).1))⟩ (show 64 - (kk + 1) < 64 - kk from (by clear hP hD hl; have z_ := ev_18.symm; clear ev_18; subst z_; have z_ := ev_17.symm; clear ev_17; subst z_; have z_ := ev_16.symm; clear ev_16; subst z_; have z_ := ev_15.symm; clear ev_15; subst z_; have z_ := er_1.symm; clear er_1; subst z_; exact (ldk_shI_step hp c_8).2))

theorem ldk_bu42 (I : Nat → Int32) (L : Nat → Int64) (f3 f4 f5 f6 f7 : Nat → Int32) (f8 : Nat → Int64) (f35 f36 f37 : Nat → Int32) : (sX7_beatUp I L f3 f4 f5 f6 f7 f8 f35 f36 f37).1 42 = I 42 := by
  unfold sX7_beatUp ldk_bu
  split <;> (dsimp only; exact pk_un (by decide))
theorem ldk_br42 (I : Nat → Int32) : (sX7_brakes I) 42 = I 42 := by
  unfold sX7_brakes
  split <;> rfl
def sX7_comes (I : Nat → Int32) (L : Nat → Int64) (f3 : Nat → Int32) (f4 : Nat → Int32) (f5 : Nat → Int32) (f6 : Nat → Int32) (f7 : Nat → Int32) (f8 : Nat → Int64) (f35 : Nat → Int32) (f36 : Nat → Int32) (f37 : Nat → Int32) (f39 : Nat → Int32) (f40 : Nat → Int32) (f41 : Nat → Int64) (a0 : Int32) : (Nat → Int32) × (Nat → Int64) × (Nat → Int32) × (Nat → Int32) × (Nat → Int32) × (Nat → Int32) × (Nat → Int32) × (Nat → Int64) := (if a0 = (480 : Int32) then ((upd I 27 (sX7_look f3 f4 f5 f6 f7 f8 (L 25) (1 : Int32))), L, f35, f36, f37, f39, f40, f41) else (if a0 = (1440 : Int32) then (if (I 29) = 0 then ((upd (upd I 28 (if (I 29) = 0 then (1 : Int32) else (2 : Int32))) 29 (0 : Int32)), L, f35, f36, f37, f39, f40, f41) else ((upd (sX7_brakes (upd I 28 (if (I 29) = 0 then (1 : Int32) else (2 : Int32)))) 29 (0 : Int32)), L, f35, f36, f37, f39, f40, f41)) else (if a0 = (4800 : Int32) then (((sX7_record (upd I 26 (sX7_look f3 f4 f5 f6 f7 f8 (L 25) (0 : Int32))) L f39 f40 f41 (1 : Int32)).1), L, f35, f36, f37, ((sX7_record (upd I 26 (sX7_look f3 f4 f5 f6 f7 f8 (L 25) (0 : Int32))) L f39 f40 f41 (1 : Int32)).2.1), ((sX7_record (upd I 26 (sX7_look f3 f4 f5 f6 f7 f8 (L 25) (0 : Int32))) L f39 f40 f41 (1 : Int32)).2.2.1), ((sX7_record (upd I 26 (sX7_look f3 f4 f5 f6 f7 f8 (L 25) (0 : Int32))) L f39 f40 f41 (1 : Int32)).2.2.2)) else (if (I 28) = (1 : Int32) then (((sX7_record (upd (upd ((sX7_beatUp I L f3 f4 f5 f6 f7 f8 f35 f36 f37).1) 28 (0 : Int32)) 30 ((((sX7_beatUp I L f3 f4 f5 f6 f7 f8 f35 f36 f37).1) 30) + (if (((sX7_beatUp I L f3 f4 f5 f6 f7 f8 f35 f36 f37).1) 28) = (2 : Int32) then (1 : Int32) else (0 : Int32)))) ((sX7_beatUp I L f3 f4 f5 f6 f7 f8 f35 f36 f37).2.1) f39 f40 f41 (0 : Int32)).1), (vp_updL ((sX7_beatUp I L f3 f4 f5 f6 f7 f8 f35 f36 f37).2.1) 34 ((((sX7_beatUp I L f3 f4 f5 f6 f7 f8 f35 f36 f37).2.1) 34) + (1 : Int64))), ((sX7_beatUp I L f3 f4 f5 f6 f7 f8 f35 f36 f37).2.2.1), ((sX7_beatUp I L f3 f4 f5 f6 f7 f8 f35 f36 f37).2.2.2.1), ((sX7_beatUp I L f3 f4 f5 f6 f7 f8 f35 f36 f37).2.2.2.2), ((sX7_record (upd (upd ((sX7_beatUp I L f3 f4 f5 f6 f7 f8 f35 f36 f37).1) 28 (0 : Int32)) 30 ((((sX7_beatUp I L f3 f4 f5 f6 f7 f8 f35 f36 f37).1) 30) + (if (((sX7_beatUp I L f3 f4 f5 f6 f7 f8 f35 f36 f37).1) 28) = (2 : Int32) then (1 : Int32) else (0 : Int32)))) ((sX7_beatUp I L f3 f4 f5 f6 f7 f8 f35 f36 f37).2.1) f39 f40 f41 (0 : Int32)).2.1), ((sX7_record (upd (upd ((sX7_beatUp I L f3 f4 f5 f6 f7 f8 f35 f36 f37).1) 28 (0 : Int32)) 30 ((((sX7_beatUp I L f3 f4 f5 f6 f7 f8 f35 f36 f37).1) 30) + (if (((sX7_beatUp I L f3 f4 f5 f6 f7 f8 f35 f36 f37).1) 28) = (2 : Int32) then (1 : Int32) else (0 : Int32)))) ((sX7_beatUp I L f3 f4 f5 f6 f7 f8 f35 f36 f37).2.1) f39 f40 f41 (0 : Int32)).2.2.1), ((sX7_record (upd (upd ((sX7_beatUp I L f3 f4 f5 f6 f7 f8 f35 f36 f37).1) 28 (0 : Int32)) 30 ((((sX7_beatUp I L f3 f4 f5 f6 f7 f8 f35 f36 f37).1) 30) + (if (((sX7_beatUp I L f3 f4 f5 f6 f7 f8 f35 f36 f37).1) 28) = (2 : Int32) then (1 : Int32) else (0 : Int32)))) ((sX7_beatUp I L f3 f4 f5 f6 f7 f8 f35 f36 f37).2.1) f39 f40 f41 (0 : Int32)).2.2.2)) else (((sX7_record (upd (upd I 28 (0 : Int32)) 30 ((I 30) + (if (I 28) = (2 : Int32) then (1 : Int32) else (0 : Int32)))) L f39 f40 f41 (0 : Int32)).1), (vp_updL L 34 ((L 34) + (1 : Int64))), f35, f36, f37, ((sX7_record (upd (upd I 28 (0 : Int32)) 30 ((I 30) + (if (I 28) = (2 : Int32) then (1 : Int32) else (0 : Int32)))) L f39 f40 f41 (0 : Int32)).2.1), ((sX7_record (upd (upd I 28 (0 : Int32)) 30 ((I 30) + (if (I 28) = (2 : Int32) then (1 : Int32) else (0 : Int32)))) L f39 f40 f41 (0 : Int32)).2.2.1), ((sX7_record (upd (upd I 28 (0 : Int32)) 30 ((I 30) + (if (I 28) = (2 : Int32) then (1 : Int32) else (0 : Int32)))) L f39 f40 f41 (0 : Int32)).2.2.2))))))
set_option maxRecDepth 20000 in
theorem iX7_comes_7 : ∀ w ∈ wsX70, w ∈ wsX7_comes := by decide +kernel
set_option maxHeartbeats 4000000 in
set_option maxRecDepth 100000 in
theorem kX7_comes (l : Launch) (D : va_G) (cI cJ cZ cD : ClassId) (tA : Nat) (h : Nat) (R : Nat → Nat) (I : Nat → Int32) (L : Nat → Int64) (f3 : Nat → Int32) (f4 : Nat → Int32) (f5 : Nat → Int32) (f6 : Nat → Int32) (f7 : Nat → Int32) (f8 : Nat → Int64) (f35 : Nat → Int32) (f36 : Nat → Int32) (f37 : Nat → Int32) (f39 : Nat → Int32) (f40 : Nat → Int32) (f41 : Nat → Int64) (a0 : Int32) (hlk : ldkOK f3 f4 f5 f6 f7 f8 161 (0, 100, L 25, 0)) (hd0 : ¬ sX7_look f3 f4 f5 f6 f7 f8 (L 25) 2 = 0) (hcl : ldk_cl (I 38) f37) (hwr : I 42 = 0 ∨ I 42 = 1) : jx_M l yX7_comes wsX7_comes ({ frames := 3, cells := 0, slots := 0, locals := 75 }) D (jT cI cJ cZ cD) tA [.ref h, .int a0] [(h, .inr (7, (oX7 R I L))), ((R 3), .inl (cI, 160, .inl f3)), ((R 4), .inl (cI, 160, .inl f4)), ((R 5), .inl (cI, 160, .inl f5)), ((R 6), .inl (cI, 160, .inl f6)), ((R 7), .inl (cI, 160, .inl f7)), ((R 8), .inl (cJ, 160, .inr (.inl f8))), ((R 35), .inl (cI, 64, .inl f35)), ((R 36), .inl (cI, 64, .inl f36)), ((R 37), .inl (cI, 64, .inl f37)), ((R 39), .inl (cZ, 2, .inl f39)), ((R 40), .inl (cZ, 2, .inl f40)), ((R 41), .inl (cJ, 2, .inr (.inl f41)))] (jx_Qv D (jT cI cJ cZ cD) (fun (_ : Unit) => True) (fun _ => [(h, .inr (7, (oX7 R (sX7_comes I L f3 f4 f5 f6 f7 f8 f35 f36 f37 f39 f40 f41 a0).1 (sX7_comes I L f3 f4 f5 f6 f7 f8 f35 f36 f37 f39 f40 f41 a0).2.1))), ((R 3), .inl (cI, 160, .inl f3)), ((R 4), .inl (cI, 160, .inl f4)), ((R 5), .inl (cI, 160, .inl f5)), ((R 6), .inl (cI, 160, .inl f6)), ((R 7), .inl (cI, 160, .inl f7)), ((R 8), .inl (cJ, 160, .inr (.inl f8))), ((R 35), .inl (cI, 64, .inl ((sX7_comes I L f3 f4 f5 f6 f7 f8 f35 f36 f37 f39 f40 f41 a0).2.2.1))), ((R 36), .inl (cI, 64, .inl ((sX7_comes I L f3 f4 f5 f6 f7 f8 f35 f36 f37 f39 f40 f41 a0).2.2.2.1))), ((R 37), .inl (cI, 64, .inl ((sX7_comes I L f3 f4 f5 f6 f7 f8 f35 f36 f37 f39 f40 f41 a0).2.2.2.2.1))), ((R 39), .inl (cZ, 2, .inl ((sX7_comes I L f3 f4 f5 f6 f7 f8 f35 f36 f37 f39 f40 f41 a0).2.2.2.2.2.1))), ((R 40), .inl (cZ, 2, .inl ((sX7_comes I L f3 f4 f5 f6 f7 f8 f35 f36 f37 f39 f40 f41 a0).2.2.2.2.2.2.1))), ((R 41), .inl (cJ, 2, .inr (.inl ((sX7_comes I L f3 f4 f5 f6 f7 f8 f35 f36 f37 f39 f40 f41 a0).2.2.2.2.2.2.2))))])) := by
  refine jx_of (cc := cX7_comes) (maxL := 2) (ret := none) (by decide +kernel) rfl (Nat.le_of_ble_eq_true rfl) ?_
  intro p e s m below meth c A ls hx hb hr hlocks hml hown hts hK hP hD hA hS hX hl
  have hl : lv_has ls 2 [(0, .ref h), (1, .int a0)] := hl
  have hown : s.vm.findClass RX7 = some m.cls := hown
  have hk163 := hts (.fieldLink RX7 163 "LoomDeskModel" "place" "J") (by decide +kernel)
  have hk185 := hts (.fieldLink RX7 185 "LoomDeskModel" "shed" "I") (by decide +kernel)
  have hk188 := hts (.fieldLink RX7 188 "LoomDeskModel" "carrier" "I") (by decide +kernel)
  have hk197 := hts (.fieldLink RX7 197 "LoomDeskModel" "broken" "Z") (by decide +kernel)
  have hk200 := hts (.fieldLink RX7 200 "LoomDeskModel" "pick" "I") (by decide +kernel)
  have hk210 := hts (.fieldLink RX7 210 "LoomDeskModel" "missed" "I") (by decide +kernel)
  have hk213 := hts (.fieldLink RX7 213 "LoomDeskModel" "turns" "J") (by decide +kernel)
  refine lv_iload_n hx hb dX7_comes_0 rfl (lv_at hl 1 rfl) ?_
  refine lv_sipush (v := 480) hx hb dX7_comes_1 (by decide) ?_
  refine lv_icmp_ne (tgt := 23) hx hb dX7_comes_4 (by decide) (fun c_1 => ?_) (fun c_1 => ?_)
  · skip
    refine lv_iload_n hx hb dX7_comes_23 rfl (lv_at hl 1 rfl) ?_
    refine lv_sipush (v := 1440) hx hb dX7_comes_24 (by decide) ?_
    refine lv_icmp_ne (tgt := 65) hx hb dX7_comes_27 (by decide) (fun c_2 => ?_) (fun c_2 => ?_)
    · skip
      refine lv_iload_n hx hb dX7_comes_65 rfl (lv_at hl 1 rfl) ?_
      refine lv_sipush (v := 4800) hx hb dX7_comes_66 (by decide) ?_
      refine lv_icmp_ne (tgt := 93) hx hb dX7_comes_69 (by decide) (fun c_3 => ?_) (fun c_3 => ?_)
      · skip
        refine lv_aload_n hx hb dX7_comes_93 rfl (lv_at hl 0 rfl) ?_
        refine jx_get (v := .int (I 28)) hx hb hts iX7_comes_7 hown hK hP 0 rfl rfl 28 (by decide) hk200 rfl rfl dX7_comes_94 ?_
        refine lv_iconst (v := 1) hx hb dX7_comes_97 (by decide) ?_
        refine lv_icmp_ne (tgt := 105) hx hb dX7_comes_98 (by decide) (fun c_4 => ?_) (fun c_4 => ?_)
        · skip
          refine lv_aload_n hx hb dX7_comes_105 rfl (lv_at hl 0 rfl) ?_
          refine lv_dup hx hb dX7_comes_106 rfl ?_
          refine jx_get (v := .int (I 30)) hx hb hts iX7_comes_7 hown hK hP 0 rfl rfl 30 (by decide) hk210 rfl rfl dX7_comes_107 ?_
          refine lv_aload_n hx hb dX7_comes_110 rfl (lv_at hl 0 rfl) ?_
          refine jx_get (v := .int (I 28)) hx hb hts iX7_comes_7 hown hK hP 0 rfl rfl 28 (by decide) hk200 rfl rfl dX7_comes_111 ?_
          refine lv_iconst (v := 2) hx hb dX7_comes_114 (by decide) ?_
          refine jx_joini (J := 123) (v := (if (I 28) = (2 : Int32) then (1 : Int32) else (0 : Int32))) (rest := [.int (I 30), .ref h]) (fun key => ?_) ?_
          · skip
            refine lv_icmp_ne (tgt := 122) hx hb dX7_comes_115 (by decide) (fun c_5 => ?_) (fun c_5 => ?_)
            · skip
              refine lv_iconst (v := 0) hx hb dX7_comes_122 (by decide) ?_
              rw [if_neg c_5] at key
              exact key
            · skip
              refine lv_iconst (v := 1) hx hb dX7_comes_118 (by decide) ?_
              refine lv_goto (tgt := 123) hx hb dX7_comes_119 (by decide) ?_
              rw [if_pos c_5] at key
              exact key
          refine lv_topi (fun v_6 ev_6 => ?_)
          refine lv_iadd hx hb dX7_comes_123 ?_
          refine lv_topi (fun v_7 ev_7 => ?_)
          refine jx_put (w2 := [(h, .inr (7, (oX7 R (upd I 30 v_7) L))), ((R 3), .inl (cI, 160, .inl f3)), ((R 4), .inl (cI, 160, .inl f4)), ((R 5), .inl (cI, 160, .inl f5)), ((R 6), .inl (cI, 160, .inl f6)), ((R 7), .inl (cI, 160, .inl f7)), ((R 8), .inl (cJ, 160, .inr (.inl f8))), ((R 35), .inl (cI, 64, .inl f35)), ((R 36), .inl (cI, 64, .inl f36)), ((R 37), .inl (cI, 64, .inl f37)), ((R 39), .inl (cZ, 2, .inl f39)), ((R 40), .inl (cZ, 2, .inl f40)), ((R 41), .inl (cJ, 2, .inr (.inl f41)))]) hx hb hts iX7_comes_7 tyX7 tyX7_ok nmX7 hown hK hP hD hS 0 rfl rfl 30 (by decide) hk210 rfl rfl rfl rfl (Nat.le_of_ble_eq_true rfl) dX7_comes_124 rfl (fun H locs hP hD hS => ?_)
          refine lv_aload_n hx hb dX7_comes_127 rfl (lv_at hl 0 rfl) ?_
          refine lv_iconst (v := 0) hx hb dX7_comes_128 (by decide) ?_
          refine jx_put (w2 := [(h, .inr (7, (oX7 R (upd (upd I 28 (0 : Int32)) 30 v_7) L))), ((R 3), .inl (cI, 160, .inl f3)), ((R 4), .inl (cI, 160, .inl f4)), ((R 5), .inl (cI, 160, .inl f5)), ((R 6), .inl (cI, 160, .inl f6)), ((R 7), .inl (cI, 160, .inl f7)), ((R 8), .inl (cJ, 160, .inr (.inl f8))), ((R 35), .inl (cI, 64, .inl f35)), ((R 36), .inl (cI, 64, .inl f36)), ((R 37), .inl (cI, 64, .inl f37)), ((R 39), .inl (cZ, 2, .inl f39)), ((R 40), .inl (cZ, 2, .inl f40)), ((R 41), .inl (cJ, 2, .inr (.inl f41)))]) hx hb hts iX7_comes_7 tyX7 tyX7_ok nmX7 hown hK hP hD hS 0 rfl rfl 28 (by decide) hk200 rfl rfl rfl rfl (Nat.le_of_ble_eq_true rfl) dX7_comes_129 rfl (fun H locs hP hD hS => ?_)
          refine lv_aload_n hx hb dX7_comes_132 rfl (lv_at hl 0 rfl) ?_
          refine lv_iconst (v := 0) hx hb dX7_comes_133 (by decide) ?_
          refine jx_callv (wc := [(h, .inr (7, (oX7 R (upd (upd I 28 (0 : Int32)) 30 v_7) L))), ((R 39), .inl (cZ, 2, .inl f39)), ((R 40), .inl (cZ, 2, .inl f40)), ((R 41), .inl (cJ, 2, .inr (.inl f41)))]) (wr := [((R 3), .inl (cI, 160, .inl f3)), ((R 4), .inl (cI, 160, .inl f4)), ((R 5), .inl (cI, 160, .inl f5)), ((R 6), .inl (cI, 160, .inl f6)), ((R 7), .inl (cI, 160, .inl f7)), ((R 8), .inl (cJ, 160, .inr (.inl f8))), ((R 35), .inl (cI, 64, .inl f35)), ((R 36), .inl (cI, 64, .inl f36)), ((R 37), .inl (cI, 64, .inl f37))]) hP hD hS hA hK [0, 10, 11, 12] [1, 2, 3, 4, 5, 6, 7, 8, 9] rfl rfl (by decide) (by decide) (by decide) (fun hPc hDc hF => jx_runV (As := [.int (0 : Int32)]) (rest := []) (n := 1) (ci := 7) (q0 := 0) hx hb hml hown hts hK hX hS hl.1 (kX7_record l D cI cJ cZ cD tA h R (upd (upd I 28 (0 : Int32)) 30 v_7) L f39 f40 f41 (0 : Int32) (by clear hP hD hl; have z_ := ev_7.symm; clear ev_7; subst z_; have z_ := ev_6.symm; clear ev_6; subst z_; (try simp only [ldk_bu42, pk_un (show (42 : Nat) ≠ 28 by decide), pk_un (show (42 : Nat) ≠ 30 by decide), pk_un (show (42 : Nat) ≠ 26 by decide)]); exact hwr) (Or.inl rfl)) gX7_comes_X7_record rfl rfl rfl (by decide +kernel) ⟨Nat.le_of_ble_eq_true rfl, Nat.le_of_ble_eq_true rfl⟩ rfl rfl rfl rfl rfl (Nat.le_of_ble_eq_true rfl) dX7_comes_134 ⟨Nat.zero_le _, Nat.zero_le _⟩ hPc hDc hF) (fun u H locs hw hP hD hS => ?_)
          obtain ⟨I_9, eI_9⟩ : ∃ x : (Nat → Int32), x = (sX7_record (upd (upd I 28 (0 : Int32)) 30 v_7) L f39 f40 f41 (0 : Int32)).1 := ⟨_, rfl⟩
          obtain ⟨f_10, ef_10⟩ : ∃ x : (Nat → Int32), x = (sX7_record (upd (upd I 28 (0 : Int32)) 30 v_7) L f39 f40 f41 (0 : Int32)).2.1 := ⟨_, rfl⟩
          obtain ⟨f_11, ef_11⟩ : ∃ x : (Nat → Int32), x = (sX7_record (upd (upd I 28 (0 : Int32)) 30 v_7) L f39 f40 f41 (0 : Int32)).2.2.1 := ⟨_, rfl⟩
          obtain ⟨f_12, ef_12⟩ : ∃ x : (Nat → Int64), x = (sX7_record (upd (upd I 28 (0 : Int32)) 30 v_7) L f39 f40 f41 (0 : Int32)).2.2.2 := ⟨_, rfl⟩
          have hP : va_P D vwCl [((R 3), .inl (cI, 160, .inl f3)), ((R 4), .inl (cI, 160, .inl f4)), ((R 5), .inl (cI, 160, .inl f5)), ((R 6), .inl (cI, 160, .inl f6)), ((R 7), .inl (cI, 160, .inl f7)), ((R 8), .inl (cJ, 160, .inr (.inl f8))), ((R 35), .inl (cI, 64, .inl f35)), ((R 36), .inl (cI, 64, .inl f36)), ((R 37), .inl (cI, 64, .inl f37)), (h, .inr (7, (oX7 R I_9 L))), ((R 39), .inl (cZ, 2, .inl f_10)), ((R 40), .inl (cZ, 2, .inl f_11)), ((R 41), .inl (cJ, 2, .inr (.inl f_12)))] H := by rw [eI_9, ef_10, ef_11, ef_12]; exact hP
          have hD : va_D A [((R 3), .inl (cI, 160, .inl f3)), ((R 4), .inl (cI, 160, .inl f4)), ((R 5), .inl (cI, 160, .inl f5)), ((R 6), .inl (cI, 160, .inl f6)), ((R 7), .inl (cI, 160, .inl f7)), ((R 8), .inl (cJ, 160, .inr (.inl f8))), ((R 35), .inl (cI, 64, .inl f35)), ((R 36), .inl (cI, 64, .inl f36)), ((R 37), .inl (cI, 64, .inl f37)), (h, .inr (7, (oX7 R I_9 L))), ((R 39), .inl (cZ, 2, .inl f_10)), ((R 40), .inl (cZ, 2, .inl f_11)), ((R 41), .inl (cJ, 2, .inr (.inl f_12)))] := by rw [eI_9, ef_10, ef_11, ef_12]; exact hD
          refine lv_aload_n hx hb dX7_comes_137 rfl (lv_at hl 0 rfl) ?_
          refine lv_dup hx hb dX7_comes_138 rfl ?_
          refine jx_get (v := .long (L 34)) hx hb hts iX7_comes_7 hown hK hP 9 rfl rfl 34 (by decide) hk213 rfl rfl dX7_comes_139 ?_
          refine lv_lconst (v := 1) hx hb dX7_comes_142 (by decide) ?_
          refine lv_ladd hx hb dX7_comes_143 ?_
          refine lv_topl (fun v_13 ev_13 => ?_)
          refine jx_put (w2 := [((R 3), .inl (cI, 160, .inl f3)), ((R 4), .inl (cI, 160, .inl f4)), ((R 5), .inl (cI, 160, .inl f5)), ((R 6), .inl (cI, 160, .inl f6)), ((R 7), .inl (cI, 160, .inl f7)), ((R 8), .inl (cJ, 160, .inr (.inl f8))), ((R 35), .inl (cI, 64, .inl f35)), ((R 36), .inl (cI, 64, .inl f36)), ((R 37), .inl (cI, 64, .inl f37)), (h, .inr (7, (oX7 R I_9 (vp_updL L 34 v_13)))), ((R 39), .inl (cZ, 2, .inl f_10)), ((R 40), .inl (cZ, 2, .inl f_11)), ((R 41), .inl (cJ, 2, .inr (.inl f_12)))]) hx hb hts iX7_comes_7 tyX7 tyX7_ok nmX7 hown hK hP hD hS 9 rfl rfl 34 (by decide) hk213 rfl rfl rfl rfl (Nat.le_of_ble_eq_true rfl) dX7_comes_144 rfl (fun H locs hP hD hS => ?_)
          have hq : (sX7_comes I L f3 f4 f5 f6 f7 f8 f35 f36 f37 f39 f40 f41 a0) = (I_9, (vp_updL L 34 v_13), f35, f36, f37, f_10, f_11, f_12) := by clear hP hD hl; have z_ := ev_13.symm; clear ev_13; subst z_; have z_ := ef_12.symm; clear ef_12; subst z_; have z_ := ef_11.symm; clear ef_11; subst z_; have z_ := ef_10.symm; clear ef_10; subst z_; have z_ := eI_9.symm; clear eI_9; subst z_; have z_ := ev_7.symm; clear ev_7; subst z_; have z_ := ev_6.symm; clear ev_6; subst z_; unfold sX7_comes; exact (if_neg c_1).trans ((if_neg c_2).trans ((if_neg c_3).trans ((if_neg c_4))))
          exact jx_vret () hx hb hr hlocks hK (hP.sub (ws' := [(h, .inr (7, (oX7 R I_9 (vp_updL L 34 v_13)))), ((R 3), .inl (cI, 160, .inl f3)), ((R 4), .inl (cI, 160, .inl f4)), ((R 5), .inl (cI, 160, .inl f5)), ((R 6), .inl (cI, 160, .inl f6)), ((R 7), .inl (cI, 160, .inl f7)), ((R 8), .inl (cJ, 160, .inr (.inl f8))), ((R 35), .inl (cI, 64, .inl f35)), ((R 36), .inl (cI, 64, .inl f36)), ((R 37), .inl (cI, 64, .inl f37)), ((R 39), .inl (cZ, 2, .inl f_10)), ((R 40), .inl (cZ, 2, .inl f_11)), ((R 41), .inl (cJ, 2, .inr (.inl f_12)))]) [9, 0, 1, 2, 3, 4, 5, 6, 7, 8, 10, 11, 12] rfl) (hD.sub (ws' := [(h, .inr (7, (oX7 R I_9 (vp_updL L 34 v_13)))), ((R 3), .inl (cI, 160, .inl f3)), ((R 4), .inl (cI, 160, .inl f4)), ((R 5), .inl (cI, 160, .inl f5)), ((R 6), .inl (cI, 160, .inl f6)), ((R 7), .inl (cI, 160, .inl f7)), ((R 8), .inl (cJ, 160, .inr (.inl f8))), ((R 35), .inl (cI, 64, .inl f35)), ((R 36), .inl (cI, 64, .inl f36)), ((R 37), .inl (cI, 64, .inl f37)), ((R 39), .inl (cZ, 2, .inl f_10)), ((R 40), .inl (cZ, 2, .inl f_11)), ((R 41), .inl (cJ, 2, .inr (.inl f_12)))]) [9, 0, 1, 2, 3, 4, 5, 6, 7, 8, 10, 11, 12] (by decide) rfl) hS (by rw [hq]) trivial dX7_comes_147
        · skip
          refine lv_aload_n hx hb dX7_comes_101 rfl (lv_at hl 0 rfl) ?_
          refine jx_callv (wc := [(h, .inr (7, (oX7 R I L))), ((R 3), .inl (cI, 160, .inl f3)), ((R 4), .inl (cI, 160, .inl f4)), ((R 5), .inl (cI, 160, .inl f5)), ((R 6), .inl (cI, 160, .inl f6)), ((R 7), .inl (cI, 160, .inl f7)), ((R 8), .inl (cJ, 160, .inr (.inl f8))), ((R 35), .inl (cI, 64, .inl f35)), ((R 36), .inl (cI, 64, .inl f36)), ((R 37), .inl (cI, 64, .inl f37))]) (wr := [((R 39), .inl (cZ, 2, .inl f39)), ((R 40), .inl (cZ, 2, .inl f40)), ((R 41), .inl (cJ, 2, .inr (.inl f41)))]) hP hD hS hA hK [0, 1, 2, 3, 4, 5, 6, 7, 8, 9] [10, 11, 12] rfl rfl (by decide) (by decide) (by decide) (fun hPc hDc hF => jx_runV (As := []) (rest := []) (n := 0) (ci := 7) (q0 := 0) hx hb hml hown hts hK hX hS hl.1 (kX7_beatUp l D cI cJ cZ cD tA h R I L f3 f4 f5 f6 f7 f8 f35 f36 f37 hlk hd0 hcl) gX7_comes_X7_beatUp rfl rfl rfl (by decide +kernel) ⟨Nat.le_of_ble_eq_true rfl, Nat.le_of_ble_eq_true rfl⟩ rfl rfl rfl rfl rfl (Nat.le_of_ble_eq_true rfl) dX7_comes_102 ⟨Nat.zero_le _, Nat.zero_le _⟩ hPc hDc hF) (fun u H locs hw hP hD hS => ?_)
          obtain ⟨I_15, eI_15⟩ : ∃ x : (Nat → Int32), x = (sX7_beatUp I L f3 f4 f5 f6 f7 f8 f35 f36 f37).1 := ⟨_, rfl⟩
          obtain ⟨L_16, eL_16⟩ : ∃ x : (Nat → Int64), x = (sX7_beatUp I L f3 f4 f5 f6 f7 f8 f35 f36 f37).2.1 := ⟨_, rfl⟩
          obtain ⟨f_17, ef_17⟩ : ∃ x : (Nat → Int32), x = (sX7_beatUp I L f3 f4 f5 f6 f7 f8 f35 f36 f37).2.2.1 := ⟨_, rfl⟩
          obtain ⟨f_18, ef_18⟩ : ∃ x : (Nat → Int32), x = (sX7_beatUp I L f3 f4 f5 f6 f7 f8 f35 f36 f37).2.2.2.1 := ⟨_, rfl⟩
          obtain ⟨f_19, ef_19⟩ : ∃ x : (Nat → Int32), x = (sX7_beatUp I L f3 f4 f5 f6 f7 f8 f35 f36 f37).2.2.2.2 := ⟨_, rfl⟩
          have hP : va_P D vwCl [((R 39), .inl (cZ, 2, .inl f39)), ((R 40), .inl (cZ, 2, .inl f40)), ((R 41), .inl (cJ, 2, .inr (.inl f41))), (h, .inr (7, (oX7 R I_15 L_16))), ((R 3), .inl (cI, 160, .inl f3)), ((R 4), .inl (cI, 160, .inl f4)), ((R 5), .inl (cI, 160, .inl f5)), ((R 6), .inl (cI, 160, .inl f6)), ((R 7), .inl (cI, 160, .inl f7)), ((R 8), .inl (cJ, 160, .inr (.inl f8))), ((R 35), .inl (cI, 64, .inl f_17)), ((R 36), .inl (cI, 64, .inl f_18)), ((R 37), .inl (cI, 64, .inl f_19))] H := by rw [eI_15, eL_16, ef_17, ef_18, ef_19]; exact hP
          have hD : va_D A [((R 39), .inl (cZ, 2, .inl f39)), ((R 40), .inl (cZ, 2, .inl f40)), ((R 41), .inl (cJ, 2, .inr (.inl f41))), (h, .inr (7, (oX7 R I_15 L_16))), ((R 3), .inl (cI, 160, .inl f3)), ((R 4), .inl (cI, 160, .inl f4)), ((R 5), .inl (cI, 160, .inl f5)), ((R 6), .inl (cI, 160, .inl f6)), ((R 7), .inl (cI, 160, .inl f7)), ((R 8), .inl (cJ, 160, .inr (.inl f8))), ((R 35), .inl (cI, 64, .inl f_17)), ((R 36), .inl (cI, 64, .inl f_18)), ((R 37), .inl (cI, 64, .inl f_19))] := by rw [eI_15, eL_16, ef_17, ef_18, ef_19]; exact hD
          refine lv_aload_n hx hb dX7_comes_105 rfl (lv_at hl 0 rfl) ?_
          refine lv_dup hx hb dX7_comes_106 rfl ?_
          refine jx_get (v := .int (I_15 30)) hx hb hts iX7_comes_7 hown hK hP 3 rfl rfl 30 (by decide) hk210 rfl rfl dX7_comes_107 ?_
          refine lv_aload_n hx hb dX7_comes_110 rfl (lv_at hl 0 rfl) ?_
          refine jx_get (v := .int (I_15 28)) hx hb hts iX7_comes_7 hown hK hP 3 rfl rfl 28 (by decide) hk200 rfl rfl dX7_comes_111 ?_
          refine lv_iconst (v := 2) hx hb dX7_comes_114 (by decide) ?_
          refine jx_joini (J := 123) (v := (if (I_15 28) = (2 : Int32) then (1 : Int32) else (0 : Int32))) (rest := [.int (I_15 30), .ref h]) (fun key => ?_) ?_
          · skip
            refine lv_icmp_ne (tgt := 122) hx hb dX7_comes_115 (by decide) (fun c_20 => ?_) (fun c_20 => ?_)
            · skip
              refine lv_iconst (v := 0) hx hb dX7_comes_122 (by decide) ?_
              rw [if_neg c_20] at key
              exact key
            · skip
              refine lv_iconst (v := 1) hx hb dX7_comes_118 (by decide) ?_
              refine lv_goto (tgt := 123) hx hb dX7_comes_119 (by decide) ?_
              rw [if_pos c_20] at key
              exact key
          refine lv_topi (fun v_21 ev_21 => ?_)
          refine lv_iadd hx hb dX7_comes_123 ?_
          refine lv_topi (fun v_22 ev_22 => ?_)
          refine jx_put (w2 := [((R 39), .inl (cZ, 2, .inl f39)), ((R 40), .inl (cZ, 2, .inl f40)), ((R 41), .inl (cJ, 2, .inr (.inl f41))), (h, .inr (7, (oX7 R (upd I_15 30 v_22) L_16))), ((R 3), .inl (cI, 160, .inl f3)), ((R 4), .inl (cI, 160, .inl f4)), ((R 5), .inl (cI, 160, .inl f5)), ((R 6), .inl (cI, 160, .inl f6)), ((R 7), .inl (cI, 160, .inl f7)), ((R 8), .inl (cJ, 160, .inr (.inl f8))), ((R 35), .inl (cI, 64, .inl f_17)), ((R 36), .inl (cI, 64, .inl f_18)), ((R 37), .inl (cI, 64, .inl f_19))]) hx hb hts iX7_comes_7 tyX7 tyX7_ok nmX7 hown hK hP hD hS 3 rfl rfl 30 (by decide) hk210 rfl rfl rfl rfl (Nat.le_of_ble_eq_true rfl) dX7_comes_124 rfl (fun H locs hP hD hS => ?_)
          refine lv_aload_n hx hb dX7_comes_127 rfl (lv_at hl 0 rfl) ?_
          refine lv_iconst (v := 0) hx hb dX7_comes_128 (by decide) ?_
          refine jx_put (w2 := [((R 39), .inl (cZ, 2, .inl f39)), ((R 40), .inl (cZ, 2, .inl f40)), ((R 41), .inl (cJ, 2, .inr (.inl f41))), (h, .inr (7, (oX7 R (upd (upd I_15 28 (0 : Int32)) 30 v_22) L_16))), ((R 3), .inl (cI, 160, .inl f3)), ((R 4), .inl (cI, 160, .inl f4)), ((R 5), .inl (cI, 160, .inl f5)), ((R 6), .inl (cI, 160, .inl f6)), ((R 7), .inl (cI, 160, .inl f7)), ((R 8), .inl (cJ, 160, .inr (.inl f8))), ((R 35), .inl (cI, 64, .inl f_17)), ((R 36), .inl (cI, 64, .inl f_18)), ((R 37), .inl (cI, 64, .inl f_19))]) hx hb hts iX7_comes_7 tyX7 tyX7_ok nmX7 hown hK hP hD hS 3 rfl rfl 28 (by decide) hk200 rfl rfl rfl rfl (Nat.le_of_ble_eq_true rfl) dX7_comes_129 rfl (fun H locs hP hD hS => ?_)
          refine lv_aload_n hx hb dX7_comes_132 rfl (lv_at hl 0 rfl) ?_
          refine lv_iconst (v := 0) hx hb dX7_comes_133 (by decide) ?_
          refine jx_callv (wc := [(h, .inr (7, (oX7 R (upd (upd I_15 28 (0 : Int32)) 30 v_22) L_16))), ((R 39), .inl (cZ, 2, .inl f39)), ((R 40), .inl (cZ, 2, .inl f40)), ((R 41), .inl (cJ, 2, .inr (.inl f41)))]) (wr := [((R 3), .inl (cI, 160, .inl f3)), ((R 4), .inl (cI, 160, .inl f4)), ((R 5), .inl (cI, 160, .inl f5)), ((R 6), .inl (cI, 160, .inl f6)), ((R 7), .inl (cI, 160, .inl f7)), ((R 8), .inl (cJ, 160, .inr (.inl f8))), ((R 35), .inl (cI, 64, .inl f_17)), ((R 36), .inl (cI, 64, .inl f_18)), ((R 37), .inl (cI, 64, .inl f_19))]) hP hD hS hA hK [3, 0, 1, 2] [4, 5, 6, 7, 8, 9, 10, 11, 12] rfl rfl (by decide) (by decide) (by decide) (fun hPc hDc hF => jx_runV (As := [.int (0 : Int32)]) (rest := []) (n := 1) (ci := 7) (q0 := 0) hx hb hml hown hts hK hX hS hl.1 (kX7_record l D cI cJ cZ cD tA h R (upd (upd I_15 28 (0 : Int32)) 30 v_22) L_16 f39 f40 f41 (0 : Int32) (by clear hP hD hl; have z_ := ev_22.symm; clear ev_22; subst z_; have z_ := ev_21.symm; clear ev_21; subst z_; have z_ := ef_19.symm; clear ef_19; subst z_; have z_ := ef_18.symm; clear ef_18; subst z_; have z_ := ef_17.symm; clear ef_17; subst z_; have z_ := eL_16.symm; clear eL_16; subst z_; have z_ := eI_15.symm; clear eI_15; subst z_; (try simp only [ldk_bu42, pk_un (show (42 : Nat) ≠ 28 by decide), pk_un (show (42 : Nat) ≠ 30 by decide), pk_un (show (42 : Nat) ≠ 26 by decide)]); exact hwr) (Or.inl rfl)) gX7_comes_X7_record rfl rfl rfl (by decide +kernel) ⟨Nat.le_of_ble_eq_true rfl, Nat.le_of_ble_eq_true rfl⟩ rfl rfl rfl rfl rfl (Nat.le_of_ble_eq_true rfl) dX7_comes_134 ⟨Nat.zero_le _, Nat.zero_le _⟩ hPc hDc hF) (fun u H locs hw hP hD hS => ?_)
          obtain ⟨I_24, eI_24⟩ : ∃ x : (Nat → Int32), x = (sX7_record (upd (upd I_15 28 (0 : Int32)) 30 v_22) L_16 f39 f40 f41 (0 : Int32)).1 := ⟨_, rfl⟩
          obtain ⟨f_25, ef_25⟩ : ∃ x : (Nat → Int32), x = (sX7_record (upd (upd I_15 28 (0 : Int32)) 30 v_22) L_16 f39 f40 f41 (0 : Int32)).2.1 := ⟨_, rfl⟩
          obtain ⟨f_26, ef_26⟩ : ∃ x : (Nat → Int32), x = (sX7_record (upd (upd I_15 28 (0 : Int32)) 30 v_22) L_16 f39 f40 f41 (0 : Int32)).2.2.1 := ⟨_, rfl⟩
          obtain ⟨f_27, ef_27⟩ : ∃ x : (Nat → Int64), x = (sX7_record (upd (upd I_15 28 (0 : Int32)) 30 v_22) L_16 f39 f40 f41 (0 : Int32)).2.2.2 := ⟨_, rfl⟩
          have hP : va_P D vwCl [((R 3), .inl (cI, 160, .inl f3)), ((R 4), .inl (cI, 160, .inl f4)), ((R 5), .inl (cI, 160, .inl f5)), ((R 6), .inl (cI, 160, .inl f6)), ((R 7), .inl (cI, 160, .inl f7)), ((R 8), .inl (cJ, 160, .inr (.inl f8))), ((R 35), .inl (cI, 64, .inl f_17)), ((R 36), .inl (cI, 64, .inl f_18)), ((R 37), .inl (cI, 64, .inl f_19)), (h, .inr (7, (oX7 R I_24 L_16))), ((R 39), .inl (cZ, 2, .inl f_25)), ((R 40), .inl (cZ, 2, .inl f_26)), ((R 41), .inl (cJ, 2, .inr (.inl f_27)))] H := by rw [eI_24, ef_25, ef_26, ef_27]; exact hP
          have hD : va_D A [((R 3), .inl (cI, 160, .inl f3)), ((R 4), .inl (cI, 160, .inl f4)), ((R 5), .inl (cI, 160, .inl f5)), ((R 6), .inl (cI, 160, .inl f6)), ((R 7), .inl (cI, 160, .inl f7)), ((R 8), .inl (cJ, 160, .inr (.inl f8))), ((R 35), .inl (cI, 64, .inl f_17)), ((R 36), .inl (cI, 64, .inl f_18)), ((R 37), .inl (cI, 64, .inl f_19)), (h, .inr (7, (oX7 R I_24 L_16))), ((R 39), .inl (cZ, 2, .inl f_25)), ((R 40), .inl (cZ, 2, .inl f_26)), ((R 41), .inl (cJ, 2, .inr (.inl f_27)))] := by rw [eI_24, ef_25, ef_26, ef_27]; exact hD
          refine lv_aload_n hx hb dX7_comes_137 rfl (lv_at hl 0 rfl) ?_
          refine lv_dup hx hb dX7_comes_138 rfl ?_
          refine jx_get (v := .long (L_16 34)) hx hb hts iX7_comes_7 hown hK hP 9 rfl rfl 34 (by decide) hk213 rfl rfl dX7_comes_139 ?_
          refine lv_lconst (v := 1) hx hb dX7_comes_142 (by decide) ?_
          refine lv_ladd hx hb dX7_comes_143 ?_
          refine lv_topl (fun v_28 ev_28 => ?_)
          refine jx_put (w2 := [((R 3), .inl (cI, 160, .inl f3)), ((R 4), .inl (cI, 160, .inl f4)), ((R 5), .inl (cI, 160, .inl f5)), ((R 6), .inl (cI, 160, .inl f6)), ((R 7), .inl (cI, 160, .inl f7)), ((R 8), .inl (cJ, 160, .inr (.inl f8))), ((R 35), .inl (cI, 64, .inl f_17)), ((R 36), .inl (cI, 64, .inl f_18)), ((R 37), .inl (cI, 64, .inl f_19)), (h, .inr (7, (oX7 R I_24 (vp_updL L_16 34 v_28)))), ((R 39), .inl (cZ, 2, .inl f_25)), ((R 40), .inl (cZ, 2, .inl f_26)), ((R 41), .inl (cJ, 2, .inr (.inl f_27)))]) hx hb hts iX7_comes_7 tyX7 tyX7_ok nmX7 hown hK hP hD hS 9 rfl rfl 34 (by decide) hk213 rfl rfl rfl rfl (Nat.le_of_ble_eq_true rfl) dX7_comes_144 rfl (fun H locs hP hD hS => ?_)
          have hq : (sX7_comes I L f3 f4 f5 f6 f7 f8 f35 f36 f37 f39 f40 f41 a0) = (I_24, (vp_updL L_16 34 v_28), f_17, f_18, f_19, f_25, f_26, f_27) := by clear hP hD hl; have z_ := ev_28.symm; clear ev_28; subst z_; have z_ := ef_27.symm; clear ef_27; subst z_; have z_ := ef_26.symm; clear ef_26; subst z_; have z_ := ef_25.symm; clear ef_25; subst z_; have z_ := eI_24.symm; clear eI_24; subst z_; have z_ := ev_22.symm; clear ev_22; subst z_; have z_ := ev_21.symm; clear ev_21; subst z_; have z_ := ef_19.symm; clear ef_19; subst z_; have z_ := ef_18.symm; clear ef_18; subst z_; have z_ := ef_17.symm; clear ef_17; subst z_; have z_ := eL_16.symm; clear eL_16; subst z_; have z_ := eI_15.symm; clear eI_15; subst z_; unfold sX7_comes; exact (if_neg c_1).trans ((if_neg c_2).trans ((if_neg c_3).trans ((if_pos c_4))))
          exact jx_vret () hx hb hr hlocks hK (hP.sub (ws' := [(h, .inr (7, (oX7 R I_24 (vp_updL L_16 34 v_28)))), ((R 3), .inl (cI, 160, .inl f3)), ((R 4), .inl (cI, 160, .inl f4)), ((R 5), .inl (cI, 160, .inl f5)), ((R 6), .inl (cI, 160, .inl f6)), ((R 7), .inl (cI, 160, .inl f7)), ((R 8), .inl (cJ, 160, .inr (.inl f8))), ((R 35), .inl (cI, 64, .inl f_17)), ((R 36), .inl (cI, 64, .inl f_18)), ((R 37), .inl (cI, 64, .inl f_19)), ((R 39), .inl (cZ, 2, .inl f_25)), ((R 40), .inl (cZ, 2, .inl f_26)), ((R 41), .inl (cJ, 2, .inr (.inl f_27)))]) [9, 0, 1, 2, 3, 4, 5, 6, 7, 8, 10, 11, 12] rfl) (hD.sub (ws' := [(h, .inr (7, (oX7 R I_24 (vp_updL L_16 34 v_28)))), ((R 3), .inl (cI, 160, .inl f3)), ((R 4), .inl (cI, 160, .inl f4)), ((R 5), .inl (cI, 160, .inl f5)), ((R 6), .inl (cI, 160, .inl f6)), ((R 7), .inl (cI, 160, .inl f7)), ((R 8), .inl (cJ, 160, .inr (.inl f8))), ((R 35), .inl (cI, 64, .inl f_17)), ((R 36), .inl (cI, 64, .inl f_18)), ((R 37), .inl (cI, 64, .inl f_19)), ((R 39), .inl (cZ, 2, .inl f_25)), ((R 40), .inl (cZ, 2, .inl f_26)), ((R 41), .inl (cJ, 2, .inr (.inl f_27)))]) [9, 0, 1, 2, 3, 4, 5, 6, 7, 8, 10, 11, 12] (by decide) rfl) hS (by rw [hq]) trivial dX7_comes_147
      · skip
        refine lv_aload_n hx hb dX7_comes_72 rfl (lv_at hl 0 rfl) ?_
        refine lv_aload_n hx hb dX7_comes_73 rfl (lv_at hl 0 rfl) ?_
        refine lv_aload_n hx hb dX7_comes_74 rfl (lv_at hl 0 rfl) ?_
        refine jx_get (v := .long (L 25)) hx hb hts iX7_comes_7 hown hK hP 0 rfl rfl 25 (by decide) hk163 rfl rfl dX7_comes_75 ?_
        refine lv_iconst (v := 0) hx hb dX7_comes_78 (by decide) ?_
        refine jx_pcalli (wc := [(h, .inr (7, (oX7 R I L))), ((R 3), .inl (cI, 160, .inl f3)), ((R 4), .inl (cI, 160, .inl f4)), ((R 5), .inl (cI, 160, .inl f5)), ((R 6), .inl (cI, 160, .inl f6)), ((R 7), .inl (cI, 160, .inl f7)), ((R 8), .inl (cJ, 160, .inr (.inl f8)))]) hP hD hS hA [0, 1, 2, 3, 4, 5, 6] rfl (by decide) (fun hPc hDc hF => jx_runVs (As := [.long (L 25), .int (0 : Int32)]) (rest := [.ref h]) (n := 2) (ci := 7) (q0 := 0) hx hb hml hown hts hK hX hS hl.1 (kX7_look l D cI cJ cZ cD tA h R I L f3 f4 f5 f6 f7 f8 (L 25) (0 : Int32) hlk) gX7_comes_X7_look rfl rfl rfl (by decide +kernel) ⟨Nat.le_of_ble_eq_true rfl, Nat.le_of_ble_eq_true rfl⟩ rfl rfl rfl rfl rfl (Nat.le_of_ble_eq_true rfl) dX7_comes_79 ⟨Nat.zero_le _, Nat.zero_le _⟩ hPc hDc hF) (fun r_29 er_29 => ?_)
        have er_29 : r_29 = (sX7_look f3 f4 f5 f6 f7 f8 (L 25) (0 : Int32)) := er_29
        refine jx_put (w2 := [(h, .inr (7, (oX7 R (upd I 26 r_29) L))), ((R 3), .inl (cI, 160, .inl f3)), ((R 4), .inl (cI, 160, .inl f4)), ((R 5), .inl (cI, 160, .inl f5)), ((R 6), .inl (cI, 160, .inl f6)), ((R 7), .inl (cI, 160, .inl f7)), ((R 8), .inl (cJ, 160, .inr (.inl f8))), ((R 35), .inl (cI, 64, .inl f35)), ((R 36), .inl (cI, 64, .inl f36)), ((R 37), .inl (cI, 64, .inl f37)), ((R 39), .inl (cZ, 2, .inl f39)), ((R 40), .inl (cZ, 2, .inl f40)), ((R 41), .inl (cJ, 2, .inr (.inl f41)))]) hx hb hts iX7_comes_7 tyX7 tyX7_ok nmX7 hown hK hP hD hS 0 rfl rfl 26 (by decide) hk185 rfl rfl rfl rfl (Nat.le_of_ble_eq_true rfl) dX7_comes_82 rfl (fun H locs hP hD hS => ?_)
        refine lv_aload_n hx hb dX7_comes_85 rfl (lv_at hl 0 rfl) ?_
        refine lv_iconst (v := 1) hx hb dX7_comes_86 (by decide) ?_
        refine jx_callv (wc := [(h, .inr (7, (oX7 R (upd I 26 r_29) L))), ((R 39), .inl (cZ, 2, .inl f39)), ((R 40), .inl (cZ, 2, .inl f40)), ((R 41), .inl (cJ, 2, .inr (.inl f41)))]) (wr := [((R 3), .inl (cI, 160, .inl f3)), ((R 4), .inl (cI, 160, .inl f4)), ((R 5), .inl (cI, 160, .inl f5)), ((R 6), .inl (cI, 160, .inl f6)), ((R 7), .inl (cI, 160, .inl f7)), ((R 8), .inl (cJ, 160, .inr (.inl f8))), ((R 35), .inl (cI, 64, .inl f35)), ((R 36), .inl (cI, 64, .inl f36)), ((R 37), .inl (cI, 64, .inl f37))]) hP hD hS hA hK [0, 10, 11, 12] [1, 2, 3, 4, 5, 6, 7, 8, 9] rfl rfl (by decide) (by decide) (by decide) (fun hPc hDc hF => jx_runV (As := [.int (1 : Int32)]) (rest := []) (n := 1) (ci := 7) (q0 := 0) hx hb hml hown hts hK hX hS hl.1 (kX7_record l D cI cJ cZ cD tA h R (upd I 26 r_29) L f39 f40 f41 (1 : Int32) (by clear hP hD hl; have z_ := er_29.symm; clear er_29; subst z_; (try simp only [ldk_bu42, pk_un (show (42 : Nat) ≠ 28 by decide), pk_un (show (42 : Nat) ≠ 30 by decide), pk_un (show (42 : Nat) ≠ 26 by decide)]); exact hwr) (Or.inr rfl)) gX7_comes_X7_record rfl rfl rfl (by decide +kernel) ⟨Nat.le_of_ble_eq_true rfl, Nat.le_of_ble_eq_true rfl⟩ rfl rfl rfl rfl rfl (Nat.le_of_ble_eq_true rfl) dX7_comes_87 ⟨Nat.zero_le _, Nat.zero_le _⟩ hPc hDc hF) (fun u H locs hw hP hD hS => ?_)
        obtain ⟨I_31, eI_31⟩ : ∃ x : (Nat → Int32), x = (sX7_record (upd I 26 r_29) L f39 f40 f41 (1 : Int32)).1 := ⟨_, rfl⟩
        obtain ⟨f_32, ef_32⟩ : ∃ x : (Nat → Int32), x = (sX7_record (upd I 26 r_29) L f39 f40 f41 (1 : Int32)).2.1 := ⟨_, rfl⟩
        obtain ⟨f_33, ef_33⟩ : ∃ x : (Nat → Int32), x = (sX7_record (upd I 26 r_29) L f39 f40 f41 (1 : Int32)).2.2.1 := ⟨_, rfl⟩
        obtain ⟨f_34, ef_34⟩ : ∃ x : (Nat → Int64), x = (sX7_record (upd I 26 r_29) L f39 f40 f41 (1 : Int32)).2.2.2 := ⟨_, rfl⟩
        have hP : va_P D vwCl [((R 3), .inl (cI, 160, .inl f3)), ((R 4), .inl (cI, 160, .inl f4)), ((R 5), .inl (cI, 160, .inl f5)), ((R 6), .inl (cI, 160, .inl f6)), ((R 7), .inl (cI, 160, .inl f7)), ((R 8), .inl (cJ, 160, .inr (.inl f8))), ((R 35), .inl (cI, 64, .inl f35)), ((R 36), .inl (cI, 64, .inl f36)), ((R 37), .inl (cI, 64, .inl f37)), (h, .inr (7, (oX7 R I_31 L))), ((R 39), .inl (cZ, 2, .inl f_32)), ((R 40), .inl (cZ, 2, .inl f_33)), ((R 41), .inl (cJ, 2, .inr (.inl f_34)))] H := by rw [eI_31, ef_32, ef_33, ef_34]; exact hP
        have hD : va_D A [((R 3), .inl (cI, 160, .inl f3)), ((R 4), .inl (cI, 160, .inl f4)), ((R 5), .inl (cI, 160, .inl f5)), ((R 6), .inl (cI, 160, .inl f6)), ((R 7), .inl (cI, 160, .inl f7)), ((R 8), .inl (cJ, 160, .inr (.inl f8))), ((R 35), .inl (cI, 64, .inl f35)), ((R 36), .inl (cI, 64, .inl f36)), ((R 37), .inl (cI, 64, .inl f37)), (h, .inr (7, (oX7 R I_31 L))), ((R 39), .inl (cZ, 2, .inl f_32)), ((R 40), .inl (cZ, 2, .inl f_33)), ((R 41), .inl (cJ, 2, .inr (.inl f_34)))] := by rw [eI_31, ef_32, ef_33, ef_34]; exact hD
        refine lv_goto (tgt := 147) hx hb dX7_comes_90 (by decide) ?_
        have hq : (sX7_comes I L f3 f4 f5 f6 f7 f8 f35 f36 f37 f39 f40 f41 a0) = (I_31, L, f35, f36, f37, f_32, f_33, f_34) := by clear hP hD hl; have z_ := ef_34.symm; clear ef_34; subst z_; have z_ := ef_33.symm; clear ef_33; subst z_; have z_ := ef_32.symm; clear ef_32; subst z_; have z_ := eI_31.symm; clear eI_31; subst z_; have z_ := er_29.symm; clear er_29; subst z_; unfold sX7_comes; exact (if_neg c_1).trans ((if_neg c_2).trans ((if_pos c_3)))
        exact jx_vret () hx hb hr hlocks hK (hP.sub (ws' := [(h, .inr (7, (oX7 R I_31 L))), ((R 3), .inl (cI, 160, .inl f3)), ((R 4), .inl (cI, 160, .inl f4)), ((R 5), .inl (cI, 160, .inl f5)), ((R 6), .inl (cI, 160, .inl f6)), ((R 7), .inl (cI, 160, .inl f7)), ((R 8), .inl (cJ, 160, .inr (.inl f8))), ((R 35), .inl (cI, 64, .inl f35)), ((R 36), .inl (cI, 64, .inl f36)), ((R 37), .inl (cI, 64, .inl f37)), ((R 39), .inl (cZ, 2, .inl f_32)), ((R 40), .inl (cZ, 2, .inl f_33)), ((R 41), .inl (cJ, 2, .inr (.inl f_34)))]) [9, 0, 1, 2, 3, 4, 5, 6, 7, 8, 10, 11, 12] rfl) (hD.sub (ws' := [(h, .inr (7, (oX7 R I_31 L))), ((R 3), .inl (cI, 160, .inl f3)), ((R 4), .inl (cI, 160, .inl f4)), ((R 5), .inl (cI, 160, .inl f5)), ((R 6), .inl (cI, 160, .inl f6)), ((R 7), .inl (cI, 160, .inl f7)), ((R 8), .inl (cJ, 160, .inr (.inl f8))), ((R 35), .inl (cI, 64, .inl f35)), ((R 36), .inl (cI, 64, .inl f36)), ((R 37), .inl (cI, 64, .inl f37)), ((R 39), .inl (cZ, 2, .inl f_32)), ((R 40), .inl (cZ, 2, .inl f_33)), ((R 41), .inl (cJ, 2, .inr (.inl f_34)))]) [9, 0, 1, 2, 3, 4, 5, 6, 7, 8, 10, 11, 12] (by decide) rfl) hS (by rw [hq]) trivial dX7_comes_147
    · skip
      refine lv_aload_n hx hb dX7_comes_30 rfl (lv_at hl 0 rfl) ?_
      refine lv_aload_n hx hb dX7_comes_31 rfl (lv_at hl 0 rfl) ?_
      refine jx_get (v := .int (I 29)) hx hb hts iX7_comes_7 hown hK hP 0 rfl rfl 29 (by decide) hk197 rfl rfl dX7_comes_32 ?_
      refine jx_joini (J := 43) (v := (if (I 29) = 0 then (1 : Int32) else (2 : Int32))) (rest := [.ref h]) (fun key => ?_) ?_
      · skip
        refine lv_if_eq (tgt := 42) hx hb dX7_comes_35 (by decide) (fun c_35 => ?_) (fun c_35 => ?_)
        · skip
          refine lv_iconst (v := 1) hx hb dX7_comes_42 (by decide) ?_
          rw [if_pos c_35] at key
          exact key
        · skip
          refine lv_iconst (v := 2) hx hb dX7_comes_38 (by decide) ?_
          refine lv_goto (tgt := 43) hx hb dX7_comes_39 (by decide) ?_
          rw [if_neg c_35] at key
          exact key
      refine lv_topi (fun v_36 ev_36 => ?_)
      refine jx_put (w2 := [(h, .inr (7, (oX7 R (upd I 28 v_36) L))), ((R 3), .inl (cI, 160, .inl f3)), ((R 4), .inl (cI, 160, .inl f4)), ((R 5), .inl (cI, 160, .inl f5)), ((R 6), .inl (cI, 160, .inl f6)), ((R 7), .inl (cI, 160, .inl f7)), ((R 8), .inl (cJ, 160, .inr (.inl f8))), ((R 35), .inl (cI, 64, .inl f35)), ((R 36), .inl (cI, 64, .inl f36)), ((R 37), .inl (cI, 64, .inl f37)), ((R 39), .inl (cZ, 2, .inl f39)), ((R 40), .inl (cZ, 2, .inl f40)), ((R 41), .inl (cJ, 2, .inr (.inl f41)))]) hx hb hts iX7_comes_7 tyX7 tyX7_ok nmX7 hown hK hP hD hS 0 rfl rfl 28 (by decide) hk200 rfl rfl rfl rfl (Nat.le_of_ble_eq_true rfl) dX7_comes_43 rfl (fun H locs hP hD hS => ?_)
      refine lv_aload_n hx hb dX7_comes_46 rfl (lv_at hl 0 rfl) ?_
      refine jx_get (v := .int (I 29)) hx hb hts iX7_comes_7 hown hK hP 0 rfl rfl 29 (by decide) hk197 rfl rfl dX7_comes_47 ?_
      refine lv_if_eq (tgt := 57) hx hb dX7_comes_50 (by decide) (fun c_37 => ?_) (fun c_37 => ?_)
      · skip
        refine lv_aload_n hx hb dX7_comes_57 rfl (lv_at hl 0 rfl) ?_
        refine lv_iconst (v := 0) hx hb dX7_comes_58 (by decide) ?_
        refine jx_put (w2 := [(h, .inr (7, (oX7 R (upd (upd I 28 v_36) 29 (0 : Int32)) L))), ((R 3), .inl (cI, 160, .inl f3)), ((R 4), .inl (cI, 160, .inl f4)), ((R 5), .inl (cI, 160, .inl f5)), ((R 6), .inl (cI, 160, .inl f6)), ((R 7), .inl (cI, 160, .inl f7)), ((R 8), .inl (cJ, 160, .inr (.inl f8))), ((R 35), .inl (cI, 64, .inl f35)), ((R 36), .inl (cI, 64, .inl f36)), ((R 37), .inl (cI, 64, .inl f37)), ((R 39), .inl (cZ, 2, .inl f39)), ((R 40), .inl (cZ, 2, .inl f40)), ((R 41), .inl (cJ, 2, .inr (.inl f41)))]) hx hb hts iX7_comes_7 tyX7 tyX7_ok nmX7 hown hK hP hD hS 0 rfl rfl 29 (by decide) hk197 rfl rfl (jx_bn (Or.inl rfl)) (jx_bf (Or.inl rfl)) (Nat.le_of_ble_eq_true rfl) dX7_comes_59 rfl (fun H locs hP hD hS => ?_)
        refine lv_goto (tgt := 147) hx hb dX7_comes_62 (by decide) ?_
        have hq : (sX7_comes I L f3 f4 f5 f6 f7 f8 f35 f36 f37 f39 f40 f41 a0) = ((upd (upd I 28 v_36) 29 (0 : Int32)), L, f35, f36, f37, f39, f40, f41) := by clear hP hD hl; have z_ := ev_36.symm; clear ev_36; subst z_; unfold sX7_comes; exact (if_neg c_1).trans ((if_pos c_2).trans ((if_pos c_37)))
        exact jx_vret () hx hb hr hlocks hK hP hD hS (by rw [hq]) trivial dX7_comes_147
      · skip
        refine lv_aload_n hx hb dX7_comes_53 rfl (lv_at hl 0 rfl) ?_
        refine jx_callv (wc := [(h, .inr (7, (oX7 R (upd I 28 v_36) L)))]) (wr := [((R 3), .inl (cI, 160, .inl f3)), ((R 4), .inl (cI, 160, .inl f4)), ((R 5), .inl (cI, 160, .inl f5)), ((R 6), .inl (cI, 160, .inl f6)), ((R 7), .inl (cI, 160, .inl f7)), ((R 8), .inl (cJ, 160, .inr (.inl f8))), ((R 35), .inl (cI, 64, .inl f35)), ((R 36), .inl (cI, 64, .inl f36)), ((R 37), .inl (cI, 64, .inl f37)), ((R 39), .inl (cZ, 2, .inl f39)), ((R 40), .inl (cZ, 2, .inl f40)), ((R 41), .inl (cJ, 2, .inr (.inl f41)))]) hP hD hS hA hK [0] [1, 2, 3, 4, 5, 6, 7, 8, 9, 10, 11, 12] rfl rfl (by decide) (by decide) (by decide) (fun hPc hDc hF => jx_runV (As := []) (rest := []) (n := 0) (ci := 7) (q0 := 0) hx hb hml hown hts hK hX hS hl.1 (kX7_brakes l D cI cJ cZ cD tA h R (upd I 28 v_36) L) gX7_comes_X7_brakes rfl rfl rfl (by decide +kernel) ⟨Nat.le_of_ble_eq_true rfl, Nat.le_of_ble_eq_true rfl⟩ rfl rfl rfl rfl rfl (Nat.le_of_ble_eq_true rfl) dX7_comes_54 ⟨Nat.zero_le _, Nat.zero_le _⟩ hPc hDc hF) (fun u H locs hw hP hD hS => ?_)
        obtain ⟨I_39, eI_39⟩ : ∃ x : (Nat → Int32), x = (sX7_brakes (upd I 28 v_36)) := ⟨_, rfl⟩
        have hP : va_P D vwCl [((R 3), .inl (cI, 160, .inl f3)), ((R 4), .inl (cI, 160, .inl f4)), ((R 5), .inl (cI, 160, .inl f5)), ((R 6), .inl (cI, 160, .inl f6)), ((R 7), .inl (cI, 160, .inl f7)), ((R 8), .inl (cJ, 160, .inr (.inl f8))), ((R 35), .inl (cI, 64, .inl f35)), ((R 36), .inl (cI, 64, .inl f36)), ((R 37), .inl (cI, 64, .inl f37)), ((R 39), .inl (cZ, 2, .inl f39)), ((R 40), .inl (cZ, 2, .inl f40)), ((R 41), .inl (cJ, 2, .inr (.inl f41))), (h, .inr (7, (oX7 R I_39 L)))] H := by rw [eI_39]; exact hP
        have hD : va_D A [((R 3), .inl (cI, 160, .inl f3)), ((R 4), .inl (cI, 160, .inl f4)), ((R 5), .inl (cI, 160, .inl f5)), ((R 6), .inl (cI, 160, .inl f6)), ((R 7), .inl (cI, 160, .inl f7)), ((R 8), .inl (cJ, 160, .inr (.inl f8))), ((R 35), .inl (cI, 64, .inl f35)), ((R 36), .inl (cI, 64, .inl f36)), ((R 37), .inl (cI, 64, .inl f37)), ((R 39), .inl (cZ, 2, .inl f39)), ((R 40), .inl (cZ, 2, .inl f40)), ((R 41), .inl (cJ, 2, .inr (.inl f41))), (h, .inr (7, (oX7 R I_39 L)))] := by rw [eI_39]; exact hD
        refine lv_aload_n hx hb dX7_comes_57 rfl (lv_at hl 0 rfl) ?_
        refine lv_iconst (v := 0) hx hb dX7_comes_58 (by decide) ?_
        refine jx_put (w2 := [((R 3), .inl (cI, 160, .inl f3)), ((R 4), .inl (cI, 160, .inl f4)), ((R 5), .inl (cI, 160, .inl f5)), ((R 6), .inl (cI, 160, .inl f6)), ((R 7), .inl (cI, 160, .inl f7)), ((R 8), .inl (cJ, 160, .inr (.inl f8))), ((R 35), .inl (cI, 64, .inl f35)), ((R 36), .inl (cI, 64, .inl f36)), ((R 37), .inl (cI, 64, .inl f37)), ((R 39), .inl (cZ, 2, .inl f39)), ((R 40), .inl (cZ, 2, .inl f40)), ((R 41), .inl (cJ, 2, .inr (.inl f41))), (h, .inr (7, (oX7 R (upd I_39 29 (0 : Int32)) L)))]) hx hb hts iX7_comes_7 tyX7 tyX7_ok nmX7 hown hK hP hD hS 12 rfl rfl 29 (by decide) hk197 rfl rfl (jx_bn (Or.inl rfl)) (jx_bf (Or.inl rfl)) (Nat.le_of_ble_eq_true rfl) dX7_comes_59 rfl (fun H locs hP hD hS => ?_)
        refine lv_goto (tgt := 147) hx hb dX7_comes_62 (by decide) ?_
        have hq : (sX7_comes I L f3 f4 f5 f6 f7 f8 f35 f36 f37 f39 f40 f41 a0) = ((upd I_39 29 (0 : Int32)), L, f35, f36, f37, f39, f40, f41) := by clear hP hD hl; have z_ := eI_39.symm; clear eI_39; subst z_; have z_ := ev_36.symm; clear ev_36; subst z_; unfold sX7_comes; exact (if_neg c_1).trans ((if_pos c_2).trans ((if_neg c_37)))
        exact jx_vret () hx hb hr hlocks hK (hP.sub (ws' := [(h, .inr (7, (oX7 R (upd I_39 29 (0 : Int32)) L))), ((R 3), .inl (cI, 160, .inl f3)), ((R 4), .inl (cI, 160, .inl f4)), ((R 5), .inl (cI, 160, .inl f5)), ((R 6), .inl (cI, 160, .inl f6)), ((R 7), .inl (cI, 160, .inl f7)), ((R 8), .inl (cJ, 160, .inr (.inl f8))), ((R 35), .inl (cI, 64, .inl f35)), ((R 36), .inl (cI, 64, .inl f36)), ((R 37), .inl (cI, 64, .inl f37)), ((R 39), .inl (cZ, 2, .inl f39)), ((R 40), .inl (cZ, 2, .inl f40)), ((R 41), .inl (cJ, 2, .inr (.inl f41)))]) [12, 0, 1, 2, 3, 4, 5, 6, 7, 8, 9, 10, 11] rfl) (hD.sub (ws' := [(h, .inr (7, (oX7 R (upd I_39 29 (0 : Int32)) L))), ((R 3), .inl (cI, 160, .inl f3)), ((R 4), .inl (cI, 160, .inl f4)), ((R 5), .inl (cI, 160, .inl f5)), ((R 6), .inl (cI, 160, .inl f6)), ((R 7), .inl (cI, 160, .inl f7)), ((R 8), .inl (cJ, 160, .inr (.inl f8))), ((R 35), .inl (cI, 64, .inl f35)), ((R 36), .inl (cI, 64, .inl f36)), ((R 37), .inl (cI, 64, .inl f37)), ((R 39), .inl (cZ, 2, .inl f39)), ((R 40), .inl (cZ, 2, .inl f40)), ((R 41), .inl (cJ, 2, .inr (.inl f41)))]) [12, 0, 1, 2, 3, 4, 5, 6, 7, 8, 9, 10, 11] (by decide) rfl) hS (by rw [hq]) trivial dX7_comes_147
  · skip
    refine lv_aload_n hx hb dX7_comes_7 rfl (lv_at hl 0 rfl) ?_
    refine lv_aload_n hx hb dX7_comes_8 rfl (lv_at hl 0 rfl) ?_
    refine lv_aload_n hx hb dX7_comes_9 rfl (lv_at hl 0 rfl) ?_
    refine jx_get (v := .long (L 25)) hx hb hts iX7_comes_7 hown hK hP 0 rfl rfl 25 (by decide) hk163 rfl rfl dX7_comes_10 ?_
    refine lv_iconst (v := 1) hx hb dX7_comes_13 (by decide) ?_
    refine jx_pcalli (wc := [(h, .inr (7, (oX7 R I L))), ((R 3), .inl (cI, 160, .inl f3)), ((R 4), .inl (cI, 160, .inl f4)), ((R 5), .inl (cI, 160, .inl f5)), ((R 6), .inl (cI, 160, .inl f6)), ((R 7), .inl (cI, 160, .inl f7)), ((R 8), .inl (cJ, 160, .inr (.inl f8)))]) hP hD hS hA [0, 1, 2, 3, 4, 5, 6] rfl (by decide) (fun hPc hDc hF => jx_runVs (As := [.long (L 25), .int (1 : Int32)]) (rest := [.ref h]) (n := 2) (ci := 7) (q0 := 0) hx hb hml hown hts hK hX hS hl.1 (kX7_look l D cI cJ cZ cD tA h R I L f3 f4 f5 f6 f7 f8 (L 25) (1 : Int32) hlk) gX7_comes_X7_look rfl rfl rfl (by decide +kernel) ⟨Nat.le_of_ble_eq_true rfl, Nat.le_of_ble_eq_true rfl⟩ rfl rfl rfl rfl rfl (Nat.le_of_ble_eq_true rfl) dX7_comes_14 ⟨Nat.zero_le _, Nat.zero_le _⟩ hPc hDc hF) (fun r_40 er_40 => ?_)
    have er_40 : r_40 = (sX7_look f3 f4 f5 f6 f7 f8 (L 25) (1 : Int32)) := er_40
    refine jx_put (w2 := [(h, .inr (7, (oX7 R (upd I 27 r_40) L))), ((R 3), .inl (cI, 160, .inl f3)), ((R 4), .inl (cI, 160, .inl f4)), ((R 5), .inl (cI, 160, .inl f5)), ((R 6), .inl (cI, 160, .inl f6)), ((R 7), .inl (cI, 160, .inl f7)), ((R 8), .inl (cJ, 160, .inr (.inl f8))), ((R 35), .inl (cI, 64, .inl f35)), ((R 36), .inl (cI, 64, .inl f36)), ((R 37), .inl (cI, 64, .inl f37)), ((R 39), .inl (cZ, 2, .inl f39)), ((R 40), .inl (cZ, 2, .inl f40)), ((R 41), .inl (cJ, 2, .inr (.inl f41)))]) hx hb hts iX7_comes_7 tyX7 tyX7_ok nmX7 hown hK hP hD hS 0 rfl rfl 27 (by decide) hk188 rfl rfl rfl rfl (Nat.le_of_ble_eq_true rfl) dX7_comes_17 rfl (fun H locs hP hD hS => ?_)
    refine lv_goto (tgt := 147) hx hb dX7_comes_20 (by decide) ?_
    have hq : (sX7_comes I L f3 f4 f5 f6 f7 f8 f35 f36 f37 f39 f40 f41 a0) = ((upd I 27 r_40), L, f35, f36, f37, f39, f40, f41) := by clear hP hD hl; have z_ := er_40.symm; clear er_40; subst z_; unfold sX7_comes; exact (if_pos c_1)
    exact jx_vret () hx hb hr hlocks hK hP hD hS (by rw [hq]) trivial dX7_comes_147

