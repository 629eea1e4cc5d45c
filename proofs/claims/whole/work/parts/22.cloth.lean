def sX0_quarters (a0 : Int32) : Int32 := (if a0 ≤ 0 then (0 : Int32) else ((4000 : Int32) / a0))
set_option maxHeartbeats 4000000 in
set_option maxRecDepth 100000 in
theorem kX0_quarters (l : Launch) (D : va_G) (cI cJ cZ cD : ClassId) (tA : Nat) (a0 : Int32) : jx_Ms l yX0_quarters wsX0_quarters ({ frames := 0, cells := 0, slots := 0, locals := 0 }) D (jT cI cJ cZ cD) tA [.int a0] [] (vp_Si (fun r => r = (sX0_quarters a0))) := by
  refine jx_ofs (cc := cX0_quarters) (maxL := 1) (ret := (some .int)) (by decide +kernel) rfl (Nat.le_of_ble_eq_true rfl) ?_
  intro p e s m below meth c A ls hx hb hr hlocks hml hown hts hK hP hD hA hS hX hl
  have hl : lv_has ls 1 [(0, .int a0)] := hl
  have hown : s.vm.findClass RX0 = some m.cls := hown
  refine lv_iload_n hx hb dX0_quarters_0 rfl (lv_at hl 0 rfl) ?_
  refine lv_if_le (tgt := 12) hx hb dX0_quarters_1 (by decide) (fun c_1 => ?_) (fun c_1 => ?_)
  · skip
    refine lv_iconst (v := 0) hx hb dX0_quarters_12 (by decide) ?_
    have hq : (sX0_quarters a0) = (0 : Int32) := by unfold sX0_quarters; exact (if_pos c_1)
    exact jx_siret hx hb hr hlocks hq.symm dX0_quarters_13
  · skip
    refine lv_sipush (v := 4000) hx hb dX0_quarters_4 (by decide) ?_
    refine lv_iload_n hx hb dX0_quarters_7 rfl (lv_at hl 0 rfl) ?_
    refine lv_idiv hx hb dX0_quarters_8 (fun z => c_1 (by rw [z]; decide)) ?_
    refine lv_goto (tgt := 13) hx hb dX0_quarters_9 (by decide) ?_
    have hq : (sX0_quarters a0) = ((4000 : Int32) / a0) := by unfold sX0_quarters; exact (if_neg c_1)
    exact jx_siret hx hb hr hlocks hq.symm dX0_quarters_13

def sX0_slotOf (I : Nat → Int32) (a0 : Int32) : Int32 := (sJ9_floorMod_7cf53 (((I 3) - (1 : Int32)) - a0) (64 : Int32))
set_option maxRecDepth 20000 in
theorem iX0_slotOf_0 : ∀ w ∈ wsX00, w ∈ wsX0_slotOf := by decide +kernel
set_option maxHeartbeats 4000000 in
set_option maxRecDepth 100000 in
theorem kX0_slotOf (l : Launch) (D : va_G) (cI cJ cZ cD : ClassId) (tA : Nat) (h : Nat) (R : Nat → Nat) (I : Nat → Int32) (L : Nat → Int64) (a0 : Int32) : jx_Ms l yX0_slotOf wsX0_slotOf ({ frames := 1, cells := 0, slots := 0, locals := 22 }) D (jT cI cJ cZ cD) tA [.ref h, .int a0] [(h, .inr (0, (oX0 R I L)))] (vp_Si (fun r => r = (sX0_slotOf I a0))) := by
  refine jx_ofs (cc := cX0_slotOf) (maxL := 2) (ret := (some .int)) (by decide +kernel) rfl (Nat.le_of_ble_eq_true rfl) ?_
  intro p e s m below meth c A ls hx hb hr hlocks hml hown hts hK hP hD hA hS hX hl
  have hl : lv_has ls 2 [(0, .ref h), (1, .int a0)] := hl
  have hown : s.vm.findClass RX0 = some m.cls := hown
  have hk21 := hts (.fieldLink RX0 21 "LoomDesk$Cloth" "next" "I") (by decide +kernel)
  refine lv_aload_n hx hb dX0_slotOf_0 rfl (lv_at hl 0 rfl) ?_
  refine jx_get (v := .int (I 3)) hx hb hts iX0_slotOf_0 hown hK hP 0 rfl rfl 3 (by decide) hk21 rfl rfl dX0_slotOf_1 ?_
  refine lv_iconst (v := 1) hx hb dX0_slotOf_4 (by decide) ?_
  refine lv_isub hx hb dX0_slotOf_5 ?_
  refine lv_iload_n hx hb dX0_slotOf_6 rfl (lv_at hl 1 rfl) ?_
  refine lv_isub hx hb dX0_slotOf_7 ?_
  refine lv_bipush (v := 64) hx hb dX0_slotOf_8 (by decide) ?_
  refine jx_pcalli (wc := []) hP hD hS hA [] rfl (by decide) (fun hPc hDc hF => jx_runSs (As := [.int (((I 3) - (1 : Int32)) - a0), .int (64 : Int32)]) (rest := []) (n := 2) hx hb hml hown hts hK hX hS hl.1 (kJ9_floorMod_7cf53 l D cI cJ cZ cD tA (((I 3) - (1 : Int32)) - a0) (64 : Int32) (by decide)) gX0_slotOf_J9_floorMod_7cf53 rfl rfl rfl (by decide +kernel) ⟨Nat.le_of_ble_eq_true rfl, Nat.le_of_ble_eq_true rfl⟩ rfl rfl (Nat.le_of_ble_eq_true rfl) dX0_slotOf_10 ⟨Nat.zero_le _, Nat.zero_le _⟩ hPc hDc hF) (fun r_1 er_1 => ?_)
  have er_1 : r_1 = (sJ9_floorMod_7cf53 (((I 3) - (1 : Int32)) - a0) (64 : Int32)) := er_1
  have hq : (sX0_slotOf I a0) = r_1 := by clear hP hD hl; have z_ := er_1.symm; clear er_1; subst z_; rfl
  exact jx_siret hx hb hr hlocks hq.symm dX0_slotOf_13

def sX0_beatUp (I : Nat → Int32) (L : Nat → Int64) (f0 : Nat → Int32) (f1 : Nat → Int32) (f2 : Nat → Int32) (a0 : Int32) (a1 : Int32) (a2 : Int32) : (Nat → Int32) × (Nat → Int64) × (Nat → Int32) × (Nat → Int32) × (Nat → Int32) := ((upd (upd I 3 (sJ9_floorMod_7cf53 ((sJ9_floorMod_7cf53 (I 3) (64 : Int32)) + (1 : Int32)) (64 : Int32))) 4 (if (64 : Int32) < ((I 4) + (1 : Int32)) then (64 : Int32) else ((I 4) + (1 : Int32)))), (vp_updL (vp_updL L 5 ((L 5) + (1 : Int64))) 6 ((L 6) + (sX0_quarters a2).toInt64)), (upd f0 (sJ9_floorMod_7cf53 (I 3) (64 : Int32)).toNatClampNeg a0), (upd f1 (sJ9_floorMod_7cf53 (I 3) (64 : Int32)).toNatClampNeg a1), (upd f2 (sJ9_floorMod_7cf53 (I 3) (64 : Int32)).toNatClampNeg a2))
set_option maxRecDepth 20000 in
theorem iX0_beatUp_0 : ∀ w ∈ wsX00, w ∈ wsX0_beatUp := by decide +kernel
set_option maxHeartbeats 4000000 in
set_option maxRecDepth 100000 in
theorem kX0_beatUp (l : Launch) (D : va_G) (cI cJ cZ cD : ClassId) (tA : Nat) (h : Nat) (R : Nat → Nat) (I : Nat → Int32) (L : Nat → Int64) (f0 : Nat → Int32) (f1 : Nat → Int32) (f2 : Nat → Int32) (a0 : Int32) (a1 : Int32) (a2 : Int32) : jx_M l yX0_beatUp wsX0_beatUp ({ frames := 1, cells := 0, slots := 0, locals := 22 }) D (jT cI cJ cZ cD) tA [.ref h, .int a0, .int a1, .int a2] [(h, .inr (0, (oX0 R I L))), ((R 0), .inl (cI, 64, .inl f0)), ((R 1), .inl (cI, 64, .inl f1)), ((R 2), .inl (cI, 64, .inl f2))] (jx_Qv D (jT cI cJ cZ cD) (fun (_ : Unit) => True) (fun _ => [(h, .inr (0, (oX0 R (sX0_beatUp I L f0 f1 f2 a0 a1 a2).1 (sX0_beatUp I L f0 f1 f2 a0 a1 a2).2.1))), ((R 0), .inl (cI, 64, .inl ((sX0_beatUp I L f0 f1 f2 a0 a1 a2).2.2.1))), ((R 1), .inl (cI, 64, .inl ((sX0_beatUp I L f0 f1 f2 a0 a1 a2).2.2.2.1))), ((R 2), .inl (cI, 64, .inl ((sX0_beatUp I L f0 f1 f2 a0 a1 a2).2.2.2.2)))])) := by
  refine jx_of (cc := cX0_beatUp) (maxL := 5) (ret := none) (by decide +kernel) rfl (Nat.le_of_ble_eq_true rfl) ?_
  intro p e s m below meth c A ls hx hb hr hlocks hml hown hts hK hP hD hA hS hX hl
  have hl : lv_has ls 5 [(0, .ref h), (1, .int a0), (2, .int a1), (3, .int a2)] := hl
  have hown : s.vm.findClass RX0 = some m.cls := hown
  have hk11 := hts (.fieldLink RX0 11 "LoomDesk$Cloth" "sheds" "[I") (by decide +kernel)
  have hk15 := hts (.fieldLink RX0 15 "LoomDesk$Cloth" "carriers" "[I") (by decide +kernel)
  have hk18 := hts (.fieldLink RX0 18 "LoomDesk$Cloth" "densities" "[I") (by decide +kernel)
  have hk21 := hts (.fieldLink RX0 21 "LoomDesk$Cloth" "next" "I") (by decide +kernel)
  have hk25 := hts (.fieldLink RX0 25 "LoomDesk$Cloth" "kept" "I") (by decide +kernel)
  have hk28 := hts (.fieldLink RX0 28 "LoomDesk$Cloth" "beaten" "J") (by decide +kernel)
  have hk32 := hts (.fieldLink RX0 32 "LoomDesk$Cloth" "taken" "J") (by decide +kernel)
  refine lv_aload_n hx hb dX0_beatUp_0 rfl (lv_at hl 0 rfl) ?_
  refine jx_get (v := .int (I 3)) hx hb hts iX0_beatUp_0 hown hK hP 0 rfl rfl 3 (by decide) hk21 rfl rfl dX0_beatUp_1 ?_
  refine lv_bipush (v := 64) hx hb dX0_beatUp_4 (by decide) ?_
  refine jx_pcalli (wc := []) hP hD hS hA [] rfl (by decide) (fun hPc hDc hF => jx_runSs (As := [.int (I 3), .int (64 : Int32)]) (rest := []) (n := 2) hx hb hml hown hts hK hX hS hl.1 (kJ9_floorMod_7cf53 l D cI cJ cZ cD tA (I 3) (64 : Int32) (by decide)) gX0_beatUp_J9_floorMod_7cf53 rfl rfl rfl (by decide +kernel) ⟨Nat.le_of_ble_eq_true rfl, Nat.le_of_ble_eq_true rfl⟩ rfl rfl (Nat.le_of_ble_eq_true rfl) dX0_beatUp_6 ⟨Nat.zero_le _, Nat.zero_le _⟩ hPc hDc hF) (fun r_1 er_1 => ?_)
  have er_1 : r_1 = (sJ9_floorMod_7cf53 (I 3) (64 : Int32)) := er_1
  refine lv_istore (lv' := [(4, .int r_1), (0, .ref h), (1, .int a0), (2, .int a1), (3, .int a2)]) hx hb dX0_beatUp_9 hl (by decide) rfl (fun ls hl => ?_)
  refine lv_aload_n hx hb dX0_beatUp_11 rfl (lv_at hl 1 rfl) ?_
  refine jx_get (v := .ref (R 0)) hx hb hts iX0_beatUp_0 hown hK hP 0 rfl rfl 0 (by decide) hk11 rfl rfl dX0_beatUp_12 ?_
  refine lv_iload hx hb dX0_beatUp_15 (lv_at hl 0 rfl) ?_
  refine lv_iload_n hx hb dX0_beatUp_17 rfl (lv_at hl 2 rfl) ?_
  refine jx_iast (w2 := [(h, .inr (0, (oX0 R I L))), ((R 0), .inl (cI, 64, .inl (upd f0 r_1.toNatClampNeg a0))), ((R 1), .inl (cI, 64, .inl f1)), ((R 2), .inl (cI, 64, .inl f2))]) hx hb hK hP hD hS 1 0 rfl rfl (by clear hP hD hl; have z_ := er_1.symm; clear er_1; subst z_; exact jx_fm64 _) dX0_beatUp_18 rfl (fun H locs hP hD hS => ?_)
  refine lv_aload_n hx hb dX0_beatUp_19 rfl (lv_at hl 1 rfl) ?_
  refine jx_get (v := .ref (R 1)) hx hb hts iX0_beatUp_0 hown hK hP 0 rfl rfl 1 (by decide) hk15 rfl rfl dX0_beatUp_20 ?_
  refine lv_iload hx hb dX0_beatUp_23 (lv_at hl 0 rfl) ?_
  refine lv_iload_n hx hb dX0_beatUp_25 rfl (lv_at hl 3 rfl) ?_
  refine jx_iast (w2 := [(h, .inr (0, (oX0 R I L))), ((R 0), .inl (cI, 64, .inl (upd f0 r_1.toNatClampNeg a0))), ((R 1), .inl (cI, 64, .inl (upd f1 r_1.toNatClampNeg a1))), ((R 2), .inl (cI, 64, .inl f2))]) hx hb hK hP hD hS 2 0 rfl rfl (by clear hP hD hl; have z_ := er_1.symm; clear er_1; subst z_; exact jx_fm64 _) dX0_beatUp_26 rfl (fun H locs hP hD hS => ?_)
  refine lv_aload_n hx hb dX0_beatUp_27 rfl (lv_at hl 1 rfl) ?_
  refine jx_get (v := .ref (R 2)) hx hb hts iX0_beatUp_0 hown hK hP 0 rfl rfl 2 (by decide) hk18 rfl rfl dX0_beatUp_28 ?_
  refine lv_iload hx hb dX0_beatUp_31 (lv_at hl 0 rfl) ?_
  refine lv_iload_n hx hb dX0_beatUp_33 rfl (lv_at hl 4 rfl) ?_
  refine jx_iast (w2 := [(h, .inr (0, (oX0 R I L))), ((R 0), .inl (cI, 64, .inl (upd f0 r_1.toNatClampNeg a0))), ((R 1), .inl (cI, 64, .inl (upd f1 r_1.toNatClampNeg a1))), ((R 2), .inl (cI, 64, .inl (upd f2 r_1.toNatClampNeg a2)))]) hx hb hK hP hD hS 3 0 rfl rfl (by clear hP hD hl; have z_ := er_1.symm; clear er_1; subst z_; exact jx_fm64 _) dX0_beatUp_34 rfl (fun H locs hP hD hS => ?_)
  refine lv_aload_n hx hb dX0_beatUp_35 rfl (lv_at hl 1 rfl) ?_
  refine lv_iload hx hb dX0_beatUp_36 (lv_at hl 0 rfl) ?_
  refine lv_iconst (v := 1) hx hb dX0_beatUp_38 (by decide) ?_
  refine lv_iadd hx hb dX0_beatUp_39 ?_
  refine lv_bipush (v := 64) hx hb dX0_beatUp_40 (by decide) ?_
  refine jx_pcalli (wc := []) hP hD hS hA [] rfl (by decide) (fun hPc hDc hF => jx_runSs (As := [.int (r_1 + (1 : Int32)), .int (64 : Int32)]) (rest := [.ref h]) (n := 2) hx hb hml hown hts hK hX hS hl.1 (kJ9_floorMod_7cf53 l D cI cJ cZ cD tA (r_1 + (1 : Int32)) (64 : Int32) (by decide)) gX0_beatUp_J9_floorMod_7cf53 rfl rfl rfl (by decide +kernel) ⟨Nat.le_of_ble_eq_true rfl, Nat.le_of_ble_eq_true rfl⟩ rfl rfl (Nat.le_of_ble_eq_true rfl) dX0_beatUp_42 ⟨Nat.zero_le _, Nat.zero_le _⟩ hPc hDc hF) (fun r_2 er_2 => ?_)
  have er_2 : r_2 = (sJ9_floorMod_7cf53 (r_1 + (1 : Int32)) (64 : Int32)) := er_2
  refine jx_put (w2 := [(h, .inr (0, (oX0 R (upd I 3 r_2) L))), ((R 0), .inl (cI, 64, .inl (upd f0 r_1.toNatClampNeg a0))), ((R 1), .inl (cI, 64, .inl (upd f1 r_1.toNatClampNeg a1))), ((R 2), .inl (cI, 64, .inl (upd f2 r_1.toNatClampNeg a2)))]) hx hb hts iX0_beatUp_0 tyX0 tyX0_ok nmX0 hown hK hP hD hS 0 rfl rfl 3 (by decide) hk21 rfl rfl rfl rfl (Nat.le_of_ble_eq_true rfl) dX0_beatUp_45 rfl (fun H locs hP hD hS => ?_)
  refine lv_aload_n hx hb dX0_beatUp_48 rfl (lv_at hl 1 rfl) ?_
  refine lv_aload_n hx hb dX0_beatUp_49 rfl (lv_at hl 1 rfl) ?_
  refine jx_get (v := .int (I 4)) hx hb hts iX0_beatUp_0 hown hK hP 0 rfl rfl 4 (by decide) hk25 rfl rfl dX0_beatUp_50 ?_
  refine lv_iconst (v := 1) hx hb dX0_beatUp_53 (by decide) ?_
  refine lv_iadd hx hb dX0_beatUp_54 ?_
  refine lv_bipush (v := 64) hx hb dX0_beatUp_55 (by decide) ?_
  refine va_mmin hx hb (hml.trans hl.1.symm) hown (hts (.methodLink RX0 41 Lib.Math.min.name) (by decide +kernel)) (hts (.static Lib.Math.min.name) (by decide +kernel)) (hts (.initialized "java/lang/Math") (by decide +kernel)) (hts (.code Lib.Math.min.name Lib.Math.min.code 2 (some .int)) (by decide +kernel)) (Nat.le_of_ble_eq_true rfl) (Nat.le_of_ble_eq_true rfl) (Nat.zero_le _) (Nat.zero_le _) dX0_beatUp_57 ?_
  refine lv_topi (fun v_3 ev_3 => ?_)
  refine jx_put (w2 := [(h, .inr (0, (oX0 R (upd (upd I 3 r_2) 4 v_3) L))), ((R 0), .inl (cI, 64, .inl (upd f0 r_1.toNatClampNeg a0))), ((R 1), .inl (cI, 64, .inl (upd f1 r_1.toNatClampNeg a1))), ((R 2), .inl (cI, 64, .inl (upd f2 r_1.toNatClampNeg a2)))]) hx hb hts iX0_beatUp_0 tyX0 tyX0_ok nmX0 hown hK hP hD hS 0 rfl rfl 4 (by decide) hk25 rfl rfl rfl rfl (Nat.le_of_ble_eq_true rfl) dX0_beatUp_60 rfl (fun H locs hP hD hS => ?_)
  refine lv_aload_n hx hb dX0_beatUp_63 rfl (lv_at hl 1 rfl) ?_
  refine lv_dup hx hb dX0_beatUp_64 rfl ?_
  refine jx_get (v := .long (L 5)) hx hb hts iX0_beatUp_0 hown hK hP 0 rfl rfl 5 (by decide) hk28 rfl rfl dX0_beatUp_65 ?_
  refine lv_lconst (v := 1) hx hb dX0_beatUp_68 (by decide) ?_
  refine lv_ladd hx hb dX0_beatUp_69 ?_
  refine lv_topl (fun v_4 ev_4 => ?_)
  refine jx_put (w2 := [(h, .inr (0, (oX0 R (upd (upd I 3 r_2) 4 v_3) (vp_updL L 5 v_4)))), ((R 0), .inl (cI, 64, .inl (upd f0 r_1.toNatClampNeg a0))), ((R 1), .inl (cI, 64, .inl (upd f1 r_1.toNatClampNeg a1))), ((R 2), .inl (cI, 64, .inl (upd f2 r_1.toNatClampNeg a2)))]) hx hb hts iX0_beatUp_0 tyX0 tyX0_ok nmX0 hown hK hP hD hS 0 rfl rfl 5 (by decide) hk28 rfl rfl rfl rfl (Nat.le_of_ble_eq_true rfl) dX0_beatUp_70 rfl (fun H locs hP hD hS => ?_)
  refine lv_aload_n hx hb dX0_beatUp_73 rfl (lv_at hl 1 rfl) ?_
  refine lv_dup hx hb dX0_beatUp_74 rfl ?_
  refine jx_get (v := .long (L 6)) hx hb hts iX0_beatUp_0 hown hK hP 0 rfl rfl 6 (by decide) hk32 rfl rfl dX0_beatUp_75 ?_
  refine lv_iload_n hx hb dX0_beatUp_78 rfl (lv_at hl 4 rfl) ?_
  refine jx_pcalli (wc := []) hP hD hS hA [] rfl (by decide) (fun hPc hDc hF => jx_runSs (As := [.int a2]) (rest := [.long (L 6), .ref h]) (n := 1) hx hb hml hown hts hK hX hS hl.1 (kX0_quarters l D cI cJ cZ cD tA a2) gX0_beatUp_X0_quarters rfl rfl rfl (by decide +kernel) ⟨Nat.le_of_ble_eq_true rfl, Nat.le_of_ble_eq_true rfl⟩ rfl rfl (Nat.le_of_ble_eq_true rfl) dX0_beatUp_79 ⟨Nat.zero_le _, Nat.zero_le _⟩ hPc hDc hF) (fun r_5 er_5 => ?_)
  have er_5 : r_5 = (sX0_quarters a2) := er_5
  refine lv_i2l hx hb dX0_beatUp_82 rfl ?_
  refine lv_ladd hx hb dX0_beatUp_83 ?_
  refine lv_topl (fun v_6 ev_6 => ?_)
  refine jx_put (w2 := [(h, .inr (0, (oX0 R (upd (upd I 3 r_2) 4 v_3) (vp_updL (vp_updL L 5 v_4) 6 v_6)))), ((R 0), .inl (cI, 64, .inl (upd f0 r_1.toNatClampNeg a0))), ((R 1), .inl (cI, 64, .inl (upd f1 r_1.toNatClampNeg a1))), ((R 2), .inl (cI, 64, .inl (upd f2 r_1.toNatClampNeg a2)))]) hx hb hts iX0_beatUp_0 tyX0 tyX0_ok nmX0 hown hK hP hD hS 0 rfl rfl 6 (by decide) hk32 rfl rfl rfl rfl (Nat.le_of_ble_eq_true rfl) dX0_beatUp_84 rfl (fun H locs hP hD hS => ?_)
  have hq : (sX0_beatUp I L f0 f1 f2 a0 a1 a2) = ((upd (upd I 3 r_2) 4 v_3), (vp_updL (vp_updL L 5 v_4) 6 v_6), (upd f0 r_1.toNatClampNeg a0), (upd f1 r_1.toNatClampNeg a1), (upd f2 r_1.toNatClampNeg a2)) := by clear hP hD hl; have z_ := ev_6.symm; clear ev_6; subst z_; have z_ := er_5.symm; clear er_5; subst z_; have z_ := ev_4.symm; clear ev_4; subst z_; have z_ := ev_3.symm; clear ev_3; subst z_; have z_ := er_2.symm; clear er_2; subst z_; have z_ := er_1.symm; clear er_1; subst z_; rfl
  exact jx_vret () hx hb hr hlocks hK hP hD hS (by rw [hq]) trivial dX0_beatUp_87

def sX0_takeOff (I : Nat → Int32) (L : Nat → Int64) (f2 : Nat → Int32) : Int32 × (Nat → Int32) × (Nat → Int64) := (if 0 < (I 4) then ((1 : Int32), (upd (upd I 3 (sX0_slotOf I (0 : Int32))) 4 ((I 4) - (1 : Int32))), (vp_updL (vp_updL L 5 ((L 5) - (1 : Int64))) 6 ((L 6) - (sX0_quarters (f2 (sX0_slotOf I (0 : Int32)).toNatClampNeg)).toInt64))) else ((0 : Int32), I, L))
set_option maxRecDepth 20000 in
theorem iX0_takeOff_0 : ∀ w ∈ wsX00, w ∈ wsX0_takeOff := by decide +kernel
set_option maxHeartbeats 4000000 in
set_option maxRecDepth 100000 in
theorem kX0_takeOff (l : Launch) (D : va_G) (cI cJ cZ cD : ClassId) (tA : Nat) (h : Nat) (R : Nat → Nat) (I : Nat → Int32) (L : Nat → Int64) (f0 : Nat → Int32) (f1 : Nat → Int32) (f2 : Nat → Int32) : jx_M l yX0_takeOff wsX0_takeOff ({ frames := 2, cells := 0, slots := 0, locals := 43 }) D (jT cI cJ cZ cD) tA [.ref h] [(h, .inr (0, (oX0 R I L))), ((R 0), .inl (cI, 64, .inl f0)), ((R 1), .inl (cI, 64, .inl f1)), ((R 2), .inl (cI, 64, .inl f2))] (jx_Qi D (jT cI cJ cZ cD) (fun r (_ : Unit) => r = (sX0_takeOff I L f2).1) (fun _ => [(h, .inr (0, (oX0 R (sX0_takeOff I L f2).2.1 (sX0_takeOff I L f2).2.2))), ((R 0), .inl (cI, 64, .inl f0)), ((R 1), .inl (cI, 64, .inl f1)), ((R 2), .inl (cI, 64, .inl f2))])) := by
  refine jx_of (cc := cX0_takeOff) (maxL := 1) (ret := (some .boolean)) (by decide +kernel) rfl (Nat.le_of_ble_eq_true rfl) ?_
  intro p e s m below meth c A ls hx hb hr hlocks hml hown hts hK hP hD hA hS hX hl
  have hl : lv_has ls 1 [(0, .ref h)] := hl
  have hown : s.vm.findClass RX0 = some m.cls := hown
  have hk18 := hts (.fieldLink RX0 18 "LoomDesk$Cloth" "densities" "[I") (by decide +kernel)
  have hk21 := hts (.fieldLink RX0 21 "LoomDesk$Cloth" "next" "I") (by decide +kernel)
  have hk25 := hts (.fieldLink RX0 25 "LoomDesk$Cloth" "kept" "I") (by decide +kernel)
  have hk28 := hts (.fieldLink RX0 28 "LoomDesk$Cloth" "beaten" "J") (by decide +kernel)
  have hk32 := hts (.fieldLink RX0 32 "LoomDesk$Cloth" "taken" "J") (by decide +kernel)
  refine lv_aload_n hx hb dX0_takeOff_0 rfl (lv_at hl 0 rfl) ?_
  refine jx_get (v := .int (I 4)) hx hb hts iX0_takeOff_0 hown hK hP 0 rfl rfl 4 (by decide) hk25 rfl rfl dX0_takeOff_1 ?_
  refine lv_if_gt (tgt := 9) hx hb dX0_takeOff_4 (by decide) (fun c_1 => ?_) (fun c_1 => ?_)
  · skip
    refine lv_aload_n hx hb dX0_takeOff_9 rfl (lv_at hl 0 rfl) ?_
    refine lv_aload_n hx hb dX0_takeOff_10 rfl (lv_at hl 0 rfl) ?_
    refine lv_iconst (v := 0) hx hb dX0_takeOff_11 (by decide) ?_
    refine jx_pcalli (wc := [(h, .inr (0, (oX0 R I L)))]) hP hD hS hA [0] rfl (by decide) (fun hPc hDc hF => jx_runVs (As := [.int (0 : Int32)]) (rest := [.ref h]) (n := 1) (ci := 0) (q0 := 0) hx hb hml hown hts hK hX hS hl.1 (kX0_slotOf l D cI cJ cZ cD tA h R I L (0 : Int32)) gX0_takeOff_X0_slotOf rfl rfl rfl (by decide +kernel) ⟨Nat.le_of_ble_eq_true rfl, Nat.le_of_ble_eq_true rfl⟩ rfl rfl rfl rfl rfl (Nat.le_of_ble_eq_true rfl) dX0_takeOff_12 ⟨Nat.zero_le _, Nat.zero_le _⟩ hPc hDc hF) (fun r_2 er_2 => ?_)
    have er_2 : r_2 = (sX0_slotOf I (0 : Int32)) := er_2
    refine jx_put (w2 := [(h, .inr (0, (oX0 R (upd I 3 r_2) L))), ((R 0), .inl (cI, 64, .inl f0)), ((R 1), .inl (cI, 64, .inl f1)), ((R 2), .inl (cI, 64, .inl f2))]) hx hb hts iX0_takeOff_0 tyX0 tyX0_ok nmX0 hown hK hP hD hS 0 rfl rfl 3 (by decide) hk21 rfl rfl rfl rfl (Nat.le_of_ble_eq_true rfl) dX0_takeOff_15 rfl (fun H locs hP hD hS => ?_)
    refine lv_aload_n hx hb dX0_takeOff_18 rfl (lv_at hl 0 rfl) ?_
    refine lv_dup hx hb dX0_takeOff_19 rfl ?_
    refine jx_get (v := .int (I 4)) hx hb hts iX0_takeOff_0 hown hK hP 0 rfl rfl 4 (by decide) hk25 rfl rfl dX0_takeOff_20 ?_
    refine lv_iconst (v := 1) hx hb dX0_takeOff_23 (by decide) ?_
    refine lv_isub hx hb dX0_takeOff_24 ?_
    refine lv_topi (fun v_3 ev_3 => ?_)
    refine jx_put (w2 := [(h, .inr (0, (oX0 R (upd (upd I 3 r_2) 4 v_3) L))), ((R 0), .inl (cI, 64, .inl f0)), ((R 1), .inl (cI, 64, .inl f1)), ((R 2), .inl (cI, 64, .inl f2))]) hx hb hts iX0_takeOff_0 tyX0 tyX0_ok nmX0 hown hK hP hD hS 0 rfl rfl 4 (by decide) hk25 rfl rfl rfl rfl (Nat.le_of_ble_eq_true rfl) dX0_takeOff_25 rfl (fun H locs hP hD hS => ?_)
    refine lv_aload_n hx hb dX0_takeOff_28 rfl (lv_at hl 0 rfl) ?_
    refine lv_dup hx hb dX0_takeOff_29 rfl ?_
    refine jx_get (v := .long (L 5)) hx hb hts iX0_takeOff_0 hown hK hP 0 rfl rfl 5 (by decide) hk28 rfl rfl dX0_takeOff_30 ?_
    refine lv_lconst (v := 1) hx hb dX0_takeOff_33 (by decide) ?_
    refine lv_lsub hx hb dX0_takeOff_34 ?_
    refine lv_topl (fun v_4 ev_4 => ?_)
    refine jx_put (w2 := [(h, .inr (0, (oX0 R (upd (upd I 3 r_2) 4 v_3) (vp_updL L 5 v_4)))), ((R 0), .inl (cI, 64, .inl f0)), ((R 1), .inl (cI, 64, .inl f1)), ((R 2), .inl (cI, 64, .inl f2))]) hx hb hts iX0_takeOff_0 tyX0 tyX0_ok nmX0 hown hK hP hD hS 0 rfl rfl 5 (by decide) hk28 rfl rfl rfl rfl (Nat.le_of_ble_eq_true rfl) dX0_takeOff_35 rfl (fun H locs hP hD hS => ?_)
    refine lv_aload_n hx hb dX0_takeOff_38 rfl (lv_at hl 0 rfl) ?_
    refine lv_dup hx hb dX0_takeOff_39 rfl ?_
    refine jx_get (v := .long (L 6)) hx hb hts iX0_takeOff_0 hown hK hP 0 rfl rfl 6 (by decide) hk32 rfl rfl dX0_takeOff_40 ?_
    refine lv_aload_n hx hb dX0_takeOff_43 rfl (lv_at hl 0 rfl) ?_
    refine jx_get (v := .ref (R 2)) hx hb hts iX0_takeOff_0 hown hK hP 0 rfl rfl 2 (by decide) hk18 rfl rfl dX0_takeOff_44 ?_
    refine lv_aload_n hx hb dX0_takeOff_47 rfl (lv_at hl 0 rfl) ?_
    refine jx_get (v := .int r_2) hx hb hts iX0_takeOff_0 hown hK hP 0 rfl rfl 3 (by decide) hk21 rfl rfl dX0_takeOff_48 ?_
    refine va_iald hx hb hK hP 3 0 rfl rfl (by clear hP hD hl; have z_ := ev_4.symm; clear ev_4; subst z_; have z_ := ev_3.symm; clear ev_3; subst z_; have z_ := er_2.symm; clear er_2; subst z_; exact jx_fm64 _) dX0_takeOff_51 ?_
    refine jx_pcalli (wc := []) hP hD hS hA [] rfl (by decide) (fun hPc hDc hF => jx_runSs (As := [.int (f2 r_2.toNatClampNeg)]) (rest := [.long (L 6), .ref h]) (n := 1) hx hb hml hown hts hK hX hS hl.1 (kX0_quarters l D cI cJ cZ cD tA (f2 r_2.toNatClampNeg)) gX0_takeOff_X0_quarters rfl rfl rfl (by decide +kernel) ⟨Nat.le_of_ble_eq_true rfl, Nat.le_of_ble_eq_true rfl⟩ rfl rfl (Nat.le_of_ble_eq_true rfl) dX0_takeOff_52 ⟨Nat.zero_le _, Nat.zero_le _⟩ hPc hDc hF) (fun r_5 er_5 => ?_)
    have er_5 : r_5 = (sX0_quarters (f2 r_2.toNatClampNeg)) := er_5
    refine lv_i2l hx hb dX0_takeOff_55 rfl ?_
    refine lv_lsub hx hb dX0_takeOff_56 ?_
    refine lv_topl (fun v_6 ev_6 => ?_)
    refine jx_put (w2 := [(h, .inr (0, (oX0 R (upd (upd I 3 r_2) 4 v_3) (vp_updL (vp_updL L 5 v_4) 6 v_6)))), ((R 0), .inl (cI, 64, .inl f0)), ((R 1), .inl (cI, 64, .inl f1)), ((R 2), .inl (cI, 64, .inl f2))]) hx hb hts iX0_takeOff_0 tyX0 tyX0_ok nmX0 hown hK hP hD hS 0 rfl rfl 6 (by decide) hk32 rfl rfl rfl rfl (Nat.le_of_ble_eq_true rfl) dX0_takeOff_57 rfl (fun H locs hP hD hS => ?_)
    refine lv_iconst (v := 1) hx hb dX0_takeOff_60 (by decide) ?_
    have hq : (sX0_takeOff I L f2) = ((1 : Int32), (upd (upd I 3 r_2) 4 v_3), (vp_updL (vp_updL L 5 v_4) 6 v_6)) := by clear hP hD hl; have z_ := ev_6.symm; clear ev_6; subst z_; have z_ := er_5.symm; clear er_5; subst z_; have z_ := ev_4.symm; clear ev_4; subst z_; have z_ := ev_3.symm; clear ev_3; subst z_; have z_ := er_2.symm; clear er_2; subst z_; unfold sX0_takeOff; exact (if_pos c_1)
    exact jx_zret () hx hb hr hlocks hK hP hD hS (by rw [hq]) (by rw [hq]) (Or.inr rfl) dX0_takeOff_61
  · skip
    refine lv_iconst (v := 0) hx hb dX0_takeOff_7 (by decide) ?_
    have hq : (sX0_takeOff I L f2) = ((0 : Int32), I, L) := by unfold sX0_takeOff; exact (if_neg c_1)
    exact jx_zret () hx hb hr hlocks hK hP hD hS (by rw [hq]) (by rw [hq]) (Or.inl rfl) dX0_takeOff_8

def sX0_forget (I : Nat → Int32) : (Nat → Int32) := (upd I 4 (0 : Int32))
set_option maxRecDepth 20000 in
theorem iX0_forget_0 : ∀ w ∈ wsX00, w ∈ wsX0_forget := by decide +kernel
set_option maxHeartbeats 4000000 in
set_option maxRecDepth 100000 in
theorem kX0_forget (l : Launch) (D : va_G) (cI cJ cZ cD : ClassId) (tA : Nat) (h : Nat) (R : Nat → Nat) (I : Nat → Int32) (L : Nat → Int64) : jx_M l yX0_forget wsX0_forget ({ frames := 0, cells := 0, slots := 0, locals := 0 }) D (jT cI cJ cZ cD) tA [.ref h] [(h, .inr (0, (oX0 R I L)))] (jx_Qv D (jT cI cJ cZ cD) (fun (_ : Unit) => True) (fun _ => [(h, .inr (0, (oX0 R (sX0_forget I) L)))])) := by
  refine jx_of (cc := cX0_forget) (maxL := 1) (ret := none) (by decide +kernel) rfl (Nat.le_of_ble_eq_true rfl) ?_
  intro p e s m below meth c A ls hx hb hr hlocks hml hown hts hK hP hD hA hS hX hl
  have hl : lv_has ls 1 [(0, .ref h)] := hl
  have hown : s.vm.findClass RX0 = some m.cls := hown
  have hk25 := hts (.fieldLink RX0 25 "LoomDesk$Cloth" "kept" "I") (by decide +kernel)
  refine lv_aload_n hx hb dX0_forget_0 rfl (lv_at hl 0 rfl) ?_
  refine lv_iconst (v := 0) hx hb dX0_forget_1 (by decide) ?_
  refine jx_put (w2 := [(h, .inr (0, (oX0 R (upd I 4 (0 : Int32)) L)))]) hx hb hts iX0_forget_0 tyX0 tyX0_ok nmX0 hown hK hP hD hS 0 rfl rfl 4 (by decide) hk25 rfl rfl rfl rfl (Nat.le_of_ble_eq_true rfl) dX0_forget_2 rfl (fun H locs hP hD hS => ?_)
  have hq : (sX0_forget I) = (upd I 4 (0 : Int32)) := rfl
  exact jx_vret () hx hb hr hlocks hK hP hD hS (by rw [hq]) trivial dX0_forget_5

def sX0_tell (I : Nat → Int32) (f0 : Nat → Int32) (f1 : Nat → Int32) (f2 : Nat → Int32) (a0 : Int32) (a1 : Int32) : Int32 := (if a0 < 0 then (-1 : Int32) else (if a0 < (I 4) then (if a1 = (0 : Int32) then (f0 (sX0_slotOf I a0).toNatClampNeg) else (if a1 = (1 : Int32) then (f1 (sX0_slotOf I a0).toNatClampNeg) else (if a1 = (2 : Int32) then (f2 (sX0_slotOf I a0).toNatClampNeg) else (-1 : Int32)))) else (-1 : Int32)))
set_option maxRecDepth 20000 in
theorem iX0_tell_0 : ∀ w ∈ wsX00, w ∈ wsX0_tell := by decide +kernel
set_option maxHeartbeats 4000000 in
set_option maxRecDepth 100000 in
theorem kX0_tell (l : Launch) (D : va_G) (cI cJ cZ cD : ClassId) (tA : Nat) (h : Nat) (R : Nat → Nat) (I : Nat → Int32) (L : Nat → Int64) (f0 : Nat → Int32) (f1 : Nat → Int32) (f2 : Nat → Int32) (a0 : Int32) (a1 : Int32) : jx_Ms l yX0_tell wsX0_tell ({ frames := 2, cells := 0, slots := 0, locals := 43 }) D (jT cI cJ cZ cD) tA [.ref h, .int a0, .int a1] [(h, .inr (0, (oX0 R I L))), ((R 0), .inl (cI, 64, .inl f0)), ((R 1), .inl (cI, 64, .inl f1)), ((R 2), .inl (cI, 64, .inl f2))] (vp_Si (fun r => r = (sX0_tell I f0 f1 f2 a0 a1))) := by
  refine jx_ofs (cc := cX0_tell) (maxL := 4) (ret := (some .int)) (by decide +kernel) rfl (Nat.le_of_ble_eq_true rfl) ?_
  intro p e s m below meth c A ls hx hb hr hlocks hml hown hts hK hP hD hA hS hX hl
  have hl : lv_has ls 4 [(0, .ref h), (1, .int a0), (2, .int a1)] := hl
  have hown : s.vm.findClass RX0 = some m.cls := hown
  have hk11 := hts (.fieldLink RX0 11 "LoomDesk$Cloth" "sheds" "[I") (by decide +kernel)
  have hk15 := hts (.fieldLink RX0 15 "LoomDesk$Cloth" "carriers" "[I") (by decide +kernel)
  have hk18 := hts (.fieldLink RX0 18 "LoomDesk$Cloth" "densities" "[I") (by decide +kernel)
  have hk25 := hts (.fieldLink RX0 25 "LoomDesk$Cloth" "kept" "I") (by decide +kernel)
  refine lv_iload_n hx hb dX0_tell_0 rfl (lv_at hl 1 rfl) ?_
  refine lv_if_lt (tgt := 12) hx hb dX0_tell_1 (by decide) (fun c_1 => ?_) (fun c_1 => ?_)
  · skip
    refine lv_iconst (v := -1) hx hb dX0_tell_12 (by decide) ?_
    have hq : (sX0_tell I f0 f1 f2 a0 a1) = (-1 : Int32) := by unfold sX0_tell; exact (if_pos c_1)
    exact jx_siret hx hb hr hlocks hq.symm dX0_tell_13
  · skip
    refine lv_iload_n hx hb dX0_tell_4 rfl (lv_at hl 1 rfl) ?_
    refine lv_aload_n hx hb dX0_tell_5 rfl (lv_at hl 0 rfl) ?_
    refine jx_get (v := .int (I 4)) hx hb hts iX0_tell_0 hown hK hP 0 rfl rfl 4 (by decide) hk25 rfl rfl dX0_tell_6 ?_
    refine lv_icmp_lt (tgt := 14) hx hb dX0_tell_9 (by decide) (fun c_2 => ?_) (fun c_2 => ?_)
    · skip
      refine lv_aload_n hx hb dX0_tell_14 rfl (lv_at hl 0 rfl) ?_
      refine lv_iload_n hx hb dX0_tell_15 rfl (lv_at hl 1 rfl) ?_
      refine jx_pcalli (wc := [(h, .inr (0, (oX0 R I L)))]) hP hD hS hA [0] rfl (by decide) (fun hPc hDc hF => jx_runVs (As := [.int a0]) (rest := []) (n := 1) (ci := 0) (q0 := 0) hx hb hml hown hts hK hX hS hl.1 (kX0_slotOf l D cI cJ cZ cD tA h R I L a0) gX0_tell_X0_slotOf rfl rfl rfl (by decide +kernel) ⟨Nat.le_of_ble_eq_true rfl, Nat.le_of_ble_eq_true rfl⟩ rfl rfl rfl rfl rfl (Nat.le_of_ble_eq_true rfl) dX0_tell_16 ⟨Nat.zero_le _, Nat.zero_le _⟩ hPc hDc hF) (fun r_3 er_3 => ?_)
      have er_3 : r_3 = (sX0_slotOf I a0) := er_3
      refine lv_istore_n (lv' := [(3, .int r_3), (0, .ref h), (1, .int a0), (2, .int a1)]) hx hb dX0_tell_19 rfl hl (by decide) rfl (fun ls hl => ?_)
      refine lv_iload_n hx hb dX0_tell_20 rfl (lv_at hl 3 rfl) ?_
      by_cases c_4 : a1 = (0 : Int32)
      · skip
        refine lv_tableIn (off := 27) (tgt := 48) hx hb dX0_tell_21 (by rw [c_4]; decide) (by rw [c_4]; decide) (by rw [c_4]; rfl) (by decide) ?_
        refine lv_aload_n hx hb dX0_tell_48 rfl (lv_at hl 1 rfl) ?_
        refine jx_get (v := .ref (R 0)) hx hb hts iX0_tell_0 hown hK hP 0 rfl rfl 0 (by decide) hk11 rfl rfl dX0_tell_49 ?_
        refine lv_iload_n hx hb dX0_tell_52 rfl (lv_at hl 0 rfl) ?_
        refine va_iald hx hb hK hP 1 0 rfl rfl (by clear hP hD hl; have z_ := er_3.symm; clear er_3; subst z_; exact jx_fm64 _) dX0_tell_53 ?_
        have hq : (sX0_tell I f0 f1 f2 a0 a1) = (f0 r_3.toNatClampNeg) := by clear hP hD hl; have z_ := er_3.symm; clear er_3; subst z_; unfold sX0_tell; exact (if_neg c_1).trans ((if_pos c_2).trans ((if_pos c_4)))
        exact jx_siret hx hb hr hlocks hq.symm dX0_tell_54
      by_cases c_5 : a1 = (1 : Int32)
      · skip
        refine lv_tableIn (off := 34) (tgt := 55) hx hb dX0_tell_21 (by rw [c_5]; decide) (by rw [c_5]; decide) (by rw [c_5]; rfl) (by decide) ?_
        refine lv_aload_n hx hb dX0_tell_55 rfl (lv_at hl 1 rfl) ?_
        refine jx_get (v := .ref (R 1)) hx hb hts iX0_tell_0 hown hK hP 0 rfl rfl 1 (by decide) hk15 rfl rfl dX0_tell_56 ?_
        refine lv_iload_n hx hb dX0_tell_59 rfl (lv_at hl 0 rfl) ?_
        refine va_iald hx hb hK hP 2 0 rfl rfl (by clear hP hD hl; have z_ := er_3.symm; clear er_3; subst z_; exact jx_fm64 _) dX0_tell_60 ?_
        have hq : (sX0_tell I f0 f1 f2 a0 a1) = (f1 r_3.toNatClampNeg) := by clear hP hD hl; have z_ := er_3.symm; clear er_3; subst z_; unfold sX0_tell; exact (if_neg c_1).trans ((if_pos c_2).trans ((if_neg c_4).trans ((if_pos c_5))))
        exact jx_siret hx hb hr hlocks hq.symm dX0_tell_61
      by_cases c_6 : a1 = (2 : Int32)
      · skip
        refine lv_tableIn (off := 41) (tgt := 62) hx hb dX0_tell_21 (by rw [c_6]; decide) (by rw [c_6]; decide) (by rw [c_6]; rfl) (by decide) ?_
        refine lv_aload_n hx hb dX0_tell_62 rfl (lv_at hl 1 rfl) ?_
        refine jx_get (v := .ref (R 2)) hx hb hts iX0_tell_0 hown hK hP 0 rfl rfl 2 (by decide) hk18 rfl rfl dX0_tell_63 ?_
        refine lv_iload_n hx hb dX0_tell_66 rfl (lv_at hl 0 rfl) ?_
        refine va_iald hx hb hK hP 3 0 rfl rfl (by clear hP hD hl; have z_ := er_3.symm; clear er_3; subst z_; exact jx_fm64 _) dX0_tell_67 ?_
        have hq : (sX0_tell I f0 f1 f2 a0 a1) = (f2 r_3.toNatClampNeg) := by clear hP hD hl; have z_ := er_3.symm; clear er_3; subst z_; unfold sX0_tell; exact (if_neg c_1).trans ((if_pos c_2).trans ((if_neg c_4).trans ((if_neg c_5).trans ((if_pos c_6)))))
        exact jx_siret hx hb hr hlocks hq.symm dX0_tell_68
      have hout : a1.toInt < 0 ∨ 2 < a1.toInt := by
        have z0 := lv_neT c_4 (show (0 : Int32).toInt = 0 by decide)
        have z1 := lv_neT c_5 (show (1 : Int32).toInt = 1 by decide)
        have z2 := lv_neT c_6 (show (2 : Int32).toInt = 2 by decide)
        omega
      refine lv_tableOut (tgt := 69) hx hb dX0_tell_21 hout (by decide) ?_
      refine lv_iconst (v := -1) hx hb dX0_tell_69 (by decide) ?_
      have hq : (sX0_tell I f0 f1 f2 a0 a1) = (-1 : Int32) := by clear hP hD hl; have z_ := er_3.symm; clear er_3; subst z_; unfold sX0_tell; exact (if_neg c_1).trans ((if_pos c_2).trans ((if_neg c_4).trans ((if_neg c_5).trans ((if_neg c_6)))))
      exact jx_siret hx hb hr hlocks hq.symm dX0_tell_70
    · skip
      refine lv_iconst (v := -1) hx hb dX0_tell_12 (by decide) ?_
      have hq : (sX0_tell I f0 f1 f2 a0 a1) = (-1 : Int32) := by unfold sX0_tell; exact (if_neg c_1).trans ((if_neg c_2))
      exact jx_siret hx hb hr hlocks hq.symm dX0_tell_13

