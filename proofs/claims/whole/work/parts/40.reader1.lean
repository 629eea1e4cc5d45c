theorem jx_dp1 {d : Int32} (hd : vp_in d 7) (h : d < 6) : vp_in (d + 1) 7 := by
  rw [vp_in_iff] at *
  rw [Int32.lt_iff_toInt_lt, show (6 : Int32).toInt = 6 from rfl] at h
  have e : (d + 1).toInt = d.toInt + 1 := by
    rw [Int32.toInt_add, show (1 : Int32).toInt = 1 from rfl]; exact jx_bm32 (by omega) (by omega)
  rw [e]; omega
theorem jx_dm1 {d : Int32} (hd : vp_in d 7) (h : ¬ d ≤ 0) : vp_in (d - 1) 7 := by
  rw [vp_in_iff] at *
  rw [Int32.le_iff_toInt_le, show (0 : Int32).toInt = 0 from rfl] at h
  have e : (d - 1).toInt = d.toInt - 1 := by
    rw [Int32.toInt_sub, show (1 : Int32).toInt = 1 from rfl]; exact jx_bm32 (by omega) (by omega)
  rw [e]; omega
def sX2_faultAt (I : Nat → Int32) (a0 : Int32) : (Nat → Int32) := (if (I 3) = (-1 : Int32) then (upd I 3 a0) else I)
set_option maxRecDepth 20000 in
theorem iX2_faultAt_2 : ∀ w ∈ wsX20, w ∈ wsX2_faultAt := by decide +kernel
set_option maxHeartbeats 4000000 in
set_option maxRecDepth 100000 in
theorem kX2_faultAt (l : Launch) (D : va_G) (cI cJ cZ cD : ClassId) (tA : Nat) (h : Nat) (R : Nat → Nat) (I : Nat → Int32) (L : Nat → Int64) (a0 : Int32) : jx_M l yX2_faultAt wsX2_faultAt ({ frames := 0, cells := 0, slots := 0, locals := 0 }) D (jT cI cJ cZ cD) tA [.ref h, .int a0] [(h, .inr (2, (oX2 R I L)))] (jx_Qv D (jT cI cJ cZ cD) (fun (_ : Unit) => True) (fun _ => [(h, .inr (2, (oX2 R (sX2_faultAt I a0) L)))])) := by
  refine jx_of (cc := cX2_faultAt) (maxL := 2) (ret := none) (by decide +kernel) rfl (Nat.le_of_ble_eq_true rfl) ?_
  intro p e s m below meth c A ls hx hb hr hlocks hml hown hts hK hP hD hA hS hX hl
  have hl : lv_has ls 2 [(0, .ref h), (1, .int a0)] := hl
  have hown : s.vm.findClass RX2 = some m.cls := hown
  have hk29 := hts (.fieldLink RX2 29 "LoomDesk$Reader" "fault" "I") (by decide +kernel)
  refine lv_aload_n hx hb dX2_faultAt_0 rfl (lv_at hl 0 rfl) ?_
  refine jx_get (v := .int (I 3)) hx hb hts iX2_faultAt_2 hown hK hP 0 rfl rfl 3 (by decide) hk29 rfl rfl dX2_faultAt_1 ?_
  refine lv_iconst (v := -1) hx hb dX2_faultAt_4 (by decide) ?_
  refine lv_icmp_ne (tgt := 13) hx hb dX2_faultAt_5 (by decide) (fun c_1 => ?_) (fun c_1 => ?_)
  · skip
    have hq : (sX2_faultAt I a0) = I := by unfold sX2_faultAt; exact (if_neg c_1)
    exact jx_vret () hx hb hr hlocks hK hP hD hS (by rw [hq]) trivial dX2_faultAt_13
  · skip
    refine lv_aload_n hx hb dX2_faultAt_8 rfl (lv_at hl 0 rfl) ?_
    refine lv_iload_n hx hb dX2_faultAt_9 rfl (lv_at hl 1 rfl) ?_
    refine jx_put (w2 := [(h, .inr (2, (oX2 R (upd I 3 a0) L)))]) hx hb hts iX2_faultAt_2 tyX2 tyX2_ok nmX2 hown hK hP hD hS 0 rfl rfl 3 (by decide) hk29 rfl rfl rfl rfl (Nat.le_of_ble_eq_true rfl) dX2_faultAt_10 rfl (fun H locs hP hD hS => ?_)
    have hq : (sX2_faultAt I a0) = (upd I 3 a0) := by unfold sX2_faultAt; exact (if_pos c_1)
    exact jx_vret () hx hb hr hlocks hK hP hD hS (by rw [hq]) trivial dX2_faultAt_13

def sX2_digitOf (a0 : Int32) : Int32 := (if a0 < (48 : Int32) then (if a0 < (97 : Int32) then (-1 : Int32) else (if (102 : Int32) < a0 then (-1 : Int32) else ((a0 - (97 : Int32)) + (10 : Int32)))) else (if (57 : Int32) < a0 then (if a0 < (97 : Int32) then (-1 : Int32) else (if (102 : Int32) < a0 then (-1 : Int32) else ((a0 - (97 : Int32)) + (10 : Int32)))) else (a0 - (48 : Int32))))
set_option maxHeartbeats 4000000 in
set_option maxRecDepth 100000 in
theorem kX2_digitOf (l : Launch) (D : va_G) (cI cJ cZ cD : ClassId) (tA : Nat) (a0 : Int32) : jx_Ms l yX2_digitOf wsX2_digitOf ({ frames := 0, cells := 0, slots := 0, locals := 0 }) D (jT cI cJ cZ cD) tA [.int a0] [] (vp_Si (fun r => r = (sX2_digitOf a0))) := by
  refine jx_ofs (cc := cX2_digitOf) (maxL := 1) (ret := (some .int)) (by decide +kernel) rfl (Nat.le_of_ble_eq_true rfl) ?_
  intro p e s m below meth c A ls hx hb hr hlocks hml hown hts hK hP hD hA hS hX hl
  have hl : lv_has ls 1 [(0, .int a0)] := hl
  have hown : s.vm.findClass RX2 = some m.cls := hown
  refine lv_iload_n hx hb dX2_digitOf_0 rfl (lv_at hl 0 rfl) ?_
  refine lv_bipush (v := 48) hx hb dX2_digitOf_1 (by decide) ?_
  refine lv_icmp_lt (tgt := 17) hx hb dX2_digitOf_3 (by decide) (fun c_1 => ?_) (fun c_1 => ?_)
  · skip
    refine lv_iload_n hx hb dX2_digitOf_17 rfl (lv_at hl 0 rfl) ?_
    refine lv_bipush (v := 97) hx hb dX2_digitOf_18 (by decide) ?_
    refine lv_icmp_lt (tgt := 39) hx hb dX2_digitOf_20 (by decide) (fun c_2 => ?_) (fun c_2 => ?_)
    · skip
      refine lv_iconst (v := -1) hx hb dX2_digitOf_39 (by decide) ?_
      have hq : (sX2_digitOf a0) = (-1 : Int32) := by unfold sX2_digitOf; exact (if_pos c_1).trans ((if_pos c_2))
      exact jx_siret hx hb hr hlocks hq.symm dX2_digitOf_40
    · skip
      refine lv_iload_n hx hb dX2_digitOf_23 rfl (lv_at hl 0 rfl) ?_
      refine lv_bipush (v := 102) hx hb dX2_digitOf_24 (by decide) ?_
      refine lv_icmp_gt (tgt := 39) hx hb dX2_digitOf_26 (by decide) (fun c_3 => ?_) (fun c_3 => ?_)
      · skip
        refine lv_iconst (v := -1) hx hb dX2_digitOf_39 (by decide) ?_
        have hq : (sX2_digitOf a0) = (-1 : Int32) := by unfold sX2_digitOf; exact (if_pos c_1).trans ((if_neg c_2).trans ((if_pos c_3)))
        exact jx_siret hx hb hr hlocks hq.symm dX2_digitOf_40
      · skip
        refine lv_iload_n hx hb dX2_digitOf_29 rfl (lv_at hl 0 rfl) ?_
        refine lv_bipush (v := 97) hx hb dX2_digitOf_30 (by decide) ?_
        refine lv_isub hx hb dX2_digitOf_32 ?_
        refine lv_bipush (v := 10) hx hb dX2_digitOf_33 (by decide) ?_
        refine lv_iadd hx hb dX2_digitOf_35 ?_
        refine lv_goto (tgt := 40) hx hb dX2_digitOf_36 (by decide) ?_
        have hq : (sX2_digitOf a0) = ((a0 - (97 : Int32)) + (10 : Int32)) := by unfold sX2_digitOf; exact (if_pos c_1).trans ((if_neg c_2).trans ((if_neg c_3)))
        exact jx_siret hx hb hr hlocks hq.symm dX2_digitOf_40
  · skip
    refine lv_iload_n hx hb dX2_digitOf_6 rfl (lv_at hl 0 rfl) ?_
    refine lv_bipush (v := 57) hx hb dX2_digitOf_7 (by decide) ?_
    refine lv_icmp_gt (tgt := 17) hx hb dX2_digitOf_9 (by decide) (fun c_4 => ?_) (fun c_4 => ?_)
    · skip
      refine lv_iload_n hx hb dX2_digitOf_17 rfl (lv_at hl 0 rfl) ?_
      refine lv_bipush (v := 97) hx hb dX2_digitOf_18 (by decide) ?_
      refine lv_icmp_lt (tgt := 39) hx hb dX2_digitOf_20 (by decide) (fun c_5 => ?_) (fun c_5 => ?_)
      · skip
        refine lv_iconst (v := -1) hx hb dX2_digitOf_39 (by decide) ?_
        have hq : (sX2_digitOf a0) = (-1 : Int32) := by unfold sX2_digitOf; exact (if_neg c_1).trans ((if_pos c_4).trans ((if_pos c_5)))
        exact jx_siret hx hb hr hlocks hq.symm dX2_digitOf_40
      · skip
        refine lv_iload_n hx hb dX2_digitOf_23 rfl (lv_at hl 0 rfl) ?_
        refine lv_bipush (v := 102) hx hb dX2_digitOf_24 (by decide) ?_
        refine lv_icmp_gt (tgt := 39) hx hb dX2_digitOf_26 (by decide) (fun c_6 => ?_) (fun c_6 => ?_)
        · skip
          refine lv_iconst (v := -1) hx hb dX2_digitOf_39 (by decide) ?_
          have hq : (sX2_digitOf a0) = (-1 : Int32) := by unfold sX2_digitOf; exact (if_neg c_1).trans ((if_pos c_4).trans ((if_neg c_5).trans ((if_pos c_6))))
          exact jx_siret hx hb hr hlocks hq.symm dX2_digitOf_40
        · skip
          refine lv_iload_n hx hb dX2_digitOf_29 rfl (lv_at hl 0 rfl) ?_
          refine lv_bipush (v := 97) hx hb dX2_digitOf_30 (by decide) ?_
          refine lv_isub hx hb dX2_digitOf_32 ?_
          refine lv_bipush (v := 10) hx hb dX2_digitOf_33 (by decide) ?_
          refine lv_iadd hx hb dX2_digitOf_35 ?_
          refine lv_goto (tgt := 40) hx hb dX2_digitOf_36 (by decide) ?_
          have hq : (sX2_digitOf a0) = ((a0 - (97 : Int32)) + (10 : Int32)) := by unfold sX2_digitOf; exact (if_neg c_1).trans ((if_pos c_4).trans ((if_neg c_5).trans ((if_neg c_6))))
          exact jx_siret hx hb hr hlocks hq.symm dX2_digitOf_40
    · skip
      refine lv_iload_n hx hb dX2_digitOf_12 rfl (lv_at hl 0 rfl) ?_
      refine lv_bipush (v := 48) hx hb dX2_digitOf_13 (by decide) ?_
      refine lv_isub hx hb dX2_digitOf_15 ?_
      have hq : (sX2_digitOf a0) = (a0 - (48 : Int32)) := by unfold sX2_digitOf; exact (if_neg c_1).trans ((if_neg c_4))
      exact jx_siret hx hb hr hlocks hq.symm dX2_digitOf_16

def sX2_addPicks (I : Nat → Int32) (f6 : Nat → Int64) (a0 : Int64) : (Nat → Int64) := (vp_updL f6 (I 4).toNatClampNeg (if (2000000001 : Int64) < ((f6 (I 4).toNatClampNeg) + a0) then (2000000001 : Int64) else ((f6 (I 4).toNatClampNeg) + a0)))
set_option maxRecDepth 20000 in
theorem iX2_addPicks_2 : ∀ w ∈ wsX20, w ∈ wsX2_addPicks := by decide +kernel
set_option maxHeartbeats 4000000 in
set_option maxRecDepth 100000 in
theorem kX2_addPicks (l : Launch) (D : va_G) (cI cJ cZ cD : ClassId) (tA : Nat) (h : Nat) (R : Nat → Nat) (I : Nat → Int32) (L : Nat → Int64) (f6 : Nat → Int64) (a0 : Int64) (hd : vp_in (I 4) 7) : jx_M l yX2_addPicks wsX2_addPicks ({ frames := 1, cells := 0, slots := 0, locals := 23 }) D (jT cI cJ cZ cD) tA [.ref h, .long a0] [(h, .inr (2, (oX2 R I L))), ((R 6), .inl (cJ, 7, .inr (.inl f6)))] (jx_Qv D (jT cI cJ cZ cD) (fun (_ : Unit) => True) (fun _ => [(h, .inr (2, (oX2 R I L))), ((R 6), .inl (cJ, 7, .inr (.inl (sX2_addPicks I f6 a0))))])) := by
  refine jx_of (cc := cX2_addPicks) (maxL := 3) (ret := none) (by decide +kernel) rfl (Nat.le_of_ble_eq_true rfl) ?_
  intro p e s m below meth c A ls hx hb hr hlocks hml hown hts hK hP hD hA hS hX hl
  have hl : lv_has ls 3 [(0, .ref h), (1, .long a0)] := hl
  have hown : s.vm.findClass RX2 = some m.cls := hown
  have hk32 := hts (.fieldLink RX2 32 "LoomDesk$Reader" "depth" "I") (by decide +kernel)
  have hk39 := hts (.fieldLink RX2 39 "LoomDesk$Reader" "picks" "[J") (by decide +kernel)
  refine lv_aload_n hx hb dX2_addPicks_0 rfl (lv_at hl 0 rfl) ?_
  refine jx_get (v := .ref (R 6)) hx hb hts iX2_addPicks_2 hown hK hP 0 rfl rfl 6 (by decide) hk39 rfl rfl dX2_addPicks_1 ?_
  refine lv_aload_n hx hb dX2_addPicks_4 rfl (lv_at hl 0 rfl) ?_
  refine jx_get (v := .int (I 4)) hx hb hts iX2_addPicks_2 hown hK hP 0 rfl rfl 4 (by decide) hk32 rfl rfl dX2_addPicks_5 ?_
  refine lv_aload_n hx hb dX2_addPicks_8 rfl (lv_at hl 0 rfl) ?_
  refine jx_get (v := .ref (R 6)) hx hb hts iX2_addPicks_2 hown hK hP 0 rfl rfl 6 (by decide) hk39 rfl rfl dX2_addPicks_9 ?_
  refine lv_aload_n hx hb dX2_addPicks_12 rfl (lv_at hl 0 rfl) ?_
  refine jx_get (v := .int (I 4)) hx hb hts iX2_addPicks_2 hown hK hP 0 rfl rfl 4 (by decide) hk32 rfl rfl dX2_addPicks_13 ?_
  refine va_lald hx hb hK hP 1 1 rfl rfl hd dX2_addPicks_16 ?_
  refine lv_lload_n hx hb dX2_addPicks_17 rfl (lv_at hl 1 rfl) ?_
  refine lv_ladd hx hb dX2_addPicks_18 ?_
  refine lv_ldc2 hx hb hown (hts (.constantLong RX2 117 (2000000001)) (by decide +kernel)) dX2_addPicks_19 ?_
  refine va_mmin_long hx hb (hml.trans hl.1.symm) hown (hts (.methodLink RX2 119 Lib.MathLoose.min_long.x) (by decide +kernel)) (hts (.static Lib.MathLoose.min_long.x) (by decide +kernel)) (hts (.initialized "java/lang/Math") (by decide +kernel)) (hts (.code Lib.MathLoose.min_long.x Lib.MathLoose.min_long.code 4 (some .long)) (by decide +kernel)) (Nat.le_of_ble_eq_true rfl) (Nat.le_of_ble_eq_true rfl) (Nat.zero_le _) (Nat.zero_le _) dX2_addPicks_22 ?_
  refine lv_topl (fun v_1 ev_1 => ?_)
  refine jx_last (w2 := [(h, .inr (2, (oX2 R I L))), ((R 6), .inl (cJ, 7, .inr (.inl (vp_updL f6 (I 4).toNatClampNeg v_1))))]) hx hb hK hP hD hS 1 1 rfl rfl hd dX2_addPicks_25 rfl (fun H locs hP hD hS => ?_)
  have hq : (sX2_addPicks I f6 a0) = (vp_updL f6 (I 4).toNatClampNeg v_1) := by clear hP hD hl; have z_ := ev_1.symm; clear ev_1; subst z_; rfl
  exact jx_vret () hx hb hr hlocks hK hP hD hS (by rw [hq]) trivial dX2_addPicks_26

def sX2_beginLevel (I : Nat → Int32) (f5 : Nat → Int32) (f6 : Nat → Int64) (f7 : Nat → Int32) (f8 : Nat → Int32) : (Nat → Int32) × (Nat → Int64) × (Nat → Int32) × (Nat → Int32) := ((upd f5 (I 4).toNatClampNeg (-1 : Int32)), (vp_updL f6 (I 4).toNatClampNeg (0 : Int64)), (upd f7 (I 4).toNatClampNeg (-1 : Int32)), (upd f8 (I 4).toNatClampNeg (-1 : Int32)))
set_option maxRecDepth 20000 in
theorem iX2_beginLevel_2 : ∀ w ∈ wsX20, w ∈ wsX2_beginLevel := by decide +kernel
set_option maxHeartbeats 4000000 in
set_option maxRecDepth 100000 in
theorem kX2_beginLevel (l : Launch) (D : va_G) (cI cJ cZ cD : ClassId) (tA : Nat) (h : Nat) (R : Nat → Nat) (I : Nat → Int32) (L : Nat → Int64) (f5 : Nat → Int32) (f6 : Nat → Int64) (f7 : Nat → Int32) (f8 : Nat → Int32) (hd : vp_in (I 4) 7) : jx_M l yX2_beginLevel wsX2_beginLevel ({ frames := 0, cells := 0, slots := 0, locals := 0 }) D (jT cI cJ cZ cD) tA [.ref h] [(h, .inr (2, (oX2 R I L))), ((R 5), .inl (cI, 7, .inl f5)), ((R 6), .inl (cJ, 7, .inr (.inl f6))), ((R 7), .inl (cI, 7, .inl f7)), ((R 8), .inl (cI, 7, .inl f8))] (jx_Qv D (jT cI cJ cZ cD) (fun (_ : Unit) => True) (fun _ => [(h, .inr (2, (oX2 R I L))), ((R 5), .inl (cI, 7, .inl ((sX2_beginLevel I f5 f6 f7 f8).1))), ((R 6), .inl (cJ, 7, .inr (.inl ((sX2_beginLevel I f5 f6 f7 f8).2.1)))), ((R 7), .inl (cI, 7, .inl ((sX2_beginLevel I f5 f6 f7 f8).2.2.1))), ((R 8), .inl (cI, 7, .inl ((sX2_beginLevel I f5 f6 f7 f8).2.2.2)))])) := by
  refine jx_of (cc := cX2_beginLevel) (maxL := 1) (ret := none) (by decide +kernel) rfl (Nat.le_of_ble_eq_true rfl) ?_
  intro p e s m below meth c A ls hx hb hr hlocks hml hown hts hK hP hD hA hS hX hl
  have hl : lv_has ls 1 [(0, .ref h)] := hl
  have hown : s.vm.findClass RX2 = some m.cls := hown
  have hk32 := hts (.fieldLink RX2 32 "LoomDesk$Reader" "depth" "I") (by decide +kernel)
  have hk35 := hts (.fieldLink RX2 35 "LoomDesk$Reader" "items" "[I") (by decide +kernel)
  have hk39 := hts (.fieldLink RX2 39 "LoomDesk$Reader" "picks" "[J") (by decide +kernel)
  have hk43 := hts (.fieldLink RX2 43 "LoomDesk$Reader" "carriers" "[I") (by decide +kernel)
  have hk46 := hts (.fieldLink RX2 46 "LoomDesk$Reader" "densities" "[I") (by decide +kernel)
  refine lv_aload_n hx hb dX2_beginLevel_0 rfl (lv_at hl 0 rfl) ?_
  refine jx_get (v := .ref (R 5)) hx hb hts iX2_beginLevel_2 hown hK hP 0 rfl rfl 5 (by decide) hk35 rfl rfl dX2_beginLevel_1 ?_
  refine lv_aload_n hx hb dX2_beginLevel_4 rfl (lv_at hl 0 rfl) ?_
  refine jx_get (v := .int (I 4)) hx hb hts iX2_beginLevel_2 hown hK hP 0 rfl rfl 4 (by decide) hk32 rfl rfl dX2_beginLevel_5 ?_
  refine lv_iconst (v := -1) hx hb dX2_beginLevel_8 (by decide) ?_
  refine jx_iast (w2 := [(h, .inr (2, (oX2 R I L))), ((R 5), .inl (cI, 7, .inl (upd f5 (I 4).toNatClampNeg (-1 : Int32)))), ((R 6), .inl (cJ, 7, .inr (.inl f6))), ((R 7), .inl (cI, 7, .inl f7)), ((R 8), .inl (cI, 7, .inl f8))]) hx hb hK hP hD hS 1 0 rfl rfl hd dX2_beginLevel_9 rfl (fun H locs hP hD hS => ?_)
  refine lv_aload_n hx hb dX2_beginLevel_10 rfl (lv_at hl 0 rfl) ?_
  refine jx_get (v := .ref (R 6)) hx hb hts iX2_beginLevel_2 hown hK hP 0 rfl rfl 6 (by decide) hk39 rfl rfl dX2_beginLevel_11 ?_
  refine lv_aload_n hx hb dX2_beginLevel_14 rfl (lv_at hl 0 rfl) ?_
  refine jx_get (v := .int (I 4)) hx hb hts iX2_beginLevel_2 hown hK hP 0 rfl rfl 4 (by decide) hk32 rfl rfl dX2_beginLevel_15 ?_
  refine lv_lconst (v := 0) hx hb dX2_beginLevel_18 (by decide) ?_
  refine jx_last (w2 := [(h, .inr (2, (oX2 R I L))), ((R 5), .inl (cI, 7, .inl (upd f5 (I 4).toNatClampNeg (-1 : Int32)))), ((R 6), .inl (cJ, 7, .inr (.inl (vp_updL f6 (I 4).toNatClampNeg (0 : Int64))))), ((R 7), .inl (cI, 7, .inl f7)), ((R 8), .inl (cI, 7, .inl f8))]) hx hb hK hP hD hS 2 1 rfl rfl hd dX2_beginLevel_19 rfl (fun H locs hP hD hS => ?_)
  refine lv_aload_n hx hb dX2_beginLevel_20 rfl (lv_at hl 0 rfl) ?_
  refine jx_get (v := .ref (R 7)) hx hb hts iX2_beginLevel_2 hown hK hP 0 rfl rfl 7 (by decide) hk43 rfl rfl dX2_beginLevel_21 ?_
  refine lv_aload_n hx hb dX2_beginLevel_24 rfl (lv_at hl 0 rfl) ?_
  refine jx_get (v := .int (I 4)) hx hb hts iX2_beginLevel_2 hown hK hP 0 rfl rfl 4 (by decide) hk32 rfl rfl dX2_beginLevel_25 ?_
  refine lv_iconst (v := -1) hx hb dX2_beginLevel_28 (by decide) ?_
  refine jx_iast (w2 := [(h, .inr (2, (oX2 R I L))), ((R 5), .inl (cI, 7, .inl (upd f5 (I 4).toNatClampNeg (-1 : Int32)))), ((R 6), .inl (cJ, 7, .inr (.inl (vp_updL f6 (I 4).toNatClampNeg (0 : Int64))))), ((R 7), .inl (cI, 7, .inl (upd f7 (I 4).toNatClampNeg (-1 : Int32)))), ((R 8), .inl (cI, 7, .inl f8))]) hx hb hK hP hD hS 3 0 rfl rfl hd dX2_beginLevel_29 rfl (fun H locs hP hD hS => ?_)
  refine lv_aload_n hx hb dX2_beginLevel_30 rfl (lv_at hl 0 rfl) ?_
  refine jx_get (v := .ref (R 8)) hx hb hts iX2_beginLevel_2 hown hK hP 0 rfl rfl 8 (by decide) hk46 rfl rfl dX2_beginLevel_31 ?_
  refine lv_aload_n hx hb dX2_beginLevel_34 rfl (lv_at hl 0 rfl) ?_
  refine jx_get (v := .int (I 4)) hx hb hts iX2_beginLevel_2 hown hK hP 0 rfl rfl 4 (by decide) hk32 rfl rfl dX2_beginLevel_35 ?_
  refine lv_iconst (v := -1) hx hb dX2_beginLevel_38 (by decide) ?_
  refine jx_iast (w2 := [(h, .inr (2, (oX2 R I L))), ((R 5), .inl (cI, 7, .inl (upd f5 (I 4).toNatClampNeg (-1 : Int32)))), ((R 6), .inl (cJ, 7, .inr (.inl (vp_updL f6 (I 4).toNatClampNeg (0 : Int64))))), ((R 7), .inl (cI, 7, .inl (upd f7 (I 4).toNatClampNeg (-1 : Int32)))), ((R 8), .inl (cI, 7, .inl (upd f8 (I 4).toNatClampNeg (-1 : Int32))))]) hx hb hK hP hD hS 4 0 rfl rfl hd dX2_beginLevel_39 rfl (fun H locs hP hD hS => ?_)
  have hq : (sX2_beginLevel I f5 f6 f7 f8) = ((upd f5 (I 4).toNatClampNeg (-1 : Int32)), (vp_updL f6 (I 4).toNatClampNeg (0 : Int64)), (upd f7 (I 4).toNatClampNeg (-1 : Int32)), (upd f8 (I 4).toNatClampNeg (-1 : Int32))) := rfl
  exact jx_vret () hx hb hr hlocks hK hP hD hS (by rw [hq]) trivial dX2_beginLevel_40

def alF (d : Int32) : Nat → Nat → Int32
  | 0, _ => 0
  | n + 1, j => if jx_alw j = d then 1 else alF d n (j + 1)
def sX2_isAllowed (a0 : Int32) : Int32 := alF a0 11 0
def alI (d ii : Int32) (kk : Nat) : Prop := ii = nI kk ∧ kk ≤ 11 ∧ alF d (11 - kk) kk = sX2_isAllowed d
theorem alI_lt {d ii : Int32} {kk : Nat} (h : alI d ii kk) (c : ¬ 11 ≤ ii) : kk < 11 := by
  obtain ⟨h1, h2, h3⟩ := h
  rw [h1, show (11 : Int32) = nI 11 from rfl, nI_leI (by omega) (by omega)] at c; omega
theorem alI_in {d ii : Int32} {kk : Nat} (h : alI d ii kk) (c : ¬ 11 ≤ ii) : vp_in ii 11 := by
  rw [h.1]; exact vp_in_nI (alI_lt h c) (by omega)
theorem alI_end {d ii : Int32} {kk : Nat} (h : alI d ii kk) (c : 11 ≤ ii) : sX2_isAllowed d = 0 := by
  obtain ⟨h1, h2, h3⟩ := h
  rw [h1, show (11 : Int32) = nI 11 from rfl, nI_leI (by omega) (by omega)] at c
  rw [← h3, show kk = 11 from by omega]; rfl
theorem alI_hit {d ii : Int32} {kk : Nat} (h : alI d ii kk) (c : ¬ 11 ≤ ii) (c2 : jx_alw ii.toNatClampNeg = d) : sX2_isAllowed d = 1 := by
  have h4 := alI_lt h c
  obtain ⟨h1, h2, h3⟩ := h
  rw [h1, nI_clamp (by omega)] at c2
  rw [← h3, show 11 - kk = (10 - kk) + 1 from by omega, alF, if_pos c2]
theorem alI_step {d ii : Int32} {kk : Nat} (h : alI d ii kk) (c : ¬ 11 ≤ ii) (c2 : ¬ jx_alw ii.toNatClampNeg = d) : alI d (ii + 1) (kk + 1) ∧ 11 - (kk + 1) < 11 - kk := by
  have h4 := alI_lt h c
  obtain ⟨h1, h2, h3⟩ := h
  rw [h1, nI_clamp (by omega)] at c2
  refine ⟨⟨by rw [h1]; exact nI_1 kk, by omega, ?_⟩, by omega⟩
  rw [← h3, show 11 - kk = (11 - (kk + 1)) + 1 from by omega, alF, if_neg c2]
set_option maxHeartbeats 4000000 in
set_option maxRecDepth 100000 in
theorem kX2_isAllowed (l : Launch) (D : va_G) (cI cJ cZ cD : ClassId) (tA : Nat) (a0 : Int32) : jx_Ms l yX2_isAllowed wsX2_isAllowed ({ frames := 0, cells := 0, slots := 0, locals := 0 }) D (jT cI cJ cZ cD) tA [.int a0] [] (vp_Si (fun r => r = (sX2_isAllowed a0))) := by
  refine jx_ofs (cc := cX2_isAllowed) (maxL := 2) (ret := (some .boolean)) (by decide +kernel) rfl (Nat.le_of_ble_eq_true rfl) ?_
  intro p e s m below meth c A ls hx hb hr hlocks hml hown hts hK hP hD hA hS hX hl
  have hl : lv_has ls 2 [(0, .int a0)] := hl
  have hown : s.vm.findClass RX2 = some m.cls := hown
  have hk131 := hts (.fieldLink RX2 131 "LoomDesk$Reader" "ALLOWED" "[I") (by decide +kernel)
  refine lv_iconst (v := 0) hx hb dX2_isAllowed_0 (by decide) ?_
  refine lv_istore_n (lv' := [(1, .int (0 : Int32)), (0, .int a0)]) hx hb dX2_isAllowed_1 rfl hl (by decide) rfl (fun ls hl => ?_)
  refine jx_loop (σ := (Int32) × (Nat) × (Unit)) (fun x H locs ls => H = s.heap ∧ locs = [] ∧ lv_has ls 2 [(0, .int a0), (1, .int x.1)] ∧ (alI a0 x.1 x.2.1)) (fun x => 11 - x.2.1) ((0 : Int32), 0, ()) ⟨rfl, rfl, lv_sub hl [1, 0] rfl, (show alI a0 (0 : Int32) 0 from ⟨rfl, by omega, rfl⟩)⟩ ?_
  intro x H locs ls hI ih
  obtain ⟨ii, kk, ux⟩ := x
  obtain ⟨rfl, rfl, hl, hp⟩ := hI
  have hl : lv_has ls 2 [(0, .int a0), (1, .int ii)] := hl
  have hp : alI a0 ii kk := hp
  refine lv_iload_n hx hb dX2_isAllowed_2 rfl (lv_at hl 1 rfl) ?_
  refine va_gets hx hb hX.2.1 hS hown hk131 (fun _ h9 => h9) dX2_isAllowed_3 ?_
  refine va_tlen (v := 11) hx hb hX.2.2 hS rfl dX2_isAllowed_6 ?_
  refine lv_icmp_ge (tgt := 27) hx hb dX2_isAllowed_7 (by decide) (fun c_1 => ?_) (fun c_1 => ?_)
  · skip
    refine lv_iconst (v := 0) hx hb dX2_isAllowed_27 (by decide) ?_
    have hq : (sX2_isAllowed a0) = (0 : Int32) := (alI_end hp c_1)
    exact jx_szret hx hb hr hlocks hq.symm (Or.inl rfl) dX2_isAllowed_28
  · skip
    refine va_gets hx hb hX.2.1 hS hown hk131 (fun _ h9 => h9) dX2_isAllowed_10 ?_
    refine lv_iload_n hx hb dX2_isAllowed_13 rfl (lv_at hl 1 rfl) ?_
    refine va_ti hx hb hX.2.2 hS (alI_in hp c_1) rfl dX2_isAllowed_14 ?_
    refine lv_iload_n hx hb dX2_isAllowed_15 rfl (lv_at hl 0 rfl) ?_
    refine lv_icmp_ne (tgt := 21) hx hb dX2_isAllowed_16 (by decide) (fun c_2 => ?_) (fun c_2 => ?_)
    · skip
      obtain ⟨v_3, ev_3⟩ : ∃ y : Int32, y = ii + (1 : Int32) := ⟨_, rfl⟩
      refine lv_iinc (v := v_3) (lv' := [(1, .int v_3), (0, .int a0)]) hx hb dX2_isAllowed_21 hl (k := 1) rfl (by rw [ev_3]; rfl) (by decide) rfl (fun ls hl => ?_)
      refine lv_goto (tgt := 2) hx hb dX2_isAllowed_24 (by decide) ?_
      exact ih (v_3, kk + 1, ()) _ _ _ ⟨rfl, rfl, lv_sub hl [1, 0] rfl, (show alI a0 v_3 (kk + 1) from (by clear hP hD hl; have z_ := ev_3.symm; clear ev_3; subst z_; exact (alI_step hp c_1 c_2).1))⟩ (show 11 - (kk + 1) < 11 - kk from (by clear hP hD hl; have z_ := ev_3.symm; clear ev_3; subst z_; exact (alI_step hp c_1 c_2).2))
    · skip
      refine lv_iconst (v := 1) hx hb dX2_isAllowed_19 (by decide) ?_
      have hq : (sX2_isAllowed a0) = (1 : Int32) := (alI_hit hp c_1 c_2)
      exact jx_szret hx hb hr hlocks hq.symm (Or.inr rfl) dX2_isAllowed_20

def rdF (I0 f : Nat → Int32) (b : Int32) : Nat → Int32 → Int32 → Int32 × Int32
  | 0, p, v => (p, v)
  | n + 1, p, v => if sX2_digitOf (sX5_charOf I0 f p) < 0 then (p, v) else if sX2_digitOf (sX5_charOf I0 f p) < b then rdF I0 f b n (p + 1) (if 16777215 < v * b + sX2_digitOf (sX5_charOf I0 f p) then 16777215 else v * b + sX2_digitOf (sX5_charOf I0 f p)) else (p, v)
def sX2_readDigits (I I0 f0_0 : Nat → Int32) (a0 a1 : Int32) : Int32 × (Nat → Int32) :=
  if (rdF I0 f0_0 a0 a1.toNatClampNeg (I 2) 0).1 = I 2 then ((rdF I0 f0_0 a0 a1.toNatClampNeg (I 2) 0).2, sX2_faultAt (upd I 2 (rdF I0 f0_0 a0 a1.toNatClampNeg (I 2) 0).1) (rdF I0 f0_0 a0 a1.toNatClampNeg (I 2) 0).1) else ((rdF I0 f0_0 a0 a1.toNatClampNeg (I 2) 0).2, upd I 2 (rdF I0 f0_0 a0 a1.toNatClampNeg (I 2) 0).1)
theorem jx_clk {a : Int32} {k : Nat} (hk : k ≤ a.toNatClampNeg) : a ≤ nI k ↔ k = a.toNatClampNeg := by
  obtain ⟨r1, r2⟩ := jx_rg32 a
  have e : a.toNatClampNeg = a.toInt.toNat := rfl
  rw [Int32.le_iff_toInt_le, nI_toInt (by omega)]; omega
def rdI (I I0 f : Nat → Int32) (b a1 : Int32) (kk : Nat) (ii vv : Int32) (J : Nat → Int32) : Prop := (∀ k, k ≠ 2 → J k = I k) ∧ ii = nI kk ∧ kk ≤ a1.toNatClampNeg ∧ rdF I0 f b (a1.toNatClampNeg - kk) (J 2) vv = rdF I0 f b a1.toNatClampNeg (I 2) 0
section RDI
variable {I I0 f : Nat → Int32} {b a1 : Int32} {kk : Nat} {ii vv : Int32} {J : Nat → Int32}
theorem rdI_lt (h : rdI I I0 f b a1 kk ii vv J) (c : ¬ a1 ≤ ii) : a1.toNatClampNeg - kk = (a1.toNatClampNeg - (kk + 1)) + 1 := by
  obtain ⟨h0, h1, h2, h3⟩ := h
  rw [h1, jx_clk h2] at c; omega
theorem upd_of {I J : Nat → Int32} {k : Nat} (h : ∀ j, j ≠ k → J j = I j) : upd I k (J k) = J := by
  funext j
  by_cases hj : j = k
  · subst hj; exact pk_us
  · rw [pk_un hj, h j hj]
theorem rdI_q (h : rdI I I0 f b a1 kk ii vv J) (hq : rdF I0 f b a1.toNatClampNeg (I 2) 0 = (J 2, vv)) : sX2_readDigits I I0 f b a1 = if J 2 = I 2 then (vv, sX2_faultAt J (J 2)) else (vv, J) := by
  rw [sX2_readDigits, hq, upd_of h.1]
theorem rdI_out (h : rdI I I0 f b a1 kk ii vv J) (c : a1 ≤ ii) : sX2_readDigits I I0 f b a1 = if J 2 = I 2 then (vv, sX2_faultAt J (J 2)) else (vv, J) := by
  refine rdI_q h ?_
  obtain ⟨h0, h1, h2, h3⟩ := h
  rw [h1, jx_clk h2] at c
  rw [← h3, c, Nat.sub_self]; rfl
theorem rdI_neg (h : rdI I I0 f b a1 kk ii vv J) (c : ¬ a1 ≤ ii) (c2 : sX2_digitOf (sX5_charOf I0 f (J 2)) < 0) : sX2_readDigits I I0 f b a1 = if J 2 = I 2 then (vv, sX2_faultAt J (J 2)) else (vv, J) := by
  refine rdI_q h ?_
  rw [← h.2.2.2, rdI_lt h c, rdF, if_pos c2]
theorem rdI_big (h : rdI I I0 f b a1 kk ii vv J) (c : ¬ a1 ≤ ii) (c2 : ¬ sX2_digitOf (sX5_charOf I0 f (J 2)) < 0) (c3 : ¬ sX2_digitOf (sX5_charOf I0 f (J 2)) < b) : sX2_readDigits I I0 f b a1 = if J 2 = I 2 then (vv, sX2_faultAt J (J 2)) else (vv, J) := by
  refine rdI_q h ?_
  rw [← h.2.2.2, rdI_lt h c, rdF, if_neg c2, if_neg c3]
theorem rdI_step (h : rdI I I0 f b a1 kk ii vv J) (c : ¬ a1 ≤ ii) (c2 : ¬ sX2_digitOf (sX5_charOf I0 f (J 2)) < 0) (c3 : sX2_digitOf (sX5_charOf I0 f (J 2)) < b) : rdI I I0 f b a1 (kk + 1) (ii + 1) (if 16777215 < vv * b + sX2_digitOf (sX5_charOf I0 f (J 2)) then 16777215 else vv * b + sX2_digitOf (sX5_charOf I0 f (J 2))) (upd J 2 (J 2 + 1)) ∧ a1.toNatClampNeg - (kk + 1) < a1.toNatClampNeg - kk := by
  have h5 := rdI_lt h c
  obtain ⟨h0, h1, h2, h3⟩ := h
  refine ⟨⟨fun k hk => by rw [pk_un hk]; exact h0 k hk, by rw [h1]; exact nI_1 kk, by omega, ?_⟩, by omega⟩
  rw [← h3, h5, pk_us, rdF.eq_def _ _ _ (_ + 1)]
  simp only [if_neg c2, if_pos c3]
end RDI
theorem fa_keep (I : Nat → Int32) (a : Int32) {k : Nat} (hk : k ≠ 3) : sX2_faultAt I a k = I k := by
  unfold sX2_faultAt; split
  · exact pk_un hk
  · rfl
theorem rd_keep (I I0 f : Nat → Int32) (a b : Int32) {k : Nat} (h2 : k ≠ 2) (h3 : k ≠ 3) : (sX2_readDigits I I0 f a b).2 k = I k := by
  unfold sX2_readDigits; split
  · show sX2_faultAt _ _ k = _
    rw [fa_keep _ _ h3, pk_un h2]
  · exact pk_un h2
set_option maxRecDepth 20000 in
theorem iX2_readDigits_2 : ∀ w ∈ wsX20, w ∈ wsX2_readDigits := by decide +kernel
set_option maxHeartbeats 4000000 in
set_option maxRecDepth 100000 in
theorem kX2_readDigits (l : Launch) (D : va_G) (cI cJ cZ cD : ClassId) (tA : Nat) (h : Nat) (R : Nat → Nat) (I : Nat → Int32) (L : Nat → Int64) (R0 : Nat → Nat) (I0 : Nat → Int32) (L0 : Nat → Int64) (f0_0 : Nat → Int32) (a0 : Int32) (a1 : Int32) (hs : (I0 1).toInt ≤ 160) : jx_M l yX2_readDigits wsX2_readDigits ({ frames := 1, cells := 0, slots := 0, locals := 21 }) D (jT cI cJ cZ cD) tA [.ref h, .int a0, .int a1] [(h, .inr (2, (oX2 R I L))), ((R 0), .inr (5, (oX5 R0 I0 L0))), ((R0 0), .inl (cI, 160, .inl f0_0))] (jx_Qi D (jT cI cJ cZ cD) (fun r (_ : Unit) => r = (sX2_readDigits I I0 f0_0 a0 a1).1) (fun _ => [(h, .inr (2, (oX2 R (sX2_readDigits I I0 f0_0 a0 a1).2 L))), ((R 0), .inr (5, (oX5 R0 I0 L0))), ((R0 0), .inl (cI, 160, .inl f0_0))])) := by
  refine jx_of (cc := cX2_readDigits) (maxL := 7) (ret := (some .int)) (by decide +kernel) rfl (Nat.le_of_ble_eq_true rfl) ?_
  intro p e s m below meth c A ls hx hb hr hlocks hml hown hts hK hP hD hA hS hX hl
  have hl : lv_has ls 7 [(0, .ref h), (1, .int a0), (2, .int a1)] := hl
  have hown : s.vm.findClass RX2 = some m.cls := hown
  have hk12 := hts (.fieldLink RX2 12 "LoomDesk$Reader" "tape" "LLoomDesk$Tape;") (by decide +kernel)
  have hk25 := hts (.fieldLink RX2 25 "LoomDesk$Reader" "pos" "I") (by decide +kernel)
  refine lv_aload_n hx hb dX2_readDigits_0 rfl (lv_at hl 0 rfl) ?_
  refine jx_get (v := .int (I 2)) hx hb hts iX2_readDigits_2 hown hK hP 0 rfl rfl 2 (by decide) hk25 rfl rfl dX2_readDigits_1 ?_
  refine lv_istore_n (lv' := [(3, .int (I 2)), (0, .ref h), (1, .int a0), (2, .int a1)]) hx hb dX2_readDigits_4 rfl hl (by decide) rfl (fun ls hl => ?_)
  refine lv_iconst (v := 0) hx hb dX2_readDigits_5 (by decide) ?_
  refine lv_istore (lv' := [(4, .int (0 : Int32)), (3, .int (I 2)), (0, .ref h), (1, .int a0), (2, .int a1)]) hx hb dX2_readDigits_6 hl (by decide) rfl (fun ls hl => ?_)
  refine lv_iconst (v := 0) hx hb dX2_readDigits_8 (by decide) ?_
  refine lv_istore (lv' := [(5, .int (0 : Int32)), (4, .int (0 : Int32)), (3, .int (I 2)), (0, .ref h), (1, .int a0), (2, .int a1)]) hx hb dX2_readDigits_9 hl (by decide) rfl (fun ls hl => ?_)
  refine jx_loop (σ := (Int32) × (Int32) × ((Nat → Int32)) × (Nat) × (Unit)) (fun x H locs ls => va_P D vwCl [(h, .inr (2, (oX2 R x.2.2.1 L))), ((R 0), .inr (5, (oX5 R0 I0 L0))), ((R0 0), .inl (cI, 160, .inl f0_0))] H ∧ va_D A [(h, .inr (2, (oX2 R x.2.2.1 L))), ((R 0), .inr (5, (oX5 R0 I0 L0))), ((R0 0), .inl (cI, 160, .inl f0_0))] ∧ va_S A s.heap H locs ∧ lv_has ls 7 [(0, .ref h), (1, .int a0), (2, .int a1), (3, .int (I 2)), (4, .int x.1), (5, .int x.2.1)] ∧ (rdI I I0 f0_0 a0 a1 x.2.2.2.1 x.2.1 x.1 x.2.2.1)) (fun x => a1.toNatClampNeg - x.2.2.2.1) ((0 : Int32), (0 : Int32), I, 0, ()) ⟨hP, hD, hS, lv_sub hl [3, 4, 5, 2, 1, 0] rfl, (show rdI I I0 f0_0 a0 a1 0 (0 : Int32) (0 : Int32) I from ⟨fun _ _ => rfl, rfl, Nat.zero_le _, rfl⟩)⟩ ?_
  intro x H locs ls hI ih
  obtain ⟨vv, ii, J, kk, ux⟩ := x
  obtain ⟨hP, hD, hS, hl, hp⟩ := hI
  have hP : va_P D vwCl [(h, .inr (2, (oX2 R J L))), ((R 0), .inr (5, (oX5 R0 I0 L0))), ((R0 0), .inl (cI, 160, .inl f0_0))] H := hP
  have hD : va_D A [(h, .inr (2, (oX2 R J L))), ((R 0), .inr (5, (oX5 R0 I0 L0))), ((R0 0), .inl (cI, 160, .inl f0_0))] := hD
  have hl : lv_has ls 7 [(0, .ref h), (1, .int a0), (2, .int a1), (3, .int (I 2)), (4, .int vv), (5, .int ii)] := hl
  have hp : rdI I I0 f0_0 a0 a1 kk ii vv J := hp
  refine lv_iload hx hb dX2_readDigits_11 (lv_at hl 5 rfl) ?_
  refine lv_iload_n hx hb dX2_readDigits_13 rfl (lv_at hl 2 rfl) ?_
  refine lv_icmp_ge (tgt := 77) hx hb dX2_readDigits_14 (by decide) (fun c_1 => ?_) (fun c_1 => ?_)
  · skip
    refine lv_aload_n hx hb dX2_readDigits_77 rfl (lv_at hl 0 rfl) ?_
    refine jx_get (v := .int (J 2)) hx hb hts iX2_readDigits_2 hown hK hP 0 rfl rfl 2 (by decide) hk25 rfl rfl dX2_readDigits_78 ?_
    refine lv_iload_n hx hb dX2_readDigits_81 rfl (lv_at hl 3 rfl) ?_
    refine lv_icmp_ne (tgt := 93) hx hb dX2_readDigits_82 (by decide) (fun c_2 => ?_) (fun c_2 => ?_)
    · skip
      refine lv_iload hx hb dX2_readDigits_93 (lv_at hl 4 rfl) ?_
      have hq : (sX2_readDigits I I0 f0_0 a0 a1) = (vv, J) := (by rw [rdI_out hp c_1, if_neg c_2])
      exact jx_iret () hx hb hr hlocks hK hP hD hS (by rw [hq]) (by rw [hq]) dX2_readDigits_95
    · skip
      refine lv_aload_n hx hb dX2_readDigits_85 rfl (lv_at hl 0 rfl) ?_
      refine lv_aload_n hx hb dX2_readDigits_86 rfl (lv_at hl 0 rfl) ?_
      refine jx_get (v := .int (J 2)) hx hb hts iX2_readDigits_2 hown hK hP 0 rfl rfl 2 (by decide) hk25 rfl rfl dX2_readDigits_87 ?_
      refine jx_callv (wc := [(h, .inr (2, (oX2 R J L)))]) (wr := [((R 0), .inr (5, (oX5 R0 I0 L0))), ((R0 0), .inl (cI, 160, .inl f0_0))]) hP hD hS hA hK [0] [1, 2] rfl rfl (by decide) (by decide) (by decide) (fun hPc hDc hF => jx_runV (As := [.int (J 2)]) (rest := []) (n := 1) (ci := 2) (q0 := 0) hx hb hml hown hts hK hX hS hl.1 (kX2_faultAt l D cI cJ cZ cD tA h R J L (J 2)) gX2_readDigits_X2_faultAt rfl rfl rfl (by decide +kernel) ⟨Nat.le_of_ble_eq_true rfl, Nat.le_of_ble_eq_true rfl⟩ rfl rfl rfl rfl rfl (Nat.le_of_ble_eq_true rfl) dX2_readDigits_90 ⟨Nat.zero_le _, Nat.zero_le _⟩ hPc hDc hF) (fun u H locs hw hP hD hS => ?_)
      obtain ⟨I_4, eI_4⟩ : ∃ x : (Nat → Int32), x = (sX2_faultAt J (J 2)) := ⟨_, rfl⟩
      have hP : va_P D vwCl [((R 0), .inr (5, (oX5 R0 I0 L0))), ((R0 0), .inl (cI, 160, .inl f0_0)), (h, .inr (2, (oX2 R I_4 L)))] H := by rw [eI_4]; exact hP
      have hD : va_D A [((R 0), .inr (5, (oX5 R0 I0 L0))), ((R0 0), .inl (cI, 160, .inl f0_0)), (h, .inr (2, (oX2 R I_4 L)))] := by rw [eI_4]; exact hD
      refine lv_iload hx hb dX2_readDigits_93 (lv_at hl 4 rfl) ?_
      have hq : (sX2_readDigits I I0 f0_0 a0 a1) = (vv, I_4) := (by clear hP hD hl; have z_ := eI_4.symm; clear eI_4; subst z_; rw [rdI_out hp c_1, if_pos c_2])
      exact jx_iret () hx hb hr hlocks hK (hP.sub (ws' := [(h, .inr (2, (oX2 R I_4 L))), ((R 0), .inr (5, (oX5 R0 I0 L0))), ((R0 0), .inl (cI, 160, .inl f0_0))]) [2, 0, 1] rfl) (hD.sub (ws' := [(h, .inr (2, (oX2 R I_4 L))), ((R 0), .inr (5, (oX5 R0 I0 L0))), ((R0 0), .inl (cI, 160, .inl f0_0))]) [2, 0, 1] (by decide) rfl) hS (by rw [hq]) (by rw [hq]) dX2_readDigits_95
  · skip
    refine lv_aload_n hx hb dX2_readDigits_17 rfl (lv_at hl 0 rfl) ?_
    refine jx_get (v := .ref (R 0)) hx hb hts iX2_readDigits_2 hown hK hP 0 rfl rfl 0 (by decide) hk12 rfl rfl dX2_readDigits_18 ?_
    refine lv_aload_n hx hb dX2_readDigits_21 rfl (lv_at hl 0 rfl) ?_
    refine jx_get (v := .int (J 2)) hx hb hts iX2_readDigits_2 hown hK hP 0 rfl rfl 2 (by decide) hk25 rfl rfl dX2_readDigits_22 ?_
    refine jx_pcalli (wc := [((R 0), .inr (5, (oX5 R0 I0 L0))), ((R0 0), .inl (cI, 160, .inl f0_0))]) hP hD hS hA [1, 2] rfl (by decide) (fun hPc hDc hF => jx_runVs (As := [.int (J 2)]) (rest := []) (n := 1) (ci := 5) (q0 := 0) hx hb hml hown hts hK hX hS hl.1 (kX5_charOf l D cI cJ cZ cD tA (R 0) R0 I0 L0 f0_0 (J 2) hs) gX2_readDigits_X5_charOf rfl rfl rfl (by decide +kernel) ⟨Nat.le_of_ble_eq_true rfl, Nat.le_of_ble_eq_true rfl⟩ rfl rfl rfl rfl rfl (Nat.le_of_ble_eq_true rfl) dX2_readDigits_25 ⟨Nat.zero_le _, Nat.zero_le _⟩ hPc hDc hF) (fun r_5 er_5 => ?_)
    have er_5 : r_5 = (sX5_charOf I0 f0_0 (J 2)) := er_5
    refine jx_pcalli (wc := []) hP hD hS hA [] rfl (by decide) (fun hPc hDc hF => jx_runSs (As := [.int r_5]) (rest := []) (n := 1) hx hb hml hown hts hK hX hS hl.1 (kX2_digitOf l D cI cJ cZ cD tA r_5) gX2_readDigits_X2_digitOf rfl rfl rfl (by decide +kernel) ⟨Nat.le_of_ble_eq_true rfl, Nat.le_of_ble_eq_true rfl⟩ rfl rfl (Nat.le_of_ble_eq_true rfl) dX2_readDigits_28 ⟨Nat.zero_le _, Nat.zero_le _⟩ hPc hDc hF) (fun r_6 er_6 => ?_)
    have er_6 : r_6 = (sX2_digitOf r_5) := er_6
    refine lv_istore (lv' := [(6, .int r_6), (0, .ref h), (1, .int a0), (2, .int a1), (3, .int (I 2)), (4, .int vv), (5, .int ii)]) hx hb dX2_readDigits_31 hl (by decide) rfl (fun ls hl => ?_)
    refine lv_iload hx hb dX2_readDigits_33 (lv_at hl 0 rfl) ?_
    refine lv_if_lt (tgt := 77) hx hb dX2_readDigits_35 (by decide) (fun c_7 => ?_) (fun c_7 => ?_)
    · skip
      refine lv_aload_n hx hb dX2_readDigits_77 rfl (lv_at hl 1 rfl) ?_
      refine jx_get (v := .int (J 2)) hx hb hts iX2_readDigits_2 hown hK hP 0 rfl rfl 2 (by decide) hk25 rfl rfl dX2_readDigits_78 ?_
      refine lv_iload_n hx hb dX2_readDigits_81 rfl (lv_at hl 4 rfl) ?_
      refine lv_icmp_ne (tgt := 93) hx hb dX2_readDigits_82 (by decide) (fun c_8 => ?_) (fun c_8 => ?_)
      · skip
        refine lv_iload hx hb dX2_readDigits_93 (lv_at hl 5 rfl) ?_
        have hq : (sX2_readDigits I I0 f0_0 a0 a1) = (vv, J) := (by clear hP hD hl; have z_ := er_6.symm; clear er_6; subst z_; have z_ := er_5.symm; clear er_5; subst z_; rw [rdI_neg hp c_1 c_7, if_neg c_8])
        exact jx_iret () hx hb hr hlocks hK hP hD hS (by rw [hq]) (by rw [hq]) dX2_readDigits_95
      · skip
        refine lv_aload_n hx hb dX2_readDigits_85 rfl (lv_at hl 1 rfl) ?_
        refine lv_aload_n hx hb dX2_readDigits_86 rfl (lv_at hl 1 rfl) ?_
        refine jx_get (v := .int (J 2)) hx hb hts iX2_readDigits_2 hown hK hP 0 rfl rfl 2 (by decide) hk25 rfl rfl dX2_readDigits_87 ?_
        refine jx_callv (wc := [(h, .inr (2, (oX2 R J L)))]) (wr := [((R 0), .inr (5, (oX5 R0 I0 L0))), ((R0 0), .inl (cI, 160, .inl f0_0))]) hP hD hS hA hK [0] [1, 2] rfl rfl (by decide) (by decide) (by decide) (fun hPc hDc hF => jx_runV (As := [.int (J 2)]) (rest := []) (n := 1) (ci := 2) (q0 := 0) hx hb hml hown hts hK hX hS hl.1 (kX2_faultAt l D cI cJ cZ cD tA h R J L (J 2)) gX2_readDigits_X2_faultAt rfl rfl rfl (by decide +kernel) ⟨Nat.le_of_ble_eq_true rfl, Nat.le_of_ble_eq_true rfl⟩ rfl rfl rfl rfl rfl (Nat.le_of_ble_eq_true rfl) dX2_readDigits_90 ⟨Nat.zero_le _, Nat.zero_le _⟩ hPc hDc hF) (fun u H locs hw hP hD hS => ?_)
        obtain ⟨I_10, eI_10⟩ : ∃ x : (Nat → Int32), x = (sX2_faultAt J (J 2)) := ⟨_, rfl⟩
        have hP : va_P D vwCl [((R 0), .inr (5, (oX5 R0 I0 L0))), ((R0 0), .inl (cI, 160, .inl f0_0)), (h, .inr (2, (oX2 R I_10 L)))] H := by rw [eI_10]; exact hP
        have hD : va_D A [((R 0), .inr (5, (oX5 R0 I0 L0))), ((R0 0), .inl (cI, 160, .inl f0_0)), (h, .inr (2, (oX2 R I_10 L)))] := by rw [eI_10]; exact hD
        refine lv_iload hx hb dX2_readDigits_93 (lv_at hl 5 rfl) ?_
        have hq : (sX2_readDigits I I0 f0_0 a0 a1) = (vv, I_10) := (by clear hP hD hl; have z_ := eI_10.symm; clear eI_10; subst z_; have z_ := er_6.symm; clear er_6; subst z_; have z_ := er_5.symm; clear er_5; subst z_; rw [rdI_neg hp c_1 c_7, if_pos c_8])
        exact jx_iret () hx hb hr hlocks hK (hP.sub (ws' := [(h, .inr (2, (oX2 R I_10 L))), ((R 0), .inr (5, (oX5 R0 I0 L0))), ((R0 0), .inl (cI, 160, .inl f0_0))]) [2, 0, 1] rfl) (hD.sub (ws' := [(h, .inr (2, (oX2 R I_10 L))), ((R 0), .inr (5, (oX5 R0 I0 L0))), ((R0 0), .inl (cI, 160, .inl f0_0))]) [2, 0, 1] (by decide) rfl) hS (by rw [hq]) (by rw [hq]) dX2_readDigits_95
    · skip
      refine lv_iload hx hb dX2_readDigits_38 (lv_at hl 0 rfl) ?_
      refine lv_iload_n hx hb dX2_readDigits_40 rfl (lv_at hl 2 rfl) ?_
      refine lv_icmp_lt (tgt := 47) hx hb dX2_readDigits_41 (by decide) (fun c_11 => ?_) (fun c_11 => ?_)
      · skip
        refine lv_iload hx hb dX2_readDigits_47 (lv_at hl 5 rfl) ?_
        refine lv_iload_n hx hb dX2_readDigits_49 rfl (lv_at hl 2 rfl) ?_
        refine lv_imul hx hb dX2_readDigits_50 ?_
        refine lv_iload hx hb dX2_readDigits_51 (lv_at hl 0 rfl) ?_
        refine lv_iadd hx hb dX2_readDigits_53 ?_
        refine lv_ldc hx hb hown (hts (.constant RX2 128 (16777215)) (by decide +kernel)) dX2_readDigits_54 ?_
        refine va_mmin hx hb (hml.trans hl.1.symm) hown (hts (.methodLink RX2 129 Lib.Math.min.name) (by decide +kernel)) (hts (.static Lib.Math.min.name) (by decide +kernel)) (hts (.initialized "java/lang/Math") (by decide +kernel)) (hts (.code Lib.Math.min.name Lib.Math.min.code 2 (some .int)) (by decide +kernel)) (Nat.le_of_ble_eq_true rfl) (Nat.le_of_ble_eq_true rfl) (Nat.zero_le _) (Nat.zero_le _) dX2_readDigits_56 ?_
        refine lv_topi (fun v_12 ev_12 => ?_)
        refine lv_istore (lv' := [(4, .int v_12), (6, .int r_6), (0, .ref h), (1, .int a0), (2, .int a1), (3, .int (I 2)), (5, .int ii)]) hx hb dX2_readDigits_59 hl (by decide) rfl (fun ls hl => ?_)
        refine lv_aload_n hx hb dX2_readDigits_61 rfl (lv_at hl 2 rfl) ?_
        refine lv_dup hx hb dX2_readDigits_62 rfl ?_
        refine jx_get (v := .int (J 2)) hx hb hts iX2_readDigits_2 hown hK hP 0 rfl rfl 2 (by decide) hk25 rfl rfl dX2_readDigits_63 ?_
        refine lv_iconst (v := 1) hx hb dX2_readDigits_66 (by decide) ?_
        refine lv_iadd hx hb dX2_readDigits_67 ?_
        refine lv_topi (fun v_13 ev_13 => ?_)
        refine jx_put (w2 := [(h, .inr (2, (oX2 R (upd J 2 v_13) L))), ((R 0), .inr (5, (oX5 R0 I0 L0))), ((R0 0), .inl (cI, 160, .inl f0_0))]) hx hb hts iX2_readDigits_2 tyX2 tyX2_ok nmX2 hown hK hP hD hS 0 rfl rfl 2 (by decide) hk25 rfl rfl rfl rfl (Nat.le_of_ble_eq_true rfl) dX2_readDigits_68 rfl (fun H locs hP hD hS => ?_)
        obtain ⟨v_14, ev_14⟩ : ∃ y : Int32, y = ii + (1 : Int32) := ⟨_, rfl⟩
        refine lv_iinc (v := v_14) (lv' := [(5, .int v_14), (4, .int v_12), (6, .int r_6), (0, .ref h), (1, .int a0), (2, .int a1), (3, .int (I 2))]) hx hb dX2_readDigits_71 hl (k := 6) rfl (by rw [ev_14]; rfl) (by decide) rfl (fun ls hl => ?_)
        refine lv_goto (tgt := 11) hx hb dX2_readDigits_74 (by decide) ?_
        exact ih (v_12, v_14, (upd J 2 v_13), kk + 1, ()) _ _ _ ⟨hP, hD, hS, lv_sub hl [3, 4, 5, 6, 1, 0] rfl, (show rdI I I0 f0_0 a0 a1 (kk + 1) v_14 v_12 (upd J 2 v_13) from (by clear hP hD hl; have z_ := ev_14.symm; clear ev_14; subst z_; have z_ := ev_13.symm; clear ev_13; subst z_; have z_ := ev_12.symm; clear ev_12; subst z_; have z_ := er_6.symm; clear er_6; subst z_; have z_ := er_5.symm; clear er_5; subst z_; exact (rdI_step hp c_1 c_7 c_11).1))⟩ (show a1.toNatClampNeg - (kk + 1) < a1.toNatClampNeg - kk from (by clear hP hD hl; have z_ := ev_14.symm; clear ev_14; subst z_; have z_ := ev_13.symm; clear ev_13; subst z_; have z_ := ev_12.symm; clear ev_12; subst z_; have z_ := er_6.symm; clear er_6; subst z_; have z_ := er_5.symm; clear er_5; subst z_; exact (rdI_step hp c_1 c_7 c_11).2))
      · skip
        refine lv_goto (tgt := 77) hx hb dX2_readDigits_44 (by decide) ?_
        refine lv_aload_n hx hb dX2_readDigits_77 rfl (lv_at hl 1 rfl) ?_
        refine jx_get (v := .int (J 2)) hx hb hts iX2_readDigits_2 hown hK hP 0 rfl rfl 2 (by decide) hk25 rfl rfl dX2_readDigits_78 ?_
        refine lv_iload_n hx hb dX2_readDigits_81 rfl (lv_at hl 4 rfl) ?_
        refine lv_icmp_ne (tgt := 93) hx hb dX2_readDigits_82 (by decide) (fun c_15 => ?_) (fun c_15 => ?_)
        · skip
          refine lv_iload hx hb dX2_readDigits_93 (lv_at hl 5 rfl) ?_
          have hq : (sX2_readDigits I I0 f0_0 a0 a1) = (vv, J) := (by clear hP hD hl; have z_ := er_6.symm; clear er_6; subst z_; have z_ := er_5.symm; clear er_5; subst z_; rw [rdI_big hp c_1 c_7 c_11, if_neg c_15])
          exact jx_iret () hx hb hr hlocks hK hP hD hS (by rw [hq]) (by rw [hq]) dX2_readDigits_95
        · skip
          refine lv_aload_n hx hb dX2_readDigits_85 rfl (lv_at hl 1 rfl) ?_
          refine lv_aload_n hx hb dX2_readDigits_86 rfl (lv_at hl 1 rfl) ?_
          refine jx_get (v := .int (J 2)) hx hb hts iX2_readDigits_2 hown hK hP 0 rfl rfl 2 (by decide) hk25 rfl rfl dX2_readDigits_87 ?_
          refine jx_callv (wc := [(h, .inr (2, (oX2 R J L)))]) (wr := [((R 0), .inr (5, (oX5 R0 I0 L0))), ((R0 0), .inl (cI, 160, .inl f0_0))]) hP hD hS hA hK [0] [1, 2] rfl rfl (by decide) (by decide) (by decide) (fun hPc hDc hF => jx_runV (As := [.int (J 2)]) (rest := []) (n := 1) (ci := 2) (q0 := 0) hx hb hml hown hts hK hX hS hl.1 (kX2_faultAt l D cI cJ cZ cD tA h R J L (J 2)) gX2_readDigits_X2_faultAt rfl rfl rfl (by decide +kernel) ⟨Nat.le_of_ble_eq_true rfl, Nat.le_of_ble_eq_true rfl⟩ rfl rfl rfl rfl rfl (Nat.le_of_ble_eq_true rfl) dX2_readDigits_90 ⟨Nat.zero_le _, Nat.zero_le _⟩ hPc hDc hF) (fun u H locs hw hP hD hS => ?_)
          obtain ⟨I_17, eI_17⟩ : ∃ x : (Nat → Int32), x = (sX2_faultAt J (J 2)) := ⟨_, rfl⟩
          have hP : va_P D vwCl [((R 0), .inr (5, (oX5 R0 I0 L0))), ((R0 0), .inl (cI, 160, .inl f0_0)), (h, .inr (2, (oX2 R I_17 L)))] H := by rw [eI_17]; exact hP
          have hD : va_D A [((R 0), .inr (5, (oX5 R0 I0 L0))), ((R0 0), .inl (cI, 160, .inl f0_0)), (h, .inr (2, (oX2 R I_17 L)))] := by rw [eI_17]; exact hD
          refine lv_iload hx hb dX2_readDigits_93 (lv_at hl 5 rfl) ?_
          have hq : (sX2_readDigits I I0 f0_0 a0 a1) = (vv, I_17) := (by clear hP hD hl; have z_ := eI_17.symm; clear eI_17; subst z_; have z_ := er_6.symm; clear er_6; subst z_; have z_ := er_5.symm; clear er_5; subst z_; rw [rdI_big hp c_1 c_7 c_11, if_pos c_15])
          exact jx_iret () hx hb hr hlocks hK (hP.sub (ws' := [(h, .inr (2, (oX2 R I_17 L))), ((R 0), .inr (5, (oX5 R0 I0 L0))), ((R0 0), .inl (cI, 160, .inl f0_0))]) [2, 0, 1] rfl) (hD.sub (ws' := [(h, .inr (2, (oX2 R I_17 L))), ((R 0), .inr (5, (oX5 R0 I0 L0))), ((R0 0), .inl (cI, 160, .inl f0_0))]) [2, 0, 1] (by decide) rfl) hS (by rw [hq]) (by rw [hq]) dX2_readDigits_95

