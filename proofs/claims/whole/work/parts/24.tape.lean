def sX5_charOf (I : Nat → Int32) (f0 : Nat → Int32) (a0 : Int32) : Int32 := (if a0 < 0 then (-1 : Int32) else (if (I 1) ≤ a0 then (-1 : Int32) else (f0 a0.toNatClampNeg)))
set_option maxRecDepth 20000 in
theorem iX5_charOf_5 : ∀ w ∈ wsX50, w ∈ wsX5_charOf := by decide +kernel
set_option maxHeartbeats 4000000 in
set_option maxRecDepth 100000 in
theorem kX5_charOf (l : Launch) (D : va_G) (cI cJ cZ cD : ClassId) (tA : Nat) (h : Nat) (R : Nat → Nat) (I : Nat → Int32) (L : Nat → Int64) (f0 : Nat → Int32) (a0 : Int32) (hs : (I 1).toInt ≤ 160) : jx_Ms l yX5_charOf wsX5_charOf ({ frames := 0, cells := 0, slots := 0, locals := 0 }) D (jT cI cJ cZ cD) tA [.ref h, .int a0] [(h, .inr (5, (oX5 R I L))), ((R 0), .inl (cI, 160, .inl f0))] (vp_Si (fun r => r = (sX5_charOf I f0 a0))) := by
  refine jx_ofs (cc := cX5_charOf) (maxL := 2) (ret := (some .int)) (by decide +kernel) rfl (Nat.le_of_ble_eq_true rfl) ?_
  intro p e s m below meth c A ls hx hb hr hlocks hml hown hts hK hP hD hA hS hX hl
  have hl : lv_has ls 2 [(0, .ref h), (1, .int a0)] := hl
  have hown : s.vm.findClass RX5 = some m.cls := hown
  have hk11 := hts (.fieldLink RX5 11 "LoomDesk$Tape" "chars" "[I") (by decide +kernel)
  have hk15 := hts (.fieldLink RX5 15 "LoomDesk$Tape" "size" "I") (by decide +kernel)
  refine lv_iload_n hx hb dX5_charOf_0 rfl (lv_at hl 1 rfl) ?_
  refine lv_if_lt (tgt := 21) hx hb dX5_charOf_1 (by decide) (fun c_1 => ?_) (fun c_1 => ?_)
  · skip
    refine lv_iconst (v := -1) hx hb dX5_charOf_21 (by decide) ?_
    have hq : (sX5_charOf I f0 a0) = (-1 : Int32) := by unfold sX5_charOf; exact (if_pos c_1)
    exact jx_siret hx hb hr hlocks hq.symm dX5_charOf_22
  · skip
    refine lv_iload_n hx hb dX5_charOf_4 rfl (lv_at hl 1 rfl) ?_
    refine lv_aload_n hx hb dX5_charOf_5 rfl (lv_at hl 0 rfl) ?_
    refine jx_get (v := .int (I 1)) hx hb hts iX5_charOf_5 hown hK hP 0 rfl rfl 1 (by decide) hk15 rfl rfl dX5_charOf_6 ?_
    refine lv_icmp_ge (tgt := 21) hx hb dX5_charOf_9 (by decide) (fun c_2 => ?_) (fun c_2 => ?_)
    · skip
      refine lv_iconst (v := -1) hx hb dX5_charOf_21 (by decide) ?_
      have hq : (sX5_charOf I f0 a0) = (-1 : Int32) := by unfold sX5_charOf; exact (if_neg c_1).trans ((if_pos c_2))
      exact jx_siret hx hb hr hlocks hq.symm dX5_charOf_22
    · skip
      refine lv_aload_n hx hb dX5_charOf_12 rfl (lv_at hl 0 rfl) ?_
      refine jx_get (v := .ref (R 0)) hx hb hts iX5_charOf_5 hown hK hP 0 rfl rfl 0 (by decide) hk11 rfl rfl dX5_charOf_13 ?_
      refine lv_iload_n hx hb dX5_charOf_16 rfl (lv_at hl 1 rfl) ?_
      refine va_iald hx hb hK hP 1 0 rfl rfl (jx_inlt c_1 c_2 hs) dX5_charOf_17 ?_
      refine lv_goto (tgt := 22) hx hb dX5_charOf_18 (by decide) ?_
      have hq : (sX5_charOf I f0 a0) = (f0 a0.toNatClampNeg) := by unfold sX5_charOf; exact (if_neg c_1).trans ((if_neg c_2))
      exact jx_siret hx hb hr hlocks hq.symm dX5_charOf_22

def sX5_clear (I : Nat → Int32) : (Nat → Int32) := (upd I 1 (0 : Int32))
set_option maxRecDepth 20000 in
theorem iX5_clear_5 : ∀ w ∈ wsX50, w ∈ wsX5_clear := by decide +kernel
set_option maxHeartbeats 4000000 in
set_option maxRecDepth 100000 in
theorem kX5_clear (l : Launch) (D : va_G) (cI cJ cZ cD : ClassId) (tA : Nat) (h : Nat) (R : Nat → Nat) (I : Nat → Int32) (L : Nat → Int64) : jx_M l yX5_clear wsX5_clear ({ frames := 0, cells := 0, slots := 0, locals := 0 }) D (jT cI cJ cZ cD) tA [.ref h] [(h, .inr (5, (oX5 R I L)))] (jx_Qv D (jT cI cJ cZ cD) (fun (_ : Unit) => True) (fun _ => [(h, .inr (5, (oX5 R (sX5_clear I) L)))])) := by
  refine jx_of (cc := cX5_clear) (maxL := 1) (ret := none) (by decide +kernel) rfl (Nat.le_of_ble_eq_true rfl) ?_
  intro p e s m below meth c A ls hx hb hr hlocks hml hown hts hK hP hD hA hS hX hl
  have hl : lv_has ls 1 [(0, .ref h)] := hl
  have hown : s.vm.findClass RX5 = some m.cls := hown
  have hk15 := hts (.fieldLink RX5 15 "LoomDesk$Tape" "size" "I") (by decide +kernel)
  refine lv_aload_n hx hb dX5_clear_0 rfl (lv_at hl 0 rfl) ?_
  refine lv_iconst (v := 0) hx hb dX5_clear_1 (by decide) ?_
  refine jx_put (w2 := [(h, .inr (5, (oX5 R (upd I 1 (0 : Int32)) L)))]) hx hb hts iX5_clear_5 tyX5 tyX5_ok nmX5 hown hK hP hD hS 0 rfl rfl 1 (by decide) hk15 rfl rfl rfl rfl (Nat.le_of_ble_eq_true rfl) dX5_clear_2 rfl (fun H locs hP hD hS => ?_)
  have hq : (sX5_clear I) = (upd I 1 (0 : Int32)) := rfl
  exact jx_vret () hx hb hr hlocks hK hP hD hS (by rw [hq]) trivial dX5_clear_5

def sX5_byteOf (a0 : Int64) (a1 : Int32) : Int32 := (((a0.toUInt64 >>> (((8 : Int32) * a1).toInt64.toUInt64 &&& Int64.toUInt64 63)).toInt64).toInt32 &&& (255 : Int32))
set_option maxHeartbeats 4000000 in
set_option maxRecDepth 100000 in
theorem kX5_byteOf (l : Launch) (D : va_G) (cI cJ cZ cD : ClassId) (tA : Nat) (a0 : Int64) (a1 : Int32) : jx_Ms l yX5_byteOf wsX5_byteOf ({ frames := 0, cells := 0, slots := 0, locals := 0 }) D (jT cI cJ cZ cD) tA [.long a0, .int a1] [] (vp_Si (fun r => r = (sX5_byteOf a0 a1))) := by
  refine jx_ofs (cc := cX5_byteOf) (maxL := 3) (ret := (some .int)) (by decide +kernel) rfl (Nat.le_of_ble_eq_true rfl) ?_
  intro p e s m below meth c A ls hx hb hr hlocks hml hown hts hK hP hD hA hS hX hl
  have hl : lv_has ls 3 [(0, .long a0), (2, .int a1)] := hl
  have hown : s.vm.findClass RX5 = some m.cls := hown
  refine lv_lload_n hx hb dX5_byteOf_0 rfl (lv_at hl 0 rfl) ?_
  refine lv_bipush (v := 8) hx hb dX5_byteOf_1 (by decide) ?_
  refine lv_iload_n hx hb dX5_byteOf_3 rfl (lv_at hl 1 rfl) ?_
  refine lv_imul hx hb dX5_byteOf_4 ?_
  refine lv_lushr hx hb dX5_byteOf_5 rfl ?_
  refine lv_l2i hx hb dX5_byteOf_6 rfl ?_
  refine lv_sipush (v := 255) hx hb dX5_byteOf_7 (by decide) ?_
  refine lv_iand hx hb dX5_byteOf_10 ?_
  have hq : (sX5_byteOf a0 a1) = (((a0.toUInt64 >>> (((8 : Int32) * a1).toInt64.toUInt64 &&& Int64.toUInt64 63)).toInt64).toInt32 &&& (255 : Int32)) := rfl
  exact jx_siret hx hb hr hlocks hq.symm dX5_byteOf_11

def sX5_add (I : Nat → Int32) (f0 : Nat → Int32) (a0 : Int32) : (Nat → Int32) × (Nat → Int32) := (if (I 1) < 0 then (I, f0) else (if (160 : Int32) ≤ (I 1) then (I, f0) else ((upd I 1 ((I 1) + (1 : Int32))), (upd f0 (I 1).toNatClampNeg a0))))
set_option maxRecDepth 20000 in
theorem iX5_add_5 : ∀ w ∈ wsX50, w ∈ wsX5_add := by decide +kernel
set_option maxHeartbeats 4000000 in
set_option maxRecDepth 100000 in
theorem kX5_add (l : Launch) (D : va_G) (cI cJ cZ cD : ClassId) (tA : Nat) (h : Nat) (R : Nat → Nat) (I : Nat → Int32) (L : Nat → Int64) (f0 : Nat → Int32) (a0 : Int32) : jx_M l yX5_add wsX5_add ({ frames := 0, cells := 0, slots := 0, locals := 0 }) D (jT cI cJ cZ cD) tA [.ref h, .int a0] [(h, .inr (5, (oX5 R I L))), ((R 0), .inl (cI, 160, .inl f0))] (jx_Qv D (jT cI cJ cZ cD) (fun (_ : Unit) => True) (fun _ => [(h, .inr (5, (oX5 R (sX5_add I f0 a0).1 L))), ((R 0), .inl (cI, 160, .inl ((sX5_add I f0 a0).2)))])) := by
  refine jx_of (cc := cX5_add) (maxL := 2) (ret := none) (by decide +kernel) rfl (Nat.le_of_ble_eq_true rfl) ?_
  intro p e s m below meth c A ls hx hb hr hlocks hml hown hts hK hP hD hA hS hX hl
  have hl : lv_has ls 2 [(0, .ref h), (1, .int a0)] := hl
  have hown : s.vm.findClass RX5 = some m.cls := hown
  have hk11 := hts (.fieldLink RX5 11 "LoomDesk$Tape" "chars" "[I") (by decide +kernel)
  have hk15 := hts (.fieldLink RX5 15 "LoomDesk$Tape" "size" "I") (by decide +kernel)
  refine lv_aload_n hx hb dX5_add_0 rfl (lv_at hl 0 rfl) ?_
  refine jx_get (v := .int (I 1)) hx hb hts iX5_add_5 hown hK hP 0 rfl rfl 1 (by decide) hk15 rfl rfl dX5_add_1 ?_
  refine lv_if_lt (tgt := 37) hx hb dX5_add_4 (by decide) (fun c_1 => ?_) (fun c_1 => ?_)
  · skip
    have hq : (sX5_add I f0 a0) = (I, f0) := by unfold sX5_add; exact (if_pos c_1)
    exact jx_vret () hx hb hr hlocks hK hP hD hS (by rw [hq]) trivial dX5_add_37
  · skip
    refine lv_aload_n hx hb dX5_add_7 rfl (lv_at hl 0 rfl) ?_
    refine jx_get (v := .int (I 1)) hx hb hts iX5_add_5 hown hK hP 0 rfl rfl 1 (by decide) hk15 rfl rfl dX5_add_8 ?_
    refine lv_sipush (v := 160) hx hb dX5_add_11 (by decide) ?_
    refine lv_icmp_ge (tgt := 37) hx hb dX5_add_14 (by decide) (fun c_2 => ?_) (fun c_2 => ?_)
    · skip
      have hq : (sX5_add I f0 a0) = (I, f0) := by unfold sX5_add; exact (if_neg c_1).trans ((if_pos c_2))
      exact jx_vret () hx hb hr hlocks hK hP hD hS (by rw [hq]) trivial dX5_add_37
    · skip
      refine lv_aload_n hx hb dX5_add_17 rfl (lv_at hl 0 rfl) ?_
      refine jx_get (v := .ref (R 0)) hx hb hts iX5_add_5 hown hK hP 0 rfl rfl 0 (by decide) hk11 rfl rfl dX5_add_18 ?_
      refine lv_aload_n hx hb dX5_add_21 rfl (lv_at hl 0 rfl) ?_
      refine jx_get (v := .int (I 1)) hx hb hts iX5_add_5 hown hK hP 0 rfl rfl 1 (by decide) hk15 rfl rfl dX5_add_22 ?_
      refine lv_iload_n hx hb dX5_add_25 rfl (lv_at hl 1 rfl) ?_
      refine jx_iast (w2 := [(h, .inr (5, (oX5 R I L))), ((R 0), .inl (cI, 160, .inl (upd f0 (I 1).toNatClampNeg a0)))]) hx hb hK hP hD hS 1 0 rfl rfl (jx_inlt c_1 c_2 (by decide)) dX5_add_26 rfl (fun H locs hP hD hS => ?_)
      refine lv_aload_n hx hb dX5_add_27 rfl (lv_at hl 0 rfl) ?_
      refine lv_dup hx hb dX5_add_28 rfl ?_
      refine jx_get (v := .int (I 1)) hx hb hts iX5_add_5 hown hK hP 0 rfl rfl 1 (by decide) hk15 rfl rfl dX5_add_29 ?_
      refine lv_iconst (v := 1) hx hb dX5_add_32 (by decide) ?_
      refine lv_iadd hx hb dX5_add_33 ?_
      refine lv_topi (fun v_3 ev_3 => ?_)
      refine jx_put (w2 := [(h, .inr (5, (oX5 R (upd I 1 v_3) L))), ((R 0), .inl (cI, 160, .inl (upd f0 (I 1).toNatClampNeg a0)))]) hx hb hts iX5_add_5 tyX5 tyX5_ok nmX5 hown hK hP hD hS 0 rfl rfl 1 (by decide) hk15 rfl rfl rfl rfl (Nat.le_of_ble_eq_true rfl) dX5_add_34 rfl (fun H locs hP hD hS => ?_)
      have hq : (sX5_add I f0 a0) = ((upd I 1 v_3), (upd f0 (I 1).toNatClampNeg a0)) := by clear hP hD hl; have z_ := ev_3.symm; clear ev_3; subst z_; unfold sX5_add; exact (if_neg c_1).trans ((if_neg c_2))
      exact jx_vret () hx hb hr hlocks hK hP hD hS (by rw [hq]) trivial dX5_add_37

