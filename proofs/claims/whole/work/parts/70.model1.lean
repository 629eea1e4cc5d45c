theorem jx_inla {x n : Int32} {N : Nat} (h0 : 0 ≤ x.toInt) (h1 : ¬ n ≤ x) (hn : n.toInt ≤ N) : vp_in x N := vp_in_iff.mpr ⟨h0, by rw [Int32.le_iff_toInt_le] at h1; omega⟩
theorem rec_in {w : Int32} (hw : w = 0 ∨ w = 1) : vp_in (1 - w) 2 := by rcases hw with rfl | rfl <;> (unfold vp_in; decide)
theorem on_in {w x y v : Int32} (hw : w = 0 ∨ w = 1) (hv : v = if x = 0 then (if y = 0 then (-1 : Int32) else (1 : Int32) - w) else w) (hne : ¬ v = (-1 : Int32)) : vp_in v 2 := by
  rw [hv] at hne ⊢
  split at hne
  · split at hne
    · exact absurd rfl hne
    · rename_i h1 h2
      rw [if_pos h1, if_neg h2]; exact rec_in hw
  · rename_i h1
    rw [if_neg h1]; exact jx_in2 hw
def sX7_thrown (I : Nat → Int32) : Int32 := (I 0)
set_option maxRecDepth 20000 in
theorem iX7_thrown_7 : ∀ w ∈ wsX70, w ∈ wsX7_thrown := by decide +kernel
set_option maxHeartbeats 4000000 in
set_option maxRecDepth 100000 in
theorem kX7_thrown (l : Launch) (D : va_G) (cI cJ cZ cD : ClassId) (tA : Nat) (h : Nat) (R : Nat → Nat) (I : Nat → Int32) (L : Nat → Int64) : jx_Ms l yX7_thrown wsX7_thrown ({ frames := 0, cells := 0, slots := 0, locals := 0 }) D (jT cI cJ cZ cD) tA [.ref h] [(h, .inr (7, (oX7 R I L)))] (vp_Si (fun r => r = (sX7_thrown I))) := by
  refine jx_ofs (cc := cX7_thrown) (maxL := 1) (ret := (some .int)) (by decide +kernel) rfl (Nat.le_of_ble_eq_true rfl) ?_
  intro p e s m below meth c A ls hx hb hr hlocks hml hown hts hK hP hD hA hS hX hl
  have hl : lv_has ls 1 [(0, .ref h)] := hl
  have hown : s.vm.findClass RX7 = some m.cls := hown
  have hk74 := hts (.fieldLink RX7 74 "LoomDeskModel" "thrown" "I") (by decide +kernel)
  refine lv_aload_n hx hb dX7_thrown_0 rfl (lv_at hl 0 rfl) ?_
  refine jx_get (v := .int (I 0)) hx hb hts iX7_thrown_7 hown hK hP 0 rfl rfl 0 (by decide) hk74 rfl rfl dX7_thrown_1 ?_
  have hq : (sX7_thrown I) = (I 0) := rfl
  exact jx_siret hx hb hr hlocks hq.symm dX7_thrown_4

def sX7_see (I : Nat → Int32) (f1 : Nat → Int32) : Int32 := (if (I 2) ≤ (I 15) then (-1 : Int32) else (f1 (I 15).toNatClampNeg))
set_option maxRecDepth 20000 in
theorem iX7_see_7 : ∀ w ∈ wsX70, w ∈ wsX7_see := by decide +kernel
set_option maxHeartbeats 4000000 in
set_option maxRecDepth 100000 in
theorem kX7_see (l : Launch) (D : va_G) (cI cJ cZ cD : ClassId) (tA : Nat) (h : Nat) (R : Nat → Nat) (I : Nat → Int32) (L : Nat → Int64) (f1 : Nat → Int32) (ha : 0 ≤ (I 15).toInt) (hs : (I 2).toInt ≤ 160) : jx_Ms l yX7_see wsX7_see ({ frames := 0, cells := 0, slots := 0, locals := 0 }) D (jT cI cJ cZ cD) tA [.ref h] [(h, .inr (7, (oX7 R I L))), ((R 1), .inl (cI, 160, .inl f1))] (vp_Si (fun r => r = (sX7_see I f1))) := by
  refine jx_ofs (cc := cX7_see) (maxL := 1) (ret := (some .int)) (by decide +kernel) rfl (Nat.le_of_ble_eq_true rfl) ?_
  intro p e s m below meth c A ls hx hb hr hlocks hml hown hts hK hP hD hA hS hX hl
  have hl : lv_has ls 1 [(0, .ref h)] := hl
  have hown : s.vm.findClass RX7 = some m.cls := hown
  have hk7 := hts (.fieldLink RX7 7 "LoomDeskModel" "tape" "[I") (by decide +kernel)
  have hk77 := hts (.fieldLink RX7 77 "LoomDeskModel" "typed" "I") (by decide +kernel)
  have hk86 := hts (.fieldLink RX7 86 "LoomDeskModel" "at" "I") (by decide +kernel)
  refine lv_aload_n hx hb dX7_see_0 rfl (lv_at hl 0 rfl) ?_
  refine jx_get (v := .int (I 15)) hx hb hts iX7_see_7 hown hK hP 0 rfl rfl 15 (by decide) hk86 rfl rfl dX7_see_1 ?_
  refine lv_aload_n hx hb dX7_see_4 rfl (lv_at hl 0 rfl) ?_
  refine jx_get (v := .int (I 2)) hx hb hts iX7_see_7 hown hK hP 0 rfl rfl 2 (by decide) hk77 rfl rfl dX7_see_5 ?_
  refine lv_icmp_ge (tgt := 23) hx hb dX7_see_8 (by decide) (fun c_1 => ?_) (fun c_1 => ?_)
  · skip
    refine lv_iconst (v := -1) hx hb dX7_see_23 (by decide) ?_
    have hq : (sX7_see I f1) = (-1 : Int32) := by unfold sX7_see; exact (if_pos c_1)
    exact jx_siret hx hb hr hlocks hq.symm dX7_see_24
  · skip
    refine lv_aload_n hx hb dX7_see_11 rfl (lv_at hl 0 rfl) ?_
    refine jx_get (v := .ref (R 1)) hx hb hts iX7_see_7 hown hK hP 0 rfl rfl 1 (by decide) hk7 rfl rfl dX7_see_12 ?_
    refine lv_aload_n hx hb dX7_see_15 rfl (lv_at hl 0 rfl) ?_
    refine jx_get (v := .int (I 15)) hx hb hts iX7_see_7 hown hK hP 0 rfl rfl 15 (by decide) hk86 rfl rfl dX7_see_16 ?_
    refine va_iald hx hb hK hP 1 0 rfl rfl (jx_inla ha c_1 hs) dX7_see_19 ?_
    refine lv_goto (tgt := 24) hx hb dX7_see_20 (by decide) ?_
    have hq : (sX7_see I f1) = (f1 (I 15).toNatClampNeg) := by unfold sX7_see; exact (if_neg c_1)
    exact jx_siret hx hb hr hlocks hq.symm dX7_see_24

def sX7_digit (a0 : Int32) : Int32 := (if a0 < (48 : Int32) then (if a0 < (97 : Int32) then (99 : Int32) else (if (102 : Int32) < a0 then (99 : Int32) else ((a0 - (97 : Int32)) + (10 : Int32)))) else (if (57 : Int32) < a0 then (if a0 < (97 : Int32) then (99 : Int32) else (if (102 : Int32) < a0 then (99 : Int32) else ((a0 - (97 : Int32)) + (10 : Int32)))) else (a0 - (48 : Int32))))
set_option maxHeartbeats 4000000 in
set_option maxRecDepth 100000 in
theorem kX7_digit (l : Launch) (D : va_G) (cI cJ cZ cD : ClassId) (tA : Nat) (a0 : Int32) : jx_Ms l yX7_digit wsX7_digit ({ frames := 0, cells := 0, slots := 0, locals := 0 }) D (jT cI cJ cZ cD) tA [.int a0] [] (vp_Si (fun r => r = (sX7_digit a0))) := by
  refine jx_ofs (cc := cX7_digit) (maxL := 1) (ret := (some .int)) (by decide +kernel) rfl (Nat.le_of_ble_eq_true rfl) ?_
  intro p e s m below meth c A ls hx hb hr hlocks hml hown hts hK hP hD hA hS hX hl
  have hl : lv_has ls 1 [(0, .int a0)] := hl
  have hown : s.vm.findClass RX7 = some m.cls := hown
  refine lv_iload_n hx hb dX7_digit_0 rfl (lv_at hl 0 rfl) ?_
  refine lv_bipush (v := 48) hx hb dX7_digit_1 (by decide) ?_
  refine lv_icmp_lt (tgt := 19) hx hb dX7_digit_3 (by decide) (fun c_1 => ?_) (fun c_1 => ?_)
  · skip
    refine lv_iload_n hx hb dX7_digit_19 rfl (lv_at hl 0 rfl) ?_
    refine lv_bipush (v := 97) hx hb dX7_digit_20 (by decide) ?_
    refine lv_icmp_lt (tgt := 41) hx hb dX7_digit_22 (by decide) (fun c_2 => ?_) (fun c_2 => ?_)
    · skip
      refine lv_bipush (v := 99) hx hb dX7_digit_41 (by decide) ?_
      have hq : (sX7_digit a0) = (99 : Int32) := by unfold sX7_digit; exact (if_pos c_1).trans ((if_pos c_2))
      exact jx_siret hx hb hr hlocks hq.symm dX7_digit_43
    · skip
      refine lv_iload_n hx hb dX7_digit_25 rfl (lv_at hl 0 rfl) ?_
      refine lv_bipush (v := 102) hx hb dX7_digit_26 (by decide) ?_
      refine lv_icmp_gt (tgt := 41) hx hb dX7_digit_28 (by decide) (fun c_3 => ?_) (fun c_3 => ?_)
      · skip
        refine lv_bipush (v := 99) hx hb dX7_digit_41 (by decide) ?_
        have hq : (sX7_digit a0) = (99 : Int32) := by unfold sX7_digit; exact (if_pos c_1).trans ((if_neg c_2).trans ((if_pos c_3)))
        exact jx_siret hx hb hr hlocks hq.symm dX7_digit_43
      · skip
        refine lv_iload_n hx hb dX7_digit_31 rfl (lv_at hl 0 rfl) ?_
        refine lv_bipush (v := 97) hx hb dX7_digit_32 (by decide) ?_
        refine lv_isub hx hb dX7_digit_34 ?_
        refine lv_bipush (v := 10) hx hb dX7_digit_35 (by decide) ?_
        refine lv_iadd hx hb dX7_digit_37 ?_
        refine lv_goto (tgt := 43) hx hb dX7_digit_38 (by decide) ?_
        have hq : (sX7_digit a0) = ((a0 - (97 : Int32)) + (10 : Int32)) := by unfold sX7_digit; exact (if_pos c_1).trans ((if_neg c_2).trans ((if_neg c_3)))
        exact jx_siret hx hb hr hlocks hq.symm dX7_digit_43
  · skip
    refine lv_iload_n hx hb dX7_digit_6 rfl (lv_at hl 0 rfl) ?_
    refine lv_bipush (v := 57) hx hb dX7_digit_7 (by decide) ?_
    refine lv_icmp_gt (tgt := 19) hx hb dX7_digit_9 (by decide) (fun c_4 => ?_) (fun c_4 => ?_)
    · skip
      refine lv_iload_n hx hb dX7_digit_19 rfl (lv_at hl 0 rfl) ?_
      refine lv_bipush (v := 97) hx hb dX7_digit_20 (by decide) ?_
      refine lv_icmp_lt (tgt := 41) hx hb dX7_digit_22 (by decide) (fun c_5 => ?_) (fun c_5 => ?_)
      · skip
        refine lv_bipush (v := 99) hx hb dX7_digit_41 (by decide) ?_
        have hq : (sX7_digit a0) = (99 : Int32) := by unfold sX7_digit; exact (if_neg c_1).trans ((if_pos c_4).trans ((if_pos c_5)))
        exact jx_siret hx hb hr hlocks hq.symm dX7_digit_43
      · skip
        refine lv_iload_n hx hb dX7_digit_25 rfl (lv_at hl 0 rfl) ?_
        refine lv_bipush (v := 102) hx hb dX7_digit_26 (by decide) ?_
        refine lv_icmp_gt (tgt := 41) hx hb dX7_digit_28 (by decide) (fun c_6 => ?_) (fun c_6 => ?_)
        · skip
          refine lv_bipush (v := 99) hx hb dX7_digit_41 (by decide) ?_
          have hq : (sX7_digit a0) = (99 : Int32) := by unfold sX7_digit; exact (if_neg c_1).trans ((if_pos c_4).trans ((if_neg c_5).trans ((if_pos c_6))))
          exact jx_siret hx hb hr hlocks hq.symm dX7_digit_43
        · skip
          refine lv_iload_n hx hb dX7_digit_31 rfl (lv_at hl 0 rfl) ?_
          refine lv_bipush (v := 97) hx hb dX7_digit_32 (by decide) ?_
          refine lv_isub hx hb dX7_digit_34 ?_
          refine lv_bipush (v := 10) hx hb dX7_digit_35 (by decide) ?_
          refine lv_iadd hx hb dX7_digit_37 ?_
          refine lv_goto (tgt := 43) hx hb dX7_digit_38 (by decide) ?_
          have hq : (sX7_digit a0) = ((a0 - (97 : Int32)) + (10 : Int32)) := by unfold sX7_digit; exact (if_neg c_1).trans ((if_pos c_4).trans ((if_neg c_5).trans ((if_neg c_6))))
          exact jx_siret hx hb hr hlocks hq.symm dX7_digit_43
    · skip
      refine lv_iload_n hx hb dX7_digit_12 rfl (lv_at hl 0 rfl) ?_
      refine lv_bipush (v := 48) hx hb dX7_digit_13 (by decide) ?_
      refine lv_isub hx hb dX7_digit_15 ?_
      refine lv_goto (tgt := 43) hx hb dX7_digit_16 (by decide) ?_
      have hq : (sX7_digit a0) = (a0 - (48 : Int32)) := by unfold sX7_digit; exact (if_neg c_1).trans ((if_neg c_4))
      exact jx_siret hx hb hr hlocks hq.symm dX7_digit_43

def sX7_item (I : Nat → Int32) (f11 : Nat → Int32) (f12 : Nat → Int32) (f13 : Nat → Int32) (a0 : Int32) (a1 : Int32) : (Nat → Int32) × (Nat → Int32) × (Nat → Int32) × (Nat → Int32) := ((upd I 14 ((I 14) + (1 : Int32))), (upd f11 (I 14).toNatClampNeg a0), (upd f12 (I 14).toNatClampNeg a1), (upd f13 (I 14).toNatClampNeg ((I 14) + (1 : Int32))))
set_option maxRecDepth 20000 in
theorem iX7_item_7 : ∀ w ∈ wsX70, w ∈ wsX7_item := by decide +kernel
set_option maxHeartbeats 4000000 in
set_option maxRecDepth 100000 in
theorem kX7_item (l : Launch) (D : va_G) (cI cJ cZ cD : ClassId) (tA : Nat) (h : Nat) (R : Nat → Nat) (I : Nat → Int32) (L : Nat → Int64) (f11 : Nat → Int32) (f12 : Nat → Int32) (f13 : Nat → Int32) (a0 : Int32) (a1 : Int32) (hi : vp_in (I 14) 160) : jx_M l yX7_item wsX7_item ({ frames := 0, cells := 0, slots := 0, locals := 0 }) D (jT cI cJ cZ cD) tA [.ref h, .int a0, .int a1] [(h, .inr (7, (oX7 R I L))), ((R 11), .inl (cI, 160, .inl f11)), ((R 12), .inl (cI, 160, .inl f12)), ((R 13), .inl (cI, 160, .inl f13))] (jx_Qv D (jT cI cJ cZ cD) (fun (_ : Unit) => True) (fun _ => [(h, .inr (7, (oX7 R (sX7_item I f11 f12 f13 a0 a1).1 L))), ((R 11), .inl (cI, 160, .inl ((sX7_item I f11 f12 f13 a0 a1).2.1))), ((R 12), .inl (cI, 160, .inl ((sX7_item I f11 f12 f13 a0 a1).2.2.1))), ((R 13), .inl (cI, 160, .inl ((sX7_item I f11 f12 f13 a0 a1).2.2.2)))])) := by
  refine jx_of (cc := cX7_item) (maxL := 3) (ret := none) (by decide +kernel) rfl (Nat.le_of_ble_eq_true rfl) ?_
  intro p e s m below meth c A ls hx hb hr hlocks hml hown hts hK hP hD hA hS hX hl
  have hl : lv_has ls 3 [(0, .ref h), (1, .int a0), (2, .int a1)] := hl
  have hown : s.vm.findClass RX7 = some m.cls := hown
  have hk32 := hts (.fieldLink RX7 32 "LoomDeskModel" "newKind" "[I") (by decide +kernel)
  have hk35 := hts (.fieldLink RX7 35 "LoomDeskModel" "newValue" "[I") (by decide +kernel)
  have hk38 := hts (.fieldLink RX7 38 "LoomDeskModel" "newEnd" "[I") (by decide +kernel)
  have hk93 := hts (.fieldLink RX7 93 "LoomDeskModel" "newItems" "I") (by decide +kernel)
  refine lv_aload_n hx hb dX7_item_0 rfl (lv_at hl 0 rfl) ?_
  refine jx_get (v := .ref (R 11)) hx hb hts iX7_item_7 hown hK hP 0 rfl rfl 11 (by decide) hk32 rfl rfl dX7_item_1 ?_
  refine lv_aload_n hx hb dX7_item_4 rfl (lv_at hl 0 rfl) ?_
  refine jx_get (v := .int (I 14)) hx hb hts iX7_item_7 hown hK hP 0 rfl rfl 14 (by decide) hk93 rfl rfl dX7_item_5 ?_
  refine lv_iload_n hx hb dX7_item_8 rfl (lv_at hl 1 rfl) ?_
  refine jx_iast (w2 := [(h, .inr (7, (oX7 R I L))), ((R 11), .inl (cI, 160, .inl (upd f11 (I 14).toNatClampNeg a0))), ((R 12), .inl (cI, 160, .inl f12)), ((R 13), .inl (cI, 160, .inl f13))]) hx hb hK hP hD hS 1 0 rfl rfl hi dX7_item_9 rfl (fun H locs hP hD hS => ?_)
  refine lv_aload_n hx hb dX7_item_10 rfl (lv_at hl 0 rfl) ?_
  refine jx_get (v := .ref (R 12)) hx hb hts iX7_item_7 hown hK hP 0 rfl rfl 12 (by decide) hk35 rfl rfl dX7_item_11 ?_
  refine lv_aload_n hx hb dX7_item_14 rfl (lv_at hl 0 rfl) ?_
  refine jx_get (v := .int (I 14)) hx hb hts iX7_item_7 hown hK hP 0 rfl rfl 14 (by decide) hk93 rfl rfl dX7_item_15 ?_
  refine lv_iload_n hx hb dX7_item_18 rfl (lv_at hl 2 rfl) ?_
  refine jx_iast (w2 := [(h, .inr (7, (oX7 R I L))), ((R 11), .inl (cI, 160, .inl (upd f11 (I 14).toNatClampNeg a0))), ((R 12), .inl (cI, 160, .inl (upd f12 (I 14).toNatClampNeg a1))), ((R 13), .inl (cI, 160, .inl f13))]) hx hb hK hP hD hS 2 0 rfl rfl hi dX7_item_19 rfl (fun H locs hP hD hS => ?_)
  refine lv_aload_n hx hb dX7_item_20 rfl (lv_at hl 0 rfl) ?_
  refine jx_get (v := .ref (R 13)) hx hb hts iX7_item_7 hown hK hP 0 rfl rfl 13 (by decide) hk38 rfl rfl dX7_item_21 ?_
  refine lv_aload_n hx hb dX7_item_24 rfl (lv_at hl 0 rfl) ?_
  refine jx_get (v := .int (I 14)) hx hb hts iX7_item_7 hown hK hP 0 rfl rfl 14 (by decide) hk93 rfl rfl dX7_item_25 ?_
  refine lv_aload_n hx hb dX7_item_28 rfl (lv_at hl 0 rfl) ?_
  refine jx_get (v := .int (I 14)) hx hb hts iX7_item_7 hown hK hP 0 rfl rfl 14 (by decide) hk93 rfl rfl dX7_item_29 ?_
  refine lv_iconst (v := 1) hx hb dX7_item_32 (by decide) ?_
  refine lv_iadd hx hb dX7_item_33 ?_
  refine lv_topi (fun v_1 ev_1 => ?_)
  refine jx_iast (w2 := [(h, .inr (7, (oX7 R I L))), ((R 11), .inl (cI, 160, .inl (upd f11 (I 14).toNatClampNeg a0))), ((R 12), .inl (cI, 160, .inl (upd f12 (I 14).toNatClampNeg a1))), ((R 13), .inl (cI, 160, .inl (upd f13 (I 14).toNatClampNeg v_1)))]) hx hb hK hP hD hS 3 0 rfl rfl hi dX7_item_34 rfl (fun H locs hP hD hS => ?_)
  refine lv_aload_n hx hb dX7_item_35 rfl (lv_at hl 0 rfl) ?_
  refine lv_dup hx hb dX7_item_36 rfl ?_
  refine jx_get (v := .int (I 14)) hx hb hts iX7_item_7 hown hK hP 0 rfl rfl 14 (by decide) hk93 rfl rfl dX7_item_37 ?_
  refine lv_iconst (v := 1) hx hb dX7_item_40 (by decide) ?_
  refine lv_iadd hx hb dX7_item_41 ?_
  refine lv_topi (fun v_2 ev_2 => ?_)
  refine jx_put (w2 := [(h, .inr (7, (oX7 R (upd I 14 v_2) L))), ((R 11), .inl (cI, 160, .inl (upd f11 (I 14).toNatClampNeg a0))), ((R 12), .inl (cI, 160, .inl (upd f12 (I 14).toNatClampNeg a1))), ((R 13), .inl (cI, 160, .inl (upd f13 (I 14).toNatClampNeg v_1)))]) hx hb hts iX7_item_7 tyX7 tyX7_ok nmX7 hown hK hP hD hS 0 rfl rfl 14 (by decide) hk93 rfl rfl rfl rfl (Nat.le_of_ble_eq_true rfl) dX7_item_42 rfl (fun H locs hP hD hS => ?_)
  have hq : (sX7_item I f11 f12 f13 a0 a1) = ((upd I 14 v_2), (upd f11 (I 14).toNatClampNeg a0), (upd f12 (I 14).toNatClampNeg a1), (upd f13 (I 14).toNatClampNeg v_1)) := by clear hP hD hl; have z_ := ev_2.symm; clear ev_2; subst z_; have z_ := ev_1.symm; clear ev_1; subst z_; rfl
  exact jx_vret () hx hb hr hlocks hK hP hD hS (by rw [hq]) trivial dX7_item_45

def sX7_isDensity (a0 : Int32) : Int32 := (if a0 = (20 : Int32) then (1 : Int32) else (if a0 = (25 : Int32) then (1 : Int32) else (if a0 = (40 : Int32) then (1 : Int32) else (if a0 = (50 : Int32) then (1 : Int32) else (if a0 = (80 : Int32) then (1 : Int32) else (if a0 = (100 : Int32) then (1 : Int32) else (if a0 = (125 : Int32) then (1 : Int32) else (if a0 = (160 : Int32) then (1 : Int32) else (if a0 = (200 : Int32) then (1 : Int32) else (if a0 = (250 : Int32) then (1 : Int32) else (if a0 = (400 : Int32) then (1 : Int32) else (0 : Int32))))))))))))
set_option maxHeartbeats 4000000 in
set_option maxRecDepth 100000 in
theorem kX7_isDensity (l : Launch) (D : va_G) (cI cJ cZ cD : ClassId) (tA : Nat) (a0 : Int32) : jx_Ms l yX7_isDensity wsX7_isDensity ({ frames := 0, cells := 0, slots := 0, locals := 0 }) D (jT cI cJ cZ cD) tA [.int a0] [] (vp_Si (fun r => r = (sX7_isDensity a0))) := by
  refine jx_ofs (cc := cX7_isDensity) (maxL := 1) (ret := (some .boolean)) (by decide +kernel) rfl (Nat.le_of_ble_eq_true rfl) ?_
  intro p e s m below meth c A ls hx hb hr hlocks hml hown hts hK hP hD hA hS hX hl
  have hl : lv_has ls 1 [(0, .int a0)] := hl
  have hown : s.vm.findClass RX7 = some m.cls := hown
  refine lv_iload_n hx hb dX7_isDensity_0 rfl (lv_at hl 0 rfl) ?_
  by_cases c_1 : a0 = (20 : Int32)
  · skip
    refine lv_lookup (off := 99) (tgt := 100) hx hb dX7_isDensity_1 (by decide) (by rw [c_1]; rfl) (by decide) ?_
    refine lv_iconst (v := 1) hx hb dX7_isDensity_100 (by decide) ?_
    have hq : (sX7_isDensity a0) = (1 : Int32) := by unfold sX7_isDensity; exact (if_pos c_1)
    exact jx_szret hx hb hr hlocks hq.symm (Or.inr rfl) dX7_isDensity_101
  by_cases c_2 : a0 = (25 : Int32)
  · skip
    refine lv_lookup (off := 99) (tgt := 100) hx hb dX7_isDensity_1 (by decide) (by rw [lv_osw c_1 (by decide), c_2]; rfl) (by decide) ?_
    refine lv_iconst (v := 1) hx hb dX7_isDensity_100 (by decide) ?_
    have hq : (sX7_isDensity a0) = (1 : Int32) := by unfold sX7_isDensity; exact (if_neg c_1).trans ((if_pos c_2))
    exact jx_szret hx hb hr hlocks hq.symm (Or.inr rfl) dX7_isDensity_101
  by_cases c_3 : a0 = (40 : Int32)
  · skip
    refine lv_lookup (off := 99) (tgt := 100) hx hb dX7_isDensity_1 (by decide) (by rw [lv_osw c_1 (by decide), lv_osw c_2 (by decide), c_3]; rfl) (by decide) ?_
    refine lv_iconst (v := 1) hx hb dX7_isDensity_100 (by decide) ?_
    have hq : (sX7_isDensity a0) = (1 : Int32) := by unfold sX7_isDensity; exact (if_neg c_1).trans ((if_neg c_2).trans ((if_pos c_3)))
    exact jx_szret hx hb hr hlocks hq.symm (Or.inr rfl) dX7_isDensity_101
  by_cases c_4 : a0 = (50 : Int32)
  · skip
    refine lv_lookup (off := 99) (tgt := 100) hx hb dX7_isDensity_1 (by decide) (by rw [lv_osw c_1 (by decide), lv_osw c_2 (by decide), lv_osw c_3 (by decide), c_4]; rfl) (by decide) ?_
    refine lv_iconst (v := 1) hx hb dX7_isDensity_100 (by decide) ?_
    have hq : (sX7_isDensity a0) = (1 : Int32) := by unfold sX7_isDensity; exact (if_neg c_1).trans ((if_neg c_2).trans ((if_neg c_3).trans ((if_pos c_4))))
    exact jx_szret hx hb hr hlocks hq.symm (Or.inr rfl) dX7_isDensity_101
  by_cases c_5 : a0 = (80 : Int32)
  · skip
    refine lv_lookup (off := 99) (tgt := 100) hx hb dX7_isDensity_1 (by decide) (by rw [lv_osw c_1 (by decide), lv_osw c_2 (by decide), lv_osw c_3 (by decide), lv_osw c_4 (by decide), c_5]; rfl) (by decide) ?_
    refine lv_iconst (v := 1) hx hb dX7_isDensity_100 (by decide) ?_
    have hq : (sX7_isDensity a0) = (1 : Int32) := by unfold sX7_isDensity; exact (if_neg c_1).trans ((if_neg c_2).trans ((if_neg c_3).trans ((if_neg c_4).trans ((if_pos c_5)))))
    exact jx_szret hx hb hr hlocks hq.symm (Or.inr rfl) dX7_isDensity_101
  by_cases c_6 : a0 = (100 : Int32)
  · skip
    refine lv_lookup (off := 99) (tgt := 100) hx hb dX7_isDensity_1 (by decide) (by rw [lv_osw c_1 (by decide), lv_osw c_2 (by decide), lv_osw c_3 (by decide), lv_osw c_4 (by decide), lv_osw c_5 (by decide), c_6]; rfl) (by decide) ?_
    refine lv_iconst (v := 1) hx hb dX7_isDensity_100 (by decide) ?_
    have hq : (sX7_isDensity a0) = (1 : Int32) := by unfold sX7_isDensity; exact (if_neg c_1).trans ((if_neg c_2).trans ((if_neg c_3).trans ((if_neg c_4).trans ((if_neg c_5).trans ((if_pos c_6))))))
    exact jx_szret hx hb hr hlocks hq.symm (Or.inr rfl) dX7_isDensity_101
  by_cases c_7 : a0 = (125 : Int32)
  · skip
    refine lv_lookup (off := 99) (tgt := 100) hx hb dX7_isDensity_1 (by decide) (by rw [lv_osw c_1 (by decide), lv_osw c_2 (by decide), lv_osw c_3 (by decide), lv_osw c_4 (by decide), lv_osw c_5 (by decide), lv_osw c_6 (by decide), c_7]; rfl) (by decide) ?_
    refine lv_iconst (v := 1) hx hb dX7_isDensity_100 (by decide) ?_
    have hq : (sX7_isDensity a0) = (1 : Int32) := by unfold sX7_isDensity; exact (if_neg c_1).trans ((if_neg c_2).trans ((if_neg c_3).trans ((if_neg c_4).trans ((if_neg c_5).trans ((if_neg c_6).trans ((if_pos c_7)))))))
    exact jx_szret hx hb hr hlocks hq.symm (Or.inr rfl) dX7_isDensity_101
  by_cases c_8 : a0 = (160 : Int32)
  · skip
    refine lv_lookup (off := 99) (tgt := 100) hx hb dX7_isDensity_1 (by decide) (by rw [lv_osw c_1 (by decide), lv_osw c_2 (by decide), lv_osw c_3 (by decide), lv_osw c_4 (by decide), lv_osw c_5 (by decide), lv_osw c_6 (by decide), lv_osw c_7 (by decide), c_8]; rfl) (by decide) ?_
    refine lv_iconst (v := 1) hx hb dX7_isDensity_100 (by decide) ?_
    have hq : (sX7_isDensity a0) = (1 : Int32) := by unfold sX7_isDensity; exact (if_neg c_1).trans ((if_neg c_2).trans ((if_neg c_3).trans ((if_neg c_4).trans ((if_neg c_5).trans ((if_neg c_6).trans ((if_neg c_7).trans ((if_pos c_8))))))))
    exact jx_szret hx hb hr hlocks hq.symm (Or.inr rfl) dX7_isDensity_101
  by_cases c_9 : a0 = (200 : Int32)
  · skip
    refine lv_lookup (off := 99) (tgt := 100) hx hb dX7_isDensity_1 (by decide) (by rw [lv_osw c_1 (by decide), lv_osw c_2 (by decide), lv_osw c_3 (by decide), lv_osw c_4 (by decide), lv_osw c_5 (by decide), lv_osw c_6 (by decide), lv_osw c_7 (by decide), lv_osw c_8 (by decide), c_9]; rfl) (by decide) ?_
    refine lv_iconst (v := 1) hx hb dX7_isDensity_100 (by decide) ?_
    have hq : (sX7_isDensity a0) = (1 : Int32) := by unfold sX7_isDensity; exact (if_neg c_1).trans ((if_neg c_2).trans ((if_neg c_3).trans ((if_neg c_4).trans ((if_neg c_5).trans ((if_neg c_6).trans ((if_neg c_7).trans ((if_neg c_8).trans ((if_pos c_9)))))))))
    exact jx_szret hx hb hr hlocks hq.symm (Or.inr rfl) dX7_isDensity_101
  by_cases c_10 : a0 = (250 : Int32)
  · skip
    refine lv_lookup (off := 99) (tgt := 100) hx hb dX7_isDensity_1 (by decide) (by rw [lv_osw c_1 (by decide), lv_osw c_2 (by decide), lv_osw c_3 (by decide), lv_osw c_4 (by decide), lv_osw c_5 (by decide), lv_osw c_6 (by decide), lv_osw c_7 (by decide), lv_osw c_8 (by decide), lv_osw c_9 (by decide), c_10]; rfl) (by decide) ?_
    refine lv_iconst (v := 1) hx hb dX7_isDensity_100 (by decide) ?_
    have hq : (sX7_isDensity a0) = (1 : Int32) := by unfold sX7_isDensity; exact (if_neg c_1).trans ((if_neg c_2).trans ((if_neg c_3).trans ((if_neg c_4).trans ((if_neg c_5).trans ((if_neg c_6).trans ((if_neg c_7).trans ((if_neg c_8).trans ((if_neg c_9).trans ((if_pos c_10))))))))))
    exact jx_szret hx hb hr hlocks hq.symm (Or.inr rfl) dX7_isDensity_101
  by_cases c_11 : a0 = (400 : Int32)
  · skip
    refine lv_lookup (off := 99) (tgt := 100) hx hb dX7_isDensity_1 (by decide) (by rw [lv_osw c_1 (by decide), lv_osw c_2 (by decide), lv_osw c_3 (by decide), lv_osw c_4 (by decide), lv_osw c_5 (by decide), lv_osw c_6 (by decide), lv_osw c_7 (by decide), lv_osw c_8 (by decide), lv_osw c_9 (by decide), lv_osw c_10 (by decide), c_11]; rfl) (by decide) ?_
    refine lv_iconst (v := 1) hx hb dX7_isDensity_100 (by decide) ?_
    have hq : (sX7_isDensity a0) = (1 : Int32) := by unfold sX7_isDensity; exact (if_neg c_1).trans ((if_neg c_2).trans ((if_neg c_3).trans ((if_neg c_4).trans ((if_neg c_5).trans ((if_neg c_6).trans ((if_neg c_7).trans ((if_neg c_8).trans ((if_neg c_9).trans ((if_neg c_10).trans ((if_pos c_11)))))))))))
    exact jx_szret hx hb hr hlocks hq.symm (Or.inr rfl) dX7_isDensity_101
  refine lv_lookup (off := 101) (tgt := 102) hx hb dX7_isDensity_1 (by decide) (by rw [lv_osw c_1 (by decide), lv_osw c_2 (by decide), lv_osw c_3 (by decide), lv_osw c_4 (by decide), lv_osw c_5 (by decide), lv_osw c_6 (by decide), lv_osw c_7 (by decide), lv_osw c_8 (by decide), lv_osw c_9 (by decide), lv_osw c_10 (by decide), lv_osw c_11 (by decide)]; rfl) (by decide) ?_
  refine lv_iconst (v := 0) hx hb dX7_isDensity_102 (by decide) ?_
  have hq : (sX7_isDensity a0) = (0 : Int32) := by unfold sX7_isDensity; exact (if_neg c_1).trans ((if_neg c_2).trans ((if_neg c_3).trans ((if_neg c_4).trans ((if_neg c_5).trans ((if_neg c_6).trans ((if_neg c_7).trans ((if_neg c_8).trans ((if_neg c_9).trans ((if_neg c_10).trans ((if_neg c_11)))))))))))
  exact jx_szret hx hb hr hlocks hq.symm (Or.inl rfl) dX7_isDensity_103

def sX7_sum (a0 : Int64) (a1 : Int64) : Int64 := (if (a0 + a1) ≤ (1099511627776 : Int64) then (a0 + a1) else (1099511627776 : Int64))
set_option maxHeartbeats 4000000 in
set_option maxRecDepth 100000 in
theorem kX7_sum (l : Launch) (D : va_G) (cI cJ cZ cD : ClassId) (tA : Nat) (a0 : Int64) (a1 : Int64) : jx_Ms l yX7_sum wsX7_sum ({ frames := 0, cells := 0, slots := 0, locals := 0 }) D (jT cI cJ cZ cD) tA [.long a0, .long a1] [] (vp_Sl (fun r => r = (sX7_sum a0 a1))) := by
  refine jx_ofs (cc := cX7_sum) (maxL := 4) (ret := (some .long)) (by decide +kernel) rfl (Nat.le_of_ble_eq_true rfl) ?_
  intro p e s m below meth c A ls hx hb hr hlocks hml hown hts hK hP hD hA hS hX hl
  have hl : lv_has ls 4 [(0, .long a0), (2, .long a1)] := hl
  have hown : s.vm.findClass RX7 = some m.cls := hown
  refine lv_lload_n hx hb dX7_sum_0 rfl (lv_at hl 0 rfl) ?_
  refine lv_lload_n hx hb dX7_sum_1 rfl (lv_at hl 1 rfl) ?_
  refine lv_ladd hx hb dX7_sum_2 ?_
  refine lv_ldc2 hx hb hown (hts (.constantLong RX7 126 (1099511627776)) (by decide +kernel)) dX7_sum_3 ?_
  refine jx_l_le (tgt := 16) hx hb dX7_sum_6 dX7_sum_7 (by decide) (fun c_1 => ?_) (fun c_1 => ?_)
  · skip
    refine lv_lload_n hx hb dX7_sum_16 rfl (lv_at hl 0 rfl) ?_
    refine lv_lload_n hx hb dX7_sum_17 rfl (lv_at hl 1 rfl) ?_
    refine lv_ladd hx hb dX7_sum_18 ?_
    have hq : (sX7_sum a0 a1) = (a0 + a1) := by unfold sX7_sum; exact (if_pos c_1)
    exact jx_slret hx hb hr hlocks hq.symm dX7_sum_19
  · skip
    refine lv_ldc2 hx hb hown (hts (.constantLong RX7 126 (1099511627776)) (by decide +kernel)) dX7_sum_10 ?_
    refine lv_goto (tgt := 19) hx hb dX7_sum_13 (by decide) ?_
    have hq : (sX7_sum a0 a1) = (1099511627776 : Int64) := by unfold sX7_sum; exact (if_neg c_1)
    exact jx_slret hx hb hr hlocks hq.symm dX7_sum_19

def sX7_times (f3 : Nat → Int32) (f4 : Nat → Int32) (f8 : Nat → Int64) (a0 : Int32) : Int64 := (if ((if (f3 a0.toNatClampNeg) = (3 : Int32) then (f4 a0.toNatClampNeg).toInt64 else (2 : Int64)) * (f8 a0.toNatClampNeg)) ≤ (1099511627776 : Int64) then ((if (f3 a0.toNatClampNeg) = (3 : Int32) then (f4 a0.toNatClampNeg).toInt64 else (2 : Int64)) * (f8 a0.toNatClampNeg)) else (1099511627776 : Int64))
set_option maxRecDepth 20000 in
theorem iX7_times_7 : ∀ w ∈ wsX70, w ∈ wsX7_times := by decide +kernel
set_option maxHeartbeats 4000000 in
set_option maxRecDepth 100000 in
theorem kX7_times (l : Launch) (D : va_G) (cI cJ cZ cD : ClassId) (tA : Nat) (h : Nat) (R : Nat → Nat) (I : Nat → Int32) (L : Nat → Int64) (f3 : Nat → Int32) (f4 : Nat → Int32) (f8 : Nat → Int64) (a0 : Int32) (hi : vp_in a0 160) : jx_Ms l yX7_times wsX7_times ({ frames := 0, cells := 0, slots := 0, locals := 0 }) D (jT cI cJ cZ cD) tA [.ref h, .int a0] [(h, .inr (7, (oX7 R I L))), ((R 3), .inl (cI, 160, .inl f3)), ((R 4), .inl (cI, 160, .inl f4)), ((R 8), .inl (cJ, 160, .inr (.inl f8)))] (vp_Sl (fun r => r = (sX7_times f3 f4 f8 a0))) := by
  refine jx_ofs (cc := cX7_times) (maxL := 4) (ret := (some .long)) (by decide +kernel) rfl (Nat.le_of_ble_eq_true rfl) ?_
  intro p e s m below meth c A ls hx hb hr hlocks hml hown hts hK hP hD hA hS hX hl
  have hl : lv_has ls 4 [(0, .ref h), (1, .int a0)] := hl
  have hown : s.vm.findClass RX7 = some m.cls := hown
  have hk13 := hts (.fieldLink RX7 13 "LoomDeskModel" "kind" "[I") (by decide +kernel)
  have hk16 := hts (.fieldLink RX7 16 "LoomDeskModel" "value" "[I") (by decide +kernel)
  have hk28 := hts (.fieldLink RX7 28 "LoomDeskModel" "picks" "[J") (by decide +kernel)
  refine lv_aload_n hx hb dX7_times_0 rfl (lv_at hl 0 rfl) ?_
  refine jx_get (v := .ref (R 3)) hx hb hts iX7_times_7 hown hK hP 0 rfl rfl 3 (by decide) hk13 rfl rfl dX7_times_1 ?_
  refine lv_iload_n hx hb dX7_times_4 rfl (lv_at hl 1 rfl) ?_
  refine va_iald hx hb hK hP 1 0 rfl rfl hi dX7_times_5 ?_
  refine lv_iconst (v := 3) hx hb dX7_times_6 (by decide) ?_
  refine jx_joinl (J := 23) (v := (if (f3 a0.toNatClampNeg) = (3 : Int32) then (f4 a0.toNatClampNeg).toInt64 else (2 : Int64))) (rest := []) (fun key => ?_) ?_
  · skip
    refine lv_icmp_ne (tgt := 20) hx hb dX7_times_7 (by decide) (fun c_1 => ?_) (fun c_1 => ?_)
    · skip
      refine lv_ldc2 hx hb hown (hts (.constantLong RX7 128 (2)) (by decide +kernel)) dX7_times_20 ?_
      rw [if_neg c_1] at key
      exact key
    · skip
      refine lv_aload_n hx hb dX7_times_10 rfl (lv_at hl 0 rfl) ?_
      refine jx_get (v := .ref (R 4)) hx hb hts iX7_times_7 hown hK hP 0 rfl rfl 4 (by decide) hk16 rfl rfl dX7_times_11 ?_
      refine lv_iload_n hx hb dX7_times_14 rfl (lv_at hl 1 rfl) ?_
      refine va_iald hx hb hK hP 2 0 rfl rfl hi dX7_times_15 ?_
      refine lv_i2l hx hb dX7_times_16 rfl ?_
      refine lv_goto (tgt := 23) hx hb dX7_times_17 (by decide) ?_
      rw [if_pos c_1] at key
      exact key
  refine lv_topl (fun v_2 ev_2 => ?_)
  refine lv_aload_n hx hb dX7_times_23 rfl (lv_at hl 0 rfl) ?_
  refine jx_get (v := .ref (R 8)) hx hb hts iX7_times_7 hown hK hP 0 rfl rfl 8 (by decide) hk28 rfl rfl dX7_times_24 ?_
  refine lv_iload_n hx hb dX7_times_27 rfl (lv_at hl 1 rfl) ?_
  refine va_lald hx hb hK hP 3 1 rfl rfl hi dX7_times_28 ?_
  refine lv_lmul hx hb dX7_times_29 ?_
  refine lv_topl (fun v_3 ev_3 => ?_)
  refine lv_lstore_n (lv' := [(2, .long v_3), (0, .ref h), (1, .int a0)]) hx hb dX7_times_30 rfl hl (by decide) rfl (fun ls hl => ?_)
  refine lv_lload_n hx hb dX7_times_31 rfl (lv_at hl 0 rfl) ?_
  refine lv_ldc2 hx hb hown (hts (.constantLong RX7 126 (1099511627776)) (by decide +kernel)) dX7_times_32 ?_
  refine jx_l_le (tgt := 45) hx hb dX7_times_35 dX7_times_36 (by decide) (fun c_4 => ?_) (fun c_4 => ?_)
  · skip
    refine lv_lload_n hx hb dX7_times_45 rfl (lv_at hl 0 rfl) ?_
    have hq : (sX7_times f3 f4 f8 a0) = v_3 := by clear hP hD hl; have z_ := ev_3.symm; clear ev_3; subst z_; have z_ := ev_2.symm; clear ev_2; subst z_; unfold sX7_times; exact (if_pos c_4)
    exact jx_slret hx hb hr hlocks hq.symm dX7_times_46
  · skip
    refine lv_ldc2 hx hb hown (hts (.constantLong RX7 126 (1099511627776)) (by decide +kernel)) dX7_times_39 ?_
    refine lv_goto (tgt := 46) hx hb dX7_times_42 (by decide) ?_
    have hq : (sX7_times f3 f4 f8 a0) = (1099511627776 : Int64) := by clear hP hD hl; have z_ := ev_3.symm; clear ev_3; subst z_; have z_ := ev_2.symm; clear ev_2; subst z_; unfold sX7_times; exact (if_neg c_4)
    exact jx_slret hx hb hr hlocks hq.symm dX7_times_46

def sX7_isBracket (f3 : Nat → Int32) (a0 : Int32) : Int32 := (if (f3 a0.toNatClampNeg) < (3 : Int32) then (0 : Int32) else (1 : Int32))
set_option maxRecDepth 20000 in
theorem iX7_isBracket_7 : ∀ w ∈ wsX70, w ∈ wsX7_isBracket := by decide +kernel
set_option maxHeartbeats 4000000 in
set_option maxRecDepth 100000 in
theorem kX7_isBracket (l : Launch) (D : va_G) (cI cJ cZ cD : ClassId) (tA : Nat) (h : Nat) (R : Nat → Nat) (I : Nat → Int32) (L : Nat → Int64) (f3 : Nat → Int32) (a0 : Int32) (hi : vp_in a0 160) : jx_Ms l yX7_isBracket wsX7_isBracket ({ frames := 0, cells := 0, slots := 0, locals := 0 }) D (jT cI cJ cZ cD) tA [.ref h, .int a0] [(h, .inr (7, (oX7 R I L))), ((R 3), .inl (cI, 160, .inl f3))] (vp_Si (fun r => r = (sX7_isBracket f3 a0))) := by
  refine jx_ofs (cc := cX7_isBracket) (maxL := 2) (ret := (some .boolean)) (by decide +kernel) rfl (Nat.le_of_ble_eq_true rfl) ?_
  intro p e s m below meth c A ls hx hb hr hlocks hml hown hts hK hP hD hA hS hX hl
  have hl : lv_has ls 2 [(0, .ref h), (1, .int a0)] := hl
  have hown : s.vm.findClass RX7 = some m.cls := hown
  have hk13 := hts (.fieldLink RX7 13 "LoomDeskModel" "kind" "[I") (by decide +kernel)
  refine lv_aload_n hx hb dX7_isBracket_0 rfl (lv_at hl 0 rfl) ?_
  refine jx_get (v := .ref (R 3)) hx hb hts iX7_isBracket_7 hown hK hP 0 rfl rfl 3 (by decide) hk13 rfl rfl dX7_isBracket_1 ?_
  refine lv_iload_n hx hb dX7_isBracket_4 rfl (lv_at hl 1 rfl) ?_
  refine va_iald hx hb hK hP 1 0 rfl rfl hi dX7_isBracket_5 ?_
  refine lv_iconst (v := 3) hx hb dX7_isBracket_6 (by decide) ?_
  refine lv_icmp_lt (tgt := 14) hx hb dX7_isBracket_7 (by decide) (fun c_1 => ?_) (fun c_1 => ?_)
  · skip
    refine lv_iconst (v := 0) hx hb dX7_isBracket_14 (by decide) ?_
    have hq : (sX7_isBracket f3 a0) = (0 : Int32) := by unfold sX7_isBracket; exact (if_pos c_1)
    exact jx_szret hx hb hr hlocks hq.symm (Or.inl rfl) dX7_isBracket_15
  · skip
    refine lv_iconst (v := 1) hx hb dX7_isBracket_10 (by decide) ?_
    refine lv_goto (tgt := 15) hx hb dX7_isBracket_11 (by decide) ?_
    have hq : (sX7_isBracket f3 a0) = (1 : Int32) := by unfold sX7_isBracket; exact (if_neg c_1)
    exact jx_szret hx hb hr hlocks hq.symm (Or.inr rfl) dX7_isBracket_15

def sX7_length (I : Nat → Int32) (L : Nat → Int64) : Int64 × (Nat → Int32) := ((L 10), (upd I 0 (0 : Int32)))
set_option maxRecDepth 20000 in
theorem iX7_length_7 : ∀ w ∈ wsX70, w ∈ wsX7_length := by decide +kernel
set_option maxHeartbeats 4000000 in
set_option maxRecDepth 100000 in
theorem kX7_length (l : Launch) (D : va_G) (cI cJ cZ cD : ClassId) (tA : Nat) (h : Nat) (R : Nat → Nat) (I : Nat → Int32) (L : Nat → Int64) : jx_M l yX7_length wsX7_length ({ frames := 0, cells := 0, slots := 0, locals := 0 }) D (jT cI cJ cZ cD) tA [.ref h] [(h, .inr (7, (oX7 R I L)))] (jx_Ql D (jT cI cJ cZ cD) (fun r (_ : Unit) => r = (sX7_length I L).1) (fun _ => [(h, .inr (7, (oX7 R (sX7_length I L).2 L)))])) := by
  refine jx_of (cc := cX7_length) (maxL := 1) (ret := (some .long)) (by decide +kernel) rfl (Nat.le_of_ble_eq_true rfl) ?_
  intro p e s m below meth c A ls hx hb hr hlocks hml hown hts hK hP hD hA hS hX hl
  have hl : lv_has ls 1 [(0, .ref h)] := hl
  have hown : s.vm.findClass RX7 = some m.cls := hown
  have hk74 := hts (.fieldLink RX7 74 "LoomDeskModel" "thrown" "I") (by decide +kernel)
  have hk130 := hts (.fieldLink RX7 130 "LoomDeskModel" "length" "J") (by decide +kernel)
  refine lv_aload_n hx hb dX7_length_0 rfl (lv_at hl 0 rfl) ?_
  refine lv_iconst (v := 0) hx hb dX7_length_1 (by decide) ?_
  refine jx_put (w2 := [(h, .inr (7, (oX7 R (upd I 0 (0 : Int32)) L)))]) hx hb hts iX7_length_7 tyX7 tyX7_ok nmX7 hown hK hP hD hS 0 rfl rfl 0 (by decide) hk74 rfl rfl rfl rfl (Nat.le_of_ble_eq_true rfl) dX7_length_2 rfl (fun H locs hP hD hS => ?_)
  refine lv_aload_n hx hb dX7_length_5 rfl (lv_at hl 0 rfl) ?_
  refine jx_get (v := .long (L 10)) hx hb hts iX7_length_7 hown hK hP 0 rfl rfl 10 (by decide) hk130 rfl rfl dX7_length_6 ?_
  have hq : (sX7_length I L) = ((L 10), (upd I 0 (0 : Int32))) := rfl
  exact jx_lret () hx hb hr hlocks hK hP hD hS (by rw [hq]) (by rw [hq]) dX7_length_9

def sX7_start (I : Nat → Int32) (L : Nat → Int64) : Int32 × (Nat → Int32) := (if (I 21) = 0 then (if (L 10) = (0 : Int64) then ((0 : Int32), (upd I 0 (0 : Int32))) else (if (I 20) = 0 then ((0 : Int32), (upd I 0 (0 : Int32))) else ((1 : Int32), (upd (upd I 0 (0 : Int32)) 21 (1 : Int32))))) else ((0 : Int32), (upd I 0 (0 : Int32))))
set_option maxRecDepth 20000 in
theorem iX7_start_7 : ∀ w ∈ wsX70, w ∈ wsX7_start := by decide +kernel
set_option maxHeartbeats 4000000 in
set_option maxRecDepth 100000 in
theorem kX7_start (l : Launch) (D : va_G) (cI cJ cZ cD : ClassId) (tA : Nat) (h : Nat) (R : Nat → Nat) (I : Nat → Int32) (L : Nat → Int64) : jx_M l yX7_start wsX7_start ({ frames := 0, cells := 0, slots := 0, locals := 0 }) D (jT cI cJ cZ cD) tA [.ref h] [(h, .inr (7, (oX7 R I L)))] (jx_Qi D (jT cI cJ cZ cD) (fun r (_ : Unit) => r = (sX7_start I L).1) (fun _ => [(h, .inr (7, (oX7 R (sX7_start I L).2 L)))])) := by
  refine jx_of (cc := cX7_start) (maxL := 1) (ret := (some .boolean)) (by decide +kernel) rfl (Nat.le_of_ble_eq_true rfl) ?_
  intro p e s m below meth c A ls hx hb hr hlocks hml hown hts hK hP hD hA hS hX hl
  have hl : lv_has ls 1 [(0, .ref h)] := hl
  have hown : s.vm.findClass RX7 = some m.cls := hown
  have hk47 := hts (.fieldLink RX7 47 "LoomDeskModel" "power" "Z") (by decide +kernel)
  have hk74 := hts (.fieldLink RX7 74 "LoomDeskModel" "thrown" "I") (by decide +kernel)
  have hk130 := hts (.fieldLink RX7 130 "LoomDeskModel" "length" "J") (by decide +kernel)
  have hk151 := hts (.fieldLink RX7 151 "LoomDeskModel" "mode" "I") (by decide +kernel)
  refine lv_aload_n hx hb dX7_start_0 rfl (lv_at hl 0 rfl) ?_
  refine lv_iconst (v := 0) hx hb dX7_start_1 (by decide) ?_
  refine jx_put (w2 := [(h, .inr (7, (oX7 R (upd I 0 (0 : Int32)) L)))]) hx hb hts iX7_start_7 tyX7 tyX7_ok nmX7 hown hK hP hD hS 0 rfl rfl 0 (by decide) hk74 rfl rfl rfl rfl (Nat.le_of_ble_eq_true rfl) dX7_start_2 rfl (fun H locs hP hD hS => ?_)
  refine lv_aload_n hx hb dX7_start_5 rfl (lv_at hl 0 rfl) ?_
  refine jx_get (v := .int (I 21)) hx hb hts iX7_start_7 hown hK hP 0 rfl rfl 21 (by decide) hk151 rfl rfl dX7_start_6 ?_
  refine lv_if_ne (tgt := 28) hx hb dX7_start_9 (by decide) (fun c_1 => ?_) (fun c_1 => ?_)
  · skip
    refine lv_iconst (v := 0) hx hb dX7_start_28 (by decide) ?_
    have hq : (sX7_start I L) = ((0 : Int32), (upd I 0 (0 : Int32))) := by unfold sX7_start; exact (if_neg c_1)
    exact jx_zret () hx hb hr hlocks hK hP hD hS (by rw [hq]) (by rw [hq]) (Or.inl rfl) dX7_start_29
  · skip
    refine lv_aload_n hx hb dX7_start_12 rfl (lv_at hl 0 rfl) ?_
    refine jx_get (v := .long (L 10)) hx hb hts iX7_start_7 hown hK hP 0 rfl rfl 10 (by decide) hk130 rfl rfl dX7_start_13 ?_
    refine lv_lconst (v := 0) hx hb dX7_start_16 (by decide) ?_
    refine jx_l_eq (tgt := 28) hx hb dX7_start_17 dX7_start_18 (by decide) (fun c_2 => ?_) (fun c_2 => ?_)
    · skip
      refine lv_iconst (v := 0) hx hb dX7_start_28 (by decide) ?_
      have hq : (sX7_start I L) = ((0 : Int32), (upd I 0 (0 : Int32))) := by unfold sX7_start; exact (if_pos c_1).trans ((if_pos c_2))
      exact jx_zret () hx hb hr hlocks hK hP hD hS (by rw [hq]) (by rw [hq]) (Or.inl rfl) dX7_start_29
    · skip
      refine lv_aload_n hx hb dX7_start_21 rfl (lv_at hl 0 rfl) ?_
      refine jx_get (v := .int (I 20)) hx hb hts iX7_start_7 hown hK hP 0 rfl rfl 20 (by decide) hk47 rfl rfl dX7_start_22 ?_
      refine lv_if_ne (tgt := 30) hx hb dX7_start_25 (by decide) (fun c_3 => ?_) (fun c_3 => ?_)
      · skip
        refine lv_aload_n hx hb dX7_start_30 rfl (lv_at hl 0 rfl) ?_
        refine lv_iconst (v := 1) hx hb dX7_start_31 (by decide) ?_
        refine jx_put (w2 := [(h, .inr (7, (oX7 R (upd (upd I 0 (0 : Int32)) 21 (1 : Int32)) L)))]) hx hb hts iX7_start_7 tyX7 tyX7_ok nmX7 hown hK hP hD hS 0 rfl rfl 21 (by decide) hk151 rfl rfl rfl rfl (Nat.le_of_ble_eq_true rfl) dX7_start_32 rfl (fun H locs hP hD hS => ?_)
        refine lv_iconst (v := 1) hx hb dX7_start_35 (by decide) ?_
        have hq : (sX7_start I L) = ((1 : Int32), (upd (upd I 0 (0 : Int32)) 21 (1 : Int32))) := by unfold sX7_start; exact (if_pos c_1).trans ((if_neg c_2).trans ((if_neg c_3)))
        exact jx_zret () hx hb hr hlocks hK hP hD hS (by rw [hq]) (by rw [hq]) (Or.inr rfl) dX7_start_36
      · skip
        refine lv_iconst (v := 0) hx hb dX7_start_28 (by decide) ?_
        have hq : (sX7_start I L) = ((0 : Int32), (upd I 0 (0 : Int32))) := by unfold sX7_start; exact (if_pos c_1).trans ((if_neg c_2).trans ((if_pos c_3)))
        exact jx_zret () hx hb hr hlocks hK hP hD hS (by rw [hq]) (by rw [hq]) (Or.inl rfl) dX7_start_29

def sX7_brakes (I : Nat → Int32) : (Nat → Int32) := (if (I 21) = (1 : Int32) then (upd (upd (upd I 21 (2 : Int32)) 23 ((I 24) / (2 : Int32))) 31 ((I 31) + (1 : Int32))) else I)
set_option maxRecDepth 20000 in
theorem iX7_brakes_7 : ∀ w ∈ wsX70, w ∈ wsX7_brakes := by decide +kernel
set_option maxHeartbeats 4000000 in
set_option maxRecDepth 100000 in
theorem kX7_brakes (l : Launch) (D : va_G) (cI cJ cZ cD : ClassId) (tA : Nat) (h : Nat) (R : Nat → Nat) (I : Nat → Int32) (L : Nat → Int64) : jx_M l yX7_brakes wsX7_brakes ({ frames := 0, cells := 0, slots := 0, locals := 0 }) D (jT cI cJ cZ cD) tA [.ref h] [(h, .inr (7, (oX7 R I L)))] (jx_Qv D (jT cI cJ cZ cD) (fun (_ : Unit) => True) (fun _ => [(h, .inr (7, (oX7 R (sX7_brakes I) L)))])) := by
  refine jx_of (cc := cX7_brakes) (maxL := 1) (ret := none) (by decide +kernel) rfl (Nat.le_of_ble_eq_true rfl) ?_
  intro p e s m below meth c A ls hx hb hr hlocks hml hown hts hK hP hD hA hS hX hl
  have hl : lv_has ls 1 [(0, .ref h)] := hl
  have hown : s.vm.findClass RX7 = some m.cls := hown
  have hk51 := hts (.fieldLink RX7 51 "LoomDeskModel" "speed" "I") (by decide +kernel)
  have hk151 := hts (.fieldLink RX7 151 "LoomDeskModel" "mode" "I") (by decide +kernel)
  have hk170 := hts (.fieldLink RX7 170 "LoomDeskModel" "left" "I") (by decide +kernel)
  have hk173 := hts (.fieldLink RX7 173 "LoomDeskModel" "orders" "I") (by decide +kernel)
  refine lv_aload_n hx hb dX7_brakes_0 rfl (lv_at hl 0 rfl) ?_
  refine jx_get (v := .int (I 21)) hx hb hts iX7_brakes_7 hown hK hP 0 rfl rfl 21 (by decide) hk151 rfl rfl dX7_brakes_1 ?_
  refine lv_iconst (v := 1) hx hb dX7_brakes_4 (by decide) ?_
  refine lv_icmp_eq (tgt := 9) hx hb dX7_brakes_5 (by decide) (fun c_1 => ?_) (fun c_1 => ?_)
  · skip
    refine lv_aload_n hx hb dX7_brakes_9 rfl (lv_at hl 0 rfl) ?_
    refine lv_iconst (v := 2) hx hb dX7_brakes_10 (by decide) ?_
    refine jx_put (w2 := [(h, .inr (7, (oX7 R (upd I 21 (2 : Int32)) L)))]) hx hb hts iX7_brakes_7 tyX7 tyX7_ok nmX7 hown hK hP hD hS 0 rfl rfl 21 (by decide) hk151 rfl rfl rfl rfl (Nat.le_of_ble_eq_true rfl) dX7_brakes_11 rfl (fun H locs hP hD hS => ?_)
    refine lv_aload_n hx hb dX7_brakes_14 rfl (lv_at hl 0 rfl) ?_
    refine lv_aload_n hx hb dX7_brakes_15 rfl (lv_at hl 0 rfl) ?_
    refine jx_get (v := .int (I 24)) hx hb hts iX7_brakes_7 hown hK hP 0 rfl rfl 24 (by decide) hk51 rfl rfl dX7_brakes_16 ?_
    refine lv_iconst (v := 2) hx hb dX7_brakes_19 (by decide) ?_
    refine lv_idiv hx hb dX7_brakes_20 (by decide) ?_
    refine lv_topi (fun v_2 ev_2 => ?_)
    refine jx_put (w2 := [(h, .inr (7, (oX7 R (upd (upd I 21 (2 : Int32)) 23 v_2) L)))]) hx hb hts iX7_brakes_7 tyX7 tyX7_ok nmX7 hown hK hP hD hS 0 rfl rfl 23 (by decide) hk170 rfl rfl rfl rfl (Nat.le_of_ble_eq_true rfl) dX7_brakes_21 rfl (fun H locs hP hD hS => ?_)
    refine lv_aload_n hx hb dX7_brakes_24 rfl (lv_at hl 0 rfl) ?_
    refine lv_dup hx hb dX7_brakes_25 rfl ?_
    refine jx_get (v := .int (I 31)) hx hb hts iX7_brakes_7 hown hK hP 0 rfl rfl 31 (by decide) hk173 rfl rfl dX7_brakes_26 ?_
    refine lv_iconst (v := 1) hx hb dX7_brakes_29 (by decide) ?_
    refine lv_iadd hx hb dX7_brakes_30 ?_
    refine lv_topi (fun v_3 ev_3 => ?_)
    refine jx_put (w2 := [(h, .inr (7, (oX7 R (upd (upd (upd I 21 (2 : Int32)) 23 v_2) 31 v_3) L)))]) hx hb hts iX7_brakes_7 tyX7 tyX7_ok nmX7 hown hK hP hD hS 0 rfl rfl 31 (by decide) hk173 rfl rfl rfl rfl (Nat.le_of_ble_eq_true rfl) dX7_brakes_31 rfl (fun H locs hP hD hS => ?_)
    have hq : (sX7_brakes I) = (upd (upd (upd I 21 (2 : Int32)) 23 v_2) 31 v_3) := by clear hP hD hl; have z_ := ev_3.symm; clear ev_3; subst z_; have z_ := ev_2.symm; clear ev_2; subst z_; unfold sX7_brakes; exact (if_pos c_1)
    exact jx_vret () hx hb hr hlocks hK hP hD hS (by rw [hq]) trivial dX7_brakes_34
  · skip
    have hq : (sX7_brakes I) = I := by unfold sX7_brakes; exact (if_neg c_1)
    exact jx_vret () hx hb hr hlocks hK hP hD hS (by rw [hq]) trivial dX7_brakes_8

def sX7_stop (I : Nat → Int32) : Int32 × (Nat → Int32) := (if (I 21) = (1 : Int32) then ((1 : Int32), (sX7_brakes (upd I 0 (0 : Int32)))) else ((0 : Int32), (upd I 0 (0 : Int32))))
set_option maxRecDepth 20000 in
theorem iX7_stop_7 : ∀ w ∈ wsX70, w ∈ wsX7_stop := by decide +kernel
set_option maxHeartbeats 4000000 in
set_option maxRecDepth 100000 in
theorem kX7_stop (l : Launch) (D : va_G) (cI cJ cZ cD : ClassId) (tA : Nat) (h : Nat) (R : Nat → Nat) (I : Nat → Int32) (L : Nat → Int64) : jx_M l yX7_stop wsX7_stop ({ frames := 1, cells := 0, slots := 0, locals := 20 }) D (jT cI cJ cZ cD) tA [.ref h] [(h, .inr (7, (oX7 R I L)))] (jx_Qi D (jT cI cJ cZ cD) (fun r (_ : Unit) => r = (sX7_stop I).1) (fun _ => [(h, .inr (7, (oX7 R (sX7_stop I).2 L)))])) := by
  refine jx_of (cc := cX7_stop) (maxL := 1) (ret := (some .boolean)) (by decide +kernel) rfl (Nat.le_of_ble_eq_true rfl) ?_
  intro p e s m below meth c A ls hx hb hr hlocks hml hown hts hK hP hD hA hS hX hl
  have hl : lv_has ls 1 [(0, .ref h)] := hl
  have hown : s.vm.findClass RX7 = some m.cls := hown
  have hk74 := hts (.fieldLink RX7 74 "LoomDeskModel" "thrown" "I") (by decide +kernel)
  have hk151 := hts (.fieldLink RX7 151 "LoomDeskModel" "mode" "I") (by decide +kernel)
  refine lv_aload_n hx hb dX7_stop_0 rfl (lv_at hl 0 rfl) ?_
  refine lv_iconst (v := 0) hx hb dX7_stop_1 (by decide) ?_
  refine jx_put (w2 := [(h, .inr (7, (oX7 R (upd I 0 (0 : Int32)) L)))]) hx hb hts iX7_stop_7 tyX7 tyX7_ok nmX7 hown hK hP hD hS 0 rfl rfl 0 (by decide) hk74 rfl rfl rfl rfl (Nat.le_of_ble_eq_true rfl) dX7_stop_2 rfl (fun H locs hP hD hS => ?_)
  refine lv_aload_n hx hb dX7_stop_5 rfl (lv_at hl 0 rfl) ?_
  refine jx_get (v := .int (I 21)) hx hb hts iX7_stop_7 hown hK hP 0 rfl rfl 21 (by decide) hk151 rfl rfl dX7_stop_6 ?_
  refine lv_iconst (v := 1) hx hb dX7_stop_9 (by decide) ?_
  refine lv_icmp_eq (tgt := 15) hx hb dX7_stop_10 (by decide) (fun c_1 => ?_) (fun c_1 => ?_)
  · skip
    refine lv_aload_n hx hb dX7_stop_15 rfl (lv_at hl 0 rfl) ?_
    refine jx_callv (wc := [(h, .inr (7, (oX7 R (upd I 0 (0 : Int32)) L)))]) (wr := []) hP hD hS hA hK [0] [] rfl rfl (by decide) (by decide) (by decide) (fun hPc hDc hF => jx_runV (As := []) (rest := []) (n := 0) (ci := 7) (q0 := 0) hx hb hml hown hts hK hX hS hl.1 (kX7_brakes l D cI cJ cZ cD tA h R (upd I 0 (0 : Int32)) L) gX7_stop_X7_brakes rfl rfl rfl (by decide +kernel) ⟨Nat.le_of_ble_eq_true rfl, Nat.le_of_ble_eq_true rfl⟩ rfl rfl rfl rfl rfl (Nat.le_of_ble_eq_true rfl) dX7_stop_16 ⟨Nat.zero_le _, Nat.zero_le _⟩ hPc hDc hF) (fun u H locs hw hP hD hS => ?_)
    obtain ⟨I_3, eI_3⟩ : ∃ x : (Nat → Int32), x = (sX7_brakes (upd I 0 (0 : Int32))) := ⟨_, rfl⟩
    have hP : va_P D vwCl [(h, .inr (7, (oX7 R I_3 L)))] H := by rw [eI_3]; exact hP
    have hD : va_D A [(h, .inr (7, (oX7 R I_3 L)))] := by rw [eI_3]; exact hD
    refine lv_iconst (v := 1) hx hb dX7_stop_19 (by decide) ?_
    have hq : (sX7_stop I) = ((1 : Int32), I_3) := by clear hP hD hl; have z_ := eI_3.symm; clear eI_3; subst z_; unfold sX7_stop; exact (if_pos c_1)
    exact jx_zret () hx hb hr hlocks hK hP hD hS (by rw [hq]) (by rw [hq]) (Or.inr rfl) dX7_stop_20
  · skip
    refine lv_iconst (v := 0) hx hb dX7_stop_13 (by decide) ?_
    have hq : (sX7_stop I) = ((0 : Int32), (upd I 0 (0 : Int32))) := by unfold sX7_stop; exact (if_neg c_1)
    exact jx_zret () hx hb hr hlocks hK hP hD hS (by rw [hq]) (by rw [hq]) (Or.inl rfl) dX7_stop_14

def sX7_record (I : Nat → Int32) (L : Nat → Int64) (f39 : Nat → Int32) (f40 : Nat → Int32) (f41 : Nat → Int64) (a0 : Int32) : (Nat → Int32) × (Nat → Int32) × (Nat → Int32) × (Nat → Int64) := ((upd I 42 ((1 : Int32) - (I 42))), (upd f39 ((1 : Int32) - (I 42)).toNatClampNeg (1 : Int32)), (upd f40 ((1 : Int32) - (I 42)).toNatClampNeg a0), (vp_updL f41 ((1 : Int32) - (I 42)).toNatClampNeg (L 25)))
set_option maxRecDepth 20000 in
theorem iX7_record_7 : ∀ w ∈ wsX70, w ∈ wsX7_record := by decide +kernel
set_option maxHeartbeats 4000000 in
set_option maxRecDepth 100000 in
theorem kX7_record (l : Launch) (D : va_G) (cI cJ cZ cD : ClassId) (tA : Nat) (h : Nat) (R : Nat → Nat) (I : Nat → Int32) (L : Nat → Int64) (f39 : Nat → Int32) (f40 : Nat → Int32) (f41 : Nat → Int64) (a0 : Int32) (hw : I 42 = 0 ∨ I 42 = 1) (ha : a0 = 0 ∨ a0 = 1) : jx_M l yX7_record wsX7_record ({ frames := 0, cells := 0, slots := 0, locals := 0 }) D (jT cI cJ cZ cD) tA [.ref h, .int a0] [(h, .inr (7, (oX7 R I L))), ((R 39), .inl (cZ, 2, .inl f39)), ((R 40), .inl (cZ, 2, .inl f40)), ((R 41), .inl (cJ, 2, .inr (.inl f41)))] (jx_Qv D (jT cI cJ cZ cD) (fun (_ : Unit) => True) (fun _ => [(h, .inr (7, (oX7 R (sX7_record I L f39 f40 f41 a0).1 L))), ((R 39), .inl (cZ, 2, .inl ((sX7_record I L f39 f40 f41 a0).2.1))), ((R 40), .inl (cZ, 2, .inl ((sX7_record I L f39 f40 f41 a0).2.2.1))), ((R 41), .inl (cJ, 2, .inr (.inl ((sX7_record I L f39 f40 f41 a0).2.2.2))))])) := by
  refine jx_of (cc := cX7_record) (maxL := 2) (ret := none) (by decide +kernel) rfl (Nat.le_of_ble_eq_true rfl) ?_
  intro p e s m below meth c A ls hx hb hr hlocks hml hown hts hK hP hD hA hS hX hl
  have hl : lv_has ls 2 [(0, .ref h), (1, .int a0)] := hl
  have hown : s.vm.findClass RX7 = some m.cls := hown
  have hk64 := hts (.fieldLink RX7 64 "LoomDeskModel" "there" "[Z") (by decide +kernel)
  have hk68 := hts (.fieldLink RX7 68 "LoomDeskModel" "upper" "[Z") (by decide +kernel)
  have hk71 := hts (.fieldLink RX7 71 "LoomDeskModel" "recorded" "[J") (by decide +kernel)
  have hk163 := hts (.fieldLink RX7 163 "LoomDeskModel" "place" "J") (by decide +kernel)
  have hk179 := hts (.fieldLink RX7 179 "LoomDeskModel" "written" "I") (by decide +kernel)
  refine lv_aload_n hx hb dX7_record_0 rfl (lv_at hl 0 rfl) ?_
  refine lv_iconst (v := 1) hx hb dX7_record_1 (by decide) ?_
  refine lv_aload_n hx hb dX7_record_2 rfl (lv_at hl 0 rfl) ?_
  refine jx_get (v := .int (I 42)) hx hb hts iX7_record_7 hown hK hP 0 rfl rfl 42 (by decide) hk179 rfl rfl dX7_record_3 ?_
  refine lv_isub hx hb dX7_record_6 ?_
  refine lv_topi (fun v_1 ev_1 => ?_)
  refine jx_put (w2 := [(h, .inr (7, (oX7 R (upd I 42 v_1) L))), ((R 39), .inl (cZ, 2, .inl f39)), ((R 40), .inl (cZ, 2, .inl f40)), ((R 41), .inl (cJ, 2, .inr (.inl f41)))]) hx hb hts iX7_record_7 tyX7 tyX7_ok nmX7 hown hK hP hD hS 0 rfl rfl 42 (by decide) hk179 rfl rfl rfl rfl (Nat.le_of_ble_eq_true rfl) dX7_record_7 rfl (fun H locs hP hD hS => ?_)
  refine lv_aload_n hx hb dX7_record_10 rfl (lv_at hl 0 rfl) ?_
  refine jx_get (v := .ref (R 39)) hx hb hts iX7_record_7 hown hK hP 0 rfl rfl 39 (by decide) hk64 rfl rfl dX7_record_11 ?_
  refine lv_aload_n hx hb dX7_record_14 rfl (lv_at hl 0 rfl) ?_
  refine jx_get (v := .int v_1) hx hb hts iX7_record_7 hown hK hP 0 rfl rfl 42 (by decide) hk179 rfl rfl dX7_record_15 ?_
  refine lv_iconst (v := 1) hx hb dX7_record_18 (by decide) ?_
  refine jx_zast (w2 := [(h, .inr (7, (oX7 R (upd I 42 v_1) L))), ((R 39), .inl (cZ, 2, .inl (upd f39 v_1.toNatClampNeg (1 : Int32)))), ((R 40), .inl (cZ, 2, .inl f40)), ((R 41), .inl (cJ, 2, .inr (.inl f41)))]) hx hb hK hP hD hS 1 2 rfl rfl (by clear hP hD hl; have z_ := ev_1.symm; clear ev_1; subst z_; exact rec_in hw) (Or.inr rfl) dX7_record_19 rfl (fun H locs hP hD hS => ?_)
  refine lv_aload_n hx hb dX7_record_20 rfl (lv_at hl 0 rfl) ?_
  refine jx_get (v := .ref (R 40)) hx hb hts iX7_record_7 hown hK hP 0 rfl rfl 40 (by decide) hk68 rfl rfl dX7_record_21 ?_
  refine lv_aload_n hx hb dX7_record_24 rfl (lv_at hl 0 rfl) ?_
  refine jx_get (v := .int v_1) hx hb hts iX7_record_7 hown hK hP 0 rfl rfl 42 (by decide) hk179 rfl rfl dX7_record_25 ?_
  refine lv_iload_n hx hb dX7_record_28 rfl (lv_at hl 1 rfl) ?_
  refine jx_zast (w2 := [(h, .inr (7, (oX7 R (upd I 42 v_1) L))), ((R 39), .inl (cZ, 2, .inl (upd f39 v_1.toNatClampNeg (1 : Int32)))), ((R 40), .inl (cZ, 2, .inl (upd f40 v_1.toNatClampNeg a0))), ((R 41), .inl (cJ, 2, .inr (.inl f41)))]) hx hb hK hP hD hS 2 2 rfl rfl (by clear hP hD hl; have z_ := ev_1.symm; clear ev_1; subst z_; exact rec_in hw) ha dX7_record_29 rfl (fun H locs hP hD hS => ?_)
  refine lv_aload_n hx hb dX7_record_30 rfl (lv_at hl 0 rfl) ?_
  refine jx_get (v := .ref (R 41)) hx hb hts iX7_record_7 hown hK hP 0 rfl rfl 41 (by decide) hk71 rfl rfl dX7_record_31 ?_
  refine lv_aload_n hx hb dX7_record_34 rfl (lv_at hl 0 rfl) ?_
  refine jx_get (v := .int v_1) hx hb hts iX7_record_7 hown hK hP 0 rfl rfl 42 (by decide) hk179 rfl rfl dX7_record_35 ?_
  refine lv_aload_n hx hb dX7_record_38 rfl (lv_at hl 0 rfl) ?_
  refine jx_get (v := .long (L 25)) hx hb hts iX7_record_7 hown hK hP 0 rfl rfl 25 (by decide) hk163 rfl rfl dX7_record_39 ?_
  refine jx_last (w2 := [(h, .inr (7, (oX7 R (upd I 42 v_1) L))), ((R 39), .inl (cZ, 2, .inl (upd f39 v_1.toNatClampNeg (1 : Int32)))), ((R 40), .inl (cZ, 2, .inl (upd f40 v_1.toNatClampNeg a0))), ((R 41), .inl (cJ, 2, .inr (.inl (vp_updL f41 v_1.toNatClampNeg (L 25)))))]) hx hb hK hP hD hS 3 1 rfl rfl (by clear hP hD hl; have z_ := ev_1.symm; clear ev_1; subst z_; exact rec_in hw) dX7_record_42 rfl (fun H locs hP hD hS => ?_)
  have hq : (sX7_record I L f39 f40 f41 a0) = ((upd I 42 v_1), (upd f39 v_1.toNatClampNeg (1 : Int32)), (upd f40 v_1.toNatClampNeg a0), (vp_updL f41 v_1.toNatClampNeg (L 25))) := by clear hP hD hl; have z_ := ev_1.symm; clear ev_1; subst z_; rfl
  exact jx_vret () hx hb hr hlocks hK hP hD hS (by rw [hq]) trivial dX7_record_43

def sX7_above (a0 : Int32) : Int32 := (if (480 : Int32) ≤ a0 then (if (1440 : Int32) ≤ a0 then (if (4800 : Int32) ≤ a0 then (5760 : Int32) else (4800 : Int32)) else (1440 : Int32)) else (480 : Int32))
set_option maxHeartbeats 4000000 in
set_option maxRecDepth 100000 in
theorem kX7_above (l : Launch) (D : va_G) (cI cJ cZ cD : ClassId) (tA : Nat) (a0 : Int32) : jx_Ms l yX7_above wsX7_above ({ frames := 0, cells := 0, slots := 0, locals := 0 }) D (jT cI cJ cZ cD) tA [.int a0] [] (vp_Si (fun r => r = (sX7_above a0))) := by
  refine jx_ofs (cc := cX7_above) (maxL := 1) (ret := (some .int)) (by decide +kernel) rfl (Nat.le_of_ble_eq_true rfl) ?_
  intro p e s m below meth c A ls hx hb hr hlocks hml hown hts hK hP hD hA hS hX hl
  have hl : lv_has ls 1 [(0, .int a0)] := hl
  have hown : s.vm.findClass RX7 = some m.cls := hown
  refine lv_iload_n hx hb dX7_above_0 rfl (lv_at hl 0 rfl) ?_
  refine lv_sipush (v := 480) hx hb dX7_above_1 (by decide) ?_
  refine lv_icmp_ge (tgt := 13) hx hb dX7_above_4 (by decide) (fun c_1 => ?_) (fun c_1 => ?_)
  · skip
    refine lv_iload_n hx hb dX7_above_13 rfl (lv_at hl 0 rfl) ?_
    refine lv_sipush (v := 1440) hx hb dX7_above_14 (by decide) ?_
    refine lv_icmp_ge (tgt := 26) hx hb dX7_above_17 (by decide) (fun c_2 => ?_) (fun c_2 => ?_)
    · skip
      refine lv_iload_n hx hb dX7_above_26 rfl (lv_at hl 0 rfl) ?_
      refine lv_sipush (v := 4800) hx hb dX7_above_27 (by decide) ?_
      refine lv_icmp_ge (tgt := 39) hx hb dX7_above_30 (by decide) (fun c_3 => ?_) (fun c_3 => ?_)
      · skip
        refine lv_sipush (v := 5760) hx hb dX7_above_39 (by decide) ?_
        have hq : (sX7_above a0) = (5760 : Int32) := by unfold sX7_above; exact (if_pos c_1).trans ((if_pos c_2).trans ((if_pos c_3)))
        exact jx_siret hx hb hr hlocks hq.symm dX7_above_42
      · skip
        refine lv_sipush (v := 4800) hx hb dX7_above_33 (by decide) ?_
        refine lv_goto (tgt := 42) hx hb dX7_above_36 (by decide) ?_
        have hq : (sX7_above a0) = (4800 : Int32) := by unfold sX7_above; exact (if_pos c_1).trans ((if_pos c_2).trans ((if_neg c_3)))
        exact jx_siret hx hb hr hlocks hq.symm dX7_above_42
    · skip
      refine lv_sipush (v := 1440) hx hb dX7_above_20 (by decide) ?_
      refine lv_goto (tgt := 42) hx hb dX7_above_23 (by decide) ?_
      have hq : (sX7_above a0) = (1440 : Int32) := by unfold sX7_above; exact (if_pos c_1).trans ((if_neg c_2))
      exact jx_siret hx hb hr hlocks hq.symm dX7_above_42
  · skip
    refine lv_sipush (v := 480) hx hb dX7_above_7 (by decide) ?_
    refine lv_goto (tgt := 42) hx hb dX7_above_10 (by decide) ?_
    have hq : (sX7_above a0) = (480 : Int32) := by unfold sX7_above; exact (if_neg c_1)
    exact jx_siret hx hb hr hlocks hq.symm dX7_above_42

def sX7_notAbove (a0 : Int32) : Int32 := (if a0 < (4800 : Int32) then (if a0 < (1440 : Int32) then (if a0 < (480 : Int32) then (0 : Int32) else (480 : Int32)) else (1440 : Int32)) else (4800 : Int32))
set_option maxHeartbeats 4000000 in
set_option maxRecDepth 100000 in
theorem kX7_notAbove (l : Launch) (D : va_G) (cI cJ cZ cD : ClassId) (tA : Nat) (a0 : Int32) : jx_Ms l yX7_notAbove wsX7_notAbove ({ frames := 0, cells := 0, slots := 0, locals := 0 }) D (jT cI cJ cZ cD) tA [.int a0] [] (vp_Si (fun r => r = (sX7_notAbove a0))) := by
  refine jx_ofs (cc := cX7_notAbove) (maxL := 1) (ret := (some .int)) (by decide +kernel) rfl (Nat.le_of_ble_eq_true rfl) ?_
  intro p e s m below meth c A ls hx hb hr hlocks hml hown hts hK hP hD hA hS hX hl
  have hl : lv_has ls 1 [(0, .int a0)] := hl
  have hown : s.vm.findClass RX7 = some m.cls := hown
  refine lv_iload_n hx hb dX7_notAbove_0 rfl (lv_at hl 0 rfl) ?_
  refine lv_sipush (v := 4800) hx hb dX7_notAbove_1 (by decide) ?_
  refine lv_icmp_lt (tgt := 13) hx hb dX7_notAbove_4 (by decide) (fun c_1 => ?_) (fun c_1 => ?_)
  · skip
    refine lv_iload_n hx hb dX7_notAbove_13 rfl (lv_at hl 0 rfl) ?_
    refine lv_sipush (v := 1440) hx hb dX7_notAbove_14 (by decide) ?_
    refine lv_icmp_lt (tgt := 26) hx hb dX7_notAbove_17 (by decide) (fun c_2 => ?_) (fun c_2 => ?_)
    · skip
      refine lv_iload_n hx hb dX7_notAbove_26 rfl (lv_at hl 0 rfl) ?_
      refine lv_sipush (v := 480) hx hb dX7_notAbove_27 (by decide) ?_
      refine lv_icmp_lt (tgt := 39) hx hb dX7_notAbove_30 (by decide) (fun c_3 => ?_) (fun c_3 => ?_)
      · skip
        refine lv_iconst (v := 0) hx hb dX7_notAbove_39 (by decide) ?_
        have hq : (sX7_notAbove a0) = (0 : Int32) := by unfold sX7_notAbove; exact (if_pos c_1).trans ((if_pos c_2).trans ((if_pos c_3)))
        exact jx_siret hx hb hr hlocks hq.symm dX7_notAbove_40
      · skip
        refine lv_sipush (v := 480) hx hb dX7_notAbove_33 (by decide) ?_
        refine lv_goto (tgt := 40) hx hb dX7_notAbove_36 (by decide) ?_
        have hq : (sX7_notAbove a0) = (480 : Int32) := by unfold sX7_notAbove; exact (if_pos c_1).trans ((if_pos c_2).trans ((if_neg c_3)))
        exact jx_siret hx hb hr hlocks hq.symm dX7_notAbove_40
    · skip
      refine lv_sipush (v := 1440) hx hb dX7_notAbove_20 (by decide) ?_
      refine lv_goto (tgt := 40) hx hb dX7_notAbove_23 (by decide) ?_
      have hq : (sX7_notAbove a0) = (1440 : Int32) := by unfold sX7_notAbove; exact (if_pos c_1).trans ((if_neg c_2))
      exact jx_siret hx hb hr hlocks hq.symm dX7_notAbove_40
  · skip
    refine lv_sipush (v := 4800) hx hb dX7_notAbove_7 (by decide) ?_
    refine lv_goto (tgt := 40) hx hb dX7_notAbove_10 (by decide) ?_
    have hq : (sX7_notAbove a0) = (4800 : Int32) := by unfold sX7_notAbove; exact (if_neg c_1)
    exact jx_siret hx hb hr hlocks hq.symm dX7_notAbove_40

def sX7_weft (I : Nat → Int32) (a0 : Int32) : Int32 × (Nat → Int32) := (if (I 20) = 0 then ((0 : Int32), (upd I 0 (0 : Int32))) else ((1 : Int32), (upd (upd I 0 (0 : Int32)) 29 a0)))
set_option maxRecDepth 20000 in
theorem iX7_weft_7 : ∀ w ∈ wsX70, w ∈ wsX7_weft := by decide +kernel
set_option maxHeartbeats 4000000 in
set_option maxRecDepth 100000 in
theorem kX7_weft (l : Launch) (D : va_G) (cI cJ cZ cD : ClassId) (tA : Nat) (h : Nat) (R : Nat → Nat) (I : Nat → Int32) (L : Nat → Int64) (a0 : Int32) (ha : a0 = 0 ∨ a0 = 1) : jx_M l yX7_weft wsX7_weft ({ frames := 0, cells := 0, slots := 0, locals := 0 }) D (jT cI cJ cZ cD) tA [.ref h, .int a0] [(h, .inr (7, (oX7 R I L)))] (jx_Qi D (jT cI cJ cZ cD) (fun r (_ : Unit) => r = (sX7_weft I a0).1) (fun _ => [(h, .inr (7, (oX7 R (sX7_weft I a0).2 L)))])) := by
  refine jx_of (cc := cX7_weft) (maxL := 2) (ret := (some .boolean)) (by decide +kernel) rfl (Nat.le_of_ble_eq_true rfl) ?_
  intro p e s m below meth c A ls hx hb hr hlocks hml hown hts hK hP hD hA hS hX hl
  have hl : lv_has ls 2 [(0, .ref h), (1, .int a0)] := hl
  have hown : s.vm.findClass RX7 = some m.cls := hown
  have hk47 := hts (.fieldLink RX7 47 "LoomDeskModel" "power" "Z") (by decide +kernel)
  have hk74 := hts (.fieldLink RX7 74 "LoomDeskModel" "thrown" "I") (by decide +kernel)
  have hk197 := hts (.fieldLink RX7 197 "LoomDeskModel" "broken" "Z") (by decide +kernel)
  refine lv_aload_n hx hb dX7_weft_0 rfl (lv_at hl 0 rfl) ?_
  refine lv_iconst (v := 0) hx hb dX7_weft_1 (by decide) ?_
  refine jx_put (w2 := [(h, .inr (7, (oX7 R (upd I 0 (0 : Int32)) L)))]) hx hb hts iX7_weft_7 tyX7 tyX7_ok nmX7 hown hK hP hD hS 0 rfl rfl 0 (by decide) hk74 rfl rfl rfl rfl (Nat.le_of_ble_eq_true rfl) dX7_weft_2 rfl (fun H locs hP hD hS => ?_)
  refine lv_aload_n hx hb dX7_weft_5 rfl (lv_at hl 0 rfl) ?_
  refine jx_get (v := .int (I 20)) hx hb hts iX7_weft_7 hown hK hP 0 rfl rfl 20 (by decide) hk47 rfl rfl dX7_weft_6 ?_
  refine lv_if_ne (tgt := 14) hx hb dX7_weft_9 (by decide) (fun c_1 => ?_) (fun c_1 => ?_)
  · skip
    refine lv_aload_n hx hb dX7_weft_14 rfl (lv_at hl 0 rfl) ?_
    refine lv_iload_n hx hb dX7_weft_15 rfl (lv_at hl 1 rfl) ?_
    refine jx_put (w2 := [(h, .inr (7, (oX7 R (upd (upd I 0 (0 : Int32)) 29 a0) L)))]) hx hb hts iX7_weft_7 tyX7 tyX7_ok nmX7 hown hK hP hD hS 0 rfl rfl 29 (by decide) hk197 rfl rfl (jx_bn ha) (jx_bf ha) (Nat.le_of_ble_eq_true rfl) dX7_weft_16 rfl (fun H locs hP hD hS => ?_)
    refine lv_iconst (v := 1) hx hb dX7_weft_19 (by decide) ?_
    have hq : (sX7_weft I a0) = ((1 : Int32), (upd (upd I 0 (0 : Int32)) 29 a0)) := by unfold sX7_weft; exact (if_neg c_1)
    exact jx_zret () hx hb hr hlocks hK hP hD hS (by rw [hq]) (by rw [hq]) (Or.inr rfl) dX7_weft_20
  · skip
    refine lv_iconst (v := 0) hx hb dX7_weft_12 (by decide) ?_
    have hq : (sX7_weft I a0) = ((0 : Int32), (upd I 0 (0 : Int32))) := by unfold sX7_weft; exact (if_pos c_1)
    exact jx_zret () hx hb hr hlocks hK hP hD hS (by rw [hq]) (by rw [hq]) (Or.inl rfl) dX7_weft_13

def sX7_jump (I : Nat → Int32) (L : Nat → Int64) (a0 : Int64) : Int32 × (Nat → Int32) × (Nat → Int64) := (if (I 21) = 0 then (if (480 : Int32) ≤ (I 22) then ((0 : Int32), (upd I 0 (0 : Int32)), L) else (if a0 < (0 : Int64) then ((0 : Int32), (upd I 0 (0 : Int32)), L) else (if (L 10) ≤ a0 then ((0 : Int32), (upd I 0 (0 : Int32)), L) else (if (I 20) = 0 then ((0 : Int32), (upd I 0 (0 : Int32)), L) else ((1 : Int32), (upd I 0 (0 : Int32)), (vp_updL L 25 a0)))))) else ((0 : Int32), (upd I 0 (0 : Int32)), L))
set_option maxRecDepth 20000 in
theorem iX7_jump_7 : ∀ w ∈ wsX70, w ∈ wsX7_jump := by decide +kernel
set_option maxHeartbeats 4000000 in
set_option maxRecDepth 100000 in
theorem kX7_jump (l : Launch) (D : va_G) (cI cJ cZ cD : ClassId) (tA : Nat) (h : Nat) (R : Nat → Nat) (I : Nat → Int32) (L : Nat → Int64) (a0 : Int64) : jx_M l yX7_jump wsX7_jump ({ frames := 0, cells := 0, slots := 0, locals := 0 }) D (jT cI cJ cZ cD) tA [.ref h, .long a0] [(h, .inr (7, (oX7 R I L)))] (jx_Qi D (jT cI cJ cZ cD) (fun r (_ : Unit) => r = (sX7_jump I L a0).1) (fun _ => [(h, .inr (7, (oX7 R (sX7_jump I L a0).2.1 (sX7_jump I L a0).2.2)))])) := by
  refine jx_of (cc := cX7_jump) (maxL := 3) (ret := (some .boolean)) (by decide +kernel) rfl (Nat.le_of_ble_eq_true rfl) ?_
  intro p e s m below meth c A ls hx hb hr hlocks hml hown hts hK hP hD hA hS hX hl
  have hl : lv_has ls 3 [(0, .ref h), (1, .long a0)] := hl
  have hown : s.vm.findClass RX7 = some m.cls := hown
  have hk47 := hts (.fieldLink RX7 47 "LoomDeskModel" "power" "Z") (by decide +kernel)
  have hk74 := hts (.fieldLink RX7 74 "LoomDeskModel" "thrown" "I") (by decide +kernel)
  have hk130 := hts (.fieldLink RX7 130 "LoomDeskModel" "length" "J") (by decide +kernel)
  have hk151 := hts (.fieldLink RX7 151 "LoomDeskModel" "mode" "I") (by decide +kernel)
  have hk163 := hts (.fieldLink RX7 163 "LoomDeskModel" "place" "J") (by decide +kernel)
  have hk220 := hts (.fieldLink RX7 220 "LoomDeskModel" "angle" "I") (by decide +kernel)
  refine lv_aload_n hx hb dX7_jump_0 rfl (lv_at hl 0 rfl) ?_
  refine lv_iconst (v := 0) hx hb dX7_jump_1 (by decide) ?_
  refine jx_put (w2 := [(h, .inr (7, (oX7 R (upd I 0 (0 : Int32)) L)))]) hx hb hts iX7_jump_7 tyX7 tyX7_ok nmX7 hown hK hP hD hS 0 rfl rfl 0 (by decide) hk74 rfl rfl rfl rfl (Nat.le_of_ble_eq_true rfl) dX7_jump_2 rfl (fun H locs hP hD hS => ?_)
  refine lv_aload_n hx hb dX7_jump_5 rfl (lv_at hl 0 rfl) ?_
  refine jx_get (v := .int (I 21)) hx hb hts iX7_jump_7 hown hK hP 0 rfl rfl 21 (by decide) hk151 rfl rfl dX7_jump_6 ?_
  refine lv_if_ne (tgt := 44) hx hb dX7_jump_9 (by decide) (fun c_1 => ?_) (fun c_1 => ?_)
  · skip
    refine lv_iconst (v := 0) hx hb dX7_jump_44 (by decide) ?_
    have hq : (sX7_jump I L a0) = ((0 : Int32), (upd I 0 (0 : Int32)), L) := by unfold sX7_jump; exact (if_neg c_1)
    exact jx_zret () hx hb hr hlocks hK hP hD hS (by rw [hq]) (by rw [hq]) (Or.inl rfl) dX7_jump_45
  · skip
    refine lv_aload_n hx hb dX7_jump_12 rfl (lv_at hl 0 rfl) ?_
    refine jx_get (v := .int (I 22)) hx hb hts iX7_jump_7 hown hK hP 0 rfl rfl 22 (by decide) hk220 rfl rfl dX7_jump_13 ?_
    refine lv_sipush (v := 480) hx hb dX7_jump_16 (by decide) ?_
    refine lv_icmp_ge (tgt := 44) hx hb dX7_jump_19 (by decide) (fun c_2 => ?_) (fun c_2 => ?_)
    · skip
      refine lv_iconst (v := 0) hx hb dX7_jump_44 (by decide) ?_
      have hq : (sX7_jump I L a0) = ((0 : Int32), (upd I 0 (0 : Int32)), L) := by unfold sX7_jump; exact (if_pos c_1).trans ((if_pos c_2))
      exact jx_zret () hx hb hr hlocks hK hP hD hS (by rw [hq]) (by rw [hq]) (Or.inl rfl) dX7_jump_45
    · skip
      refine lv_lload_n hx hb dX7_jump_22 rfl (lv_at hl 1 rfl) ?_
      refine lv_lconst (v := 0) hx hb dX7_jump_23 (by decide) ?_
      refine jx_l_lt (tgt := 44) hx hb dX7_jump_24 dX7_jump_25 (by decide) (fun c_3 => ?_) (fun c_3 => ?_)
      · skip
        refine lv_iconst (v := 0) hx hb dX7_jump_44 (by decide) ?_
        have hq : (sX7_jump I L a0) = ((0 : Int32), (upd I 0 (0 : Int32)), L) := by unfold sX7_jump; exact (if_pos c_1).trans ((if_neg c_2).trans ((if_pos c_3)))
        exact jx_zret () hx hb hr hlocks hK hP hD hS (by rw [hq]) (by rw [hq]) (Or.inl rfl) dX7_jump_45
      · skip
        refine lv_lload_n hx hb dX7_jump_28 rfl (lv_at hl 1 rfl) ?_
        refine lv_aload_n hx hb dX7_jump_29 rfl (lv_at hl 0 rfl) ?_
        refine jx_get (v := .long (L 10)) hx hb hts iX7_jump_7 hown hK hP 0 rfl rfl 10 (by decide) hk130 rfl rfl dX7_jump_30 ?_
        refine jx_l_ge (tgt := 44) hx hb dX7_jump_33 dX7_jump_34 (by decide) (fun c_4 => ?_) (fun c_4 => ?_)
        · skip
          refine lv_iconst (v := 0) hx hb dX7_jump_44 (by decide) ?_
          have hq : (sX7_jump I L a0) = ((0 : Int32), (upd I 0 (0 : Int32)), L) := by unfold sX7_jump; exact (if_pos c_1).trans ((if_neg c_2).trans ((if_neg c_3).trans ((if_pos c_4))))
          exact jx_zret () hx hb hr hlocks hK hP hD hS (by rw [hq]) (by rw [hq]) (Or.inl rfl) dX7_jump_45
        · skip
          refine lv_aload_n hx hb dX7_jump_37 rfl (lv_at hl 0 rfl) ?_
          refine jx_get (v := .int (I 20)) hx hb hts iX7_jump_7 hown hK hP 0 rfl rfl 20 (by decide) hk47 rfl rfl dX7_jump_38 ?_
          refine lv_if_ne (tgt := 46) hx hb dX7_jump_41 (by decide) (fun c_5 => ?_) (fun c_5 => ?_)
          · skip
            refine lv_aload_n hx hb dX7_jump_46 rfl (lv_at hl 0 rfl) ?_
            refine lv_lload_n hx hb dX7_jump_47 rfl (lv_at hl 1 rfl) ?_
            refine jx_put (w2 := [(h, .inr (7, (oX7 R (upd I 0 (0 : Int32)) (vp_updL L 25 a0))))]) hx hb hts iX7_jump_7 tyX7 tyX7_ok nmX7 hown hK hP hD hS 0 rfl rfl 25 (by decide) hk163 rfl rfl rfl rfl (Nat.le_of_ble_eq_true rfl) dX7_jump_48 rfl (fun H locs hP hD hS => ?_)
            refine lv_iconst (v := 1) hx hb dX7_jump_51 (by decide) ?_
            have hq : (sX7_jump I L a0) = ((1 : Int32), (upd I 0 (0 : Int32)), (vp_updL L 25 a0)) := by unfold sX7_jump; exact (if_pos c_1).trans ((if_neg c_2).trans ((if_neg c_3).trans ((if_neg c_4).trans ((if_neg c_5)))))
            exact jx_zret () hx hb hr hlocks hK hP hD hS (by rw [hq]) (by rw [hq]) (Or.inr rfl) dX7_jump_52
          · skip
            refine lv_iconst (v := 0) hx hb dX7_jump_44 (by decide) ?_
            have hq : (sX7_jump I L a0) = ((0 : Int32), (upd I 0 (0 : Int32)), L) := by unfold sX7_jump; exact (if_pos c_1).trans ((if_neg c_2).trans ((if_neg c_3).trans ((if_neg c_4).trans ((if_pos c_5)))))
            exact jx_zret () hx hb hr hlocks hK hP hD hS (by rw [hq]) (by rw [hq]) (Or.inl rfl) dX7_jump_45

def sX7_speed (I : Nat → Int32) (a0 : UInt32) : Int32 × (Nat → Int32) := (if (I 21) = 0 then (if (Op.cmpValue (FP.fcmp a0 (1114636288 : UInt32)) .l) < 0 then ((0 : Int32), (upd I 0 (0 : Int32))) else (if (Op.cmpValue (FP.fcmp a0 (1133903872 : UInt32)) .g) ≤ 0 then ((1 : Int32), (upd (upd I 0 (0 : Int32)) 24 ((FP.f2i (FP.fmul a0 (1090519040 : UInt32))) * (2 : Int32)))) else ((0 : Int32), (upd I 0 (0 : Int32))))) else ((0 : Int32), (upd I 0 (0 : Int32))))
set_option maxRecDepth 20000 in
theorem iX7_speed_7 : ∀ w ∈ wsX70, w ∈ wsX7_speed := by decide +kernel
set_option maxHeartbeats 4000000 in
set_option maxRecDepth 100000 in
theorem kX7_speed (l : Launch) (D : va_G) (cI cJ cZ cD : ClassId) (tA : Nat) (h : Nat) (R : Nat → Nat) (I : Nat → Int32) (L : Nat → Int64) (a0 : UInt32) (hn : vf_n32 (FP.fmul a0 1090519040)) : jx_M l yX7_speed wsX7_speed ({ frames := 0, cells := 0, slots := 0, locals := 0 }) D (jT cI cJ cZ cD) tA [.ref h, .float a0] [(h, .inr (7, (oX7 R I L)))] (jx_Qi D (jT cI cJ cZ cD) (fun r (_ : Unit) => r = (sX7_speed I a0).1) (fun _ => [(h, .inr (7, (oX7 R (sX7_speed I a0).2 L)))])) := by
  refine jx_of (cc := cX7_speed) (maxL := 2) (ret := (some .boolean)) (by decide +kernel) rfl (Nat.le_of_ble_eq_true rfl) ?_
  intro p e s m below meth c A ls hx hb hr hlocks hml hown hts hK hP hD hA hS hX hl
  have hl : lv_has ls 2 [(0, .ref h), (1, .float a0)] := hl
  have hown : s.vm.findClass RX7 = some m.cls := hown
  have hk51 := hts (.fieldLink RX7 51 "LoomDeskModel" "speed" "I") (by decide +kernel)
  have hk74 := hts (.fieldLink RX7 74 "LoomDeskModel" "thrown" "I") (by decide +kernel)
  have hk151 := hts (.fieldLink RX7 151 "LoomDeskModel" "mode" "I") (by decide +kernel)
  refine lv_aload_n hx hb dX7_speed_0 rfl (lv_at hl 0 rfl) ?_
  refine lv_iconst (v := 0) hx hb dX7_speed_1 (by decide) ?_
  refine jx_put (w2 := [(h, .inr (7, (oX7 R (upd I 0 (0 : Int32)) L)))]) hx hb hts iX7_speed_7 tyX7 tyX7_ok nmX7 hown hK hP hD hS 0 rfl rfl 0 (by decide) hk74 rfl rfl rfl rfl (Nat.le_of_ble_eq_true rfl) dX7_speed_2 rfl (fun H locs hP hD hS => ?_)
  refine lv_aload_n hx hb dX7_speed_5 rfl (lv_at hl 0 rfl) ?_
  refine jx_get (v := .int (I 21)) hx hb hts iX7_speed_7 hown hK hP 0 rfl rfl 21 (by decide) hk151 rfl rfl dX7_speed_6 ?_
  refine lv_if_ne (tgt := 26) hx hb dX7_speed_9 (by decide) (fun c_1 => ?_) (fun c_1 => ?_)
  · skip
    refine lv_iconst (v := 0) hx hb dX7_speed_26 (by decide) ?_
    have hq : (sX7_speed I a0) = ((0 : Int32), (upd I 0 (0 : Int32))) := by unfold sX7_speed; exact (if_neg c_1)
    exact jx_zret () hx hb hr hlocks hK hP hD hS (by rw [hq]) (by rw [hq]) (Or.inl rfl) dX7_speed_27
  · skip
    refine lv_fload_n hx hb dX7_speed_12 rfl (lv_at hl 1 rfl) ?_
    refine lv_ldcf hx hb hown (hts (.constantFloat RX7 243 (1114636288)) (by decide +kernel)) dX7_speed_13 ?_
    refine lv_fcmp hx hb dX7_speed_15 ?_
    refine lv_if_lt (tgt := 26) hx hb dX7_speed_16 (by decide) (fun c_2 => ?_) (fun c_2 => ?_)
    · skip
      refine lv_iconst (v := 0) hx hb dX7_speed_26 (by decide) ?_
      have hq : (sX7_speed I a0) = ((0 : Int32), (upd I 0 (0 : Int32))) := by unfold sX7_speed; exact (if_pos c_1).trans ((if_pos c_2))
      exact jx_zret () hx hb hr hlocks hK hP hD hS (by rw [hq]) (by rw [hq]) (Or.inl rfl) dX7_speed_27
    · skip
      refine lv_fload_n hx hb dX7_speed_19 rfl (lv_at hl 1 rfl) ?_
      refine lv_ldcf hx hb hown (hts (.constantFloat RX7 244 (1133903872)) (by decide +kernel)) dX7_speed_20 ?_
      refine lv_fcmp hx hb dX7_speed_22 ?_
      refine lv_if_le (tgt := 28) hx hb dX7_speed_23 (by decide) (fun c_3 => ?_) (fun c_3 => ?_)
      · skip
        refine lv_aload_n hx hb dX7_speed_28 rfl (lv_at hl 0 rfl) ?_
        refine lv_fload_n hx hb dX7_speed_29 rfl (lv_at hl 1 rfl) ?_
        refine lv_ldcf hx hb hown (hts (.constantFloat RX7 245 (1090519040)) (by decide +kernel)) dX7_speed_30 ?_
        refine lv_fmul hx hb dX7_speed_32 hn ?_
        refine lv_f2i hx hb dX7_speed_33 ?_
        refine lv_iconst (v := 2) hx hb dX7_speed_34 (by decide) ?_
        refine lv_imul hx hb dX7_speed_35 ?_
        refine lv_topi (fun v_4 ev_4 => ?_)
        refine jx_put (w2 := [(h, .inr (7, (oX7 R (upd (upd I 0 (0 : Int32)) 24 v_4) L)))]) hx hb hts iX7_speed_7 tyX7 tyX7_ok nmX7 hown hK hP hD hS 0 rfl rfl 24 (by decide) hk51 rfl rfl rfl rfl (Nat.le_of_ble_eq_true rfl) dX7_speed_36 rfl (fun H locs hP hD hS => ?_)
        refine lv_iconst (v := 1) hx hb dX7_speed_39 (by decide) ?_
        have hq : (sX7_speed I a0) = ((1 : Int32), (upd (upd I 0 (0 : Int32)) 24 v_4)) := by clear hP hD hl; have z_ := ev_4.symm; clear ev_4; subst z_; unfold sX7_speed; exact (if_pos c_1).trans ((if_neg c_2).trans ((if_pos c_3)))
        exact jx_zret () hx hb hr hlocks hK hP hD hS (by rw [hq]) (by rw [hq]) (Or.inr rfl) dX7_speed_40
      · skip
        refine lv_iconst (v := 0) hx hb dX7_speed_26 (by decide) ?_
        have hq : (sX7_speed I a0) = ((0 : Int32), (upd I 0 (0 : Int32))) := by unfold sX7_speed; exact (if_pos c_1).trans ((if_neg c_2).trans ((if_neg c_3)))
        exact jx_zret () hx hb hr hlocks hK hP hD hS (by rw [hq]) (by rw [hq]) (Or.inl rfl) dX7_speed_27

def sX7_cut (I : Nat → Int32) (f39 : Nat → Int32) (a0 : Int32) : Int32 × (Nat → Int32) × (Nat → Int32) := (if (I 20) = 0 then ((0 : Int32), (upd I 0 (0 : Int32)), f39) else (if a0 = 0 then ((1 : Int32), (upd (upd (upd (upd (upd (upd (upd (upd I 0 (0 : Int32)) 20 (0 : Int32)) 21 (0 : Int32)) 26 (0 : Int32)) 27 (0 : Int32)) 28 (0 : Int32)) 29 (0 : Int32)) 38 (0 : Int32)), f39) else ((1 : Int32), (upd (upd (upd (upd (upd (upd (upd (upd I 0 (0 : Int32)) 20 (0 : Int32)) 21 (0 : Int32)) 26 (0 : Int32)) 27 (0 : Int32)) 28 (0 : Int32)) 29 (0 : Int32)) 38 (0 : Int32)), (upd f39 (I 42).toNatClampNeg (0 : Int32)))))
set_option maxRecDepth 20000 in
theorem iX7_cut_7 : ∀ w ∈ wsX70, w ∈ wsX7_cut := by decide +kernel
set_option maxHeartbeats 4000000 in
set_option maxRecDepth 100000 in
theorem kX7_cut (l : Launch) (D : va_G) (cI cJ cZ cD : ClassId) (tA : Nat) (h : Nat) (R : Nat → Nat) (I : Nat → Int32) (L : Nat → Int64) (f39 : Nat → Int32) (a0 : Int32) (hw : I 42 = 0 ∨ I 42 = 1) : jx_M l yX7_cut wsX7_cut ({ frames := 0, cells := 0, slots := 0, locals := 0 }) D (jT cI cJ cZ cD) tA [.ref h, .int a0] [(h, .inr (7, (oX7 R I L))), ((R 39), .inl (cZ, 2, .inl f39))] (jx_Qi D (jT cI cJ cZ cD) (fun r (_ : Unit) => r = (sX7_cut I f39 a0).1) (fun _ => [(h, .inr (7, (oX7 R (sX7_cut I f39 a0).2.1 L))), ((R 39), .inl (cZ, 2, .inl ((sX7_cut I f39 a0).2.2)))])) := by
  refine jx_of (cc := cX7_cut) (maxL := 2) (ret := (some .boolean)) (by decide +kernel) rfl (Nat.le_of_ble_eq_true rfl) ?_
  intro p e s m below meth c A ls hx hb hr hlocks hml hown hts hK hP hD hA hS hX hl
  have hl : lv_has ls 2 [(0, .ref h), (1, .int a0)] := hl
  have hown : s.vm.findClass RX7 = some m.cls := hown
  have hk47 := hts (.fieldLink RX7 47 "LoomDeskModel" "power" "Z") (by decide +kernel)
  have hk64 := hts (.fieldLink RX7 64 "LoomDeskModel" "there" "[Z") (by decide +kernel)
  have hk74 := hts (.fieldLink RX7 74 "LoomDeskModel" "thrown" "I") (by decide +kernel)
  have hk151 := hts (.fieldLink RX7 151 "LoomDeskModel" "mode" "I") (by decide +kernel)
  have hk179 := hts (.fieldLink RX7 179 "LoomDeskModel" "written" "I") (by decide +kernel)
  have hk182 := hts (.fieldLink RX7 182 "LoomDeskModel" "cloths" "I") (by decide +kernel)
  have hk185 := hts (.fieldLink RX7 185 "LoomDeskModel" "shed" "I") (by decide +kernel)
  have hk188 := hts (.fieldLink RX7 188 "LoomDeskModel" "carrier" "I") (by decide +kernel)
  have hk197 := hts (.fieldLink RX7 197 "LoomDeskModel" "broken" "Z") (by decide +kernel)
  have hk200 := hts (.fieldLink RX7 200 "LoomDeskModel" "pick" "I") (by decide +kernel)
  refine lv_aload_n hx hb dX7_cut_0 rfl (lv_at hl 0 rfl) ?_
  refine lv_iconst (v := 0) hx hb dX7_cut_1 (by decide) ?_
  refine jx_put (w2 := [(h, .inr (7, (oX7 R (upd I 0 (0 : Int32)) L))), ((R 39), .inl (cZ, 2, .inl f39))]) hx hb hts iX7_cut_7 tyX7 tyX7_ok nmX7 hown hK hP hD hS 0 rfl rfl 0 (by decide) hk74 rfl rfl rfl rfl (Nat.le_of_ble_eq_true rfl) dX7_cut_2 rfl (fun H locs hP hD hS => ?_)
  refine lv_aload_n hx hb dX7_cut_5 rfl (lv_at hl 0 rfl) ?_
  refine jx_get (v := .int (I 20)) hx hb hts iX7_cut_7 hown hK hP 0 rfl rfl 20 (by decide) hk47 rfl rfl dX7_cut_6 ?_
  refine lv_if_ne (tgt := 14) hx hb dX7_cut_9 (by decide) (fun c_1 => ?_) (fun c_1 => ?_)
  · skip
    refine lv_aload_n hx hb dX7_cut_14 rfl (lv_at hl 0 rfl) ?_
    refine lv_iconst (v := 0) hx hb dX7_cut_15 (by decide) ?_
    refine jx_put (w2 := [(h, .inr (7, (oX7 R (upd (upd I 0 (0 : Int32)) 20 (0 : Int32)) L))), ((R 39), .inl (cZ, 2, .inl f39))]) hx hb hts iX7_cut_7 tyX7 tyX7_ok nmX7 hown hK hP hD hS 0 rfl rfl 20 (by decide) hk47 rfl rfl (jx_bn (Or.inl rfl)) (jx_bf (Or.inl rfl)) (Nat.le_of_ble_eq_true rfl) dX7_cut_16 rfl (fun H locs hP hD hS => ?_)
    refine lv_aload_n hx hb dX7_cut_19 rfl (lv_at hl 0 rfl) ?_
    refine lv_iconst (v := 0) hx hb dX7_cut_20 (by decide) ?_
    refine jx_put (w2 := [(h, .inr (7, (oX7 R (upd (upd (upd I 0 (0 : Int32)) 20 (0 : Int32)) 21 (0 : Int32)) L))), ((R 39), .inl (cZ, 2, .inl f39))]) hx hb hts iX7_cut_7 tyX7 tyX7_ok nmX7 hown hK hP hD hS 0 rfl rfl 21 (by decide) hk151 rfl rfl rfl rfl (Nat.le_of_ble_eq_true rfl) dX7_cut_21 rfl (fun H locs hP hD hS => ?_)
    refine lv_aload_n hx hb dX7_cut_24 rfl (lv_at hl 0 rfl) ?_
    refine lv_iconst (v := 0) hx hb dX7_cut_25 (by decide) ?_
    refine jx_put (w2 := [(h, .inr (7, (oX7 R (upd (upd (upd (upd I 0 (0 : Int32)) 20 (0 : Int32)) 21 (0 : Int32)) 28 (0 : Int32)) L))), ((R 39), .inl (cZ, 2, .inl f39))]) hx hb hts iX7_cut_7 tyX7 tyX7_ok nmX7 hown hK hP hD hS 0 rfl rfl 28 (by decide) hk200 rfl rfl rfl rfl (Nat.le_of_ble_eq_true rfl) dX7_cut_26 rfl (fun H locs hP hD hS => ?_)
    refine lv_aload_n hx hb dX7_cut_29 rfl (lv_at hl 0 rfl) ?_
    refine lv_iconst (v := 0) hx hb dX7_cut_30 (by decide) ?_
    refine jx_put (w2 := [(h, .inr (7, (oX7 R (upd (upd (upd (upd (upd I 0 (0 : Int32)) 20 (0 : Int32)) 21 (0 : Int32)) 28 (0 : Int32)) 29 (0 : Int32)) L))), ((R 39), .inl (cZ, 2, .inl f39))]) hx hb hts iX7_cut_7 tyX7 tyX7_ok nmX7 hown hK hP hD hS 0 rfl rfl 29 (by decide) hk197 rfl rfl (jx_bn (Or.inl rfl)) (jx_bf (Or.inl rfl)) (Nat.le_of_ble_eq_true rfl) dX7_cut_31 rfl (fun H locs hP hD hS => ?_)
    refine lv_aload_n hx hb dX7_cut_34 rfl (lv_at hl 0 rfl) ?_
    refine lv_iconst (v := 0) hx hb dX7_cut_35 (by decide) ?_
    refine jx_put (w2 := [(h, .inr (7, (oX7 R (upd (upd (upd (upd (upd (upd I 0 (0 : Int32)) 20 (0 : Int32)) 21 (0 : Int32)) 26 (0 : Int32)) 28 (0 : Int32)) 29 (0 : Int32)) L))), ((R 39), .inl (cZ, 2, .inl f39))]) hx hb hts iX7_cut_7 tyX7 tyX7_ok nmX7 hown hK hP hD hS 0 rfl rfl 26 (by decide) hk185 rfl rfl rfl rfl (Nat.le_of_ble_eq_true rfl) dX7_cut_36 rfl (fun H locs hP hD hS => ?_)
    refine lv_aload_n hx hb dX7_cut_39 rfl (lv_at hl 0 rfl) ?_
    refine lv_iconst (v := 0) hx hb dX7_cut_40 (by decide) ?_
    refine jx_put (w2 := [(h, .inr (7, (oX7 R (upd (upd (upd (upd (upd (upd (upd I 0 (0 : Int32)) 20 (0 : Int32)) 21 (0 : Int32)) 26 (0 : Int32)) 27 (0 : Int32)) 28 (0 : Int32)) 29 (0 : Int32)) L))), ((R 39), .inl (cZ, 2, .inl f39))]) hx hb hts iX7_cut_7 tyX7 tyX7_ok nmX7 hown hK hP hD hS 0 rfl rfl 27 (by decide) hk188 rfl rfl rfl rfl (Nat.le_of_ble_eq_true rfl) dX7_cut_41 rfl (fun H locs hP hD hS => ?_)
    refine lv_aload_n hx hb dX7_cut_44 rfl (lv_at hl 0 rfl) ?_
    refine lv_iconst (v := 0) hx hb dX7_cut_45 (by decide) ?_
    refine jx_put (w2 := [(h, .inr (7, (oX7 R (upd (upd (upd (upd (upd (upd (upd (upd I 0 (0 : Int32)) 20 (0 : Int32)) 21 (0 : Int32)) 26 (0 : Int32)) 27 (0 : Int32)) 28 (0 : Int32)) 29 (0 : Int32)) 38 (0 : Int32)) L))), ((R 39), .inl (cZ, 2, .inl f39))]) hx hb hts iX7_cut_7 tyX7 tyX7_ok nmX7 hown hK hP hD hS 0 rfl rfl 38 (by decide) hk182 rfl rfl rfl rfl (Nat.le_of_ble_eq_true rfl) dX7_cut_46 rfl (fun H locs hP hD hS => ?_)
    refine lv_iload_n hx hb dX7_cut_49 rfl (lv_at hl 1 rfl) ?_
    refine lv_if_eq (tgt := 63) hx hb dX7_cut_50 (by decide) (fun c_2 => ?_) (fun c_2 => ?_)
    · skip
      refine lv_iconst (v := 1) hx hb dX7_cut_63 (by decide) ?_
      have hq : (sX7_cut I f39 a0) = ((1 : Int32), (upd (upd (upd (upd (upd (upd (upd (upd I 0 (0 : Int32)) 20 (0 : Int32)) 21 (0 : Int32)) 26 (0 : Int32)) 27 (0 : Int32)) 28 (0 : Int32)) 29 (0 : Int32)) 38 (0 : Int32)), f39) := by unfold sX7_cut; exact (if_neg c_1).trans ((if_pos c_2))
      exact jx_zret () hx hb hr hlocks hK hP hD hS (by rw [hq]) (by rw [hq]) (Or.inr rfl) dX7_cut_64
    · skip
      refine lv_aload_n hx hb dX7_cut_53 rfl (lv_at hl 0 rfl) ?_
      refine jx_get (v := .ref (R 39)) hx hb hts iX7_cut_7 hown hK hP 0 rfl rfl 39 (by decide) hk64 rfl rfl dX7_cut_54 ?_
      refine lv_aload_n hx hb dX7_cut_57 rfl (lv_at hl 0 rfl) ?_
      refine jx_get (v := .int (I 42)) hx hb hts iX7_cut_7 hown hK hP 0 rfl rfl 42 (by decide) hk179 rfl rfl dX7_cut_58 ?_
      refine lv_iconst (v := 0) hx hb dX7_cut_61 (by decide) ?_
      refine jx_zast (w2 := [(h, .inr (7, (oX7 R (upd (upd (upd (upd (upd (upd (upd (upd I 0 (0 : Int32)) 20 (0 : Int32)) 21 (0 : Int32)) 26 (0 : Int32)) 27 (0 : Int32)) 28 (0 : Int32)) 29 (0 : Int32)) 38 (0 : Int32)) L))), ((R 39), .inl (cZ, 2, .inl (upd f39 (I 42).toNatClampNeg (0 : Int32))))]) hx hb hK hP hD hS 1 2 rfl rfl (by exact jx_in2 hw) (Or.inl rfl) dX7_cut_62 rfl (fun H locs hP hD hS => ?_)
      refine lv_iconst (v := 1) hx hb dX7_cut_63 (by decide) ?_
      have hq : (sX7_cut I f39 a0) = ((1 : Int32), (upd (upd (upd (upd (upd (upd (upd (upd I 0 (0 : Int32)) 20 (0 : Int32)) 21 (0 : Int32)) 26 (0 : Int32)) 27 (0 : Int32)) 28 (0 : Int32)) 29 (0 : Int32)) 38 (0 : Int32)), (upd f39 (I 42).toNatClampNeg (0 : Int32))) := by unfold sX7_cut; exact (if_neg c_1).trans ((if_neg c_2))
      exact jx_zret () hx hb hr hlocks hK hP hD hS (by rw [hq]) (by rw [hq]) (Or.inr rfl) dX7_cut_64
  · skip
    refine lv_iconst (v := 0) hx hb dX7_cut_12 (by decide) ?_
    have hq : (sX7_cut I f39 a0) = ((0 : Int32), (upd I 0 (0 : Int32)), f39) := by unfold sX7_cut; exact (if_pos c_1)
    exact jx_zret () hx hb hr hlocks hK hP hD hS (by rw [hq]) (by rw [hq]) (Or.inl rfl) dX7_cut_13

def sX7_on (I : Nat → Int32) (L : Nat → Int64) (f39 : Nat → Int32) (f40 : Nat → Int32) (f41 : Nat → Int64) : Int32 × (Nat → Int32) × (Nat → Int64) := (if (I 20) = 0 then (if (if (f39 (I 42).toNatClampNeg) = 0 then (if (f39 ((1 : Int32) - (I 42)).toNatClampNeg) = 0 then (-1 : Int32) else ((1 : Int32) - (I 42))) else (I 42)) = (-1 : Int32) then ((1 : Int32), (upd (upd (upd I 0 (0 : Int32)) 20 (1 : Int32)) 28 (if (I 22) < (1440 : Int32) then (0 : Int32) else (1 : Int32))), (vp_updL L 25 (if (if (f39 (I 42).toNatClampNeg) = 0 then (if (f39 ((1 : Int32) - (I 42)).toNatClampNeg) = 0 then (-1 : Int32) else ((1 : Int32) - (I 42))) else (I 42)) = (-1 : Int32) then (0 : Int64) else (f41 (if (f39 (I 42).toNatClampNeg) = 0 then (if (f39 ((1 : Int32) - (I 42)).toNatClampNeg) = 0 then (-1 : Int32) else ((1 : Int32) - (I 42))) else (I 42)).toNatClampNeg)))) else (if (f40 (if (f39 (I 42).toNatClampNeg) = 0 then (if (f39 ((1 : Int32) - (I 42)).toNatClampNeg) = 0 then (-1 : Int32) else ((1 : Int32) - (I 42))) else (I 42)).toNatClampNeg) = 0 then ((1 : Int32), (upd (upd (upd I 0 (0 : Int32)) 20 (1 : Int32)) 28 (if (I 22) < (1440 : Int32) then (0 : Int32) else (1 : Int32))), (vp_updL L 25 (if (if (f39 (I 42).toNatClampNeg) = 0 then (if (f39 ((1 : Int32) - (I 42)).toNatClampNeg) = 0 then (-1 : Int32) else ((1 : Int32) - (I 42))) else (I 42)) = (-1 : Int32) then (0 : Int64) else (f41 (if (f39 (I 42).toNatClampNeg) = 0 then (if (f39 ((1 : Int32) - (I 42)).toNatClampNeg) = 0 then (-1 : Int32) else ((1 : Int32) - (I 42))) else (I 42)).toNatClampNeg)))) else (if (4800 : Int32) ≤ (I 22) then ((1 : Int32), (upd (upd (upd I 0 (0 : Int32)) 20 (1 : Int32)) 28 (if (I 22) < (1440 : Int32) then (0 : Int32) else (1 : Int32))), (vp_updL L 25 (if (if (f39 (I 42).toNatClampNeg) = 0 then (if (f39 ((1 : Int32) - (I 42)).toNatClampNeg) = 0 then (-1 : Int32) else ((1 : Int32) - (I 42))) else (I 42)) = (-1 : Int32) then (0 : Int64) else (f41 (if (f39 (I 42).toNatClampNeg) = 0 then (if (f39 ((1 : Int32) - (I 42)).toNatClampNeg) = 0 then (-1 : Int32) else ((1 : Int32) - (I 42))) else (I 42)).toNatClampNeg)))) else (if ((if (if (f39 (I 42).toNatClampNeg) = 0 then (if (f39 ((1 : Int32) - (I 42)).toNatClampNeg) = 0 then (-1 : Int32) else ((1 : Int32) - (I 42))) else (I 42)) = (-1 : Int32) then (0 : Int64) else (f41 (if (f39 (I 42).toNatClampNeg) = 0 then (if (f39 ((1 : Int32) - (I 42)).toNatClampNeg) = 0 then (-1 : Int32) else ((1 : Int32) - (I 42))) else (I 42)).toNatClampNeg)) + (1 : Int64)) = (L 10) then ((1 : Int32), (upd (upd (upd I 0 (0 : Int32)) 20 (1 : Int32)) 28 (if (I 22) < (1440 : Int32) then (0 : Int32) else (1 : Int32))), (vp_updL L 25 (0 : Int64))) else ((1 : Int32), (upd (upd (upd I 0 (0 : Int32)) 20 (1 : Int32)) 28 (if (I 22) < (1440 : Int32) then (0 : Int32) else (1 : Int32))), (vp_updL L 25 ((if (if (f39 (I 42).toNatClampNeg) = 0 then (if (f39 ((1 : Int32) - (I 42)).toNatClampNeg) = 0 then (-1 : Int32) else ((1 : Int32) - (I 42))) else (I 42)) = (-1 : Int32) then (0 : Int64) else (f41 (if (f39 (I 42).toNatClampNeg) = 0 then (if (f39 ((1 : Int32) - (I 42)).toNatClampNeg) = 0 then (-1 : Int32) else ((1 : Int32) - (I 42))) else (I 42)).toNatClampNeg)) + (1 : Int64)))))))) else ((0 : Int32), (upd I 0 (0 : Int32)), L))
set_option maxRecDepth 20000 in
theorem iX7_on_7 : ∀ w ∈ wsX70, w ∈ wsX7_on := by decide +kernel
set_option maxHeartbeats 4000000 in
set_option maxRecDepth 100000 in
theorem kX7_on (l : Launch) (D : va_G) (cI cJ cZ cD : ClassId) (tA : Nat) (h : Nat) (R : Nat → Nat) (I : Nat → Int32) (L : Nat → Int64) (f39 : Nat → Int32) (f40 : Nat → Int32) (f41 : Nat → Int64) (hw : I 42 = 0 ∨ I 42 = 1) : jx_M l yX7_on wsX7_on ({ frames := 0, cells := 0, slots := 0, locals := 0 }) D (jT cI cJ cZ cD) tA [.ref h] [(h, .inr (7, (oX7 R I L))), ((R 39), .inl (cZ, 2, .inl f39)), ((R 40), .inl (cZ, 2, .inl f40)), ((R 41), .inl (cJ, 2, .inr (.inl f41)))] (jx_Qi D (jT cI cJ cZ cD) (fun r (_ : Unit) => r = (sX7_on I L f39 f40 f41).1) (fun _ => [(h, .inr (7, (oX7 R (sX7_on I L f39 f40 f41).2.1 (sX7_on I L f39 f40 f41).2.2))), ((R 39), .inl (cZ, 2, .inl f39)), ((R 40), .inl (cZ, 2, .inl f40)), ((R 41), .inl (cJ, 2, .inr (.inl f41)))])) := by
  refine jx_of (cc := cX7_on) (maxL := 2) (ret := (some .boolean)) (by decide +kernel) rfl (Nat.le_of_ble_eq_true rfl) ?_
  intro p e s m below meth c A ls hx hb hr hlocks hml hown hts hK hP hD hA hS hX hl
  have hl : lv_has ls 2 [(0, .ref h)] := hl
  have hown : s.vm.findClass RX7 = some m.cls := hown
  have hk47 := hts (.fieldLink RX7 47 "LoomDeskModel" "power" "Z") (by decide +kernel)
  have hk64 := hts (.fieldLink RX7 64 "LoomDeskModel" "there" "[Z") (by decide +kernel)
  have hk68 := hts (.fieldLink RX7 68 "LoomDeskModel" "upper" "[Z") (by decide +kernel)
  have hk71 := hts (.fieldLink RX7 71 "LoomDeskModel" "recorded" "[J") (by decide +kernel)
  have hk74 := hts (.fieldLink RX7 74 "LoomDeskModel" "thrown" "I") (by decide +kernel)
  have hk130 := hts (.fieldLink RX7 130 "LoomDeskModel" "length" "J") (by decide +kernel)
  have hk163 := hts (.fieldLink RX7 163 "LoomDeskModel" "place" "J") (by decide +kernel)
  have hk179 := hts (.fieldLink RX7 179 "LoomDeskModel" "written" "I") (by decide +kernel)
  have hk200 := hts (.fieldLink RX7 200 "LoomDeskModel" "pick" "I") (by decide +kernel)
  have hk220 := hts (.fieldLink RX7 220 "LoomDeskModel" "angle" "I") (by decide +kernel)
  refine lv_aload_n hx hb dX7_on_0 rfl (lv_at hl 0 rfl) ?_
  refine lv_iconst (v := 0) hx hb dX7_on_1 (by decide) ?_
  refine jx_put (w2 := [(h, .inr (7, (oX7 R (upd I 0 (0 : Int32)) L))), ((R 39), .inl (cZ, 2, .inl f39)), ((R 40), .inl (cZ, 2, .inl f40)), ((R 41), .inl (cJ, 2, .inr (.inl f41)))]) hx hb hts iX7_on_7 tyX7 tyX7_ok nmX7 hown hK hP hD hS 0 rfl rfl 0 (by decide) hk74 rfl rfl rfl rfl (Nat.le_of_ble_eq_true rfl) dX7_on_2 rfl (fun H locs hP hD hS => ?_)
  refine lv_aload_n hx hb dX7_on_5 rfl (lv_at hl 0 rfl) ?_
  refine jx_get (v := .int (I 20)) hx hb hts iX7_on_7 hown hK hP 0 rfl rfl 20 (by decide) hk47 rfl rfl dX7_on_6 ?_
  refine lv_if_eq (tgt := 14) hx hb dX7_on_9 (by decide) (fun c_1 => ?_) (fun c_1 => ?_)
  · skip
    refine lv_aload_n hx hb dX7_on_14 rfl (lv_at hl 0 rfl) ?_
    refine lv_iconst (v := 1) hx hb dX7_on_15 (by decide) ?_
    refine jx_put (w2 := [(h, .inr (7, (oX7 R (upd (upd I 0 (0 : Int32)) 20 (1 : Int32)) L))), ((R 39), .inl (cZ, 2, .inl f39)), ((R 40), .inl (cZ, 2, .inl f40)), ((R 41), .inl (cJ, 2, .inr (.inl f41)))]) hx hb hts iX7_on_7 tyX7 tyX7_ok nmX7 hown hK hP hD hS 0 rfl rfl 20 (by decide) hk47 rfl rfl (jx_bn (Or.inr rfl)) (jx_bf (Or.inr rfl)) (Nat.le_of_ble_eq_true rfl) dX7_on_16 rfl (fun H locs hP hD hS => ?_)
    refine lv_aload_n hx hb dX7_on_19 rfl (lv_at hl 0 rfl) ?_
    refine jx_get (v := .ref (R 39)) hx hb hts iX7_on_7 hown hK hP 0 rfl rfl 39 (by decide) hk64 rfl rfl dX7_on_20 ?_
    refine lv_aload_n hx hb dX7_on_23 rfl (lv_at hl 0 rfl) ?_
    refine jx_get (v := .int (I 42)) hx hb hts iX7_on_7 hown hK hP 0 rfl rfl 42 (by decide) hk179 rfl rfl dX7_on_24 ?_
    refine va_zald hx hb hK hP 1 2 rfl rfl (by first | exact jx_in2 hw | exact rec_in hw) dX7_on_27 ?_
    refine jx_joini (J := 62) (v := (if (f39 (I 42).toNatClampNeg) = 0 then (if (f39 ((1 : Int32) - (I 42)).toNatClampNeg) = 0 then (-1 : Int32) else ((1 : Int32) - (I 42))) else (I 42))) (rest := []) (fun key => ?_) ?_
    · skip
      refine lv_if_eq (tgt := 38) hx hb dX7_on_28 (by decide) (fun c_2 => ?_) (fun c_2 => ?_)
      · skip
        refine lv_aload_n hx hb dX7_on_38 rfl (lv_at hl 0 rfl) ?_
        refine jx_get (v := .ref (R 39)) hx hb hts iX7_on_7 hown hK hP 0 rfl rfl 39 (by decide) hk64 rfl rfl dX7_on_39 ?_
        refine lv_iconst (v := 1) hx hb dX7_on_42 (by decide) ?_
        refine lv_aload_n hx hb dX7_on_43 rfl (lv_at hl 0 rfl) ?_
        refine jx_get (v := .int (I 42)) hx hb hts iX7_on_7 hown hK hP 0 rfl rfl 42 (by decide) hk179 rfl rfl dX7_on_44 ?_
        refine lv_isub hx hb dX7_on_47 ?_
        refine va_zald hx hb hK hP 1 2 rfl rfl (by first | exact jx_in2 hw | exact rec_in hw) dX7_on_48 ?_
        refine lv_if_eq (tgt := 61) hx hb dX7_on_49 (by decide) (fun c_3 => ?_) (fun c_3 => ?_)
        · skip
          refine lv_iconst (v := -1) hx hb dX7_on_61 (by decide) ?_
          rw [if_pos c_2, if_pos c_3] at key
          exact key
        · skip
          refine lv_iconst (v := 1) hx hb dX7_on_52 (by decide) ?_
          refine lv_aload_n hx hb dX7_on_53 rfl (lv_at hl 0 rfl) ?_
          refine jx_get (v := .int (I 42)) hx hb hts iX7_on_7 hown hK hP 0 rfl rfl 42 (by decide) hk179 rfl rfl dX7_on_54 ?_
          refine lv_isub hx hb dX7_on_57 ?_
          refine lv_goto (tgt := 62) hx hb dX7_on_58 (by decide) ?_
          rw [if_pos c_2, if_neg c_3] at key
          exact key
      · skip
        refine lv_aload_n hx hb dX7_on_31 rfl (lv_at hl 0 rfl) ?_
        refine jx_get (v := .int (I 42)) hx hb hts iX7_on_7 hown hK hP 0 rfl rfl 42 (by decide) hk179 rfl rfl dX7_on_32 ?_
        refine lv_goto (tgt := 62) hx hb dX7_on_35 (by decide) ?_
        rw [if_neg c_2] at key
        exact key
    refine lv_topi (fun v_4 ev_4 => ?_)
    refine lv_istore_n (lv' := [(1, .int v_4), (0, .ref h)]) hx hb dX7_on_62 rfl hl (by decide) rfl (fun ls hl => ?_)
    refine lv_aload_n hx hb dX7_on_63 rfl (lv_at hl 1 rfl) ?_
    refine lv_iload_n hx hb dX7_on_64 rfl (lv_at hl 0 rfl) ?_
    refine lv_iconst (v := -1) hx hb dX7_on_65 (by decide) ?_
    refine jx_joinl (J := 79) (v := (if v_4 = (-1 : Int32) then (0 : Int64) else (f41 v_4.toNatClampNeg))) (rest := [.ref h]) (fun key => ?_) ?_
    · skip
      refine lv_icmp_ne (tgt := 73) hx hb dX7_on_66 (by decide) (fun c_5 => ?_) (fun c_5 => ?_)
      · skip
        refine lv_aload_n hx hb dX7_on_73 rfl (lv_at hl 1 rfl) ?_
        refine jx_get (v := .ref (R 41)) hx hb hts iX7_on_7 hown hK hP 0 rfl rfl 41 (by decide) hk71 rfl rfl dX7_on_74 ?_
        refine lv_iload_n hx hb dX7_on_77 rfl (lv_at hl 0 rfl) ?_
        refine va_lald hx hb hK hP 3 1 rfl rfl (on_in hw ev_4 c_5) dX7_on_78 ?_
        rw [if_neg c_5] at key
        exact key
      · skip
        refine lv_lconst (v := 0) hx hb dX7_on_69 (by decide) ?_
        refine lv_goto (tgt := 79) hx hb dX7_on_70 (by decide) ?_
        rw [if_pos c_5] at key
        exact key
    refine lv_topl (fun v_6 ev_6 => ?_)
    refine jx_put (w2 := [(h, .inr (7, (oX7 R (upd (upd I 0 (0 : Int32)) 20 (1 : Int32)) (vp_updL L 25 v_6)))), ((R 39), .inl (cZ, 2, .inl f39)), ((R 40), .inl (cZ, 2, .inl f40)), ((R 41), .inl (cJ, 2, .inr (.inl f41)))]) hx hb hts iX7_on_7 tyX7 tyX7_ok nmX7 hown hK hP hD hS 0 rfl rfl 25 (by decide) hk163 rfl rfl rfl rfl (Nat.le_of_ble_eq_true rfl) dX7_on_79 rfl (fun H locs hP hD hS => ?_)
    refine lv_iload_n hx hb dX7_on_82 rfl (lv_at hl 0 rfl) ?_
    refine lv_iconst (v := -1) hx hb dX7_on_83 (by decide) ?_
    refine lv_icmp_eq (tgt := 134) hx hb dX7_on_84 (by decide) (fun c_7 => ?_) (fun c_7 => ?_)
    · skip
      refine lv_aload_n hx hb dX7_on_134 rfl (lv_at hl 1 rfl) ?_
      refine lv_aload_n hx hb dX7_on_135 rfl (lv_at hl 1 rfl) ?_
      refine jx_get (v := .int (I 22)) hx hb hts iX7_on_7 hown hK hP 0 rfl rfl 22 (by decide) hk220 rfl rfl dX7_on_136 ?_
      refine lv_sipush (v := 1440) hx hb dX7_on_139 (by decide) ?_
      refine jx_joini (J := 150) (v := (if (I 22) < (1440 : Int32) then (0 : Int32) else (1 : Int32))) (rest := [.ref h]) (fun key => ?_) ?_
      · skip
        refine lv_icmp_lt (tgt := 149) hx hb dX7_on_142 (by decide) (fun c_8 => ?_) (fun c_8 => ?_)
        · skip
          refine lv_iconst (v := 0) hx hb dX7_on_149 (by decide) ?_
          rw [if_pos c_8] at key
          exact key
        · skip
          refine lv_iconst (v := 1) hx hb dX7_on_145 (by decide) ?_
          refine lv_goto (tgt := 150) hx hb dX7_on_146 (by decide) ?_
          rw [if_neg c_8] at key
          exact key
      refine lv_topi (fun v_9 ev_9 => ?_)
      refine jx_put (w2 := [(h, .inr (7, (oX7 R (upd (upd (upd I 0 (0 : Int32)) 20 (1 : Int32)) 28 v_9) (vp_updL L 25 v_6)))), ((R 39), .inl (cZ, 2, .inl f39)), ((R 40), .inl (cZ, 2, .inl f40)), ((R 41), .inl (cJ, 2, .inr (.inl f41)))]) hx hb hts iX7_on_7 tyX7 tyX7_ok nmX7 hown hK hP hD hS 0 rfl rfl 28 (by decide) hk200 rfl rfl rfl rfl (Nat.le_of_ble_eq_true rfl) dX7_on_150 rfl (fun H locs hP hD hS => ?_)
      refine lv_iconst (v := 1) hx hb dX7_on_153 (by decide) ?_
      have hq : (sX7_on I L f39 f40 f41) = ((1 : Int32), (upd (upd (upd I 0 (0 : Int32)) 20 (1 : Int32)) 28 v_9), (vp_updL L 25 v_6)) := by clear hP hD hl; have z_ := ev_9.symm; clear ev_9; subst z_; have z_ := ev_6.symm; clear ev_6; subst z_; have z_ := ev_4.symm; clear ev_4; subst z_; unfold sX7_on; exact (if_pos c_1).trans ((if_pos c_7))
      exact jx_zret () hx hb hr hlocks hK hP hD hS (by rw [hq]) (by rw [hq]) (Or.inr rfl) dX7_on_154
    · skip
      refine lv_aload_n hx hb dX7_on_87 rfl (lv_at hl 1 rfl) ?_
      refine jx_get (v := .ref (R 40)) hx hb hts iX7_on_7 hown hK hP 0 rfl rfl 40 (by decide) hk68 rfl rfl dX7_on_88 ?_
      refine lv_iload_n hx hb dX7_on_91 rfl (lv_at hl 0 rfl) ?_
      refine va_zald hx hb hK hP 2 2 rfl rfl (on_in hw ev_4 c_7) dX7_on_92 ?_
      refine lv_if_eq (tgt := 134) hx hb dX7_on_93 (by decide) (fun c_10 => ?_) (fun c_10 => ?_)
      · skip
        refine lv_aload_n hx hb dX7_on_134 rfl (lv_at hl 1 rfl) ?_
        refine lv_aload_n hx hb dX7_on_135 rfl (lv_at hl 1 rfl) ?_
        refine jx_get (v := .int (I 22)) hx hb hts iX7_on_7 hown hK hP 0 rfl rfl 22 (by decide) hk220 rfl rfl dX7_on_136 ?_
        refine lv_sipush (v := 1440) hx hb dX7_on_139 (by decide) ?_
        refine jx_joini (J := 150) (v := (if (I 22) < (1440 : Int32) then (0 : Int32) else (1 : Int32))) (rest := [.ref h]) (fun key => ?_) ?_
        · skip
          refine lv_icmp_lt (tgt := 149) hx hb dX7_on_142 (by decide) (fun c_11 => ?_) (fun c_11 => ?_)
          · skip
            refine lv_iconst (v := 0) hx hb dX7_on_149 (by decide) ?_
            rw [if_pos c_11] at key
            exact key
          · skip
            refine lv_iconst (v := 1) hx hb dX7_on_145 (by decide) ?_
            refine lv_goto (tgt := 150) hx hb dX7_on_146 (by decide) ?_
            rw [if_neg c_11] at key
            exact key
        refine lv_topi (fun v_12 ev_12 => ?_)
        refine jx_put (w2 := [(h, .inr (7, (oX7 R (upd (upd (upd I 0 (0 : Int32)) 20 (1 : Int32)) 28 v_12) (vp_updL L 25 v_6)))), ((R 39), .inl (cZ, 2, .inl f39)), ((R 40), .inl (cZ, 2, .inl f40)), ((R 41), .inl (cJ, 2, .inr (.inl f41)))]) hx hb hts iX7_on_7 tyX7 tyX7_ok nmX7 hown hK hP hD hS 0 rfl rfl 28 (by decide) hk200 rfl rfl rfl rfl (Nat.le_of_ble_eq_true rfl) dX7_on_150 rfl (fun H locs hP hD hS => ?_)
        refine lv_iconst (v := 1) hx hb dX7_on_153 (by decide) ?_
        have hq : (sX7_on I L f39 f40 f41) = ((1 : Int32), (upd (upd (upd I 0 (0 : Int32)) 20 (1 : Int32)) 28 v_12), (vp_updL L 25 v_6)) := by clear hP hD hl; have z_ := ev_12.symm; clear ev_12; subst z_; have z_ := ev_6.symm; clear ev_6; subst z_; have z_ := ev_4.symm; clear ev_4; subst z_; unfold sX7_on; exact (if_pos c_1).trans ((if_neg c_7).trans ((if_pos c_10)))
        exact jx_zret () hx hb hr hlocks hK hP hD hS (by rw [hq]) (by rw [hq]) (Or.inr rfl) dX7_on_154
      · skip
        refine lv_aload_n hx hb dX7_on_96 rfl (lv_at hl 1 rfl) ?_
        refine jx_get (v := .int (I 22)) hx hb hts iX7_on_7 hown hK hP 0 rfl rfl 22 (by decide) hk220 rfl rfl dX7_on_97 ?_
        refine lv_sipush (v := 4800) hx hb dX7_on_100 (by decide) ?_
        refine lv_icmp_ge (tgt := 134) hx hb dX7_on_103 (by decide) (fun c_13 => ?_) (fun c_13 => ?_)
        · skip
          refine lv_aload_n hx hb dX7_on_134 rfl (lv_at hl 1 rfl) ?_
          refine lv_aload_n hx hb dX7_on_135 rfl (lv_at hl 1 rfl) ?_
          refine jx_get (v := .int (I 22)) hx hb hts iX7_on_7 hown hK hP 0 rfl rfl 22 (by decide) hk220 rfl rfl dX7_on_136 ?_
          refine lv_sipush (v := 1440) hx hb dX7_on_139 (by decide) ?_
          refine jx_joini (J := 150) (v := (if (I 22) < (1440 : Int32) then (0 : Int32) else (1 : Int32))) (rest := [.ref h]) (fun key => ?_) ?_
          · skip
            refine lv_icmp_lt (tgt := 149) hx hb dX7_on_142 (by decide) (fun c_14 => ?_) (fun c_14 => ?_)
            · skip
              refine lv_iconst (v := 0) hx hb dX7_on_149 (by decide) ?_
              rw [if_pos c_14] at key
              exact key
            · skip
              refine lv_iconst (v := 1) hx hb dX7_on_145 (by decide) ?_
              refine lv_goto (tgt := 150) hx hb dX7_on_146 (by decide) ?_
              rw [if_neg c_14] at key
              exact key
          refine lv_topi (fun v_15 ev_15 => ?_)
          refine jx_put (w2 := [(h, .inr (7, (oX7 R (upd (upd (upd I 0 (0 : Int32)) 20 (1 : Int32)) 28 v_15) (vp_updL L 25 v_6)))), ((R 39), .inl (cZ, 2, .inl f39)), ((R 40), .inl (cZ, 2, .inl f40)), ((R 41), .inl (cJ, 2, .inr (.inl f41)))]) hx hb hts iX7_on_7 tyX7 tyX7_ok nmX7 hown hK hP hD hS 0 rfl rfl 28 (by decide) hk200 rfl rfl rfl rfl (Nat.le_of_ble_eq_true rfl) dX7_on_150 rfl (fun H locs hP hD hS => ?_)
          refine lv_iconst (v := 1) hx hb dX7_on_153 (by decide) ?_
          have hq : (sX7_on I L f39 f40 f41) = ((1 : Int32), (upd (upd (upd I 0 (0 : Int32)) 20 (1 : Int32)) 28 v_15), (vp_updL L 25 v_6)) := by clear hP hD hl; have z_ := ev_15.symm; clear ev_15; subst z_; have z_ := ev_6.symm; clear ev_6; subst z_; have z_ := ev_4.symm; clear ev_4; subst z_; unfold sX7_on; exact (if_pos c_1).trans ((if_neg c_7).trans ((if_neg c_10).trans ((if_pos c_13))))
          exact jx_zret () hx hb hr hlocks hK hP hD hS (by rw [hq]) (by rw [hq]) (Or.inr rfl) dX7_on_154
        · skip
          refine lv_aload_n hx hb dX7_on_106 rfl (lv_at hl 1 rfl) ?_
          refine lv_aload_n hx hb dX7_on_107 rfl (lv_at hl 1 rfl) ?_
          refine jx_get (v := .long v_6) hx hb hts iX7_on_7 hown hK hP 0 rfl rfl 25 (by decide) hk163 rfl rfl dX7_on_108 ?_
          refine lv_lconst (v := 1) hx hb dX7_on_111 (by decide) ?_
          refine lv_ladd hx hb dX7_on_112 ?_
          refine lv_aload_n hx hb dX7_on_113 rfl (lv_at hl 1 rfl) ?_
          refine jx_get (v := .long (L 10)) hx hb hts iX7_on_7 hown hK hP 0 rfl rfl 10 (by decide) hk130 rfl rfl dX7_on_114 ?_
          refine jx_l_ne (tgt := 125) hx hb dX7_on_117 dX7_on_118 (by decide) (fun c_16 => ?_) (fun c_16 => ?_)
          · skip
            refine lv_aload_n hx hb dX7_on_125 rfl (lv_at hl 1 rfl) ?_
            refine jx_get (v := .long v_6) hx hb hts iX7_on_7 hown hK hP 0 rfl rfl 25 (by decide) hk163 rfl rfl dX7_on_126 ?_
            refine lv_lconst (v := 1) hx hb dX7_on_129 (by decide) ?_
            refine lv_ladd hx hb dX7_on_130 ?_
            refine lv_topl (fun v_17 ev_17 => ?_)
            refine jx_put (w2 := [(h, .inr (7, (oX7 R (upd (upd I 0 (0 : Int32)) 20 (1 : Int32)) (vp_updL L 25 v_17)))), ((R 39), .inl (cZ, 2, .inl f39)), ((R 40), .inl (cZ, 2, .inl f40)), ((R 41), .inl (cJ, 2, .inr (.inl f41)))]) hx hb hts iX7_on_7 tyX7 tyX7_ok nmX7 hown hK hP hD hS 0 rfl rfl 25 (by decide) hk163 rfl rfl rfl rfl (Nat.le_of_ble_eq_true rfl) dX7_on_131 rfl (fun H locs hP hD hS => ?_)
            refine lv_aload_n hx hb dX7_on_134 rfl (lv_at hl 1 rfl) ?_
            refine lv_aload_n hx hb dX7_on_135 rfl (lv_at hl 1 rfl) ?_
            refine jx_get (v := .int (I 22)) hx hb hts iX7_on_7 hown hK hP 0 rfl rfl 22 (by decide) hk220 rfl rfl dX7_on_136 ?_
            refine lv_sipush (v := 1440) hx hb dX7_on_139 (by decide) ?_
            refine jx_joini (J := 150) (v := (if (I 22) < (1440 : Int32) then (0 : Int32) else (1 : Int32))) (rest := [.ref h]) (fun key => ?_) ?_
            · skip
              refine lv_icmp_lt (tgt := 149) hx hb dX7_on_142 (by decide) (fun c_18 => ?_) (fun c_18 => ?_)
              · skip
                refine lv_iconst (v := 0) hx hb dX7_on_149 (by decide) ?_
                rw [if_pos c_18] at key
                exact key
              · skip
                refine lv_iconst (v := 1) hx hb dX7_on_145 (by decide) ?_
                refine lv_goto (tgt := 150) hx hb dX7_on_146 (by decide) ?_
                rw [if_neg c_18] at key
                exact key
            refine lv_topi (fun v_19 ev_19 => ?_)
            refine jx_put (w2 := [(h, .inr (7, (oX7 R (upd (upd (upd I 0 (0 : Int32)) 20 (1 : Int32)) 28 v_19) (vp_updL L 25 v_17)))), ((R 39), .inl (cZ, 2, .inl f39)), ((R 40), .inl (cZ, 2, .inl f40)), ((R 41), .inl (cJ, 2, .inr (.inl f41)))]) hx hb hts iX7_on_7 tyX7 tyX7_ok nmX7 hown hK hP hD hS 0 rfl rfl 28 (by decide) hk200 rfl rfl rfl rfl (Nat.le_of_ble_eq_true rfl) dX7_on_150 rfl (fun H locs hP hD hS => ?_)
            refine lv_iconst (v := 1) hx hb dX7_on_153 (by decide) ?_
            have hq : (sX7_on I L f39 f40 f41) = ((1 : Int32), (upd (upd (upd I 0 (0 : Int32)) 20 (1 : Int32)) 28 v_19), (vp_updL L 25 v_17)) := by clear hP hD hl; have z_ := ev_19.symm; clear ev_19; subst z_; have z_ := ev_17.symm; clear ev_17; subst z_; have z_ := ev_6.symm; clear ev_6; subst z_; have z_ := ev_4.symm; clear ev_4; subst z_; unfold sX7_on; exact (if_pos c_1).trans ((if_neg c_7).trans ((if_neg c_10).trans ((if_neg c_13).trans ((if_neg c_16)))))
            exact jx_zret () hx hb hr hlocks hK hP hD hS (by rw [hq]) (by rw [hq]) (Or.inr rfl) dX7_on_154
          · skip
            refine lv_lconst (v := 0) hx hb dX7_on_121 (by decide) ?_
            refine lv_goto (tgt := 131) hx hb dX7_on_122 (by decide) ?_
            refine jx_put (w2 := [(h, .inr (7, (oX7 R (upd (upd I 0 (0 : Int32)) 20 (1 : Int32)) (vp_updL L 25 (0 : Int64))))), ((R 39), .inl (cZ, 2, .inl f39)), ((R 40), .inl (cZ, 2, .inl f40)), ((R 41), .inl (cJ, 2, .inr (.inl f41)))]) hx hb hts iX7_on_7 tyX7 tyX7_ok nmX7 hown hK hP hD hS 0 rfl rfl 25 (by decide) hk163 rfl rfl rfl rfl (Nat.le_of_ble_eq_true rfl) dX7_on_131 rfl (fun H locs hP hD hS => ?_)
            refine lv_aload_n hx hb dX7_on_134 rfl (lv_at hl 1 rfl) ?_
            refine lv_aload_n hx hb dX7_on_135 rfl (lv_at hl 1 rfl) ?_
            refine jx_get (v := .int (I 22)) hx hb hts iX7_on_7 hown hK hP 0 rfl rfl 22 (by decide) hk220 rfl rfl dX7_on_136 ?_
            refine lv_sipush (v := 1440) hx hb dX7_on_139 (by decide) ?_
            refine jx_joini (J := 150) (v := (if (I 22) < (1440 : Int32) then (0 : Int32) else (1 : Int32))) (rest := [.ref h]) (fun key => ?_) ?_
            · skip
              refine lv_icmp_lt (tgt := 149) hx hb dX7_on_142 (by decide) (fun c_20 => ?_) (fun c_20 => ?_)
              · skip
                refine lv_iconst (v := 0) hx hb dX7_on_149 (by decide) ?_
                rw [if_pos c_20] at key
                exact key
              · skip
                refine lv_iconst (v := 1) hx hb dX7_on_145 (by decide) ?_
                refine lv_goto (tgt := 150) hx hb dX7_on_146 (by decide) ?_
                rw [if_neg c_20] at key
                exact key
            refine lv_topi (fun v_21 ev_21 => ?_)
            refine jx_put (w2 := [(h, .inr (7, (oX7 R (upd (upd (upd I 0 (0 : Int32)) 20 (1 : Int32)) 28 v_21) (vp_updL L 25 (0 : Int64))))), ((R 39), .inl (cZ, 2, .inl f39)), ((R 40), .inl (cZ, 2, .inl f40)), ((R 41), .inl (cJ, 2, .inr (.inl f41)))]) hx hb hts iX7_on_7 tyX7 tyX7_ok nmX7 hown hK hP hD hS 0 rfl rfl 28 (by decide) hk200 rfl rfl rfl rfl (Nat.le_of_ble_eq_true rfl) dX7_on_150 rfl (fun H locs hP hD hS => ?_)
            refine lv_iconst (v := 1) hx hb dX7_on_153 (by decide) ?_
            have hq : (sX7_on I L f39 f40 f41) = ((1 : Int32), (upd (upd (upd I 0 (0 : Int32)) 20 (1 : Int32)) 28 v_21), (vp_updL L 25 (0 : Int64))) := by clear hP hD hl; have z_ := ev_21.symm; clear ev_21; subst z_; have z_ := ev_6.symm; clear ev_6; subst z_; have z_ := ev_4.symm; clear ev_4; subst z_; unfold sX7_on; exact (if_pos c_1).trans ((if_neg c_7).trans ((if_neg c_10).trans ((if_neg c_13).trans ((if_pos c_16)))))
            exact jx_zret () hx hb hr hlocks hK hP hD hS (by rw [hq]) (by rw [hq]) (Or.inr rfl) dX7_on_154
  · skip
    refine lv_iconst (v := 0) hx hb dX7_on_12 (by decide) ?_
    have hq : (sX7_on I L f39 f40 f41) = ((0 : Int32), (upd I 0 (0 : Int32)), L) := by unfold sX7_on; exact (if_neg c_1)
    exact jx_zret () hx hb hr hlocks hK hP hD hS (by rw [hq]) (by rw [hq]) (Or.inl rfl) dX7_on_13

def sX7_angle (I : Nat → Int32) : UInt64 × (Nat → Int32) := ((FP.ddiv (FP.i2d (I 22)) (4625196817309499392 : UInt64)), (upd I 0 (0 : Int32)))
set_option maxRecDepth 20000 in
theorem iX7_angle_7 : ∀ w ∈ wsX70, w ∈ wsX7_angle := by decide +kernel
set_option maxHeartbeats 4000000 in
set_option maxRecDepth 100000 in
theorem kX7_angle (l : Launch) (D : va_G) (cI cJ cZ cD : ClassId) (tA : Nat) (h : Nat) (R : Nat → Nat) (I : Nat → Int32) (L : Nat → Int64) (hn : ∀ x : Int32, vf_n64 (FP.ddiv (FP.i2d x) 4625196817309499392)) : jx_M l yX7_angle wsX7_angle ({ frames := 0, cells := 0, slots := 0, locals := 0 }) D (jT cI cJ cZ cD) tA [.ref h] [(h, .inr (7, (oX7 R I L)))] (jx_Qd D (jT cI cJ cZ cD) (fun r (_ : Unit) => r = (sX7_angle I).1) (fun _ => [(h, .inr (7, (oX7 R (sX7_angle I).2 L)))])) := by
  refine jx_of (cc := cX7_angle) (maxL := 1) (ret := (some .double)) (by decide +kernel) rfl (Nat.le_of_ble_eq_true rfl) ?_
  intro p e s m below meth c A ls hx hb hr hlocks hml hown hts hK hP hD hA hS hX hl
  have hl : lv_has ls 1 [(0, .ref h)] := hl
  have hown : s.vm.findClass RX7 = some m.cls := hown
  have hk74 := hts (.fieldLink RX7 74 "LoomDeskModel" "thrown" "I") (by decide +kernel)
  have hk220 := hts (.fieldLink RX7 220 "LoomDeskModel" "angle" "I") (by decide +kernel)
  refine lv_aload_n hx hb dX7_angle_0 rfl (lv_at hl 0 rfl) ?_
  refine lv_iconst (v := 0) hx hb dX7_angle_1 (by decide) ?_
  refine jx_put (w2 := [(h, .inr (7, (oX7 R (upd I 0 (0 : Int32)) L)))]) hx hb hts iX7_angle_7 tyX7 tyX7_ok nmX7 hown hK hP hD hS 0 rfl rfl 0 (by decide) hk74 rfl rfl rfl rfl (Nat.le_of_ble_eq_true rfl) dX7_angle_2 rfl (fun H locs hP hD hS => ?_)
  refine lv_aload_n hx hb dX7_angle_5 rfl (lv_at hl 0 rfl) ?_
  refine jx_get (v := .int (I 22)) hx hb hts iX7_angle_7 hown hK hP 0 rfl rfl 22 (by decide) hk220 rfl rfl dX7_angle_6 ?_
  refine lv_i2d hx hb dX7_angle_9 ?_
  refine lv_ldc2d hx hb hown (hts (.constantDouble RX7 230 (4625196817309499392)) (by decide +kernel)) dX7_angle_10 ?_
  refine lv_ddiv hx hb dX7_angle_13 (hn _) ?_
  have hq : (sX7_angle I) = ((FP.ddiv (FP.i2d (I 22)) (4625196817309499392 : UInt64)), (upd I 0 (0 : Int32))) := rfl
  exact jx_dret () hx hb hr hlocks hK hP hD hS (by rw [hq]) (by rw [hq]) dX7_angle_14

def sX7_left (I : Nat → Int32) : UInt32 × (Nat → Int32) := (if (I 21) = (2 : Int32) then ((FP.fdiv (FP.i2f (I 23)) (1098907648 : UInt32)), (upd I 0 (0 : Int32))) else (FP.fconst0, (upd I 0 (0 : Int32))))
set_option maxRecDepth 20000 in
theorem iX7_left_7 : ∀ w ∈ wsX70, w ∈ wsX7_left := by decide +kernel
set_option maxHeartbeats 4000000 in
set_option maxRecDepth 100000 in
theorem kX7_left (l : Launch) (D : va_G) (cI cJ cZ cD : ClassId) (tA : Nat) (h : Nat) (R : Nat → Nat) (I : Nat → Int32) (L : Nat → Int64) (hn : ∀ x : Int32, vf_n32 (FP.fdiv (FP.i2f x) 1098907648)) : jx_M l yX7_left wsX7_left ({ frames := 0, cells := 0, slots := 0, locals := 0 }) D (jT cI cJ cZ cD) tA [.ref h] [(h, .inr (7, (oX7 R I L)))] (jx_Qf D (jT cI cJ cZ cD) (fun r (_ : Unit) => r = (sX7_left I).1) (fun _ => [(h, .inr (7, (oX7 R (sX7_left I).2 L)))])) := by
  refine jx_of (cc := cX7_left) (maxL := 1) (ret := (some .float)) (by decide +kernel) rfl (Nat.le_of_ble_eq_true rfl) ?_
  intro p e s m below meth c A ls hx hb hr hlocks hml hown hts hK hP hD hA hS hX hl
  have hl : lv_has ls 1 [(0, .ref h)] := hl
  have hown : s.vm.findClass RX7 = some m.cls := hown
  have hk74 := hts (.fieldLink RX7 74 "LoomDeskModel" "thrown" "I") (by decide +kernel)
  have hk151 := hts (.fieldLink RX7 151 "LoomDeskModel" "mode" "I") (by decide +kernel)
  have hk170 := hts (.fieldLink RX7 170 "LoomDeskModel" "left" "I") (by decide +kernel)
  refine lv_aload_n hx hb dX7_left_0 rfl (lv_at hl 0 rfl) ?_
  refine lv_iconst (v := 0) hx hb dX7_left_1 (by decide) ?_
  refine jx_put (w2 := [(h, .inr (7, (oX7 R (upd I 0 (0 : Int32)) L)))]) hx hb hts iX7_left_7 tyX7 tyX7_ok nmX7 hown hK hP hD hS 0 rfl rfl 0 (by decide) hk74 rfl rfl rfl rfl (Nat.le_of_ble_eq_true rfl) dX7_left_2 rfl (fun H locs hP hD hS => ?_)
  refine lv_aload_n hx hb dX7_left_5 rfl (lv_at hl 0 rfl) ?_
  refine jx_get (v := .int (I 21)) hx hb hts iX7_left_7 hown hK hP 0 rfl rfl 21 (by decide) hk151 rfl rfl dX7_left_6 ?_
  refine lv_iconst (v := 2) hx hb dX7_left_9 (by decide) ?_
  refine lv_icmp_ne (tgt := 24) hx hb dX7_left_10 (by decide) (fun c_1 => ?_) (fun c_1 => ?_)
  · skip
    refine lv_fconst0 hx hb dX7_left_24 ?_
    have hq : (sX7_left I) = (FP.fconst0, (upd I 0 (0 : Int32))) := by unfold sX7_left; exact (if_neg c_1)
    exact jx_fret () hx hb hr hlocks hK hP hD hS (by rw [hq]) (by rw [hq]) dX7_left_25
  · skip
    refine lv_aload_n hx hb dX7_left_13 rfl (lv_at hl 0 rfl) ?_
    refine jx_get (v := .int (I 23)) hx hb hts iX7_left_7 hown hK hP 0 rfl rfl 23 (by decide) hk170 rfl rfl dX7_left_14 ?_
    refine lv_i2f hx hb dX7_left_17 ?_
    refine lv_ldcf hx hb hown (hts (.constantFloat RX7 246 (1098907648)) (by decide +kernel)) dX7_left_18 ?_
    refine lv_fdiv hx hb dX7_left_20 (hn _) ?_
    refine lv_goto (tgt := 25) hx hb dX7_left_21 (by decide) ?_
    have hq : (sX7_left I) = ((FP.fdiv (FP.i2f (I 23)) (1098907648 : UInt32)), (upd I 0 (0 : Int32))) := by unfold sX7_left; exact (if_pos c_1)
    exact jx_fret () hx hb hr hlocks hK hP hD hS (by rw [hq]) (by rw [hq]) dX7_left_25

def sX7_roll (I : Nat → Int32) (L : Nat → Int64) (a0 : UInt64) : UInt64 × (Nat → Int32) := (if (Op.cmpValue (FP.dcmp a0 (13884597651183239168 : UInt64)) .l) < 0 then (FP.dconst0, (upd I 0 (0 : Int32))) else (if (Op.cmpValue (FP.dcmp a0 (4661225614328463360 : UInt64)) .g) ≤ 0 then ((FP.ddiv (FP.l2d (((L 32) * (FP.d2l (FP.dmul a0 (4620693217682128896 : UInt64)))) - ((L 32) * (FP.d2l (FP.dmul a0 (4620693217682128896 : UInt64)))) / (11520 : Int64) * (11520 : Int64))) (4629700416936869888 : UInt64)), (upd I 0 (0 : Int32))) else (FP.dconst0, (upd I 0 (0 : Int32)))))
set_option maxRecDepth 20000 in
theorem iX7_roll_7 : ∀ w ∈ wsX70, w ∈ wsX7_roll := by decide +kernel
set_option maxHeartbeats 4000000 in
set_option maxRecDepth 100000 in
theorem kX7_roll (l : Launch) (D : va_G) (cI cJ cZ cD : ClassId) (tA : Nat) (h : Nat) (R : Nat → Nat) (I : Nat → Int32) (L : Nat → Int64) (a0 : UInt64) (hn8 : vf_n64 (FP.dmul a0 4620693217682128896)) (hn : ∀ x : Int64, vf_n64 (FP.ddiv (FP.l2d x) 4629700416936869888)) : jx_M l yX7_roll wsX7_roll ({ frames := 0, cells := 0, slots := 0, locals := 0 }) D (jT cI cJ cZ cD) tA [.ref h, .double a0] [(h, .inr (7, (oX7 R I L)))] (jx_Qd D (jT cI cJ cZ cD) (fun r (_ : Unit) => r = (sX7_roll I L a0).1) (fun _ => [(h, .inr (7, (oX7 R (sX7_roll I L a0).2 L)))])) := by
  refine jx_of (cc := cX7_roll) (maxL := 3) (ret := (some .double)) (by decide +kernel) rfl (Nat.le_of_ble_eq_true rfl) ?_
  intro p e s m below meth c A ls hx hb hr hlocks hml hown hts hK hP hD hA hS hX hl
  have hl : lv_has ls 3 [(0, .ref h), (1, .double a0)] := hl
  have hown : s.vm.findClass RX7 = some m.cls := hown
  have hk74 := hts (.fieldLink RX7 74 "LoomDeskModel" "thrown" "I") (by decide +kernel)
  have hk191 := hts (.fieldLink RX7 191 "LoomDeskModel" "quarters" "J") (by decide +kernel)
  refine lv_aload_n hx hb dX7_roll_0 rfl (lv_at hl 0 rfl) ?_
  refine lv_iconst (v := 0) hx hb dX7_roll_1 (by decide) ?_
  refine jx_put (w2 := [(h, .inr (7, (oX7 R (upd I 0 (0 : Int32)) L)))]) hx hb hts iX7_roll_7 tyX7 tyX7_ok nmX7 hown hK hP hD hS 0 rfl rfl 0 (by decide) hk74 rfl rfl rfl rfl (Nat.le_of_ble_eq_true rfl) dX7_roll_2 rfl (fun H locs hP hD hS => ?_)
  refine lv_dload_n hx hb dX7_roll_5 rfl (lv_at hl 1 rfl) ?_
  refine lv_ldc2d hx hb hown (hts (.constantDouble RX7 247 (13884597651183239168)) (by decide +kernel)) dX7_roll_6 ?_
  refine lv_dcmp hx hb dX7_roll_9 ?_
  refine lv_if_lt (tgt := 21) hx hb dX7_roll_10 (by decide) (fun c_1 => ?_) (fun c_1 => ?_)
  · skip
    refine lv_dconst0 hx hb dX7_roll_21 ?_
    have hq : (sX7_roll I L a0) = (FP.dconst0, (upd I 0 (0 : Int32))) := by unfold sX7_roll; exact (if_pos c_1)
    exact jx_dret () hx hb hr hlocks hK hP hD hS (by rw [hq]) (by rw [hq]) dX7_roll_22
  · skip
    refine lv_dload_n hx hb dX7_roll_13 rfl (lv_at hl 1 rfl) ?_
    refine lv_ldc2d hx hb hown (hts (.constantDouble RX7 249 (4661225614328463360)) (by decide +kernel)) dX7_roll_14 ?_
    refine lv_dcmp hx hb dX7_roll_17 ?_
    refine lv_if_le (tgt := 23) hx hb dX7_roll_18 (by decide) (fun c_2 => ?_) (fun c_2 => ?_)
    · skip
      refine lv_aload_n hx hb dX7_roll_23 rfl (lv_at hl 0 rfl) ?_
      refine jx_get (v := .long (L 32)) hx hb hts iX7_roll_7 hown hK hP 0 rfl rfl 32 (by decide) hk191 rfl rfl dX7_roll_24 ?_
      refine lv_dload_n hx hb dX7_roll_27 rfl (lv_at hl 1 rfl) ?_
      refine lv_ldc2d hx hb hown (hts (.constantDouble RX7 218 (4620693217682128896)) (by decide +kernel)) dX7_roll_28 ?_
      refine lv_dmul hx hb dX7_roll_31 hn8 ?_
      refine lv_d2l hx hb dX7_roll_32 ?_
      refine lv_lmul hx hb dX7_roll_33 ?_
      refine lv_ldc2 hx hb hown (hts (.constantLong RX7 251 (11520)) (by decide +kernel)) dX7_roll_34 ?_
      refine lv_lrem hx hb dX7_roll_37 (by decide) ?_
      refine lv_l2d hx hb dX7_roll_38 ?_
      refine lv_ldc2d hx hb hown (hts (.constantDouble RX7 253 (4629700416936869888)) (by decide +kernel)) dX7_roll_39 ?_
      refine lv_ddiv hx hb dX7_roll_42 (hn _) ?_
      have hq : (sX7_roll I L a0) = ((FP.ddiv (FP.l2d (((L 32) * (FP.d2l (FP.dmul a0 (4620693217682128896 : UInt64)))) - ((L 32) * (FP.d2l (FP.dmul a0 (4620693217682128896 : UInt64)))) / (11520 : Int64) * (11520 : Int64))) (4629700416936869888 : UInt64)), (upd I 0 (0 : Int32))) := by unfold sX7_roll; exact (if_neg c_1).trans ((if_pos c_2))
      exact jx_dret () hx hb hr hlocks hK hP hD hS (by rw [hq]) (by rw [hq]) dX7_roll_43
    · skip
      refine lv_dconst0 hx hb dX7_roll_21 ?_
      have hq : (sX7_roll I L a0) = (FP.dconst0, (upd I 0 (0 : Int32))) := by unfold sX7_roll; exact (if_neg c_1).trans ((if_neg c_2))
      exact jx_dret () hx hb hr hlocks hK hP hD hS (by rw [hq]) (by rw [hq]) dX7_roll_22

def sX7_state (I : Nat → Int32) (L : Nat → Int64) (a0 : Int32) : Int32 × (Nat → Int32) := (if a0 = (0 : Int32) then ((I 21), (upd I 0 (0 : Int32))) else (if a0 = (1 : Int32) then ((I 26), (upd I 0 (0 : Int32))) else (if a0 = (2 : Int32) then ((I 27), (upd I 0 (0 : Int32))) else (if a0 = (3 : Int32) then ((I 28), (upd I 0 (0 : Int32))) else (if a0 = (4 : Int32) then ((I 30), (upd I 0 (0 : Int32))) else (if a0 = (5 : Int32) then ((I 31), (upd I 0 (0 : Int32))) else (if a0 = (6 : Int32) then (((L 32) / (4 : Int64)).toInt32, (upd I 0 (0 : Int32))) else (if a0 = (7 : Int32) then (if (I 20) = 0 then ((0 : Int32), (upd I 0 (0 : Int32))) else ((1 : Int32), (upd I 0 (0 : Int32)))) else ((-1 : Int32), (upd I 0 (0 : Int32)))))))))))
set_option maxRecDepth 20000 in
theorem iX7_state_7 : ∀ w ∈ wsX70, w ∈ wsX7_state := by decide +kernel
set_option maxHeartbeats 4000000 in
set_option maxRecDepth 100000 in
theorem kX7_state (l : Launch) (D : va_G) (cI cJ cZ cD : ClassId) (tA : Nat) (h : Nat) (R : Nat → Nat) (I : Nat → Int32) (L : Nat → Int64) (a0 : Int32) : jx_M l yX7_state wsX7_state ({ frames := 0, cells := 0, slots := 0, locals := 0 }) D (jT cI cJ cZ cD) tA [.ref h, .int a0] [(h, .inr (7, (oX7 R I L)))] (jx_Qi D (jT cI cJ cZ cD) (fun r (_ : Unit) => r = (sX7_state I L a0).1) (fun _ => [(h, .inr (7, (oX7 R (sX7_state I L a0).2 L)))])) := by
  refine jx_of (cc := cX7_state) (maxL := 2) (ret := (some .int)) (by decide +kernel) rfl (Nat.le_of_ble_eq_true rfl) ?_
  intro p e s m below meth c A ls hx hb hr hlocks hml hown hts hK hP hD hA hS hX hl
  have hl : lv_has ls 2 [(0, .ref h), (1, .int a0)] := hl
  have hown : s.vm.findClass RX7 = some m.cls := hown
  have hk47 := hts (.fieldLink RX7 47 "LoomDeskModel" "power" "Z") (by decide +kernel)
  have hk74 := hts (.fieldLink RX7 74 "LoomDeskModel" "thrown" "I") (by decide +kernel)
  have hk151 := hts (.fieldLink RX7 151 "LoomDeskModel" "mode" "I") (by decide +kernel)
  have hk173 := hts (.fieldLink RX7 173 "LoomDeskModel" "orders" "I") (by decide +kernel)
  have hk185 := hts (.fieldLink RX7 185 "LoomDeskModel" "shed" "I") (by decide +kernel)
  have hk188 := hts (.fieldLink RX7 188 "LoomDeskModel" "carrier" "I") (by decide +kernel)
  have hk191 := hts (.fieldLink RX7 191 "LoomDeskModel" "quarters" "J") (by decide +kernel)
  have hk200 := hts (.fieldLink RX7 200 "LoomDeskModel" "pick" "I") (by decide +kernel)
  have hk210 := hts (.fieldLink RX7 210 "LoomDeskModel" "missed" "I") (by decide +kernel)
  refine lv_aload_n hx hb dX7_state_0 rfl (lv_at hl 0 rfl) ?_
  refine lv_iconst (v := 0) hx hb dX7_state_1 (by decide) ?_
  refine jx_put (w2 := [(h, .inr (7, (oX7 R (upd I 0 (0 : Int32)) L)))]) hx hb hts iX7_state_7 tyX7 tyX7_ok nmX7 hown hK hP hD hS 0 rfl rfl 0 (by decide) hk74 rfl rfl rfl rfl (Nat.le_of_ble_eq_true rfl) dX7_state_2 rfl (fun H locs hP hD hS => ?_)
  refine lv_iload_n hx hb dX7_state_5 rfl (lv_at hl 1 rfl) ?_
  by_cases c_1 : a0 = (0 : Int32)
  · skip
    refine lv_tableIn (off := 46) (tgt := 52) hx hb dX7_state_6 (by rw [c_1]; decide) (by rw [c_1]; decide) (by rw [c_1]; rfl) (by decide) ?_
    refine lv_aload_n hx hb dX7_state_52 rfl (lv_at hl 0 rfl) ?_
    refine jx_get (v := .int (I 21)) hx hb hts iX7_state_7 hown hK hP 0 rfl rfl 21 (by decide) hk151 rfl rfl dX7_state_53 ?_
    have hq : (sX7_state I L a0) = ((I 21), (upd I 0 (0 : Int32))) := by unfold sX7_state; exact (if_pos c_1)
    exact jx_iret () hx hb hr hlocks hK hP hD hS (by rw [hq]) (by rw [hq]) dX7_state_56
  by_cases c_2 : a0 = (1 : Int32)
  · skip
    refine lv_tableIn (off := 51) (tgt := 57) hx hb dX7_state_6 (by rw [c_2]; decide) (by rw [c_2]; decide) (by rw [c_2]; rfl) (by decide) ?_
    refine lv_aload_n hx hb dX7_state_57 rfl (lv_at hl 0 rfl) ?_
    refine jx_get (v := .int (I 26)) hx hb hts iX7_state_7 hown hK hP 0 rfl rfl 26 (by decide) hk185 rfl rfl dX7_state_58 ?_
    have hq : (sX7_state I L a0) = ((I 26), (upd I 0 (0 : Int32))) := by unfold sX7_state; exact (if_neg c_1).trans ((if_pos c_2))
    exact jx_iret () hx hb hr hlocks hK hP hD hS (by rw [hq]) (by rw [hq]) dX7_state_61
  by_cases c_3 : a0 = (2 : Int32)
  · skip
    refine lv_tableIn (off := 56) (tgt := 62) hx hb dX7_state_6 (by rw [c_3]; decide) (by rw [c_3]; decide) (by rw [c_3]; rfl) (by decide) ?_
    refine lv_aload_n hx hb dX7_state_62 rfl (lv_at hl 0 rfl) ?_
    refine jx_get (v := .int (I 27)) hx hb hts iX7_state_7 hown hK hP 0 rfl rfl 27 (by decide) hk188 rfl rfl dX7_state_63 ?_
    have hq : (sX7_state I L a0) = ((I 27), (upd I 0 (0 : Int32))) := by unfold sX7_state; exact (if_neg c_1).trans ((if_neg c_2).trans ((if_pos c_3)))
    exact jx_iret () hx hb hr hlocks hK hP hD hS (by rw [hq]) (by rw [hq]) dX7_state_66
  by_cases c_4 : a0 = (3 : Int32)
  · skip
    refine lv_tableIn (off := 61) (tgt := 67) hx hb dX7_state_6 (by rw [c_4]; decide) (by rw [c_4]; decide) (by rw [c_4]; rfl) (by decide) ?_
    refine lv_aload_n hx hb dX7_state_67 rfl (lv_at hl 0 rfl) ?_
    refine jx_get (v := .int (I 28)) hx hb hts iX7_state_7 hown hK hP 0 rfl rfl 28 (by decide) hk200 rfl rfl dX7_state_68 ?_
    have hq : (sX7_state I L a0) = ((I 28), (upd I 0 (0 : Int32))) := by unfold sX7_state; exact (if_neg c_1).trans ((if_neg c_2).trans ((if_neg c_3).trans ((if_pos c_4))))
    exact jx_iret () hx hb hr hlocks hK hP hD hS (by rw [hq]) (by rw [hq]) dX7_state_71
  by_cases c_5 : a0 = (4 : Int32)
  · skip
    refine lv_tableIn (off := 66) (tgt := 72) hx hb dX7_state_6 (by rw [c_5]; decide) (by rw [c_5]; decide) (by rw [c_5]; rfl) (by decide) ?_
    refine lv_aload_n hx hb dX7_state_72 rfl (lv_at hl 0 rfl) ?_
    refine jx_get (v := .int (I 30)) hx hb hts iX7_state_7 hown hK hP 0 rfl rfl 30 (by decide) hk210 rfl rfl dX7_state_73 ?_
    have hq : (sX7_state I L a0) = ((I 30), (upd I 0 (0 : Int32))) := by unfold sX7_state; exact (if_neg c_1).trans ((if_neg c_2).trans ((if_neg c_3).trans ((if_neg c_4).trans ((if_pos c_5)))))
    exact jx_iret () hx hb hr hlocks hK hP hD hS (by rw [hq]) (by rw [hq]) dX7_state_76
  by_cases c_6 : a0 = (5 : Int32)
  · skip
    refine lv_tableIn (off := 71) (tgt := 77) hx hb dX7_state_6 (by rw [c_6]; decide) (by rw [c_6]; decide) (by rw [c_6]; rfl) (by decide) ?_
    refine lv_aload_n hx hb dX7_state_77 rfl (lv_at hl 0 rfl) ?_
    refine jx_get (v := .int (I 31)) hx hb hts iX7_state_7 hown hK hP 0 rfl rfl 31 (by decide) hk173 rfl rfl dX7_state_78 ?_
    have hq : (sX7_state I L a0) = ((I 31), (upd I 0 (0 : Int32))) := by unfold sX7_state; exact (if_neg c_1).trans ((if_neg c_2).trans ((if_neg c_3).trans ((if_neg c_4).trans ((if_neg c_5).trans ((if_pos c_6))))))
    exact jx_iret () hx hb hr hlocks hK hP hD hS (by rw [hq]) (by rw [hq]) dX7_state_81
  by_cases c_7 : a0 = (6 : Int32)
  · skip
    refine lv_tableIn (off := 76) (tgt := 82) hx hb dX7_state_6 (by rw [c_7]; decide) (by rw [c_7]; decide) (by rw [c_7]; rfl) (by decide) ?_
    refine lv_aload_n hx hb dX7_state_82 rfl (lv_at hl 0 rfl) ?_
    refine jx_get (v := .long (L 32)) hx hb hts iX7_state_7 hown hK hP 0 rfl rfl 32 (by decide) hk191 rfl rfl dX7_state_83 ?_
    refine lv_ldc2 hx hb hown (hts (.constantLong RX7 259 (4)) (by decide +kernel)) dX7_state_86 ?_
    refine lv_ldiv hx hb dX7_state_89 (by decide) ?_
    refine lv_l2i hx hb dX7_state_90 rfl ?_
    have hq : (sX7_state I L a0) = (((L 32) / (4 : Int64)).toInt32, (upd I 0 (0 : Int32))) := by unfold sX7_state; exact (if_neg c_1).trans ((if_neg c_2).trans ((if_neg c_3).trans ((if_neg c_4).trans ((if_neg c_5).trans ((if_neg c_6).trans ((if_pos c_7)))))))
    exact jx_iret () hx hb hr hlocks hK hP hD hS (by rw [hq]) (by rw [hq]) dX7_state_91
  by_cases c_8 : a0 = (7 : Int32)
  · skip
    refine lv_tableIn (off := 86) (tgt := 92) hx hb dX7_state_6 (by rw [c_8]; decide) (by rw [c_8]; decide) (by rw [c_8]; rfl) (by decide) ?_
    refine lv_aload_n hx hb dX7_state_92 rfl (lv_at hl 0 rfl) ?_
    refine jx_get (v := .int (I 20)) hx hb hts iX7_state_7 hown hK hP 0 rfl rfl 20 (by decide) hk47 rfl rfl dX7_state_93 ?_
    refine lv_if_eq (tgt := 103) hx hb dX7_state_96 (by decide) (fun c_9 => ?_) (fun c_9 => ?_)
    · skip
      refine lv_iconst (v := 0) hx hb dX7_state_103 (by decide) ?_
      have hq : (sX7_state I L a0) = ((0 : Int32), (upd I 0 (0 : Int32))) := by unfold sX7_state; exact (if_neg c_1).trans ((if_neg c_2).trans ((if_neg c_3).trans ((if_neg c_4).trans ((if_neg c_5).trans ((if_neg c_6).trans ((if_neg c_7).trans ((if_pos c_8).trans ((if_pos c_9)))))))))
      exact jx_iret () hx hb hr hlocks hK hP hD hS (by rw [hq]) (by rw [hq]) dX7_state_104
    · skip
      refine lv_iconst (v := 1) hx hb dX7_state_99 (by decide) ?_
      refine lv_goto (tgt := 104) hx hb dX7_state_100 (by decide) ?_
      have hq : (sX7_state I L a0) = ((1 : Int32), (upd I 0 (0 : Int32))) := by unfold sX7_state; exact (if_neg c_1).trans ((if_neg c_2).trans ((if_neg c_3).trans ((if_neg c_4).trans ((if_neg c_5).trans ((if_neg c_6).trans ((if_neg c_7).trans ((if_pos c_8).trans ((if_neg c_9)))))))))
      exact jx_iret () hx hb hr hlocks hK hP hD hS (by rw [hq]) (by rw [hq]) dX7_state_104
  have hout : a0.toInt < 0 ∨ 7 < a0.toInt := by
    have z0 := lv_neT c_1 (show (0 : Int32).toInt = 0 by decide)
    have z1 := lv_neT c_2 (show (1 : Int32).toInt = 1 by decide)
    have z2 := lv_neT c_3 (show (2 : Int32).toInt = 2 by decide)
    have z3 := lv_neT c_4 (show (3 : Int32).toInt = 3 by decide)
    have z4 := lv_neT c_5 (show (4 : Int32).toInt = 4 by decide)
    have z5 := lv_neT c_6 (show (5 : Int32).toInt = 5 by decide)
    have z6 := lv_neT c_7 (show (6 : Int32).toInt = 6 by decide)
    have z7 := lv_neT c_8 (show (7 : Int32).toInt = 7 by decide)
    omega
  refine lv_tableOut (tgt := 105) hx hb dX7_state_6 hout (by decide) ?_
  refine lv_iconst (v := -1) hx hb dX7_state_105 (by decide) ?_
  have hq : (sX7_state I L a0) = ((-1 : Int32), (upd I 0 (0 : Int32))) := by unfold sX7_state; exact (if_neg c_1).trans ((if_neg c_2).trans ((if_neg c_3).trans ((if_neg c_4).trans ((if_neg c_5).trans ((if_neg c_6).trans ((if_neg c_7).trans ((if_neg c_8))))))))
  exact jx_iret () hx hb hr hlocks hK hP hD hS (by rw [hq]) (by rw [hq]) dX7_state_106

def sX7_count (I : Nat → Int32) (L : Nat → Int64) (a0 : Int32) : Int64 × (Nat → Int32) := (if a0 = 0 then ((L 25), (upd I 0 (0 : Int32))) else (if a0 = (1 : Int32) then ((L 33), (upd I 0 (0 : Int32))) else (if a0 = (2 : Int32) then ((L 34), (upd I 0 (0 : Int32))) else ((-1 : Int64), (upd I 0 (0 : Int32))))))
set_option maxRecDepth 20000 in
theorem iX7_count_7 : ∀ w ∈ wsX70, w ∈ wsX7_count := by decide +kernel
set_option maxHeartbeats 4000000 in
set_option maxRecDepth 100000 in
theorem kX7_count (l : Launch) (D : va_G) (cI cJ cZ cD : ClassId) (tA : Nat) (h : Nat) (R : Nat → Nat) (I : Nat → Int32) (L : Nat → Int64) (a0 : Int32) : jx_M l yX7_count wsX7_count ({ frames := 0, cells := 0, slots := 0, locals := 0 }) D (jT cI cJ cZ cD) tA [.ref h, .int a0] [(h, .inr (7, (oX7 R I L)))] (jx_Ql D (jT cI cJ cZ cD) (fun r (_ : Unit) => r = (sX7_count I L a0).1) (fun _ => [(h, .inr (7, (oX7 R (sX7_count I L a0).2 L)))])) := by
  refine jx_of (cc := cX7_count) (maxL := 2) (ret := (some .long)) (by decide +kernel) rfl (Nat.le_of_ble_eq_true rfl) ?_
  intro p e s m below meth c A ls hx hb hr hlocks hml hown hts hK hP hD hA hS hX hl
  have hl : lv_has ls 2 [(0, .ref h), (1, .int a0)] := hl
  have hown : s.vm.findClass RX7 = some m.cls := hown
  have hk74 := hts (.fieldLink RX7 74 "LoomDeskModel" "thrown" "I") (by decide +kernel)
  have hk163 := hts (.fieldLink RX7 163 "LoomDeskModel" "place" "J") (by decide +kernel)
  have hk194 := hts (.fieldLink RX7 194 "LoomDeskModel" "beaten" "J") (by decide +kernel)
  have hk213 := hts (.fieldLink RX7 213 "LoomDeskModel" "turns" "J") (by decide +kernel)
  refine lv_aload_n hx hb dX7_count_0 rfl (lv_at hl 0 rfl) ?_
  refine lv_iconst (v := 0) hx hb dX7_count_1 (by decide) ?_
  refine jx_put (w2 := [(h, .inr (7, (oX7 R (upd I 0 (0 : Int32)) L)))]) hx hb hts iX7_count_7 tyX7 tyX7_ok nmX7 hown hK hP hD hS 0 rfl rfl 0 (by decide) hk74 rfl rfl rfl rfl (Nat.le_of_ble_eq_true rfl) dX7_count_2 rfl (fun H locs hP hD hS => ?_)
  refine lv_iload_n hx hb dX7_count_5 rfl (lv_at hl 1 rfl) ?_
  refine lv_if_ne (tgt := 16) hx hb dX7_count_6 (by decide) (fun c_1 => ?_) (fun c_1 => ?_)
  · skip
    refine lv_iload_n hx hb dX7_count_16 rfl (lv_at hl 1 rfl) ?_
    refine lv_iconst (v := 1) hx hb dX7_count_17 (by decide) ?_
    refine lv_icmp_ne (tgt := 28) hx hb dX7_count_18 (by decide) (fun c_2 => ?_) (fun c_2 => ?_)
    · skip
      refine lv_iload_n hx hb dX7_count_28 rfl (lv_at hl 1 rfl) ?_
      refine lv_iconst (v := 2) hx hb dX7_count_29 (by decide) ?_
      refine lv_icmp_ne (tgt := 40) hx hb dX7_count_30 (by decide) (fun c_3 => ?_) (fun c_3 => ?_)
      · skip
        refine lv_ldc2 hx hb hown (hts (.constantLong RX7 261 (-1)) (by decide +kernel)) dX7_count_40 ?_
        have hq : (sX7_count I L a0) = ((-1 : Int64), (upd I 0 (0 : Int32))) := by unfold sX7_count; exact (if_neg c_1).trans ((if_neg c_2).trans ((if_neg c_3)))
        exact jx_lret () hx hb hr hlocks hK hP hD hS (by rw [hq]) (by rw [hq]) dX7_count_43
      · skip
        refine lv_aload_n hx hb dX7_count_33 rfl (lv_at hl 0 rfl) ?_
        refine jx_get (v := .long (L 34)) hx hb hts iX7_count_7 hown hK hP 0 rfl rfl 34 (by decide) hk213 rfl rfl dX7_count_34 ?_
        refine lv_goto (tgt := 43) hx hb dX7_count_37 (by decide) ?_
        have hq : (sX7_count I L a0) = ((L 34), (upd I 0 (0 : Int32))) := by unfold sX7_count; exact (if_neg c_1).trans ((if_neg c_2).trans ((if_pos c_3)))
        exact jx_lret () hx hb hr hlocks hK hP hD hS (by rw [hq]) (by rw [hq]) dX7_count_43
    · skip
      refine lv_aload_n hx hb dX7_count_21 rfl (lv_at hl 0 rfl) ?_
      refine jx_get (v := .long (L 33)) hx hb hts iX7_count_7 hown hK hP 0 rfl rfl 33 (by decide) hk194 rfl rfl dX7_count_22 ?_
      refine lv_goto (tgt := 43) hx hb dX7_count_25 (by decide) ?_
      have hq : (sX7_count I L a0) = ((L 33), (upd I 0 (0 : Int32))) := by unfold sX7_count; exact (if_neg c_1).trans ((if_pos c_2))
      exact jx_lret () hx hb hr hlocks hK hP hD hS (by rw [hq]) (by rw [hq]) dX7_count_43
  · skip
    refine lv_aload_n hx hb dX7_count_9 rfl (lv_at hl 0 rfl) ?_
    refine jx_get (v := .long (L 25)) hx hb hts iX7_count_7 hown hK hP 0 rfl rfl 25 (by decide) hk163 rfl rfl dX7_count_10 ?_
    refine lv_goto (tgt := 43) hx hb dX7_count_13 (by decide) ?_
    have hq : (sX7_count I L a0) = ((L 25), (upd I 0 (0 : Int32))) := by unfold sX7_count; exact (if_pos c_1)
    exact jx_lret () hx hb hr hlocks hK hP hD hS (by rw [hq]) (by rw [hq]) dX7_count_43

theorem cl_in {n i : Int32} (hn : n.toInt ≤ 64) (h0 : ¬ i < 0) (h1 : i < n) : vp_in (n - 1 - i) 64 := by
  obtain ⟨a, b⟩ := jx_rg32 n
  obtain ⟨a2, b2⟩ := jx_rg32 i
  rw [Int32.lt_iff_toInt_lt, show (0 : Int32).toInt = 0 from rfl] at h0
  rw [Int32.lt_iff_toInt_lt] at h1
  have e : (n - 1).toInt = n.toInt - 1 := by
    rw [Int32.toInt_sub, show (1 : Int32).toInt = 1 from rfl]; exact jx_bm32 (by omega) (by omega)
  have e2 : (n - 1 - i).toInt = n.toInt - 1 - i.toInt := by
    rw [Int32.toInt_sub, e]; exact jx_bm32 (by omega) (by omega)
  rw [vp_in_iff, e2]; omega
def sX7_cloth (I : Nat → Int32) (f35 : Nat → Int32) (f36 : Nat → Int32) (f37 : Nat → Int32) (a0 : Int32) (a1 : Int32) : Int32 × (Nat → Int32) := (if a0 < 0 then ((-1 : Int32), (upd I 0 (0 : Int32))) else (if a0 < (I 38) then (if a1 = 0 then ((f35 (((I 38) - (1 : Int32)) - a0).toNatClampNeg), (upd I 0 (0 : Int32))) else (if a1 = (1 : Int32) then ((f36 (((I 38) - (1 : Int32)) - a0).toNatClampNeg), (upd I 0 (0 : Int32))) else (if a1 = (2 : Int32) then ((f37 (((I 38) - (1 : Int32)) - a0).toNatClampNeg), (upd I 0 (0 : Int32))) else ((-1 : Int32), (upd I 0 (0 : Int32)))))) else ((-1 : Int32), (upd I 0 (0 : Int32)))))
set_option maxRecDepth 20000 in
theorem iX7_cloth_7 : ∀ w ∈ wsX70, w ∈ wsX7_cloth := by decide +kernel
set_option maxHeartbeats 4000000 in
set_option maxRecDepth 100000 in
theorem kX7_cloth (l : Launch) (D : va_G) (cI cJ cZ cD : ClassId) (tA : Nat) (h : Nat) (R : Nat → Nat) (I : Nat → Int32) (L : Nat → Int64) (f35 : Nat → Int32) (f36 : Nat → Int32) (f37 : Nat → Int32) (a0 : Int32) (a1 : Int32) (hn : (I 38).toInt ≤ 64) : jx_M l yX7_cloth wsX7_cloth ({ frames := 0, cells := 0, slots := 0, locals := 0 }) D (jT cI cJ cZ cD) tA [.ref h, .int a0, .int a1] [(h, .inr (7, (oX7 R I L))), ((R 35), .inl (cI, 64, .inl f35)), ((R 36), .inl (cI, 64, .inl f36)), ((R 37), .inl (cI, 64, .inl f37))] (jx_Qi D (jT cI cJ cZ cD) (fun r (_ : Unit) => r = (sX7_cloth I f35 f36 f37 a0 a1).1) (fun _ => [(h, .inr (7, (oX7 R (sX7_cloth I f35 f36 f37 a0 a1).2 L))), ((R 35), .inl (cI, 64, .inl f35)), ((R 36), .inl (cI, 64, .inl f36)), ((R 37), .inl (cI, 64, .inl f37))])) := by
  refine jx_of (cc := cX7_cloth) (maxL := 4) (ret := (some .int)) (by decide +kernel) rfl (Nat.le_of_ble_eq_true rfl) ?_
  intro p e s m below meth c A ls hx hb hr hlocks hml hown hts hK hP hD hA hS hX hl
  have hl : lv_has ls 4 [(0, .ref h), (1, .int a0), (2, .int a1)] := hl
  have hown : s.vm.findClass RX7 = some m.cls := hown
  have hk55 := hts (.fieldLink RX7 55 "LoomDeskModel" "clothShed" "[I") (by decide +kernel)
  have hk58 := hts (.fieldLink RX7 58 "LoomDeskModel" "clothCarrier" "[I") (by decide +kernel)
  have hk61 := hts (.fieldLink RX7 61 "LoomDeskModel" "clothDensity" "[I") (by decide +kernel)
  have hk74 := hts (.fieldLink RX7 74 "LoomDeskModel" "thrown" "I") (by decide +kernel)
  have hk182 := hts (.fieldLink RX7 182 "LoomDeskModel" "cloths" "I") (by decide +kernel)
  refine lv_aload_n hx hb dX7_cloth_0 rfl (lv_at hl 0 rfl) ?_
  refine lv_iconst (v := 0) hx hb dX7_cloth_1 (by decide) ?_
  refine jx_put (w2 := [(h, .inr (7, (oX7 R (upd I 0 (0 : Int32)) L))), ((R 35), .inl (cI, 64, .inl f35)), ((R 36), .inl (cI, 64, .inl f36)), ((R 37), .inl (cI, 64, .inl f37))]) hx hb hts iX7_cloth_7 tyX7 tyX7_ok nmX7 hown hK hP hD hS 0 rfl rfl 0 (by decide) hk74 rfl rfl rfl rfl (Nat.le_of_ble_eq_true rfl) dX7_cloth_2 rfl (fun H locs hP hD hS => ?_)
  refine lv_iload_n hx hb dX7_cloth_5 rfl (lv_at hl 1 rfl) ?_
  refine lv_if_lt (tgt := 17) hx hb dX7_cloth_6 (by decide) (fun c_1 => ?_) (fun c_1 => ?_)
  · skip
    refine lv_iconst (v := -1) hx hb dX7_cloth_17 (by decide) ?_
    have hq : (sX7_cloth I f35 f36 f37 a0 a1) = ((-1 : Int32), (upd I 0 (0 : Int32))) := by unfold sX7_cloth; exact (if_pos c_1)
    exact jx_iret () hx hb hr hlocks hK hP hD hS (by rw [hq]) (by rw [hq]) dX7_cloth_18
  · skip
    refine lv_iload_n hx hb dX7_cloth_9 rfl (lv_at hl 1 rfl) ?_
    refine lv_aload_n hx hb dX7_cloth_10 rfl (lv_at hl 0 rfl) ?_
    refine jx_get (v := .int (I 38)) hx hb hts iX7_cloth_7 hown hK hP 0 rfl rfl 38 (by decide) hk182 rfl rfl dX7_cloth_11 ?_
    refine lv_icmp_lt (tgt := 19) hx hb dX7_cloth_14 (by decide) (fun c_2 => ?_) (fun c_2 => ?_)
    · skip
      refine lv_aload_n hx hb dX7_cloth_19 rfl (lv_at hl 0 rfl) ?_
      refine jx_get (v := .int (I 38)) hx hb hts iX7_cloth_7 hown hK hP 0 rfl rfl 38 (by decide) hk182 rfl rfl dX7_cloth_20 ?_
      refine lv_iconst (v := 1) hx hb dX7_cloth_23 (by decide) ?_
      refine lv_isub hx hb dX7_cloth_24 ?_
      refine lv_iload_n hx hb dX7_cloth_25 rfl (lv_at hl 1 rfl) ?_
      refine lv_isub hx hb dX7_cloth_26 ?_
      refine lv_topi (fun v_3 ev_3 => ?_)
      refine lv_istore_n (lv' := [(3, .int v_3), (0, .ref h), (1, .int a0), (2, .int a1)]) hx hb dX7_cloth_27 rfl hl (by decide) rfl (fun ls hl => ?_)
      refine lv_iload_n hx hb dX7_cloth_28 rfl (lv_at hl 3 rfl) ?_
      refine lv_if_ne (tgt := 41) hx hb dX7_cloth_29 (by decide) (fun c_4 => ?_) (fun c_4 => ?_)
      · skip
        refine lv_iload_n hx hb dX7_cloth_41 rfl (lv_at hl 3 rfl) ?_
        refine lv_iconst (v := 1) hx hb dX7_cloth_42 (by decide) ?_
        refine lv_icmp_ne (tgt := 55) hx hb dX7_cloth_43 (by decide) (fun c_5 => ?_) (fun c_5 => ?_)
        · skip
          refine lv_iload_n hx hb dX7_cloth_55 rfl (lv_at hl 3 rfl) ?_
          refine lv_iconst (v := 2) hx hb dX7_cloth_56 (by decide) ?_
          refine lv_icmp_ne (tgt := 69) hx hb dX7_cloth_57 (by decide) (fun c_6 => ?_) (fun c_6 => ?_)
          · skip
            refine lv_iconst (v := -1) hx hb dX7_cloth_69 (by decide) ?_
            have hq : (sX7_cloth I f35 f36 f37 a0 a1) = ((-1 : Int32), (upd I 0 (0 : Int32))) := by clear hP hD hl; have z_ := ev_3.symm; clear ev_3; subst z_; unfold sX7_cloth; exact (if_neg c_1).trans ((if_pos c_2).trans ((if_neg c_4).trans ((if_neg c_5).trans ((if_neg c_6)))))
            exact jx_iret () hx hb hr hlocks hK hP hD hS (by rw [hq]) (by rw [hq]) dX7_cloth_70
          · skip
            refine lv_aload_n hx hb dX7_cloth_60 rfl (lv_at hl 1 rfl) ?_
            refine jx_get (v := .ref (R 37)) hx hb hts iX7_cloth_7 hown hK hP 0 rfl rfl 37 (by decide) hk61 rfl rfl dX7_cloth_61 ?_
            refine lv_iload_n hx hb dX7_cloth_64 rfl (lv_at hl 0 rfl) ?_
            refine va_iald hx hb hK hP 3 0 rfl rfl (by clear hP hD hl; have z_ := ev_3.symm; clear ev_3; subst z_; exact cl_in hn c_1 c_2) dX7_cloth_65 ?_
            refine lv_goto (tgt := 70) hx hb dX7_cloth_66 (by decide) ?_
            have hq : (sX7_cloth I f35 f36 f37 a0 a1) = ((f37 v_3.toNatClampNeg), (upd I 0 (0 : Int32))) := by clear hP hD hl; have z_ := ev_3.symm; clear ev_3; subst z_; unfold sX7_cloth; exact (if_neg c_1).trans ((if_pos c_2).trans ((if_neg c_4).trans ((if_neg c_5).trans ((if_pos c_6)))))
            exact jx_iret () hx hb hr hlocks hK hP hD hS (by rw [hq]) (by rw [hq]) dX7_cloth_70
        · skip
          refine lv_aload_n hx hb dX7_cloth_46 rfl (lv_at hl 1 rfl) ?_
          refine jx_get (v := .ref (R 36)) hx hb hts iX7_cloth_7 hown hK hP 0 rfl rfl 36 (by decide) hk58 rfl rfl dX7_cloth_47 ?_
          refine lv_iload_n hx hb dX7_cloth_50 rfl (lv_at hl 0 rfl) ?_
          refine va_iald hx hb hK hP 2 0 rfl rfl (by clear hP hD hl; have z_ := ev_3.symm; clear ev_3; subst z_; exact cl_in hn c_1 c_2) dX7_cloth_51 ?_
          refine lv_goto (tgt := 70) hx hb dX7_cloth_52 (by decide) ?_
          have hq : (sX7_cloth I f35 f36 f37 a0 a1) = ((f36 v_3.toNatClampNeg), (upd I 0 (0 : Int32))) := by clear hP hD hl; have z_ := ev_3.symm; clear ev_3; subst z_; unfold sX7_cloth; exact (if_neg c_1).trans ((if_pos c_2).trans ((if_neg c_4).trans ((if_pos c_5))))
          exact jx_iret () hx hb hr hlocks hK hP hD hS (by rw [hq]) (by rw [hq]) dX7_cloth_70
      · skip
        refine lv_aload_n hx hb dX7_cloth_32 rfl (lv_at hl 1 rfl) ?_
        refine jx_get (v := .ref (R 35)) hx hb hts iX7_cloth_7 hown hK hP 0 rfl rfl 35 (by decide) hk55 rfl rfl dX7_cloth_33 ?_
        refine lv_iload_n hx hb dX7_cloth_36 rfl (lv_at hl 0 rfl) ?_
        refine va_iald hx hb hK hP 1 0 rfl rfl (by clear hP hD hl; have z_ := ev_3.symm; clear ev_3; subst z_; exact cl_in hn c_1 c_2) dX7_cloth_37 ?_
        refine lv_goto (tgt := 70) hx hb dX7_cloth_38 (by decide) ?_
        have hq : (sX7_cloth I f35 f36 f37 a0 a1) = ((f35 v_3.toNatClampNeg), (upd I 0 (0 : Int32))) := by clear hP hD hl; have z_ := ev_3.symm; clear ev_3; subst z_; unfold sX7_cloth; exact (if_neg c_1).trans ((if_pos c_2).trans ((if_pos c_4)))
        exact jx_iret () hx hb hr hlocks hK hP hD hS (by rw [hq]) (by rw [hq]) dX7_cloth_70
    · skip
      refine lv_iconst (v := -1) hx hb dX7_cloth_17 (by decide) ?_
      have hq : (sX7_cloth I f35 f36 f37 a0 a1) = ((-1 : Int32), (upd I 0 (0 : Int32))) := by unfold sX7_cloth; exact (if_neg c_1).trans ((if_neg c_2))
      exact jx_iret () hx hb hr hlocks hK hP hD hS (by rw [hq]) (by rw [hq]) dX7_cloth_18

def sX7_unpicks (I : Nat → Int32) (L : Nat → Int64) (f37 : Nat → Int32) : (Nat → Int32) × (Nat → Int64) := (if (I 38) ≤ 0 then ((upd I 28 (0 : Int32)), (vp_updL L 34 ((L 34) - (1 : Int64)))) else (if (L 25) = (0 : Int64) then ((upd (upd I 28 (1 : Int32)) 38 ((I 38) - (1 : Int32))), (vp_updL (vp_updL (vp_updL (vp_updL L 25 ((L 10) - (1 : Int64))) 32 ((L 32) - ((4000 : Int32) / (f37 ((I 38) - (1 : Int32)).toNatClampNeg)).toInt64)) 33 ((L 33) - (1 : Int64))) 34 ((L 34) - (1 : Int64)))) else ((upd (upd I 28 (1 : Int32)) 38 ((I 38) - (1 : Int32))), (vp_updL (vp_updL (vp_updL (vp_updL L 25 ((L 25) - (1 : Int64))) 32 ((L 32) - ((4000 : Int32) / (f37 ((I 38) - (1 : Int32)).toNatClampNeg)).toInt64)) 33 ((L 33) - (1 : Int64))) 34 ((L 34) - (1 : Int64))))))
set_option maxRecDepth 20000 in
theorem iX7_unpicks_7 : ∀ w ∈ wsX70, w ∈ wsX7_unpicks := by decide +kernel
set_option maxHeartbeats 4000000 in
set_option maxRecDepth 100000 in
theorem kX7_unpicks (l : Launch) (D : va_G) (cI cJ cZ cD : ClassId) (tA : Nat) (h : Nat) (R : Nat → Nat) (I : Nat → Int32) (L : Nat → Int64) (f37 : Nat → Int32) (hc : ¬ I 38 ≤ 0 → vp_in (I 38 - 1) 64 ∧ ¬ f37 (I 38 - 1).toNatClampNeg = 0) : jx_M l yX7_unpicks wsX7_unpicks ({ frames := 0, cells := 0, slots := 0, locals := 0 }) D (jT cI cJ cZ cD) tA [.ref h] [(h, .inr (7, (oX7 R I L))), ((R 37), .inl (cI, 64, .inl f37))] (jx_Qv D (jT cI cJ cZ cD) (fun (_ : Unit) => True) (fun _ => [(h, .inr (7, (oX7 R (sX7_unpicks I L f37).1 (sX7_unpicks I L f37).2))), ((R 37), .inl (cI, 64, .inl f37))])) := by
  refine jx_of (cc := cX7_unpicks) (maxL := 1) (ret := none) (by decide +kernel) rfl (Nat.le_of_ble_eq_true rfl) ?_
  intro p e s m below meth c A ls hx hb hr hlocks hml hown hts hK hP hD hA hS hX hl
  have hl : lv_has ls 1 [(0, .ref h)] := hl
  have hown : s.vm.findClass RX7 = some m.cls := hown
  have hk61 := hts (.fieldLink RX7 61 "LoomDeskModel" "clothDensity" "[I") (by decide +kernel)
  have hk130 := hts (.fieldLink RX7 130 "LoomDeskModel" "length" "J") (by decide +kernel)
  have hk163 := hts (.fieldLink RX7 163 "LoomDeskModel" "place" "J") (by decide +kernel)
  have hk182 := hts (.fieldLink RX7 182 "LoomDeskModel" "cloths" "I") (by decide +kernel)
  have hk191 := hts (.fieldLink RX7 191 "LoomDeskModel" "quarters" "J") (by decide +kernel)
  have hk194 := hts (.fieldLink RX7 194 "LoomDeskModel" "beaten" "J") (by decide +kernel)
  have hk200 := hts (.fieldLink RX7 200 "LoomDeskModel" "pick" "I") (by decide +kernel)
  have hk213 := hts (.fieldLink RX7 213 "LoomDeskModel" "turns" "J") (by decide +kernel)
  refine lv_aload_n hx hb dX7_unpicks_0 rfl (lv_at hl 0 rfl) ?_
  refine jx_get (v := .int (I 38)) hx hb hts iX7_unpicks_7 hown hK hP 0 rfl rfl 38 (by decide) hk182 rfl rfl dX7_unpicks_1 ?_
  refine lv_if_le (tgt := 86) hx hb dX7_unpicks_4 (by decide) (fun c_1 => ?_) (fun c_1 => ?_)
  · skip
    refine lv_aload_n hx hb dX7_unpicks_86 rfl (lv_at hl 0 rfl) ?_
    refine lv_iconst (v := 0) hx hb dX7_unpicks_87 (by decide) ?_
    refine jx_put (w2 := [(h, .inr (7, (oX7 R (upd I 28 (0 : Int32)) L))), ((R 37), .inl (cI, 64, .inl f37))]) hx hb hts iX7_unpicks_7 tyX7 tyX7_ok nmX7 hown hK hP hD hS 0 rfl rfl 28 (by decide) hk200 rfl rfl rfl rfl (Nat.le_of_ble_eq_true rfl) dX7_unpicks_88 rfl (fun H locs hP hD hS => ?_)
    refine lv_aload_n hx hb dX7_unpicks_91 rfl (lv_at hl 0 rfl) ?_
    refine lv_dup hx hb dX7_unpicks_92 rfl ?_
    refine jx_get (v := .long (L 34)) hx hb hts iX7_unpicks_7 hown hK hP 0 rfl rfl 34 (by decide) hk213 rfl rfl dX7_unpicks_93 ?_
    refine lv_lconst (v := 1) hx hb dX7_unpicks_96 (by decide) ?_
    refine lv_lsub hx hb dX7_unpicks_97 ?_
    refine lv_topl (fun v_2 ev_2 => ?_)
    refine jx_put (w2 := [(h, .inr (7, (oX7 R (upd I 28 (0 : Int32)) (vp_updL L 34 v_2)))), ((R 37), .inl (cI, 64, .inl f37))]) hx hb hts iX7_unpicks_7 tyX7 tyX7_ok nmX7 hown hK hP hD hS 0 rfl rfl 34 (by decide) hk213 rfl rfl rfl rfl (Nat.le_of_ble_eq_true rfl) dX7_unpicks_98 rfl (fun H locs hP hD hS => ?_)
    have hq : (sX7_unpicks I L f37) = ((upd I 28 (0 : Int32)), (vp_updL L 34 v_2)) := by clear hP hD hl; have z_ := ev_2.symm; clear ev_2; subst z_; unfold sX7_unpicks; exact (if_pos c_1)
    exact jx_vret () hx hb hr hlocks hK hP hD hS (by rw [hq]) trivial dX7_unpicks_101
  · skip
    refine lv_aload_n hx hb dX7_unpicks_7 rfl (lv_at hl 0 rfl) ?_
    refine lv_dup hx hb dX7_unpicks_8 rfl ?_
    refine jx_get (v := .int (I 38)) hx hb hts iX7_unpicks_7 hown hK hP 0 rfl rfl 38 (by decide) hk182 rfl rfl dX7_unpicks_9 ?_
    refine lv_iconst (v := 1) hx hb dX7_unpicks_12 (by decide) ?_
    refine lv_isub hx hb dX7_unpicks_13 ?_
    refine lv_topi (fun v_3 ev_3 => ?_)
    refine jx_put (w2 := [(h, .inr (7, (oX7 R (upd I 38 v_3) L))), ((R 37), .inl (cI, 64, .inl f37))]) hx hb hts iX7_unpicks_7 tyX7 tyX7_ok nmX7 hown hK hP hD hS 0 rfl rfl 38 (by decide) hk182 rfl rfl rfl rfl (Nat.le_of_ble_eq_true rfl) dX7_unpicks_14 rfl (fun H locs hP hD hS => ?_)
    refine lv_aload_n hx hb dX7_unpicks_17 rfl (lv_at hl 0 rfl) ?_
    refine lv_dup hx hb dX7_unpicks_18 rfl ?_
    refine jx_get (v := .long (L 32)) hx hb hts iX7_unpicks_7 hown hK hP 0 rfl rfl 32 (by decide) hk191 rfl rfl dX7_unpicks_19 ?_
    refine lv_sipush (v := 4000) hx hb dX7_unpicks_22 (by decide) ?_
    refine lv_aload_n hx hb dX7_unpicks_25 rfl (lv_at hl 0 rfl) ?_
    refine jx_get (v := .ref (R 37)) hx hb hts iX7_unpicks_7 hown hK hP 0 rfl rfl 37 (by decide) hk61 rfl rfl dX7_unpicks_26 ?_
    refine lv_aload_n hx hb dX7_unpicks_29 rfl (lv_at hl 0 rfl) ?_
    refine jx_get (v := .int v_3) hx hb hts iX7_unpicks_7 hown hK hP 0 rfl rfl 38 (by decide) hk182 rfl rfl dX7_unpicks_30 ?_
    refine va_iald hx hb hK hP 1 0 rfl rfl (by clear hP hD hl; have z_ := ev_3.symm; clear ev_3; subst z_; exact (hc c_1).1) dX7_unpicks_33 ?_
    refine lv_idiv hx hb dX7_unpicks_34 (by clear hP hD hl; have z_ := ev_3.symm; clear ev_3; subst z_; exact (hc c_1).2) ?_
    refine lv_i2l hx hb dX7_unpicks_35 rfl ?_
    refine lv_lsub hx hb dX7_unpicks_36 ?_
    refine lv_topl (fun v_4 ev_4 => ?_)
    refine jx_put (w2 := [(h, .inr (7, (oX7 R (upd I 38 v_3) (vp_updL L 32 v_4)))), ((R 37), .inl (cI, 64, .inl f37))]) hx hb hts iX7_unpicks_7 tyX7 tyX7_ok nmX7 hown hK hP hD hS 0 rfl rfl 32 (by decide) hk191 rfl rfl rfl rfl (Nat.le_of_ble_eq_true rfl) dX7_unpicks_37 rfl (fun H locs hP hD hS => ?_)
    refine lv_aload_n hx hb dX7_unpicks_40 rfl (lv_at hl 0 rfl) ?_
    refine lv_dup hx hb dX7_unpicks_41 rfl ?_
    refine jx_get (v := .long (L 33)) hx hb hts iX7_unpicks_7 hown hK hP 0 rfl rfl 33 (by decide) hk194 rfl rfl dX7_unpicks_42 ?_
    refine lv_lconst (v := 1) hx hb dX7_unpicks_45 (by decide) ?_
    refine lv_lsub hx hb dX7_unpicks_46 ?_
    refine lv_topl (fun v_5 ev_5 => ?_)
    refine jx_put (w2 := [(h, .inr (7, (oX7 R (upd I 38 v_3) (vp_updL (vp_updL L 32 v_4) 33 v_5)))), ((R 37), .inl (cI, 64, .inl f37))]) hx hb hts iX7_unpicks_7 tyX7 tyX7_ok nmX7 hown hK hP hD hS 0 rfl rfl 33 (by decide) hk194 rfl rfl rfl rfl (Nat.le_of_ble_eq_true rfl) dX7_unpicks_47 rfl (fun H locs hP hD hS => ?_)
    refine lv_aload_n hx hb dX7_unpicks_50 rfl (lv_at hl 0 rfl) ?_
    refine lv_aload_n hx hb dX7_unpicks_51 rfl (lv_at hl 0 rfl) ?_
    refine jx_get (v := .long (L 25)) hx hb hts iX7_unpicks_7 hown hK hP 0 rfl rfl 25 (by decide) hk163 rfl rfl dX7_unpicks_52 ?_
    refine lv_lconst (v := 0) hx hb dX7_unpicks_55 (by decide) ?_
    refine jx_l_ne (tgt := 69) hx hb dX7_unpicks_56 dX7_unpicks_57 (by decide) (fun c_6 => ?_) (fun c_6 => ?_)
    · skip
      refine lv_aload_n hx hb dX7_unpicks_69 rfl (lv_at hl 0 rfl) ?_
      refine jx_get (v := .long (L 25)) hx hb hts iX7_unpicks_7 hown hK hP 0 rfl rfl 25 (by decide) hk163 rfl rfl dX7_unpicks_70 ?_
      refine lv_lconst (v := 1) hx hb dX7_unpicks_73 (by decide) ?_
      refine lv_lsub hx hb dX7_unpicks_74 ?_
      refine lv_topl (fun v_7 ev_7 => ?_)
      refine jx_put (w2 := [(h, .inr (7, (oX7 R (upd I 38 v_3) (vp_updL (vp_updL (vp_updL L 25 v_7) 32 v_4) 33 v_5)))), ((R 37), .inl (cI, 64, .inl f37))]) hx hb hts iX7_unpicks_7 tyX7 tyX7_ok nmX7 hown hK hP hD hS 0 rfl rfl 25 (by decide) hk163 rfl rfl rfl rfl (Nat.le_of_ble_eq_true rfl) dX7_unpicks_75 rfl (fun H locs hP hD hS => ?_)
      refine lv_aload_n hx hb dX7_unpicks_78 rfl (lv_at hl 0 rfl) ?_
      refine lv_iconst (v := 1) hx hb dX7_unpicks_79 (by decide) ?_
      refine jx_put (w2 := [(h, .inr (7, (oX7 R (upd (upd I 28 (1 : Int32)) 38 v_3) (vp_updL (vp_updL (vp_updL L 25 v_7) 32 v_4) 33 v_5)))), ((R 37), .inl (cI, 64, .inl f37))]) hx hb hts iX7_unpicks_7 tyX7 tyX7_ok nmX7 hown hK hP hD hS 0 rfl rfl 28 (by decide) hk200 rfl rfl rfl rfl (Nat.le_of_ble_eq_true rfl) dX7_unpicks_80 rfl (fun H locs hP hD hS => ?_)
      refine lv_goto (tgt := 91) hx hb dX7_unpicks_83 (by decide) ?_
      refine lv_aload_n hx hb dX7_unpicks_91 rfl (lv_at hl 0 rfl) ?_
      refine lv_dup hx hb dX7_unpicks_92 rfl ?_
      refine jx_get (v := .long (L 34)) hx hb hts iX7_unpicks_7 hown hK hP 0 rfl rfl 34 (by decide) hk213 rfl rfl dX7_unpicks_93 ?_
      refine lv_lconst (v := 1) hx hb dX7_unpicks_96 (by decide) ?_
      refine lv_lsub hx hb dX7_unpicks_97 ?_
      refine lv_topl (fun v_8 ev_8 => ?_)
      refine jx_put (w2 := [(h, .inr (7, (oX7 R (upd (upd I 28 (1 : Int32)) 38 v_3) (vp_updL (vp_updL (vp_updL (vp_updL L 25 v_7) 32 v_4) 33 v_5) 34 v_8)))), ((R 37), .inl (cI, 64, .inl f37))]) hx hb hts iX7_unpicks_7 tyX7 tyX7_ok nmX7 hown hK hP hD hS 0 rfl rfl 34 (by decide) hk213 rfl rfl rfl rfl (Nat.le_of_ble_eq_true rfl) dX7_unpicks_98 rfl (fun H locs hP hD hS => ?_)
      have hq : (sX7_unpicks I L f37) = ((upd (upd I 28 (1 : Int32)) 38 v_3), (vp_updL (vp_updL (vp_updL (vp_updL L 25 v_7) 32 v_4) 33 v_5) 34 v_8)) := by clear hP hD hl; have z_ := ev_8.symm; clear ev_8; subst z_; have z_ := ev_7.symm; clear ev_7; subst z_; have z_ := ev_5.symm; clear ev_5; subst z_; have z_ := ev_4.symm; clear ev_4; subst z_; have z_ := ev_3.symm; clear ev_3; subst z_; unfold sX7_unpicks; exact (if_neg c_1).trans ((if_neg c_6))
      exact jx_vret () hx hb hr hlocks hK hP hD hS (by rw [hq]) trivial dX7_unpicks_101
    · skip
      refine lv_aload_n hx hb dX7_unpicks_60 rfl (lv_at hl 0 rfl) ?_
      refine jx_get (v := .long (L 10)) hx hb hts iX7_unpicks_7 hown hK hP 0 rfl rfl 10 (by decide) hk130 rfl rfl dX7_unpicks_61 ?_
      refine lv_lconst (v := 1) hx hb dX7_unpicks_64 (by decide) ?_
      refine lv_lsub hx hb dX7_unpicks_65 ?_
      refine lv_goto (tgt := 75) hx hb dX7_unpicks_66 (by decide) ?_
      refine lv_topl (fun v_9 ev_9 => ?_)
      refine jx_put (w2 := [(h, .inr (7, (oX7 R (upd I 38 v_3) (vp_updL (vp_updL (vp_updL L 25 v_9) 32 v_4) 33 v_5)))), ((R 37), .inl (cI, 64, .inl f37))]) hx hb hts iX7_unpicks_7 tyX7 tyX7_ok nmX7 hown hK hP hD hS 0 rfl rfl 25 (by decide) hk163 rfl rfl rfl rfl (Nat.le_of_ble_eq_true rfl) dX7_unpicks_75 rfl (fun H locs hP hD hS => ?_)
      refine lv_aload_n hx hb dX7_unpicks_78 rfl (lv_at hl 0 rfl) ?_
      refine lv_iconst (v := 1) hx hb dX7_unpicks_79 (by decide) ?_
      refine jx_put (w2 := [(h, .inr (7, (oX7 R (upd (upd I 28 (1 : Int32)) 38 v_3) (vp_updL (vp_updL (vp_updL L 25 v_9) 32 v_4) 33 v_5)))), ((R 37), .inl (cI, 64, .inl f37))]) hx hb hts iX7_unpicks_7 tyX7 tyX7_ok nmX7 hown hK hP hD hS 0 rfl rfl 28 (by decide) hk200 rfl rfl rfl rfl (Nat.le_of_ble_eq_true rfl) dX7_unpicks_80 rfl (fun H locs hP hD hS => ?_)
      refine lv_goto (tgt := 91) hx hb dX7_unpicks_83 (by decide) ?_
      refine lv_aload_n hx hb dX7_unpicks_91 rfl (lv_at hl 0 rfl) ?_
      refine lv_dup hx hb dX7_unpicks_92 rfl ?_
      refine jx_get (v := .long (L 34)) hx hb hts iX7_unpicks_7 hown hK hP 0 rfl rfl 34 (by decide) hk213 rfl rfl dX7_unpicks_93 ?_
      refine lv_lconst (v := 1) hx hb dX7_unpicks_96 (by decide) ?_
      refine lv_lsub hx hb dX7_unpicks_97 ?_
      refine lv_topl (fun v_10 ev_10 => ?_)
      refine jx_put (w2 := [(h, .inr (7, (oX7 R (upd (upd I 28 (1 : Int32)) 38 v_3) (vp_updL (vp_updL (vp_updL (vp_updL L 25 v_9) 32 v_4) 33 v_5) 34 v_10)))), ((R 37), .inl (cI, 64, .inl f37))]) hx hb hts iX7_unpicks_7 tyX7 tyX7_ok nmX7 hown hK hP hD hS 0 rfl rfl 34 (by decide) hk213 rfl rfl rfl rfl (Nat.le_of_ble_eq_true rfl) dX7_unpicks_98 rfl (fun H locs hP hD hS => ?_)
      have hq : (sX7_unpicks I L f37) = ((upd (upd I 28 (1 : Int32)) 38 v_3), (vp_updL (vp_updL (vp_updL (vp_updL L 25 v_9) 32 v_4) 33 v_5) 34 v_10)) := by clear hP hD hl; have z_ := ev_10.symm; clear ev_10; subst z_; have z_ := ev_9.symm; clear ev_9; subst z_; have z_ := ev_5.symm; clear ev_5; subst z_; have z_ := ev_4.symm; clear ev_4; subst z_; have z_ := ev_3.symm; clear ev_3; subst z_; unfold sX7_unpicks; exact (if_neg c_1).trans ((if_pos c_6))
      exact jx_vret () hx hb hr hlocks hK hP hD hS (by rw [hq]) trivial dX7_unpicks_101

