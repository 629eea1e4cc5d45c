def sX1_has (L : Nat → Int64) (a0 : Int64) : Int32 := (if a0 < (0 : Int64) then (0 : Int32) else (if (L 7) ≤ a0 then (0 : Int32) else (1 : Int32)))
set_option maxRecDepth 20000 in
theorem iX1_has_1 : ∀ w ∈ wsX10, w ∈ wsX1_has := by decide +kernel
set_option maxHeartbeats 4000000 in
set_option maxRecDepth 100000 in
theorem kX1_has (l : Launch) (D : va_G) (cI cJ cZ cD : ClassId) (tA : Nat) (h : Nat) (R : Nat → Nat) (I : Nat → Int32) (L : Nat → Int64) (a0 : Int64) : jx_Ms l yX1_has wsX1_has ({ frames := 0, cells := 0, slots := 0, locals := 0 }) D (jT cI cJ cZ cD) tA [.ref h, .long a0] [(h, .inr (1, (oX1 R I L)))] (vp_Si (fun r => r = (sX1_has L a0))) := by
  refine jx_ofs (cc := cX1_has) (maxL := 3) (ret := (some .boolean)) (by decide +kernel) rfl (Nat.le_of_ble_eq_true rfl) ?_
  intro p e s m below meth c A ls hx hb hr hlocks hml hown hts hK hP hD hA hS hX hl
  have hl : lv_has ls 3 [(0, .ref h), (1, .long a0)] := hl
  have hown : s.vm.findClass RX1 = some m.cls := hown
  have hk37 := hts (.fieldLink RX1 37 "LoomDesk$Pattern" "picks" "J") (by decide +kernel)
  refine lv_lload_n hx hb dX1_has_0 rfl (lv_at hl 1 rfl) ?_
  refine lv_lconst (v := 0) hx hb dX1_has_1 (by decide) ?_
  refine jx_l_lt (tgt := 19) hx hb dX1_has_2 dX1_has_3 (by decide) (fun c_1 => ?_) (fun c_1 => ?_)
  · skip
    refine lv_iconst (v := 0) hx hb dX1_has_19 (by decide) ?_
    have hq : (sX1_has L a0) = (0 : Int32) := by unfold sX1_has; exact (if_pos c_1)
    exact jx_szret hx hb hr hlocks hq.symm (Or.inl rfl) dX1_has_20
  · skip
    refine lv_lload_n hx hb dX1_has_6 rfl (lv_at hl 1 rfl) ?_
    refine lv_aload_n hx hb dX1_has_7 rfl (lv_at hl 0 rfl) ?_
    refine jx_get (v := .long (L 7)) hx hb hts iX1_has_1 hown hK hP 0 rfl rfl 7 (by decide) hk37 rfl rfl dX1_has_8 ?_
    refine jx_l_ge (tgt := 19) hx hb dX1_has_11 dX1_has_12 (by decide) (fun c_2 => ?_) (fun c_2 => ?_)
    · skip
      refine lv_iconst (v := 0) hx hb dX1_has_19 (by decide) ?_
      have hq : (sX1_has L a0) = (0 : Int32) := by unfold sX1_has; exact (if_neg c_1).trans ((if_pos c_2))
      exact jx_szret hx hb hr hlocks hq.symm (Or.inl rfl) dX1_has_20
    · skip
      refine lv_iconst (v := 1) hx hb dX1_has_15 (by decide) ?_
      refine lv_goto (tgt := 20) hx hb dX1_has_16 (by decide) ?_
      have hq : (sX1_has L a0) = (1 : Int32) := by unfold sX1_has; exact (if_neg c_1).trans ((if_neg c_2))
      exact jx_szret hx hb hr hlocks hq.symm (Or.inr rfl) dX1_has_20

def sX1_behind (L : Nat → Int64) (a0 : Int64) : Int64 := (if (sX1_has L (a0 + (1 : Int64))) = 0 then (0 : Int64) else (a0 + (1 : Int64)))
set_option maxHeartbeats 4000000 in
set_option maxRecDepth 100000 in
theorem kX1_behind (l : Launch) (D : va_G) (cI cJ cZ cD : ClassId) (tA : Nat) (h : Nat) (R : Nat → Nat) (I : Nat → Int32) (L : Nat → Int64) (a0 : Int64) : jx_Ms l yX1_behind wsX1_behind ({ frames := 1, cells := 0, slots := 0, locals := 22 }) D (jT cI cJ cZ cD) tA [.ref h, .long a0] [(h, .inr (1, (oX1 R I L)))] (vp_Sl (fun r => r = (sX1_behind L a0))) := by
  refine jx_ofs (cc := cX1_behind) (maxL := 3) (ret := (some .long)) (by decide +kernel) rfl (Nat.le_of_ble_eq_true rfl) ?_
  intro p e s m below meth c A ls hx hb hr hlocks hml hown hts hK hP hD hA hS hX hl
  have hl : lv_has ls 3 [(0, .ref h), (1, .long a0)] := hl
  have hown : s.vm.findClass RX1 = some m.cls := hown
  refine lv_aload_n hx hb dX1_behind_0 rfl (lv_at hl 0 rfl) ?_
  refine lv_lload_n hx hb dX1_behind_1 rfl (lv_at hl 1 rfl) ?_
  refine lv_lconst (v := 1) hx hb dX1_behind_2 (by decide) ?_
  refine lv_ladd hx hb dX1_behind_3 ?_
  refine jx_pcalli (wc := [(h, .inr (1, (oX1 R I L)))]) hP hD hS hA [0] rfl (by decide) (fun hPc hDc hF => jx_runVs (As := [.long (a0 + (1 : Int64))]) (rest := []) (n := 1) (ci := 1) (q0 := 0) hx hb hml hown hts hK hX hS hl.1 (kX1_has l D cI cJ cZ cD tA h R I L (a0 + (1 : Int64))) gX1_behind_X1_has rfl rfl rfl (by decide +kernel) ⟨Nat.le_of_ble_eq_true rfl, Nat.le_of_ble_eq_true rfl⟩ rfl rfl rfl rfl rfl (Nat.le_of_ble_eq_true rfl) dX1_behind_4 ⟨Nat.zero_le _, Nat.zero_le _⟩ hPc hDc hF) (fun r_1 er_1 => ?_)
  have er_1 : r_1 = (sX1_has L (a0 + (1 : Int64))) := er_1
  refine lv_if_eq (tgt := 16) hx hb dX1_behind_7 (by decide) (fun c_2 => ?_) (fun c_2 => ?_)
  · skip
    refine lv_lconst (v := 0) hx hb dX1_behind_16 (by decide) ?_
    have hq : (sX1_behind L a0) = (0 : Int64) := by clear hP hD hl; have z_ := er_1.symm; clear er_1; subst z_; unfold sX1_behind; exact (if_pos c_2)
    exact jx_slret hx hb hr hlocks hq.symm dX1_behind_17
  · skip
    refine lv_lload_n hx hb dX1_behind_10 rfl (lv_at hl 1 rfl) ?_
    refine lv_lconst (v := 1) hx hb dX1_behind_11 (by decide) ?_
    refine lv_ladd hx hb dX1_behind_12 ?_
    refine lv_goto (tgt := 17) hx hb dX1_behind_13 (by decide) ?_
    have hq : (sX1_behind L a0) = (a0 + (1 : Int64)) := by clear hP hD hl; have z_ := er_1.symm; clear er_1; subst z_; unfold sX1_behind; exact (if_neg c_2)
    exact jx_slret hx hb hr hlocks hq.symm dX1_behind_17

def sX1_before (L : Nat → Int64) (a0 : Int64) : Int64 := (if (sX1_has L (a0 - (1 : Int64))) = 0 then (if (0 : Int64) < ((L 7) - (1 : Int64)) then ((L 7) - (1 : Int64)) else (0 : Int64)) else (a0 - (1 : Int64)))
set_option maxRecDepth 20000 in
theorem iX1_before_1 : ∀ w ∈ wsX10, w ∈ wsX1_before := by decide +kernel
set_option maxHeartbeats 4000000 in
set_option maxRecDepth 100000 in
theorem kX1_before (l : Launch) (D : va_G) (cI cJ cZ cD : ClassId) (tA : Nat) (h : Nat) (R : Nat → Nat) (I : Nat → Int32) (L : Nat → Int64) (a0 : Int64) : jx_Ms l yX1_before wsX1_before ({ frames := 1, cells := 0, slots := 0, locals := 23 }) D (jT cI cJ cZ cD) tA [.ref h, .long a0] [(h, .inr (1, (oX1 R I L)))] (vp_Sl (fun r => r = (sX1_before L a0))) := by
  refine jx_ofs (cc := cX1_before) (maxL := 3) (ret := (some .long)) (by decide +kernel) rfl (Nat.le_of_ble_eq_true rfl) ?_
  intro p e s m below meth c A ls hx hb hr hlocks hml hown hts hK hP hD hA hS hX hl
  have hl : lv_has ls 3 [(0, .ref h), (1, .long a0)] := hl
  have hown : s.vm.findClass RX1 = some m.cls := hown
  have hk37 := hts (.fieldLink RX1 37 "LoomDesk$Pattern" "picks" "J") (by decide +kernel)
  refine lv_aload_n hx hb dX1_before_0 rfl (lv_at hl 0 rfl) ?_
  refine lv_lload_n hx hb dX1_before_1 rfl (lv_at hl 1 rfl) ?_
  refine lv_lconst (v := 1) hx hb dX1_before_2 (by decide) ?_
  refine lv_lsub hx hb dX1_before_3 ?_
  refine jx_pcalli (wc := [(h, .inr (1, (oX1 R I L)))]) hP hD hS hA [0] rfl (by decide) (fun hPc hDc hF => jx_runVs (As := [.long (a0 - (1 : Int64))]) (rest := []) (n := 1) (ci := 1) (q0 := 0) hx hb hml hown hts hK hX hS hl.1 (kX1_has l D cI cJ cZ cD tA h R I L (a0 - (1 : Int64))) gX1_before_X1_has rfl rfl rfl (by decide +kernel) ⟨Nat.le_of_ble_eq_true rfl, Nat.le_of_ble_eq_true rfl⟩ rfl rfl rfl rfl rfl (Nat.le_of_ble_eq_true rfl) dX1_before_4 ⟨Nat.zero_le _, Nat.zero_le _⟩ hPc hDc hF) (fun r_1 er_1 => ?_)
  have er_1 : r_1 = (sX1_has L (a0 - (1 : Int64))) := er_1
  refine lv_if_eq (tgt := 16) hx hb dX1_before_7 (by decide) (fun c_2 => ?_) (fun c_2 => ?_)
  · skip
    refine lv_aload_n hx hb dX1_before_16 rfl (lv_at hl 0 rfl) ?_
    refine jx_get (v := .long (L 7)) hx hb hts iX1_before_1 hown hK hP 0 rfl rfl 7 (by decide) hk37 rfl rfl dX1_before_17 ?_
    refine lv_lconst (v := 1) hx hb dX1_before_20 (by decide) ?_
    refine lv_lsub hx hb dX1_before_21 ?_
    refine lv_lconst (v := 0) hx hb dX1_before_22 (by decide) ?_
    refine va_mmax_long hx hb (hml.trans hl.1.symm) hown (hts (.methodLink RX1 54 Lib.MathLoose.max_long.x) (by decide +kernel)) (hts (.static Lib.MathLoose.max_long.x) (by decide +kernel)) (hts (.initialized "java/lang/Math") (by decide +kernel)) (hts (.code Lib.MathLoose.max_long.x Lib.MathLoose.max_long.code 4 (some .long)) (by decide +kernel)) (Nat.le_of_ble_eq_true rfl) (Nat.le_of_ble_eq_true rfl) (Nat.zero_le _) (Nat.zero_le _) dX1_before_23 ?_
    have hq : (sX1_before L a0) = (if (0 : Int64) < ((L 7) - (1 : Int64)) then ((L 7) - (1 : Int64)) else (0 : Int64)) := by clear hP hD hl; have z_ := er_1.symm; clear er_1; subst z_; unfold sX1_before; exact (if_pos c_2)
    exact jx_slret hx hb hr hlocks hq.symm dX1_before_26
  · skip
    refine lv_lload_n hx hb dX1_before_10 rfl (lv_at hl 1 rfl) ?_
    refine lv_lconst (v := 1) hx hb dX1_before_11 (by decide) ?_
    refine lv_lsub hx hb dX1_before_12 ?_
    refine lv_goto (tgt := 26) hx hb dX1_before_13 (by decide) ?_
    have hq : (sX1_before L a0) = (a0 - (1 : Int64)) := by clear hP hD hl; have z_ := er_1.symm; clear er_1; subst z_; unfold sX1_before; exact (if_neg c_2)
    exact jx_slret hx hb hr hlocks hq.symm dX1_before_26

def sX1_clear (I : Nat → Int32) (L : Nat → Int64) : (Nat → Int32) × (Nat → Int64) := ((upd I 6 (0 : Int32)), (vp_updL L 7 (0 : Int64)))
set_option maxRecDepth 20000 in
theorem iX1_clear_1 : ∀ w ∈ wsX10, w ∈ wsX1_clear := by decide +kernel
set_option maxHeartbeats 4000000 in
set_option maxRecDepth 100000 in
theorem kX1_clear (l : Launch) (D : va_G) (cI cJ cZ cD : ClassId) (tA : Nat) (h : Nat) (R : Nat → Nat) (I : Nat → Int32) (L : Nat → Int64) : jx_M l yX1_clear wsX1_clear ({ frames := 0, cells := 0, slots := 0, locals := 0 }) D (jT cI cJ cZ cD) tA [.ref h] [(h, .inr (1, (oX1 R I L)))] (jx_Qv D (jT cI cJ cZ cD) (fun (_ : Unit) => True) (fun _ => [(h, .inr (1, (oX1 R (sX1_clear I L).1 (sX1_clear I L).2)))])) := by
  refine jx_of (cc := cX1_clear) (maxL := 1) (ret := none) (by decide +kernel) rfl (Nat.le_of_ble_eq_true rfl) ?_
  intro p e s m below meth c A ls hx hb hr hlocks hml hown hts hK hP hD hA hS hX hl
  have hl : lv_has ls 1 [(0, .ref h)] := hl
  have hown : s.vm.findClass RX1 = some m.cls := hown
  have hk33 := hts (.fieldLink RX1 33 "LoomDesk$Pattern" "size" "I") (by decide +kernel)
  have hk37 := hts (.fieldLink RX1 37 "LoomDesk$Pattern" "picks" "J") (by decide +kernel)
  refine lv_aload_n hx hb dX1_clear_0 rfl (lv_at hl 0 rfl) ?_
  refine lv_iconst (v := 0) hx hb dX1_clear_1 (by decide) ?_
  refine jx_put (w2 := [(h, .inr (1, (oX1 R (upd I 6 (0 : Int32)) L)))]) hx hb hts iX1_clear_1 tyX1 tyX1_ok nmX1 hown hK hP hD hS 0 rfl rfl 6 (by decide) hk33 rfl rfl rfl rfl (Nat.le_of_ble_eq_true rfl) dX1_clear_2 rfl (fun H locs hP hD hS => ?_)
  refine lv_aload_n hx hb dX1_clear_5 rfl (lv_at hl 0 rfl) ?_
  refine lv_lconst (v := 0) hx hb dX1_clear_6 (by decide) ?_
  refine jx_put (w2 := [(h, .inr (1, (oX1 R (upd I 6 (0 : Int32)) (vp_updL L 7 (0 : Int64)))))]) hx hb hts iX1_clear_1 tyX1 tyX1_ok nmX1 hown hK hP hD hS 0 rfl rfl 7 (by decide) hk37 rfl rfl rfl rfl (Nat.le_of_ble_eq_true rfl) dX1_clear_7 rfl (fun H locs hP hD hS => ?_)
  have hq : (sX1_clear I L) = ((upd I 6 (0 : Int32)), (vp_updL L 7 (0 : Int64))) := rfl
  exact jx_vret () hx hb hr hlocks hK hP hD hS (by rw [hq]) trivial dX1_clear_10

def sX1_add (I : Nat → Int32) (f0 : Nat → Int32) (f1 : Nat → Int32) (a0 : Int32) (a1 : Int32) : (Nat → Int32) × (Nat → Int32) × (Nat → Int32) := (if (I 6) < 0 then (I, f0, f1) else (if (I 6) < (80 : Int32) then ((upd I 6 ((I 6) + (1 : Int32))), (upd f0 (I 6).toNatClampNeg a0), (upd f1 (I 6).toNatClampNeg a1)) else (I, f0, f1)))
set_option maxRecDepth 20000 in
theorem iX1_add_1 : ∀ w ∈ wsX10, w ∈ wsX1_add := by decide +kernel
set_option maxHeartbeats 4000000 in
set_option maxRecDepth 100000 in
theorem kX1_add (l : Launch) (D : va_G) (cI cJ cZ cD : ClassId) (tA : Nat) (h : Nat) (R : Nat → Nat) (I : Nat → Int32) (L : Nat → Int64) (f0 : Nat → Int32) (f1 : Nat → Int32) (f2 : Nat → Int32) (f3 : Nat → Int64) (f4 : Nat → Int32) (f5 : Nat → Int32) (a0 : Int32) (a1 : Int32) : jx_M l yX1_add wsX1_add ({ frames := 0, cells := 0, slots := 0, locals := 0 }) D (jT cI cJ cZ cD) tA [.ref h, .int a0, .int a1] [(h, .inr (1, (oX1 R I L))), ((R 0), .inl (cI, 80, .inl f0)), ((R 1), .inl (cI, 80, .inl f1)), ((R 2), .inl (cI, 80, .inl f2)), ((R 3), .inl (cJ, 80, .inr (.inl f3))), ((R 4), .inl (cI, 80, .inl f4)), ((R 5), .inl (cI, 80, .inl f5))] (jx_Qv D (jT cI cJ cZ cD) (fun (_ : Unit) => True) (fun _ => [(h, .inr (1, (oX1 R (sX1_add I f0 f1 a0 a1).1 L))), ((R 0), .inl (cI, 80, .inl ((sX1_add I f0 f1 a0 a1).2.1))), ((R 1), .inl (cI, 80, .inl ((sX1_add I f0 f1 a0 a1).2.2))), ((R 2), .inl (cI, 80, .inl f2)), ((R 3), .inl (cJ, 80, .inr (.inl f3))), ((R 4), .inl (cI, 80, .inl f4)), ((R 5), .inl (cI, 80, .inl f5))])) := by
  refine jx_of (cc := cX1_add) (maxL := 3) (ret := none) (by decide +kernel) rfl (Nat.le_of_ble_eq_true rfl) ?_
  intro p e s m below meth c A ls hx hb hr hlocks hml hown hts hK hP hD hA hS hX hl
  have hl : lv_has ls 3 [(0, .ref h), (1, .int a0), (2, .int a1)] := hl
  have hown : s.vm.findClass RX1 = some m.cls := hown
  have hk13 := hts (.fieldLink RX1 13 "LoomDesk$Pattern" "kinds" "[I") (by decide +kernel)
  have hk17 := hts (.fieldLink RX1 17 "LoomDesk$Pattern" "values" "[I") (by decide +kernel)
  have hk33 := hts (.fieldLink RX1 33 "LoomDesk$Pattern" "size" "I") (by decide +kernel)
  refine lv_aload_n hx hb dX1_add_0 rfl (lv_at hl 0 rfl) ?_
  refine jx_get (v := .int (I 6)) hx hb hts iX1_add_1 hown hK hP 0 rfl rfl 6 (by decide) hk33 rfl rfl dX1_add_1 ?_
  refine lv_if_lt (tgt := 16) hx hb dX1_add_4 (by decide) (fun c_1 => ?_) (fun c_1 => ?_)
  · skip
    have hq : (sX1_add I f0 f1 a0 a1) = (I, f0, f1) := by unfold sX1_add; exact (if_pos c_1)
    exact jx_vret () hx hb hr hlocks hK hP hD hS (by rw [hq]) trivial dX1_add_16
  · skip
    refine lv_aload_n hx hb dX1_add_7 rfl (lv_at hl 0 rfl) ?_
    refine jx_get (v := .int (I 6)) hx hb hts iX1_add_1 hown hK hP 0 rfl rfl 6 (by decide) hk33 rfl rfl dX1_add_8 ?_
    refine lv_bipush (v := 80) hx hb dX1_add_11 (by decide) ?_
    refine lv_icmp_lt (tgt := 17) hx hb dX1_add_13 (by decide) (fun c_2 => ?_) (fun c_2 => ?_)
    · skip
      refine lv_aload_n hx hb dX1_add_17 rfl (lv_at hl 0 rfl) ?_
      refine jx_get (v := .ref (R 0)) hx hb hts iX1_add_1 hown hK hP 0 rfl rfl 0 (by decide) hk13 rfl rfl dX1_add_18 ?_
      refine lv_aload_n hx hb dX1_add_21 rfl (lv_at hl 0 rfl) ?_
      refine jx_get (v := .int (I 6)) hx hb hts iX1_add_1 hown hK hP 0 rfl rfl 6 (by decide) hk33 rfl rfl dX1_add_22 ?_
      refine lv_iload_n hx hb dX1_add_25 rfl (lv_at hl 1 rfl) ?_
      refine jx_iast (w2 := [(h, .inr (1, (oX1 R I L))), ((R 0), .inl (cI, 80, .inl (upd f0 (I 6).toNatClampNeg a0))), ((R 1), .inl (cI, 80, .inl f1)), ((R 2), .inl (cI, 80, .inl f2)), ((R 3), .inl (cJ, 80, .inr (.inl f3))), ((R 4), .inl (cI, 80, .inl f4)), ((R 5), .inl (cI, 80, .inl f5))]) hx hb hK hP hD hS 1 0 rfl rfl (jx_inlu c_1 c_2 (by decide)) dX1_add_26 rfl (fun H locs hP hD hS => ?_)
      refine lv_aload_n hx hb dX1_add_27 rfl (lv_at hl 0 rfl) ?_
      refine jx_get (v := .ref (R 1)) hx hb hts iX1_add_1 hown hK hP 0 rfl rfl 1 (by decide) hk17 rfl rfl dX1_add_28 ?_
      refine lv_aload_n hx hb dX1_add_31 rfl (lv_at hl 0 rfl) ?_
      refine jx_get (v := .int (I 6)) hx hb hts iX1_add_1 hown hK hP 0 rfl rfl 6 (by decide) hk33 rfl rfl dX1_add_32 ?_
      refine lv_iload_n hx hb dX1_add_35 rfl (lv_at hl 2 rfl) ?_
      refine jx_iast (w2 := [(h, .inr (1, (oX1 R I L))), ((R 0), .inl (cI, 80, .inl (upd f0 (I 6).toNatClampNeg a0))), ((R 1), .inl (cI, 80, .inl (upd f1 (I 6).toNatClampNeg a1))), ((R 2), .inl (cI, 80, .inl f2)), ((R 3), .inl (cJ, 80, .inr (.inl f3))), ((R 4), .inl (cI, 80, .inl f4)), ((R 5), .inl (cI, 80, .inl f5))]) hx hb hK hP hD hS 2 0 rfl rfl (jx_inlu c_1 c_2 (by decide)) dX1_add_36 rfl (fun H locs hP hD hS => ?_)
      refine lv_aload_n hx hb dX1_add_37 rfl (lv_at hl 0 rfl) ?_
      refine lv_dup hx hb dX1_add_38 rfl ?_
      refine jx_get (v := .int (I 6)) hx hb hts iX1_add_1 hown hK hP 0 rfl rfl 6 (by decide) hk33 rfl rfl dX1_add_39 ?_
      refine lv_iconst (v := 1) hx hb dX1_add_42 (by decide) ?_
      refine lv_iadd hx hb dX1_add_43 ?_
      refine lv_topi (fun v_3 ev_3 => ?_)
      refine jx_put (w2 := [(h, .inr (1, (oX1 R (upd I 6 v_3) L))), ((R 0), .inl (cI, 80, .inl (upd f0 (I 6).toNatClampNeg a0))), ((R 1), .inl (cI, 80, .inl (upd f1 (I 6).toNatClampNeg a1))), ((R 2), .inl (cI, 80, .inl f2)), ((R 3), .inl (cJ, 80, .inr (.inl f3))), ((R 4), .inl (cI, 80, .inl f4)), ((R 5), .inl (cI, 80, .inl f5))]) hx hb hts iX1_add_1 tyX1 tyX1_ok nmX1 hown hK hP hD hS 0 rfl rfl 6 (by decide) hk33 rfl rfl rfl rfl (Nat.le_of_ble_eq_true rfl) dX1_add_44 rfl (fun H locs hP hD hS => ?_)
      have hq : (sX1_add I f0 f1 a0 a1) = ((upd I 6 v_3), (upd f0 (I 6).toNatClampNeg a0), (upd f1 (I 6).toNatClampNeg a1)) := by clear hP hD hl; have z_ := ev_3.symm; clear ev_3; subst z_; unfold sX1_add; exact (if_neg c_1).trans ((if_pos c_2))
      exact jx_vret () hx hb hr hlocks hK hP hD hS (by rw [hq]) trivial dX1_add_47
    · skip
      have hq : (sX1_add I f0 f1 a0 a1) = (I, f0, f1) := by unfold sX1_add; exact (if_neg c_1).trans ((if_neg c_2))
      exact jx_vret () hx hb hr hlocks hK hP hD hS (by rw [hq]) trivial dX1_add_16

def sX1_end (I : Nat → Int32) (f1 : Nat → Int32) (f2 : Nat → Int32) (f3 : Nat → Int64) (f4 : Nat → Int32) (f5 : Nat → Int32) (a0 : Int32) (a1 : Int64) (a2 : Int32) (a3 : Int32) : Int32 × (Nat → Int32) × (Nat → Int64) × (Nat → Int32) × (Nat → Int32) := (if a0 < 0 then ((0 : Int32), f2, f3, f4, f5) else (if a0 < (I 6) then ((f1 a0.toNatClampNeg), (upd f2 a0.toNatClampNeg (I 6)), (vp_updL f3 a0.toNatClampNeg a1), (upd f4 a0.toNatClampNeg a2), (upd f5 a0.toNatClampNeg a3)) else ((0 : Int32), f2, f3, f4, f5)))
set_option maxRecDepth 20000 in
theorem iX1_end_1 : ∀ w ∈ wsX10, w ∈ wsX1_end := by decide +kernel
set_option maxHeartbeats 4000000 in
set_option maxRecDepth 100000 in
theorem kX1_end (l : Launch) (D : va_G) (cI cJ cZ cD : ClassId) (tA : Nat) (h : Nat) (R : Nat → Nat) (I : Nat → Int32) (L : Nat → Int64) (f0 : Nat → Int32) (f1 : Nat → Int32) (f2 : Nat → Int32) (f3 : Nat → Int64) (f4 : Nat → Int32) (f5 : Nat → Int32) (a0 : Int32) (a1 : Int64) (a2 : Int32) (a3 : Int32) (hs : (I 6).toInt ≤ 80) : jx_M l yX1_end wsX1_end ({ frames := 0, cells := 0, slots := 0, locals := 0 }) D (jT cI cJ cZ cD) tA [.ref h, .int a0, .long a1, .int a2, .int a3] [(h, .inr (1, (oX1 R I L))), ((R 0), .inl (cI, 80, .inl f0)), ((R 1), .inl (cI, 80, .inl f1)), ((R 2), .inl (cI, 80, .inl f2)), ((R 3), .inl (cJ, 80, .inr (.inl f3))), ((R 4), .inl (cI, 80, .inl f4)), ((R 5), .inl (cI, 80, .inl f5))] (jx_Qi D (jT cI cJ cZ cD) (fun r (_ : Unit) => r = (sX1_end I f1 f2 f3 f4 f5 a0 a1 a2 a3).1) (fun _ => [(h, .inr (1, (oX1 R I L))), ((R 0), .inl (cI, 80, .inl f0)), ((R 1), .inl (cI, 80, .inl f1)), ((R 2), .inl (cI, 80, .inl ((sX1_end I f1 f2 f3 f4 f5 a0 a1 a2 a3).2.1))), ((R 3), .inl (cJ, 80, .inr (.inl ((sX1_end I f1 f2 f3 f4 f5 a0 a1 a2 a3).2.2.1)))), ((R 4), .inl (cI, 80, .inl ((sX1_end I f1 f2 f3 f4 f5 a0 a1 a2 a3).2.2.2.1))), ((R 5), .inl (cI, 80, .inl ((sX1_end I f1 f2 f3 f4 f5 a0 a1 a2 a3).2.2.2.2)))])) := by
  refine jx_of (cc := cX1_end) (maxL := 6) (ret := (some .int)) (by decide +kernel) rfl (Nat.le_of_ble_eq_true rfl) ?_
  intro p e s m below meth c A ls hx hb hr hlocks hml hown hts hK hP hD hA hS hX hl
  have hl : lv_has ls 6 [(0, .ref h), (1, .int a0), (2, .long a1), (4, .int a2), (5, .int a3)] := hl
  have hown : s.vm.findClass RX1 = some m.cls := hown
  have hk17 := hts (.fieldLink RX1 17 "LoomDesk$Pattern" "values" "[I") (by decide +kernel)
  have hk20 := hts (.fieldLink RX1 20 "LoomDesk$Pattern" "ends" "[I") (by decide +kernel)
  have hk23 := hts (.fieldLink RX1 23 "LoomDesk$Pattern" "insides" "[J") (by decide +kernel)
  have hk27 := hts (.fieldLink RX1 27 "LoomDesk$Pattern" "carriers" "[I") (by decide +kernel)
  have hk30 := hts (.fieldLink RX1 30 "LoomDesk$Pattern" "densities" "[I") (by decide +kernel)
  have hk33 := hts (.fieldLink RX1 33 "LoomDesk$Pattern" "size" "I") (by decide +kernel)
  refine lv_iload_n hx hb dX1_end_0 rfl (lv_at hl 1 rfl) ?_
  refine lv_if_lt (tgt := 12) hx hb dX1_end_1 (by decide) (fun c_1 => ?_) (fun c_1 => ?_)
  · skip
    refine lv_iconst (v := 0) hx hb dX1_end_12 (by decide) ?_
    have hq : (sX1_end I f1 f2 f3 f4 f5 a0 a1 a2 a3) = ((0 : Int32), f2, f3, f4, f5) := by unfold sX1_end; exact (if_pos c_1)
    exact jx_iret () hx hb hr hlocks hK hP hD hS (by rw [hq]) (by rw [hq]) dX1_end_13
  · skip
    refine lv_iload_n hx hb dX1_end_4 rfl (lv_at hl 1 rfl) ?_
    refine lv_aload_n hx hb dX1_end_5 rfl (lv_at hl 0 rfl) ?_
    refine jx_get (v := .int (I 6)) hx hb hts iX1_end_1 hown hK hP 0 rfl rfl 6 (by decide) hk33 rfl rfl dX1_end_6 ?_
    refine lv_icmp_lt (tgt := 14) hx hb dX1_end_9 (by decide) (fun c_2 => ?_) (fun c_2 => ?_)
    · skip
      refine lv_aload_n hx hb dX1_end_14 rfl (lv_at hl 0 rfl) ?_
      refine jx_get (v := .ref (R 2)) hx hb hts iX1_end_1 hown hK hP 0 rfl rfl 2 (by decide) hk20 rfl rfl dX1_end_15 ?_
      refine lv_iload_n hx hb dX1_end_18 rfl (lv_at hl 1 rfl) ?_
      refine lv_aload_n hx hb dX1_end_19 rfl (lv_at hl 0 rfl) ?_
      refine jx_get (v := .int (I 6)) hx hb hts iX1_end_1 hown hK hP 0 rfl rfl 6 (by decide) hk33 rfl rfl dX1_end_20 ?_
      refine jx_iast (w2 := [(h, .inr (1, (oX1 R I L))), ((R 0), .inl (cI, 80, .inl f0)), ((R 1), .inl (cI, 80, .inl f1)), ((R 2), .inl (cI, 80, .inl (upd f2 a0.toNatClampNeg (I 6)))), ((R 3), .inl (cJ, 80, .inr (.inl f3))), ((R 4), .inl (cI, 80, .inl f4)), ((R 5), .inl (cI, 80, .inl f5))]) hx hb hK hP hD hS 3 0 rfl rfl (jx_inlu c_1 c_2 hs) dX1_end_23 rfl (fun H locs hP hD hS => ?_)
      refine lv_aload_n hx hb dX1_end_24 rfl (lv_at hl 0 rfl) ?_
      refine jx_get (v := .ref (R 3)) hx hb hts iX1_end_1 hown hK hP 0 rfl rfl 3 (by decide) hk23 rfl rfl dX1_end_25 ?_
      refine lv_iload_n hx hb dX1_end_28 rfl (lv_at hl 1 rfl) ?_
      refine lv_lload_n hx hb dX1_end_29 rfl (lv_at hl 2 rfl) ?_
      refine jx_last (w2 := [(h, .inr (1, (oX1 R I L))), ((R 0), .inl (cI, 80, .inl f0)), ((R 1), .inl (cI, 80, .inl f1)), ((R 2), .inl (cI, 80, .inl (upd f2 a0.toNatClampNeg (I 6)))), ((R 3), .inl (cJ, 80, .inr (.inl (vp_updL f3 a0.toNatClampNeg a1)))), ((R 4), .inl (cI, 80, .inl f4)), ((R 5), .inl (cI, 80, .inl f5))]) hx hb hK hP hD hS 4 1 rfl rfl (jx_inlu c_1 c_2 hs) dX1_end_30 rfl (fun H locs hP hD hS => ?_)
      refine lv_aload_n hx hb dX1_end_31 rfl (lv_at hl 0 rfl) ?_
      refine jx_get (v := .ref (R 4)) hx hb hts iX1_end_1 hown hK hP 0 rfl rfl 4 (by decide) hk27 rfl rfl dX1_end_32 ?_
      refine lv_iload_n hx hb dX1_end_35 rfl (lv_at hl 1 rfl) ?_
      refine lv_iload hx hb dX1_end_36 (lv_at hl 3 rfl) ?_
      refine jx_iast (w2 := [(h, .inr (1, (oX1 R I L))), ((R 0), .inl (cI, 80, .inl f0)), ((R 1), .inl (cI, 80, .inl f1)), ((R 2), .inl (cI, 80, .inl (upd f2 a0.toNatClampNeg (I 6)))), ((R 3), .inl (cJ, 80, .inr (.inl (vp_updL f3 a0.toNatClampNeg a1)))), ((R 4), .inl (cI, 80, .inl (upd f4 a0.toNatClampNeg a2))), ((R 5), .inl (cI, 80, .inl f5))]) hx hb hK hP hD hS 5 0 rfl rfl (jx_inlu c_1 c_2 hs) dX1_end_38 rfl (fun H locs hP hD hS => ?_)
      refine lv_aload_n hx hb dX1_end_39 rfl (lv_at hl 0 rfl) ?_
      refine jx_get (v := .ref (R 5)) hx hb hts iX1_end_1 hown hK hP 0 rfl rfl 5 (by decide) hk30 rfl rfl dX1_end_40 ?_
      refine lv_iload_n hx hb dX1_end_43 rfl (lv_at hl 1 rfl) ?_
      refine lv_iload hx hb dX1_end_44 (lv_at hl 4 rfl) ?_
      refine jx_iast (w2 := [(h, .inr (1, (oX1 R I L))), ((R 0), .inl (cI, 80, .inl f0)), ((R 1), .inl (cI, 80, .inl f1)), ((R 2), .inl (cI, 80, .inl (upd f2 a0.toNatClampNeg (I 6)))), ((R 3), .inl (cJ, 80, .inr (.inl (vp_updL f3 a0.toNatClampNeg a1)))), ((R 4), .inl (cI, 80, .inl (upd f4 a0.toNatClampNeg a2))), ((R 5), .inl (cI, 80, .inl (upd f5 a0.toNatClampNeg a3)))]) hx hb hK hP hD hS 6 0 rfl rfl (jx_inlu c_1 c_2 hs) dX1_end_46 rfl (fun H locs hP hD hS => ?_)
      refine lv_aload_n hx hb dX1_end_47 rfl (lv_at hl 0 rfl) ?_
      refine jx_get (v := .ref (R 1)) hx hb hts iX1_end_1 hown hK hP 0 rfl rfl 1 (by decide) hk17 rfl rfl dX1_end_48 ?_
      refine lv_iload_n hx hb dX1_end_51 rfl (lv_at hl 1 rfl) ?_
      refine va_iald hx hb hK hP 2 0 rfl rfl (jx_inlu c_1 c_2 hs) dX1_end_52 ?_
      have hq : (sX1_end I f1 f2 f3 f4 f5 a0 a1 a2 a3) = ((f1 a0.toNatClampNeg), (upd f2 a0.toNatClampNeg (I 6)), (vp_updL f3 a0.toNatClampNeg a1), (upd f4 a0.toNatClampNeg a2), (upd f5 a0.toNatClampNeg a3)) := by unfold sX1_end; exact (if_neg c_1).trans ((if_pos c_2))
      exact jx_iret () hx hb hr hlocks hK hP hD hS (by rw [hq]) (by rw [hq]) dX1_end_53
    · skip
      refine lv_iconst (v := 0) hx hb dX1_end_12 (by decide) ?_
      have hq : (sX1_end I f1 f2 f3 f4 f5 a0 a1 a2 a3) = ((0 : Int32), f2, f3, f4, f5) := by unfold sX1_end; exact (if_neg c_1).trans ((if_neg c_2))
      exact jx_iret () hx hb hr hlocks hK hP hD hS (by rw [hq]) (by rw [hq]) dX1_end_13

def sX1_tellHere (I : Nat → Int32) (a0 : Int32) (a1 : Int32) : Int32 := (if a1 = (0 : Int32) then a0 else (if a1 = (1 : Int32) then (I 9) else (if a1 = (2 : Int32) then (I 10) else (-1 : Int32))))
set_option maxRecDepth 20000 in
theorem iX1_tellHere_1 : ∀ w ∈ wsX10, w ∈ wsX1_tellHere := by decide +kernel
set_option maxHeartbeats 4000000 in
set_option maxRecDepth 100000 in
theorem kX1_tellHere (l : Launch) (D : va_G) (cI cJ cZ cD : ClassId) (tA : Nat) (h : Nat) (R : Nat → Nat) (I : Nat → Int32) (L : Nat → Int64) (a0 : Int32) (a1 : Int32) : jx_Ms l yX1_tellHere wsX1_tellHere ({ frames := 0, cells := 0, slots := 0, locals := 0 }) D (jT cI cJ cZ cD) tA [.ref h, .int a0, .int a1] [(h, .inr (1, (oX1 R I L)))] (vp_Si (fun r => r = (sX1_tellHere I a0 a1))) := by
  refine jx_ofs (cc := cX1_tellHere) (maxL := 3) (ret := (some .int)) (by decide +kernel) rfl (Nat.le_of_ble_eq_true rfl) ?_
  intro p e s m below meth c A ls hx hb hr hlocks hml hown hts hK hP hD hA hS hX hl
  have hl : lv_has ls 3 [(0, .ref h), (1, .int a0), (2, .int a1)] := hl
  have hown : s.vm.findClass RX1 = some m.cls := hown
  have hk44 := hts (.fieldLink RX1 44 "LoomDesk$Pattern" "carrier" "I") (by decide +kernel)
  have hk47 := hts (.fieldLink RX1 47 "LoomDesk$Pattern" "density" "I") (by decide +kernel)
  refine lv_iload_n hx hb dX1_tellHere_0 rfl (lv_at hl 2 rfl) ?_
  by_cases c_1 : a1 = (0 : Int32)
  · skip
    refine lv_tableIn (off := 27) (tgt := 28) hx hb dX1_tellHere_1 (by rw [c_1]; decide) (by rw [c_1]; decide) (by rw [c_1]; rfl) (by decide) ?_
    refine lv_iload_n hx hb dX1_tellHere_28 rfl (lv_at hl 1 rfl) ?_
    have hq : (sX1_tellHere I a0 a1) = a0 := by unfold sX1_tellHere; exact (if_pos c_1)
    exact jx_siret hx hb hr hlocks hq.symm dX1_tellHere_29
  by_cases c_2 : a1 = (1 : Int32)
  · skip
    refine lv_tableIn (off := 29) (tgt := 30) hx hb dX1_tellHere_1 (by rw [c_2]; decide) (by rw [c_2]; decide) (by rw [c_2]; rfl) (by decide) ?_
    refine lv_aload_n hx hb dX1_tellHere_30 rfl (lv_at hl 0 rfl) ?_
    refine jx_get (v := .int (I 9)) hx hb hts iX1_tellHere_1 hown hK hP 0 rfl rfl 9 (by decide) hk44 rfl rfl dX1_tellHere_31 ?_
    have hq : (sX1_tellHere I a0 a1) = (I 9) := by unfold sX1_tellHere; exact (if_neg c_1).trans ((if_pos c_2))
    exact jx_siret hx hb hr hlocks hq.symm dX1_tellHere_34
  by_cases c_3 : a1 = (2 : Int32)
  · skip
    refine lv_tableIn (off := 34) (tgt := 35) hx hb dX1_tellHere_1 (by rw [c_3]; decide) (by rw [c_3]; decide) (by rw [c_3]; rfl) (by decide) ?_
    refine lv_aload_n hx hb dX1_tellHere_35 rfl (lv_at hl 0 rfl) ?_
    refine jx_get (v := .int (I 10)) hx hb hts iX1_tellHere_1 hown hK hP 0 rfl rfl 10 (by decide) hk47 rfl rfl dX1_tellHere_36 ?_
    have hq : (sX1_tellHere I a0 a1) = (I 10) := by unfold sX1_tellHere; exact (if_neg c_1).trans ((if_neg c_2).trans ((if_pos c_3)))
    exact jx_siret hx hb hr hlocks hq.symm dX1_tellHere_39
  have hout : a1.toInt < 0 ∨ 2 < a1.toInt := by
    have z0 := lv_neT c_1 (show (0 : Int32).toInt = 0 by decide)
    have z1 := lv_neT c_2 (show (1 : Int32).toInt = 1 by decide)
    have z2 := lv_neT c_3 (show (2 : Int32).toInt = 2 by decide)
    omega
  refine lv_tableOut (tgt := 40) hx hb dX1_tellHere_1 hout (by decide) ?_
  refine lv_iconst (v := -1) hx hb dX1_tellHere_40 (by decide) ?_
  have hq : (sX1_tellHere I a0 a1) = (-1 : Int32) := by unfold sX1_tellHere; exact (if_neg c_1).trans ((if_neg c_2).trans ((if_neg c_3)))
  exact jx_siret hx hb hr hlocks hq.symm dX1_tellHere_41

def sX1_passBracket (I : Nat → Int32) (L : Nat → Int64) (f0 : Nat → Int32) (f1 : Nat → Int32) (f2 : Nat → Int32) (f3 : Nat → Int64) (f4 : Nat → Int32) (f5 : Nat → Int32) (a0 : Int32) : Int32 × (Nat → Int32) × (Nat → Int64) := (if (f3 a0.toNatClampNeg) ≤ (L 8) then (if (f0 a0.toNatClampNeg) = (4 : Int32) then (if ((f3 a0.toNatClampNeg) * (f1 a0.toNatClampNeg).toInt64) ≤ (L 8) then (if (f4 a0.toNatClampNeg) = (-1 : Int32) then (if (f5 a0.toNatClampNeg) = (-1 : Int32) then (if ((f3 a0.toNatClampNeg) * (f1 a0.toNatClampNeg).toInt64) ≤ (L 8) then ((f2 a0.toNatClampNeg), I, (vp_updL L 8 ((L 8) - ((f3 a0.toNatClampNeg) * (f1 a0.toNatClampNeg).toInt64)))) else (if (f3 a0.toNatClampNeg) ≤ (0 : Int64) then ((f2 a0.toNatClampNeg), I, (vp_updL L 8 ((L 8) - ((f3 a0.toNatClampNeg) * (f1 a0.toNatClampNeg).toInt64)))) else ((a0 + (1 : Int32)), I, (vp_updL L 8 ((L 8) - (L 8) / (f3 a0.toNatClampNeg) * (f3 a0.toNatClampNeg)))))) else (if ((f3 a0.toNatClampNeg) * (f1 a0.toNatClampNeg).toInt64) ≤ (L 8) then ((f2 a0.toNatClampNeg), (upd I 10 (f5 a0.toNatClampNeg)), (vp_updL L 8 ((L 8) - ((f3 a0.toNatClampNeg) * (f1 a0.toNatClampNeg).toInt64)))) else (if (f3 a0.toNatClampNeg) ≤ (0 : Int64) then ((f2 a0.toNatClampNeg), (upd I 10 (f5 a0.toNatClampNeg)), (vp_updL L 8 ((L 8) - ((f3 a0.toNatClampNeg) * (f1 a0.toNatClampNeg).toInt64)))) else ((a0 + (1 : Int32)), (upd I 10 (f5 a0.toNatClampNeg)), (vp_updL L 8 ((L 8) - (L 8) / (f3 a0.toNatClampNeg) * (f3 a0.toNatClampNeg))))))) else (if (f5 a0.toNatClampNeg) = (-1 : Int32) then (if ((f3 a0.toNatClampNeg) * (f1 a0.toNatClampNeg).toInt64) ≤ (L 8) then ((f2 a0.toNatClampNeg), (upd I 9 (f4 a0.toNatClampNeg)), (vp_updL L 8 ((L 8) - ((f3 a0.toNatClampNeg) * (f1 a0.toNatClampNeg).toInt64)))) else (if (f3 a0.toNatClampNeg) ≤ (0 : Int64) then ((f2 a0.toNatClampNeg), (upd I 9 (f4 a0.toNatClampNeg)), (vp_updL L 8 ((L 8) - ((f3 a0.toNatClampNeg) * (f1 a0.toNatClampNeg).toInt64)))) else ((a0 + (1 : Int32)), (upd I 9 (f4 a0.toNatClampNeg)), (vp_updL L 8 ((L 8) - (L 8) / (f3 a0.toNatClampNeg) * (f3 a0.toNatClampNeg)))))) else (if ((f3 a0.toNatClampNeg) * (f1 a0.toNatClampNeg).toInt64) ≤ (L 8) then ((f2 a0.toNatClampNeg), (upd (upd I 9 (f4 a0.toNatClampNeg)) 10 (f5 a0.toNatClampNeg)), (vp_updL L 8 ((L 8) - ((f3 a0.toNatClampNeg) * (f1 a0.toNatClampNeg).toInt64)))) else (if (f3 a0.toNatClampNeg) ≤ (0 : Int64) then ((f2 a0.toNatClampNeg), (upd (upd I 9 (f4 a0.toNatClampNeg)) 10 (f5 a0.toNatClampNeg)), (vp_updL L 8 ((L 8) - ((f3 a0.toNatClampNeg) * (f1 a0.toNatClampNeg).toInt64)))) else ((a0 + (1 : Int32)), (upd (upd I 9 (f4 a0.toNatClampNeg)) 10 (f5 a0.toNatClampNeg)), (vp_updL L 8 ((L 8) - (L 8) / (f3 a0.toNatClampNeg) * (f3 a0.toNatClampNeg)))))))) else ((a0 + (1 : Int32)), I, (vp_updL L 8 ((((f3 a0.toNatClampNeg) * (f1 a0.toNatClampNeg).toInt64) - (1 : Int64)) - (L 8))))) else (if (f4 a0.toNatClampNeg) = (-1 : Int32) then (if (f5 a0.toNatClampNeg) = (-1 : Int32) then (if ((f3 a0.toNatClampNeg) * (f1 a0.toNatClampNeg).toInt64) ≤ (L 8) then ((f2 a0.toNatClampNeg), I, (vp_updL L 8 ((L 8) - ((f3 a0.toNatClampNeg) * (f1 a0.toNatClampNeg).toInt64)))) else (if (f3 a0.toNatClampNeg) ≤ (0 : Int64) then ((f2 a0.toNatClampNeg), I, (vp_updL L 8 ((L 8) - ((f3 a0.toNatClampNeg) * (f1 a0.toNatClampNeg).toInt64)))) else ((a0 + (1 : Int32)), I, (vp_updL L 8 ((L 8) - (L 8) / (f3 a0.toNatClampNeg) * (f3 a0.toNatClampNeg)))))) else (if ((f3 a0.toNatClampNeg) * (f1 a0.toNatClampNeg).toInt64) ≤ (L 8) then ((f2 a0.toNatClampNeg), (upd I 10 (f5 a0.toNatClampNeg)), (vp_updL L 8 ((L 8) - ((f3 a0.toNatClampNeg) * (f1 a0.toNatClampNeg).toInt64)))) else (if (f3 a0.toNatClampNeg) ≤ (0 : Int64) then ((f2 a0.toNatClampNeg), (upd I 10 (f5 a0.toNatClampNeg)), (vp_updL L 8 ((L 8) - ((f3 a0.toNatClampNeg) * (f1 a0.toNatClampNeg).toInt64)))) else ((a0 + (1 : Int32)), (upd I 10 (f5 a0.toNatClampNeg)), (vp_updL L 8 ((L 8) - (L 8) / (f3 a0.toNatClampNeg) * (f3 a0.toNatClampNeg))))))) else (if (f5 a0.toNatClampNeg) = (-1 : Int32) then (if ((f3 a0.toNatClampNeg) * (f1 a0.toNatClampNeg).toInt64) ≤ (L 8) then ((f2 a0.toNatClampNeg), (upd I 9 (f4 a0.toNatClampNeg)), (vp_updL L 8 ((L 8) - ((f3 a0.toNatClampNeg) * (f1 a0.toNatClampNeg).toInt64)))) else (if (f3 a0.toNatClampNeg) ≤ (0 : Int64) then ((f2 a0.toNatClampNeg), (upd I 9 (f4 a0.toNatClampNeg)), (vp_updL L 8 ((L 8) - ((f3 a0.toNatClampNeg) * (f1 a0.toNatClampNeg).toInt64)))) else ((a0 + (1 : Int32)), (upd I 9 (f4 a0.toNatClampNeg)), (vp_updL L 8 ((L 8) - (L 8) / (f3 a0.toNatClampNeg) * (f3 a0.toNatClampNeg)))))) else (if ((f3 a0.toNatClampNeg) * (f1 a0.toNatClampNeg).toInt64) ≤ (L 8) then ((f2 a0.toNatClampNeg), (upd (upd I 9 (f4 a0.toNatClampNeg)) 10 (f5 a0.toNatClampNeg)), (vp_updL L 8 ((L 8) - ((f3 a0.toNatClampNeg) * (f1 a0.toNatClampNeg).toInt64)))) else (if (f3 a0.toNatClampNeg) ≤ (0 : Int64) then ((f2 a0.toNatClampNeg), (upd (upd I 9 (f4 a0.toNatClampNeg)) 10 (f5 a0.toNatClampNeg)), (vp_updL L 8 ((L 8) - ((f3 a0.toNatClampNeg) * (f1 a0.toNatClampNeg).toInt64)))) else ((a0 + (1 : Int32)), (upd (upd I 9 (f4 a0.toNatClampNeg)) 10 (f5 a0.toNatClampNeg)), (vp_updL L 8 ((L 8) - (L 8) / (f3 a0.toNatClampNeg) * (f3 a0.toNatClampNeg))))))))) else ((a0 + (1 : Int32)), I, L))
set_option maxRecDepth 20000 in
theorem iX1_passBracket_1 : ∀ w ∈ wsX10, w ∈ wsX1_passBracket := by decide +kernel
set_option maxHeartbeats 4000000 in
set_option maxRecDepth 100000 in
theorem kX1_passBracket (l : Launch) (D : va_G) (cI cJ cZ cD : ClassId) (tA : Nat) (h : Nat) (R : Nat → Nat) (I : Nat → Int32) (L : Nat → Int64) (f0 : Nat → Int32) (f1 : Nat → Int32) (f2 : Nat → Int32) (f3 : Nat → Int64) (f4 : Nat → Int32) (f5 : Nat → Int32) (a0 : Int32) (hi : vp_in a0 80) : jx_M l yX1_passBracket wsX1_passBracket ({ frames := 0, cells := 0, slots := 0, locals := 0 }) D (jT cI cJ cZ cD) tA [.ref h, .int a0] [(h, .inr (1, (oX1 R I L))), ((R 0), .inl (cI, 80, .inl f0)), ((R 1), .inl (cI, 80, .inl f1)), ((R 2), .inl (cI, 80, .inl f2)), ((R 3), .inl (cJ, 80, .inr (.inl f3))), ((R 4), .inl (cI, 80, .inl f4)), ((R 5), .inl (cI, 80, .inl f5))] (jx_Qi D (jT cI cJ cZ cD) (fun r (_ : Unit) => r = (sX1_passBracket I L f0 f1 f2 f3 f4 f5 a0).1) (fun _ => [(h, .inr (1, (oX1 R (sX1_passBracket I L f0 f1 f2 f3 f4 f5 a0).2.1 (sX1_passBracket I L f0 f1 f2 f3 f4 f5 a0).2.2))), ((R 0), .inl (cI, 80, .inl f0)), ((R 1), .inl (cI, 80, .inl f1)), ((R 2), .inl (cI, 80, .inl f2)), ((R 3), .inl (cJ, 80, .inr (.inl f3))), ((R 4), .inl (cI, 80, .inl f4)), ((R 5), .inl (cI, 80, .inl f5))])) := by
  refine jx_of (cc := cX1_passBracket) (maxL := 6) (ret := (some .int)) (by decide +kernel) rfl (Nat.le_of_ble_eq_true rfl) ?_
  intro p e s m below meth c A ls hx hb hr hlocks hml hown hts hK hP hD hA hS hX hl
  have hl : lv_has ls 6 [(0, .ref h), (1, .int a0)] := hl
  have hown : s.vm.findClass RX1 = some m.cls := hown
  have hk13 := hts (.fieldLink RX1 13 "LoomDesk$Pattern" "kinds" "[I") (by decide +kernel)
  have hk17 := hts (.fieldLink RX1 17 "LoomDesk$Pattern" "values" "[I") (by decide +kernel)
  have hk20 := hts (.fieldLink RX1 20 "LoomDesk$Pattern" "ends" "[I") (by decide +kernel)
  have hk23 := hts (.fieldLink RX1 23 "LoomDesk$Pattern" "insides" "[J") (by decide +kernel)
  have hk27 := hts (.fieldLink RX1 27 "LoomDesk$Pattern" "carriers" "[I") (by decide +kernel)
  have hk30 := hts (.fieldLink RX1 30 "LoomDesk$Pattern" "densities" "[I") (by decide +kernel)
  have hk41 := hts (.fieldLink RX1 41 "LoomDesk$Pattern" "ahead" "J") (by decide +kernel)
  have hk44 := hts (.fieldLink RX1 44 "LoomDesk$Pattern" "carrier" "I") (by decide +kernel)
  have hk47 := hts (.fieldLink RX1 47 "LoomDesk$Pattern" "density" "I") (by decide +kernel)
  refine lv_aload_n hx hb dX1_passBracket_0 rfl (lv_at hl 0 rfl) ?_
  refine jx_get (v := .ref (R 3)) hx hb hts iX1_passBracket_1 hown hK hP 0 rfl rfl 3 (by decide) hk23 rfl rfl dX1_passBracket_1 ?_
  refine lv_iload_n hx hb dX1_passBracket_4 rfl (lv_at hl 1 rfl) ?_
  refine va_lald hx hb hK hP 4 1 rfl rfl hi dX1_passBracket_5 ?_
  refine lv_topl (fun v_1 ev_1 => ?_)
  refine lv_lstore_n (lv' := [(2, .long v_1), (0, .ref h), (1, .int a0)]) hx hb dX1_passBracket_6 rfl hl (by decide) rfl (fun ls hl => ?_)
  refine lv_aload_n hx hb dX1_passBracket_7 rfl (lv_at hl 1 rfl) ?_
  refine jx_get (v := .long (L 8)) hx hb hts iX1_passBracket_1 hown hK hP 0 rfl rfl 8 (by decide) hk41 rfl rfl dX1_passBracket_8 ?_
  refine lv_lload_n hx hb dX1_passBracket_11 rfl (lv_at hl 0 rfl) ?_
  refine jx_l_ge (tgt := 20) hx hb dX1_passBracket_12 dX1_passBracket_13 (by decide) (fun c_2 => ?_) (fun c_2 => ?_)
  · skip
    refine lv_lload_n hx hb dX1_passBracket_20 rfl (lv_at hl 0 rfl) ?_
    refine lv_aload_n hx hb dX1_passBracket_21 rfl (lv_at hl 1 rfl) ?_
    refine jx_get (v := .ref (R 1)) hx hb hts iX1_passBracket_1 hown hK hP 0 rfl rfl 1 (by decide) hk17 rfl rfl dX1_passBracket_22 ?_
    refine lv_iload_n hx hb dX1_passBracket_25 rfl (lv_at hl 2 rfl) ?_
    refine va_iald hx hb hK hP 2 0 rfl rfl hi dX1_passBracket_26 ?_
    refine lv_i2l hx hb dX1_passBracket_27 rfl ?_
    refine lv_lmul hx hb dX1_passBracket_28 ?_
    refine lv_topl (fun v_3 ev_3 => ?_)
    refine lv_lstore (lv' := [(4, .long v_3), (2, .long v_1), (0, .ref h), (1, .int a0)]) hx hb dX1_passBracket_29 hl (by decide) rfl (fun ls hl => ?_)
    refine lv_aload_n hx hb dX1_passBracket_31 rfl (lv_at hl 2 rfl) ?_
    refine jx_get (v := .ref (R 0)) hx hb hts iX1_passBracket_1 hown hK hP 0 rfl rfl 0 (by decide) hk13 rfl rfl dX1_passBracket_32 ?_
    refine lv_iload_n hx hb dX1_passBracket_35 rfl (lv_at hl 3 rfl) ?_
    refine va_iald hx hb hK hP 1 0 rfl rfl hi dX1_passBracket_36 ?_
    refine lv_iconst (v := 4) hx hb dX1_passBracket_37 (by decide) ?_
    refine lv_icmp_ne (tgt := 68) hx hb dX1_passBracket_38 (by decide) (fun c_4 => ?_) (fun c_4 => ?_)
    · skip
      refine lv_aload_n hx hb dX1_passBracket_68 rfl (lv_at hl 2 rfl) ?_
      refine jx_get (v := .ref (R 4)) hx hb hts iX1_passBracket_1 hown hK hP 0 rfl rfl 4 (by decide) hk27 rfl rfl dX1_passBracket_69 ?_
      refine lv_iload_n hx hb dX1_passBracket_72 rfl (lv_at hl 3 rfl) ?_
      refine va_iald hx hb hK hP 5 0 rfl rfl hi dX1_passBracket_73 ?_
      refine lv_iconst (v := -1) hx hb dX1_passBracket_74 (by decide) ?_
      refine lv_icmp_eq (tgt := 88) hx hb dX1_passBracket_75 (by decide) (fun c_5 => ?_) (fun c_5 => ?_)
      · skip
        refine lv_aload_n hx hb dX1_passBracket_88 rfl (lv_at hl 2 rfl) ?_
        refine jx_get (v := .ref (R 5)) hx hb hts iX1_passBracket_1 hown hK hP 0 rfl rfl 5 (by decide) hk30 rfl rfl dX1_passBracket_89 ?_
        refine lv_iload_n hx hb dX1_passBracket_92 rfl (lv_at hl 3 rfl) ?_
        refine va_iald hx hb hK hP 6 0 rfl rfl hi dX1_passBracket_93 ?_
        refine lv_iconst (v := -1) hx hb dX1_passBracket_94 (by decide) ?_
        refine lv_icmp_eq (tgt := 108) hx hb dX1_passBracket_95 (by decide) (fun c_6 => ?_) (fun c_6 => ?_)
        · skip
          refine lv_aload_n hx hb dX1_passBracket_108 rfl (lv_at hl 2 rfl) ?_
          refine jx_get (v := .long (L 8)) hx hb hts iX1_passBracket_1 hown hK hP 0 rfl rfl 8 (by decide) hk41 rfl rfl dX1_passBracket_109 ?_
          refine lv_lload hx hb dX1_passBracket_112 (lv_at hl 0 rfl) ?_
          refine jx_l_ge (tgt := 138) hx hb dX1_passBracket_114 dX1_passBracket_115 (by decide) (fun c_7 => ?_) (fun c_7 => ?_)
          · skip
            refine lv_aload_n hx hb dX1_passBracket_138 rfl (lv_at hl 2 rfl) ?_
            refine lv_dup hx hb dX1_passBracket_139 rfl ?_
            refine jx_get (v := .long (L 8)) hx hb hts iX1_passBracket_1 hown hK hP 0 rfl rfl 8 (by decide) hk41 rfl rfl dX1_passBracket_140 ?_
            refine lv_lload hx hb dX1_passBracket_143 (lv_at hl 0 rfl) ?_
            refine lv_lsub hx hb dX1_passBracket_145 ?_
            refine lv_topl (fun v_8 ev_8 => ?_)
            refine jx_put (w2 := [(h, .inr (1, (oX1 R I (vp_updL L 8 v_8)))), ((R 0), .inl (cI, 80, .inl f0)), ((R 1), .inl (cI, 80, .inl f1)), ((R 2), .inl (cI, 80, .inl f2)), ((R 3), .inl (cJ, 80, .inr (.inl f3))), ((R 4), .inl (cI, 80, .inl f4)), ((R 5), .inl (cI, 80, .inl f5))]) hx hb hts iX1_passBracket_1 tyX1 tyX1_ok nmX1 hown hK hP hD hS 0 rfl rfl 8 (by decide) hk41 rfl rfl rfl rfl (Nat.le_of_ble_eq_true rfl) dX1_passBracket_146 rfl (fun H locs hP hD hS => ?_)
            refine lv_aload_n hx hb dX1_passBracket_149 rfl (lv_at hl 2 rfl) ?_
            refine jx_get (v := .ref (R 2)) hx hb hts iX1_passBracket_1 hown hK hP 0 rfl rfl 2 (by decide) hk20 rfl rfl dX1_passBracket_150 ?_
            refine lv_iload_n hx hb dX1_passBracket_153 rfl (lv_at hl 3 rfl) ?_
            refine va_iald hx hb hK hP 3 0 rfl rfl hi dX1_passBracket_154 ?_
            have hq : (sX1_passBracket I L f0 f1 f2 f3 f4 f5 a0) = ((f2 a0.toNatClampNeg), I, (vp_updL L 8 v_8)) := by clear hP hD hl; have z_ := ev_8.symm; clear ev_8; subst z_; have z_ := ev_3.symm; clear ev_3; subst z_; have z_ := ev_1.symm; clear ev_1; subst z_; unfold sX1_passBracket; exact (if_pos c_2).trans ((if_neg c_4).trans ((if_pos c_5).trans ((if_pos c_6).trans ((if_pos c_7)))))
            exact jx_iret () hx hb hr hlocks hK hP hD hS (by rw [hq]) (by rw [hq]) dX1_passBracket_155
          · skip
            refine lv_lload_n hx hb dX1_passBracket_118 rfl (lv_at hl 1 rfl) ?_
            refine lv_lconst (v := 0) hx hb dX1_passBracket_119 (by decide) ?_
            refine jx_l_le (tgt := 138) hx hb dX1_passBracket_120 dX1_passBracket_121 (by decide) (fun c_9 => ?_) (fun c_9 => ?_)
            · skip
              refine lv_aload_n hx hb dX1_passBracket_138 rfl (lv_at hl 2 rfl) ?_
              refine lv_dup hx hb dX1_passBracket_139 rfl ?_
              refine jx_get (v := .long (L 8)) hx hb hts iX1_passBracket_1 hown hK hP 0 rfl rfl 8 (by decide) hk41 rfl rfl dX1_passBracket_140 ?_
              refine lv_lload hx hb dX1_passBracket_143 (lv_at hl 0 rfl) ?_
              refine lv_lsub hx hb dX1_passBracket_145 ?_
              refine lv_topl (fun v_10 ev_10 => ?_)
              refine jx_put (w2 := [(h, .inr (1, (oX1 R I (vp_updL L 8 v_10)))), ((R 0), .inl (cI, 80, .inl f0)), ((R 1), .inl (cI, 80, .inl f1)), ((R 2), .inl (cI, 80, .inl f2)), ((R 3), .inl (cJ, 80, .inr (.inl f3))), ((R 4), .inl (cI, 80, .inl f4)), ((R 5), .inl (cI, 80, .inl f5))]) hx hb hts iX1_passBracket_1 tyX1 tyX1_ok nmX1 hown hK hP hD hS 0 rfl rfl 8 (by decide) hk41 rfl rfl rfl rfl (Nat.le_of_ble_eq_true rfl) dX1_passBracket_146 rfl (fun H locs hP hD hS => ?_)
              refine lv_aload_n hx hb dX1_passBracket_149 rfl (lv_at hl 2 rfl) ?_
              refine jx_get (v := .ref (R 2)) hx hb hts iX1_passBracket_1 hown hK hP 0 rfl rfl 2 (by decide) hk20 rfl rfl dX1_passBracket_150 ?_
              refine lv_iload_n hx hb dX1_passBracket_153 rfl (lv_at hl 3 rfl) ?_
              refine va_iald hx hb hK hP 3 0 rfl rfl hi dX1_passBracket_154 ?_
              have hq : (sX1_passBracket I L f0 f1 f2 f3 f4 f5 a0) = ((f2 a0.toNatClampNeg), I, (vp_updL L 8 v_10)) := by clear hP hD hl; have z_ := ev_10.symm; clear ev_10; subst z_; have z_ := ev_3.symm; clear ev_3; subst z_; have z_ := ev_1.symm; clear ev_1; subst z_; unfold sX1_passBracket; exact (if_pos c_2).trans ((if_neg c_4).trans ((if_pos c_5).trans ((if_pos c_6).trans ((if_neg c_7).trans ((if_pos c_9))))))
              exact jx_iret () hx hb hr hlocks hK hP hD hS (by rw [hq]) (by rw [hq]) dX1_passBracket_155
            · skip
              refine lv_aload_n hx hb dX1_passBracket_124 rfl (lv_at hl 2 rfl) ?_
              refine lv_dup hx hb dX1_passBracket_125 rfl ?_
              refine jx_get (v := .long (L 8)) hx hb hts iX1_passBracket_1 hown hK hP 0 rfl rfl 8 (by decide) hk41 rfl rfl dX1_passBracket_126 ?_
              refine lv_lload_n hx hb dX1_passBracket_129 rfl (lv_at hl 1 rfl) ?_
              refine lv_lrem hx hb dX1_passBracket_130 (fun z => c_9 (by rw [z]; decide)) ?_
              refine lv_topl (fun v_11 ev_11 => ?_)
              refine jx_put (w2 := [(h, .inr (1, (oX1 R I (vp_updL L 8 v_11)))), ((R 0), .inl (cI, 80, .inl f0)), ((R 1), .inl (cI, 80, .inl f1)), ((R 2), .inl (cI, 80, .inl f2)), ((R 3), .inl (cJ, 80, .inr (.inl f3))), ((R 4), .inl (cI, 80, .inl f4)), ((R 5), .inl (cI, 80, .inl f5))]) hx hb hts iX1_passBracket_1 tyX1 tyX1_ok nmX1 hown hK hP hD hS 0 rfl rfl 8 (by decide) hk41 rfl rfl rfl rfl (Nat.le_of_ble_eq_true rfl) dX1_passBracket_131 rfl (fun H locs hP hD hS => ?_)
              refine lv_iload_n hx hb dX1_passBracket_134 rfl (lv_at hl 3 rfl) ?_
              refine lv_iconst (v := 1) hx hb dX1_passBracket_135 (by decide) ?_
              refine lv_iadd hx hb dX1_passBracket_136 ?_
              have hq : (sX1_passBracket I L f0 f1 f2 f3 f4 f5 a0) = ((a0 + (1 : Int32)), I, (vp_updL L 8 v_11)) := by clear hP hD hl; have z_ := ev_11.symm; clear ev_11; subst z_; have z_ := ev_3.symm; clear ev_3; subst z_; have z_ := ev_1.symm; clear ev_1; subst z_; unfold sX1_passBracket; exact (if_pos c_2).trans ((if_neg c_4).trans ((if_pos c_5).trans ((if_pos c_6).trans ((if_neg c_7).trans ((if_neg c_9))))))
              exact jx_iret () hx hb hr hlocks hK hP hD hS (by rw [hq]) (by rw [hq]) dX1_passBracket_137
        · skip
          refine lv_aload_n hx hb dX1_passBracket_98 rfl (lv_at hl 2 rfl) ?_
          refine lv_aload_n hx hb dX1_passBracket_99 rfl (lv_at hl 2 rfl) ?_
          refine jx_get (v := .ref (R 5)) hx hb hts iX1_passBracket_1 hown hK hP 0 rfl rfl 5 (by decide) hk30 rfl rfl dX1_passBracket_100 ?_
          refine lv_iload_n hx hb dX1_passBracket_103 rfl (lv_at hl 3 rfl) ?_
          refine va_iald hx hb hK hP 6 0 rfl rfl hi dX1_passBracket_104 ?_
          refine lv_topi (fun v_12 ev_12 => ?_)
          refine jx_put (w2 := [(h, .inr (1, (oX1 R (upd I 10 v_12) L))), ((R 0), .inl (cI, 80, .inl f0)), ((R 1), .inl (cI, 80, .inl f1)), ((R 2), .inl (cI, 80, .inl f2)), ((R 3), .inl (cJ, 80, .inr (.inl f3))), ((R 4), .inl (cI, 80, .inl f4)), ((R 5), .inl (cI, 80, .inl f5))]) hx hb hts iX1_passBracket_1 tyX1 tyX1_ok nmX1 hown hK hP hD hS 0 rfl rfl 10 (by decide) hk47 rfl rfl rfl rfl (Nat.le_of_ble_eq_true rfl) dX1_passBracket_105 rfl (fun H locs hP hD hS => ?_)
          refine lv_aload_n hx hb dX1_passBracket_108 rfl (lv_at hl 2 rfl) ?_
          refine jx_get (v := .long (L 8)) hx hb hts iX1_passBracket_1 hown hK hP 0 rfl rfl 8 (by decide) hk41 rfl rfl dX1_passBracket_109 ?_
          refine lv_lload hx hb dX1_passBracket_112 (lv_at hl 0 rfl) ?_
          refine jx_l_ge (tgt := 138) hx hb dX1_passBracket_114 dX1_passBracket_115 (by decide) (fun c_13 => ?_) (fun c_13 => ?_)
          · skip
            refine lv_aload_n hx hb dX1_passBracket_138 rfl (lv_at hl 2 rfl) ?_
            refine lv_dup hx hb dX1_passBracket_139 rfl ?_
            refine jx_get (v := .long (L 8)) hx hb hts iX1_passBracket_1 hown hK hP 0 rfl rfl 8 (by decide) hk41 rfl rfl dX1_passBracket_140 ?_
            refine lv_lload hx hb dX1_passBracket_143 (lv_at hl 0 rfl) ?_
            refine lv_lsub hx hb dX1_passBracket_145 ?_
            refine lv_topl (fun v_14 ev_14 => ?_)
            refine jx_put (w2 := [(h, .inr (1, (oX1 R (upd I 10 v_12) (vp_updL L 8 v_14)))), ((R 0), .inl (cI, 80, .inl f0)), ((R 1), .inl (cI, 80, .inl f1)), ((R 2), .inl (cI, 80, .inl f2)), ((R 3), .inl (cJ, 80, .inr (.inl f3))), ((R 4), .inl (cI, 80, .inl f4)), ((R 5), .inl (cI, 80, .inl f5))]) hx hb hts iX1_passBracket_1 tyX1 tyX1_ok nmX1 hown hK hP hD hS 0 rfl rfl 8 (by decide) hk41 rfl rfl rfl rfl (Nat.le_of_ble_eq_true rfl) dX1_passBracket_146 rfl (fun H locs hP hD hS => ?_)
            refine lv_aload_n hx hb dX1_passBracket_149 rfl (lv_at hl 2 rfl) ?_
            refine jx_get (v := .ref (R 2)) hx hb hts iX1_passBracket_1 hown hK hP 0 rfl rfl 2 (by decide) hk20 rfl rfl dX1_passBracket_150 ?_
            refine lv_iload_n hx hb dX1_passBracket_153 rfl (lv_at hl 3 rfl) ?_
            refine va_iald hx hb hK hP 3 0 rfl rfl hi dX1_passBracket_154 ?_
            have hq : (sX1_passBracket I L f0 f1 f2 f3 f4 f5 a0) = ((f2 a0.toNatClampNeg), (upd I 10 v_12), (vp_updL L 8 v_14)) := by clear hP hD hl; have z_ := ev_14.symm; clear ev_14; subst z_; have z_ := ev_12.symm; clear ev_12; subst z_; have z_ := ev_3.symm; clear ev_3; subst z_; have z_ := ev_1.symm; clear ev_1; subst z_; unfold sX1_passBracket; exact (if_pos c_2).trans ((if_neg c_4).trans ((if_pos c_5).trans ((if_neg c_6).trans ((if_pos c_13)))))
            exact jx_iret () hx hb hr hlocks hK hP hD hS (by rw [hq]) (by rw [hq]) dX1_passBracket_155
          · skip
            refine lv_lload_n hx hb dX1_passBracket_118 rfl (lv_at hl 1 rfl) ?_
            refine lv_lconst (v := 0) hx hb dX1_passBracket_119 (by decide) ?_
            refine jx_l_le (tgt := 138) hx hb dX1_passBracket_120 dX1_passBracket_121 (by decide) (fun c_15 => ?_) (fun c_15 => ?_)
            · skip
              refine lv_aload_n hx hb dX1_passBracket_138 rfl (lv_at hl 2 rfl) ?_
              refine lv_dup hx hb dX1_passBracket_139 rfl ?_
              refine jx_get (v := .long (L 8)) hx hb hts iX1_passBracket_1 hown hK hP 0 rfl rfl 8 (by decide) hk41 rfl rfl dX1_passBracket_140 ?_
              refine lv_lload hx hb dX1_passBracket_143 (lv_at hl 0 rfl) ?_
              refine lv_lsub hx hb dX1_passBracket_145 ?_
              refine lv_topl (fun v_16 ev_16 => ?_)
              refine jx_put (w2 := [(h, .inr (1, (oX1 R (upd I 10 v_12) (vp_updL L 8 v_16)))), ((R 0), .inl (cI, 80, .inl f0)), ((R 1), .inl (cI, 80, .inl f1)), ((R 2), .inl (cI, 80, .inl f2)), ((R 3), .inl (cJ, 80, .inr (.inl f3))), ((R 4), .inl (cI, 80, .inl f4)), ((R 5), .inl (cI, 80, .inl f5))]) hx hb hts iX1_passBracket_1 tyX1 tyX1_ok nmX1 hown hK hP hD hS 0 rfl rfl 8 (by decide) hk41 rfl rfl rfl rfl (Nat.le_of_ble_eq_true rfl) dX1_passBracket_146 rfl (fun H locs hP hD hS => ?_)
              refine lv_aload_n hx hb dX1_passBracket_149 rfl (lv_at hl 2 rfl) ?_
              refine jx_get (v := .ref (R 2)) hx hb hts iX1_passBracket_1 hown hK hP 0 rfl rfl 2 (by decide) hk20 rfl rfl dX1_passBracket_150 ?_
              refine lv_iload_n hx hb dX1_passBracket_153 rfl (lv_at hl 3 rfl) ?_
              refine va_iald hx hb hK hP 3 0 rfl rfl hi dX1_passBracket_154 ?_
              have hq : (sX1_passBracket I L f0 f1 f2 f3 f4 f5 a0) = ((f2 a0.toNatClampNeg), (upd I 10 v_12), (vp_updL L 8 v_16)) := by clear hP hD hl; have z_ := ev_16.symm; clear ev_16; subst z_; have z_ := ev_12.symm; clear ev_12; subst z_; have z_ := ev_3.symm; clear ev_3; subst z_; have z_ := ev_1.symm; clear ev_1; subst z_; unfold sX1_passBracket; exact (if_pos c_2).trans ((if_neg c_4).trans ((if_pos c_5).trans ((if_neg c_6).trans ((if_neg c_13).trans ((if_pos c_15))))))
              exact jx_iret () hx hb hr hlocks hK hP hD hS (by rw [hq]) (by rw [hq]) dX1_passBracket_155
            · skip
              refine lv_aload_n hx hb dX1_passBracket_124 rfl (lv_at hl 2 rfl) ?_
              refine lv_dup hx hb dX1_passBracket_125 rfl ?_
              refine jx_get (v := .long (L 8)) hx hb hts iX1_passBracket_1 hown hK hP 0 rfl rfl 8 (by decide) hk41 rfl rfl dX1_passBracket_126 ?_
              refine lv_lload_n hx hb dX1_passBracket_129 rfl (lv_at hl 1 rfl) ?_
              refine lv_lrem hx hb dX1_passBracket_130 (fun z => c_15 (by rw [z]; decide)) ?_
              refine lv_topl (fun v_17 ev_17 => ?_)
              refine jx_put (w2 := [(h, .inr (1, (oX1 R (upd I 10 v_12) (vp_updL L 8 v_17)))), ((R 0), .inl (cI, 80, .inl f0)), ((R 1), .inl (cI, 80, .inl f1)), ((R 2), .inl (cI, 80, .inl f2)), ((R 3), .inl (cJ, 80, .inr (.inl f3))), ((R 4), .inl (cI, 80, .inl f4)), ((R 5), .inl (cI, 80, .inl f5))]) hx hb hts iX1_passBracket_1 tyX1 tyX1_ok nmX1 hown hK hP hD hS 0 rfl rfl 8 (by decide) hk41 rfl rfl rfl rfl (Nat.le_of_ble_eq_true rfl) dX1_passBracket_131 rfl (fun H locs hP hD hS => ?_)
              refine lv_iload_n hx hb dX1_passBracket_134 rfl (lv_at hl 3 rfl) ?_
              refine lv_iconst (v := 1) hx hb dX1_passBracket_135 (by decide) ?_
              refine lv_iadd hx hb dX1_passBracket_136 ?_
              have hq : (sX1_passBracket I L f0 f1 f2 f3 f4 f5 a0) = ((a0 + (1 : Int32)), (upd I 10 v_12), (vp_updL L 8 v_17)) := by clear hP hD hl; have z_ := ev_17.symm; clear ev_17; subst z_; have z_ := ev_12.symm; clear ev_12; subst z_; have z_ := ev_3.symm; clear ev_3; subst z_; have z_ := ev_1.symm; clear ev_1; subst z_; unfold sX1_passBracket; exact (if_pos c_2).trans ((if_neg c_4).trans ((if_pos c_5).trans ((if_neg c_6).trans ((if_neg c_13).trans ((if_neg c_15))))))
              exact jx_iret () hx hb hr hlocks hK hP hD hS (by rw [hq]) (by rw [hq]) dX1_passBracket_137
      · skip
        refine lv_aload_n hx hb dX1_passBracket_78 rfl (lv_at hl 2 rfl) ?_
        refine lv_aload_n hx hb dX1_passBracket_79 rfl (lv_at hl 2 rfl) ?_
        refine jx_get (v := .ref (R 4)) hx hb hts iX1_passBracket_1 hown hK hP 0 rfl rfl 4 (by decide) hk27 rfl rfl dX1_passBracket_80 ?_
        refine lv_iload_n hx hb dX1_passBracket_83 rfl (lv_at hl 3 rfl) ?_
        refine va_iald hx hb hK hP 5 0 rfl rfl hi dX1_passBracket_84 ?_
        refine lv_topi (fun v_18 ev_18 => ?_)
        refine jx_put (w2 := [(h, .inr (1, (oX1 R (upd I 9 v_18) L))), ((R 0), .inl (cI, 80, .inl f0)), ((R 1), .inl (cI, 80, .inl f1)), ((R 2), .inl (cI, 80, .inl f2)), ((R 3), .inl (cJ, 80, .inr (.inl f3))), ((R 4), .inl (cI, 80, .inl f4)), ((R 5), .inl (cI, 80, .inl f5))]) hx hb hts iX1_passBracket_1 tyX1 tyX1_ok nmX1 hown hK hP hD hS 0 rfl rfl 9 (by decide) hk44 rfl rfl rfl rfl (Nat.le_of_ble_eq_true rfl) dX1_passBracket_85 rfl (fun H locs hP hD hS => ?_)
        refine lv_aload_n hx hb dX1_passBracket_88 rfl (lv_at hl 2 rfl) ?_
        refine jx_get (v := .ref (R 5)) hx hb hts iX1_passBracket_1 hown hK hP 0 rfl rfl 5 (by decide) hk30 rfl rfl dX1_passBracket_89 ?_
        refine lv_iload_n hx hb dX1_passBracket_92 rfl (lv_at hl 3 rfl) ?_
        refine va_iald hx hb hK hP 6 0 rfl rfl hi dX1_passBracket_93 ?_
        refine lv_iconst (v := -1) hx hb dX1_passBracket_94 (by decide) ?_
        refine lv_icmp_eq (tgt := 108) hx hb dX1_passBracket_95 (by decide) (fun c_19 => ?_) (fun c_19 => ?_)
        · skip
          refine lv_aload_n hx hb dX1_passBracket_108 rfl (lv_at hl 2 rfl) ?_
          refine jx_get (v := .long (L 8)) hx hb hts iX1_passBracket_1 hown hK hP 0 rfl rfl 8 (by decide) hk41 rfl rfl dX1_passBracket_109 ?_
          refine lv_lload hx hb dX1_passBracket_112 (lv_at hl 0 rfl) ?_
          refine jx_l_ge (tgt := 138) hx hb dX1_passBracket_114 dX1_passBracket_115 (by decide) (fun c_20 => ?_) (fun c_20 => ?_)
          · skip
            refine lv_aload_n hx hb dX1_passBracket_138 rfl (lv_at hl 2 rfl) ?_
            refine lv_dup hx hb dX1_passBracket_139 rfl ?_
            refine jx_get (v := .long (L 8)) hx hb hts iX1_passBracket_1 hown hK hP 0 rfl rfl 8 (by decide) hk41 rfl rfl dX1_passBracket_140 ?_
            refine lv_lload hx hb dX1_passBracket_143 (lv_at hl 0 rfl) ?_
            refine lv_lsub hx hb dX1_passBracket_145 ?_
            refine lv_topl (fun v_21 ev_21 => ?_)
            refine jx_put (w2 := [(h, .inr (1, (oX1 R (upd I 9 v_18) (vp_updL L 8 v_21)))), ((R 0), .inl (cI, 80, .inl f0)), ((R 1), .inl (cI, 80, .inl f1)), ((R 2), .inl (cI, 80, .inl f2)), ((R 3), .inl (cJ, 80, .inr (.inl f3))), ((R 4), .inl (cI, 80, .inl f4)), ((R 5), .inl (cI, 80, .inl f5))]) hx hb hts iX1_passBracket_1 tyX1 tyX1_ok nmX1 hown hK hP hD hS 0 rfl rfl 8 (by decide) hk41 rfl rfl rfl rfl (Nat.le_of_ble_eq_true rfl) dX1_passBracket_146 rfl (fun H locs hP hD hS => ?_)
            refine lv_aload_n hx hb dX1_passBracket_149 rfl (lv_at hl 2 rfl) ?_
            refine jx_get (v := .ref (R 2)) hx hb hts iX1_passBracket_1 hown hK hP 0 rfl rfl 2 (by decide) hk20 rfl rfl dX1_passBracket_150 ?_
            refine lv_iload_n hx hb dX1_passBracket_153 rfl (lv_at hl 3 rfl) ?_
            refine va_iald hx hb hK hP 3 0 rfl rfl hi dX1_passBracket_154 ?_
            have hq : (sX1_passBracket I L f0 f1 f2 f3 f4 f5 a0) = ((f2 a0.toNatClampNeg), (upd I 9 v_18), (vp_updL L 8 v_21)) := by clear hP hD hl; have z_ := ev_21.symm; clear ev_21; subst z_; have z_ := ev_18.symm; clear ev_18; subst z_; have z_ := ev_3.symm; clear ev_3; subst z_; have z_ := ev_1.symm; clear ev_1; subst z_; unfold sX1_passBracket; exact (if_pos c_2).trans ((if_neg c_4).trans ((if_neg c_5).trans ((if_pos c_19).trans ((if_pos c_20)))))
            exact jx_iret () hx hb hr hlocks hK hP hD hS (by rw [hq]) (by rw [hq]) dX1_passBracket_155
          · skip
            refine lv_lload_n hx hb dX1_passBracket_118 rfl (lv_at hl 1 rfl) ?_
            refine lv_lconst (v := 0) hx hb dX1_passBracket_119 (by decide) ?_
            refine jx_l_le (tgt := 138) hx hb dX1_passBracket_120 dX1_passBracket_121 (by decide) (fun c_22 => ?_) (fun c_22 => ?_)
            · skip
              refine lv_aload_n hx hb dX1_passBracket_138 rfl (lv_at hl 2 rfl) ?_
              refine lv_dup hx hb dX1_passBracket_139 rfl ?_
              refine jx_get (v := .long (L 8)) hx hb hts iX1_passBracket_1 hown hK hP 0 rfl rfl 8 (by decide) hk41 rfl rfl dX1_passBracket_140 ?_
              refine lv_lload hx hb dX1_passBracket_143 (lv_at hl 0 rfl) ?_
              refine lv_lsub hx hb dX1_passBracket_145 ?_
              refine lv_topl (fun v_23 ev_23 => ?_)
              refine jx_put (w2 := [(h, .inr (1, (oX1 R (upd I 9 v_18) (vp_updL L 8 v_23)))), ((R 0), .inl (cI, 80, .inl f0)), ((R 1), .inl (cI, 80, .inl f1)), ((R 2), .inl (cI, 80, .inl f2)), ((R 3), .inl (cJ, 80, .inr (.inl f3))), ((R 4), .inl (cI, 80, .inl f4)), ((R 5), .inl (cI, 80, .inl f5))]) hx hb hts iX1_passBracket_1 tyX1 tyX1_ok nmX1 hown hK hP hD hS 0 rfl rfl 8 (by decide) hk41 rfl rfl rfl rfl (Nat.le_of_ble_eq_true rfl) dX1_passBracket_146 rfl (fun H locs hP hD hS => ?_)
              refine lv_aload_n hx hb dX1_passBracket_149 rfl (lv_at hl 2 rfl) ?_
              refine jx_get (v := .ref (R 2)) hx hb hts iX1_passBracket_1 hown hK hP 0 rfl rfl 2 (by decide) hk20 rfl rfl dX1_passBracket_150 ?_
              refine lv_iload_n hx hb dX1_passBracket_153 rfl (lv_at hl 3 rfl) ?_
              refine va_iald hx hb hK hP 3 0 rfl rfl hi dX1_passBracket_154 ?_
              have hq : (sX1_passBracket I L f0 f1 f2 f3 f4 f5 a0) = ((f2 a0.toNatClampNeg), (upd I 9 v_18), (vp_updL L 8 v_23)) := by clear hP hD hl; have z_ := ev_23.symm; clear ev_23; subst z_; have z_ := ev_18.symm; clear ev_18; subst z_; have z_ := ev_3.symm; clear ev_3; subst z_; have z_ := ev_1.symm; clear ev_1; subst z_; unfold sX1_passBracket; exact (if_pos c_2).trans ((if_neg c_4).trans ((if_neg c_5).trans ((if_pos c_19).trans ((if_neg c_20).trans ((if_pos c_22))))))
              exact jx_iret () hx hb hr hlocks hK hP hD hS (by rw [hq]) (by rw [hq]) dX1_passBracket_155
            · skip
              refine lv_aload_n hx hb dX1_passBracket_124 rfl (lv_at hl 2 rfl) ?_
              refine lv_dup hx hb dX1_passBracket_125 rfl ?_
              refine jx_get (v := .long (L 8)) hx hb hts iX1_passBracket_1 hown hK hP 0 rfl rfl 8 (by decide) hk41 rfl rfl dX1_passBracket_126 ?_
              refine lv_lload_n hx hb dX1_passBracket_129 rfl (lv_at hl 1 rfl) ?_
              refine lv_lrem hx hb dX1_passBracket_130 (fun z => c_22 (by rw [z]; decide)) ?_
              refine lv_topl (fun v_24 ev_24 => ?_)
              refine jx_put (w2 := [(h, .inr (1, (oX1 R (upd I 9 v_18) (vp_updL L 8 v_24)))), ((R 0), .inl (cI, 80, .inl f0)), ((R 1), .inl (cI, 80, .inl f1)), ((R 2), .inl (cI, 80, .inl f2)), ((R 3), .inl (cJ, 80, .inr (.inl f3))), ((R 4), .inl (cI, 80, .inl f4)), ((R 5), .inl (cI, 80, .inl f5))]) hx hb hts iX1_passBracket_1 tyX1 tyX1_ok nmX1 hown hK hP hD hS 0 rfl rfl 8 (by decide) hk41 rfl rfl rfl rfl (Nat.le_of_ble_eq_true rfl) dX1_passBracket_131 rfl (fun H locs hP hD hS => ?_)
              refine lv_iload_n hx hb dX1_passBracket_134 rfl (lv_at hl 3 rfl) ?_
              refine lv_iconst (v := 1) hx hb dX1_passBracket_135 (by decide) ?_
              refine lv_iadd hx hb dX1_passBracket_136 ?_
              have hq : (sX1_passBracket I L f0 f1 f2 f3 f4 f5 a0) = ((a0 + (1 : Int32)), (upd I 9 v_18), (vp_updL L 8 v_24)) := by clear hP hD hl; have z_ := ev_24.symm; clear ev_24; subst z_; have z_ := ev_18.symm; clear ev_18; subst z_; have z_ := ev_3.symm; clear ev_3; subst z_; have z_ := ev_1.symm; clear ev_1; subst z_; unfold sX1_passBracket; exact (if_pos c_2).trans ((if_neg c_4).trans ((if_neg c_5).trans ((if_pos c_19).trans ((if_neg c_20).trans ((if_neg c_22))))))
              exact jx_iret () hx hb hr hlocks hK hP hD hS (by rw [hq]) (by rw [hq]) dX1_passBracket_137
        · skip
          refine lv_aload_n hx hb dX1_passBracket_98 rfl (lv_at hl 2 rfl) ?_
          refine lv_aload_n hx hb dX1_passBracket_99 rfl (lv_at hl 2 rfl) ?_
          refine jx_get (v := .ref (R 5)) hx hb hts iX1_passBracket_1 hown hK hP 0 rfl rfl 5 (by decide) hk30 rfl rfl dX1_passBracket_100 ?_
          refine lv_iload_n hx hb dX1_passBracket_103 rfl (lv_at hl 3 rfl) ?_
          refine va_iald hx hb hK hP 6 0 rfl rfl hi dX1_passBracket_104 ?_
          refine lv_topi (fun v_25 ev_25 => ?_)
          refine jx_put (w2 := [(h, .inr (1, (oX1 R (upd (upd I 9 v_18) 10 v_25) L))), ((R 0), .inl (cI, 80, .inl f0)), ((R 1), .inl (cI, 80, .inl f1)), ((R 2), .inl (cI, 80, .inl f2)), ((R 3), .inl (cJ, 80, .inr (.inl f3))), ((R 4), .inl (cI, 80, .inl f4)), ((R 5), .inl (cI, 80, .inl f5))]) hx hb hts iX1_passBracket_1 tyX1 tyX1_ok nmX1 hown hK hP hD hS 0 rfl rfl 10 (by decide) hk47 rfl rfl rfl rfl (Nat.le_of_ble_eq_true rfl) dX1_passBracket_105 rfl (fun H locs hP hD hS => ?_)
          refine lv_aload_n hx hb dX1_passBracket_108 rfl (lv_at hl 2 rfl) ?_
          refine jx_get (v := .long (L 8)) hx hb hts iX1_passBracket_1 hown hK hP 0 rfl rfl 8 (by decide) hk41 rfl rfl dX1_passBracket_109 ?_
          refine lv_lload hx hb dX1_passBracket_112 (lv_at hl 0 rfl) ?_
          refine jx_l_ge (tgt := 138) hx hb dX1_passBracket_114 dX1_passBracket_115 (by decide) (fun c_26 => ?_) (fun c_26 => ?_)
          · skip
            refine lv_aload_n hx hb dX1_passBracket_138 rfl (lv_at hl 2 rfl) ?_
            refine lv_dup hx hb dX1_passBracket_139 rfl ?_
            refine jx_get (v := .long (L 8)) hx hb hts iX1_passBracket_1 hown hK hP 0 rfl rfl 8 (by decide) hk41 rfl rfl dX1_passBracket_140 ?_
            refine lv_lload hx hb dX1_passBracket_143 (lv_at hl 0 rfl) ?_
            refine lv_lsub hx hb dX1_passBracket_145 ?_
            refine lv_topl (fun v_27 ev_27 => ?_)
            refine jx_put (w2 := [(h, .inr (1, (oX1 R (upd (upd I 9 v_18) 10 v_25) (vp_updL L 8 v_27)))), ((R 0), .inl (cI, 80, .inl f0)), ((R 1), .inl (cI, 80, .inl f1)), ((R 2), .inl (cI, 80, .inl f2)), ((R 3), .inl (cJ, 80, .inr (.inl f3))), ((R 4), .inl (cI, 80, .inl f4)), ((R 5), .inl (cI, 80, .inl f5))]) hx hb hts iX1_passBracket_1 tyX1 tyX1_ok nmX1 hown hK hP hD hS 0 rfl rfl 8 (by decide) hk41 rfl rfl rfl rfl (Nat.le_of_ble_eq_true rfl) dX1_passBracket_146 rfl (fun H locs hP hD hS => ?_)
            refine lv_aload_n hx hb dX1_passBracket_149 rfl (lv_at hl 2 rfl) ?_
            refine jx_get (v := .ref (R 2)) hx hb hts iX1_passBracket_1 hown hK hP 0 rfl rfl 2 (by decide) hk20 rfl rfl dX1_passBracket_150 ?_
            refine lv_iload_n hx hb dX1_passBracket_153 rfl (lv_at hl 3 rfl) ?_
            refine va_iald hx hb hK hP 3 0 rfl rfl hi dX1_passBracket_154 ?_
            have hq : (sX1_passBracket I L f0 f1 f2 f3 f4 f5 a0) = ((f2 a0.toNatClampNeg), (upd (upd I 9 v_18) 10 v_25), (vp_updL L 8 v_27)) := by clear hP hD hl; have z_ := ev_27.symm; clear ev_27; subst z_; have z_ := ev_25.symm; clear ev_25; subst z_; have z_ := ev_18.symm; clear ev_18; subst z_; have z_ := ev_3.symm; clear ev_3; subst z_; have z_ := ev_1.symm; clear ev_1; subst z_; unfold sX1_passBracket; exact (if_pos c_2).trans ((if_neg c_4).trans ((if_neg c_5).trans ((if_neg c_19).trans ((if_pos c_26)))))
            exact jx_iret () hx hb hr hlocks hK hP hD hS (by rw [hq]) (by rw [hq]) dX1_passBracket_155
          · skip
            refine lv_lload_n hx hb dX1_passBracket_118 rfl (lv_at hl 1 rfl) ?_
            refine lv_lconst (v := 0) hx hb dX1_passBracket_119 (by decide) ?_
            refine jx_l_le (tgt := 138) hx hb dX1_passBracket_120 dX1_passBracket_121 (by decide) (fun c_28 => ?_) (fun c_28 => ?_)
            · skip
              refine lv_aload_n hx hb dX1_passBracket_138 rfl (lv_at hl 2 rfl) ?_
              refine lv_dup hx hb dX1_passBracket_139 rfl ?_
              refine jx_get (v := .long (L 8)) hx hb hts iX1_passBracket_1 hown hK hP 0 rfl rfl 8 (by decide) hk41 rfl rfl dX1_passBracket_140 ?_
              refine lv_lload hx hb dX1_passBracket_143 (lv_at hl 0 rfl) ?_
              refine lv_lsub hx hb dX1_passBracket_145 ?_
              refine lv_topl (fun v_29 ev_29 => ?_)
              refine jx_put (w2 := [(h, .inr (1, (oX1 R (upd (upd I 9 v_18) 10 v_25) (vp_updL L 8 v_29)))), ((R 0), .inl (cI, 80, .inl f0)), ((R 1), .inl (cI, 80, .inl f1)), ((R 2), .inl (cI, 80, .inl f2)), ((R 3), .inl (cJ, 80, .inr (.inl f3))), ((R 4), .inl (cI, 80, .inl f4)), ((R 5), .inl (cI, 80, .inl f5))]) hx hb hts iX1_passBracket_1 tyX1 tyX1_ok nmX1 hown hK hP hD hS 0 rfl rfl 8 (by decide) hk41 rfl rfl rfl rfl (Nat.le_of_ble_eq_true rfl) dX1_passBracket_146 rfl (fun H locs hP hD hS => ?_)
              refine lv_aload_n hx hb dX1_passBracket_149 rfl (lv_at hl 2 rfl) ?_
              refine jx_get (v := .ref (R 2)) hx hb hts iX1_passBracket_1 hown hK hP 0 rfl rfl 2 (by decide) hk20 rfl rfl dX1_passBracket_150 ?_
              refine lv_iload_n hx hb dX1_passBracket_153 rfl (lv_at hl 3 rfl) ?_
              refine va_iald hx hb hK hP 3 0 rfl rfl hi dX1_passBracket_154 ?_
              have hq : (sX1_passBracket I L f0 f1 f2 f3 f4 f5 a0) = ((f2 a0.toNatClampNeg), (upd (upd I 9 v_18) 10 v_25), (vp_updL L 8 v_29)) := by clear hP hD hl; have z_ := ev_29.symm; clear ev_29; subst z_; have z_ := ev_25.symm; clear ev_25; subst z_; have z_ := ev_18.symm; clear ev_18; subst z_; have z_ := ev_3.symm; clear ev_3; subst z_; have z_ := ev_1.symm; clear ev_1; subst z_; unfold sX1_passBracket; exact (if_pos c_2).trans ((if_neg c_4).trans ((if_neg c_5).trans ((if_neg c_19).trans ((if_neg c_26).trans ((if_pos c_28))))))
              exact jx_iret () hx hb hr hlocks hK hP hD hS (by rw [hq]) (by rw [hq]) dX1_passBracket_155
            · skip
              refine lv_aload_n hx hb dX1_passBracket_124 rfl (lv_at hl 2 rfl) ?_
              refine lv_dup hx hb dX1_passBracket_125 rfl ?_
              refine jx_get (v := .long (L 8)) hx hb hts iX1_passBracket_1 hown hK hP 0 rfl rfl 8 (by decide) hk41 rfl rfl dX1_passBracket_126 ?_
              refine lv_lload_n hx hb dX1_passBracket_129 rfl (lv_at hl 1 rfl) ?_
              refine lv_lrem hx hb dX1_passBracket_130 (fun z => c_28 (by rw [z]; decide)) ?_
              refine lv_topl (fun v_30 ev_30 => ?_)
              refine jx_put (w2 := [(h, .inr (1, (oX1 R (upd (upd I 9 v_18) 10 v_25) (vp_updL L 8 v_30)))), ((R 0), .inl (cI, 80, .inl f0)), ((R 1), .inl (cI, 80, .inl f1)), ((R 2), .inl (cI, 80, .inl f2)), ((R 3), .inl (cJ, 80, .inr (.inl f3))), ((R 4), .inl (cI, 80, .inl f4)), ((R 5), .inl (cI, 80, .inl f5))]) hx hb hts iX1_passBracket_1 tyX1 tyX1_ok nmX1 hown hK hP hD hS 0 rfl rfl 8 (by decide) hk41 rfl rfl rfl rfl (Nat.le_of_ble_eq_true rfl) dX1_passBracket_131 rfl (fun H locs hP hD hS => ?_)
              refine lv_iload_n hx hb dX1_passBracket_134 rfl (lv_at hl 3 rfl) ?_
              refine lv_iconst (v := 1) hx hb dX1_passBracket_135 (by decide) ?_
              refine lv_iadd hx hb dX1_passBracket_136 ?_
              have hq : (sX1_passBracket I L f0 f1 f2 f3 f4 f5 a0) = ((a0 + (1 : Int32)), (upd (upd I 9 v_18) 10 v_25), (vp_updL L 8 v_30)) := by clear hP hD hl; have z_ := ev_30.symm; clear ev_30; subst z_; have z_ := ev_25.symm; clear ev_25; subst z_; have z_ := ev_18.symm; clear ev_18; subst z_; have z_ := ev_3.symm; clear ev_3; subst z_; have z_ := ev_1.symm; clear ev_1; subst z_; unfold sX1_passBracket; exact (if_pos c_2).trans ((if_neg c_4).trans ((if_neg c_5).trans ((if_neg c_19).trans ((if_neg c_26).trans ((if_neg c_28))))))
              exact jx_iret () hx hb hr hlocks hK hP hD hS (by rw [hq]) (by rw [hq]) dX1_passBracket_137
    · skip
      refine lv_aload_n hx hb dX1_passBracket_41 rfl (lv_at hl 2 rfl) ?_
      refine jx_get (v := .long (L 8)) hx hb hts iX1_passBracket_1 hown hK hP 0 rfl rfl 8 (by decide) hk41 rfl rfl dX1_passBracket_42 ?_
      refine lv_lload hx hb dX1_passBracket_45 (lv_at hl 0 rfl) ?_
      refine jx_l_ge (tgt := 68) hx hb dX1_passBracket_47 dX1_passBracket_48 (by decide) (fun c_31 => ?_) (fun c_31 => ?_)
      · skip
        refine lv_aload_n hx hb dX1_passBracket_68 rfl (lv_at hl 2 rfl) ?_
        refine jx_get (v := .ref (R 4)) hx hb hts iX1_passBracket_1 hown hK hP 0 rfl rfl 4 (by decide) hk27 rfl rfl dX1_passBracket_69 ?_
        refine lv_iload_n hx hb dX1_passBracket_72 rfl (lv_at hl 3 rfl) ?_
        refine va_iald hx hb hK hP 5 0 rfl rfl hi dX1_passBracket_73 ?_
        refine lv_iconst (v := -1) hx hb dX1_passBracket_74 (by decide) ?_
        refine lv_icmp_eq (tgt := 88) hx hb dX1_passBracket_75 (by decide) (fun c_32 => ?_) (fun c_32 => ?_)
        · skip
          refine lv_aload_n hx hb dX1_passBracket_88 rfl (lv_at hl 2 rfl) ?_
          refine jx_get (v := .ref (R 5)) hx hb hts iX1_passBracket_1 hown hK hP 0 rfl rfl 5 (by decide) hk30 rfl rfl dX1_passBracket_89 ?_
          refine lv_iload_n hx hb dX1_passBracket_92 rfl (lv_at hl 3 rfl) ?_
          refine va_iald hx hb hK hP 6 0 rfl rfl hi dX1_passBracket_93 ?_
          refine lv_iconst (v := -1) hx hb dX1_passBracket_94 (by decide) ?_
          refine lv_icmp_eq (tgt := 108) hx hb dX1_passBracket_95 (by decide) (fun c_33 => ?_) (fun c_33 => ?_)
          · skip
            refine lv_aload_n hx hb dX1_passBracket_108 rfl (lv_at hl 2 rfl) ?_
            refine jx_get (v := .long (L 8)) hx hb hts iX1_passBracket_1 hown hK hP 0 rfl rfl 8 (by decide) hk41 rfl rfl dX1_passBracket_109 ?_
            refine lv_lload hx hb dX1_passBracket_112 (lv_at hl 0 rfl) ?_
            refine jx_l_ge (tgt := 138) hx hb dX1_passBracket_114 dX1_passBracket_115 (by decide) (fun c_34 => ?_) (fun c_34 => ?_)
            · skip
              refine lv_aload_n hx hb dX1_passBracket_138 rfl (lv_at hl 2 rfl) ?_
              refine lv_dup hx hb dX1_passBracket_139 rfl ?_
              refine jx_get (v := .long (L 8)) hx hb hts iX1_passBracket_1 hown hK hP 0 rfl rfl 8 (by decide) hk41 rfl rfl dX1_passBracket_140 ?_
              refine lv_lload hx hb dX1_passBracket_143 (lv_at hl 0 rfl) ?_
              refine lv_lsub hx hb dX1_passBracket_145 ?_
              refine lv_topl (fun v_35 ev_35 => ?_)
              refine jx_put (w2 := [(h, .inr (1, (oX1 R I (vp_updL L 8 v_35)))), ((R 0), .inl (cI, 80, .inl f0)), ((R 1), .inl (cI, 80, .inl f1)), ((R 2), .inl (cI, 80, .inl f2)), ((R 3), .inl (cJ, 80, .inr (.inl f3))), ((R 4), .inl (cI, 80, .inl f4)), ((R 5), .inl (cI, 80, .inl f5))]) hx hb hts iX1_passBracket_1 tyX1 tyX1_ok nmX1 hown hK hP hD hS 0 rfl rfl 8 (by decide) hk41 rfl rfl rfl rfl (Nat.le_of_ble_eq_true rfl) dX1_passBracket_146 rfl (fun H locs hP hD hS => ?_)
              refine lv_aload_n hx hb dX1_passBracket_149 rfl (lv_at hl 2 rfl) ?_
              refine jx_get (v := .ref (R 2)) hx hb hts iX1_passBracket_1 hown hK hP 0 rfl rfl 2 (by decide) hk20 rfl rfl dX1_passBracket_150 ?_
              refine lv_iload_n hx hb dX1_passBracket_153 rfl (lv_at hl 3 rfl) ?_
              refine va_iald hx hb hK hP 3 0 rfl rfl hi dX1_passBracket_154 ?_
              have hq : (sX1_passBracket I L f0 f1 f2 f3 f4 f5 a0) = ((f2 a0.toNatClampNeg), I, (vp_updL L 8 v_35)) := by clear hP hD hl; have z_ := ev_35.symm; clear ev_35; subst z_; have z_ := ev_3.symm; clear ev_3; subst z_; have z_ := ev_1.symm; clear ev_1; subst z_; unfold sX1_passBracket; exact (if_pos c_2).trans ((if_pos c_4).trans ((if_pos c_31).trans ((if_pos c_32).trans ((if_pos c_33).trans ((if_pos c_34))))))
              exact jx_iret () hx hb hr hlocks hK hP hD hS (by rw [hq]) (by rw [hq]) dX1_passBracket_155
            · skip
              refine lv_lload_n hx hb dX1_passBracket_118 rfl (lv_at hl 1 rfl) ?_
              refine lv_lconst (v := 0) hx hb dX1_passBracket_119 (by decide) ?_
              refine jx_l_le (tgt := 138) hx hb dX1_passBracket_120 dX1_passBracket_121 (by decide) (fun c_36 => ?_) (fun c_36 => ?_)
              · skip
                refine lv_aload_n hx hb dX1_passBracket_138 rfl (lv_at hl 2 rfl) ?_
                refine lv_dup hx hb dX1_passBracket_139 rfl ?_
                refine jx_get (v := .long (L 8)) hx hb hts iX1_passBracket_1 hown hK hP 0 rfl rfl 8 (by decide) hk41 rfl rfl dX1_passBracket_140 ?_
                refine lv_lload hx hb dX1_passBracket_143 (lv_at hl 0 rfl) ?_
                refine lv_lsub hx hb dX1_passBracket_145 ?_
                refine lv_topl (fun v_37 ev_37 => ?_)
                refine jx_put (w2 := [(h, .inr (1, (oX1 R I (vp_updL L 8 v_37)))), ((R 0), .inl (cI, 80, .inl f0)), ((R 1), .inl (cI, 80, .inl f1)), ((R 2), .inl (cI, 80, .inl f2)), ((R 3), .inl (cJ, 80, .inr (.inl f3))), ((R 4), .inl (cI, 80, .inl f4)), ((R 5), .inl (cI, 80, .inl f5))]) hx hb hts iX1_passBracket_1 tyX1 tyX1_ok nmX1 hown hK hP hD hS 0 rfl rfl 8 (by decide) hk41 rfl rfl rfl rfl (Nat.le_of_ble_eq_true rfl) dX1_passBracket_146 rfl (fun H locs hP hD hS => ?_)
                refine lv_aload_n hx hb dX1_passBracket_149 rfl (lv_at hl 2 rfl) ?_
                refine jx_get (v := .ref (R 2)) hx hb hts iX1_passBracket_1 hown hK hP 0 rfl rfl 2 (by decide) hk20 rfl rfl dX1_passBracket_150 ?_
                refine lv_iload_n hx hb dX1_passBracket_153 rfl (lv_at hl 3 rfl) ?_
                refine va_iald hx hb hK hP 3 0 rfl rfl hi dX1_passBracket_154 ?_
                have hq : (sX1_passBracket I L f0 f1 f2 f3 f4 f5 a0) = ((f2 a0.toNatClampNeg), I, (vp_updL L 8 v_37)) := by clear hP hD hl; have z_ := ev_37.symm; clear ev_37; subst z_; have z_ := ev_3.symm; clear ev_3; subst z_; have z_ := ev_1.symm; clear ev_1; subst z_; unfold sX1_passBracket; exact (if_pos c_2).trans ((if_pos c_4).trans ((if_pos c_31).trans ((if_pos c_32).trans ((if_pos c_33).trans ((if_neg c_34).trans ((if_pos c_36)))))))
                exact jx_iret () hx hb hr hlocks hK hP hD hS (by rw [hq]) (by rw [hq]) dX1_passBracket_155
              · skip
                refine lv_aload_n hx hb dX1_passBracket_124 rfl (lv_at hl 2 rfl) ?_
                refine lv_dup hx hb dX1_passBracket_125 rfl ?_
                refine jx_get (v := .long (L 8)) hx hb hts iX1_passBracket_1 hown hK hP 0 rfl rfl 8 (by decide) hk41 rfl rfl dX1_passBracket_126 ?_
                refine lv_lload_n hx hb dX1_passBracket_129 rfl (lv_at hl 1 rfl) ?_
                refine lv_lrem hx hb dX1_passBracket_130 (fun z => c_36 (by rw [z]; decide)) ?_
                refine lv_topl (fun v_38 ev_38 => ?_)
                refine jx_put (w2 := [(h, .inr (1, (oX1 R I (vp_updL L 8 v_38)))), ((R 0), .inl (cI, 80, .inl f0)), ((R 1), .inl (cI, 80, .inl f1)), ((R 2), .inl (cI, 80, .inl f2)), ((R 3), .inl (cJ, 80, .inr (.inl f3))), ((R 4), .inl (cI, 80, .inl f4)), ((R 5), .inl (cI, 80, .inl f5))]) hx hb hts iX1_passBracket_1 tyX1 tyX1_ok nmX1 hown hK hP hD hS 0 rfl rfl 8 (by decide) hk41 rfl rfl rfl rfl (Nat.le_of_ble_eq_true rfl) dX1_passBracket_131 rfl (fun H locs hP hD hS => ?_)
                refine lv_iload_n hx hb dX1_passBracket_134 rfl (lv_at hl 3 rfl) ?_
                refine lv_iconst (v := 1) hx hb dX1_passBracket_135 (by decide) ?_
                refine lv_iadd hx hb dX1_passBracket_136 ?_
                have hq : (sX1_passBracket I L f0 f1 f2 f3 f4 f5 a0) = ((a0 + (1 : Int32)), I, (vp_updL L 8 v_38)) := by clear hP hD hl; have z_ := ev_38.symm; clear ev_38; subst z_; have z_ := ev_3.symm; clear ev_3; subst z_; have z_ := ev_1.symm; clear ev_1; subst z_; unfold sX1_passBracket; exact (if_pos c_2).trans ((if_pos c_4).trans ((if_pos c_31).trans ((if_pos c_32).trans ((if_pos c_33).trans ((if_neg c_34).trans ((if_neg c_36)))))))
                exact jx_iret () hx hb hr hlocks hK hP hD hS (by rw [hq]) (by rw [hq]) dX1_passBracket_137
          · skip
            refine lv_aload_n hx hb dX1_passBracket_98 rfl (lv_at hl 2 rfl) ?_
            refine lv_aload_n hx hb dX1_passBracket_99 rfl (lv_at hl 2 rfl) ?_
            refine jx_get (v := .ref (R 5)) hx hb hts iX1_passBracket_1 hown hK hP 0 rfl rfl 5 (by decide) hk30 rfl rfl dX1_passBracket_100 ?_
            refine lv_iload_n hx hb dX1_passBracket_103 rfl (lv_at hl 3 rfl) ?_
            refine va_iald hx hb hK hP 6 0 rfl rfl hi dX1_passBracket_104 ?_
            refine lv_topi (fun v_39 ev_39 => ?_)
            refine jx_put (w2 := [(h, .inr (1, (oX1 R (upd I 10 v_39) L))), ((R 0), .inl (cI, 80, .inl f0)), ((R 1), .inl (cI, 80, .inl f1)), ((R 2), .inl (cI, 80, .inl f2)), ((R 3), .inl (cJ, 80, .inr (.inl f3))), ((R 4), .inl (cI, 80, .inl f4)), ((R 5), .inl (cI, 80, .inl f5))]) hx hb hts iX1_passBracket_1 tyX1 tyX1_ok nmX1 hown hK hP hD hS 0 rfl rfl 10 (by decide) hk47 rfl rfl rfl rfl (Nat.le_of_ble_eq_true rfl) dX1_passBracket_105 rfl (fun H locs hP hD hS => ?_)
            refine lv_aload_n hx hb dX1_passBracket_108 rfl (lv_at hl 2 rfl) ?_
            refine jx_get (v := .long (L 8)) hx hb hts iX1_passBracket_1 hown hK hP 0 rfl rfl 8 (by decide) hk41 rfl rfl dX1_passBracket_109 ?_
            refine lv_lload hx hb dX1_passBracket_112 (lv_at hl 0 rfl) ?_
            refine jx_l_ge (tgt := 138) hx hb dX1_passBracket_114 dX1_passBracket_115 (by decide) (fun c_40 => ?_) (fun c_40 => ?_)
            · skip
              refine lv_aload_n hx hb dX1_passBracket_138 rfl (lv_at hl 2 rfl) ?_
              refine lv_dup hx hb dX1_passBracket_139 rfl ?_
              refine jx_get (v := .long (L 8)) hx hb hts iX1_passBracket_1 hown hK hP 0 rfl rfl 8 (by decide) hk41 rfl rfl dX1_passBracket_140 ?_
              refine lv_lload hx hb dX1_passBracket_143 (lv_at hl 0 rfl) ?_
              refine lv_lsub hx hb dX1_passBracket_145 ?_
              refine lv_topl (fun v_41 ev_41 => ?_)
              refine jx_put (w2 := [(h, .inr (1, (oX1 R (upd I 10 v_39) (vp_updL L 8 v_41)))), ((R 0), .inl (cI, 80, .inl f0)), ((R 1), .inl (cI, 80, .inl f1)), ((R 2), .inl (cI, 80, .inl f2)), ((R 3), .inl (cJ, 80, .inr (.inl f3))), ((R 4), .inl (cI, 80, .inl f4)), ((R 5), .inl (cI, 80, .inl f5))]) hx hb hts iX1_passBracket_1 tyX1 tyX1_ok nmX1 hown hK hP hD hS 0 rfl rfl 8 (by decide) hk41 rfl rfl rfl rfl (Nat.le_of_ble_eq_true rfl) dX1_passBracket_146 rfl (fun H locs hP hD hS => ?_)
              refine lv_aload_n hx hb dX1_passBracket_149 rfl (lv_at hl 2 rfl) ?_
              refine jx_get (v := .ref (R 2)) hx hb hts iX1_passBracket_1 hown hK hP 0 rfl rfl 2 (by decide) hk20 rfl rfl dX1_passBracket_150 ?_
              refine lv_iload_n hx hb dX1_passBracket_153 rfl (lv_at hl 3 rfl) ?_
              refine va_iald hx hb hK hP 3 0 rfl rfl hi dX1_passBracket_154 ?_
              have hq : (sX1_passBracket I L f0 f1 f2 f3 f4 f5 a0) = ((f2 a0.toNatClampNeg), (upd I 10 v_39), (vp_updL L 8 v_41)) := by clear hP hD hl; have z_ := ev_41.symm; clear ev_41; subst z_; have z_ := ev_39.symm; clear ev_39; subst z_; have z_ := ev_3.symm; clear ev_3; subst z_; have z_ := ev_1.symm; clear ev_1; subst z_; unfold sX1_passBracket; exact (if_pos c_2).trans ((if_pos c_4).trans ((if_pos c_31).trans ((if_pos c_32).trans ((if_neg c_33).trans ((if_pos c_40))))))
              exact jx_iret () hx hb hr hlocks hK hP hD hS (by rw [hq]) (by rw [hq]) dX1_passBracket_155
            · skip
              refine lv_lload_n hx hb dX1_passBracket_118 rfl (lv_at hl 1 rfl) ?_
              refine lv_lconst (v := 0) hx hb dX1_passBracket_119 (by decide) ?_
              refine jx_l_le (tgt := 138) hx hb dX1_passBracket_120 dX1_passBracket_121 (by decide) (fun c_42 => ?_) (fun c_42 => ?_)
              · skip
                refine lv_aload_n hx hb dX1_passBracket_138 rfl (lv_at hl 2 rfl) ?_
                refine lv_dup hx hb dX1_passBracket_139 rfl ?_
                refine jx_get (v := .long (L 8)) hx hb hts iX1_passBracket_1 hown hK hP 0 rfl rfl 8 (by decide) hk41 rfl rfl dX1_passBracket_140 ?_
                refine lv_lload hx hb dX1_passBracket_143 (lv_at hl 0 rfl) ?_
                refine lv_lsub hx hb dX1_passBracket_145 ?_
                refine lv_topl (fun v_43 ev_43 => ?_)
                refine jx_put (w2 := [(h, .inr (1, (oX1 R (upd I 10 v_39) (vp_updL L 8 v_43)))), ((R 0), .inl (cI, 80, .inl f0)), ((R 1), .inl (cI, 80, .inl f1)), ((R 2), .inl (cI, 80, .inl f2)), ((R 3), .inl (cJ, 80, .inr (.inl f3))), ((R 4), .inl (cI, 80, .inl f4)), ((R 5), .inl (cI, 80, .inl f5))]) hx hb hts iX1_passBracket_1 tyX1 tyX1_ok nmX1 hown hK hP hD hS 0 rfl rfl 8 (by decide) hk41 rfl rfl rfl rfl (Nat.le_of_ble_eq_true rfl) dX1_passBracket_146 rfl (fun H locs hP hD hS => ?_)
                refine lv_aload_n hx hb dX1_passBracket_149 rfl (lv_at hl 2 rfl) ?_
                refine jx_get (v := .ref (R 2)) hx hb hts iX1_passBracket_1 hown hK hP 0 rfl rfl 2 (by decide) hk20 rfl rfl dX1_passBracket_150 ?_
                refine lv_iload_n hx hb dX1_passBracket_153 rfl (lv_at hl 3 rfl) ?_
                refine va_iald hx hb hK hP 3 0 rfl rfl hi dX1_passBracket_154 ?_
                have hq : (sX1_passBracket I L f0 f1 f2 f3 f4 f5 a0) = ((f2 a0.toNatClampNeg), (upd I 10 v_39), (vp_updL L 8 v_43)) := by clear hP hD hl; have z_ := ev_43.symm; clear ev_43; subst z_; have z_ := ev_39.symm; clear ev_39; subst z_; have z_ := ev_3.symm; clear ev_3; subst z_; have z_ := ev_1.symm; clear ev_1; subst z_; unfold sX1_passBracket; exact (if_pos c_2).trans ((if_pos c_4).trans ((if_pos c_31).trans ((if_pos c_32).trans ((if_neg c_33).trans ((if_neg c_40).trans ((if_pos c_42)))))))
                exact jx_iret () hx hb hr hlocks hK hP hD hS (by rw [hq]) (by rw [hq]) dX1_passBracket_155
              · skip
                refine lv_aload_n hx hb dX1_passBracket_124 rfl (lv_at hl 2 rfl) ?_
                refine lv_dup hx hb dX1_passBracket_125 rfl ?_
                refine jx_get (v := .long (L 8)) hx hb hts iX1_passBracket_1 hown hK hP 0 rfl rfl 8 (by decide) hk41 rfl rfl dX1_passBracket_126 ?_
                refine lv_lload_n hx hb dX1_passBracket_129 rfl (lv_at hl 1 rfl) ?_
                refine lv_lrem hx hb dX1_passBracket_130 (fun z => c_42 (by rw [z]; decide)) ?_
                refine lv_topl (fun v_44 ev_44 => ?_)
                refine jx_put (w2 := [(h, .inr (1, (oX1 R (upd I 10 v_39) (vp_updL L 8 v_44)))), ((R 0), .inl (cI, 80, .inl f0)), ((R 1), .inl (cI, 80, .inl f1)), ((R 2), .inl (cI, 80, .inl f2)), ((R 3), .inl (cJ, 80, .inr (.inl f3))), ((R 4), .inl (cI, 80, .inl f4)), ((R 5), .inl (cI, 80, .inl f5))]) hx hb hts iX1_passBracket_1 tyX1 tyX1_ok nmX1 hown hK hP hD hS 0 rfl rfl 8 (by decide) hk41 rfl rfl rfl rfl (Nat.le_of_ble_eq_true rfl) dX1_passBracket_131 rfl (fun H locs hP hD hS => ?_)
                refine lv_iload_n hx hb dX1_passBracket_134 rfl (lv_at hl 3 rfl) ?_
                refine lv_iconst (v := 1) hx hb dX1_passBracket_135 (by decide) ?_
                refine lv_iadd hx hb dX1_passBracket_136 ?_
                have hq : (sX1_passBracket I L f0 f1 f2 f3 f4 f5 a0) = ((a0 + (1 : Int32)), (upd I 10 v_39), (vp_updL L 8 v_44)) := by clear hP hD hl; have z_ := ev_44.symm; clear ev_44; subst z_; have z_ := ev_39.symm; clear ev_39; subst z_; have z_ := ev_3.symm; clear ev_3; subst z_; have z_ := ev_1.symm; clear ev_1; subst z_; unfold sX1_passBracket; exact (if_pos c_2).trans ((if_pos c_4).trans ((if_pos c_31).trans ((if_pos c_32).trans ((if_neg c_33).trans ((if_neg c_40).trans ((if_neg c_42)))))))
                exact jx_iret () hx hb hr hlocks hK hP hD hS (by rw [hq]) (by rw [hq]) dX1_passBracket_137
        · skip
          refine lv_aload_n hx hb dX1_passBracket_78 rfl (lv_at hl 2 rfl) ?_
          refine lv_aload_n hx hb dX1_passBracket_79 rfl (lv_at hl 2 rfl) ?_
          refine jx_get (v := .ref (R 4)) hx hb hts iX1_passBracket_1 hown hK hP 0 rfl rfl 4 (by decide) hk27 rfl rfl dX1_passBracket_80 ?_
          refine lv_iload_n hx hb dX1_passBracket_83 rfl (lv_at hl 3 rfl) ?_
          refine va_iald hx hb hK hP 5 0 rfl rfl hi dX1_passBracket_84 ?_
          refine lv_topi (fun v_45 ev_45 => ?_)
          refine jx_put (w2 := [(h, .inr (1, (oX1 R (upd I 9 v_45) L))), ((R 0), .inl (cI, 80, .inl f0)), ((R 1), .inl (cI, 80, .inl f1)), ((R 2), .inl (cI, 80, .inl f2)), ((R 3), .inl (cJ, 80, .inr (.inl f3))), ((R 4), .inl (cI, 80, .inl f4)), ((R 5), .inl (cI, 80, .inl f5))]) hx hb hts iX1_passBracket_1 tyX1 tyX1_ok nmX1 hown hK hP hD hS 0 rfl rfl 9 (by decide) hk44 rfl rfl rfl rfl (Nat.le_of_ble_eq_true rfl) dX1_passBracket_85 rfl (fun H locs hP hD hS => ?_)
          refine lv_aload_n hx hb dX1_passBracket_88 rfl (lv_at hl 2 rfl) ?_
          refine jx_get (v := .ref (R 5)) hx hb hts iX1_passBracket_1 hown hK hP 0 rfl rfl 5 (by decide) hk30 rfl rfl dX1_passBracket_89 ?_
          refine lv_iload_n hx hb dX1_passBracket_92 rfl (lv_at hl 3 rfl) ?_
          refine va_iald hx hb hK hP 6 0 rfl rfl hi dX1_passBracket_93 ?_
          refine lv_iconst (v := -1) hx hb dX1_passBracket_94 (by decide) ?_
          refine lv_icmp_eq (tgt := 108) hx hb dX1_passBracket_95 (by decide) (fun c_46 => ?_) (fun c_46 => ?_)
          · skip
            refine lv_aload_n hx hb dX1_passBracket_108 rfl (lv_at hl 2 rfl) ?_
            refine jx_get (v := .long (L 8)) hx hb hts iX1_passBracket_1 hown hK hP 0 rfl rfl 8 (by decide) hk41 rfl rfl dX1_passBracket_109 ?_
            refine lv_lload hx hb dX1_passBracket_112 (lv_at hl 0 rfl) ?_
            refine jx_l_ge (tgt := 138) hx hb dX1_passBracket_114 dX1_passBracket_115 (by decide) (fun c_47 => ?_) (fun c_47 => ?_)
            · skip
              refine lv_aload_n hx hb dX1_passBracket_138 rfl (lv_at hl 2 rfl) ?_
              refine lv_dup hx hb dX1_passBracket_139 rfl ?_
              refine jx_get (v := .long (L 8)) hx hb hts iX1_passBracket_1 hown hK hP 0 rfl rfl 8 (by decide) hk41 rfl rfl dX1_passBracket_140 ?_
              refine lv_lload hx hb dX1_passBracket_143 (lv_at hl 0 rfl) ?_
              refine lv_lsub hx hb dX1_passBracket_145 ?_
              refine lv_topl (fun v_48 ev_48 => ?_)
              refine jx_put (w2 := [(h, .inr (1, (oX1 R (upd I 9 v_45) (vp_updL L 8 v_48)))), ((R 0), .inl (cI, 80, .inl f0)), ((R 1), .inl (cI, 80, .inl f1)), ((R 2), .inl (cI, 80, .inl f2)), ((R 3), .inl (cJ, 80, .inr (.inl f3))), ((R 4), .inl (cI, 80, .inl f4)), ((R 5), .inl (cI, 80, .inl f5))]) hx hb hts iX1_passBracket_1 tyX1 tyX1_ok nmX1 hown hK hP hD hS 0 rfl rfl 8 (by decide) hk41 rfl rfl rfl rfl (Nat.le_of_ble_eq_true rfl) dX1_passBracket_146 rfl (fun H locs hP hD hS => ?_)
              refine lv_aload_n hx hb dX1_passBracket_149 rfl (lv_at hl 2 rfl) ?_
              refine jx_get (v := .ref (R 2)) hx hb hts iX1_passBracket_1 hown hK hP 0 rfl rfl 2 (by decide) hk20 rfl rfl dX1_passBracket_150 ?_
              refine lv_iload_n hx hb dX1_passBracket_153 rfl (lv_at hl 3 rfl) ?_
              refine va_iald hx hb hK hP 3 0 rfl rfl hi dX1_passBracket_154 ?_
              have hq : (sX1_passBracket I L f0 f1 f2 f3 f4 f5 a0) = ((f2 a0.toNatClampNeg), (upd I 9 v_45), (vp_updL L 8 v_48)) := by clear hP hD hl; have z_ := ev_48.symm; clear ev_48; subst z_; have z_ := ev_45.symm; clear ev_45; subst z_; have z_ := ev_3.symm; clear ev_3; subst z_; have z_ := ev_1.symm; clear ev_1; subst z_; unfold sX1_passBracket; exact (if_pos c_2).trans ((if_pos c_4).trans ((if_pos c_31).trans ((if_neg c_32).trans ((if_pos c_46).trans ((if_pos c_47))))))
              exact jx_iret () hx hb hr hlocks hK hP hD hS (by rw [hq]) (by rw [hq]) dX1_passBracket_155
            · skip
              refine lv_lload_n hx hb dX1_passBracket_118 rfl (lv_at hl 1 rfl) ?_
              refine lv_lconst (v := 0) hx hb dX1_passBracket_119 (by decide) ?_
              refine jx_l_le (tgt := 138) hx hb dX1_passBracket_120 dX1_passBracket_121 (by decide) (fun c_49 => ?_) (fun c_49 => ?_)
              · skip
                refine lv_aload_n hx hb dX1_passBracket_138 rfl (lv_at hl 2 rfl) ?_
                refine lv_dup hx hb dX1_passBracket_139 rfl ?_
                refine jx_get (v := .long (L 8)) hx hb hts iX1_passBracket_1 hown hK hP 0 rfl rfl 8 (by decide) hk41 rfl rfl dX1_passBracket_140 ?_
                refine lv_lload hx hb dX1_passBracket_143 (lv_at hl 0 rfl) ?_
                refine lv_lsub hx hb dX1_passBracket_145 ?_
                refine lv_topl (fun v_50 ev_50 => ?_)
                refine jx_put (w2 := [(h, .inr (1, (oX1 R (upd I 9 v_45) (vp_updL L 8 v_50)))), ((R 0), .inl (cI, 80, .inl f0)), ((R 1), .inl (cI, 80, .inl f1)), ((R 2), .inl (cI, 80, .inl f2)), ((R 3), .inl (cJ, 80, .inr (.inl f3))), ((R 4), .inl (cI, 80, .inl f4)), ((R 5), .inl (cI, 80, .inl f5))]) hx hb hts iX1_passBracket_1 tyX1 tyX1_ok nmX1 hown hK hP hD hS 0 rfl rfl 8 (by decide) hk41 rfl rfl rfl rfl (Nat.le_of_ble_eq_true rfl) dX1_passBracket_146 rfl (fun H locs hP hD hS => ?_)
                refine lv_aload_n hx hb dX1_passBracket_149 rfl (lv_at hl 2 rfl) ?_
                refine jx_get (v := .ref (R 2)) hx hb hts iX1_passBracket_1 hown hK hP 0 rfl rfl 2 (by decide) hk20 rfl rfl dX1_passBracket_150 ?_
                refine lv_iload_n hx hb dX1_passBracket_153 rfl (lv_at hl 3 rfl) ?_
                refine va_iald hx hb hK hP 3 0 rfl rfl hi dX1_passBracket_154 ?_
                have hq : (sX1_passBracket I L f0 f1 f2 f3 f4 f5 a0) = ((f2 a0.toNatClampNeg), (upd I 9 v_45), (vp_updL L 8 v_50)) := by clear hP hD hl; have z_ := ev_50.symm; clear ev_50; subst z_; have z_ := ev_45.symm; clear ev_45; subst z_; have z_ := ev_3.symm; clear ev_3; subst z_; have z_ := ev_1.symm; clear ev_1; subst z_; unfold sX1_passBracket; exact (if_pos c_2).trans ((if_pos c_4).trans ((if_pos c_31).trans ((if_neg c_32).trans ((if_pos c_46).trans ((if_neg c_47).trans ((if_pos c_49)))))))
                exact jx_iret () hx hb hr hlocks hK hP hD hS (by rw [hq]) (by rw [hq]) dX1_passBracket_155
              · skip
                refine lv_aload_n hx hb dX1_passBracket_124 rfl (lv_at hl 2 rfl) ?_
                refine lv_dup hx hb dX1_passBracket_125 rfl ?_
                refine jx_get (v := .long (L 8)) hx hb hts iX1_passBracket_1 hown hK hP 0 rfl rfl 8 (by decide) hk41 rfl rfl dX1_passBracket_126 ?_
                refine lv_lload_n hx hb dX1_passBracket_129 rfl (lv_at hl 1 rfl) ?_
                refine lv_lrem hx hb dX1_passBracket_130 (fun z => c_49 (by rw [z]; decide)) ?_
                refine lv_topl (fun v_51 ev_51 => ?_)
                refine jx_put (w2 := [(h, .inr (1, (oX1 R (upd I 9 v_45) (vp_updL L 8 v_51)))), ((R 0), .inl (cI, 80, .inl f0)), ((R 1), .inl (cI, 80, .inl f1)), ((R 2), .inl (cI, 80, .inl f2)), ((R 3), .inl (cJ, 80, .inr (.inl f3))), ((R 4), .inl (cI, 80, .inl f4)), ((R 5), .inl (cI, 80, .inl f5))]) hx hb hts iX1_passBracket_1 tyX1 tyX1_ok nmX1 hown hK hP hD hS 0 rfl rfl 8 (by decide) hk41 rfl rfl rfl rfl (Nat.le_of_ble_eq_true rfl) dX1_passBracket_131 rfl (fun H locs hP hD hS => ?_)
                refine lv_iload_n hx hb dX1_passBracket_134 rfl (lv_at hl 3 rfl) ?_
                refine lv_iconst (v := 1) hx hb dX1_passBracket_135 (by decide) ?_
                refine lv_iadd hx hb dX1_passBracket_136 ?_
                have hq : (sX1_passBracket I L f0 f1 f2 f3 f4 f5 a0) = ((a0 + (1 : Int32)), (upd I 9 v_45), (vp_updL L 8 v_51)) := by clear hP hD hl; have z_ := ev_51.symm; clear ev_51; subst z_; have z_ := ev_45.symm; clear ev_45; subst z_; have z_ := ev_3.symm; clear ev_3; subst z_; have z_ := ev_1.symm; clear ev_1; subst z_; unfold sX1_passBracket; exact (if_pos c_2).trans ((if_pos c_4).trans ((if_pos c_31).trans ((if_neg c_32).trans ((if_pos c_46).trans ((if_neg c_47).trans ((if_neg c_49)))))))
                exact jx_iret () hx hb hr hlocks hK hP hD hS (by rw [hq]) (by rw [hq]) dX1_passBracket_137
          · skip
            refine lv_aload_n hx hb dX1_passBracket_98 rfl (lv_at hl 2 rfl) ?_
            refine lv_aload_n hx hb dX1_passBracket_99 rfl (lv_at hl 2 rfl) ?_
            refine jx_get (v := .ref (R 5)) hx hb hts iX1_passBracket_1 hown hK hP 0 rfl rfl 5 (by decide) hk30 rfl rfl dX1_passBracket_100 ?_
            refine lv_iload_n hx hb dX1_passBracket_103 rfl (lv_at hl 3 rfl) ?_
            refine va_iald hx hb hK hP 6 0 rfl rfl hi dX1_passBracket_104 ?_
            refine lv_topi (fun v_52 ev_52 => ?_)
            refine jx_put (w2 := [(h, .inr (1, (oX1 R (upd (upd I 9 v_45) 10 v_52) L))), ((R 0), .inl (cI, 80, .inl f0)), ((R 1), .inl (cI, 80, .inl f1)), ((R 2), .inl (cI, 80, .inl f2)), ((R 3), .inl (cJ, 80, .inr (.inl f3))), ((R 4), .inl (cI, 80, .inl f4)), ((R 5), .inl (cI, 80, .inl f5))]) hx hb hts iX1_passBracket_1 tyX1 tyX1_ok nmX1 hown hK hP hD hS 0 rfl rfl 10 (by decide) hk47 rfl rfl rfl rfl (Nat.le_of_ble_eq_true rfl) dX1_passBracket_105 rfl (fun H locs hP hD hS => ?_)
            refine lv_aload_n hx hb dX1_passBracket_108 rfl (lv_at hl 2 rfl) ?_
            refine jx_get (v := .long (L 8)) hx hb hts iX1_passBracket_1 hown hK hP 0 rfl rfl 8 (by decide) hk41 rfl rfl dX1_passBracket_109 ?_
            refine lv_lload hx hb dX1_passBracket_112 (lv_at hl 0 rfl) ?_
            refine jx_l_ge (tgt := 138) hx hb dX1_passBracket_114 dX1_passBracket_115 (by decide) (fun c_53 => ?_) (fun c_53 => ?_)
            · skip
              refine lv_aload_n hx hb dX1_passBracket_138 rfl (lv_at hl 2 rfl) ?_
              refine lv_dup hx hb dX1_passBracket_139 rfl ?_
              refine jx_get (v := .long (L 8)) hx hb hts iX1_passBracket_1 hown hK hP 0 rfl rfl 8 (by decide) hk41 rfl rfl dX1_passBracket_140 ?_
              refine lv_lload hx hb dX1_passBracket_143 (lv_at hl 0 rfl) ?_
              refine lv_lsub hx hb dX1_passBracket_145 ?_
              refine lv_topl (fun v_54 ev_54 => ?_)
              refine jx_put (w2 := [(h, .inr (1, (oX1 R (upd (upd I 9 v_45) 10 v_52) (vp_updL L 8 v_54)))), ((R 0), .inl (cI, 80, .inl f0)), ((R 1), .inl (cI, 80, .inl f1)), ((R 2), .inl (cI, 80, .inl f2)), ((R 3), .inl (cJ, 80, .inr (.inl f3))), ((R 4), .inl (cI, 80, .inl f4)), ((R 5), .inl (cI, 80, .inl f5))]) hx hb hts iX1_passBracket_1 tyX1 tyX1_ok nmX1 hown hK hP hD hS 0 rfl rfl 8 (by decide) hk41 rfl rfl rfl rfl (Nat.le_of_ble_eq_true rfl) dX1_passBracket_146 rfl (fun H locs hP hD hS => ?_)
              refine lv_aload_n hx hb dX1_passBracket_149 rfl (lv_at hl 2 rfl) ?_
              refine jx_get (v := .ref (R 2)) hx hb hts iX1_passBracket_1 hown hK hP 0 rfl rfl 2 (by decide) hk20 rfl rfl dX1_passBracket_150 ?_
              refine lv_iload_n hx hb dX1_passBracket_153 rfl (lv_at hl 3 rfl) ?_
              refine va_iald hx hb hK hP 3 0 rfl rfl hi dX1_passBracket_154 ?_
              have hq : (sX1_passBracket I L f0 f1 f2 f3 f4 f5 a0) = ((f2 a0.toNatClampNeg), (upd (upd I 9 v_45) 10 v_52), (vp_updL L 8 v_54)) := by clear hP hD hl; have z_ := ev_54.symm; clear ev_54; subst z_; have z_ := ev_52.symm; clear ev_52; subst z_; have z_ := ev_45.symm; clear ev_45; subst z_; have z_ := ev_3.symm; clear ev_3; subst z_; have z_ := ev_1.symm; clear ev_1; subst z_; unfold sX1_passBracket; exact (if_pos c_2).trans ((if_pos c_4).trans ((if_pos c_31).trans ((if_neg c_32).trans ((if_neg c_46).trans ((if_pos c_53))))))
              exact jx_iret () hx hb hr hlocks hK hP hD hS (by rw [hq]) (by rw [hq]) dX1_passBracket_155
            · skip
              refine lv_lload_n hx hb dX1_passBracket_118 rfl (lv_at hl 1 rfl) ?_
              refine lv_lconst (v := 0) hx hb dX1_passBracket_119 (by decide) ?_
              refine jx_l_le (tgt := 138) hx hb dX1_passBracket_120 dX1_passBracket_121 (by decide) (fun c_55 => ?_) (fun c_55 => ?_)
              · skip
                refine lv_aload_n hx hb dX1_passBracket_138 rfl (lv_at hl 2 rfl) ?_
                refine lv_dup hx hb dX1_passBracket_139 rfl ?_
                refine jx_get (v := .long (L 8)) hx hb hts iX1_passBracket_1 hown hK hP 0 rfl rfl 8 (by decide) hk41 rfl rfl dX1_passBracket_140 ?_
                refine lv_lload hx hb dX1_passBracket_143 (lv_at hl 0 rfl) ?_
                refine lv_lsub hx hb dX1_passBracket_145 ?_
                refine lv_topl (fun v_56 ev_56 => ?_)
                refine jx_put (w2 := [(h, .inr (1, (oX1 R (upd (upd I 9 v_45) 10 v_52) (vp_updL L 8 v_56)))), ((R 0), .inl (cI, 80, .inl f0)), ((R 1), .inl (cI, 80, .inl f1)), ((R 2), .inl (cI, 80, .inl f2)), ((R 3), .inl (cJ, 80, .inr (.inl f3))), ((R 4), .inl (cI, 80, .inl f4)), ((R 5), .inl (cI, 80, .inl f5))]) hx hb hts iX1_passBracket_1 tyX1 tyX1_ok nmX1 hown hK hP hD hS 0 rfl rfl 8 (by decide) hk41 rfl rfl rfl rfl (Nat.le_of_ble_eq_true rfl) dX1_passBracket_146 rfl (fun H locs hP hD hS => ?_)
                refine lv_aload_n hx hb dX1_passBracket_149 rfl (lv_at hl 2 rfl) ?_
                refine jx_get (v := .ref (R 2)) hx hb hts iX1_passBracket_1 hown hK hP 0 rfl rfl 2 (by decide) hk20 rfl rfl dX1_passBracket_150 ?_
                refine lv_iload_n hx hb dX1_passBracket_153 rfl (lv_at hl 3 rfl) ?_
                refine va_iald hx hb hK hP 3 0 rfl rfl hi dX1_passBracket_154 ?_
                have hq : (sX1_passBracket I L f0 f1 f2 f3 f4 f5 a0) = ((f2 a0.toNatClampNeg), (upd (upd I 9 v_45) 10 v_52), (vp_updL L 8 v_56)) := by clear hP hD hl; have z_ := ev_56.symm; clear ev_56; subst z_; have z_ := ev_52.symm; clear ev_52; subst z_; have z_ := ev_45.symm; clear ev_45; subst z_; have z_ := ev_3.symm; clear ev_3; subst z_; have z_ := ev_1.symm; clear ev_1; subst z_; unfold sX1_passBracket; exact (if_pos c_2).trans ((if_pos c_4).trans ((if_pos c_31).trans ((if_neg c_32).trans ((if_neg c_46).trans ((if_neg c_53).trans ((if_pos c_55)))))))
                exact jx_iret () hx hb hr hlocks hK hP hD hS (by rw [hq]) (by rw [hq]) dX1_passBracket_155
              · skip
                refine lv_aload_n hx hb dX1_passBracket_124 rfl (lv_at hl 2 rfl) ?_
                refine lv_dup hx hb dX1_passBracket_125 rfl ?_
                refine jx_get (v := .long (L 8)) hx hb hts iX1_passBracket_1 hown hK hP 0 rfl rfl 8 (by decide) hk41 rfl rfl dX1_passBracket_126 ?_
                refine lv_lload_n hx hb dX1_passBracket_129 rfl (lv_at hl 1 rfl) ?_
                refine lv_lrem hx hb dX1_passBracket_130 (fun z => c_55 (by rw [z]; decide)) ?_
                refine lv_topl (fun v_57 ev_57 => ?_)
                refine jx_put (w2 := [(h, .inr (1, (oX1 R (upd (upd I 9 v_45) 10 v_52) (vp_updL L 8 v_57)))), ((R 0), .inl (cI, 80, .inl f0)), ((R 1), .inl (cI, 80, .inl f1)), ((R 2), .inl (cI, 80, .inl f2)), ((R 3), .inl (cJ, 80, .inr (.inl f3))), ((R 4), .inl (cI, 80, .inl f4)), ((R 5), .inl (cI, 80, .inl f5))]) hx hb hts iX1_passBracket_1 tyX1 tyX1_ok nmX1 hown hK hP hD hS 0 rfl rfl 8 (by decide) hk41 rfl rfl rfl rfl (Nat.le_of_ble_eq_true rfl) dX1_passBracket_131 rfl (fun H locs hP hD hS => ?_)
                refine lv_iload_n hx hb dX1_passBracket_134 rfl (lv_at hl 3 rfl) ?_
                refine lv_iconst (v := 1) hx hb dX1_passBracket_135 (by decide) ?_
                refine lv_iadd hx hb dX1_passBracket_136 ?_
                have hq : (sX1_passBracket I L f0 f1 f2 f3 f4 f5 a0) = ((a0 + (1 : Int32)), (upd (upd I 9 v_45) 10 v_52), (vp_updL L 8 v_57)) := by clear hP hD hl; have z_ := ev_57.symm; clear ev_57; subst z_; have z_ := ev_52.symm; clear ev_52; subst z_; have z_ := ev_45.symm; clear ev_45; subst z_; have z_ := ev_3.symm; clear ev_3; subst z_; have z_ := ev_1.symm; clear ev_1; subst z_; unfold sX1_passBracket; exact (if_pos c_2).trans ((if_pos c_4).trans ((if_pos c_31).trans ((if_neg c_32).trans ((if_neg c_46).trans ((if_neg c_53).trans ((if_neg c_55)))))))
                exact jx_iret () hx hb hr hlocks hK hP hD hS (by rw [hq]) (by rw [hq]) dX1_passBracket_137
      · skip
        refine lv_aload_n hx hb dX1_passBracket_51 rfl (lv_at hl 2 rfl) ?_
        refine lv_lload hx hb dX1_passBracket_52 (lv_at hl 0 rfl) ?_
        refine lv_lconst (v := 1) hx hb dX1_passBracket_54 (by decide) ?_
        refine lv_lsub hx hb dX1_passBracket_55 ?_
        refine lv_aload_n hx hb dX1_passBracket_56 rfl (lv_at hl 2 rfl) ?_
        refine jx_get (v := .long (L 8)) hx hb hts iX1_passBracket_1 hown hK hP 0 rfl rfl 8 (by decide) hk41 rfl rfl dX1_passBracket_57 ?_
        refine lv_lsub hx hb dX1_passBracket_60 ?_
        refine lv_topl (fun v_58 ev_58 => ?_)
        refine jx_put (w2 := [(h, .inr (1, (oX1 R I (vp_updL L 8 v_58)))), ((R 0), .inl (cI, 80, .inl f0)), ((R 1), .inl (cI, 80, .inl f1)), ((R 2), .inl (cI, 80, .inl f2)), ((R 3), .inl (cJ, 80, .inr (.inl f3))), ((R 4), .inl (cI, 80, .inl f4)), ((R 5), .inl (cI, 80, .inl f5))]) hx hb hts iX1_passBracket_1 tyX1 tyX1_ok nmX1 hown hK hP hD hS 0 rfl rfl 8 (by decide) hk41 rfl rfl rfl rfl (Nat.le_of_ble_eq_true rfl) dX1_passBracket_61 rfl (fun H locs hP hD hS => ?_)
        refine lv_iload_n hx hb dX1_passBracket_64 rfl (lv_at hl 3 rfl) ?_
        refine lv_iconst (v := 1) hx hb dX1_passBracket_65 (by decide) ?_
        refine lv_iadd hx hb dX1_passBracket_66 ?_
        have hq : (sX1_passBracket I L f0 f1 f2 f3 f4 f5 a0) = ((a0 + (1 : Int32)), I, (vp_updL L 8 v_58)) := by clear hP hD hl; have z_ := ev_58.symm; clear ev_58; subst z_; have z_ := ev_3.symm; clear ev_3; subst z_; have z_ := ev_1.symm; clear ev_1; subst z_; unfold sX1_passBracket; exact (if_pos c_2).trans ((if_pos c_4).trans ((if_neg c_31)))
        exact jx_iret () hx hb hr hlocks hK hP hD hS (by rw [hq]) (by rw [hq]) dX1_passBracket_67
  · skip
    refine lv_iload_n hx hb dX1_passBracket_16 rfl (lv_at hl 2 rfl) ?_
    refine lv_iconst (v := 1) hx hb dX1_passBracket_17 (by decide) ?_
    refine lv_iadd hx hb dX1_passBracket_18 ?_
    have hq : (sX1_passBracket I L f0 f1 f2 f3 f4 f5 a0) = ((a0 + (1 : Int32)), I, L) := by clear hP hD hl; have z_ := ev_1.symm; clear ev_1; subst z_; unfold sX1_passBracket; exact (if_neg c_2)
    exact jx_iret () hx hb hr hlocks hK hP hD hS (by rw [hq]) (by rw [hq]) dX1_passBracket_19

def sX1_pass (I : Nat → Int32) (L : Nat → Int64) (f0 : Nat → Int32) (f1 : Nat → Int32) (f2 : Nat → Int32) (f3 : Nat → Int64) (f4 : Nat → Int32) (f5 : Nat → Int32) (a0 : Int32) : Int32 × (Nat → Int32) × (Nat → Int64) := (if (f0 a0.toNatClampNeg) = (0 : Int32) then ((a0 + (1 : Int32)), I, (vp_updL L 8 ((L 8) - (1 : Int64)))) else (if (f0 a0.toNatClampNeg) = (1 : Int32) then ((a0 + (1 : Int32)), (upd I 9 (f1 a0.toNatClampNeg)), L) else (if (f0 a0.toNatClampNeg) = (2 : Int32) then ((a0 + (1 : Int32)), (upd I 10 (f1 a0.toNatClampNeg)), L) else (((sX1_passBracket I L f0 f1 f2 f3 f4 f5 a0).1), ((sX1_passBracket I L f0 f1 f2 f3 f4 f5 a0).2.1), ((sX1_passBracket I L f0 f1 f2 f3 f4 f5 a0).2.2)))))
set_option maxRecDepth 20000 in
theorem iX1_pass_1 : ∀ w ∈ wsX10, w ∈ wsX1_pass := by decide +kernel
set_option maxHeartbeats 4000000 in
set_option maxRecDepth 100000 in
theorem kX1_pass (l : Launch) (D : va_G) (cI cJ cZ cD : ClassId) (tA : Nat) (h : Nat) (R : Nat → Nat) (I : Nat → Int32) (L : Nat → Int64) (f0 : Nat → Int32) (f1 : Nat → Int32) (f2 : Nat → Int32) (f3 : Nat → Int64) (f4 : Nat → Int32) (f5 : Nat → Int32) (a0 : Int32) (hi : vp_in a0 80) : jx_M l yX1_pass wsX1_pass ({ frames := 1, cells := 0, slots := 0, locals := 25 }) D (jT cI cJ cZ cD) tA [.ref h, .int a0] [(h, .inr (1, (oX1 R I L))), ((R 0), .inl (cI, 80, .inl f0)), ((R 1), .inl (cI, 80, .inl f1)), ((R 2), .inl (cI, 80, .inl f2)), ((R 3), .inl (cJ, 80, .inr (.inl f3))), ((R 4), .inl (cI, 80, .inl f4)), ((R 5), .inl (cI, 80, .inl f5))] (jx_Qi D (jT cI cJ cZ cD) (fun r (_ : Unit) => r = (sX1_pass I L f0 f1 f2 f3 f4 f5 a0).1) (fun _ => [(h, .inr (1, (oX1 R (sX1_pass I L f0 f1 f2 f3 f4 f5 a0).2.1 (sX1_pass I L f0 f1 f2 f3 f4 f5 a0).2.2))), ((R 0), .inl (cI, 80, .inl f0)), ((R 1), .inl (cI, 80, .inl f1)), ((R 2), .inl (cI, 80, .inl f2)), ((R 3), .inl (cJ, 80, .inr (.inl f3))), ((R 4), .inl (cI, 80, .inl f4)), ((R 5), .inl (cI, 80, .inl f5))])) := by
  refine jx_of (cc := cX1_pass) (maxL := 2) (ret := (some .int)) (by decide +kernel) rfl (Nat.le_of_ble_eq_true rfl) ?_
  intro p e s m below meth c A ls hx hb hr hlocks hml hown hts hK hP hD hA hS hX hl
  have hl : lv_has ls 2 [(0, .ref h), (1, .int a0)] := hl
  have hown : s.vm.findClass RX1 = some m.cls := hown
  have hk13 := hts (.fieldLink RX1 13 "LoomDesk$Pattern" "kinds" "[I") (by decide +kernel)
  have hk17 := hts (.fieldLink RX1 17 "LoomDesk$Pattern" "values" "[I") (by decide +kernel)
  have hk41 := hts (.fieldLink RX1 41 "LoomDesk$Pattern" "ahead" "J") (by decide +kernel)
  have hk44 := hts (.fieldLink RX1 44 "LoomDesk$Pattern" "carrier" "I") (by decide +kernel)
  have hk47 := hts (.fieldLink RX1 47 "LoomDesk$Pattern" "density" "I") (by decide +kernel)
  refine lv_aload_n hx hb dX1_pass_0 rfl (lv_at hl 0 rfl) ?_
  refine jx_get (v := .ref (R 0)) hx hb hts iX1_pass_1 hown hK hP 0 rfl rfl 0 (by decide) hk13 rfl rfl dX1_pass_1 ?_
  refine lv_iload_n hx hb dX1_pass_4 rfl (lv_at hl 1 rfl) ?_
  refine va_iald hx hb hK hP 1 0 rfl rfl hi dX1_pass_5 ?_
  by_cases c_1 : (f0 a0.toNatClampNeg) = (0 : Int32)
  · skip
    refine lv_tableIn (off := 26) (tgt := 32) hx hb dX1_pass_6 (by rw [c_1]; decide) (by rw [c_1]; decide) (by rw [c_1]; rfl) (by decide) ?_
    refine lv_aload_n hx hb dX1_pass_32 rfl (lv_at hl 0 rfl) ?_
    refine lv_dup hx hb dX1_pass_33 rfl ?_
    refine jx_get (v := .long (L 8)) hx hb hts iX1_pass_1 hown hK hP 0 rfl rfl 8 (by decide) hk41 rfl rfl dX1_pass_34 ?_
    refine lv_lconst (v := 1) hx hb dX1_pass_37 (by decide) ?_
    refine lv_lsub hx hb dX1_pass_38 ?_
    refine lv_topl (fun v_2 ev_2 => ?_)
    refine jx_put (w2 := [(h, .inr (1, (oX1 R I (vp_updL L 8 v_2)))), ((R 0), .inl (cI, 80, .inl f0)), ((R 1), .inl (cI, 80, .inl f1)), ((R 2), .inl (cI, 80, .inl f2)), ((R 3), .inl (cJ, 80, .inr (.inl f3))), ((R 4), .inl (cI, 80, .inl f4)), ((R 5), .inl (cI, 80, .inl f5))]) hx hb hts iX1_pass_1 tyX1 tyX1_ok nmX1 hown hK hP hD hS 0 rfl rfl 8 (by decide) hk41 rfl rfl rfl rfl (Nat.le_of_ble_eq_true rfl) dX1_pass_39 rfl (fun H locs hP hD hS => ?_)
    refine lv_iload_n hx hb dX1_pass_42 rfl (lv_at hl 1 rfl) ?_
    refine lv_iconst (v := 1) hx hb dX1_pass_43 (by decide) ?_
    refine lv_iadd hx hb dX1_pass_44 ?_
    have hq : (sX1_pass I L f0 f1 f2 f3 f4 f5 a0) = ((a0 + (1 : Int32)), I, (vp_updL L 8 v_2)) := by clear hP hD hl; have z_ := ev_2.symm; clear ev_2; subst z_; unfold sX1_pass; exact (if_pos c_1)
    exact jx_iret () hx hb hr hlocks hK hP hD hS (by rw [hq]) (by rw [hq]) dX1_pass_45
  by_cases c_3 : (f0 a0.toNatClampNeg) = (1 : Int32)
  · skip
    refine lv_tableIn (off := 40) (tgt := 46) hx hb dX1_pass_6 (by rw [c_3]; decide) (by rw [c_3]; decide) (by rw [c_3]; rfl) (by decide) ?_
    refine lv_aload_n hx hb dX1_pass_46 rfl (lv_at hl 0 rfl) ?_
    refine lv_aload_n hx hb dX1_pass_47 rfl (lv_at hl 0 rfl) ?_
    refine jx_get (v := .ref (R 1)) hx hb hts iX1_pass_1 hown hK hP 0 rfl rfl 1 (by decide) hk17 rfl rfl dX1_pass_48 ?_
    refine lv_iload_n hx hb dX1_pass_51 rfl (lv_at hl 1 rfl) ?_
    refine va_iald hx hb hK hP 2 0 rfl rfl hi dX1_pass_52 ?_
    refine lv_topi (fun v_4 ev_4 => ?_)
    refine jx_put (w2 := [(h, .inr (1, (oX1 R (upd I 9 v_4) L))), ((R 0), .inl (cI, 80, .inl f0)), ((R 1), .inl (cI, 80, .inl f1)), ((R 2), .inl (cI, 80, .inl f2)), ((R 3), .inl (cJ, 80, .inr (.inl f3))), ((R 4), .inl (cI, 80, .inl f4)), ((R 5), .inl (cI, 80, .inl f5))]) hx hb hts iX1_pass_1 tyX1 tyX1_ok nmX1 hown hK hP hD hS 0 rfl rfl 9 (by decide) hk44 rfl rfl rfl rfl (Nat.le_of_ble_eq_true rfl) dX1_pass_53 rfl (fun H locs hP hD hS => ?_)
    refine lv_iload_n hx hb dX1_pass_56 rfl (lv_at hl 1 rfl) ?_
    refine lv_iconst (v := 1) hx hb dX1_pass_57 (by decide) ?_
    refine lv_iadd hx hb dX1_pass_58 ?_
    have hq : (sX1_pass I L f0 f1 f2 f3 f4 f5 a0) = ((a0 + (1 : Int32)), (upd I 9 v_4), L) := by clear hP hD hl; have z_ := ev_4.symm; clear ev_4; subst z_; unfold sX1_pass; exact (if_neg c_1).trans ((if_pos c_3))
    exact jx_iret () hx hb hr hlocks hK hP hD hS (by rw [hq]) (by rw [hq]) dX1_pass_59
  by_cases c_5 : (f0 a0.toNatClampNeg) = (2 : Int32)
  · skip
    refine lv_tableIn (off := 54) (tgt := 60) hx hb dX1_pass_6 (by rw [c_5]; decide) (by rw [c_5]; decide) (by rw [c_5]; rfl) (by decide) ?_
    refine lv_aload_n hx hb dX1_pass_60 rfl (lv_at hl 0 rfl) ?_
    refine lv_aload_n hx hb dX1_pass_61 rfl (lv_at hl 0 rfl) ?_
    refine jx_get (v := .ref (R 1)) hx hb hts iX1_pass_1 hown hK hP 0 rfl rfl 1 (by decide) hk17 rfl rfl dX1_pass_62 ?_
    refine lv_iload_n hx hb dX1_pass_65 rfl (lv_at hl 1 rfl) ?_
    refine va_iald hx hb hK hP 2 0 rfl rfl hi dX1_pass_66 ?_
    refine lv_topi (fun v_6 ev_6 => ?_)
    refine jx_put (w2 := [(h, .inr (1, (oX1 R (upd I 10 v_6) L))), ((R 0), .inl (cI, 80, .inl f0)), ((R 1), .inl (cI, 80, .inl f1)), ((R 2), .inl (cI, 80, .inl f2)), ((R 3), .inl (cJ, 80, .inr (.inl f3))), ((R 4), .inl (cI, 80, .inl f4)), ((R 5), .inl (cI, 80, .inl f5))]) hx hb hts iX1_pass_1 tyX1 tyX1_ok nmX1 hown hK hP hD hS 0 rfl rfl 10 (by decide) hk47 rfl rfl rfl rfl (Nat.le_of_ble_eq_true rfl) dX1_pass_67 rfl (fun H locs hP hD hS => ?_)
    refine lv_iload_n hx hb dX1_pass_70 rfl (lv_at hl 1 rfl) ?_
    refine lv_iconst (v := 1) hx hb dX1_pass_71 (by decide) ?_
    refine lv_iadd hx hb dX1_pass_72 ?_
    have hq : (sX1_pass I L f0 f1 f2 f3 f4 f5 a0) = ((a0 + (1 : Int32)), (upd I 10 v_6), L) := by clear hP hD hl; have z_ := ev_6.symm; clear ev_6; subst z_; unfold sX1_pass; exact (if_neg c_1).trans ((if_neg c_3).trans ((if_pos c_5)))
    exact jx_iret () hx hb hr hlocks hK hP hD hS (by rw [hq]) (by rw [hq]) dX1_pass_73
  have hout : (f0 a0.toNatClampNeg).toInt < 0 ∨ 2 < (f0 a0.toNatClampNeg).toInt := by
    have z0 := lv_neT c_1 (show (0 : Int32).toInt = 0 by decide)
    have z1 := lv_neT c_3 (show (1 : Int32).toInt = 1 by decide)
    have z2 := lv_neT c_5 (show (2 : Int32).toInt = 2 by decide)
    omega
  refine lv_tableOut (tgt := 74) hx hb dX1_pass_6 hout (by decide) ?_
  refine lv_aload_n hx hb dX1_pass_74 rfl (lv_at hl 0 rfl) ?_
  refine lv_iload_n hx hb dX1_pass_75 rfl (lv_at hl 1 rfl) ?_
  refine jx_calli (wc := [(h, .inr (1, (oX1 R I L))), ((R 0), .inl (cI, 80, .inl f0)), ((R 1), .inl (cI, 80, .inl f1)), ((R 2), .inl (cI, 80, .inl f2)), ((R 3), .inl (cJ, 80, .inr (.inl f3))), ((R 4), .inl (cI, 80, .inl f4)), ((R 5), .inl (cI, 80, .inl f5))]) (wr := []) hP hD hS hA hK [0, 1, 2, 3, 4, 5, 6] [] rfl rfl (by decide) (by decide) (by decide) (fun hPc hDc hF => jx_runV (As := [.int a0]) (rest := []) (n := 1) (ci := 1) (q0 := 0) hx hb hml hown hts hK hX hS hl.1 (kX1_passBracket l D cI cJ cZ cD tA h R I L f0 f1 f2 f3 f4 f5 a0 hi) gX1_pass_X1_passBracket rfl rfl rfl (by decide +kernel) ⟨Nat.le_of_ble_eq_true rfl, Nat.le_of_ble_eq_true rfl⟩ rfl rfl rfl rfl rfl (Nat.le_of_ble_eq_true rfl) dX1_pass_76 ⟨Nat.zero_le _, Nat.zero_le _⟩ hPc hDc hF) (fun r_7 u H locs er_7 hP hD hS => ?_)
  have er_7 : r_7 = (sX1_passBracket I L f0 f1 f2 f3 f4 f5 a0).1 := er_7
  obtain ⟨I_8, eI_8⟩ : ∃ x : (Nat → Int32), x = (sX1_passBracket I L f0 f1 f2 f3 f4 f5 a0).2.1 := ⟨_, rfl⟩
  obtain ⟨L_9, eL_9⟩ : ∃ x : (Nat → Int64), x = (sX1_passBracket I L f0 f1 f2 f3 f4 f5 a0).2.2 := ⟨_, rfl⟩
  have hP : va_P D vwCl [(h, .inr (1, (oX1 R I_8 L_9))), ((R 0), .inl (cI, 80, .inl f0)), ((R 1), .inl (cI, 80, .inl f1)), ((R 2), .inl (cI, 80, .inl f2)), ((R 3), .inl (cJ, 80, .inr (.inl f3))), ((R 4), .inl (cI, 80, .inl f4)), ((R 5), .inl (cI, 80, .inl f5))] H := by rw [eI_8, eL_9]; exact hP
  have hD : va_D A [(h, .inr (1, (oX1 R I_8 L_9))), ((R 0), .inl (cI, 80, .inl f0)), ((R 1), .inl (cI, 80, .inl f1)), ((R 2), .inl (cI, 80, .inl f2)), ((R 3), .inl (cJ, 80, .inr (.inl f3))), ((R 4), .inl (cI, 80, .inl f4)), ((R 5), .inl (cI, 80, .inl f5))] := by rw [eI_8, eL_9]; exact hD
  have hq : (sX1_pass I L f0 f1 f2 f3 f4 f5 a0) = (r_7, I_8, L_9) := by clear hP hD hl; have z_ := eL_9.symm; clear eL_9; subst z_; have z_ := eI_8.symm; clear eI_8; subst z_; have z_ := er_7.symm; clear er_7; subst z_; unfold sX1_pass; exact (if_neg c_1).trans ((if_neg c_3).trans ((if_neg c_5)))
  exact jx_iret () hx hb hr hlocks hK hP hD hS (by rw [hq]) (by rw [hq]) dX1_pass_79

