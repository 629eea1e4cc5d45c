def sX6_degrees (a0 : Int32) : UInt64 := (FP.ddiv (FP.i2d a0) (4625196817309499392 : UInt64))
set_option maxHeartbeats 4000000 in
set_option maxRecDepth 100000 in
theorem kX6_degrees (l : Launch) (D : va_G) (cI cJ cZ cD : ClassId) (tA : Nat) (a0 : Int32) (hn : ∀ x : Int32, vf_n64 (FP.ddiv (FP.i2d x) 4625196817309499392)) : jx_Ms l yX6_degrees wsX6_degrees ({ frames := 0, cells := 0, slots := 0, locals := 0 }) D (jT cI cJ cZ cD) tA [.int a0] [] (vp_Sd (fun r => r = (sX6_degrees a0))) := by
  refine jx_ofs (cc := cX6_degrees) (maxL := 1) (ret := (some .double)) (by decide +kernel) rfl (Nat.le_of_ble_eq_true rfl) ?_
  intro p e s m below meth c A ls hx hb hr hlocks hml hown hts hK hP hD hA hS hX hl
  have hl : lv_has ls 1 [(0, .int a0)] := hl
  have hown : s.vm.findClass RX6 = some m.cls := hown
  refine lv_iload_n hx hb dX6_degrees_0 rfl (lv_at hl 0 rfl) ?_
  refine lv_i2d hx hb dX6_degrees_1 ?_
  refine lv_ldc2d hx hb hown (hts (.constantDouble RX6 211 (4625196817309499392)) (by decide +kernel)) dX6_degrees_2 ?_
  refine lv_ddiv hx hb dX6_degrees_5 (hn _) ?_
  have hq : (sX6_degrees a0) = (FP.ddiv (FP.i2d a0) (4625196817309499392 : UInt64)) := rfl
  exact jx_sdret hx hb hr hlocks hq.symm dX6_degrees_6

def sX6_sixteenths (a0 : UInt64) : Int32 := ((FP.d2i (FP.dmul a0 (4620693217682128896 : UInt64))) * (2 : Int32))
set_option maxHeartbeats 4000000 in
set_option maxRecDepth 100000 in
theorem kX6_sixteenths (l : Launch) (D : va_G) (cI cJ cZ cD : ClassId) (tA : Nat) (a0 : UInt64) (hn8 : vf_n64 (FP.dmul a0 4620693217682128896)) : jx_Ms l yX6_sixteenths wsX6_sixteenths ({ frames := 0, cells := 0, slots := 0, locals := 0 }) D (jT cI cJ cZ cD) tA [.double a0] [] (vp_Si (fun r => r = (sX6_sixteenths a0))) := by
  refine jx_ofs (cc := cX6_sixteenths) (maxL := 3) (ret := (some .int)) (by decide +kernel) rfl (Nat.le_of_ble_eq_true rfl) ?_
  intro p e s m below meth c A ls hx hb hr hlocks hml hown hts hK hP hD hA hS hX hl
  have hl : lv_has ls 3 [(0, .double a0)] := hl
  have hown : s.vm.findClass RX6 = some m.cls := hown
  refine lv_dload_n hx hb dX6_sixteenths_0 rfl (lv_at hl 0 rfl) ?_
  refine lv_ldc2d hx hb hown (hts (.constantDouble RX6 179 (4620693217682128896)) (by decide +kernel)) dX6_sixteenths_1 ?_
  refine lv_dmul hx hb dX6_sixteenths_4 hn8 ?_
  refine lv_d2i hx hb dX6_sixteenths_5 ?_
  refine lv_topi (fun v_1 ev_1 => ?_)
  refine lv_istore_n (lv' := [(2, .int v_1), (0, .double a0)]) hx hb dX6_sixteenths_6 rfl hl (by decide) rfl (fun ls hl => ?_)
  refine lv_iload_n hx hb dX6_sixteenths_7 rfl (lv_at hl 0 rfl) ?_
  refine lv_iconst (v := 2) hx hb dX6_sixteenths_8 (by decide) ?_
  refine lv_imul hx hb dX6_sixteenths_9 ?_
  have hq : (sX6_sixteenths a0) = (v_1 * (2 : Int32)) := by clear hP hD hl; have z_ := ev_1.symm; clear ev_1; subst z_; rfl
  exact jx_siret hx hb hr hlocks hq.symm dX6_sixteenths_10

def sX6_insert (I : Nat → Int32) (I1 : Nat → Int32) : (Nat → Int32) × (Nat → Int32) := (if (I 10) = 0 then ((upd (upd I 8 (1 : Int32)) 10 (0 : Int32)), I1) else ((upd (upd I 8 (2 : Int32)) 10 (0 : Int32)), ((sX4_orderBrake I1).2)))
set_option maxRecDepth 20000 in
theorem iX6_insert_6 : ∀ w ∈ wsX60, w ∈ wsX6_insert := by decide +kernel
set_option maxHeartbeats 4000000 in
set_option maxRecDepth 100000 in
theorem kX6_insert (l : Launch) (D : va_G) (cI cJ cZ cD : ClassId) (tA : Nat) (h : Nat) (R : Nat → Nat) (I : Nat → Int32) (L : Nat → Int64) (R1 : Nat → Nat) (I1 : Nat → Int32) (L1 : Nat → Int64) : jx_M l yX6_insert wsX6_insert ({ frames := 1, cells := 0, slots := 0, locals := 20 }) D (jT cI cJ cZ cD) tA [.ref h] [(h, .inr (6, (oX6 R I L))), ((R 1), .inr (4, (oX4 R1 I1 L1)))] (jx_Qv D (jT cI cJ cZ cD) (fun (_ : Unit) => True) (fun _ => [(h, .inr (6, (oX6 R (sX6_insert I I1).1 L))), ((R 1), .inr (4, (oX4 R1 (sX6_insert I I1).2 L1)))])) := by
  refine jx_of (cc := cX6_insert) (maxL := 1) (ret := none) (by decide +kernel) rfl (Nat.le_of_ble_eq_true rfl) ?_
  intro p e s m below meth c A ls hx hb hr hlocks hml hown hts hK hP hD hA hS hX hl
  have hl : lv_has ls 1 [(0, .ref h)] := hl
  have hown : s.vm.findClass RX6 = some m.cls := hown
  have hk19 := hts (.fieldLink RX6 19 "LoomDesk" "shaft" "LLoomDesk$Shaft;") (by decide +kernel)
  have hk55 := hts (.fieldLink RX6 55 "LoomDesk" "pick" "I") (by decide +kernel)
  have hk61 := hts (.fieldLink RX6 61 "LoomDesk" "breakTold" "Z") (by decide +kernel)
  refine lv_aload_n hx hb dX6_insert_0 rfl (lv_at hl 0 rfl) ?_
  refine jx_get (v := .int (I 10)) hx hb hts iX6_insert_6 hown hK hP 0 rfl rfl 10 (by decide) hk61 rfl rfl dX6_insert_1 ?_
  refine lv_if_eq (tgt := 23) hx hb dX6_insert_4 (by decide) (fun c_1 => ?_) (fun c_1 => ?_)
  · skip
    refine lv_aload_n hx hb dX6_insert_23 rfl (lv_at hl 0 rfl) ?_
    refine lv_iconst (v := 1) hx hb dX6_insert_24 (by decide) ?_
    refine jx_put (w2 := [(h, .inr (6, (oX6 R (upd I 8 (1 : Int32)) L))), ((R 1), .inr (4, (oX4 R1 I1 L1)))]) hx hb hts iX6_insert_6 tyX6 tyX6_ok nmX6 hown hK hP hD hS 0 rfl rfl 8 (by decide) hk55 rfl rfl rfl rfl (Nat.le_of_ble_eq_true rfl) dX6_insert_25 rfl (fun H locs hP hD hS => ?_)
    refine lv_aload_n hx hb dX6_insert_28 rfl (lv_at hl 0 rfl) ?_
    refine lv_iconst (v := 0) hx hb dX6_insert_29 (by decide) ?_
    refine jx_put (w2 := [(h, .inr (6, (oX6 R (upd (upd I 8 (1 : Int32)) 10 (0 : Int32)) L))), ((R 1), .inr (4, (oX4 R1 I1 L1)))]) hx hb hts iX6_insert_6 tyX6 tyX6_ok nmX6 hown hK hP hD hS 0 rfl rfl 10 (by decide) hk61 rfl rfl (jx_bn (Or.inl rfl)) (jx_bf (Or.inl rfl)) (Nat.le_of_ble_eq_true rfl) dX6_insert_30 rfl (fun H locs hP hD hS => ?_)
    have hq : (sX6_insert I I1) = ((upd (upd I 8 (1 : Int32)) 10 (0 : Int32)), I1) := by unfold sX6_insert; exact (if_pos c_1)
    exact jx_vret () hx hb hr hlocks hK hP hD hS (by rw [hq]) trivial dX6_insert_33
  · skip
    refine lv_aload_n hx hb dX6_insert_7 rfl (lv_at hl 0 rfl) ?_
    refine lv_iconst (v := 2) hx hb dX6_insert_8 (by decide) ?_
    refine jx_put (w2 := [(h, .inr (6, (oX6 R (upd I 8 (2 : Int32)) L))), ((R 1), .inr (4, (oX4 R1 I1 L1)))]) hx hb hts iX6_insert_6 tyX6 tyX6_ok nmX6 hown hK hP hD hS 0 rfl rfl 8 (by decide) hk55 rfl rfl rfl rfl (Nat.le_of_ble_eq_true rfl) dX6_insert_9 rfl (fun H locs hP hD hS => ?_)
    refine lv_aload_n hx hb dX6_insert_12 rfl (lv_at hl 0 rfl) ?_
    refine jx_get (v := .ref (R 1)) hx hb hts iX6_insert_6 hown hK hP 0 rfl rfl 1 (by decide) hk19 rfl rfl dX6_insert_13 ?_
    refine jx_calli (wc := [((R 1), .inr (4, (oX4 R1 I1 L1)))]) (wr := [(h, .inr (6, (oX6 R (upd I 8 (2 : Int32)) L)))]) hP hD hS hA hK [1] [0] rfl rfl (by decide) (by decide) (by decide) (fun hPc hDc hF => jx_runV (As := []) (rest := []) (n := 0) (ci := 4) (q0 := 0) hx hb hml hown hts hK hX hS hl.1 (kX4_orderBrake l D cI cJ cZ cD tA (R 1) R1 I1 L1) gX6_insert_X4_orderBrake rfl rfl rfl (by decide +kernel) ⟨Nat.le_of_ble_eq_true rfl, Nat.le_of_ble_eq_true rfl⟩ rfl rfl rfl rfl rfl (Nat.le_of_ble_eq_true rfl) dX6_insert_16 ⟨Nat.zero_le _, Nat.zero_le _⟩ hPc hDc hF) (fun r_2 u H locs er_2 hP hD hS => ?_)
    have er_2 : r_2 = (sX4_orderBrake I1).1 := er_2
    obtain ⟨I_3, eI_3⟩ : ∃ x : (Nat → Int32), x = (sX4_orderBrake I1).2 := ⟨_, rfl⟩
    have hP : va_P D vwCl [(h, .inr (6, (oX6 R (upd I 8 (2 : Int32)) L))), ((R 1), .inr (4, (oX4 R1 I_3 L1)))] H := by rw [eI_3]; exact hP
    have hD : va_D A [(h, .inr (6, (oX6 R (upd I 8 (2 : Int32)) L))), ((R 1), .inr (4, (oX4 R1 I_3 L1)))] := by rw [eI_3]; exact hD
    refine lv_pop hx hb dX6_insert_19 rfl ?_
    refine lv_goto (tgt := 28) hx hb dX6_insert_20 (by decide) ?_
    refine lv_aload_n hx hb dX6_insert_28 rfl (lv_at hl 0 rfl) ?_
    refine lv_iconst (v := 0) hx hb dX6_insert_29 (by decide) ?_
    refine jx_put (w2 := [(h, .inr (6, (oX6 R (upd (upd I 8 (2 : Int32)) 10 (0 : Int32)) L))), ((R 1), .inr (4, (oX4 R1 I_3 L1)))]) hx hb hts iX6_insert_6 tyX6 tyX6_ok nmX6 hown hK hP hD hS 0 rfl rfl 10 (by decide) hk61 rfl rfl (jx_bn (Or.inl rfl)) (jx_bf (Or.inl rfl)) (Nat.le_of_ble_eq_true rfl) dX6_insert_30 rfl (fun H locs hP hD hS => ?_)
    have hq : (sX6_insert I I1) = ((upd (upd I 8 (2 : Int32)) 10 (0 : Int32)), I_3) := by clear hP hD hl; have z_ := eI_3.symm; clear eI_3; subst z_; have z_ := er_2.symm; clear er_2; subst z_; unfold sX6_insert; exact (if_neg c_1)
    exact jx_vret () hx hb hr hlocks hK hP hD hS (by rw [hq]) trivial dX6_insert_33

def sX6_length (L4 : Nat → Int64) : Int64 := (L4 7)
set_option maxRecDepth 20000 in
theorem iX6_length_1 : ∀ w ∈ wsX10, w ∈ wsX6_length := by decide +kernel
set_option maxRecDepth 20000 in
theorem iX6_length_6 : ∀ w ∈ wsX60, w ∈ wsX6_length := by decide +kernel
set_option maxHeartbeats 4000000 in
set_option maxRecDepth 100000 in
theorem kX6_length (l : Launch) (D : va_G) (cI cJ cZ cD : ClassId) (tA : Nat) (h : Nat) (R : Nat → Nat) (I : Nat → Int32) (L : Nat → Int64) (R4 : Nat → Nat) (I4 : Nat → Int32) (L4 : Nat → Int64) : jx_Ms l yX6_length wsX6_length ({ frames := 0, cells := 0, slots := 0, locals := 0 }) D (jT cI cJ cZ cD) tA [.ref h] [(h, .inr (6, (oX6 R I L))), ((R 4), .inr (1, (oX1 R4 I4 L4)))] (vp_Sl (fun r => r = (sX6_length L4))) := by
  refine jx_ofs (cc := cX6_length) (maxL := 1) (ret := (some .long)) (by decide +kernel) rfl (Nat.le_of_ble_eq_true rfl) ?_
  intro p e s m below meth c A ls hx hb hr hlocks hml hown hts hK hP hD hA hS hX hl
  have hl : lv_has ls 1 [(0, .ref h)] := hl
  have hown : s.vm.findClass RX6 = some m.cls := hown
  have hk40 := hts (.fieldLink RX6 40 "LoomDesk" "pattern" "LLoomDesk$Pattern;") (by decide +kernel)
  refine lv_aload_n hx hb dX6_length_0 rfl (lv_at hl 0 rfl) ?_
  refine jx_get (v := .ref (R 4)) hx hb hts iX6_length_6 hown hK hP 0 rfl rfl 4 (by decide) hk40 rfl rfl dX6_length_1 ?_
  refine jx_getN (host := RX6) (v := .long (L4 7)) hx hb hts iX6_length_1 hown hK hP 1 rfl rfl 7 (by decide) hX (by decide +kernel) rfl rfl dX6_length_4 ?_
  have hq : (sX6_length L4) = (L4 7) := rfl
  exact jx_slret hx hb hr hlocks hq.symm dX6_length_7

def sX6_start (I : Nat → Int32) (I1 : Nat → Int32) (L4 : Nat → Int64) : Int32 × (Nat → Int32) := (if (I 11) = 0 then ((0 : Int32), I1) else (if (sX4_stands I1) = 0 then ((0 : Int32), I1) else (if (L4 7) = (0 : Int64) then ((0 : Int32), I1) else ((1 : Int32), (upd I1 1 (1 : Int32))))))
set_option maxRecDepth 20000 in
theorem iX6_start_1 : ∀ w ∈ wsX10, w ∈ wsX6_start := by decide +kernel
set_option maxRecDepth 20000 in
theorem iX6_start_4 : ∀ w ∈ wsX40, w ∈ wsX6_start := by decide +kernel
set_option maxRecDepth 20000 in
theorem iX6_start_6 : ∀ w ∈ wsX60, w ∈ wsX6_start := by decide +kernel
set_option maxHeartbeats 4000000 in
set_option maxRecDepth 100000 in
theorem kX6_start (l : Launch) (D : va_G) (cI cJ cZ cD : ClassId) (tA : Nat) (h : Nat) (R : Nat → Nat) (I : Nat → Int32) (L : Nat → Int64) (R1 : Nat → Nat) (I1 : Nat → Int32) (L1 : Nat → Int64) (R4 : Nat → Nat) (I4 : Nat → Int32) (L4 : Nat → Int64) : jx_M l yX6_start wsX6_start ({ frames := 1, cells := 0, slots := 0, locals := 20 }) D (jT cI cJ cZ cD) tA [.ref h] [(h, .inr (6, (oX6 R I L))), ((R 1), .inr (4, (oX4 R1 I1 L1))), ((R 4), .inr (1, (oX1 R4 I4 L4)))] (jx_Qi D (jT cI cJ cZ cD) (fun r (_ : Unit) => r = (sX6_start I I1 L4).1) (fun _ => [(h, .inr (6, (oX6 R I L))), ((R 1), .inr (4, (oX4 R1 (sX6_start I I1 L4).2 L1))), ((R 4), .inr (1, (oX1 R4 I4 L4)))])) := by
  refine jx_of (cc := cX6_start) (maxL := 1) (ret := (some .boolean)) (by decide +kernel) rfl (Nat.le_of_ble_eq_true rfl) ?_
  intro p e s m below meth c A ls hx hb hr hlocks hml hown hts hK hP hD hA hS hX hl
  have hl : lv_has ls 1 [(0, .ref h)] := hl
  have hown : s.vm.findClass RX6 = some m.cls := hown
  have hk19 := hts (.fieldLink RX6 19 "LoomDesk" "shaft" "LLoomDesk$Shaft;") (by decide +kernel)
  have hk40 := hts (.fieldLink RX6 40 "LoomDesk" "pattern" "LLoomDesk$Pattern;") (by decide +kernel)
  have hk65 := hts (.fieldLink RX6 65 "LoomDesk" "power" "Z") (by decide +kernel)
  refine lv_aload_n hx hb dX6_start_0 rfl (lv_at hl 0 rfl) ?_
  refine jx_get (v := .int (I 11)) hx hb hts iX6_start_6 hown hK hP 0 rfl rfl 11 (by decide) hk65 rfl rfl dX6_start_1 ?_
  refine lv_if_eq (tgt := 29) hx hb dX6_start_4 (by decide) (fun c_1 => ?_) (fun c_1 => ?_)
  · skip
    refine lv_iconst (v := 0) hx hb dX6_start_29 (by decide) ?_
    have hq : (sX6_start I I1 L4) = ((0 : Int32), I1) := by unfold sX6_start; exact (if_pos c_1)
    exact jx_zret () hx hb hr hlocks hK hP hD hS (by rw [hq]) (by rw [hq]) (Or.inl rfl) dX6_start_30
  · skip
    refine lv_aload_n hx hb dX6_start_7 rfl (lv_at hl 0 rfl) ?_
    refine jx_get (v := .ref (R 1)) hx hb hts iX6_start_6 hown hK hP 0 rfl rfl 1 (by decide) hk19 rfl rfl dX6_start_8 ?_
    refine jx_pcalli (wc := [((R 1), .inr (4, (oX4 R1 I1 L1)))]) hP hD hS hA [1] rfl (by decide) (fun hPc hDc hF => jx_runVs (As := []) (rest := []) (n := 0) (ci := 4) (q0 := 0) hx hb hml hown hts hK hX hS hl.1 (kX4_stands l D cI cJ cZ cD tA (R 1) R1 I1 L1) gX6_start_X4_stands rfl rfl rfl (by decide +kernel) ⟨Nat.le_of_ble_eq_true rfl, Nat.le_of_ble_eq_true rfl⟩ rfl rfl rfl rfl rfl (Nat.le_of_ble_eq_true rfl) dX6_start_11 ⟨Nat.zero_le _, Nat.zero_le _⟩ hPc hDc hF) (fun r_2 er_2 => ?_)
    have er_2 : r_2 = (sX4_stands I1) := er_2
    refine lv_if_eq (tgt := 29) hx hb dX6_start_14 (by decide) (fun c_3 => ?_) (fun c_3 => ?_)
    · skip
      refine lv_iconst (v := 0) hx hb dX6_start_29 (by decide) ?_
      have hq : (sX6_start I I1 L4) = ((0 : Int32), I1) := by clear hP hD hl; have z_ := er_2.symm; clear er_2; subst z_; unfold sX6_start; exact (if_neg c_1).trans ((if_pos c_3))
      exact jx_zret () hx hb hr hlocks hK hP hD hS (by rw [hq]) (by rw [hq]) (Or.inl rfl) dX6_start_30
    · skip
      refine lv_aload_n hx hb dX6_start_17 rfl (lv_at hl 0 rfl) ?_
      refine jx_get (v := .ref (R 4)) hx hb hts iX6_start_6 hown hK hP 0 rfl rfl 4 (by decide) hk40 rfl rfl dX6_start_18 ?_
      refine jx_getN (host := RX6) (v := .long (L4 7)) hx hb hts iX6_start_1 hown hK hP 2 rfl rfl 7 (by decide) hX (by decide +kernel) rfl rfl dX6_start_21 ?_
      refine lv_lconst (v := 0) hx hb dX6_start_24 (by decide) ?_
      refine jx_l_ne (tgt := 31) hx hb dX6_start_25 dX6_start_26 (by decide) (fun c_4 => ?_) (fun c_4 => ?_)
      · skip
        refine lv_aload_n hx hb dX6_start_31 rfl (lv_at hl 0 rfl) ?_
        refine jx_get (v := .ref (R 1)) hx hb hts iX6_start_6 hown hK hP 0 rfl rfl 1 (by decide) hk19 rfl rfl dX6_start_32 ?_
        refine lv_iconst (v := 1) hx hb dX6_start_35 (by decide) ?_
        refine jx_putN (host := RX6) (w2 := [(h, .inr (6, (oX6 R I L))), ((R 1), .inr (4, (oX4 R1 (upd I1 1 (1 : Int32)) L1))), ((R 4), .inr (1, (oX1 R4 I4 L4)))]) hx hb hts iX6_start_4 tyX4 tyX4_ok nmX4 hown hK hP hD hS 1 rfl rfl 1 (by decide) hX (by decide +kernel) rfl rfl rfl rfl (Nat.le_of_ble_eq_true rfl) dX6_start_36 rfl (fun H locs hP hD hS => ?_)
        refine lv_iconst (v := 1) hx hb dX6_start_39 (by decide) ?_
        have hq : (sX6_start I I1 L4) = ((1 : Int32), (upd I1 1 (1 : Int32))) := by clear hP hD hl; have z_ := er_2.symm; clear er_2; subst z_; unfold sX6_start; exact (if_neg c_1).trans ((if_neg c_3).trans ((if_neg c_4)))
        exact jx_zret () hx hb hr hlocks hK hP hD hS (by rw [hq]) (by rw [hq]) (Or.inr rfl) dX6_start_40
      · skip
        refine lv_iconst (v := 0) hx hb dX6_start_29 (by decide) ?_
        have hq : (sX6_start I I1 L4) = ((0 : Int32), I1) := by clear hP hD hl; have z_ := er_2.symm; clear er_2; subst z_; unfold sX6_start; exact (if_neg c_1).trans ((if_neg c_3).trans ((if_pos c_4)))
        exact jx_zret () hx hb hr hlocks hK hP hD hS (by rw [hq]) (by rw [hq]) (Or.inl rfl) dX6_start_30

theorem ob_bool (I : Nat → Int32) : (sX4_orderBrake I).1 = 0 ∨ (sX4_orderBrake I).1 = 1 := by
  unfold sX4_orderBrake; split
  · exact Or.inr rfl
  · exact Or.inl rfl
theorem put_bool (I f : Nat → Int32) (a : Int64) (b : Int32) : (sX5_put I f a b).1 = 0 ∨ (sX5_put I f a b).1 = 1 := by
  unfold sX5_put
  split
  · exact Or.inl rfl
  · split
    · exact Or.inl rfl
    · split
      · split
        · exact Or.inl rfl
        · exact Or.inr rfl
      · exact Or.inl rfl
def sX6_stop (I1 : Nat → Int32) : Int32 × (Nat → Int32) := (((sX4_orderBrake I1).1), ((sX4_orderBrake I1).2))
set_option maxRecDepth 20000 in
theorem iX6_stop_6 : ∀ w ∈ wsX60, w ∈ wsX6_stop := by decide +kernel
set_option maxHeartbeats 4000000 in
set_option maxRecDepth 100000 in
theorem kX6_stop (l : Launch) (D : va_G) (cI cJ cZ cD : ClassId) (tA : Nat) (h : Nat) (R : Nat → Nat) (I : Nat → Int32) (L : Nat → Int64) (R1 : Nat → Nat) (I1 : Nat → Int32) (L1 : Nat → Int64) : jx_M l yX6_stop wsX6_stop ({ frames := 1, cells := 0, slots := 0, locals := 20 }) D (jT cI cJ cZ cD) tA [.ref h] [(h, .inr (6, (oX6 R I L))), ((R 1), .inr (4, (oX4 R1 I1 L1)))] (jx_Qi D (jT cI cJ cZ cD) (fun r (_ : Unit) => r = (sX6_stop I1).1) (fun _ => [(h, .inr (6, (oX6 R I L))), ((R 1), .inr (4, (oX4 R1 (sX6_stop I1).2 L1)))])) := by
  refine jx_of (cc := cX6_stop) (maxL := 1) (ret := (some .boolean)) (by decide +kernel) rfl (Nat.le_of_ble_eq_true rfl) ?_
  intro p e s m below meth c A ls hx hb hr hlocks hml hown hts hK hP hD hA hS hX hl
  have hl : lv_has ls 1 [(0, .ref h)] := hl
  have hown : s.vm.findClass RX6 = some m.cls := hown
  have hk19 := hts (.fieldLink RX6 19 "LoomDesk" "shaft" "LLoomDesk$Shaft;") (by decide +kernel)
  refine lv_aload_n hx hb dX6_stop_0 rfl (lv_at hl 0 rfl) ?_
  refine jx_get (v := .ref (R 1)) hx hb hts iX6_stop_6 hown hK hP 0 rfl rfl 1 (by decide) hk19 rfl rfl dX6_stop_1 ?_
  refine jx_calli (wc := [((R 1), .inr (4, (oX4 R1 I1 L1)))]) (wr := [(h, .inr (6, (oX6 R I L)))]) hP hD hS hA hK [1] [0] rfl rfl (by decide) (by decide) (by decide) (fun hPc hDc hF => jx_runV (As := []) (rest := []) (n := 0) (ci := 4) (q0 := 0) hx hb hml hown hts hK hX hS hl.1 (kX4_orderBrake l D cI cJ cZ cD tA (R 1) R1 I1 L1) gX6_stop_X4_orderBrake rfl rfl rfl (by decide +kernel) ⟨Nat.le_of_ble_eq_true rfl, Nat.le_of_ble_eq_true rfl⟩ rfl rfl rfl rfl rfl (Nat.le_of_ble_eq_true rfl) dX6_stop_4 ⟨Nat.zero_le _, Nat.zero_le _⟩ hPc hDc hF) (fun r_1 u H locs er_1 hP hD hS => ?_)
  have er_1 : r_1 = (sX4_orderBrake I1).1 := er_1
  obtain ⟨I_2, eI_2⟩ : ∃ x : (Nat → Int32), x = (sX4_orderBrake I1).2 := ⟨_, rfl⟩
  have hP : va_P D vwCl [(h, .inr (6, (oX6 R I L))), ((R 1), .inr (4, (oX4 R1 I_2 L1)))] H := by rw [eI_2]; exact hP
  have hD : va_D A [(h, .inr (6, (oX6 R I L))), ((R 1), .inr (4, (oX4 R1 I_2 L1)))] := by rw [eI_2]; exact hD
  have hq : (sX6_stop I1) = (r_1, I_2) := by clear hP hD hl; have z_ := eI_2.symm; clear eI_2; subst z_; have z_ := er_1.symm; clear er_1; subst z_; rfl
  exact jx_zret () hx hb hr hlocks hK hP hD hS (by rw [hq]) (by rw [hq]) (by clear hP hD hl; have z_ := eI_2.symm; clear eI_2; subst z_; have z_ := er_1.symm; clear er_1; subst z_; exact ob_bool _) dX6_stop_7

def sX6_weft (I : Nat → Int32) (a0 : Int32) : Int32 × (Nat → Int32) := (if (I 11) = 0 then ((0 : Int32), I) else ((1 : Int32), (upd I 10 a0)))
set_option maxRecDepth 20000 in
theorem iX6_weft_6 : ∀ w ∈ wsX60, w ∈ wsX6_weft := by decide +kernel
set_option maxHeartbeats 4000000 in
set_option maxRecDepth 100000 in
theorem kX6_weft (l : Launch) (D : va_G) (cI cJ cZ cD : ClassId) (tA : Nat) (h : Nat) (R : Nat → Nat) (I : Nat → Int32) (L : Nat → Int64) (a0 : Int32) (ha : a0 = 0 ∨ a0 = 1) : jx_M l yX6_weft wsX6_weft ({ frames := 0, cells := 0, slots := 0, locals := 0 }) D (jT cI cJ cZ cD) tA [.ref h, .int a0] [(h, .inr (6, (oX6 R I L)))] (jx_Qi D (jT cI cJ cZ cD) (fun r (_ : Unit) => r = (sX6_weft I a0).1) (fun _ => [(h, .inr (6, (oX6 R (sX6_weft I a0).2 L)))])) := by
  refine jx_of (cc := cX6_weft) (maxL := 2) (ret := (some .boolean)) (by decide +kernel) rfl (Nat.le_of_ble_eq_true rfl) ?_
  intro p e s m below meth c A ls hx hb hr hlocks hml hown hts hK hP hD hA hS hX hl
  have hl : lv_has ls 2 [(0, .ref h), (1, .int a0)] := hl
  have hown : s.vm.findClass RX6 = some m.cls := hown
  have hk61 := hts (.fieldLink RX6 61 "LoomDesk" "breakTold" "Z") (by decide +kernel)
  have hk65 := hts (.fieldLink RX6 65 "LoomDesk" "power" "Z") (by decide +kernel)
  refine lv_aload_n hx hb dX6_weft_0 rfl (lv_at hl 0 rfl) ?_
  refine jx_get (v := .int (I 11)) hx hb hts iX6_weft_6 hown hK hP 0 rfl rfl 11 (by decide) hk65 rfl rfl dX6_weft_1 ?_
  refine lv_if_ne (tgt := 9) hx hb dX6_weft_4 (by decide) (fun c_1 => ?_) (fun c_1 => ?_)
  · skip
    refine lv_aload_n hx hb dX6_weft_9 rfl (lv_at hl 0 rfl) ?_
    refine lv_iload_n hx hb dX6_weft_10 rfl (lv_at hl 1 rfl) ?_
    refine jx_put (w2 := [(h, .inr (6, (oX6 R (upd I 10 a0) L)))]) hx hb hts iX6_weft_6 tyX6 tyX6_ok nmX6 hown hK hP hD hS 0 rfl rfl 10 (by decide) hk61 rfl rfl (jx_bn ha) (jx_bf ha) (Nat.le_of_ble_eq_true rfl) dX6_weft_11 rfl (fun H locs hP hD hS => ?_)
    refine lv_iconst (v := 1) hx hb dX6_weft_14 (by decide) ?_
    have hq : (sX6_weft I a0) = ((1 : Int32), (upd I 10 a0)) := by unfold sX6_weft; exact (if_neg c_1)
    exact jx_zret () hx hb hr hlocks hK hP hD hS (by rw [hq]) (by rw [hq]) (Or.inr rfl) dX6_weft_15
  · skip
    refine lv_iconst (v := 0) hx hb dX6_weft_7 (by decide) ?_
    have hq : (sX6_weft I a0) = ((0 : Int32), I) := by unfold sX6_weft; exact (if_pos c_1)
    exact jx_zret () hx hb hr hlocks hK hP hD hS (by rw [hq]) (by rw [hq]) (Or.inl rfl) dX6_weft_8

def sX6_jump (I : Nat → Int32) (L : Nat → Int64) (I1 : Nat → Int32) (L4 : Nat → Int64) (a0 : Int64) : Int32 × (Nat → Int64) := (if (I 11) = 0 then ((0 : Int32), L) else (if (sX4_stands I1) = 0 then ((0 : Int32), L) else (if (480 : Int32) ≤ (I1 0) then ((0 : Int32), L) else (if (sX1_has L4 a0) = 0 then ((0 : Int32), L) else ((1 : Int32), (vp_updL L 5 a0))))))
set_option maxRecDepth 20000 in
theorem iX6_jump_4 : ∀ w ∈ wsX40, w ∈ wsX6_jump := by decide +kernel
set_option maxRecDepth 20000 in
theorem iX6_jump_6 : ∀ w ∈ wsX60, w ∈ wsX6_jump := by decide +kernel
set_option maxHeartbeats 4000000 in
set_option maxRecDepth 100000 in
theorem kX6_jump (l : Launch) (D : va_G) (cI cJ cZ cD : ClassId) (tA : Nat) (h : Nat) (R : Nat → Nat) (I : Nat → Int32) (L : Nat → Int64) (R1 : Nat → Nat) (I1 : Nat → Int32) (L1 : Nat → Int64) (R4 : Nat → Nat) (I4 : Nat → Int32) (L4 : Nat → Int64) (a0 : Int64) : jx_M l yX6_jump wsX6_jump ({ frames := 1, cells := 0, slots := 0, locals := 22 }) D (jT cI cJ cZ cD) tA [.ref h, .long a0] [(h, .inr (6, (oX6 R I L))), ((R 1), .inr (4, (oX4 R1 I1 L1))), ((R 4), .inr (1, (oX1 R4 I4 L4)))] (jx_Qi D (jT cI cJ cZ cD) (fun r (_ : Unit) => r = (sX6_jump I L I1 L4 a0).1) (fun _ => [(h, .inr (6, (oX6 R I (sX6_jump I L I1 L4 a0).2))), ((R 1), .inr (4, (oX4 R1 I1 L1))), ((R 4), .inr (1, (oX1 R4 I4 L4)))])) := by
  refine jx_of (cc := cX6_jump) (maxL := 3) (ret := (some .boolean)) (by decide +kernel) rfl (Nat.le_of_ble_eq_true rfl) ?_
  intro p e s m below meth c A ls hx hb hr hlocks hml hown hts hK hP hD hA hS hX hl
  have hl : lv_has ls 3 [(0, .ref h), (1, .long a0)] := hl
  have hown : s.vm.findClass RX6 = some m.cls := hown
  have hk19 := hts (.fieldLink RX6 19 "LoomDesk" "shaft" "LLoomDesk$Shaft;") (by decide +kernel)
  have hk40 := hts (.fieldLink RX6 40 "LoomDesk" "pattern" "LLoomDesk$Pattern;") (by decide +kernel)
  have hk44 := hts (.fieldLink RX6 44 "LoomDesk" "place" "J") (by decide +kernel)
  have hk65 := hts (.fieldLink RX6 65 "LoomDesk" "power" "Z") (by decide +kernel)
  refine lv_aload_n hx hb dX6_jump_0 rfl (lv_at hl 0 rfl) ?_
  refine jx_get (v := .int (I 11)) hx hb hts iX6_jump_6 hown hK hP 0 rfl rfl 11 (by decide) hk65 rfl rfl dX6_jump_1 ?_
  refine lv_if_eq (tgt := 41) hx hb dX6_jump_4 (by decide) (fun c_1 => ?_) (fun c_1 => ?_)
  · skip
    refine lv_iconst (v := 0) hx hb dX6_jump_41 (by decide) ?_
    have hq : (sX6_jump I L I1 L4 a0) = ((0 : Int32), L) := by unfold sX6_jump; exact (if_pos c_1)
    exact jx_zret () hx hb hr hlocks hK hP hD hS (by rw [hq]) (by rw [hq]) (Or.inl rfl) dX6_jump_42
  · skip
    refine lv_aload_n hx hb dX6_jump_7 rfl (lv_at hl 0 rfl) ?_
    refine jx_get (v := .ref (R 1)) hx hb hts iX6_jump_6 hown hK hP 0 rfl rfl 1 (by decide) hk19 rfl rfl dX6_jump_8 ?_
    refine jx_pcalli (wc := [((R 1), .inr (4, (oX4 R1 I1 L1)))]) hP hD hS hA [1] rfl (by decide) (fun hPc hDc hF => jx_runVs (As := []) (rest := []) (n := 0) (ci := 4) (q0 := 0) hx hb hml hown hts hK hX hS hl.1 (kX4_stands l D cI cJ cZ cD tA (R 1) R1 I1 L1) gX6_jump_X4_stands rfl rfl rfl (by decide +kernel) ⟨Nat.le_of_ble_eq_true rfl, Nat.le_of_ble_eq_true rfl⟩ rfl rfl rfl rfl rfl (Nat.le_of_ble_eq_true rfl) dX6_jump_11 ⟨Nat.zero_le _, Nat.zero_le _⟩ hPc hDc hF) (fun r_2 er_2 => ?_)
    have er_2 : r_2 = (sX4_stands I1) := er_2
    refine lv_if_eq (tgt := 41) hx hb dX6_jump_14 (by decide) (fun c_3 => ?_) (fun c_3 => ?_)
    · skip
      refine lv_iconst (v := 0) hx hb dX6_jump_41 (by decide) ?_
      have hq : (sX6_jump I L I1 L4 a0) = ((0 : Int32), L) := by clear hP hD hl; have z_ := er_2.symm; clear er_2; subst z_; unfold sX6_jump; exact (if_neg c_1).trans ((if_pos c_3))
      exact jx_zret () hx hb hr hlocks hK hP hD hS (by rw [hq]) (by rw [hq]) (Or.inl rfl) dX6_jump_42
    · skip
      refine lv_aload_n hx hb dX6_jump_17 rfl (lv_at hl 0 rfl) ?_
      refine jx_get (v := .ref (R 1)) hx hb hts iX6_jump_6 hown hK hP 0 rfl rfl 1 (by decide) hk19 rfl rfl dX6_jump_18 ?_
      refine jx_getN (host := RX6) (v := .int (I1 0)) hx hb hts iX6_jump_4 hown hK hP 1 rfl rfl 0 (by decide) hX (by decide +kernel) rfl rfl dX6_jump_21 ?_
      refine lv_sipush (v := 480) hx hb dX6_jump_24 (by decide) ?_
      refine lv_icmp_ge (tgt := 41) hx hb dX6_jump_27 (by decide) (fun c_4 => ?_) (fun c_4 => ?_)
      · skip
        refine lv_iconst (v := 0) hx hb dX6_jump_41 (by decide) ?_
        have hq : (sX6_jump I L I1 L4 a0) = ((0 : Int32), L) := by clear hP hD hl; have z_ := er_2.symm; clear er_2; subst z_; unfold sX6_jump; exact (if_neg c_1).trans ((if_neg c_3).trans ((if_pos c_4)))
        exact jx_zret () hx hb hr hlocks hK hP hD hS (by rw [hq]) (by rw [hq]) (Or.inl rfl) dX6_jump_42
      · skip
        refine lv_aload_n hx hb dX6_jump_30 rfl (lv_at hl 0 rfl) ?_
        refine jx_get (v := .ref (R 4)) hx hb hts iX6_jump_6 hown hK hP 0 rfl rfl 4 (by decide) hk40 rfl rfl dX6_jump_31 ?_
        refine lv_lload_n hx hb dX6_jump_34 rfl (lv_at hl 1 rfl) ?_
        refine jx_pcalli (wc := [((R 4), .inr (1, (oX1 R4 I4 L4)))]) hP hD hS hA [2] rfl (by decide) (fun hPc hDc hF => jx_runVs (As := [.long a0]) (rest := []) (n := 1) (ci := 1) (q0 := 0) hx hb hml hown hts hK hX hS hl.1 (kX1_has l D cI cJ cZ cD tA (R 4) R4 I4 L4 a0) gX6_jump_X1_has rfl rfl rfl (by decide +kernel) ⟨Nat.le_of_ble_eq_true rfl, Nat.le_of_ble_eq_true rfl⟩ rfl rfl rfl rfl rfl (Nat.le_of_ble_eq_true rfl) dX6_jump_35 ⟨Nat.zero_le _, Nat.zero_le _⟩ hPc hDc hF) (fun r_5 er_5 => ?_)
        have er_5 : r_5 = (sX1_has L4 a0) := er_5
        refine lv_if_ne (tgt := 43) hx hb dX6_jump_38 (by decide) (fun c_6 => ?_) (fun c_6 => ?_)
        · skip
          refine lv_aload_n hx hb dX6_jump_43 rfl (lv_at hl 0 rfl) ?_
          refine lv_lload_n hx hb dX6_jump_44 rfl (lv_at hl 1 rfl) ?_
          refine jx_put (w2 := [(h, .inr (6, (oX6 R I (vp_updL L 5 a0)))), ((R 1), .inr (4, (oX4 R1 I1 L1))), ((R 4), .inr (1, (oX1 R4 I4 L4)))]) hx hb hts iX6_jump_6 tyX6 tyX6_ok nmX6 hown hK hP hD hS 0 rfl rfl 5 (by decide) hk44 rfl rfl rfl rfl (Nat.le_of_ble_eq_true rfl) dX6_jump_45 rfl (fun H locs hP hD hS => ?_)
          refine lv_iconst (v := 1) hx hb dX6_jump_48 (by decide) ?_
          have hq : (sX6_jump I L I1 L4 a0) = ((1 : Int32), (vp_updL L 5 a0)) := by clear hP hD hl; have z_ := er_5.symm; clear er_5; subst z_; have z_ := er_2.symm; clear er_2; subst z_; unfold sX6_jump; exact (if_neg c_1).trans ((if_neg c_3).trans ((if_neg c_4).trans ((if_neg c_6))))
          exact jx_zret () hx hb hr hlocks hK hP hD hS (by rw [hq]) (by rw [hq]) (Or.inr rfl) dX6_jump_49
        · skip
          refine lv_iconst (v := 0) hx hb dX6_jump_41 (by decide) ?_
          have hq : (sX6_jump I L I1 L4 a0) = ((0 : Int32), L) := by clear hP hD hl; have z_ := er_5.symm; clear er_5; subst z_; have z_ := er_2.symm; clear er_2; subst z_; unfold sX6_jump; exact (if_neg c_1).trans ((if_neg c_3).trans ((if_neg c_4).trans ((if_pos c_6))))
          exact jx_zret () hx hb hr hlocks hK hP hD hS (by rw [hq]) (by rw [hq]) (Or.inl rfl) dX6_jump_42

def sX6_speed (I1 : Nat → Int32) (a0 : UInt32) : Int32 × (Nat → Int32) := (if (sX4_stands I1) = 0 then ((0 : Int32), I1) else (if (Op.cmpValue (FP.fcmp a0 (1114636288 : UInt32)) .l) < 0 then ((0 : Int32), I1) else (if (Op.cmpValue (FP.fcmp a0 (1133903872 : UInt32)) .g) ≤ 0 then ((1 : Int32), (upd I1 3 (FP.f2i (FP.fmul a0 (1090519040 : UInt32))))) else ((0 : Int32), I1))))
set_option maxRecDepth 20000 in
theorem iX6_speed_4 : ∀ w ∈ wsX40, w ∈ wsX6_speed := by decide +kernel
set_option maxRecDepth 20000 in
theorem iX6_speed_6 : ∀ w ∈ wsX60, w ∈ wsX6_speed := by decide +kernel
set_option maxHeartbeats 4000000 in
set_option maxRecDepth 100000 in
theorem kX6_speed (l : Launch) (D : va_G) (cI cJ cZ cD : ClassId) (tA : Nat) (h : Nat) (R : Nat → Nat) (I : Nat → Int32) (L : Nat → Int64) (R1 : Nat → Nat) (I1 : Nat → Int32) (L1 : Nat → Int64) (a0 : UInt32) (hn : vf_n32 (FP.fmul a0 1090519040)) : jx_M l yX6_speed wsX6_speed ({ frames := 1, cells := 0, slots := 0, locals := 20 }) D (jT cI cJ cZ cD) tA [.ref h, .float a0] [(h, .inr (6, (oX6 R I L))), ((R 1), .inr (4, (oX4 R1 I1 L1)))] (jx_Qi D (jT cI cJ cZ cD) (fun r (_ : Unit) => r = (sX6_speed I1 a0).1) (fun _ => [(h, .inr (6, (oX6 R I L))), ((R 1), .inr (4, (oX4 R1 (sX6_speed I1 a0).2 L1)))])) := by
  refine jx_of (cc := cX6_speed) (maxL := 2) (ret := (some .boolean)) (by decide +kernel) rfl (Nat.le_of_ble_eq_true rfl) ?_
  intro p e s m below meth c A ls hx hb hr hlocks hml hown hts hK hP hD hA hS hX hl
  have hl : lv_has ls 2 [(0, .ref h), (1, .float a0)] := hl
  have hown : s.vm.findClass RX6 = some m.cls := hown
  have hk19 := hts (.fieldLink RX6 19 "LoomDesk" "shaft" "LLoomDesk$Shaft;") (by decide +kernel)
  refine lv_aload_n hx hb dX6_speed_0 rfl (lv_at hl 0 rfl) ?_
  refine jx_get (v := .ref (R 1)) hx hb hts iX6_speed_6 hown hK hP 0 rfl rfl 1 (by decide) hk19 rfl rfl dX6_speed_1 ?_
  refine jx_pcalli (wc := [((R 1), .inr (4, (oX4 R1 I1 L1)))]) hP hD hS hA [1] rfl (by decide) (fun hPc hDc hF => jx_runVs (As := []) (rest := []) (n := 0) (ci := 4) (q0 := 0) hx hb hml hown hts hK hX hS hl.1 (kX4_stands l D cI cJ cZ cD tA (R 1) R1 I1 L1) gX6_speed_X4_stands rfl rfl rfl (by decide +kernel) ⟨Nat.le_of_ble_eq_true rfl, Nat.le_of_ble_eq_true rfl⟩ rfl rfl rfl rfl rfl (Nat.le_of_ble_eq_true rfl) dX6_speed_4 ⟨Nat.zero_le _, Nat.zero_le _⟩ hPc hDc hF) (fun r_1 er_1 => ?_)
  have er_1 : r_1 = (sX4_stands I1) := er_1
  refine lv_if_eq (tgt := 24) hx hb dX6_speed_7 (by decide) (fun c_2 => ?_) (fun c_2 => ?_)
  · skip
    refine lv_iconst (v := 0) hx hb dX6_speed_24 (by decide) ?_
    have hq : (sX6_speed I1 a0) = ((0 : Int32), I1) := by clear hP hD hl; have z_ := er_1.symm; clear er_1; subst z_; unfold sX6_speed; exact (if_pos c_2)
    exact jx_zret () hx hb hr hlocks hK hP hD hS (by rw [hq]) (by rw [hq]) (Or.inl rfl) dX6_speed_25
  · skip
    refine lv_fload_n hx hb dX6_speed_10 rfl (lv_at hl 1 rfl) ?_
    refine lv_ldcf hx hb hown (hts (.constantFloat RX6 149 (1114636288)) (by decide +kernel)) dX6_speed_11 ?_
    refine lv_fcmp hx hb dX6_speed_13 ?_
    refine lv_if_lt (tgt := 24) hx hb dX6_speed_14 (by decide) (fun c_3 => ?_) (fun c_3 => ?_)
    · skip
      refine lv_iconst (v := 0) hx hb dX6_speed_24 (by decide) ?_
      have hq : (sX6_speed I1 a0) = ((0 : Int32), I1) := by clear hP hD hl; have z_ := er_1.symm; clear er_1; subst z_; unfold sX6_speed; exact (if_neg c_2).trans ((if_pos c_3))
      exact jx_zret () hx hb hr hlocks hK hP hD hS (by rw [hq]) (by rw [hq]) (Or.inl rfl) dX6_speed_25
    · skip
      refine lv_fload_n hx hb dX6_speed_17 rfl (lv_at hl 1 rfl) ?_
      refine lv_ldcf hx hb hown (hts (.constantFloat RX6 150 (1133903872)) (by decide +kernel)) dX6_speed_18 ?_
      refine lv_fcmp hx hb dX6_speed_20 ?_
      refine lv_if_le (tgt := 26) hx hb dX6_speed_21 (by decide) (fun c_4 => ?_) (fun c_4 => ?_)
      · skip
        refine lv_aload_n hx hb dX6_speed_26 rfl (lv_at hl 0 rfl) ?_
        refine jx_get (v := .ref (R 1)) hx hb hts iX6_speed_6 hown hK hP 0 rfl rfl 1 (by decide) hk19 rfl rfl dX6_speed_27 ?_
        refine lv_fload_n hx hb dX6_speed_30 rfl (lv_at hl 1 rfl) ?_
        refine lv_ldcf hx hb hown (hts (.constantFloat RX6 151 (1090519040)) (by decide +kernel)) dX6_speed_31 ?_
        refine lv_fmul hx hb dX6_speed_33 hn ?_
        refine lv_f2i hx hb dX6_speed_34 ?_
        refine lv_topi (fun v_5 ev_5 => ?_)
        refine jx_putN (host := RX6) (w2 := [(h, .inr (6, (oX6 R I L))), ((R 1), .inr (4, (oX4 R1 (upd I1 3 v_5) L1)))]) hx hb hts iX6_speed_4 tyX4 tyX4_ok nmX4 hown hK hP hD hS 1 rfl rfl 3 (by decide) hX (by decide +kernel) rfl rfl rfl rfl (Nat.le_of_ble_eq_true rfl) dX6_speed_35 rfl (fun H locs hP hD hS => ?_)
        refine lv_iconst (v := 1) hx hb dX6_speed_38 (by decide) ?_
        have hq : (sX6_speed I1 a0) = ((1 : Int32), (upd I1 3 v_5)) := by clear hP hD hl; have z_ := ev_5.symm; clear ev_5; subst z_; have z_ := er_1.symm; clear er_1; subst z_; unfold sX6_speed; exact (if_neg c_2).trans ((if_neg c_3).trans ((if_pos c_4)))
        exact jx_zret () hx hb hr hlocks hK hP hD hS (by rw [hq]) (by rw [hq]) (Or.inr rfl) dX6_speed_39
      · skip
        refine lv_iconst (v := 0) hx hb dX6_speed_24 (by decide) ?_
        have hq : (sX6_speed I1 a0) = ((0 : Int32), I1) := by clear hP hD hl; have z_ := er_1.symm; clear er_1; subst z_; unfold sX6_speed; exact (if_neg c_2).trans ((if_neg c_3).trans ((if_neg c_4)))
        exact jx_zret () hx hb hr hlocks hK hP hD hS (by rw [hq]) (by rw [hq]) (Or.inl rfl) dX6_speed_25

def sX6_cut (I : Nat → Int32) (I1 : Nat → Int32) (I2 : Nat → Int32) (I3 : Nat → Int32) (f3_0 : Nat → Int32) (a0 : Int32) : Int32 × (Nat → Int32) × (Nat → Int32) × (Nat → Int32) × (Nat → Int32) := (if (I 11) = 0 then ((0 : Int32), I, I1, I2, f3_0) else (if a0 = 0 then ((1 : Int32), (upd (upd (upd (upd (upd I 6 (0 : Int32)) 7 (0 : Int32)) 8 (0 : Int32)) 10 (0 : Int32)) 11 (0 : Int32)), (sX4_stand I1), (sX0_forget I2), f3_0) else ((1 : Int32), (upd (upd (upd (upd (upd I 6 (0 : Int32)) 7 (0 : Int32)) 8 (0 : Int32)) 10 (0 : Int32)) 11 (0 : Int32)), (sX4_stand I1), (sX0_forget I2), (sX3_spoilLast I3 f3_0))))
set_option maxRecDepth 20000 in
theorem iX6_cut_6 : ∀ w ∈ wsX60, w ∈ wsX6_cut := by decide +kernel
set_option maxHeartbeats 4000000 in
set_option maxRecDepth 100000 in
theorem kX6_cut (l : Launch) (D : va_G) (cI cJ cZ cD : ClassId) (tA : Nat) (h : Nat) (R : Nat → Nat) (I : Nat → Int32) (L : Nat → Int64) (R1 : Nat → Nat) (I1 : Nat → Int32) (L1 : Nat → Int64) (R2 : Nat → Nat) (I2 : Nat → Int32) (L2 : Nat → Int64) (f2_0 : Nat → Int32) (f2_1 : Nat → Int32) (f2_2 : Nat → Int32) (R3 : Nat → Nat) (I3 : Nat → Int32) (L3 : Nat → Int64) (f3_0 : Nat → Int32) (f3_1 : Nat → Int64) (a0 : Int32) (hI : I3 2 = 0 ∨ I3 2 = 1) : jx_M l yX6_cut wsX6_cut ({ frames := 1, cells := 0, slots := 0, locals := 20 }) D (jT cI cJ cZ cD) tA [.ref h, .int a0] [(h, .inr (6, (oX6 R I L))), ((R 1), .inr (4, (oX4 R1 I1 L1))), ((R 2), .inr (0, (oX0 R2 I2 L2))), ((R2 0), .inl (cI, 64, .inl f2_0)), ((R2 1), .inl (cI, 64, .inl f2_1)), ((R2 2), .inl (cI, 64, .inl f2_2)), ((R 3), .inr (3, (oX3 R3 I3 L3))), ((R3 0), .inl (cI, 2, .inl f3_0)), ((R3 1), .inl (cJ, 2, .inr (.inl f3_1)))] (jx_Qi D (jT cI cJ cZ cD) (fun r (_ : Unit) => r = (sX6_cut I I1 I2 I3 f3_0 a0).1) (fun _ => [(h, .inr (6, (oX6 R (sX6_cut I I1 I2 I3 f3_0 a0).2.1 L))), ((R 1), .inr (4, (oX4 R1 (sX6_cut I I1 I2 I3 f3_0 a0).2.2.1 L1))), ((R 2), .inr (0, (oX0 R2 (sX6_cut I I1 I2 I3 f3_0 a0).2.2.2.1 L2))), ((R2 0), .inl (cI, 64, .inl f2_0)), ((R2 1), .inl (cI, 64, .inl f2_1)), ((R2 2), .inl (cI, 64, .inl f2_2)), ((R 3), .inr (3, (oX3 R3 I3 L3))), ((R3 0), .inl (cI, 2, .inl ((sX6_cut I I1 I2 I3 f3_0 a0).2.2.2.2))), ((R3 1), .inl (cJ, 2, .inr (.inl f3_1)))])) := by
  refine jx_of (cc := cX6_cut) (maxL := 2) (ret := (some .boolean)) (by decide +kernel) rfl (Nat.le_of_ble_eq_true rfl) ?_
  intro p e s m below meth c A ls hx hb hr hlocks hml hown hts hK hP hD hA hS hX hl
  have hl : lv_has ls 2 [(0, .ref h), (1, .int a0)] := hl
  have hown : s.vm.findClass RX6 = some m.cls := hown
  have hk19 := hts (.fieldLink RX6 19 "LoomDesk" "shaft" "LLoomDesk$Shaft;") (by decide +kernel)
  have hk26 := hts (.fieldLink RX6 26 "LoomDesk" "woven" "LLoomDesk$Cloth;") (by decide +kernel)
  have hk33 := hts (.fieldLink RX6 33 "LoomDesk" "records" "LLoomDesk$Records;") (by decide +kernel)
  have hk48 := hts (.fieldLink RX6 48 "LoomDesk" "shed" "I") (by decide +kernel)
  have hk52 := hts (.fieldLink RX6 52 "LoomDesk" "carrier" "I") (by decide +kernel)
  have hk55 := hts (.fieldLink RX6 55 "LoomDesk" "pick" "I") (by decide +kernel)
  have hk61 := hts (.fieldLink RX6 61 "LoomDesk" "breakTold" "Z") (by decide +kernel)
  have hk65 := hts (.fieldLink RX6 65 "LoomDesk" "power" "Z") (by decide +kernel)
  refine lv_aload_n hx hb dX6_cut_0 rfl (lv_at hl 0 rfl) ?_
  refine jx_get (v := .int (I 11)) hx hb hts iX6_cut_6 hown hK hP 0 rfl rfl 11 (by decide) hk65 rfl rfl dX6_cut_1 ?_
  refine lv_if_ne (tgt := 9) hx hb dX6_cut_4 (by decide) (fun c_1 => ?_) (fun c_1 => ?_)
  · skip
    refine lv_aload_n hx hb dX6_cut_9 rfl (lv_at hl 0 rfl) ?_
    refine lv_iconst (v := 0) hx hb dX6_cut_10 (by decide) ?_
    refine jx_put (w2 := [(h, .inr (6, (oX6 R (upd I 11 (0 : Int32)) L))), ((R 1), .inr (4, (oX4 R1 I1 L1))), ((R 2), .inr (0, (oX0 R2 I2 L2))), ((R2 0), .inl (cI, 64, .inl f2_0)), ((R2 1), .inl (cI, 64, .inl f2_1)), ((R2 2), .inl (cI, 64, .inl f2_2)), ((R 3), .inr (3, (oX3 R3 I3 L3))), ((R3 0), .inl (cI, 2, .inl f3_0)), ((R3 1), .inl (cJ, 2, .inr (.inl f3_1)))]) hx hb hts iX6_cut_6 tyX6 tyX6_ok nmX6 hown hK hP hD hS 0 rfl rfl 11 (by decide) hk65 rfl rfl (jx_bn (Or.inl rfl)) (jx_bf (Or.inl rfl)) (Nat.le_of_ble_eq_true rfl) dX6_cut_11 rfl (fun H locs hP hD hS => ?_)
    refine lv_aload_n hx hb dX6_cut_14 rfl (lv_at hl 0 rfl) ?_
    refine jx_get (v := .ref (R 1)) hx hb hts iX6_cut_6 hown hK hP 0 rfl rfl 1 (by decide) hk19 rfl rfl dX6_cut_15 ?_
    refine jx_callv (wc := [((R 1), .inr (4, (oX4 R1 I1 L1)))]) (wr := [(h, .inr (6, (oX6 R (upd I 11 (0 : Int32)) L))), ((R 2), .inr (0, (oX0 R2 I2 L2))), ((R2 0), .inl (cI, 64, .inl f2_0)), ((R2 1), .inl (cI, 64, .inl f2_1)), ((R2 2), .inl (cI, 64, .inl f2_2)), ((R 3), .inr (3, (oX3 R3 I3 L3))), ((R3 0), .inl (cI, 2, .inl f3_0)), ((R3 1), .inl (cJ, 2, .inr (.inl f3_1)))]) hP hD hS hA hK [1] [0, 2, 3, 4, 5, 6, 7, 8] rfl rfl (by decide) (by decide) (by decide) (fun hPc hDc hF => jx_runV (As := []) (rest := []) (n := 0) (ci := 4) (q0 := 0) hx hb hml hown hts hK hX hS hl.1 (kX4_stand l D cI cJ cZ cD tA (R 1) R1 I1 L1) gX6_cut_X4_stand rfl rfl rfl (by decide +kernel) ⟨Nat.le_of_ble_eq_true rfl, Nat.le_of_ble_eq_true rfl⟩ rfl rfl rfl rfl rfl (Nat.le_of_ble_eq_true rfl) dX6_cut_18 ⟨Nat.zero_le _, Nat.zero_le _⟩ hPc hDc hF) (fun u H locs hw hP hD hS => ?_)
    obtain ⟨I_3, eI_3⟩ : ∃ x : (Nat → Int32), x = (sX4_stand I1) := ⟨_, rfl⟩
    have hP : va_P D vwCl [(h, .inr (6, (oX6 R (upd I 11 (0 : Int32)) L))), ((R 2), .inr (0, (oX0 R2 I2 L2))), ((R2 0), .inl (cI, 64, .inl f2_0)), ((R2 1), .inl (cI, 64, .inl f2_1)), ((R2 2), .inl (cI, 64, .inl f2_2)), ((R 3), .inr (3, (oX3 R3 I3 L3))), ((R3 0), .inl (cI, 2, .inl f3_0)), ((R3 1), .inl (cJ, 2, .inr (.inl f3_1))), ((R 1), .inr (4, (oX4 R1 I_3 L1)))] H := by rw [eI_3]; exact hP
    have hD : va_D A [(h, .inr (6, (oX6 R (upd I 11 (0 : Int32)) L))), ((R 2), .inr (0, (oX0 R2 I2 L2))), ((R2 0), .inl (cI, 64, .inl f2_0)), ((R2 1), .inl (cI, 64, .inl f2_1)), ((R2 2), .inl (cI, 64, .inl f2_2)), ((R 3), .inr (3, (oX3 R3 I3 L3))), ((R3 0), .inl (cI, 2, .inl f3_0)), ((R3 1), .inl (cJ, 2, .inr (.inl f3_1))), ((R 1), .inr (4, (oX4 R1 I_3 L1)))] := by rw [eI_3]; exact hD
    refine lv_aload_n hx hb dX6_cut_21 rfl (lv_at hl 0 rfl) ?_
    refine lv_iconst (v := 0) hx hb dX6_cut_22 (by decide) ?_
    refine jx_put (w2 := [(h, .inr (6, (oX6 R (upd (upd I 8 (0 : Int32)) 11 (0 : Int32)) L))), ((R 2), .inr (0, (oX0 R2 I2 L2))), ((R2 0), .inl (cI, 64, .inl f2_0)), ((R2 1), .inl (cI, 64, .inl f2_1)), ((R2 2), .inl (cI, 64, .inl f2_2)), ((R 3), .inr (3, (oX3 R3 I3 L3))), ((R3 0), .inl (cI, 2, .inl f3_0)), ((R3 1), .inl (cJ, 2, .inr (.inl f3_1))), ((R 1), .inr (4, (oX4 R1 I_3 L1)))]) hx hb hts iX6_cut_6 tyX6 tyX6_ok nmX6 hown hK hP hD hS 0 rfl rfl 8 (by decide) hk55 rfl rfl rfl rfl (Nat.le_of_ble_eq_true rfl) dX6_cut_23 rfl (fun H locs hP hD hS => ?_)
    refine lv_aload_n hx hb dX6_cut_26 rfl (lv_at hl 0 rfl) ?_
    refine lv_iconst (v := 0) hx hb dX6_cut_27 (by decide) ?_
    refine jx_put (w2 := [(h, .inr (6, (oX6 R (upd (upd (upd I 8 (0 : Int32)) 10 (0 : Int32)) 11 (0 : Int32)) L))), ((R 2), .inr (0, (oX0 R2 I2 L2))), ((R2 0), .inl (cI, 64, .inl f2_0)), ((R2 1), .inl (cI, 64, .inl f2_1)), ((R2 2), .inl (cI, 64, .inl f2_2)), ((R 3), .inr (3, (oX3 R3 I3 L3))), ((R3 0), .inl (cI, 2, .inl f3_0)), ((R3 1), .inl (cJ, 2, .inr (.inl f3_1))), ((R 1), .inr (4, (oX4 R1 I_3 L1)))]) hx hb hts iX6_cut_6 tyX6 tyX6_ok nmX6 hown hK hP hD hS 0 rfl rfl 10 (by decide) hk61 rfl rfl (jx_bn (Or.inl rfl)) (jx_bf (Or.inl rfl)) (Nat.le_of_ble_eq_true rfl) dX6_cut_28 rfl (fun H locs hP hD hS => ?_)
    refine lv_aload_n hx hb dX6_cut_31 rfl (lv_at hl 0 rfl) ?_
    refine lv_iconst (v := 0) hx hb dX6_cut_32 (by decide) ?_
    refine jx_put (w2 := [(h, .inr (6, (oX6 R (upd (upd (upd (upd I 6 (0 : Int32)) 8 (0 : Int32)) 10 (0 : Int32)) 11 (0 : Int32)) L))), ((R 2), .inr (0, (oX0 R2 I2 L2))), ((R2 0), .inl (cI, 64, .inl f2_0)), ((R2 1), .inl (cI, 64, .inl f2_1)), ((R2 2), .inl (cI, 64, .inl f2_2)), ((R 3), .inr (3, (oX3 R3 I3 L3))), ((R3 0), .inl (cI, 2, .inl f3_0)), ((R3 1), .inl (cJ, 2, .inr (.inl f3_1))), ((R 1), .inr (4, (oX4 R1 I_3 L1)))]) hx hb hts iX6_cut_6 tyX6 tyX6_ok nmX6 hown hK hP hD hS 0 rfl rfl 6 (by decide) hk48 rfl rfl rfl rfl (Nat.le_of_ble_eq_true rfl) dX6_cut_33 rfl (fun H locs hP hD hS => ?_)
    refine lv_aload_n hx hb dX6_cut_36 rfl (lv_at hl 0 rfl) ?_
    refine lv_iconst (v := 0) hx hb dX6_cut_37 (by decide) ?_
    refine jx_put (w2 := [(h, .inr (6, (oX6 R (upd (upd (upd (upd (upd I 6 (0 : Int32)) 7 (0 : Int32)) 8 (0 : Int32)) 10 (0 : Int32)) 11 (0 : Int32)) L))), ((R 2), .inr (0, (oX0 R2 I2 L2))), ((R2 0), .inl (cI, 64, .inl f2_0)), ((R2 1), .inl (cI, 64, .inl f2_1)), ((R2 2), .inl (cI, 64, .inl f2_2)), ((R 3), .inr (3, (oX3 R3 I3 L3))), ((R3 0), .inl (cI, 2, .inl f3_0)), ((R3 1), .inl (cJ, 2, .inr (.inl f3_1))), ((R 1), .inr (4, (oX4 R1 I_3 L1)))]) hx hb hts iX6_cut_6 tyX6 tyX6_ok nmX6 hown hK hP hD hS 0 rfl rfl 7 (by decide) hk52 rfl rfl rfl rfl (Nat.le_of_ble_eq_true rfl) dX6_cut_38 rfl (fun H locs hP hD hS => ?_)
    refine lv_aload_n hx hb dX6_cut_41 rfl (lv_at hl 0 rfl) ?_
    refine jx_get (v := .ref (R 2)) hx hb hts iX6_cut_6 hown hK hP 0 rfl rfl 2 (by decide) hk26 rfl rfl dX6_cut_42 ?_
    refine jx_callv (wc := [((R 2), .inr (0, (oX0 R2 I2 L2)))]) (wr := [(h, .inr (6, (oX6 R (upd (upd (upd (upd (upd I 6 (0 : Int32)) 7 (0 : Int32)) 8 (0 : Int32)) 10 (0 : Int32)) 11 (0 : Int32)) L))), ((R2 0), .inl (cI, 64, .inl f2_0)), ((R2 1), .inl (cI, 64, .inl f2_1)), ((R2 2), .inl (cI, 64, .inl f2_2)), ((R 3), .inr (3, (oX3 R3 I3 L3))), ((R3 0), .inl (cI, 2, .inl f3_0)), ((R3 1), .inl (cJ, 2, .inr (.inl f3_1))), ((R 1), .inr (4, (oX4 R1 I_3 L1)))]) hP hD hS hA hK [1] [0, 2, 3, 4, 5, 6, 7, 8] rfl rfl (by decide) (by decide) (by decide) (fun hPc hDc hF => jx_runV (As := []) (rest := []) (n := 0) (ci := 0) (q0 := 0) hx hb hml hown hts hK hX hS hl.1 (kX0_forget l D cI cJ cZ cD tA (R 2) R2 I2 L2) gX6_cut_X0_forget rfl rfl rfl (by decide +kernel) ⟨Nat.le_of_ble_eq_true rfl, Nat.le_of_ble_eq_true rfl⟩ rfl rfl rfl rfl rfl (Nat.le_of_ble_eq_true rfl) dX6_cut_45 ⟨Nat.zero_le _, Nat.zero_le _⟩ hPc hDc hF) (fun u H locs hw hP hD hS => ?_)
    obtain ⟨I_5, eI_5⟩ : ∃ x : (Nat → Int32), x = (sX0_forget I2) := ⟨_, rfl⟩
    have hP : va_P D vwCl [(h, .inr (6, (oX6 R (upd (upd (upd (upd (upd I 6 (0 : Int32)) 7 (0 : Int32)) 8 (0 : Int32)) 10 (0 : Int32)) 11 (0 : Int32)) L))), ((R2 0), .inl (cI, 64, .inl f2_0)), ((R2 1), .inl (cI, 64, .inl f2_1)), ((R2 2), .inl (cI, 64, .inl f2_2)), ((R 3), .inr (3, (oX3 R3 I3 L3))), ((R3 0), .inl (cI, 2, .inl f3_0)), ((R3 1), .inl (cJ, 2, .inr (.inl f3_1))), ((R 1), .inr (4, (oX4 R1 I_3 L1))), ((R 2), .inr (0, (oX0 R2 I_5 L2)))] H := by rw [eI_5]; exact hP
    have hD : va_D A [(h, .inr (6, (oX6 R (upd (upd (upd (upd (upd I 6 (0 : Int32)) 7 (0 : Int32)) 8 (0 : Int32)) 10 (0 : Int32)) 11 (0 : Int32)) L))), ((R2 0), .inl (cI, 64, .inl f2_0)), ((R2 1), .inl (cI, 64, .inl f2_1)), ((R2 2), .inl (cI, 64, .inl f2_2)), ((R 3), .inr (3, (oX3 R3 I3 L3))), ((R3 0), .inl (cI, 2, .inl f3_0)), ((R3 1), .inl (cJ, 2, .inr (.inl f3_1))), ((R 1), .inr (4, (oX4 R1 I_3 L1))), ((R 2), .inr (0, (oX0 R2 I_5 L2)))] := by rw [eI_5]; exact hD
    refine lv_iload_n hx hb dX6_cut_48 rfl (lv_at hl 1 rfl) ?_
    refine lv_if_eq (tgt := 59) hx hb dX6_cut_49 (by decide) (fun c_6 => ?_) (fun c_6 => ?_)
    · skip
      refine lv_iconst (v := 1) hx hb dX6_cut_59 (by decide) ?_
      have hq : (sX6_cut I I1 I2 I3 f3_0 a0) = ((1 : Int32), (upd (upd (upd (upd (upd I 6 (0 : Int32)) 7 (0 : Int32)) 8 (0 : Int32)) 10 (0 : Int32)) 11 (0 : Int32)), I_3, I_5, f3_0) := by clear hP hD hl; have z_ := eI_5.symm; clear eI_5; subst z_; have z_ := eI_3.symm; clear eI_3; subst z_; unfold sX6_cut; exact (if_neg c_1).trans ((if_pos c_6))
      exact jx_zret () hx hb hr hlocks hK (hP.sub (ws' := [(h, .inr (6, (oX6 R (upd (upd (upd (upd (upd I 6 (0 : Int32)) 7 (0 : Int32)) 8 (0 : Int32)) 10 (0 : Int32)) 11 (0 : Int32)) L))), ((R 1), .inr (4, (oX4 R1 I_3 L1))), ((R 2), .inr (0, (oX0 R2 I_5 L2))), ((R2 0), .inl (cI, 64, .inl f2_0)), ((R2 1), .inl (cI, 64, .inl f2_1)), ((R2 2), .inl (cI, 64, .inl f2_2)), ((R 3), .inr (3, (oX3 R3 I3 L3))), ((R3 0), .inl (cI, 2, .inl f3_0)), ((R3 1), .inl (cJ, 2, .inr (.inl f3_1)))]) [0, 7, 8, 1, 2, 3, 4, 5, 6] rfl) (hD.sub (ws' := [(h, .inr (6, (oX6 R (upd (upd (upd (upd (upd I 6 (0 : Int32)) 7 (0 : Int32)) 8 (0 : Int32)) 10 (0 : Int32)) 11 (0 : Int32)) L))), ((R 1), .inr (4, (oX4 R1 I_3 L1))), ((R 2), .inr (0, (oX0 R2 I_5 L2))), ((R2 0), .inl (cI, 64, .inl f2_0)), ((R2 1), .inl (cI, 64, .inl f2_1)), ((R2 2), .inl (cI, 64, .inl f2_2)), ((R 3), .inr (3, (oX3 R3 I3 L3))), ((R3 0), .inl (cI, 2, .inl f3_0)), ((R3 1), .inl (cJ, 2, .inr (.inl f3_1)))]) [0, 7, 8, 1, 2, 3, 4, 5, 6] (by decide) rfl) hS (by rw [hq]) (by rw [hq]) (Or.inr rfl) dX6_cut_60
    · skip
      refine lv_aload_n hx hb dX6_cut_52 rfl (lv_at hl 0 rfl) ?_
      refine jx_get (v := .ref (R 3)) hx hb hts iX6_cut_6 hown hK hP 0 rfl rfl 3 (by decide) hk33 rfl rfl dX6_cut_53 ?_
      refine jx_callv (wc := [((R 3), .inr (3, (oX3 R3 I3 L3))), ((R3 0), .inl (cI, 2, .inl f3_0)), ((R3 1), .inl (cJ, 2, .inr (.inl f3_1)))]) (wr := [(h, .inr (6, (oX6 R (upd (upd (upd (upd (upd I 6 (0 : Int32)) 7 (0 : Int32)) 8 (0 : Int32)) 10 (0 : Int32)) 11 (0 : Int32)) L))), ((R2 0), .inl (cI, 64, .inl f2_0)), ((R2 1), .inl (cI, 64, .inl f2_1)), ((R2 2), .inl (cI, 64, .inl f2_2)), ((R 1), .inr (4, (oX4 R1 I_3 L1))), ((R 2), .inr (0, (oX0 R2 I_5 L2)))]) hP hD hS hA hK [4, 5, 6] [0, 1, 2, 3, 7, 8] rfl rfl (by decide) (by decide) (by decide) (fun hPc hDc hF => jx_runV (As := []) (rest := []) (n := 0) (ci := 3) (q0 := 0) hx hb hml hown hts hK hX hS hl.1 (kX3_spoilLast l D cI cJ cZ cD tA (R 3) R3 I3 L3 f3_0 f3_1 hI) gX6_cut_X3_spoilLast rfl rfl rfl (by decide +kernel) ⟨Nat.le_of_ble_eq_true rfl, Nat.le_of_ble_eq_true rfl⟩ rfl rfl rfl rfl rfl (Nat.le_of_ble_eq_true rfl) dX6_cut_56 ⟨Nat.zero_le _, Nat.zero_le _⟩ hPc hDc hF) (fun u H locs hw hP hD hS => ?_)
      obtain ⟨f_8, ef_8⟩ : ∃ x : (Nat → Int32), x = (sX3_spoilLast I3 f3_0) := ⟨_, rfl⟩
      have hP : va_P D vwCl [(h, .inr (6, (oX6 R (upd (upd (upd (upd (upd I 6 (0 : Int32)) 7 (0 : Int32)) 8 (0 : Int32)) 10 (0 : Int32)) 11 (0 : Int32)) L))), ((R2 0), .inl (cI, 64, .inl f2_0)), ((R2 1), .inl (cI, 64, .inl f2_1)), ((R2 2), .inl (cI, 64, .inl f2_2)), ((R 1), .inr (4, (oX4 R1 I_3 L1))), ((R 2), .inr (0, (oX0 R2 I_5 L2))), ((R 3), .inr (3, (oX3 R3 I3 L3))), ((R3 0), .inl (cI, 2, .inl f_8)), ((R3 1), .inl (cJ, 2, .inr (.inl f3_1)))] H := by rw [ef_8]; exact hP
      have hD : va_D A [(h, .inr (6, (oX6 R (upd (upd (upd (upd (upd I 6 (0 : Int32)) 7 (0 : Int32)) 8 (0 : Int32)) 10 (0 : Int32)) 11 (0 : Int32)) L))), ((R2 0), .inl (cI, 64, .inl f2_0)), ((R2 1), .inl (cI, 64, .inl f2_1)), ((R2 2), .inl (cI, 64, .inl f2_2)), ((R 1), .inr (4, (oX4 R1 I_3 L1))), ((R 2), .inr (0, (oX0 R2 I_5 L2))), ((R 3), .inr (3, (oX3 R3 I3 L3))), ((R3 0), .inl (cI, 2, .inl f_8)), ((R3 1), .inl (cJ, 2, .inr (.inl f3_1)))] := by rw [ef_8]; exact hD
      refine lv_iconst (v := 1) hx hb dX6_cut_59 (by decide) ?_
      have hq : (sX6_cut I I1 I2 I3 f3_0 a0) = ((1 : Int32), (upd (upd (upd (upd (upd I 6 (0 : Int32)) 7 (0 : Int32)) 8 (0 : Int32)) 10 (0 : Int32)) 11 (0 : Int32)), I_3, I_5, f_8) := by clear hP hD hl; have z_ := ef_8.symm; clear ef_8; subst z_; have z_ := eI_5.symm; clear eI_5; subst z_; have z_ := eI_3.symm; clear eI_3; subst z_; unfold sX6_cut; exact (if_neg c_1).trans ((if_neg c_6))
      exact jx_zret () hx hb hr hlocks hK (hP.sub (ws' := [(h, .inr (6, (oX6 R (upd (upd (upd (upd (upd I 6 (0 : Int32)) 7 (0 : Int32)) 8 (0 : Int32)) 10 (0 : Int32)) 11 (0 : Int32)) L))), ((R 1), .inr (4, (oX4 R1 I_3 L1))), ((R 2), .inr (0, (oX0 R2 I_5 L2))), ((R2 0), .inl (cI, 64, .inl f2_0)), ((R2 1), .inl (cI, 64, .inl f2_1)), ((R2 2), .inl (cI, 64, .inl f2_2)), ((R 3), .inr (3, (oX3 R3 I3 L3))), ((R3 0), .inl (cI, 2, .inl f_8)), ((R3 1), .inl (cJ, 2, .inr (.inl f3_1)))]) [0, 4, 5, 1, 2, 3, 6, 7, 8] rfl) (hD.sub (ws' := [(h, .inr (6, (oX6 R (upd (upd (upd (upd (upd I 6 (0 : Int32)) 7 (0 : Int32)) 8 (0 : Int32)) 10 (0 : Int32)) 11 (0 : Int32)) L))), ((R 1), .inr (4, (oX4 R1 I_3 L1))), ((R 2), .inr (0, (oX0 R2 I_5 L2))), ((R2 0), .inl (cI, 64, .inl f2_0)), ((R2 1), .inl (cI, 64, .inl f2_1)), ((R2 2), .inl (cI, 64, .inl f2_2)), ((R 3), .inr (3, (oX3 R3 I3 L3))), ((R3 0), .inl (cI, 2, .inl f_8)), ((R3 1), .inl (cJ, 2, .inr (.inl f3_1)))]) [0, 4, 5, 1, 2, 3, 6, 7, 8] (by decide) rfl) hS (by rw [hq]) (by rw [hq]) (Or.inr rfl) dX6_cut_60
  · skip
    refine lv_iconst (v := 0) hx hb dX6_cut_7 (by decide) ?_
    have hq : (sX6_cut I I1 I2 I3 f3_0 a0) = ((0 : Int32), I, I1, I2, f3_0) := by unfold sX6_cut; exact (if_pos c_1)
    exact jx_zret () hx hb hr hlocks hK hP hD hS (by rw [hq]) (by rw [hq]) (Or.inl rfl) dX6_cut_8

def sX6_recall (I1 : Nat → Int32) (I3 : Nat → Int32) (f3_0 : Nat → Int32) (f3_1 : Nat → Int64) (L4 : Nat → Int64) : Int64 := (if (sX3_newest I3 f3_0) = (-1 : Int32) then (0 : Int64) else (if (if (sX3_markOf f3_0 (sX3_newest I3 f3_0)) = (300 : Int32) then (if (4800 : Int32) ≤ (I1 0) then (0 : Int32) else (1 : Int32)) else (0 : Int32)) = 0 then (sX3_placeOf f3_1 (sX3_newest I3 f3_0)) else (sX1_behind L4 (sX3_placeOf f3_1 (sX3_newest I3 f3_0)))))
set_option maxRecDepth 20000 in
theorem iX6_recall_4 : ∀ w ∈ wsX40, w ∈ wsX6_recall := by decide +kernel
set_option maxRecDepth 20000 in
theorem iX6_recall_6 : ∀ w ∈ wsX60, w ∈ wsX6_recall := by decide +kernel
set_option maxHeartbeats 4000000 in
set_option maxRecDepth 100000 in
theorem kX6_recall (l : Launch) (D : va_G) (cI cJ cZ cD : ClassId) (tA : Nat) (h : Nat) (R : Nat → Nat) (I : Nat → Int32) (L : Nat → Int64) (R1 : Nat → Nat) (I1 : Nat → Int32) (L1 : Nat → Int64) (R3 : Nat → Nat) (I3 : Nat → Int32) (L3 : Nat → Int64) (f3_0 : Nat → Int32) (f3_1 : Nat → Int64) (R4 : Nat → Nat) (I4 : Nat → Int32) (L4 : Nat → Int64) (hI : I3 2 = 0 ∨ I3 2 = 1) : jx_Ms l yX6_recall wsX6_recall ({ frames := 2, cells := 0, slots := 0, locals := 44 }) D (jT cI cJ cZ cD) tA [.ref h] [(h, .inr (6, (oX6 R I L))), ((R 1), .inr (4, (oX4 R1 I1 L1))), ((R 3), .inr (3, (oX3 R3 I3 L3))), ((R3 0), .inl (cI, 2, .inl f3_0)), ((R3 1), .inl (cJ, 2, .inr (.inl f3_1))), ((R 4), .inr (1, (oX1 R4 I4 L4)))] (vp_Sl (fun r => r = (sX6_recall I1 I3 f3_0 f3_1 L4))) := by
  refine jx_ofs (cc := cX6_recall) (maxL := 5) (ret := (some .long)) (by decide +kernel) rfl (Nat.le_of_ble_eq_true rfl) ?_
  intro p e s m below meth c A ls hx hb hr hlocks hml hown hts hK hP hD hA hS hX hl
  have hl : lv_has ls 5 [(0, .ref h)] := hl
  have hown : s.vm.findClass RX6 = some m.cls := hown
  have hk19 := hts (.fieldLink RX6 19 "LoomDesk" "shaft" "LLoomDesk$Shaft;") (by decide +kernel)
  have hk33 := hts (.fieldLink RX6 33 "LoomDesk" "records" "LLoomDesk$Records;") (by decide +kernel)
  have hk40 := hts (.fieldLink RX6 40 "LoomDesk" "pattern" "LLoomDesk$Pattern;") (by decide +kernel)
  refine lv_aload_n hx hb dX6_recall_0 rfl (lv_at hl 0 rfl) ?_
  refine jx_get (v := .ref (R 3)) hx hb hts iX6_recall_6 hown hK hP 0 rfl rfl 3 (by decide) hk33 rfl rfl dX6_recall_1 ?_
  refine jx_pcalli (wc := [((R 3), .inr (3, (oX3 R3 I3 L3))), ((R3 0), .inl (cI, 2, .inl f3_0)), ((R3 1), .inl (cJ, 2, .inr (.inl f3_1)))]) hP hD hS hA [2, 3, 4] rfl (by decide) (fun hPc hDc hF => jx_runVs (As := []) (rest := []) (n := 0) (ci := 3) (q0 := 0) hx hb hml hown hts hK hX hS hl.1 (kX3_newest l D cI cJ cZ cD tA (R 3) R3 I3 L3 f3_0 f3_1 hI) gX6_recall_X3_newest rfl rfl rfl (by decide +kernel) ⟨Nat.le_of_ble_eq_true rfl, Nat.le_of_ble_eq_true rfl⟩ rfl rfl rfl rfl rfl (Nat.le_of_ble_eq_true rfl) dX6_recall_4 ⟨Nat.zero_le _, Nat.zero_le _⟩ hPc hDc hF) (fun r_1 er_1 => ?_)
  have er_1 : r_1 = (sX3_newest I3 f3_0) := er_1
  refine lv_istore_n (lv' := [(1, .int r_1), (0, .ref h)]) hx hb dX6_recall_7 rfl hl (by decide) rfl (fun ls hl => ?_)
  refine lv_iload_n hx hb dX6_recall_8 rfl (lv_at hl 0 rfl) ?_
  refine lv_iconst (v := -1) hx hb dX6_recall_9 (by decide) ?_
  refine lv_icmp_ne (tgt := 15) hx hb dX6_recall_10 (by decide) (fun c_2 => ?_) (fun c_2 => ?_)
  · skip
    refine lv_aload_n hx hb dX6_recall_15 rfl (lv_at hl 1 rfl) ?_
    refine jx_get (v := .ref (R 3)) hx hb hts iX6_recall_6 hown hK hP 0 rfl rfl 3 (by decide) hk33 rfl rfl dX6_recall_16 ?_
    refine lv_iload_n hx hb dX6_recall_19 rfl (lv_at hl 0 rfl) ?_
    refine jx_pcalll (wc := [((R 3), .inr (3, (oX3 R3 I3 L3))), ((R3 0), .inl (cI, 2, .inl f3_0)), ((R3 1), .inl (cJ, 2, .inr (.inl f3_1)))]) hP hD hS hA [2, 3, 4] rfl (by decide) (fun hPc hDc hF => jx_runVs (As := [.int r_1]) (rest := []) (n := 1) (ci := 3) (q0 := 0) hx hb hml hown hts hK hX hS hl.1 (kX3_placeOf l D cI cJ cZ cD tA (R 3) R3 I3 L3 f3_0 f3_1 r_1) gX6_recall_X3_placeOf rfl rfl rfl (by decide +kernel) ⟨Nat.le_of_ble_eq_true rfl, Nat.le_of_ble_eq_true rfl⟩ rfl rfl rfl rfl rfl (Nat.le_of_ble_eq_true rfl) dX6_recall_20 ⟨Nat.zero_le _, Nat.zero_le _⟩ hPc hDc hF) (fun r_3 er_3 => ?_)
    have er_3 : r_3 = (sX3_placeOf f3_1 r_1) := er_3
    refine lv_lstore_n (lv' := [(2, .long r_3), (1, .int r_1), (0, .ref h)]) hx hb dX6_recall_23 rfl hl (by decide) rfl (fun ls hl => ?_)
    refine lv_aload_n hx hb dX6_recall_24 rfl (lv_at hl 2 rfl) ?_
    refine jx_get (v := .ref (R 3)) hx hb hts iX6_recall_6 hown hK hP 0 rfl rfl 3 (by decide) hk33 rfl rfl dX6_recall_25 ?_
    refine lv_iload_n hx hb dX6_recall_28 rfl (lv_at hl 1 rfl) ?_
    refine jx_pcalli (wc := [((R 3), .inr (3, (oX3 R3 I3 L3))), ((R3 0), .inl (cI, 2, .inl f3_0)), ((R3 1), .inl (cJ, 2, .inr (.inl f3_1)))]) hP hD hS hA [2, 3, 4] rfl (by decide) (fun hPc hDc hF => jx_runVs (As := [.int r_1]) (rest := []) (n := 1) (ci := 3) (q0 := 0) hx hb hml hown hts hK hX hS hl.1 (kX3_markOf l D cI cJ cZ cD tA (R 3) R3 I3 L3 f3_0 f3_1 r_1) gX6_recall_X3_markOf rfl rfl rfl (by decide +kernel) ⟨Nat.le_of_ble_eq_true rfl, Nat.le_of_ble_eq_true rfl⟩ rfl rfl rfl rfl rfl (Nat.le_of_ble_eq_true rfl) dX6_recall_29 ⟨Nat.zero_le _, Nat.zero_le _⟩ hPc hDc hF) (fun r_4 er_4 => ?_)
    have er_4 : r_4 = (sX3_markOf f3_0 r_1) := er_4
    refine lv_sipush (v := 300) hx hb dX6_recall_32 (by decide) ?_
    refine jx_joini (J := 56) (v := (if r_4 = (300 : Int32) then (if (4800 : Int32) ≤ (I1 0) then (0 : Int32) else (1 : Int32)) else (0 : Int32))) (rest := []) (fun key => ?_) ?_
    · skip
      refine lv_icmp_ne (tgt := 55) hx hb dX6_recall_35 (by decide) (fun c_5 => ?_) (fun c_5 => ?_)
      · skip
        refine lv_iconst (v := 0) hx hb dX6_recall_55 (by decide) ?_
        rw [if_neg c_5] at key
        exact key
      · skip
        refine lv_aload_n hx hb dX6_recall_38 rfl (lv_at hl 2 rfl) ?_
        refine jx_get (v := .ref (R 1)) hx hb hts iX6_recall_6 hown hK hP 0 rfl rfl 1 (by decide) hk19 rfl rfl dX6_recall_39 ?_
        refine jx_getN (host := RX6) (v := .int (I1 0)) hx hb hts iX6_recall_4 hown hK hP 1 rfl rfl 0 (by decide) hX (by decide +kernel) rfl rfl dX6_recall_42 ?_
        refine lv_sipush (v := 4800) hx hb dX6_recall_45 (by decide) ?_
        refine lv_icmp_ge (tgt := 55) hx hb dX6_recall_48 (by decide) (fun c_6 => ?_) (fun c_6 => ?_)
        · skip
          refine lv_iconst (v := 0) hx hb dX6_recall_55 (by decide) ?_
          rw [if_pos c_5, if_pos c_6] at key
          exact key
        · skip
          refine lv_iconst (v := 1) hx hb dX6_recall_51 (by decide) ?_
          refine lv_goto (tgt := 56) hx hb dX6_recall_52 (by decide) ?_
          rw [if_pos c_5, if_neg c_6] at key
          exact key
    refine lv_topi (fun v_7 ev_7 => ?_)
    refine lv_istore (lv' := [(4, .int v_7), (2, .long r_3), (1, .int r_1), (0, .ref h)]) hx hb dX6_recall_56 hl (by decide) rfl (fun ls hl => ?_)
    refine lv_iload hx hb dX6_recall_58 (lv_at hl 0 rfl) ?_
    refine lv_if_eq (tgt := 74) hx hb dX6_recall_60 (by decide) (fun c_8 => ?_) (fun c_8 => ?_)
    · skip
      refine lv_lload_n hx hb dX6_recall_74 rfl (lv_at hl 1 rfl) ?_
      have hq : (sX6_recall I1 I3 f3_0 f3_1 L4) = r_3 := by clear hP hD hl; have z_ := ev_7.symm; clear ev_7; subst z_; have z_ := er_4.symm; clear er_4; subst z_; have z_ := er_3.symm; clear er_3; subst z_; have z_ := er_1.symm; clear er_1; subst z_; unfold sX6_recall; exact (if_neg c_2).trans ((if_pos c_8))
      exact jx_slret hx hb hr hlocks hq.symm dX6_recall_75
    · skip
      refine lv_aload_n hx hb dX6_recall_63 rfl (lv_at hl 3 rfl) ?_
      refine jx_get (v := .ref (R 4)) hx hb hts iX6_recall_6 hown hK hP 0 rfl rfl 4 (by decide) hk40 rfl rfl dX6_recall_64 ?_
      refine lv_lload_n hx hb dX6_recall_67 rfl (lv_at hl 1 rfl) ?_
      refine jx_pcalll (wc := [((R 4), .inr (1, (oX1 R4 I4 L4)))]) hP hD hS hA [5] rfl (by decide) (fun hPc hDc hF => jx_runVs (As := [.long r_3]) (rest := []) (n := 1) (ci := 1) (q0 := 0) hx hb hml hown hts hK hX hS hl.1 (kX1_behind l D cI cJ cZ cD tA (R 4) R4 I4 L4 r_3) gX6_recall_X1_behind rfl rfl rfl (by decide +kernel) ⟨Nat.le_of_ble_eq_true rfl, Nat.le_of_ble_eq_true rfl⟩ rfl rfl rfl rfl rfl (Nat.le_of_ble_eq_true rfl) dX6_recall_68 ⟨Nat.zero_le _, Nat.zero_le _⟩ hPc hDc hF) (fun r_9 er_9 => ?_)
      have er_9 : r_9 = (sX1_behind L4 r_3) := er_9
      refine lv_goto (tgt := 75) hx hb dX6_recall_71 (by decide) ?_
      have hq : (sX6_recall I1 I3 f3_0 f3_1 L4) = r_9 := by clear hP hD hl; have z_ := er_9.symm; clear er_9; subst z_; have z_ := ev_7.symm; clear ev_7; subst z_; have z_ := er_4.symm; clear er_4; subst z_; have z_ := er_3.symm; clear er_3; subst z_; have z_ := er_1.symm; clear er_1; subst z_; unfold sX6_recall; exact (if_neg c_2).trans ((if_neg c_8))
      exact jx_slret hx hb hr hlocks hq.symm dX6_recall_75
  · skip
    refine lv_lconst (v := 0) hx hb dX6_recall_13 (by decide) ?_
    have hq : (sX6_recall I1 I3 f3_0 f3_1 L4) = (0 : Int64) := by clear hP hD hl; have z_ := er_1.symm; clear er_1; subst z_; unfold sX6_recall; exact (if_pos c_2)
    exact jx_slret hx hb hr hlocks hq.symm dX6_recall_14

def sX6_on (I : Nat → Int32) (L : Nat → Int64) (I1 : Nat → Int32) (I3 : Nat → Int32) (f3_0 : Nat → Int32) (f3_1 : Nat → Int64) (L4 : Nat → Int64) : Int32 × (Nat → Int32) × (Nat → Int64) := (if (I 11) = 0 then (if (I1 0) < (1440 : Int32) then ((1 : Int32), (upd (upd I 8 (0 : Int32)) 11 (1 : Int32)), (vp_updL L 5 (sX6_recall I1 I3 f3_0 f3_1 L4))) else ((1 : Int32), (upd (upd I 8 (1 : Int32)) 11 (1 : Int32)), (vp_updL L 5 (sX6_recall I1 I3 f3_0 f3_1 L4)))) else ((0 : Int32), I, L))
set_option maxRecDepth 20000 in
theorem iX6_on_4 : ∀ w ∈ wsX40, w ∈ wsX6_on := by decide +kernel
set_option maxRecDepth 20000 in
theorem iX6_on_6 : ∀ w ∈ wsX60, w ∈ wsX6_on := by decide +kernel
set_option maxHeartbeats 4000000 in
set_option maxRecDepth 100000 in
theorem kX6_on (l : Launch) (D : va_G) (cI cJ cZ cD : ClassId) (tA : Nat) (h : Nat) (R : Nat → Nat) (I : Nat → Int32) (L : Nat → Int64) (R1 : Nat → Nat) (I1 : Nat → Int32) (L1 : Nat → Int64) (R3 : Nat → Nat) (I3 : Nat → Int32) (L3 : Nat → Int64) (f3_0 : Nat → Int32) (f3_1 : Nat → Int64) (R4 : Nat → Nat) (I4 : Nat → Int32) (L4 : Nat → Int64) (hI : I3 2 = 0 ∨ I3 2 = 1) : jx_M l yX6_on wsX6_on ({ frames := 3, cells := 0, slots := 0, locals := 68 }) D (jT cI cJ cZ cD) tA [.ref h] [(h, .inr (6, (oX6 R I L))), ((R 1), .inr (4, (oX4 R1 I1 L1))), ((R 3), .inr (3, (oX3 R3 I3 L3))), ((R3 0), .inl (cI, 2, .inl f3_0)), ((R3 1), .inl (cJ, 2, .inr (.inl f3_1))), ((R 4), .inr (1, (oX1 R4 I4 L4)))] (jx_Qi D (jT cI cJ cZ cD) (fun r (_ : Unit) => r = (sX6_on I L I1 I3 f3_0 f3_1 L4).1) (fun _ => [(h, .inr (6, (oX6 R (sX6_on I L I1 I3 f3_0 f3_1 L4).2.1 (sX6_on I L I1 I3 f3_0 f3_1 L4).2.2))), ((R 1), .inr (4, (oX4 R1 I1 L1))), ((R 3), .inr (3, (oX3 R3 I3 L3))), ((R3 0), .inl (cI, 2, .inl f3_0)), ((R3 1), .inl (cJ, 2, .inr (.inl f3_1))), ((R 4), .inr (1, (oX1 R4 I4 L4)))])) := by
  refine jx_of (cc := cX6_on) (maxL := 1) (ret := (some .boolean)) (by decide +kernel) rfl (Nat.le_of_ble_eq_true rfl) ?_
  intro p e s m below meth c A ls hx hb hr hlocks hml hown hts hK hP hD hA hS hX hl
  have hl : lv_has ls 1 [(0, .ref h)] := hl
  have hown : s.vm.findClass RX6 = some m.cls := hown
  have hk19 := hts (.fieldLink RX6 19 "LoomDesk" "shaft" "LLoomDesk$Shaft;") (by decide +kernel)
  have hk44 := hts (.fieldLink RX6 44 "LoomDesk" "place" "J") (by decide +kernel)
  have hk55 := hts (.fieldLink RX6 55 "LoomDesk" "pick" "I") (by decide +kernel)
  have hk65 := hts (.fieldLink RX6 65 "LoomDesk" "power" "Z") (by decide +kernel)
  refine lv_aload_n hx hb dX6_on_0 rfl (lv_at hl 0 rfl) ?_
  refine jx_get (v := .int (I 11)) hx hb hts iX6_on_6 hown hK hP 0 rfl rfl 11 (by decide) hk65 rfl rfl dX6_on_1 ?_
  refine lv_if_eq (tgt := 9) hx hb dX6_on_4 (by decide) (fun c_1 => ?_) (fun c_1 => ?_)
  · skip
    refine lv_aload_n hx hb dX6_on_9 rfl (lv_at hl 0 rfl) ?_
    refine lv_iconst (v := 1) hx hb dX6_on_10 (by decide) ?_
    refine jx_put (w2 := [(h, .inr (6, (oX6 R (upd I 11 (1 : Int32)) L))), ((R 1), .inr (4, (oX4 R1 I1 L1))), ((R 3), .inr (3, (oX3 R3 I3 L3))), ((R3 0), .inl (cI, 2, .inl f3_0)), ((R3 1), .inl (cJ, 2, .inr (.inl f3_1))), ((R 4), .inr (1, (oX1 R4 I4 L4)))]) hx hb hts iX6_on_6 tyX6 tyX6_ok nmX6 hown hK hP hD hS 0 rfl rfl 11 (by decide) hk65 rfl rfl (jx_bn (Or.inr rfl)) (jx_bf (Or.inr rfl)) (Nat.le_of_ble_eq_true rfl) dX6_on_11 rfl (fun H locs hP hD hS => ?_)
    refine lv_aload_n hx hb dX6_on_14 rfl (lv_at hl 0 rfl) ?_
    refine lv_aload_n hx hb dX6_on_15 rfl (lv_at hl 0 rfl) ?_
    refine jx_pcalll (wc := [(h, .inr (6, (oX6 R (upd I 11 (1 : Int32)) L))), ((R 1), .inr (4, (oX4 R1 I1 L1))), ((R 3), .inr (3, (oX3 R3 I3 L3))), ((R3 0), .inl (cI, 2, .inl f3_0)), ((R3 1), .inl (cJ, 2, .inr (.inl f3_1))), ((R 4), .inr (1, (oX1 R4 I4 L4)))]) hP hD hS hA [0, 1, 2, 3, 4, 5] rfl (by decide) (fun hPc hDc hF => jx_runVs (As := []) (rest := [.ref h]) (n := 0) (ci := 6) (q0 := 0) hx hb hml hown hts hK hX hS hl.1 (kX6_recall l D cI cJ cZ cD tA h R (upd I 11 (1 : Int32)) L R1 I1 L1 R3 I3 L3 f3_0 f3_1 R4 I4 L4 hI) gX6_on_X6_recall rfl rfl rfl (by decide +kernel) ⟨Nat.le_of_ble_eq_true rfl, Nat.le_of_ble_eq_true rfl⟩ rfl rfl rfl rfl rfl (Nat.le_of_ble_eq_true rfl) dX6_on_16 ⟨Nat.zero_le _, Nat.zero_le _⟩ hPc hDc hF) (fun r_2 er_2 => ?_)
    have er_2 : r_2 = (sX6_recall I1 I3 f3_0 f3_1 L4) := er_2
    refine jx_put (w2 := [(h, .inr (6, (oX6 R (upd I 11 (1 : Int32)) (vp_updL L 5 r_2)))), ((R 1), .inr (4, (oX4 R1 I1 L1))), ((R 3), .inr (3, (oX3 R3 I3 L3))), ((R3 0), .inl (cI, 2, .inl f3_0)), ((R3 1), .inl (cJ, 2, .inr (.inl f3_1))), ((R 4), .inr (1, (oX1 R4 I4 L4)))]) hx hb hts iX6_on_6 tyX6 tyX6_ok nmX6 hown hK hP hD hS 0 rfl rfl 5 (by decide) hk44 rfl rfl rfl rfl (Nat.le_of_ble_eq_true rfl) dX6_on_19 rfl (fun H locs hP hD hS => ?_)
    refine lv_aload_n hx hb dX6_on_22 rfl (lv_at hl 0 rfl) ?_
    refine lv_aload_n hx hb dX6_on_23 rfl (lv_at hl 0 rfl) ?_
    refine jx_get (v := .ref (R 1)) hx hb hts iX6_on_6 hown hK hP 0 rfl rfl 1 (by decide) hk19 rfl rfl dX6_on_24 ?_
    refine jx_getN (host := RX6) (v := .int (I1 0)) hx hb hts iX6_on_4 hown hK hP 1 rfl rfl 0 (by decide) hX (by decide +kernel) rfl rfl dX6_on_27 ?_
    refine lv_sipush (v := 1440) hx hb dX6_on_30 (by decide) ?_
    refine lv_icmp_lt (tgt := 40) hx hb dX6_on_33 (by decide) (fun c_3 => ?_) (fun c_3 => ?_)
    · skip
      refine lv_iconst (v := 0) hx hb dX6_on_40 (by decide) ?_
      refine jx_put (w2 := [(h, .inr (6, (oX6 R (upd (upd I 8 (0 : Int32)) 11 (1 : Int32)) (vp_updL L 5 r_2)))), ((R 1), .inr (4, (oX4 R1 I1 L1))), ((R 3), .inr (3, (oX3 R3 I3 L3))), ((R3 0), .inl (cI, 2, .inl f3_0)), ((R3 1), .inl (cJ, 2, .inr (.inl f3_1))), ((R 4), .inr (1, (oX1 R4 I4 L4)))]) hx hb hts iX6_on_6 tyX6 tyX6_ok nmX6 hown hK hP hD hS 0 rfl rfl 8 (by decide) hk55 rfl rfl rfl rfl (Nat.le_of_ble_eq_true rfl) dX6_on_41 rfl (fun H locs hP hD hS => ?_)
      refine lv_iconst (v := 1) hx hb dX6_on_44 (by decide) ?_
      have hq : (sX6_on I L I1 I3 f3_0 f3_1 L4) = ((1 : Int32), (upd (upd I 8 (0 : Int32)) 11 (1 : Int32)), (vp_updL L 5 r_2)) := by clear hP hD hl; have z_ := er_2.symm; clear er_2; subst z_; unfold sX6_on; exact (if_pos c_1).trans ((if_pos c_3))
      exact jx_zret () hx hb hr hlocks hK hP hD hS (by rw [hq]) (by rw [hq]) (Or.inr rfl) dX6_on_45
    · skip
      refine lv_iconst (v := 1) hx hb dX6_on_36 (by decide) ?_
      refine lv_goto (tgt := 41) hx hb dX6_on_37 (by decide) ?_
      refine jx_put (w2 := [(h, .inr (6, (oX6 R (upd (upd I 8 (1 : Int32)) 11 (1 : Int32)) (vp_updL L 5 r_2)))), ((R 1), .inr (4, (oX4 R1 I1 L1))), ((R 3), .inr (3, (oX3 R3 I3 L3))), ((R3 0), .inl (cI, 2, .inl f3_0)), ((R3 1), .inl (cJ, 2, .inr (.inl f3_1))), ((R 4), .inr (1, (oX1 R4 I4 L4)))]) hx hb hts iX6_on_6 tyX6 tyX6_ok nmX6 hown hK hP hD hS 0 rfl rfl 8 (by decide) hk55 rfl rfl rfl rfl (Nat.le_of_ble_eq_true rfl) dX6_on_41 rfl (fun H locs hP hD hS => ?_)
      refine lv_iconst (v := 1) hx hb dX6_on_44 (by decide) ?_
      have hq : (sX6_on I L I1 I3 f3_0 f3_1 L4) = ((1 : Int32), (upd (upd I 8 (1 : Int32)) 11 (1 : Int32)), (vp_updL L 5 r_2)) := by clear hP hD hl; have z_ := er_2.symm; clear er_2; subst z_; unfold sX6_on; exact (if_pos c_1).trans ((if_neg c_3))
      exact jx_zret () hx hb hr hlocks hK hP hD hS (by rw [hq]) (by rw [hq]) (Or.inr rfl) dX6_on_45
  · skip
    refine lv_iconst (v := 0) hx hb dX6_on_7 (by decide) ?_
    have hq : (sX6_on I L I1 I3 f3_0 f3_1 L4) = ((0 : Int32), I, L) := by unfold sX6_on; exact (if_neg c_1)
    exact jx_zret () hx hb hr hlocks hK hP hD hS (by rw [hq]) (by rw [hq]) (Or.inl rfl) dX6_on_8

def sX6_angle (I1 : Nat → Int32) : UInt64 := (sX6_degrees (I1 0))
set_option maxRecDepth 20000 in
theorem iX6_angle_4 : ∀ w ∈ wsX40, w ∈ wsX6_angle := by decide +kernel
set_option maxRecDepth 20000 in
theorem iX6_angle_6 : ∀ w ∈ wsX60, w ∈ wsX6_angle := by decide +kernel
set_option maxHeartbeats 4000000 in
set_option maxRecDepth 100000 in
theorem kX6_angle (l : Launch) (D : va_G) (cI cJ cZ cD : ClassId) (tA : Nat) (h : Nat) (R : Nat → Nat) (I : Nat → Int32) (L : Nat → Int64) (R1 : Nat → Nat) (I1 : Nat → Int32) (L1 : Nat → Int64) (hn : ∀ x : Int32, vf_n64 (FP.ddiv (FP.i2d x) 4625196817309499392)) : jx_Ms l yX6_angle wsX6_angle ({ frames := 1, cells := 0, slots := 0, locals := 20 }) D (jT cI cJ cZ cD) tA [.ref h] [(h, .inr (6, (oX6 R I L))), ((R 1), .inr (4, (oX4 R1 I1 L1)))] (vp_Sd (fun r => r = (sX6_angle I1))) := by
  refine jx_ofs (cc := cX6_angle) (maxL := 1) (ret := (some .double)) (by decide +kernel) rfl (Nat.le_of_ble_eq_true rfl) ?_
  intro p e s m below meth c A ls hx hb hr hlocks hml hown hts hK hP hD hA hS hX hl
  have hl : lv_has ls 1 [(0, .ref h)] := hl
  have hown : s.vm.findClass RX6 = some m.cls := hown
  have hk19 := hts (.fieldLink RX6 19 "LoomDesk" "shaft" "LLoomDesk$Shaft;") (by decide +kernel)
  refine lv_aload_n hx hb dX6_angle_0 rfl (lv_at hl 0 rfl) ?_
  refine jx_get (v := .ref (R 1)) hx hb hts iX6_angle_6 hown hK hP 0 rfl rfl 1 (by decide) hk19 rfl rfl dX6_angle_1 ?_
  refine jx_getN (host := RX6) (v := .int (I1 0)) hx hb hts iX6_angle_4 hown hK hP 1 rfl rfl 0 (by decide) hX (by decide +kernel) rfl rfl dX6_angle_4 ?_
  refine jx_pcalld (wc := []) hP hD hS hA [] rfl (by decide) (fun hPc hDc hF => jx_runSs (As := [.int (I1 0)]) (rest := []) (n := 1) hx hb hml hown hts hK hX hS hl.1 (kX6_degrees l D cI cJ cZ cD tA (I1 0) hn) gX6_angle_X6_degrees rfl rfl rfl (by decide +kernel) ⟨Nat.le_of_ble_eq_true rfl, Nat.le_of_ble_eq_true rfl⟩ rfl rfl (Nat.le_of_ble_eq_true rfl) dX6_angle_7 ⟨Nat.zero_le _, Nat.zero_le _⟩ hPc hDc hF) (fun r_1 er_1 => ?_)
  have er_1 : r_1 = (sX6_degrees (I1 0)) := er_1
  have hq : (sX6_angle I1) = r_1 := by clear hP hD hl; have z_ := er_1.symm; clear er_1; subst z_; rfl
  exact jx_sdret hx hb hr hlocks hq.symm dX6_angle_10

def sX6_left (I1 : Nat → Int32) : UInt32 := (FP.fdiv (FP.i2f (I1 2)) (1098907648 : UInt32))
set_option maxRecDepth 20000 in
theorem iX6_left_4 : ∀ w ∈ wsX40, w ∈ wsX6_left := by decide +kernel
set_option maxRecDepth 20000 in
theorem iX6_left_6 : ∀ w ∈ wsX60, w ∈ wsX6_left := by decide +kernel
set_option maxHeartbeats 4000000 in
set_option maxRecDepth 100000 in
theorem kX6_left (l : Launch) (D : va_G) (cI cJ cZ cD : ClassId) (tA : Nat) (h : Nat) (R : Nat → Nat) (I : Nat → Int32) (L : Nat → Int64) (R1 : Nat → Nat) (I1 : Nat → Int32) (L1 : Nat → Int64) (hn : ∀ x : Int32, vf_n32 (FP.fdiv (FP.i2f x) 1098907648)) : jx_Ms l yX6_left wsX6_left ({ frames := 0, cells := 0, slots := 0, locals := 0 }) D (jT cI cJ cZ cD) tA [.ref h] [(h, .inr (6, (oX6 R I L))), ((R 1), .inr (4, (oX4 R1 I1 L1)))] (vp_Sf (fun r => r = (sX6_left I1))) := by
  refine jx_ofs (cc := cX6_left) (maxL := 1) (ret := (some .float)) (by decide +kernel) rfl (Nat.le_of_ble_eq_true rfl) ?_
  intro p e s m below meth c A ls hx hb hr hlocks hml hown hts hK hP hD hA hS hX hl
  have hl : lv_has ls 1 [(0, .ref h)] := hl
  have hown : s.vm.findClass RX6 = some m.cls := hown
  have hk19 := hts (.fieldLink RX6 19 "LoomDesk" "shaft" "LLoomDesk$Shaft;") (by decide +kernel)
  refine lv_aload_n hx hb dX6_left_0 rfl (lv_at hl 0 rfl) ?_
  refine jx_get (v := .ref (R 1)) hx hb hts iX6_left_6 hown hK hP 0 rfl rfl 1 (by decide) hk19 rfl rfl dX6_left_1 ?_
  refine jx_getN (host := RX6) (v := .int (I1 2)) hx hb hts iX6_left_4 hown hK hP 1 rfl rfl 2 (by decide) hX (by decide +kernel) rfl rfl dX6_left_4 ?_
  refine lv_i2f hx hb dX6_left_7 ?_
  refine lv_ldcf hx hb hown (hts (.constantFloat RX6 171 (1098907648)) (by decide +kernel)) dX6_left_8 ?_
  refine lv_fdiv hx hb dX6_left_10 (hn _) ?_
  have hq : (sX6_left I1) = (FP.fdiv (FP.i2f (I1 2)) (1098907648 : UInt32)) := rfl
  exact jx_sfret hx hb hr hlocks hq.symm dX6_left_11

def sX6_roll (L2 : Nat → Int64) (a0 : UInt64) : UInt64 := (if (Op.cmpValue (FP.dcmp a0 (13884597651183239168 : UInt64)) .l) < 0 then FP.dconst0 else (if (Op.cmpValue (FP.dcmp a0 (4661225614328463360 : UInt64)) .g) ≤ 0 then (FP.ddiv (FP.l2d (((L2 6) * (FP.d2l (FP.dmul a0 (4620693217682128896 : UInt64)))) - ((L2 6) * (FP.d2l (FP.dmul a0 (4620693217682128896 : UInt64)))) / (11520 : Int64) * (11520 : Int64))) (4629700416936869888 : UInt64)) else FP.dconst0))
set_option maxRecDepth 20000 in
theorem iX6_roll_0 : ∀ w ∈ wsX00, w ∈ wsX6_roll := by decide +kernel
set_option maxRecDepth 20000 in
theorem iX6_roll_6 : ∀ w ∈ wsX60, w ∈ wsX6_roll := by decide +kernel
set_option maxHeartbeats 4000000 in
set_option maxRecDepth 100000 in
theorem kX6_roll (l : Launch) (D : va_G) (cI cJ cZ cD : ClassId) (tA : Nat) (h : Nat) (R : Nat → Nat) (I : Nat → Int32) (L : Nat → Int64) (R2 : Nat → Nat) (I2 : Nat → Int32) (L2 : Nat → Int64) (a0 : UInt64) (hn8 : vf_n64 (FP.dmul a0 4620693217682128896)) (hn : ∀ x : Int64, vf_n64 (FP.ddiv (FP.l2d x) 4629700416936869888)) : jx_Ms l yX6_roll wsX6_roll ({ frames := 0, cells := 0, slots := 0, locals := 0 }) D (jT cI cJ cZ cD) tA [.ref h, .double a0] [(h, .inr (6, (oX6 R I L))), ((R 2), .inr (0, (oX0 R2 I2 L2)))] (vp_Sd (fun r => r = (sX6_roll L2 a0))) := by
  refine jx_ofs (cc := cX6_roll) (maxL := 5) (ret := (some .double)) (by decide +kernel) rfl (Nat.le_of_ble_eq_true rfl) ?_
  intro p e s m below meth c A ls hx hb hr hlocks hml hown hts hK hP hD hA hS hX hl
  have hl : lv_has ls 5 [(0, .ref h), (1, .double a0)] := hl
  have hown : s.vm.findClass RX6 = some m.cls := hown
  have hk26 := hts (.fieldLink RX6 26 "LoomDesk" "woven" "LLoomDesk$Cloth;") (by decide +kernel)
  refine lv_dload_n hx hb dX6_roll_0 rfl (lv_at hl 1 rfl) ?_
  refine lv_ldc2d hx hb hown (hts (.constantDouble RX6 172 (13884597651183239168)) (by decide +kernel)) dX6_roll_1 ?_
  refine lv_dcmp hx hb dX6_roll_4 ?_
  refine lv_if_lt (tgt := 16) hx hb dX6_roll_5 (by decide) (fun c_1 => ?_) (fun c_1 => ?_)
  · skip
    refine lv_dconst0 hx hb dX6_roll_16 ?_
    have hq : (sX6_roll L2 a0) = FP.dconst0 := by unfold sX6_roll; exact (if_pos c_1)
    exact jx_sdret hx hb hr hlocks hq.symm dX6_roll_17
  · skip
    refine lv_dload_n hx hb dX6_roll_8 rfl (lv_at hl 1 rfl) ?_
    refine lv_ldc2d hx hb hown (hts (.constantDouble RX6 174 (4661225614328463360)) (by decide +kernel)) dX6_roll_9 ?_
    refine lv_dcmp hx hb dX6_roll_12 ?_
    refine lv_if_le (tgt := 18) hx hb dX6_roll_13 (by decide) (fun c_2 => ?_) (fun c_2 => ?_)
    · skip
      refine lv_aload_n hx hb dX6_roll_18 rfl (lv_at hl 0 rfl) ?_
      refine jx_get (v := .ref (R 2)) hx hb hts iX6_roll_6 hown hK hP 0 rfl rfl 2 (by decide) hk26 rfl rfl dX6_roll_19 ?_
      refine jx_getN (host := RX6) (v := .long (L2 6)) hx hb hts iX6_roll_0 hown hK hP 1 rfl rfl 6 (by decide) hX (by decide +kernel) rfl rfl dX6_roll_22 ?_
      refine lv_dload_n hx hb dX6_roll_25 rfl (lv_at hl 1 rfl) ?_
      refine lv_ldc2d hx hb hown (hts (.constantDouble RX6 179 (4620693217682128896)) (by decide +kernel)) dX6_roll_26 ?_
      refine lv_dmul hx hb dX6_roll_29 hn8 ?_
      refine lv_d2l hx hb dX6_roll_30 ?_
      refine lv_lmul hx hb dX6_roll_31 ?_
      refine lv_topl (fun v_3 ev_3 => ?_)
      refine lv_lstore_n (lv' := [(3, .long v_3), (0, .ref h), (1, .double a0)]) hx hb dX6_roll_32 rfl hl (by decide) rfl (fun ls hl => ?_)
      refine lv_lload_n hx hb dX6_roll_33 rfl (lv_at hl 0 rfl) ?_
      refine lv_ldc2 hx hb hown (hts (.constantLong RX6 181 (11520)) (by decide +kernel)) dX6_roll_34 ?_
      refine lv_lrem hx hb dX6_roll_37 (by decide) ?_
      refine lv_l2d hx hb dX6_roll_38 ?_
      refine lv_ldc2d hx hb hown (hts (.constantDouble RX6 183 (4629700416936869888)) (by decide +kernel)) dX6_roll_39 ?_
      refine lv_ddiv hx hb dX6_roll_42 (hn _) ?_
      have hq : (sX6_roll L2 a0) = (FP.ddiv (FP.l2d (v_3 - v_3 / (11520 : Int64) * (11520 : Int64))) (4629700416936869888 : UInt64)) := by clear hP hD hl; have z_ := ev_3.symm; clear ev_3; subst z_; unfold sX6_roll; exact (if_neg c_1).trans ((if_pos c_2))
      exact jx_sdret hx hb hr hlocks hq.symm dX6_roll_43
    · skip
      refine lv_dconst0 hx hb dX6_roll_16 ?_
      have hq : (sX6_roll L2 a0) = FP.dconst0 := by unfold sX6_roll; exact (if_neg c_1).trans ((if_neg c_2))
      exact jx_sdret hx hb hr hlocks hq.symm dX6_roll_17

def sX6_letOff (a0 : UInt32) : Int32 := (if (Op.cmpValue (FP.fcmp a0 (3463342888 : UInt32)) .l) < 0 then (0 : Int32) else (if (Op.cmpValue (FP.fcmp a0 (1315859240 : UInt32)) .g) ≤ 0 then ((FP.f2l (FP.fmul a0 (1090519040 : UInt32))) - (FP.f2l (FP.fmul a0 (1090519040 : UInt32))) / (100 : Int64) * (100 : Int64)).toInt32 else (0 : Int32)))
set_option maxHeartbeats 4000000 in
set_option maxRecDepth 100000 in
theorem kX6_letOff (l : Launch) (D : va_G) (cI cJ cZ cD : ClassId) (tA : Nat) (h : Nat) (R : Nat → Nat) (I : Nat → Int32) (L : Nat → Int64) (a0 : UInt32) (hn : vf_n32 (FP.fmul a0 1090519040)) : jx_Ms l yX6_letOff wsX6_letOff ({ frames := 0, cells := 0, slots := 0, locals := 0 }) D (jT cI cJ cZ cD) tA [.ref h, .float a0] [(h, .inr (6, (oX6 R I L)))] (vp_Si (fun r => r = (sX6_letOff a0))) := by
  refine jx_ofs (cc := cX6_letOff) (maxL := 4) (ret := (some .int)) (by decide +kernel) rfl (Nat.le_of_ble_eq_true rfl) ?_
  intro p e s m below meth c A ls hx hb hr hlocks hml hown hts hK hP hD hA hS hX hl
  have hl : lv_has ls 4 [(0, .ref h), (1, .float a0)] := hl
  have hown : s.vm.findClass RX6 = some m.cls := hown
  refine lv_fload_n hx hb dX6_letOff_0 rfl (lv_at hl 1 rfl) ?_
  refine lv_ldcf hx hb hown (hts (.constantFloat RX6 185 (3463342888)) (by decide +kernel)) dX6_letOff_1 ?_
  refine lv_fcmp hx hb dX6_letOff_3 ?_
  refine lv_if_lt (tgt := 14) hx hb dX6_letOff_4 (by decide) (fun c_1 => ?_) (fun c_1 => ?_)
  · skip
    refine lv_iconst (v := 0) hx hb dX6_letOff_14 (by decide) ?_
    have hq : (sX6_letOff a0) = (0 : Int32) := by unfold sX6_letOff; exact (if_pos c_1)
    exact jx_siret hx hb hr hlocks hq.symm dX6_letOff_15
  · skip
    refine lv_fload_n hx hb dX6_letOff_7 rfl (lv_at hl 1 rfl) ?_
    refine lv_ldcf hx hb hown (hts (.constantFloat RX6 186 (1315859240)) (by decide +kernel)) dX6_letOff_8 ?_
    refine lv_fcmp hx hb dX6_letOff_10 ?_
    refine lv_if_le (tgt := 16) hx hb dX6_letOff_11 (by decide) (fun c_2 => ?_) (fun c_2 => ?_)
    · skip
      refine lv_fload_n hx hb dX6_letOff_16 rfl (lv_at hl 1 rfl) ?_
      refine lv_ldcf hx hb hown (hts (.constantFloat RX6 151 (1090519040)) (by decide +kernel)) dX6_letOff_17 ?_
      refine lv_fmul hx hb dX6_letOff_19 hn ?_
      refine lv_f2l hx hb dX6_letOff_20 ?_
      refine lv_topl (fun v_3 ev_3 => ?_)
      refine lv_lstore_n (lv' := [(2, .long v_3), (0, .ref h), (1, .float a0)]) hx hb dX6_letOff_21 rfl hl (by decide) rfl (fun ls hl => ?_)
      refine lv_lload_n hx hb dX6_letOff_22 rfl (lv_at hl 0 rfl) ?_
      refine lv_ldc2 hx hb hown (hts (.constantLong RX6 187 (100)) (by decide +kernel)) dX6_letOff_23 ?_
      refine lv_lrem hx hb dX6_letOff_26 (by decide) ?_
      refine lv_l2i hx hb dX6_letOff_27 rfl ?_
      have hq : (sX6_letOff a0) = (v_3 - v_3 / (100 : Int64) * (100 : Int64)).toInt32 := by clear hP hD hl; have z_ := ev_3.symm; clear ev_3; subst z_; unfold sX6_letOff; exact (if_neg c_1).trans ((if_pos c_2))
      exact jx_siret hx hb hr hlocks hq.symm dX6_letOff_28
    · skip
      refine lv_iconst (v := 0) hx hb dX6_letOff_14 (by decide) ?_
      have hq : (sX6_letOff a0) = (0 : Int32) := by unfold sX6_letOff; exact (if_neg c_1).trans ((if_neg c_2))
      exact jx_siret hx hb hr hlocks hq.symm dX6_letOff_15

def sX6_state (I : Nat → Int32) (I1 : Nat → Int32) (L2 : Nat → Int64) (a0 : Int32) : Int32 := (if a0 = (0 : Int32) then (I1 1) else (if a0 = (1 : Int32) then (I 6) else (if a0 = (2 : Int32) then (I 7) else (if a0 = (3 : Int32) then (I 8) else (if a0 = (4 : Int32) then (I 9) else (if a0 = (5 : Int32) then (I1 4) else (if a0 = (6 : Int32) then (sJ9_floorDiv_f86c9 (L2 6) (4 : Int64)).toInt32 else (if a0 = (7 : Int32) then (if (I 11) = 0 then (0 : Int32) else (1 : Int32)) else (-1 : Int32)))))))))
set_option maxRecDepth 20000 in
theorem iX6_state_0 : ∀ w ∈ wsX00, w ∈ wsX6_state := by decide +kernel
set_option maxRecDepth 20000 in
theorem iX6_state_4 : ∀ w ∈ wsX40, w ∈ wsX6_state := by decide +kernel
set_option maxRecDepth 20000 in
theorem iX6_state_6 : ∀ w ∈ wsX60, w ∈ wsX6_state := by decide +kernel
set_option maxHeartbeats 4000000 in
set_option maxRecDepth 100000 in
theorem kX6_state (l : Launch) (D : va_G) (cI cJ cZ cD : ClassId) (tA : Nat) (h : Nat) (R : Nat → Nat) (I : Nat → Int32) (L : Nat → Int64) (R1 : Nat → Nat) (I1 : Nat → Int32) (L1 : Nat → Int64) (R2 : Nat → Nat) (I2 : Nat → Int32) (L2 : Nat → Int64) (a0 : Int32) : jx_Ms l yX6_state wsX6_state ({ frames := 1, cells := 0, slots := 0, locals := 25 }) D (jT cI cJ cZ cD) tA [.ref h, .int a0] [(h, .inr (6, (oX6 R I L))), ((R 1), .inr (4, (oX4 R1 I1 L1))), ((R 2), .inr (0, (oX0 R2 I2 L2)))] (vp_Si (fun r => r = (sX6_state I I1 L2 a0))) := by
  refine jx_ofs (cc := cX6_state) (maxL := 2) (ret := (some .int)) (by decide +kernel) rfl (Nat.le_of_ble_eq_true rfl) ?_
  intro p e s m below meth c A ls hx hb hr hlocks hml hown hts hK hP hD hA hS hX hl
  have hl : lv_has ls 2 [(0, .ref h), (1, .int a0)] := hl
  have hown : s.vm.findClass RX6 = some m.cls := hown
  have hk19 := hts (.fieldLink RX6 19 "LoomDesk" "shaft" "LLoomDesk$Shaft;") (by decide +kernel)
  have hk26 := hts (.fieldLink RX6 26 "LoomDesk" "woven" "LLoomDesk$Cloth;") (by decide +kernel)
  have hk48 := hts (.fieldLink RX6 48 "LoomDesk" "shed" "I") (by decide +kernel)
  have hk52 := hts (.fieldLink RX6 52 "LoomDesk" "carrier" "I") (by decide +kernel)
  have hk55 := hts (.fieldLink RX6 55 "LoomDesk" "pick" "I") (by decide +kernel)
  have hk58 := hts (.fieldLink RX6 58 "LoomDesk" "missed" "I") (by decide +kernel)
  have hk65 := hts (.fieldLink RX6 65 "LoomDesk" "power" "Z") (by decide +kernel)
  refine lv_iload_n hx hb dX6_state_0 rfl (lv_at hl 1 rfl) ?_
  by_cases c_1 : a0 = (0 : Int32)
  · skip
    refine lv_tableIn (off := 47) (tgt := 48) hx hb dX6_state_1 (by rw [c_1]; decide) (by rw [c_1]; decide) (by rw [c_1]; rfl) (by decide) ?_
    refine lv_aload_n hx hb dX6_state_48 rfl (lv_at hl 0 rfl) ?_
    refine jx_get (v := .ref (R 1)) hx hb hts iX6_state_6 hown hK hP 0 rfl rfl 1 (by decide) hk19 rfl rfl dX6_state_49 ?_
    refine jx_getN (host := RX6) (v := .int (I1 1)) hx hb hts iX6_state_4 hown hK hP 1 rfl rfl 1 (by decide) hX (by decide +kernel) rfl rfl dX6_state_52 ?_
    have hq : (sX6_state I I1 L2 a0) = (I1 1) := by unfold sX6_state; exact (if_pos c_1)
    exact jx_siret hx hb hr hlocks hq.symm dX6_state_55
  by_cases c_2 : a0 = (1 : Int32)
  · skip
    refine lv_tableIn (off := 55) (tgt := 56) hx hb dX6_state_1 (by rw [c_2]; decide) (by rw [c_2]; decide) (by rw [c_2]; rfl) (by decide) ?_
    refine lv_aload_n hx hb dX6_state_56 rfl (lv_at hl 0 rfl) ?_
    refine jx_get (v := .int (I 6)) hx hb hts iX6_state_6 hown hK hP 0 rfl rfl 6 (by decide) hk48 rfl rfl dX6_state_57 ?_
    have hq : (sX6_state I I1 L2 a0) = (I 6) := by unfold sX6_state; exact (if_neg c_1).trans ((if_pos c_2))
    exact jx_siret hx hb hr hlocks hq.symm dX6_state_60
  by_cases c_3 : a0 = (2 : Int32)
  · skip
    refine lv_tableIn (off := 60) (tgt := 61) hx hb dX6_state_1 (by rw [c_3]; decide) (by rw [c_3]; decide) (by rw [c_3]; rfl) (by decide) ?_
    refine lv_aload_n hx hb dX6_state_61 rfl (lv_at hl 0 rfl) ?_
    refine jx_get (v := .int (I 7)) hx hb hts iX6_state_6 hown hK hP 0 rfl rfl 7 (by decide) hk52 rfl rfl dX6_state_62 ?_
    have hq : (sX6_state I I1 L2 a0) = (I 7) := by unfold sX6_state; exact (if_neg c_1).trans ((if_neg c_2).trans ((if_pos c_3)))
    exact jx_siret hx hb hr hlocks hq.symm dX6_state_65
  by_cases c_4 : a0 = (3 : Int32)
  · skip
    refine lv_tableIn (off := 65) (tgt := 66) hx hb dX6_state_1 (by rw [c_4]; decide) (by rw [c_4]; decide) (by rw [c_4]; rfl) (by decide) ?_
    refine lv_aload_n hx hb dX6_state_66 rfl (lv_at hl 0 rfl) ?_
    refine jx_get (v := .int (I 8)) hx hb hts iX6_state_6 hown hK hP 0 rfl rfl 8 (by decide) hk55 rfl rfl dX6_state_67 ?_
    have hq : (sX6_state I I1 L2 a0) = (I 8) := by unfold sX6_state; exact (if_neg c_1).trans ((if_neg c_2).trans ((if_neg c_3).trans ((if_pos c_4))))
    exact jx_siret hx hb hr hlocks hq.symm dX6_state_70
  by_cases c_5 : a0 = (4 : Int32)
  · skip
    refine lv_tableIn (off := 70) (tgt := 71) hx hb dX6_state_1 (by rw [c_5]; decide) (by rw [c_5]; decide) (by rw [c_5]; rfl) (by decide) ?_
    refine lv_aload_n hx hb dX6_state_71 rfl (lv_at hl 0 rfl) ?_
    refine jx_get (v := .int (I 9)) hx hb hts iX6_state_6 hown hK hP 0 rfl rfl 9 (by decide) hk58 rfl rfl dX6_state_72 ?_
    have hq : (sX6_state I I1 L2 a0) = (I 9) := by unfold sX6_state; exact (if_neg c_1).trans ((if_neg c_2).trans ((if_neg c_3).trans ((if_neg c_4).trans ((if_pos c_5)))))
    exact jx_siret hx hb hr hlocks hq.symm dX6_state_75
  by_cases c_6 : a0 = (5 : Int32)
  · skip
    refine lv_tableIn (off := 75) (tgt := 76) hx hb dX6_state_1 (by rw [c_6]; decide) (by rw [c_6]; decide) (by rw [c_6]; rfl) (by decide) ?_
    refine lv_aload_n hx hb dX6_state_76 rfl (lv_at hl 0 rfl) ?_
    refine jx_get (v := .ref (R 1)) hx hb hts iX6_state_6 hown hK hP 0 rfl rfl 1 (by decide) hk19 rfl rfl dX6_state_77 ?_
    refine jx_getN (host := RX6) (v := .int (I1 4)) hx hb hts iX6_state_4 hown hK hP 1 rfl rfl 4 (by decide) hX (by decide +kernel) rfl rfl dX6_state_80 ?_
    have hq : (sX6_state I I1 L2 a0) = (I1 4) := by unfold sX6_state; exact (if_neg c_1).trans ((if_neg c_2).trans ((if_neg c_3).trans ((if_neg c_4).trans ((if_neg c_5).trans ((if_pos c_6))))))
    exact jx_siret hx hb hr hlocks hq.symm dX6_state_83
  by_cases c_7 : a0 = (6 : Int32)
  · skip
    refine lv_tableIn (off := 83) (tgt := 84) hx hb dX6_state_1 (by rw [c_7]; decide) (by rw [c_7]; decide) (by rw [c_7]; rfl) (by decide) ?_
    refine lv_aload_n hx hb dX6_state_84 rfl (lv_at hl 0 rfl) ?_
    refine jx_get (v := .ref (R 2)) hx hb hts iX6_state_6 hown hK hP 0 rfl rfl 2 (by decide) hk26 rfl rfl dX6_state_85 ?_
    refine jx_getN (host := RX6) (v := .long (L2 6)) hx hb hts iX6_state_0 hown hK hP 2 rfl rfl 6 (by decide) hX (by decide +kernel) rfl rfl dX6_state_88 ?_
    refine lv_ldc2 hx hb hown (hts (.constantLong RX6 192 (4)) (by decide +kernel)) dX6_state_91 ?_
    refine jx_pcalll (wc := []) hP hD hS hA [] rfl (by decide) (fun hPc hDc hF => jx_runSs (As := [.long (L2 6), .long (4 : Int64)]) (rest := []) (n := 2) hx hb hml hown hts hK hX hS hl.1 (kJ9_floorDiv_f86c9 l D cI cJ cZ cD tA (L2 6) (4 : Int64) (by decide)) gX6_state_J9_floorDiv_f86c9 rfl rfl rfl (by decide +kernel) ⟨Nat.le_of_ble_eq_true rfl, Nat.le_of_ble_eq_true rfl⟩ rfl rfl (Nat.le_of_ble_eq_true rfl) dX6_state_94 ⟨Nat.zero_le _, Nat.zero_le _⟩ hPc hDc hF) (fun r_8 er_8 => ?_)
    have er_8 : r_8 = (sJ9_floorDiv_f86c9 (L2 6) (4 : Int64)) := er_8
    refine lv_l2i hx hb dX6_state_97 rfl ?_
    have hq : (sX6_state I I1 L2 a0) = r_8.toInt32 := by clear hP hD hl; have z_ := er_8.symm; clear er_8; subst z_; unfold sX6_state; exact (if_neg c_1).trans ((if_neg c_2).trans ((if_neg c_3).trans ((if_neg c_4).trans ((if_neg c_5).trans ((if_neg c_6).trans ((if_pos c_7)))))))
    exact jx_siret hx hb hr hlocks hq.symm dX6_state_98
  by_cases c_9 : a0 = (7 : Int32)
  · skip
    refine lv_tableIn (off := 98) (tgt := 99) hx hb dX6_state_1 (by rw [c_9]; decide) (by rw [c_9]; decide) (by rw [c_9]; rfl) (by decide) ?_
    refine lv_aload_n hx hb dX6_state_99 rfl (lv_at hl 0 rfl) ?_
    refine jx_get (v := .int (I 11)) hx hb hts iX6_state_6 hown hK hP 0 rfl rfl 11 (by decide) hk65 rfl rfl dX6_state_100 ?_
    refine lv_if_eq (tgt := 110) hx hb dX6_state_103 (by decide) (fun c_10 => ?_) (fun c_10 => ?_)
    · skip
      refine lv_iconst (v := 0) hx hb dX6_state_110 (by decide) ?_
      have hq : (sX6_state I I1 L2 a0) = (0 : Int32) := by unfold sX6_state; exact (if_neg c_1).trans ((if_neg c_2).trans ((if_neg c_3).trans ((if_neg c_4).trans ((if_neg c_5).trans ((if_neg c_6).trans ((if_neg c_7).trans ((if_pos c_9).trans ((if_pos c_10)))))))))
      exact jx_siret hx hb hr hlocks hq.symm dX6_state_111
    · skip
      refine lv_iconst (v := 1) hx hb dX6_state_106 (by decide) ?_
      refine lv_goto (tgt := 111) hx hb dX6_state_107 (by decide) ?_
      have hq : (sX6_state I I1 L2 a0) = (1 : Int32) := by unfold sX6_state; exact (if_neg c_1).trans ((if_neg c_2).trans ((if_neg c_3).trans ((if_neg c_4).trans ((if_neg c_5).trans ((if_neg c_6).trans ((if_neg c_7).trans ((if_pos c_9).trans ((if_neg c_10)))))))))
      exact jx_siret hx hb hr hlocks hq.symm dX6_state_111
  have hout : a0.toInt < 0 ∨ 7 < a0.toInt := by
    have z0 := lv_neT c_1 (show (0 : Int32).toInt = 0 by decide)
    have z1 := lv_neT c_2 (show (1 : Int32).toInt = 1 by decide)
    have z2 := lv_neT c_3 (show (2 : Int32).toInt = 2 by decide)
    have z3 := lv_neT c_4 (show (3 : Int32).toInt = 3 by decide)
    have z4 := lv_neT c_5 (show (4 : Int32).toInt = 4 by decide)
    have z5 := lv_neT c_6 (show (5 : Int32).toInt = 5 by decide)
    have z6 := lv_neT c_7 (show (6 : Int32).toInt = 6 by decide)
    have z7 := lv_neT c_9 (show (7 : Int32).toInt = 7 by decide)
    omega
  refine lv_tableOut (tgt := 112) hx hb dX6_state_1 hout (by decide) ?_
  refine lv_iconst (v := -1) hx hb dX6_state_112 (by decide) ?_
  have hq : (sX6_state I I1 L2 a0) = (-1 : Int32) := by unfold sX6_state; exact (if_neg c_1).trans ((if_neg c_2).trans ((if_neg c_3).trans ((if_neg c_4).trans ((if_neg c_5).trans ((if_neg c_6).trans ((if_neg c_7).trans ((if_neg c_9))))))))
  exact jx_siret hx hb hr hlocks hq.symm dX6_state_113

def sX6_count (L : Nat → Int64) (L1 : Nat → Int64) (L2 : Nat → Int64) (a0 : Int32) : Int64 := (if a0 = (0 : Int32) then (L 5) else (if a0 = (1 : Int32) then (L2 5) else (if a0 = (2 : Int32) then (L1 5) else (-1 : Int64))))
set_option maxRecDepth 20000 in
theorem iX6_count_0 : ∀ w ∈ wsX00, w ∈ wsX6_count := by decide +kernel
set_option maxRecDepth 20000 in
theorem iX6_count_4 : ∀ w ∈ wsX40, w ∈ wsX6_count := by decide +kernel
set_option maxRecDepth 20000 in
theorem iX6_count_6 : ∀ w ∈ wsX60, w ∈ wsX6_count := by decide +kernel
set_option maxHeartbeats 4000000 in
set_option maxRecDepth 100000 in
theorem kX6_count (l : Launch) (D : va_G) (cI cJ cZ cD : ClassId) (tA : Nat) (h : Nat) (R : Nat → Nat) (I : Nat → Int32) (L : Nat → Int64) (R1 : Nat → Nat) (I1 : Nat → Int32) (L1 : Nat → Int64) (R2 : Nat → Nat) (I2 : Nat → Int32) (L2 : Nat → Int64) (a0 : Int32) : jx_Ms l yX6_count wsX6_count ({ frames := 0, cells := 0, slots := 0, locals := 0 }) D (jT cI cJ cZ cD) tA [.ref h, .int a0] [(h, .inr (6, (oX6 R I L))), ((R 1), .inr (4, (oX4 R1 I1 L1))), ((R 2), .inr (0, (oX0 R2 I2 L2)))] (vp_Sl (fun r => r = (sX6_count L L1 L2 a0))) := by
  refine jx_ofs (cc := cX6_count) (maxL := 2) (ret := (some .long)) (by decide +kernel) rfl (Nat.le_of_ble_eq_true rfl) ?_
  intro p e s m below meth c A ls hx hb hr hlocks hml hown hts hK hP hD hA hS hX hl
  have hl : lv_has ls 2 [(0, .ref h), (1, .int a0)] := hl
  have hown : s.vm.findClass RX6 = some m.cls := hown
  have hk19 := hts (.fieldLink RX6 19 "LoomDesk" "shaft" "LLoomDesk$Shaft;") (by decide +kernel)
  have hk26 := hts (.fieldLink RX6 26 "LoomDesk" "woven" "LLoomDesk$Cloth;") (by decide +kernel)
  have hk44 := hts (.fieldLink RX6 44 "LoomDesk" "place" "J") (by decide +kernel)
  refine lv_iload_n hx hb dX6_count_0 rfl (lv_at hl 1 rfl) ?_
  by_cases c_1 : a0 = (0 : Int32)
  · skip
    refine lv_tableIn (off := 27) (tgt := 28) hx hb dX6_count_1 (by rw [c_1]; decide) (by rw [c_1]; decide) (by rw [c_1]; rfl) (by decide) ?_
    refine lv_aload_n hx hb dX6_count_28 rfl (lv_at hl 0 rfl) ?_
    refine jx_get (v := .long (L 5)) hx hb hts iX6_count_6 hown hK hP 0 rfl rfl 5 (by decide) hk44 rfl rfl dX6_count_29 ?_
    have hq : (sX6_count L L1 L2 a0) = (L 5) := by unfold sX6_count; exact (if_pos c_1)
    exact jx_slret hx hb hr hlocks hq.symm dX6_count_32
  by_cases c_2 : a0 = (1 : Int32)
  · skip
    refine lv_tableIn (off := 32) (tgt := 33) hx hb dX6_count_1 (by rw [c_2]; decide) (by rw [c_2]; decide) (by rw [c_2]; rfl) (by decide) ?_
    refine lv_aload_n hx hb dX6_count_33 rfl (lv_at hl 0 rfl) ?_
    refine jx_get (v := .ref (R 2)) hx hb hts iX6_count_6 hown hK hP 0 rfl rfl 2 (by decide) hk26 rfl rfl dX6_count_34 ?_
    refine jx_getN (host := RX6) (v := .long (L2 5)) hx hb hts iX6_count_0 hown hK hP 2 rfl rfl 5 (by decide) hX (by decide +kernel) rfl rfl dX6_count_37 ?_
    have hq : (sX6_count L L1 L2 a0) = (L2 5) := by unfold sX6_count; exact (if_neg c_1).trans ((if_pos c_2))
    exact jx_slret hx hb hr hlocks hq.symm dX6_count_40
  by_cases c_3 : a0 = (2 : Int32)
  · skip
    refine lv_tableIn (off := 40) (tgt := 41) hx hb dX6_count_1 (by rw [c_3]; decide) (by rw [c_3]; decide) (by rw [c_3]; rfl) (by decide) ?_
    refine lv_aload_n hx hb dX6_count_41 rfl (lv_at hl 0 rfl) ?_
    refine jx_get (v := .ref (R 1)) hx hb hts iX6_count_6 hown hK hP 0 rfl rfl 1 (by decide) hk19 rfl rfl dX6_count_42 ?_
    refine jx_getN (host := RX6) (v := .long (L1 5)) hx hb hts iX6_count_4 hown hK hP 1 rfl rfl 5 (by decide) hX (by decide +kernel) rfl rfl dX6_count_45 ?_
    have hq : (sX6_count L L1 L2 a0) = (L1 5) := by unfold sX6_count; exact (if_neg c_1).trans ((if_neg c_2).trans ((if_pos c_3)))
    exact jx_slret hx hb hr hlocks hq.symm dX6_count_48
  have hout : a0.toInt < 0 ∨ 2 < a0.toInt := by
    have z0 := lv_neT c_1 (show (0 : Int32).toInt = 0 by decide)
    have z1 := lv_neT c_2 (show (1 : Int32).toInt = 1 by decide)
    have z2 := lv_neT c_3 (show (2 : Int32).toInt = 2 by decide)
    omega
  refine lv_tableOut (tgt := 49) hx hb dX6_count_1 hout (by decide) ?_
  refine lv_ldc2 hx hb hown (hts (.constantLong RX6 206 (-1)) (by decide +kernel)) dX6_count_49 ?_
  have hq : (sX6_count L L1 L2 a0) = (-1 : Int64) := by unfold sX6_count; exact (if_neg c_1).trans ((if_neg c_2).trans ((if_neg c_3)))
  exact jx_slret hx hb hr hlocks hq.symm dX6_count_52

def sX6_cloth (I2 : Nat → Int32) (f2_0 : Nat → Int32) (f2_1 : Nat → Int32) (f2_2 : Nat → Int32) (a0 : Int32) (a1 : Int32) : Int32 := (sX0_tell I2 f2_0 f2_1 f2_2 a0 a1)
set_option maxRecDepth 20000 in
theorem iX6_cloth_6 : ∀ w ∈ wsX60, w ∈ wsX6_cloth := by decide +kernel
set_option maxHeartbeats 4000000 in
set_option maxRecDepth 100000 in
theorem kX6_cloth (l : Launch) (D : va_G) (cI cJ cZ cD : ClassId) (tA : Nat) (h : Nat) (R : Nat → Nat) (I : Nat → Int32) (L : Nat → Int64) (R2 : Nat → Nat) (I2 : Nat → Int32) (L2 : Nat → Int64) (f2_0 : Nat → Int32) (f2_1 : Nat → Int32) (f2_2 : Nat → Int32) (a0 : Int32) (a1 : Int32) : jx_Ms l yX6_cloth wsX6_cloth ({ frames := 3, cells := 0, slots := 0, locals := 66 }) D (jT cI cJ cZ cD) tA [.ref h, .int a0, .int a1] [(h, .inr (6, (oX6 R I L))), ((R 2), .inr (0, (oX0 R2 I2 L2))), ((R2 0), .inl (cI, 64, .inl f2_0)), ((R2 1), .inl (cI, 64, .inl f2_1)), ((R2 2), .inl (cI, 64, .inl f2_2))] (vp_Si (fun r => r = (sX6_cloth I2 f2_0 f2_1 f2_2 a0 a1))) := by
  refine jx_ofs (cc := cX6_cloth) (maxL := 3) (ret := (some .int)) (by decide +kernel) rfl (Nat.le_of_ble_eq_true rfl) ?_
  intro p e s m below meth c A ls hx hb hr hlocks hml hown hts hK hP hD hA hS hX hl
  have hl : lv_has ls 3 [(0, .ref h), (1, .int a0), (2, .int a1)] := hl
  have hown : s.vm.findClass RX6 = some m.cls := hown
  have hk26 := hts (.fieldLink RX6 26 "LoomDesk" "woven" "LLoomDesk$Cloth;") (by decide +kernel)
  refine lv_aload_n hx hb dX6_cloth_0 rfl (lv_at hl 0 rfl) ?_
  refine jx_get (v := .ref (R 2)) hx hb hts iX6_cloth_6 hown hK hP 0 rfl rfl 2 (by decide) hk26 rfl rfl dX6_cloth_1 ?_
  refine lv_iload_n hx hb dX6_cloth_4 rfl (lv_at hl 1 rfl) ?_
  refine lv_iload_n hx hb dX6_cloth_5 rfl (lv_at hl 2 rfl) ?_
  refine jx_pcalli (wc := [((R 2), .inr (0, (oX0 R2 I2 L2))), ((R2 0), .inl (cI, 64, .inl f2_0)), ((R2 1), .inl (cI, 64, .inl f2_1)), ((R2 2), .inl (cI, 64, .inl f2_2))]) hP hD hS hA [1, 2, 3, 4] rfl (by decide) (fun hPc hDc hF => jx_runVs (As := [.int a0, .int a1]) (rest := []) (n := 2) (ci := 0) (q0 := 0) hx hb hml hown hts hK hX hS hl.1 (kX0_tell l D cI cJ cZ cD tA (R 2) R2 I2 L2 f2_0 f2_1 f2_2 a0 a1) gX6_cloth_X0_tell rfl rfl rfl (by decide +kernel) ⟨Nat.le_of_ble_eq_true rfl, Nat.le_of_ble_eq_true rfl⟩ rfl rfl rfl rfl rfl (Nat.le_of_ble_eq_true rfl) dX6_cloth_6 ⟨Nat.zero_le _, Nat.zero_le _⟩ hPc hDc hF) (fun r_1 er_1 => ?_)
  have er_1 : r_1 = (sX0_tell I2 f2_0 f2_1 f2_2 a0 a1) := er_1
  have hq : (sX6_cloth I2 f2_0 f2_1 f2_2 a0 a1) = r_1 := by clear hP hD hl; have z_ := er_1.symm; clear er_1; subst z_; rfl
  exact jx_siret hx hb hr hlocks hq.symm dX6_cloth_9

