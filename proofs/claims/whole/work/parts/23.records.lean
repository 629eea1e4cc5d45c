def sX3_other (I : Nat → Int32) : Int32 := (if (I 2) = 0 then (1 : Int32) else (0 : Int32))
set_option maxRecDepth 20000 in
theorem iX3_other_3 : ∀ w ∈ wsX30, w ∈ wsX3_other := by decide +kernel
set_option maxHeartbeats 4000000 in
set_option maxRecDepth 100000 in
theorem kX3_other (l : Launch) (D : va_G) (cI cJ cZ cD : ClassId) (tA : Nat) (h : Nat) (R : Nat → Nat) (I : Nat → Int32) (L : Nat → Int64) : jx_Ms l yX3_other wsX3_other ({ frames := 0, cells := 0, slots := 0, locals := 0 }) D (jT cI cJ cZ cD) tA [.ref h] [(h, .inr (3, (oX3 R I L)))] (vp_Si (fun r => r = (sX3_other I))) := by
  refine jx_ofs (cc := cX3_other) (maxL := 1) (ret := (some .int)) (by decide +kernel) rfl (Nat.le_of_ble_eq_true rfl) ?_
  intro p e s m below meth c A ls hx hb hr hlocks hml hown hts hK hP hD hA hS hX hl
  have hl : lv_has ls 1 [(0, .ref h)] := hl
  have hown : s.vm.findClass RX3 = some m.cls := hown
  have hk19 := hts (.fieldLink RX3 19 "LoomDesk$Records" "last" "I") (by decide +kernel)
  refine lv_aload_n hx hb dX3_other_0 rfl (lv_at hl 0 rfl) ?_
  refine jx_get (v := .int (I 2)) hx hb hts iX3_other_3 hown hK hP 0 rfl rfl 2 (by decide) hk19 rfl rfl dX3_other_1 ?_
  refine lv_if_ne (tgt := 11) hx hb dX3_other_4 (by decide) (fun c_1 => ?_) (fun c_1 => ?_)
  · skip
    refine lv_iconst (v := 0) hx hb dX3_other_11 (by decide) ?_
    have hq : (sX3_other I) = (0 : Int32) := by unfold sX3_other; exact (if_neg c_1)
    exact jx_siret hx hb hr hlocks hq.symm dX3_other_12
  · skip
    refine lv_iconst (v := 1) hx hb dX3_other_7 (by decide) ?_
    refine lv_goto (tgt := 12) hx hb dX3_other_8 (by decide) ?_
    have hq : (sX3_other I) = (1 : Int32) := by unfold sX3_other; exact (if_pos c_1)
    exact jx_siret hx hb hr hlocks hq.symm dX3_other_12

theorem jx_oth (I : Nat → Int32) : vp_in (sX3_other I) 2 := by unfold sX3_other; split <;> (unfold vp_in; decide)
def sX3_write (I : Nat → Int32) (f0 : Nat → Int32) (f1 : Nat → Int64) (a0 : Int32) (a1 : Int64) : (Nat → Int32) × (Nat → Int32) × (Nat → Int64) := ((upd I 2 (sX3_other I)), (upd f0 (sX3_other I).toNatClampNeg a0), (vp_updL f1 (sX3_other I).toNatClampNeg a1))
set_option maxRecDepth 20000 in
theorem iX3_write_3 : ∀ w ∈ wsX30, w ∈ wsX3_write := by decide +kernel
set_option maxHeartbeats 4000000 in
set_option maxRecDepth 100000 in
theorem kX3_write (l : Launch) (D : va_G) (cI cJ cZ cD : ClassId) (tA : Nat) (h : Nat) (R : Nat → Nat) (I : Nat → Int32) (L : Nat → Int64) (f0 : Nat → Int32) (f1 : Nat → Int64) (a0 : Int32) (a1 : Int64) : jx_M l yX3_write wsX3_write ({ frames := 1, cells := 0, slots := 0, locals := 20 }) D (jT cI cJ cZ cD) tA [.ref h, .int a0, .long a1] [(h, .inr (3, (oX3 R I L))), ((R 0), .inl (cI, 2, .inl f0)), ((R 1), .inl (cJ, 2, .inr (.inl f1)))] (jx_Qv D (jT cI cJ cZ cD) (fun (_ : Unit) => True) (fun _ => [(h, .inr (3, (oX3 R (sX3_write I f0 f1 a0 a1).1 L))), ((R 0), .inl (cI, 2, .inl ((sX3_write I f0 f1 a0 a1).2.1))), ((R 1), .inl (cJ, 2, .inr (.inl ((sX3_write I f0 f1 a0 a1).2.2))))])) := by
  refine jx_of (cc := cX3_write) (maxL := 4) (ret := none) (by decide +kernel) rfl (Nat.le_of_ble_eq_true rfl) ?_
  intro p e s m below meth c A ls hx hb hr hlocks hml hown hts hK hP hD hA hS hX hl
  have hl : lv_has ls 4 [(0, .ref h), (1, .int a0), (2, .long a1)] := hl
  have hown : s.vm.findClass RX3 = some m.cls := hown
  have hk9 := hts (.fieldLink RX3 9 "LoomDesk$Records" "marks" "[I") (by decide +kernel)
  have hk15 := hts (.fieldLink RX3 15 "LoomDesk$Records" "places" "[J") (by decide +kernel)
  have hk19 := hts (.fieldLink RX3 19 "LoomDesk$Records" "last" "I") (by decide +kernel)
  refine lv_aload_n hx hb dX3_write_0 rfl (lv_at hl 0 rfl) ?_
  refine lv_aload_n hx hb dX3_write_1 rfl (lv_at hl 0 rfl) ?_
  refine jx_pcalli (wc := [(h, .inr (3, (oX3 R I L)))]) hP hD hS hA [0] rfl (by decide) (fun hPc hDc hF => jx_runVs (As := []) (rest := [.ref h]) (n := 0) (ci := 3) (q0 := 0) hx hb hml hown hts hK hX hS hl.1 (kX3_other l D cI cJ cZ cD tA h R I L) gX3_write_X3_other rfl rfl rfl (by decide +kernel) ⟨Nat.le_of_ble_eq_true rfl, Nat.le_of_ble_eq_true rfl⟩ rfl rfl rfl rfl rfl (Nat.le_of_ble_eq_true rfl) dX3_write_2 ⟨Nat.zero_le _, Nat.zero_le _⟩ hPc hDc hF) (fun r_1 er_1 => ?_)
  have er_1 : r_1 = (sX3_other I) := er_1
  refine jx_put (w2 := [(h, .inr (3, (oX3 R (upd I 2 r_1) L))), ((R 0), .inl (cI, 2, .inl f0)), ((R 1), .inl (cJ, 2, .inr (.inl f1)))]) hx hb hts iX3_write_3 tyX3 tyX3_ok nmX3 hown hK hP hD hS 0 rfl rfl 2 (by decide) hk19 rfl rfl rfl rfl (Nat.le_of_ble_eq_true rfl) dX3_write_5 rfl (fun H locs hP hD hS => ?_)
  refine lv_aload_n hx hb dX3_write_8 rfl (lv_at hl 0 rfl) ?_
  refine jx_get (v := .ref (R 0)) hx hb hts iX3_write_3 hown hK hP 0 rfl rfl 0 (by decide) hk9 rfl rfl dX3_write_9 ?_
  refine lv_aload_n hx hb dX3_write_12 rfl (lv_at hl 0 rfl) ?_
  refine jx_get (v := .int r_1) hx hb hts iX3_write_3 hown hK hP 0 rfl rfl 2 (by decide) hk19 rfl rfl dX3_write_13 ?_
  refine lv_iload_n hx hb dX3_write_16 rfl (lv_at hl 1 rfl) ?_
  refine jx_iast (w2 := [(h, .inr (3, (oX3 R (upd I 2 r_1) L))), ((R 0), .inl (cI, 2, .inl (upd f0 r_1.toNatClampNeg a0))), ((R 1), .inl (cJ, 2, .inr (.inl f1)))]) hx hb hK hP hD hS 1 0 rfl rfl (by first | (unfold vp_in; decide) | exact jx_in2 hI | (clear hP hD hl; have z_ := er_1.symm; clear er_1; subst z_; exact jx_oth _)) dX3_write_17 rfl (fun H locs hP hD hS => ?_)
  refine lv_aload_n hx hb dX3_write_18 rfl (lv_at hl 0 rfl) ?_
  refine jx_get (v := .ref (R 1)) hx hb hts iX3_write_3 hown hK hP 0 rfl rfl 1 (by decide) hk15 rfl rfl dX3_write_19 ?_
  refine lv_aload_n hx hb dX3_write_22 rfl (lv_at hl 0 rfl) ?_
  refine jx_get (v := .int r_1) hx hb hts iX3_write_3 hown hK hP 0 rfl rfl 2 (by decide) hk19 rfl rfl dX3_write_23 ?_
  refine lv_lload_n hx hb dX3_write_26 rfl (lv_at hl 2 rfl) ?_
  refine jx_last (w2 := [(h, .inr (3, (oX3 R (upd I 2 r_1) L))), ((R 0), .inl (cI, 2, .inl (upd f0 r_1.toNatClampNeg a0))), ((R 1), .inl (cJ, 2, .inr (.inl (vp_updL f1 r_1.toNatClampNeg a1))))]) hx hb hK hP hD hS 2 1 rfl rfl (by first | (unfold vp_in; decide) | exact jx_in2 hI | (clear hP hD hl; have z_ := er_1.symm; clear er_1; subst z_; exact jx_oth _)) dX3_write_27 rfl (fun H locs hP hD hS => ?_)
  have hq : (sX3_write I f0 f1 a0 a1) = ((upd I 2 r_1), (upd f0 r_1.toNatClampNeg a0), (vp_updL f1 r_1.toNatClampNeg a1)) := by clear hP hD hl; have z_ := er_1.symm; clear er_1; subst z_; rfl
  exact jx_vret () hx hb hr hlocks hK hP hD hS (by rw [hq]) trivial dX3_write_28

def sX3_spoilLast (I : Nat → Int32) (f0 : Nat → Int32) : (Nat → Int32) := (upd f0 (I 2).toNatClampNeg (-1 : Int32))
set_option maxRecDepth 20000 in
theorem iX3_spoilLast_3 : ∀ w ∈ wsX30, w ∈ wsX3_spoilLast := by decide +kernel
set_option maxHeartbeats 4000000 in
set_option maxRecDepth 100000 in
theorem kX3_spoilLast (l : Launch) (D : va_G) (cI cJ cZ cD : ClassId) (tA : Nat) (h : Nat) (R : Nat → Nat) (I : Nat → Int32) (L : Nat → Int64) (f0 : Nat → Int32) (f1 : Nat → Int64) (hI : I 2 = 0 ∨ I 2 = 1) : jx_M l yX3_spoilLast wsX3_spoilLast ({ frames := 0, cells := 0, slots := 0, locals := 0 }) D (jT cI cJ cZ cD) tA [.ref h] [(h, .inr (3, (oX3 R I L))), ((R 0), .inl (cI, 2, .inl f0)), ((R 1), .inl (cJ, 2, .inr (.inl f1)))] (jx_Qv D (jT cI cJ cZ cD) (fun (_ : Unit) => True) (fun _ => [(h, .inr (3, (oX3 R I L))), ((R 0), .inl (cI, 2, .inl (sX3_spoilLast I f0))), ((R 1), .inl (cJ, 2, .inr (.inl f1)))])) := by
  refine jx_of (cc := cX3_spoilLast) (maxL := 1) (ret := none) (by decide +kernel) rfl (Nat.le_of_ble_eq_true rfl) ?_
  intro p e s m below meth c A ls hx hb hr hlocks hml hown hts hK hP hD hA hS hX hl
  have hl : lv_has ls 1 [(0, .ref h)] := hl
  have hown : s.vm.findClass RX3 = some m.cls := hown
  have hk9 := hts (.fieldLink RX3 9 "LoomDesk$Records" "marks" "[I") (by decide +kernel)
  have hk19 := hts (.fieldLink RX3 19 "LoomDesk$Records" "last" "I") (by decide +kernel)
  refine lv_aload_n hx hb dX3_spoilLast_0 rfl (lv_at hl 0 rfl) ?_
  refine jx_get (v := .ref (R 0)) hx hb hts iX3_spoilLast_3 hown hK hP 0 rfl rfl 0 (by decide) hk9 rfl rfl dX3_spoilLast_1 ?_
  refine lv_aload_n hx hb dX3_spoilLast_4 rfl (lv_at hl 0 rfl) ?_
  refine jx_get (v := .int (I 2)) hx hb hts iX3_spoilLast_3 hown hK hP 0 rfl rfl 2 (by decide) hk19 rfl rfl dX3_spoilLast_5 ?_
  refine lv_iconst (v := -1) hx hb dX3_spoilLast_8 (by decide) ?_
  refine jx_iast (w2 := [(h, .inr (3, (oX3 R I L))), ((R 0), .inl (cI, 2, .inl (upd f0 (I 2).toNatClampNeg (-1 : Int32)))), ((R 1), .inl (cJ, 2, .inr (.inl f1)))]) hx hb hK hP hD hS 1 0 rfl rfl (by first | (unfold vp_in; decide) | exact jx_in2 hI | (exact jx_oth _)) dX3_spoilLast_9 rfl (fun H locs hP hD hS => ?_)
  have hq : (sX3_spoilLast I f0) = (upd f0 (I 2).toNatClampNeg (-1 : Int32)) := rfl
  exact jx_vret () hx hb hr hlocks hK hP hD hS (by rw [hq]) trivial dX3_spoilLast_10

def sX3_clear (f0 : Nat → Int32) : (Nat → Int32) := (upd (upd f0 (0 : Int32).toNatClampNeg (-1 : Int32)) (1 : Int32).toNatClampNeg (-1 : Int32))
set_option maxRecDepth 20000 in
theorem iX3_clear_3 : ∀ w ∈ wsX30, w ∈ wsX3_clear := by decide +kernel
set_option maxHeartbeats 4000000 in
set_option maxRecDepth 100000 in
theorem kX3_clear (l : Launch) (D : va_G) (cI cJ cZ cD : ClassId) (tA : Nat) (h : Nat) (R : Nat → Nat) (I : Nat → Int32) (L : Nat → Int64) (f0 : Nat → Int32) (f1 : Nat → Int64) : jx_M l yX3_clear wsX3_clear ({ frames := 0, cells := 0, slots := 0, locals := 0 }) D (jT cI cJ cZ cD) tA [.ref h] [(h, .inr (3, (oX3 R I L))), ((R 0), .inl (cI, 2, .inl f0)), ((R 1), .inl (cJ, 2, .inr (.inl f1)))] (jx_Qv D (jT cI cJ cZ cD) (fun (_ : Unit) => True) (fun _ => [(h, .inr (3, (oX3 R I L))), ((R 0), .inl (cI, 2, .inl (sX3_clear f0))), ((R 1), .inl (cJ, 2, .inr (.inl f1)))])) := by
  refine jx_of (cc := cX3_clear) (maxL := 1) (ret := none) (by decide +kernel) rfl (Nat.le_of_ble_eq_true rfl) ?_
  intro p e s m below meth c A ls hx hb hr hlocks hml hown hts hK hP hD hA hS hX hl
  have hl : lv_has ls 1 [(0, .ref h)] := hl
  have hown : s.vm.findClass RX3 = some m.cls := hown
  have hk9 := hts (.fieldLink RX3 9 "LoomDesk$Records" "marks" "[I") (by decide +kernel)
  refine lv_aload_n hx hb dX3_clear_0 rfl (lv_at hl 0 rfl) ?_
  refine jx_get (v := .ref (R 0)) hx hb hts iX3_clear_3 hown hK hP 0 rfl rfl 0 (by decide) hk9 rfl rfl dX3_clear_1 ?_
  refine lv_iconst (v := 0) hx hb dX3_clear_4 (by decide) ?_
  refine lv_iconst (v := -1) hx hb dX3_clear_5 (by decide) ?_
  refine jx_iast (w2 := [(h, .inr (3, (oX3 R I L))), ((R 0), .inl (cI, 2, .inl (upd f0 (0 : Int32).toNatClampNeg (-1 : Int32)))), ((R 1), .inl (cJ, 2, .inr (.inl f1)))]) hx hb hK hP hD hS 1 0 rfl rfl (by first | (unfold vp_in; decide) | exact jx_in2 hI | (exact jx_oth _)) dX3_clear_6 rfl (fun H locs hP hD hS => ?_)
  refine lv_aload_n hx hb dX3_clear_7 rfl (lv_at hl 0 rfl) ?_
  refine jx_get (v := .ref (R 0)) hx hb hts iX3_clear_3 hown hK hP 0 rfl rfl 0 (by decide) hk9 rfl rfl dX3_clear_8 ?_
  refine lv_iconst (v := 1) hx hb dX3_clear_11 (by decide) ?_
  refine lv_iconst (v := -1) hx hb dX3_clear_12 (by decide) ?_
  refine jx_iast (w2 := [(h, .inr (3, (oX3 R I L))), ((R 0), .inl (cI, 2, .inl (upd (upd f0 (0 : Int32).toNatClampNeg (-1 : Int32)) (1 : Int32).toNatClampNeg (-1 : Int32)))), ((R 1), .inl (cJ, 2, .inr (.inl f1)))]) hx hb hK hP hD hS 1 0 rfl rfl (by first | (unfold vp_in; decide) | exact jx_in2 hI | (exact jx_oth _)) dX3_clear_13 rfl (fun H locs hP hD hS => ?_)
  have hq : (sX3_clear f0) = (upd (upd f0 (0 : Int32).toNatClampNeg (-1 : Int32)) (1 : Int32).toNatClampNeg (-1 : Int32)) := rfl
  exact jx_vret () hx hb hr hlocks hK hP hD hS (by rw [hq]) trivial dX3_clear_14

def sX3_newest (I : Nat → Int32) (f0 : Nat → Int32) : Int32 := (if (f0 (I 2).toNatClampNeg) = (-1 : Int32) then (if (f0 (sX3_other I).toNatClampNeg) = (-1 : Int32) then (-1 : Int32) else (sX3_other I)) else (I 2))
set_option maxRecDepth 20000 in
theorem iX3_newest_3 : ∀ w ∈ wsX30, w ∈ wsX3_newest := by decide +kernel
set_option maxHeartbeats 4000000 in
set_option maxRecDepth 100000 in
theorem kX3_newest (l : Launch) (D : va_G) (cI cJ cZ cD : ClassId) (tA : Nat) (h : Nat) (R : Nat → Nat) (I : Nat → Int32) (L : Nat → Int64) (f0 : Nat → Int32) (f1 : Nat → Int64) (hI : I 2 = 0 ∨ I 2 = 1) : jx_Ms l yX3_newest wsX3_newest ({ frames := 1, cells := 0, slots := 0, locals := 20 }) D (jT cI cJ cZ cD) tA [.ref h] [(h, .inr (3, (oX3 R I L))), ((R 0), .inl (cI, 2, .inl f0)), ((R 1), .inl (cJ, 2, .inr (.inl f1)))] (vp_Si (fun r => r = (sX3_newest I f0))) := by
  refine jx_ofs (cc := cX3_newest) (maxL := 1) (ret := (some .int)) (by decide +kernel) rfl (Nat.le_of_ble_eq_true rfl) ?_
  intro p e s m below meth c A ls hx hb hr hlocks hml hown hts hK hP hD hA hS hX hl
  have hl : lv_has ls 1 [(0, .ref h)] := hl
  have hown : s.vm.findClass RX3 = some m.cls := hown
  have hk9 := hts (.fieldLink RX3 9 "LoomDesk$Records" "marks" "[I") (by decide +kernel)
  have hk19 := hts (.fieldLink RX3 19 "LoomDesk$Records" "last" "I") (by decide +kernel)
  refine lv_aload_n hx hb dX3_newest_0 rfl (lv_at hl 0 rfl) ?_
  refine jx_get (v := .ref (R 0)) hx hb hts iX3_newest_3 hown hK hP 0 rfl rfl 0 (by decide) hk9 rfl rfl dX3_newest_1 ?_
  refine lv_aload_n hx hb dX3_newest_4 rfl (lv_at hl 0 rfl) ?_
  refine jx_get (v := .int (I 2)) hx hb hts iX3_newest_3 hown hK hP 0 rfl rfl 2 (by decide) hk19 rfl rfl dX3_newest_5 ?_
  refine va_iald hx hb hK hP 1 0 rfl rfl (by first | (unfold vp_in; decide) | exact jx_in2 hI | (exact jx_oth _)) dX3_newest_8 ?_
  refine lv_iconst (v := -1) hx hb dX3_newest_9 (by decide) ?_
  refine lv_icmp_eq (tgt := 18) hx hb dX3_newest_10 (by decide) (fun c_1 => ?_) (fun c_1 => ?_)
  · skip
    refine lv_aload_n hx hb dX3_newest_18 rfl (lv_at hl 0 rfl) ?_
    refine jx_get (v := .ref (R 0)) hx hb hts iX3_newest_3 hown hK hP 0 rfl rfl 0 (by decide) hk9 rfl rfl dX3_newest_19 ?_
    refine lv_aload_n hx hb dX3_newest_22 rfl (lv_at hl 0 rfl) ?_
    refine jx_pcalli (wc := [(h, .inr (3, (oX3 R I L)))]) hP hD hS hA [0] rfl (by decide) (fun hPc hDc hF => jx_runVs (As := []) (rest := [.ref (R 0)]) (n := 0) (ci := 3) (q0 := 0) hx hb hml hown hts hK hX hS hl.1 (kX3_other l D cI cJ cZ cD tA h R I L) gX3_newest_X3_other rfl rfl rfl (by decide +kernel) ⟨Nat.le_of_ble_eq_true rfl, Nat.le_of_ble_eq_true rfl⟩ rfl rfl rfl rfl rfl (Nat.le_of_ble_eq_true rfl) dX3_newest_23 ⟨Nat.zero_le _, Nat.zero_le _⟩ hPc hDc hF) (fun r_2 er_2 => ?_)
    have er_2 : r_2 = (sX3_other I) := er_2
    refine va_iald hx hb hK hP 1 0 rfl rfl (by first | (unfold vp_in; decide) | exact jx_in2 hI | (clear hP hD hl; have z_ := er_2.symm; clear er_2; subst z_; exact jx_oth _)) dX3_newest_26 ?_
    refine lv_iconst (v := -1) hx hb dX3_newest_27 (by decide) ?_
    refine lv_icmp_eq (tgt := 38) hx hb dX3_newest_28 (by decide) (fun c_3 => ?_) (fun c_3 => ?_)
    · skip
      refine lv_iconst (v := -1) hx hb dX3_newest_38 (by decide) ?_
      have hq : (sX3_newest I f0) = (-1 : Int32) := by clear hP hD hl; have z_ := er_2.symm; clear er_2; subst z_; unfold sX3_newest; exact (if_pos c_1).trans ((if_pos c_3))
      exact jx_siret hx hb hr hlocks hq.symm dX3_newest_39
    · skip
      refine lv_aload_n hx hb dX3_newest_31 rfl (lv_at hl 0 rfl) ?_
      refine jx_pcalli (wc := [(h, .inr (3, (oX3 R I L)))]) hP hD hS hA [0] rfl (by decide) (fun hPc hDc hF => jx_runVs (As := []) (rest := []) (n := 0) (ci := 3) (q0 := 0) hx hb hml hown hts hK hX hS hl.1 (kX3_other l D cI cJ cZ cD tA h R I L) gX3_newest_X3_other rfl rfl rfl (by decide +kernel) ⟨Nat.le_of_ble_eq_true rfl, Nat.le_of_ble_eq_true rfl⟩ rfl rfl rfl rfl rfl (Nat.le_of_ble_eq_true rfl) dX3_newest_32 ⟨Nat.zero_le _, Nat.zero_le _⟩ hPc hDc hF) (fun r_4 er_4 => ?_)
      have er_4 : r_4 = (sX3_other I) := er_4
      refine lv_goto (tgt := 39) hx hb dX3_newest_35 (by decide) ?_
      have hq : (sX3_newest I f0) = r_4 := by clear hP hD hl; have z_ := er_4.symm; clear er_4; subst z_; have z_ := er_2.symm; clear er_2; subst z_; unfold sX3_newest; exact (if_pos c_1).trans ((if_neg c_3))
      exact jx_siret hx hb hr hlocks hq.symm dX3_newest_39
  · skip
    refine lv_aload_n hx hb dX3_newest_13 rfl (lv_at hl 0 rfl) ?_
    refine jx_get (v := .int (I 2)) hx hb hts iX3_newest_3 hown hK hP 0 rfl rfl 2 (by decide) hk19 rfl rfl dX3_newest_14 ?_
    have hq : (sX3_newest I f0) = (I 2) := by unfold sX3_newest; exact (if_neg c_1)
    exact jx_siret hx hb hr hlocks hq.symm dX3_newest_17

def sX3_markOf (f0 : Nat → Int32) (a0 : Int32) : Int32 := (if a0 = 0 then (f0 a0.toNatClampNeg) else (if a0 = (1 : Int32) then (f0 a0.toNatClampNeg) else (-1 : Int32)))
set_option maxRecDepth 20000 in
theorem iX3_markOf_3 : ∀ w ∈ wsX30, w ∈ wsX3_markOf := by decide +kernel
set_option maxHeartbeats 4000000 in
set_option maxRecDepth 100000 in
theorem kX3_markOf (l : Launch) (D : va_G) (cI cJ cZ cD : ClassId) (tA : Nat) (h : Nat) (R : Nat → Nat) (I : Nat → Int32) (L : Nat → Int64) (f0 : Nat → Int32) (f1 : Nat → Int64) (a0 : Int32) : jx_Ms l yX3_markOf wsX3_markOf ({ frames := 0, cells := 0, slots := 0, locals := 0 }) D (jT cI cJ cZ cD) tA [.ref h, .int a0] [(h, .inr (3, (oX3 R I L))), ((R 0), .inl (cI, 2, .inl f0)), ((R 1), .inl (cJ, 2, .inr (.inl f1)))] (vp_Si (fun r => r = (sX3_markOf f0 a0))) := by
  refine jx_ofs (cc := cX3_markOf) (maxL := 2) (ret := (some .int)) (by decide +kernel) rfl (Nat.le_of_ble_eq_true rfl) ?_
  intro p e s m below meth c A ls hx hb hr hlocks hml hown hts hK hP hD hA hS hX hl
  have hl : lv_has ls 2 [(0, .ref h), (1, .int a0)] := hl
  have hown : s.vm.findClass RX3 = some m.cls := hown
  have hk9 := hts (.fieldLink RX3 9 "LoomDesk$Records" "marks" "[I") (by decide +kernel)
  refine lv_iload_n hx hb dX3_markOf_0 rfl (lv_at hl 1 rfl) ?_
  refine lv_if_eq (tgt := 9) hx hb dX3_markOf_1 (by decide) (fun c_1 => ?_) (fun c_1 => ?_)
  · skip
    refine lv_aload_n hx hb dX3_markOf_9 rfl (lv_at hl 0 rfl) ?_
    refine jx_get (v := .ref (R 0)) hx hb hts iX3_markOf_3 hown hK hP 0 rfl rfl 0 (by decide) hk9 rfl rfl dX3_markOf_10 ?_
    refine lv_iload_n hx hb dX3_markOf_13 rfl (lv_at hl 1 rfl) ?_
    refine va_iald hx hb hK hP 1 0 rfl rfl (by first | exact jx_in2 (Or.inl c_1) | exact jx_in2 (Or.inr c_2)) dX3_markOf_14 ?_
    refine lv_goto (tgt := 19) hx hb dX3_markOf_15 (by decide) ?_
    have hq : (sX3_markOf f0 a0) = (f0 a0.toNatClampNeg) := by unfold sX3_markOf; exact (if_pos c_1)
    exact jx_siret hx hb hr hlocks hq.symm dX3_markOf_19
  · skip
    refine lv_iload_n hx hb dX3_markOf_4 rfl (lv_at hl 1 rfl) ?_
    refine lv_iconst (v := 1) hx hb dX3_markOf_5 (by decide) ?_
    refine lv_icmp_ne (tgt := 18) hx hb dX3_markOf_6 (by decide) (fun c_2 => ?_) (fun c_2 => ?_)
    · skip
      refine lv_iconst (v := -1) hx hb dX3_markOf_18 (by decide) ?_
      have hq : (sX3_markOf f0 a0) = (-1 : Int32) := by unfold sX3_markOf; exact (if_neg c_1).trans ((if_neg c_2))
      exact jx_siret hx hb hr hlocks hq.symm dX3_markOf_19
    · skip
      refine lv_aload_n hx hb dX3_markOf_9 rfl (lv_at hl 0 rfl) ?_
      refine jx_get (v := .ref (R 0)) hx hb hts iX3_markOf_3 hown hK hP 0 rfl rfl 0 (by decide) hk9 rfl rfl dX3_markOf_10 ?_
      refine lv_iload_n hx hb dX3_markOf_13 rfl (lv_at hl 1 rfl) ?_
      refine va_iald hx hb hK hP 1 0 rfl rfl (by first | exact jx_in2 (Or.inl c_1) | exact jx_in2 (Or.inr c_2)) dX3_markOf_14 ?_
      refine lv_goto (tgt := 19) hx hb dX3_markOf_15 (by decide) ?_
      have hq : (sX3_markOf f0 a0) = (f0 a0.toNatClampNeg) := by unfold sX3_markOf; exact (if_neg c_1).trans ((if_pos c_2))
      exact jx_siret hx hb hr hlocks hq.symm dX3_markOf_19

def sX3_placeOf (f1 : Nat → Int64) (a0 : Int32) : Int64 := (if a0 = 0 then (f1 a0.toNatClampNeg) else (if a0 = (1 : Int32) then (f1 a0.toNatClampNeg) else (0 : Int64)))
set_option maxRecDepth 20000 in
theorem iX3_placeOf_3 : ∀ w ∈ wsX30, w ∈ wsX3_placeOf := by decide +kernel
set_option maxHeartbeats 4000000 in
set_option maxRecDepth 100000 in
theorem kX3_placeOf (l : Launch) (D : va_G) (cI cJ cZ cD : ClassId) (tA : Nat) (h : Nat) (R : Nat → Nat) (I : Nat → Int32) (L : Nat → Int64) (f0 : Nat → Int32) (f1 : Nat → Int64) (a0 : Int32) : jx_Ms l yX3_placeOf wsX3_placeOf ({ frames := 0, cells := 0, slots := 0, locals := 0 }) D (jT cI cJ cZ cD) tA [.ref h, .int a0] [(h, .inr (3, (oX3 R I L))), ((R 0), .inl (cI, 2, .inl f0)), ((R 1), .inl (cJ, 2, .inr (.inl f1)))] (vp_Sl (fun r => r = (sX3_placeOf f1 a0))) := by
  refine jx_ofs (cc := cX3_placeOf) (maxL := 2) (ret := (some .long)) (by decide +kernel) rfl (Nat.le_of_ble_eq_true rfl) ?_
  intro p e s m below meth c A ls hx hb hr hlocks hml hown hts hK hP hD hA hS hX hl
  have hl : lv_has ls 2 [(0, .ref h), (1, .int a0)] := hl
  have hown : s.vm.findClass RX3 = some m.cls := hown
  have hk15 := hts (.fieldLink RX3 15 "LoomDesk$Records" "places" "[J") (by decide +kernel)
  refine lv_iload_n hx hb dX3_placeOf_0 rfl (lv_at hl 1 rfl) ?_
  refine lv_if_eq (tgt := 9) hx hb dX3_placeOf_1 (by decide) (fun c_1 => ?_) (fun c_1 => ?_)
  · skip
    refine lv_aload_n hx hb dX3_placeOf_9 rfl (lv_at hl 0 rfl) ?_
    refine jx_get (v := .ref (R 1)) hx hb hts iX3_placeOf_3 hown hK hP 0 rfl rfl 1 (by decide) hk15 rfl rfl dX3_placeOf_10 ?_
    refine lv_iload_n hx hb dX3_placeOf_13 rfl (lv_at hl 1 rfl) ?_
    refine va_lald hx hb hK hP 2 1 rfl rfl (by first | exact jx_in2 (Or.inl c_1) | exact jx_in2 (Or.inr c_2)) dX3_placeOf_14 ?_
    refine lv_goto (tgt := 19) hx hb dX3_placeOf_15 (by decide) ?_
    have hq : (sX3_placeOf f1 a0) = (f1 a0.toNatClampNeg) := by unfold sX3_placeOf; exact (if_pos c_1)
    exact jx_slret hx hb hr hlocks hq.symm dX3_placeOf_19
  · skip
    refine lv_iload_n hx hb dX3_placeOf_4 rfl (lv_at hl 1 rfl) ?_
    refine lv_iconst (v := 1) hx hb dX3_placeOf_5 (by decide) ?_
    refine lv_icmp_ne (tgt := 18) hx hb dX3_placeOf_6 (by decide) (fun c_2 => ?_) (fun c_2 => ?_)
    · skip
      refine lv_lconst (v := 0) hx hb dX3_placeOf_18 (by decide) ?_
      have hq : (sX3_placeOf f1 a0) = (0 : Int64) := by unfold sX3_placeOf; exact (if_neg c_1).trans ((if_neg c_2))
      exact jx_slret hx hb hr hlocks hq.symm dX3_placeOf_19
    · skip
      refine lv_aload_n hx hb dX3_placeOf_9 rfl (lv_at hl 0 rfl) ?_
      refine jx_get (v := .ref (R 1)) hx hb hts iX3_placeOf_3 hown hK hP 0 rfl rfl 1 (by decide) hk15 rfl rfl dX3_placeOf_10 ?_
      refine lv_iload_n hx hb dX3_placeOf_13 rfl (lv_at hl 1 rfl) ?_
      refine va_lald hx hb hK hP 2 1 rfl rfl (by first | exact jx_in2 (Or.inl c_1) | exact jx_in2 (Or.inr c_2)) dX3_placeOf_14 ?_
      refine lv_goto (tgt := 19) hx hb dX3_placeOf_15 (by decide) ?_
      have hq : (sX3_placeOf f1 a0) = (f1 a0.toNatClampNeg) := by unfold sX3_placeOf; exact (if_neg c_1).trans ((if_pos c_2))
      exact jx_slret hx hb hr hlocks hq.symm dX3_placeOf_19

