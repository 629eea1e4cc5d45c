/-! ===== the objects by their fields: R the references, I the ints and booleans, L the longs, each by its slot ===== -/
def oX0 (R : Nat → Nat) (I : Nat → Int32) (L : Nat → Int64) : List Value := [.ref (R 0), .ref (R 1), .ref (R 2), .int (I 3), .int (I 4), .long (L 5), .long (L 6)]
def oX1 (R : Nat → Nat) (I : Nat → Int32) (L : Nat → Int64) : List Value := [.ref (R 0), .ref (R 1), .ref (R 2), .ref (R 3), .ref (R 4), .ref (R 5), .int (I 6), .long (L 7), .long (L 8), .int (I 9), .int (I 10)]
def oX2 (R : Nat → Nat) (I : Nat → Int32) (L : Nat → Int64) : List Value := [.ref (R 0), .ref (R 1), .int (I 2), .int (I 3), .int (I 4), .ref (R 5), .ref (R 6), .ref (R 7), .ref (R 8)]
def oX3 (R : Nat → Nat) (I : Nat → Int32) (L : Nat → Int64) : List Value := [.ref (R 0), .ref (R 1), .int (I 2)]
def oX4 (R : Nat → Nat) (I : Nat → Int32) (L : Nat → Int64) : List Value := [.int (I 0), .int (I 1), .int (I 2), .int (I 3), .int (I 4), .long (L 5)]
def oX5 (R : Nat → Nat) (I : Nat → Int32) (L : Nat → Int64) : List Value := [.ref (R 0), .int (I 1)]
def oX6 (R : Nat → Nat) (I : Nat → Int32) (L : Nat → Int64) : List Value := [.ref (R 0), .ref (R 1), .ref (R 2), .ref (R 3), .ref (R 4), .long (L 5), .int (I 6), .int (I 7), .int (I 8), .int (I 9), .int (I 10), .int (I 11)]
def oX7 (R : Nat → Nat) (I : Nat → Int32) (L : Nat → Int64) : List Value := [.int (I 0), .ref (R 1), .int (I 2), .ref (R 3), .ref (R 4), .ref (R 5), .ref (R 6), .ref (R 7), .ref (R 8), .int (I 9), .long (L 10), .ref (R 11), .ref (R 12), .ref (R 13), .int (I 14), .int (I 15), .ref (R 16), .ref (R 17), .int (I 18), .int (I 19), .int (I 20), .int (I 21), .int (I 22), .int (I 23), .int (I 24), .long (L 25), .int (I 26), .int (I 27), .int (I 28), .int (I 29), .int (I 30), .int (I 31), .long (L 32), .long (L 33), .long (L 34), .ref (R 35), .ref (R 36), .ref (R 37), .int (I 38), .ref (R 39), .ref (R 40), .ref (R 41), .int (I 42), .int (I 43)]
theorem jx_bn {x : Int32} (h : x = 0 ∨ x = 1) : narrow .boolean (.int x) = .int x := by rcases h with rfl | rfl <;> rfl
theorem jx_bf {x : Int32} (h : x = 0 ∨ x = 1) : fits .boolean (.int x) = true := by rcases h with rfl | rfl <;> rfl
theorem jx_inc {x : Int32} {N : Nat} (h0 : ¬ x < 0) (h1 : x.toInt < N) : vp_in x N := vp_in_iff.mpr ⟨by rw [Int32.lt_iff_toInt_lt] at h0; simpa using h0, h1⟩
theorem jx_inlt {x n : Int32} {N : Nat} (h0 : ¬ x < 0) (h1 : ¬ n ≤ x) (hn : n.toInt ≤ N) : vp_in x N := jx_inc h0 (by rw [Int32.le_iff_toInt_le] at h1; omega)
theorem jx_inlu {x n : Int32} {N : Nat} (h0 : ¬ x < 0) (h1 : x < n) (hn : n.toInt ≤ N) : vp_in x N := jx_inc h0 (by rw [Int32.lt_iff_toInt_lt] at h1; omega)
theorem jx_in2 {x : Int32} (h : x = 0 ∨ x = 1) : vp_in x 2 := by rcases h with rfl | rfl <;> (unfold vp_in; decide)
def sX4_stands (I : Nat → Int32) : Int32 := (if (I 1) = 0 then (1 : Int32) else (0 : Int32))
set_option maxRecDepth 20000 in
theorem iX4_stands_4 : ∀ w ∈ wsX40, w ∈ wsX4_stands := by decide +kernel
set_option maxHeartbeats 4000000 in
set_option maxRecDepth 100000 in
theorem kX4_stands (l : Launch) (D : va_G) (cI cJ cZ cD : ClassId) (tA : Nat) (h : Nat) (R : Nat → Nat) (I : Nat → Int32) (L : Nat → Int64) : jx_Ms l yX4_stands wsX4_stands ({ frames := 0, cells := 0, slots := 0, locals := 0 }) D (jT cI cJ cZ cD) tA [.ref h] [(h, .inr (4, (oX4 R I L)))] (vp_Si (fun r => r = (sX4_stands I))) := by
  refine jx_ofs (cc := cX4_stands) (maxL := 1) (ret := (some .boolean)) (by decide +kernel) rfl (Nat.le_of_ble_eq_true rfl) ?_
  intro p e s m below meth c A ls hx hb hr hlocks hml hown hts hK hP hD hA hS hX hl
  have hl : lv_has ls 1 [(0, .ref h)] := hl
  have hown : s.vm.findClass RX4 = some m.cls := hown
  have hk15 := hts (.fieldLink RX4 15 "LoomDesk$Shaft" "mode" "I") (by decide +kernel)
  refine lv_aload_n hx hb dX4_stands_0 rfl (lv_at hl 0 rfl) ?_
  refine jx_get (v := .int (I 1)) hx hb hts iX4_stands_4 hown hK hP 0 rfl rfl 1 (by decide) hk15 rfl rfl dX4_stands_1 ?_
  refine lv_if_ne (tgt := 11) hx hb dX4_stands_4 (by decide) (fun c_1 => ?_) (fun c_1 => ?_)
  · skip
    refine lv_iconst (v := 0) hx hb dX4_stands_11 (by decide) ?_
    have hq : (sX4_stands I) = (0 : Int32) := by unfold sX4_stands; exact (if_neg c_1)
    exact jx_szret hx hb hr hlocks hq.symm (Or.inl rfl) dX4_stands_12
  · skip
    refine lv_iconst (v := 1) hx hb dX4_stands_7 (by decide) ?_
    refine lv_goto (tgt := 12) hx hb dX4_stands_8 (by decide) ?_
    have hq : (sX4_stands I) = (1 : Int32) := by unfold sX4_stands; exact (if_pos c_1)
    exact jx_szret hx hb hr hlocks hq.symm (Or.inr rfl) dX4_stands_12

def sX4_stand (I : Nat → Int32) : (Nat → Int32) := (upd (upd I 1 (0 : Int32)) 2 (0 : Int32))
set_option maxRecDepth 20000 in
theorem iX4_stand_4 : ∀ w ∈ wsX40, w ∈ wsX4_stand := by decide +kernel
set_option maxHeartbeats 4000000 in
set_option maxRecDepth 100000 in
theorem kX4_stand (l : Launch) (D : va_G) (cI cJ cZ cD : ClassId) (tA : Nat) (h : Nat) (R : Nat → Nat) (I : Nat → Int32) (L : Nat → Int64) : jx_M l yX4_stand wsX4_stand ({ frames := 0, cells := 0, slots := 0, locals := 0 }) D (jT cI cJ cZ cD) tA [.ref h] [(h, .inr (4, (oX4 R I L)))] (jx_Qv D (jT cI cJ cZ cD) (fun (_ : Unit) => True) (fun _ => [(h, .inr (4, (oX4 R (sX4_stand I) L)))])) := by
  refine jx_of (cc := cX4_stand) (maxL := 1) (ret := none) (by decide +kernel) rfl (Nat.le_of_ble_eq_true rfl) ?_
  intro p e s m below meth c A ls hx hb hr hlocks hml hown hts hK hP hD hA hS hX hl
  have hl : lv_has ls 1 [(0, .ref h)] := hl
  have hown : s.vm.findClass RX4 = some m.cls := hown
  have hk15 := hts (.fieldLink RX4 15 "LoomDesk$Shaft" "mode" "I") (by decide +kernel)
  have hk18 := hts (.fieldLink RX4 18 "LoomDesk$Shaft" "toGo" "I") (by decide +kernel)
  refine lv_aload_n hx hb dX4_stand_0 rfl (lv_at hl 0 rfl) ?_
  refine lv_iconst (v := 0) hx hb dX4_stand_1 (by decide) ?_
  refine jx_put (w2 := [(h, .inr (4, (oX4 R (upd I 1 (0 : Int32)) L)))]) hx hb hts iX4_stand_4 tyX4 tyX4_ok nmX4 hown hK hP hD hS 0 rfl rfl 1 (by decide) hk15 rfl rfl rfl rfl (Nat.le_of_ble_eq_true rfl) dX4_stand_2 rfl (fun H locs hP hD hS => ?_)
  refine lv_aload_n hx hb dX4_stand_5 rfl (lv_at hl 0 rfl) ?_
  refine lv_iconst (v := 0) hx hb dX4_stand_6 (by decide) ?_
  refine jx_put (w2 := [(h, .inr (4, (oX4 R (upd (upd I 1 (0 : Int32)) 2 (0 : Int32)) L)))]) hx hb hts iX4_stand_4 tyX4 tyX4_ok nmX4 hown hK hP hD hS 0 rfl rfl 2 (by decide) hk18 rfl rfl rfl rfl (Nat.le_of_ble_eq_true rfl) dX4_stand_7 rfl (fun H locs hP hD hS => ?_)
  have hq : (sX4_stand I) = (upd (upd I 1 (0 : Int32)) 2 (0 : Int32)) := rfl
  exact jx_vret () hx hb hr hlocks hK hP hD hS (by rw [hq]) trivial dX4_stand_10

def sX4_orderBrake (I : Nat → Int32) : Int32 × (Nat → Int32) := (if (I 1) = (1 : Int32) then ((1 : Int32), (upd (upd (upd I 1 (2 : Int32)) 2 (I 3)) 4 ((I 4) + (1 : Int32)))) else ((0 : Int32), I))
set_option maxRecDepth 20000 in
theorem iX4_orderBrake_4 : ∀ w ∈ wsX40, w ∈ wsX4_orderBrake := by decide +kernel
set_option maxHeartbeats 4000000 in
set_option maxRecDepth 100000 in
theorem kX4_orderBrake (l : Launch) (D : va_G) (cI cJ cZ cD : ClassId) (tA : Nat) (h : Nat) (R : Nat → Nat) (I : Nat → Int32) (L : Nat → Int64) : jx_M l yX4_orderBrake wsX4_orderBrake ({ frames := 0, cells := 0, slots := 0, locals := 0 }) D (jT cI cJ cZ cD) tA [.ref h] [(h, .inr (4, (oX4 R I L)))] (jx_Qi D (jT cI cJ cZ cD) (fun r (_ : Unit) => r = (sX4_orderBrake I).1) (fun _ => [(h, .inr (4, (oX4 R (sX4_orderBrake I).2 L)))])) := by
  refine jx_of (cc := cX4_orderBrake) (maxL := 1) (ret := (some .boolean)) (by decide +kernel) rfl (Nat.le_of_ble_eq_true rfl) ?_
  intro p e s m below meth c A ls hx hb hr hlocks hml hown hts hK hP hD hA hS hX hl
  have hl : lv_has ls 1 [(0, .ref h)] := hl
  have hown : s.vm.findClass RX4 = some m.cls := hown
  have hk15 := hts (.fieldLink RX4 15 "LoomDesk$Shaft" "mode" "I") (by decide +kernel)
  have hk18 := hts (.fieldLink RX4 18 "LoomDesk$Shaft" "toGo" "I") (by decide +kernel)
  have hk21 := hts (.fieldLink RX4 21 "LoomDesk$Shaft" "pace" "I") (by decide +kernel)
  have hk24 := hts (.fieldLink RX4 24 "LoomDesk$Shaft" "orders" "I") (by decide +kernel)
  refine lv_aload_n hx hb dX4_orderBrake_0 rfl (lv_at hl 0 rfl) ?_
  refine jx_get (v := .int (I 1)) hx hb hts iX4_orderBrake_4 hown hK hP 0 rfl rfl 1 (by decide) hk15 rfl rfl dX4_orderBrake_1 ?_
  refine lv_iconst (v := 1) hx hb dX4_orderBrake_4 (by decide) ?_
  refine lv_icmp_eq (tgt := 10) hx hb dX4_orderBrake_5 (by decide) (fun c_1 => ?_) (fun c_1 => ?_)
  · skip
    refine lv_aload_n hx hb dX4_orderBrake_10 rfl (lv_at hl 0 rfl) ?_
    refine lv_iconst (v := 2) hx hb dX4_orderBrake_11 (by decide) ?_
    refine jx_put (w2 := [(h, .inr (4, (oX4 R (upd I 1 (2 : Int32)) L)))]) hx hb hts iX4_orderBrake_4 tyX4 tyX4_ok nmX4 hown hK hP hD hS 0 rfl rfl 1 (by decide) hk15 rfl rfl rfl rfl (Nat.le_of_ble_eq_true rfl) dX4_orderBrake_12 rfl (fun H locs hP hD hS => ?_)
    refine lv_aload_n hx hb dX4_orderBrake_15 rfl (lv_at hl 0 rfl) ?_
    refine lv_aload_n hx hb dX4_orderBrake_16 rfl (lv_at hl 0 rfl) ?_
    refine jx_get (v := .int (I 3)) hx hb hts iX4_orderBrake_4 hown hK hP 0 rfl rfl 3 (by decide) hk21 rfl rfl dX4_orderBrake_17 ?_
    refine jx_put (w2 := [(h, .inr (4, (oX4 R (upd (upd I 1 (2 : Int32)) 2 (I 3)) L)))]) hx hb hts iX4_orderBrake_4 tyX4 tyX4_ok nmX4 hown hK hP hD hS 0 rfl rfl 2 (by decide) hk18 rfl rfl rfl rfl (Nat.le_of_ble_eq_true rfl) dX4_orderBrake_20 rfl (fun H locs hP hD hS => ?_)
    refine lv_aload_n hx hb dX4_orderBrake_23 rfl (lv_at hl 0 rfl) ?_
    refine lv_dup hx hb dX4_orderBrake_24 rfl ?_
    refine jx_get (v := .int (I 4)) hx hb hts iX4_orderBrake_4 hown hK hP 0 rfl rfl 4 (by decide) hk24 rfl rfl dX4_orderBrake_25 ?_
    refine lv_iconst (v := 1) hx hb dX4_orderBrake_28 (by decide) ?_
    refine lv_iadd hx hb dX4_orderBrake_29 ?_
    refine lv_topi (fun v_2 ev_2 => ?_)
    refine jx_put (w2 := [(h, .inr (4, (oX4 R (upd (upd (upd I 1 (2 : Int32)) 2 (I 3)) 4 v_2) L)))]) hx hb hts iX4_orderBrake_4 tyX4 tyX4_ok nmX4 hown hK hP hD hS 0 rfl rfl 4 (by decide) hk24 rfl rfl rfl rfl (Nat.le_of_ble_eq_true rfl) dX4_orderBrake_30 rfl (fun H locs hP hD hS => ?_)
    refine lv_iconst (v := 1) hx hb dX4_orderBrake_33 (by decide) ?_
    have hq : (sX4_orderBrake I) = ((1 : Int32), (upd (upd (upd I 1 (2 : Int32)) 2 (I 3)) 4 v_2)) := by clear hP hD hl; have z_ := ev_2.symm; clear ev_2; subst z_; unfold sX4_orderBrake; exact (if_pos c_1)
    exact jx_zret () hx hb hr hlocks hK hP hD hS (by rw [hq]) (by rw [hq]) (Or.inr rfl) dX4_orderBrake_34
  · skip
    refine lv_iconst (v := 0) hx hb dX4_orderBrake_8 (by decide) ?_
    have hq : (sX4_orderBrake I) = ((0 : Int32), I) := by unfold sX4_orderBrake; exact (if_neg c_1)
    exact jx_zret () hx hb hr hlocks hK hP hD hS (by rw [hq]) (by rw [hq]) (Or.inl rfl) dX4_orderBrake_9

def sX4_markAbove (I : Nat → Int32) : Int32 := (if (480 : Int32) ≤ (I 0) then (if (1440 : Int32) ≤ (I 0) then (if (4800 : Int32) ≤ (I 0) then (5760 : Int32) else (4800 : Int32)) else (1440 : Int32)) else (480 : Int32))
set_option maxRecDepth 20000 in
theorem iX4_markAbove_4 : ∀ w ∈ wsX40, w ∈ wsX4_markAbove := by decide +kernel
set_option maxHeartbeats 4000000 in
set_option maxRecDepth 100000 in
theorem kX4_markAbove (l : Launch) (D : va_G) (cI cJ cZ cD : ClassId) (tA : Nat) (h : Nat) (R : Nat → Nat) (I : Nat → Int32) (L : Nat → Int64) : jx_Ms l yX4_markAbove wsX4_markAbove ({ frames := 0, cells := 0, slots := 0, locals := 0 }) D (jT cI cJ cZ cD) tA [.ref h] [(h, .inr (4, (oX4 R I L)))] (vp_Si (fun r => r = (sX4_markAbove I))) := by
  refine jx_ofs (cc := cX4_markAbove) (maxL := 1) (ret := (some .int)) (by decide +kernel) rfl (Nat.le_of_ble_eq_true rfl) ?_
  intro p e s m below meth c A ls hx hb hr hlocks hml hown hts hK hP hD hA hS hX hl
  have hl : lv_has ls 1 [(0, .ref h)] := hl
  have hown : s.vm.findClass RX4 = some m.cls := hown
  have hk9 := hts (.fieldLink RX4 9 "LoomDesk$Shaft" "at" "I") (by decide +kernel)
  refine lv_aload_n hx hb dX4_markAbove_0 rfl (lv_at hl 0 rfl) ?_
  refine jx_get (v := .int (I 0)) hx hb hts iX4_markAbove_4 hown hK hP 0 rfl rfl 0 (by decide) hk9 rfl rfl dX4_markAbove_1 ?_
  refine lv_sipush (v := 480) hx hb dX4_markAbove_4 (by decide) ?_
  refine lv_icmp_ge (tgt := 14) hx hb dX4_markAbove_7 (by decide) (fun c_1 => ?_) (fun c_1 => ?_)
  · skip
    refine lv_aload_n hx hb dX4_markAbove_14 rfl (lv_at hl 0 rfl) ?_
    refine jx_get (v := .int (I 0)) hx hb hts iX4_markAbove_4 hown hK hP 0 rfl rfl 0 (by decide) hk9 rfl rfl dX4_markAbove_15 ?_
    refine lv_sipush (v := 1440) hx hb dX4_markAbove_18 (by decide) ?_
    refine lv_icmp_ge (tgt := 28) hx hb dX4_markAbove_21 (by decide) (fun c_2 => ?_) (fun c_2 => ?_)
    · skip
      refine lv_aload_n hx hb dX4_markAbove_28 rfl (lv_at hl 0 rfl) ?_
      refine jx_get (v := .int (I 0)) hx hb hts iX4_markAbove_4 hown hK hP 0 rfl rfl 0 (by decide) hk9 rfl rfl dX4_markAbove_29 ?_
      refine lv_sipush (v := 4800) hx hb dX4_markAbove_32 (by decide) ?_
      refine lv_icmp_ge (tgt := 44) hx hb dX4_markAbove_35 (by decide) (fun c_3 => ?_) (fun c_3 => ?_)
      · skip
        refine lv_sipush (v := 5760) hx hb dX4_markAbove_44 (by decide) ?_
        have hq : (sX4_markAbove I) = (5760 : Int32) := by unfold sX4_markAbove; exact (if_pos c_1).trans ((if_pos c_2).trans ((if_pos c_3)))
        exact jx_siret hx hb hr hlocks hq.symm dX4_markAbove_47
      · skip
        refine lv_sipush (v := 4800) hx hb dX4_markAbove_38 (by decide) ?_
        refine lv_goto (tgt := 47) hx hb dX4_markAbove_41 (by decide) ?_
        have hq : (sX4_markAbove I) = (4800 : Int32) := by unfold sX4_markAbove; exact (if_pos c_1).trans ((if_pos c_2).trans ((if_neg c_3)))
        exact jx_siret hx hb hr hlocks hq.symm dX4_markAbove_47
    · skip
      refine lv_sipush (v := 1440) hx hb dX4_markAbove_24 (by decide) ?_
      have hq : (sX4_markAbove I) = (1440 : Int32) := by unfold sX4_markAbove; exact (if_pos c_1).trans ((if_neg c_2))
      exact jx_siret hx hb hr hlocks hq.symm dX4_markAbove_27
  · skip
    refine lv_sipush (v := 480) hx hb dX4_markAbove_10 (by decide) ?_
    have hq : (sX4_markAbove I) = (480 : Int32) := by unfold sX4_markAbove; exact (if_neg c_1)
    exact jx_siret hx hb hr hlocks hq.symm dX4_markAbove_13

def sX4_markBelow (a0 : Int32) : Int32 := (if a0 ≤ (4800 : Int32) then (if a0 ≤ (1440 : Int32) then (if a0 ≤ (480 : Int32) then (0 : Int32) else (480 : Int32)) else (1440 : Int32)) else (4800 : Int32))
set_option maxHeartbeats 4000000 in
set_option maxRecDepth 100000 in
theorem kX4_markBelow (l : Launch) (D : va_G) (cI cJ cZ cD : ClassId) (tA : Nat) (h : Nat) (R : Nat → Nat) (I : Nat → Int32) (L : Nat → Int64) (a0 : Int32) : jx_Ms l yX4_markBelow wsX4_markBelow ({ frames := 0, cells := 0, slots := 0, locals := 0 }) D (jT cI cJ cZ cD) tA [.ref h, .int a0] [(h, .inr (4, (oX4 R I L)))] (vp_Si (fun r => r = (sX4_markBelow a0))) := by
  refine jx_ofs (cc := cX4_markBelow) (maxL := 2) (ret := (some .int)) (by decide +kernel) rfl (Nat.le_of_ble_eq_true rfl) ?_
  intro p e s m below meth c A ls hx hb hr hlocks hml hown hts hK hP hD hA hS hX hl
  have hl : lv_has ls 2 [(0, .ref h), (1, .int a0)] := hl
  have hown : s.vm.findClass RX4 = some m.cls := hown
  refine lv_iload_n hx hb dX4_markBelow_0 rfl (lv_at hl 1 rfl) ?_
  refine lv_sipush (v := 4800) hx hb dX4_markBelow_1 (by decide) ?_
  refine lv_icmp_le (tgt := 11) hx hb dX4_markBelow_4 (by decide) (fun c_1 => ?_) (fun c_1 => ?_)
  · skip
    refine lv_iload_n hx hb dX4_markBelow_11 rfl (lv_at hl 1 rfl) ?_
    refine lv_sipush (v := 1440) hx hb dX4_markBelow_12 (by decide) ?_
    refine lv_icmp_le (tgt := 22) hx hb dX4_markBelow_15 (by decide) (fun c_2 => ?_) (fun c_2 => ?_)
    · skip
      refine lv_iload_n hx hb dX4_markBelow_22 rfl (lv_at hl 1 rfl) ?_
      refine lv_sipush (v := 480) hx hb dX4_markBelow_23 (by decide) ?_
      refine lv_icmp_le (tgt := 35) hx hb dX4_markBelow_26 (by decide) (fun c_3 => ?_) (fun c_3 => ?_)
      · skip
        refine lv_iconst (v := 0) hx hb dX4_markBelow_35 (by decide) ?_
        have hq : (sX4_markBelow a0) = (0 : Int32) := by unfold sX4_markBelow; exact (if_pos c_1).trans ((if_pos c_2).trans ((if_pos c_3)))
        exact jx_siret hx hb hr hlocks hq.symm dX4_markBelow_36
      · skip
        refine lv_sipush (v := 480) hx hb dX4_markBelow_29 (by decide) ?_
        refine lv_goto (tgt := 36) hx hb dX4_markBelow_32 (by decide) ?_
        have hq : (sX4_markBelow a0) = (480 : Int32) := by unfold sX4_markBelow; exact (if_pos c_1).trans ((if_pos c_2).trans ((if_neg c_3)))
        exact jx_siret hx hb hr hlocks hq.symm dX4_markBelow_36
    · skip
      refine lv_sipush (v := 1440) hx hb dX4_markBelow_18 (by decide) ?_
      have hq : (sX4_markBelow a0) = (1440 : Int32) := by unfold sX4_markBelow; exact (if_pos c_1).trans ((if_neg c_2))
      exact jx_siret hx hb hr hlocks hq.symm dX4_markBelow_21
  · skip
    refine lv_sipush (v := 4800) hx hb dX4_markBelow_7 (by decide) ?_
    have hq : (sX4_markBelow a0) = (4800 : Int32) := by unfold sX4_markBelow; exact (if_neg c_1)
    exact jx_siret hx hb hr hlocks hq.symm dX4_markBelow_10

def sX4_goTowards (I : Nat → Int32) (a0 : Int32) (a1 : Int32) : Int32 × (Nat → Int32) := (if (I 1) = (2 : Int32) then ((if (I 2) < (if a1 < (a0 - (I 0)) then a1 else (a0 - (I 0))) then (I 2) else (if a1 < (a0 - (I 0)) then a1 else (a0 - (I 0)))), (upd (upd I 0 ((I 0) + (if (I 2) < (if a1 < (a0 - (I 0)) then a1 else (a0 - (I 0))) then (I 2) else (if a1 < (a0 - (I 0)) then a1 else (a0 - (I 0)))))) 2 ((I 2) - (if (I 2) < (if a1 < (a0 - (I 0)) then a1 else (a0 - (I 0))) then (I 2) else (if a1 < (a0 - (I 0)) then a1 else (a0 - (I 0))))))) else ((if a1 < (a0 - (I 0)) then a1 else (a0 - (I 0))), (upd I 0 ((I 0) + (if a1 < (a0 - (I 0)) then a1 else (a0 - (I 0)))))))
set_option maxRecDepth 20000 in
theorem iX4_goTowards_4 : ∀ w ∈ wsX40, w ∈ wsX4_goTowards := by decide +kernel
set_option maxHeartbeats 4000000 in
set_option maxRecDepth 100000 in
theorem kX4_goTowards (l : Launch) (D : va_G) (cI cJ cZ cD : ClassId) (tA : Nat) (h : Nat) (R : Nat → Nat) (I : Nat → Int32) (L : Nat → Int64) (a0 : Int32) (a1 : Int32) : jx_M l yX4_goTowards wsX4_goTowards ({ frames := 1, cells := 0, slots := 0, locals := 21 }) D (jT cI cJ cZ cD) tA [.ref h, .int a0, .int a1] [(h, .inr (4, (oX4 R I L)))] (jx_Qi D (jT cI cJ cZ cD) (fun r (_ : Unit) => r = (sX4_goTowards I a0 a1).1) (fun _ => [(h, .inr (4, (oX4 R (sX4_goTowards I a0 a1).2 L)))])) := by
  refine jx_of (cc := cX4_goTowards) (maxL := 4) (ret := (some .int)) (by decide +kernel) rfl (Nat.le_of_ble_eq_true rfl) ?_
  intro p e s m below meth c A ls hx hb hr hlocks hml hown hts hK hP hD hA hS hX hl
  have hl : lv_has ls 4 [(0, .ref h), (1, .int a0), (2, .int a1)] := hl
  have hown : s.vm.findClass RX4 = some m.cls := hown
  have hk9 := hts (.fieldLink RX4 9 "LoomDesk$Shaft" "at" "I") (by decide +kernel)
  have hk15 := hts (.fieldLink RX4 15 "LoomDesk$Shaft" "mode" "I") (by decide +kernel)
  have hk18 := hts (.fieldLink RX4 18 "LoomDesk$Shaft" "toGo" "I") (by decide +kernel)
  refine lv_iload_n hx hb dX4_goTowards_0 rfl (lv_at hl 1 rfl) ?_
  refine lv_aload_n hx hb dX4_goTowards_1 rfl (lv_at hl 0 rfl) ?_
  refine jx_get (v := .int (I 0)) hx hb hts iX4_goTowards_4 hown hK hP 0 rfl rfl 0 (by decide) hk9 rfl rfl dX4_goTowards_2 ?_
  refine lv_isub hx hb dX4_goTowards_5 ?_
  refine lv_iload_n hx hb dX4_goTowards_6 rfl (lv_at hl 2 rfl) ?_
  refine va_mmin hx hb (hml.trans hl.1.symm) hown (hts (.methodLink RX4 31 Lib.Math.min.name) (by decide +kernel)) (hts (.static Lib.Math.min.name) (by decide +kernel)) (hts (.initialized "java/lang/Math") (by decide +kernel)) (hts (.code Lib.Math.min.name Lib.Math.min.code 2 (some .int)) (by decide +kernel)) (Nat.le_of_ble_eq_true rfl) (Nat.le_of_ble_eq_true rfl) (Nat.zero_le _) (Nat.zero_le _) dX4_goTowards_7 ?_
  refine lv_topi (fun v_1 ev_1 => ?_)
  refine lv_istore_n (lv' := [(3, .int v_1), (0, .ref h), (1, .int a0), (2, .int a1)]) hx hb dX4_goTowards_10 rfl hl (by decide) rfl (fun ls hl => ?_)
  refine lv_aload_n hx hb dX4_goTowards_11 rfl (lv_at hl 1 rfl) ?_
  refine jx_get (v := .int (I 1)) hx hb hts iX4_goTowards_4 hown hK hP 0 rfl rfl 1 (by decide) hk15 rfl rfl dX4_goTowards_12 ?_
  refine lv_iconst (v := 2) hx hb dX4_goTowards_15 (by decide) ?_
  refine lv_icmp_ne (tgt := 38) hx hb dX4_goTowards_16 (by decide) (fun c_2 => ?_) (fun c_2 => ?_)
  · skip
    refine lv_aload_n hx hb dX4_goTowards_38 rfl (lv_at hl 1 rfl) ?_
    refine lv_dup hx hb dX4_goTowards_39 rfl ?_
    refine jx_get (v := .int (I 0)) hx hb hts iX4_goTowards_4 hown hK hP 0 rfl rfl 0 (by decide) hk9 rfl rfl dX4_goTowards_40 ?_
    refine lv_iload_n hx hb dX4_goTowards_43 rfl (lv_at hl 0 rfl) ?_
    refine lv_iadd hx hb dX4_goTowards_44 ?_
    refine lv_topi (fun v_3 ev_3 => ?_)
    refine jx_put (w2 := [(h, .inr (4, (oX4 R (upd I 0 v_3) L)))]) hx hb hts iX4_goTowards_4 tyX4 tyX4_ok nmX4 hown hK hP hD hS 0 rfl rfl 0 (by decide) hk9 rfl rfl rfl rfl (Nat.le_of_ble_eq_true rfl) dX4_goTowards_45 rfl (fun H locs hP hD hS => ?_)
    refine lv_iload_n hx hb dX4_goTowards_48 rfl (lv_at hl 0 rfl) ?_
    have hq : (sX4_goTowards I a0 a1) = (v_1, (upd I 0 v_3)) := by clear hP hD hl; have z_ := ev_3.symm; clear ev_3; subst z_; have z_ := ev_1.symm; clear ev_1; subst z_; unfold sX4_goTowards; exact (if_neg c_2)
    exact jx_iret () hx hb hr hlocks hK hP hD hS (by rw [hq]) (by rw [hq]) dX4_goTowards_49
  · skip
    refine lv_iload_n hx hb dX4_goTowards_19 rfl (lv_at hl 0 rfl) ?_
    refine lv_aload_n hx hb dX4_goTowards_20 rfl (lv_at hl 1 rfl) ?_
    refine jx_get (v := .int (I 2)) hx hb hts iX4_goTowards_4 hown hK hP 0 rfl rfl 2 (by decide) hk18 rfl rfl dX4_goTowards_21 ?_
    refine va_mmin hx hb (hml.trans hl.1.symm) hown (hts (.methodLink RX4 31 Lib.Math.min.name) (by decide +kernel)) (hts (.static Lib.Math.min.name) (by decide +kernel)) (hts (.initialized "java/lang/Math") (by decide +kernel)) (hts (.code Lib.Math.min.name Lib.Math.min.code 2 (some .int)) (by decide +kernel)) (Nat.le_of_ble_eq_true rfl) (Nat.le_of_ble_eq_true rfl) (Nat.zero_le _) (Nat.zero_le _) dX4_goTowards_24 ?_
    refine lv_topi (fun v_4 ev_4 => ?_)
    refine lv_istore_n (lv' := [(3, .int v_4), (0, .ref h), (1, .int a0), (2, .int a1)]) hx hb dX4_goTowards_27 rfl hl (by decide) rfl (fun ls hl => ?_)
    refine lv_aload_n hx hb dX4_goTowards_28 rfl (lv_at hl 1 rfl) ?_
    refine lv_dup hx hb dX4_goTowards_29 rfl ?_
    refine jx_get (v := .int (I 2)) hx hb hts iX4_goTowards_4 hown hK hP 0 rfl rfl 2 (by decide) hk18 rfl rfl dX4_goTowards_30 ?_
    refine lv_iload_n hx hb dX4_goTowards_33 rfl (lv_at hl 0 rfl) ?_
    refine lv_isub hx hb dX4_goTowards_34 ?_
    refine lv_topi (fun v_5 ev_5 => ?_)
    refine jx_put (w2 := [(h, .inr (4, (oX4 R (upd I 2 v_5) L)))]) hx hb hts iX4_goTowards_4 tyX4 tyX4_ok nmX4 hown hK hP hD hS 0 rfl rfl 2 (by decide) hk18 rfl rfl rfl rfl (Nat.le_of_ble_eq_true rfl) dX4_goTowards_35 rfl (fun H locs hP hD hS => ?_)
    refine lv_aload_n hx hb dX4_goTowards_38 rfl (lv_at hl 1 rfl) ?_
    refine lv_dup hx hb dX4_goTowards_39 rfl ?_
    refine jx_get (v := .int (I 0)) hx hb hts iX4_goTowards_4 hown hK hP 0 rfl rfl 0 (by decide) hk9 rfl rfl dX4_goTowards_40 ?_
    refine lv_iload_n hx hb dX4_goTowards_43 rfl (lv_at hl 0 rfl) ?_
    refine lv_iadd hx hb dX4_goTowards_44 ?_
    refine lv_topi (fun v_6 ev_6 => ?_)
    refine jx_put (w2 := [(h, .inr (4, (oX4 R (upd (upd I 0 v_6) 2 v_5) L)))]) hx hb hts iX4_goTowards_4 tyX4 tyX4_ok nmX4 hown hK hP hD hS 0 rfl rfl 0 (by decide) hk9 rfl rfl rfl rfl (Nat.le_of_ble_eq_true rfl) dX4_goTowards_45 rfl (fun H locs hP hD hS => ?_)
    refine lv_iload_n hx hb dX4_goTowards_48 rfl (lv_at hl 0 rfl) ?_
    have hq : (sX4_goTowards I a0 a1) = (v_4, (upd (upd I 0 v_6) 2 v_5)) := by clear hP hD hl; have z_ := ev_6.symm; clear ev_6; subst z_; have z_ := ev_5.symm; clear ev_5; subst z_; have z_ := ev_4.symm; clear ev_4; subst z_; have z_ := ev_1.symm; clear ev_1; subst z_; unfold sX4_goTowards; exact (if_pos c_2)
    exact jx_iret () hx hb hr hlocks hK hP hD hS (by rw [hq]) (by rw [hq]) dX4_goTowards_49

def sX4_standWhenSpent (I : Nat → Int32) : (Nat → Int32) := (if (I 1) = (2 : Int32) then (if (I 2) = 0 then (sX4_stand I) else I) else I)
set_option maxRecDepth 20000 in
theorem iX4_standWhenSpent_4 : ∀ w ∈ wsX40, w ∈ wsX4_standWhenSpent := by decide +kernel
set_option maxHeartbeats 4000000 in
set_option maxRecDepth 100000 in
theorem kX4_standWhenSpent (l : Launch) (D : va_G) (cI cJ cZ cD : ClassId) (tA : Nat) (h : Nat) (R : Nat → Nat) (I : Nat → Int32) (L : Nat → Int64) : jx_M l yX4_standWhenSpent wsX4_standWhenSpent ({ frames := 1, cells := 0, slots := 0, locals := 20 }) D (jT cI cJ cZ cD) tA [.ref h] [(h, .inr (4, (oX4 R I L)))] (jx_Qv D (jT cI cJ cZ cD) (fun (_ : Unit) => True) (fun _ => [(h, .inr (4, (oX4 R (sX4_standWhenSpent I) L)))])) := by
  refine jx_of (cc := cX4_standWhenSpent) (maxL := 1) (ret := none) (by decide +kernel) rfl (Nat.le_of_ble_eq_true rfl) ?_
  intro p e s m below meth c A ls hx hb hr hlocks hml hown hts hK hP hD hA hS hX hl
  have hl : lv_has ls 1 [(0, .ref h)] := hl
  have hown : s.vm.findClass RX4 = some m.cls := hown
  have hk15 := hts (.fieldLink RX4 15 "LoomDesk$Shaft" "mode" "I") (by decide +kernel)
  have hk18 := hts (.fieldLink RX4 18 "LoomDesk$Shaft" "toGo" "I") (by decide +kernel)
  refine lv_aload_n hx hb dX4_standWhenSpent_0 rfl (lv_at hl 0 rfl) ?_
  refine jx_get (v := .int (I 1)) hx hb hts iX4_standWhenSpent_4 hown hK hP 0 rfl rfl 1 (by decide) hk15 rfl rfl dX4_standWhenSpent_1 ?_
  refine lv_iconst (v := 2) hx hb dX4_standWhenSpent_4 (by decide) ?_
  refine lv_icmp_ne (tgt := 19) hx hb dX4_standWhenSpent_5 (by decide) (fun c_1 => ?_) (fun c_1 => ?_)
  · skip
    have hq : (sX4_standWhenSpent I) = I := by unfold sX4_standWhenSpent; exact (if_neg c_1)
    exact jx_vret () hx hb hr hlocks hK hP hD hS (by rw [hq]) trivial dX4_standWhenSpent_19
  · skip
    refine lv_aload_n hx hb dX4_standWhenSpent_8 rfl (lv_at hl 0 rfl) ?_
    refine jx_get (v := .int (I 2)) hx hb hts iX4_standWhenSpent_4 hown hK hP 0 rfl rfl 2 (by decide) hk18 rfl rfl dX4_standWhenSpent_9 ?_
    refine lv_if_ne (tgt := 19) hx hb dX4_standWhenSpent_12 (by decide) (fun c_2 => ?_) (fun c_2 => ?_)
    · skip
      have hq : (sX4_standWhenSpent I) = I := by unfold sX4_standWhenSpent; exact (if_pos c_1).trans ((if_neg c_2))
      exact jx_vret () hx hb hr hlocks hK hP hD hS (by rw [hq]) trivial dX4_standWhenSpent_19
    · skip
      refine lv_aload_n hx hb dX4_standWhenSpent_15 rfl (lv_at hl 0 rfl) ?_
      refine jx_callv (wc := [(h, .inr (4, (oX4 R I L)))]) (wr := []) hP hD hS hA hK [0] [] rfl rfl (by decide) (by decide) (by decide) (fun hPc hDc hF => jx_runV (As := []) (rest := []) (n := 0) (ci := 4) (q0 := 0) hx hb hml hown hts hK hX hS hl.1 (kX4_stand l D cI cJ cZ cD tA h R I L) gX4_standWhenSpent_X4_stand rfl rfl rfl (by decide +kernel) ⟨Nat.le_of_ble_eq_true rfl, Nat.le_of_ble_eq_true rfl⟩ rfl rfl rfl rfl rfl (Nat.le_of_ble_eq_true rfl) dX4_standWhenSpent_16 ⟨Nat.zero_le _, Nat.zero_le _⟩ hPc hDc hF) (fun u H locs hw hP hD hS => ?_)
      obtain ⟨I_4, eI_4⟩ : ∃ x : (Nat → Int32), x = (sX4_stand I) := ⟨_, rfl⟩
      have hP : va_P D vwCl [(h, .inr (4, (oX4 R I_4 L)))] H := by rw [eI_4]; exact hP
      have hD : va_D A [(h, .inr (4, (oX4 R I_4 L)))] := by rw [eI_4]; exact hD
      have hq : (sX4_standWhenSpent I) = I_4 := by clear hP hD hl; have z_ := eI_4.symm; clear eI_4; subst z_; unfold sX4_standWhenSpent; exact (if_pos c_1).trans ((if_pos c_2))
      exact jx_vret () hx hb hr hlocks hK hP hD hS (by rw [hq]) trivial dX4_standWhenSpent_19

