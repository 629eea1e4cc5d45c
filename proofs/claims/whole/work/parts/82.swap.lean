set_option maxRecDepth 20000 in
theorem iX7_swap_7 : ∀ w ∈ wsX70, w ∈ wsX7_swap := by decide +kernel
set_option maxHeartbeats 4000000 in
set_option maxRecDepth 100000 in
theorem kX7_swap (l : Launch) (D : va_G) (cI cJ cZ cD : ClassId) (tA : Nat) (h : Nat) (R : Nat → Nat) (I : Nat → Int32) (L : Nat → Int64) (f3 : Nat → Int32) (f4 : Nat → Int32) (f5 : Nat → Int32) (f6 : Nat → Int32) (f7 : Nat → Int32) (f8 : Nat → Int64) (f11 : Nat → Int32) (f12 : Nat → Int32) (f13 : Nat → Int32) (h9 : (I 9).toInt ≤ 160) (h14 : (I 14).toInt ≤ 160) (h14a : 0 ≤ (I 14).toInt) (hrk : ldk_rOK (ldk_sw f5 f13 (ldk_most I).toNatClampNeg) (I 14 - 1)) (hrl : ldk_cOK (ldk_sw f5 f13 (ldk_most I).toNatClampNeg) (I 14) 161 0) : jx_M l yX7_swap wsX7_swap ({ frames := 2, cells := 0, slots := 0, locals := 45 }) D (jT cI cJ cZ cD) tA [.ref h] [(h, .inr (7, (oX7 R I L))), ((R 3), .inl (cI, 160, .inl f3)), ((R 4), .inl (cI, 160, .inl f4)), ((R 5), .inl (cI, 160, .inl f5)), ((R 6), .inl (cI, 160, .inl f6)), ((R 7), .inl (cI, 160, .inl f7)), ((R 8), .inl (cJ, 160, .inr (.inl f8))), ((R 11), .inl (cI, 160, .inl f11)), ((R 12), .inl (cI, 160, .inl f12)), ((R 13), .inl (cI, 160, .inl f13))] (jx_Qv D (jT cI cJ cZ cD) (fun (_ : Unit) => True) (fun _ => [(h, .inr (7, (oX7 R (sX7_swap I L f3 f4 f5 f6 f7 f8 f11 f12 f13).1 (sX7_swap I L f3 f4 f5 f6 f7 f8 f11 f12 f13).2.1))), ((R 3), .inl (cI, 160, .inl ((sX7_swap I L f3 f4 f5 f6 f7 f8 f11 f12 f13).2.2.1))), ((R 4), .inl (cI, 160, .inl ((sX7_swap I L f3 f4 f5 f6 f7 f8 f11 f12 f13).2.2.2.1))), ((R 5), .inl (cI, 160, .inl ((sX7_swap I L f3 f4 f5 f6 f7 f8 f11 f12 f13).2.2.2.2.1))), ((R 6), .inl (cI, 160, .inl ((sX7_swap I L f3 f4 f5 f6 f7 f8 f11 f12 f13).2.2.2.2.2.1))), ((R 7), .inl (cI, 160, .inl ((sX7_swap I L f3 f4 f5 f6 f7 f8 f11 f12 f13).2.2.2.2.2.2.1))), ((R 8), .inl (cJ, 160, .inr (.inl ((sX7_swap I L f3 f4 f5 f6 f7 f8 f11 f12 f13).2.2.2.2.2.2.2.1)))), ((R 11), .inl (cI, 160, .inl ((sX7_swap I L f3 f4 f5 f6 f7 f8 f11 f12 f13).2.2.2.2.2.2.2.2.1))), ((R 12), .inl (cI, 160, .inl ((sX7_swap I L f3 f4 f5 f6 f7 f8 f11 f12 f13).2.2.2.2.2.2.2.2.2.1))), ((R 13), .inl (cI, 160, .inl ((sX7_swap I L f3 f4 f5 f6 f7 f8 f11 f12 f13).2.2.2.2.2.2.2.2.2.2)))])) := by
  refine jx_of (cc := cX7_swap) (maxL := 6) (ret := none) (by decide +kernel) rfl (Nat.le_of_ble_eq_true rfl) ?_
  intro p e s m below meth c A ls hx hb hr hlocks hml hown hts hK hP hD hA hS hX hl
  have hl : lv_has ls 6 [(0, .ref h)] := hl
  have hown : s.vm.findClass RX7 = some m.cls := hown
  have hk13 := hts (.fieldLink RX7 13 "LoomDeskModel" "kind" "[I") (by decide +kernel)
  have hk16 := hts (.fieldLink RX7 16 "LoomDeskModel" "value" "[I") (by decide +kernel)
  have hk19 := hts (.fieldLink RX7 19 "LoomDeskModel" "end" "[I") (by decide +kernel)
  have hk32 := hts (.fieldLink RX7 32 "LoomDeskModel" "newKind" "[I") (by decide +kernel)
  have hk35 := hts (.fieldLink RX7 35 "LoomDeskModel" "newValue" "[I") (by decide +kernel)
  have hk38 := hts (.fieldLink RX7 38 "LoomDeskModel" "newEnd" "[I") (by decide +kernel)
  have hk93 := hts (.fieldLink RX7 93 "LoomDeskModel" "newItems" "I") (by decide +kernel)
  have hk134 := hts (.fieldLink RX7 134 "LoomDeskModel" "items" "I") (by decide +kernel)
  refine lv_aload_n hx hb dX7_swap_0 rfl (lv_at hl 0 rfl) ?_
  refine jx_get (v := .int (I 9)) hx hb hts iX7_swap_7 hown hK hP 0 rfl rfl 9 (by decide) hk134 rfl rfl dX7_swap_1 ?_
  refine lv_aload_n hx hb dX7_swap_4 rfl (lv_at hl 0 rfl) ?_
  refine jx_get (v := .int (I 14)) hx hb hts iX7_swap_7 hown hK hP 0 rfl rfl 14 (by decide) hk93 rfl rfl dX7_swap_5 ?_
  refine jx_joini (J := 22) (v := (if (I 9) ≤ (I 14) then (I 14) else (I 9))) (rest := []) (fun key => ?_) ?_
  · skip
    refine lv_icmp_le (tgt := 18) hx hb dX7_swap_8 (by decide) (fun c_1 => ?_) (fun c_1 => ?_)
    · skip
      refine lv_aload_n hx hb dX7_swap_18 rfl (lv_at hl 0 rfl) ?_
      refine jx_get (v := .int (I 14)) hx hb hts iX7_swap_7 hown hK hP 0 rfl rfl 14 (by decide) hk93 rfl rfl dX7_swap_19 ?_
      rw [if_pos c_1] at key
      exact key
    · skip
      refine lv_aload_n hx hb dX7_swap_11 rfl (lv_at hl 0 rfl) ?_
      refine jx_get (v := .int (I 9)) hx hb hts iX7_swap_7 hown hK hP 0 rfl rfl 9 (by decide) hk134 rfl rfl dX7_swap_12 ?_
      refine lv_goto (tgt := 22) hx hb dX7_swap_15 (by decide) ?_
      rw [if_neg c_1] at key
      exact key
  refine lv_topi (fun v_2 ev_2 => ?_)
  refine lv_istore_n (lv' := [(1, .int v_2), (0, .ref h)]) hx hb dX7_swap_22 rfl hl (by decide) rfl (fun ls hl => ?_)
  refine lv_iconst (v := 0) hx hb dX7_swap_23 (by decide) ?_
  refine lv_istore_n (lv' := [(2, .int (0 : Int32)), (1, .int v_2), (0, .ref h)]) hx hb dX7_swap_24 rfl hl (by decide) rfl (fun ls hl => ?_)
  refine jx_loop (σ := (Int32) × ((Nat → Int32)) × ((Nat → Int32)) × ((Nat → Int32)) × ((Nat → Int32)) × ((Nat → Int32)) × ((Nat → Int32)) × (Nat) × (Unit)) (fun x H locs ls => va_P D vwCl [(h, .inr (7, (oX7 R I L))), ((R 3), .inl (cI, 160, .inl x.2.1)), ((R 4), .inl (cI, 160, .inl x.2.2.1)), ((R 5), .inl (cI, 160, .inl x.2.2.2.1)), ((R 6), .inl (cI, 160, .inl f6)), ((R 7), .inl (cI, 160, .inl f7)), ((R 8), .inl (cJ, 160, .inr (.inl f8))), ((R 11), .inl (cI, 160, .inl x.2.2.2.2.1)), ((R 12), .inl (cI, 160, .inl x.2.2.2.2.2.1)), ((R 13), .inl (cI, 160, .inl x.2.2.2.2.2.2.1))] H ∧ va_D A [(h, .inr (7, (oX7 R I L))), ((R 3), .inl (cI, 160, .inl x.2.1)), ((R 4), .inl (cI, 160, .inl x.2.2.1)), ((R 5), .inl (cI, 160, .inl x.2.2.2.1)), ((R 6), .inl (cI, 160, .inl f6)), ((R 7), .inl (cI, 160, .inl f7)), ((R 8), .inl (cJ, 160, .inr (.inl f8))), ((R 11), .inl (cI, 160, .inl x.2.2.2.2.1)), ((R 12), .inl (cI, 160, .inl x.2.2.2.2.2.1)), ((R 13), .inl (cI, 160, .inl x.2.2.2.2.2.2.1))] ∧ va_S A s.heap H locs ∧ lv_has ls 6 [(0, .ref h), (1, .int v_2), (2, .int x.1)] ∧ (ldk_wI f3 f4 f5 f11 f12 f13 (ldk_most I) x.2.2.2.2.2.2.2.1 x.1 x.2.1 x.2.2.1 x.2.2.2.1 x.2.2.2.2.1 x.2.2.2.2.2.1 x.2.2.2.2.2.2.1)) (fun x => (ldk_most I).toNatClampNeg - x.2.2.2.2.2.2.2.1) ((0 : Int32), f3, f4, f5, f11, f12, f13, 0, ()) ⟨hP, hD, hS, lv_sub hl [2, 1, 0] rfl, (show ldk_wI f3 f4 f5 f11 f12 f13 (ldk_most I) 0 (0 : Int32) f3 f4 f5 f11 f12 f13 from ⟨rfl, Nat.zero_le _, (ldk_sw0 _ _).symm, (ldk_sw0 _ _).symm, (ldk_sw0 _ _).symm, (ldk_sw0 _ _).symm, (ldk_sw0 _ _).symm, (ldk_sw0 _ _).symm⟩)⟩ ?_
  intro x H locs ls hI ih
  obtain ⟨ii, p3, p4, p5, p11, p12, p13, kk, ux⟩ := x
  obtain ⟨hP, hD, hS, hl, hp⟩ := hI
  have hP : va_P D vwCl [(h, .inr (7, (oX7 R I L))), ((R 3), .inl (cI, 160, .inl p3)), ((R 4), .inl (cI, 160, .inl p4)), ((R 5), .inl (cI, 160, .inl p5)), ((R 6), .inl (cI, 160, .inl f6)), ((R 7), .inl (cI, 160, .inl f7)), ((R 8), .inl (cJ, 160, .inr (.inl f8))), ((R 11), .inl (cI, 160, .inl p11)), ((R 12), .inl (cI, 160, .inl p12)), ((R 13), .inl (cI, 160, .inl p13))] H := hP
  have hD : va_D A [(h, .inr (7, (oX7 R I L))), ((R 3), .inl (cI, 160, .inl p3)), ((R 4), .inl (cI, 160, .inl p4)), ((R 5), .inl (cI, 160, .inl p5)), ((R 6), .inl (cI, 160, .inl f6)), ((R 7), .inl (cI, 160, .inl f7)), ((R 8), .inl (cJ, 160, .inr (.inl f8))), ((R 11), .inl (cI, 160, .inl p11)), ((R 12), .inl (cI, 160, .inl p12)), ((R 13), .inl (cI, 160, .inl p13))] := hD
  have hl : lv_has ls 6 [(0, .ref h), (1, .int v_2), (2, .int ii)] := hl
  have hp : ldk_wI f3 f4 f5 f11 f12 f13 (ldk_most I) kk ii p3 p4 p5 p11 p12 p13 := hp
  refine lv_iload_n hx hb dX7_swap_25 rfl (lv_at hl 2 rfl) ?_
  refine lv_iload_n hx hb dX7_swap_26 rfl (lv_at hl 1 rfl) ?_
  refine lv_icmp_ge (tgt := 118) hx hb dX7_swap_27 (by decide) (fun c_3 => ?_) (fun c_3 => ?_)
  · skip
    refine lv_aload_n hx hb dX7_swap_118 rfl (lv_at hl 0 rfl) ?_
    refine jx_get (v := .int (I 9)) hx hb hts iX7_swap_7 hown hK hP 0 rfl rfl 9 (by decide) hk134 rfl rfl dX7_swap_119 ?_
    refine lv_istore_n (lv' := [(2, .int (I 9)), (0, .ref h), (1, .int v_2)]) hx hb dX7_swap_122 rfl hl (by decide) rfl (fun ls hl => ?_)
    refine lv_aload_n hx hb dX7_swap_123 rfl (lv_at hl 1 rfl) ?_
    refine lv_aload_n hx hb dX7_swap_124 rfl (lv_at hl 1 rfl) ?_
    refine jx_get (v := .int (I 14)) hx hb hts iX7_swap_7 hown hK hP 0 rfl rfl 14 (by decide) hk93 rfl rfl dX7_swap_125 ?_
    refine jx_put (w2 := [(h, .inr (7, (oX7 R (upd I 9 (I 14)) L))), ((R 3), .inl (cI, 160, .inl p3)), ((R 4), .inl (cI, 160, .inl p4)), ((R 5), .inl (cI, 160, .inl p5)), ((R 6), .inl (cI, 160, .inl f6)), ((R 7), .inl (cI, 160, .inl f7)), ((R 8), .inl (cJ, 160, .inr (.inl f8))), ((R 11), .inl (cI, 160, .inl p11)), ((R 12), .inl (cI, 160, .inl p12)), ((R 13), .inl (cI, 160, .inl p13))]) hx hb hts iX7_swap_7 tyX7 tyX7_ok nmX7 hown hK hP hD hS 0 rfl rfl 9 (by decide) hk134 rfl rfl rfl rfl (Nat.le_of_ble_eq_true rfl) dX7_swap_128 rfl (fun H locs hP hD hS => ?_)
    refine lv_aload_n hx hb dX7_swap_131 rfl (lv_at hl 1 rfl) ?_
    refine lv_iload_n hx hb dX7_swap_132 rfl (lv_at hl 0 rfl) ?_
    refine jx_put (w2 := [(h, .inr (7, (oX7 R (upd (upd I 9 (I 14)) 14 (I 9)) L))), ((R 3), .inl (cI, 160, .inl p3)), ((R 4), .inl (cI, 160, .inl p4)), ((R 5), .inl (cI, 160, .inl p5)), ((R 6), .inl (cI, 160, .inl f6)), ((R 7), .inl (cI, 160, .inl f7)), ((R 8), .inl (cJ, 160, .inr (.inl f8))), ((R 11), .inl (cI, 160, .inl p11)), ((R 12), .inl (cI, 160, .inl p12)), ((R 13), .inl (cI, 160, .inl p13))]) hx hb hts iX7_swap_7 tyX7 tyX7_ok nmX7 hown hK hP hD hS 0 rfl rfl 14 (by decide) hk93 rfl rfl rfl rfl (Nat.le_of_ble_eq_true rfl) dX7_swap_133 rfl (fun H locs hP hD hS => ?_)
    refine lv_aload_n hx hb dX7_swap_136 rfl (lv_at hl 1 rfl) ?_
    refine jx_callv (wc := [(h, .inr (7, (oX7 R (upd (upd I 9 (I 14)) 14 (I 9)) L))), ((R 3), .inl (cI, 160, .inl p3)), ((R 4), .inl (cI, 160, .inl p4)), ((R 5), .inl (cI, 160, .inl p5)), ((R 6), .inl (cI, 160, .inl f6)), ((R 7), .inl (cI, 160, .inl f7)), ((R 8), .inl (cJ, 160, .inr (.inl f8)))]) (wr := [((R 11), .inl (cI, 160, .inl p11)), ((R 12), .inl (cI, 160, .inl p12)), ((R 13), .inl (cI, 160, .inl p13))]) hP hD hS hA hK [0, 1, 2, 3, 4, 5, 6] [7, 8, 9] rfl rfl (by decide) (by decide) (by decide) (fun hPc hDc hF => jx_runV (As := []) (rest := []) (n := 0) (ci := 7) (q0 := 0) hx hb hml hown hts hK hX hS hl.1 (kX7_reckon l D cI cJ cZ cD tA h R (upd (upd I 9 (I 14)) 14 (I 9)) L p3 p4 p5 f6 f7 f8 (by clear hP hD hl; have z_ := ev_2.symm; clear ev_2; subst z_; exact h14a) (by have q_ := ldk_wI_end hp (by clear hP hD hl; have z_ := ev_2.symm; clear ev_2; subst z_; exact c_3); clear hP hD hl; have z_ := ev_2.symm; clear ev_2; subst z_;  rw [q_.2.2.1]; exact hrk) (by have q_ := ldk_wI_end hp (by clear hP hD hl; have z_ := ev_2.symm; clear ev_2; subst z_; exact c_3); clear hP hD hl; have z_ := ev_2.symm; clear ev_2; subst z_;  rw [q_.2.2.1]; exact hrl)) gX7_swap_X7_reckon rfl rfl rfl (by decide +kernel) ⟨Nat.le_of_ble_eq_true rfl, Nat.le_of_ble_eq_true rfl⟩ rfl rfl rfl rfl rfl (Nat.le_of_ble_eq_true rfl) dX7_swap_137 ⟨Nat.zero_le _, Nat.zero_le _⟩ hPc hDc hF) (fun u H locs hw hP hD hS => ?_)
    obtain ⟨L_5, eL_5⟩ : ∃ x : (Nat → Int64), x = (sX7_reckon (upd (upd I 9 (I 14)) 14 (I 9)) L p3 p4 p5 f6 f7 f8).1 := ⟨_, rfl⟩
    obtain ⟨f_6, ef_6⟩ : ∃ x : (Nat → Int32), x = (sX7_reckon (upd (upd I 9 (I 14)) 14 (I 9)) L p3 p4 p5 f6 f7 f8).2.1 := ⟨_, rfl⟩
    obtain ⟨f_7, ef_7⟩ : ∃ x : (Nat → Int32), x = (sX7_reckon (upd (upd I 9 (I 14)) 14 (I 9)) L p3 p4 p5 f6 f7 f8).2.2.1 := ⟨_, rfl⟩
    obtain ⟨f_8, ef_8⟩ : ∃ x : (Nat → Int64), x = (sX7_reckon (upd (upd I 9 (I 14)) 14 (I 9)) L p3 p4 p5 f6 f7 f8).2.2.2 := ⟨_, rfl⟩
    have hP : va_P D vwCl [((R 11), .inl (cI, 160, .inl p11)), ((R 12), .inl (cI, 160, .inl p12)), ((R 13), .inl (cI, 160, .inl p13)), (h, .inr (7, (oX7 R (upd (upd I 9 (I 14)) 14 (I 9)) L_5))), ((R 3), .inl (cI, 160, .inl p3)), ((R 4), .inl (cI, 160, .inl p4)), ((R 5), .inl (cI, 160, .inl p5)), ((R 6), .inl (cI, 160, .inl f_6)), ((R 7), .inl (cI, 160, .inl f_7)), ((R 8), .inl (cJ, 160, .inr (.inl f_8)))] H := by rw [eL_5, ef_6, ef_7, ef_8]; exact hP
    have hD : va_D A [((R 11), .inl (cI, 160, .inl p11)), ((R 12), .inl (cI, 160, .inl p12)), ((R 13), .inl (cI, 160, .inl p13)), (h, .inr (7, (oX7 R (upd (upd I 9 (I 14)) 14 (I 9)) L_5))), ((R 3), .inl (cI, 160, .inl p3)), ((R 4), .inl (cI, 160, .inl p4)), ((R 5), .inl (cI, 160, .inl p5)), ((R 6), .inl (cI, 160, .inl f_6)), ((R 7), .inl (cI, 160, .inl f_7)), ((R 8), .inl (cJ, 160, .inr (.inl f_8)))] := by rw [eL_5, ef_6, ef_7, ef_8]; exact hD
    have hq : (sX7_swap I L f3 f4 f5 f6 f7 f8 f11 f12 f13) = ((upd (upd I 9 (I 14)) 14 (I 9)), L_5, p3, p4, p5, f_6, f_7, f_8, p11, p12, p13) := (by obtain ⟨q1, q2, q3, q4, q5, q6⟩ := ldk_wI_end hp (by clear hP hD hl; have z_ := ef_8.symm; clear ef_8; subst z_; have z_ := ef_7.symm; clear ef_7; subst z_; have z_ := ef_6.symm; clear ef_6; subst z_; have z_ := eL_5.symm; clear eL_5; subst z_; have z_ := ev_2.symm; clear ev_2; subst z_; exact c_3); subst q1; subst q2; subst q3; subst q4; subst q5; subst q6; clear hP hD hl; have z_ := ef_8.symm; clear ef_8; subst z_; have z_ := ef_7.symm; clear ef_7; subst z_; have z_ := ef_6.symm; clear ef_6; subst z_; have z_ := eL_5.symm; clear eL_5; subst z_; have z_ := ev_2.symm; clear ev_2; subst z_; rfl)
    exact jx_vret () hx hb hr hlocks hK (hP.sub (ws' := [(h, .inr (7, (oX7 R (upd (upd I 9 (I 14)) 14 (I 9)) L_5))), ((R 3), .inl (cI, 160, .inl p3)), ((R 4), .inl (cI, 160, .inl p4)), ((R 5), .inl (cI, 160, .inl p5)), ((R 6), .inl (cI, 160, .inl f_6)), ((R 7), .inl (cI, 160, .inl f_7)), ((R 8), .inl (cJ, 160, .inr (.inl f_8))), ((R 11), .inl (cI, 160, .inl p11)), ((R 12), .inl (cI, 160, .inl p12)), ((R 13), .inl (cI, 160, .inl p13))]) [3, 4, 5, 6, 7, 8, 9, 0, 1, 2] rfl) (hD.sub (ws' := [(h, .inr (7, (oX7 R (upd (upd I 9 (I 14)) 14 (I 9)) L_5))), ((R 3), .inl (cI, 160, .inl p3)), ((R 4), .inl (cI, 160, .inl p4)), ((R 5), .inl (cI, 160, .inl p5)), ((R 6), .inl (cI, 160, .inl f_6)), ((R 7), .inl (cI, 160, .inl f_7)), ((R 8), .inl (cJ, 160, .inr (.inl f_8))), ((R 11), .inl (cI, 160, .inl p11)), ((R 12), .inl (cI, 160, .inl p12)), ((R 13), .inl (cI, 160, .inl p13))]) [3, 4, 5, 6, 7, 8, 9, 0, 1, 2] (by decide) rfl) hS (by rw [hq]) trivial dX7_swap_140
  · skip
    refine lv_aload_n hx hb dX7_swap_30 rfl (lv_at hl 0 rfl) ?_
    refine jx_get (v := .ref (R 3)) hx hb hts iX7_swap_7 hown hK hP 0 rfl rfl 3 (by decide) hk13 rfl rfl dX7_swap_31 ?_
    refine lv_iload_n hx hb dX7_swap_34 rfl (lv_at hl 2 rfl) ?_
    refine va_iald hx hb hK hP 1 0 rfl rfl (by clear hP hD hl; have z_ := ev_2.symm; clear ev_2; subst z_; exact ldk_wI_in hp c_3 (ldk_most_le h9 h14)) dX7_swap_35 ?_
    refine lv_topi (fun v_9 ev_9 => ?_)
    refine lv_istore_n (lv' := [(3, .int v_9), (0, .ref h), (1, .int v_2), (2, .int ii)]) hx hb dX7_swap_36 rfl hl (by decide) rfl (fun ls hl => ?_)
    refine lv_aload_n hx hb dX7_swap_37 rfl (lv_at hl 1 rfl) ?_
    refine jx_get (v := .ref (R 4)) hx hb hts iX7_swap_7 hown hK hP 0 rfl rfl 4 (by decide) hk16 rfl rfl dX7_swap_38 ?_
    refine lv_iload_n hx hb dX7_swap_41 rfl (lv_at hl 3 rfl) ?_
    refine va_iald hx hb hK hP 2 0 rfl rfl (by clear hP hD hl; have z_ := ev_9.symm; clear ev_9; subst z_; have z_ := ev_2.symm; clear ev_2; subst z_; exact ldk_wI_in hp c_3 (ldk_most_le h9 h14)) dX7_swap_42 ?_
    refine lv_topi (fun v_10 ev_10 => ?_)
    refine lv_istore (lv' := [(4, .int v_10), (3, .int v_9), (0, .ref h), (1, .int v_2), (2, .int ii)]) hx hb dX7_swap_43 hl (by decide) rfl (fun ls hl => ?_)
    refine lv_aload_n hx hb dX7_swap_45 rfl (lv_at hl 2 rfl) ?_
    refine jx_get (v := .ref (R 5)) hx hb hts iX7_swap_7 hown hK hP 0 rfl rfl 5 (by decide) hk19 rfl rfl dX7_swap_46 ?_
    refine lv_iload_n hx hb dX7_swap_49 rfl (lv_at hl 4 rfl) ?_
    refine va_iald hx hb hK hP 3 0 rfl rfl (by clear hP hD hl; have z_ := ev_10.symm; clear ev_10; subst z_; have z_ := ev_9.symm; clear ev_9; subst z_; have z_ := ev_2.symm; clear ev_2; subst z_; exact ldk_wI_in hp c_3 (ldk_most_le h9 h14)) dX7_swap_50 ?_
    refine lv_topi (fun v_11 ev_11 => ?_)
    refine lv_istore (lv' := [(5, .int v_11), (4, .int v_10), (3, .int v_9), (0, .ref h), (1, .int v_2), (2, .int ii)]) hx hb dX7_swap_51 hl (by decide) rfl (fun ls hl => ?_)
    refine lv_aload_n hx hb dX7_swap_53 rfl (lv_at hl 3 rfl) ?_
    refine jx_get (v := .ref (R 3)) hx hb hts iX7_swap_7 hown hK hP 0 rfl rfl 3 (by decide) hk13 rfl rfl dX7_swap_54 ?_
    refine lv_iload_n hx hb dX7_swap_57 rfl (lv_at hl 5 rfl) ?_
    refine lv_aload_n hx hb dX7_swap_58 rfl (lv_at hl 3 rfl) ?_
    refine jx_get (v := .ref (R 11)) hx hb hts iX7_swap_7 hown hK hP 0 rfl rfl 11 (by decide) hk32 rfl rfl dX7_swap_59 ?_
    refine lv_iload_n hx hb dX7_swap_62 rfl (lv_at hl 5 rfl) ?_
    refine va_iald hx hb hK hP 7 0 rfl rfl (by clear hP hD hl; have z_ := ev_11.symm; clear ev_11; subst z_; have z_ := ev_10.symm; clear ev_10; subst z_; have z_ := ev_9.symm; clear ev_9; subst z_; have z_ := ev_2.symm; clear ev_2; subst z_; exact ldk_wI_in hp c_3 (ldk_most_le h9 h14)) dX7_swap_63 ?_
    refine lv_topi (fun v_12 ev_12 => ?_)
    refine jx_iast (w2 := [(h, .inr (7, (oX7 R I L))), ((R 3), .inl (cI, 160, .inl (upd p3 ii.toNatClampNeg v_12))), ((R 4), .inl (cI, 160, .inl p4)), ((R 5), .inl (cI, 160, .inl p5)), ((R 6), .inl (cI, 160, .inl f6)), ((R 7), .inl (cI, 160, .inl f7)), ((R 8), .inl (cJ, 160, .inr (.inl f8))), ((R 11), .inl (cI, 160, .inl p11)), ((R 12), .inl (cI, 160, .inl p12)), ((R 13), .inl (cI, 160, .inl p13))]) hx hb hK hP hD hS 1 0 rfl rfl (by clear hP hD hl; have z_ := ev_12.symm; clear ev_12; subst z_; have z_ := ev_11.symm; clear ev_11; subst z_; have z_ := ev_10.symm; clear ev_10; subst z_; have z_ := ev_9.symm; clear ev_9; subst z_; have z_ := ev_2.symm; clear ev_2; subst z_; exact ldk_wI_in hp c_3 (ldk_most_le h9 h14)) dX7_swap_64 rfl (fun H locs hP hD hS => ?_)
    refine lv_aload_n hx hb dX7_swap_65 rfl (lv_at hl 3 rfl) ?_
    refine jx_get (v := .ref (R 4)) hx hb hts iX7_swap_7 hown hK hP 0 rfl rfl 4 (by decide) hk16 rfl rfl dX7_swap_66 ?_
    refine lv_iload_n hx hb dX7_swap_69 rfl (lv_at hl 5 rfl) ?_
    refine lv_aload_n hx hb dX7_swap_70 rfl (lv_at hl 3 rfl) ?_
    refine jx_get (v := .ref (R 12)) hx hb hts iX7_swap_7 hown hK hP 0 rfl rfl 12 (by decide) hk35 rfl rfl dX7_swap_71 ?_
    refine lv_iload_n hx hb dX7_swap_74 rfl (lv_at hl 5 rfl) ?_
    refine va_iald hx hb hK hP 8 0 rfl rfl (by clear hP hD hl; have z_ := ev_12.symm; clear ev_12; subst z_; have z_ := ev_11.symm; clear ev_11; subst z_; have z_ := ev_10.symm; clear ev_10; subst z_; have z_ := ev_9.symm; clear ev_9; subst z_; have z_ := ev_2.symm; clear ev_2; subst z_; exact ldk_wI_in hp c_3 (ldk_most_le h9 h14)) dX7_swap_75 ?_
    refine lv_topi (fun v_13 ev_13 => ?_)
    refine jx_iast (w2 := [(h, .inr (7, (oX7 R I L))), ((R 3), .inl (cI, 160, .inl (upd p3 ii.toNatClampNeg v_12))), ((R 4), .inl (cI, 160, .inl (upd p4 ii.toNatClampNeg v_13))), ((R 5), .inl (cI, 160, .inl p5)), ((R 6), .inl (cI, 160, .inl f6)), ((R 7), .inl (cI, 160, .inl f7)), ((R 8), .inl (cJ, 160, .inr (.inl f8))), ((R 11), .inl (cI, 160, .inl p11)), ((R 12), .inl (cI, 160, .inl p12)), ((R 13), .inl (cI, 160, .inl p13))]) hx hb hK hP hD hS 2 0 rfl rfl (by clear hP hD hl; have z_ := ev_13.symm; clear ev_13; subst z_; have z_ := ev_12.symm; clear ev_12; subst z_; have z_ := ev_11.symm; clear ev_11; subst z_; have z_ := ev_10.symm; clear ev_10; subst z_; have z_ := ev_9.symm; clear ev_9; subst z_; have z_ := ev_2.symm; clear ev_2; subst z_; exact ldk_wI_in hp c_3 (ldk_most_le h9 h14)) dX7_swap_76 rfl (fun H locs hP hD hS => ?_)
    refine lv_aload_n hx hb dX7_swap_77 rfl (lv_at hl 3 rfl) ?_
    refine jx_get (v := .ref (R 5)) hx hb hts iX7_swap_7 hown hK hP 0 rfl rfl 5 (by decide) hk19 rfl rfl dX7_swap_78 ?_
    refine lv_iload_n hx hb dX7_swap_81 rfl (lv_at hl 5 rfl) ?_
    refine lv_aload_n hx hb dX7_swap_82 rfl (lv_at hl 3 rfl) ?_
    refine jx_get (v := .ref (R 13)) hx hb hts iX7_swap_7 hown hK hP 0 rfl rfl 13 (by decide) hk38 rfl rfl dX7_swap_83 ?_
    refine lv_iload_n hx hb dX7_swap_86 rfl (lv_at hl 5 rfl) ?_
    refine va_iald hx hb hK hP 9 0 rfl rfl (by clear hP hD hl; have z_ := ev_13.symm; clear ev_13; subst z_; have z_ := ev_12.symm; clear ev_12; subst z_; have z_ := ev_11.symm; clear ev_11; subst z_; have z_ := ev_10.symm; clear ev_10; subst z_; have z_ := ev_9.symm; clear ev_9; subst z_; have z_ := ev_2.symm; clear ev_2; subst z_; exact ldk_wI_in hp c_3 (ldk_most_le h9 h14)) dX7_swap_87 ?_
    refine lv_topi (fun v_14 ev_14 => ?_)
    refine jx_iast (w2 := [(h, .inr (7, (oX7 R I L))), ((R 3), .inl (cI, 160, .inl (upd p3 ii.toNatClampNeg v_12))), ((R 4), .inl (cI, 160, .inl (upd p4 ii.toNatClampNeg v_13))), ((R 5), .inl (cI, 160, .inl (upd p5 ii.toNatClampNeg v_14))), ((R 6), .inl (cI, 160, .inl f6)), ((R 7), .inl (cI, 160, .inl f7)), ((R 8), .inl (cJ, 160, .inr (.inl f8))), ((R 11), .inl (cI, 160, .inl p11)), ((R 12), .inl (cI, 160, .inl p12)), ((R 13), .inl (cI, 160, .inl p13))]) hx hb hK hP hD hS 3 0 rfl rfl (by clear hP hD hl; have z_ := ev_14.symm; clear ev_14; subst z_; have z_ := ev_13.symm; clear ev_13; subst z_; have z_ := ev_12.symm; clear ev_12; subst z_; have z_ := ev_11.symm; clear ev_11; subst z_; have z_ := ev_10.symm; clear ev_10; subst z_; have z_ := ev_9.symm; clear ev_9; subst z_; have z_ := ev_2.symm; clear ev_2; subst z_; exact ldk_wI_in hp c_3 (ldk_most_le h9 h14)) dX7_swap_88 rfl (fun H locs hP hD hS => ?_)
    refine lv_aload_n hx hb dX7_swap_89 rfl (lv_at hl 3 rfl) ?_
    refine jx_get (v := .ref (R 11)) hx hb hts iX7_swap_7 hown hK hP 0 rfl rfl 11 (by decide) hk32 rfl rfl dX7_swap_90 ?_
    refine lv_iload_n hx hb dX7_swap_93 rfl (lv_at hl 5 rfl) ?_
    refine lv_iload_n hx hb dX7_swap_94 rfl (lv_at hl 2 rfl) ?_
    refine jx_iast (w2 := [(h, .inr (7, (oX7 R I L))), ((R 3), .inl (cI, 160, .inl (upd p3 ii.toNatClampNeg v_12))), ((R 4), .inl (cI, 160, .inl (upd p4 ii.toNatClampNeg v_13))), ((R 5), .inl (cI, 160, .inl (upd p5 ii.toNatClampNeg v_14))), ((R 6), .inl (cI, 160, .inl f6)), ((R 7), .inl (cI, 160, .inl f7)), ((R 8), .inl (cJ, 160, .inr (.inl f8))), ((R 11), .inl (cI, 160, .inl (upd p11 ii.toNatClampNeg v_9))), ((R 12), .inl (cI, 160, .inl p12)), ((R 13), .inl (cI, 160, .inl p13))]) hx hb hK hP hD hS 7 0 rfl rfl (by clear hP hD hl; have z_ := ev_14.symm; clear ev_14; subst z_; have z_ := ev_13.symm; clear ev_13; subst z_; have z_ := ev_12.symm; clear ev_12; subst z_; have z_ := ev_11.symm; clear ev_11; subst z_; have z_ := ev_10.symm; clear ev_10; subst z_; have z_ := ev_9.symm; clear ev_9; subst z_; have z_ := ev_2.symm; clear ev_2; subst z_; exact ldk_wI_in hp c_3 (ldk_most_le h9 h14)) dX7_swap_95 rfl (fun H locs hP hD hS => ?_)
    refine lv_aload_n hx hb dX7_swap_96 rfl (lv_at hl 3 rfl) ?_
    refine jx_get (v := .ref (R 12)) hx hb hts iX7_swap_7 hown hK hP 0 rfl rfl 12 (by decide) hk35 rfl rfl dX7_swap_97 ?_
    refine lv_iload_n hx hb dX7_swap_100 rfl (lv_at hl 5 rfl) ?_
    refine lv_iload hx hb dX7_swap_101 (lv_at hl 1 rfl) ?_
    refine jx_iast (w2 := [(h, .inr (7, (oX7 R I L))), ((R 3), .inl (cI, 160, .inl (upd p3 ii.toNatClampNeg v_12))), ((R 4), .inl (cI, 160, .inl (upd p4 ii.toNatClampNeg v_13))), ((R 5), .inl (cI, 160, .inl (upd p5 ii.toNatClampNeg v_14))), ((R 6), .inl (cI, 160, .inl f6)), ((R 7), .inl (cI, 160, .inl f7)), ((R 8), .inl (cJ, 160, .inr (.inl f8))), ((R 11), .inl (cI, 160, .inl (upd p11 ii.toNatClampNeg v_9))), ((R 12), .inl (cI, 160, .inl (upd p12 ii.toNatClampNeg v_10))), ((R 13), .inl (cI, 160, .inl p13))]) hx hb hK hP hD hS 8 0 rfl rfl (by clear hP hD hl; have z_ := ev_14.symm; clear ev_14; subst z_; have z_ := ev_13.symm; clear ev_13; subst z_; have z_ := ev_12.symm; clear ev_12; subst z_; have z_ := ev_11.symm; clear ev_11; subst z_; have z_ := ev_10.symm; clear ev_10; subst z_; have z_ := ev_9.symm; clear ev_9; subst z_; have z_ := ev_2.symm; clear ev_2; subst z_; exact ldk_wI_in hp c_3 (ldk_most_le h9 h14)) dX7_swap_103 rfl (fun H locs hP hD hS => ?_)
    refine lv_aload_n hx hb dX7_swap_104 rfl (lv_at hl 3 rfl) ?_
    refine jx_get (v := .ref (R 13)) hx hb hts iX7_swap_7 hown hK hP 0 rfl rfl 13 (by decide) hk38 rfl rfl dX7_swap_105 ?_
    refine lv_iload_n hx hb dX7_swap_108 rfl (lv_at hl 5 rfl) ?_
    refine lv_iload hx hb dX7_swap_109 (lv_at hl 0 rfl) ?_
    refine jx_iast (w2 := [(h, .inr (7, (oX7 R I L))), ((R 3), .inl (cI, 160, .inl (upd p3 ii.toNatClampNeg v_12))), ((R 4), .inl (cI, 160, .inl (upd p4 ii.toNatClampNeg v_13))), ((R 5), .inl (cI, 160, .inl (upd p5 ii.toNatClampNeg v_14))), ((R 6), .inl (cI, 160, .inl f6)), ((R 7), .inl (cI, 160, .inl f7)), ((R 8), .inl (cJ, 160, .inr (.inl f8))), ((R 11), .inl (cI, 160, .inl (upd p11 ii.toNatClampNeg v_9))), ((R 12), .inl (cI, 160, .inl (upd p12 ii.toNatClampNeg v_10))), ((R 13), .inl (cI, 160, .inl (upd p13 ii.toNatClampNeg v_11)))]) hx hb hK hP hD hS 9 0 rfl rfl (by clear hP hD hl; have z_ := ev_14.symm; clear ev_14; subst z_; have z_ := ev_13.symm; clear ev_13; subst z_; have z_ := ev_12.symm; clear ev_12; subst z_; have z_ := ev_11.symm; clear ev_11; subst z_; have z_ := ev_10.symm; clear ev_10; subst z_; have z_ := ev_9.symm; clear ev_9; subst z_; have z_ := ev_2.symm; clear ev_2; subst z_; exact ldk_wI_in hp c_3 (ldk_most_le h9 h14)) dX7_swap_111 rfl (fun H locs hP hD hS => ?_)
    obtain ⟨v_15, ev_15⟩ : ∃ y : Int32, y = ii + (1 : Int32) := ⟨_, rfl⟩
    refine lv_iinc (v := v_15) (lv' := [(2, .int v_15), (5, .int v_11), (4, .int v_10), (3, .int v_9), (0, .ref h), (1, .int v_2)]) hx hb dX7_swap_112 hl (k := 5) rfl (by rw [ev_15]; rfl) (by decide) rfl (fun ls hl => ?_)
    refine lv_goto (tgt := 25) hx hb dX7_swap_115 (by decide) ?_
    exact ih (v_15, (upd p3 ii.toNatClampNeg v_12), (upd p4 ii.toNatClampNeg v_13), (upd p5 ii.toNatClampNeg v_14), (upd p11 ii.toNatClampNeg v_9), (upd p12 ii.toNatClampNeg v_10), (upd p13 ii.toNatClampNeg v_11), kk + 1, ()) _ _ _ ⟨hP, hD, hS, lv_sub hl [4, 5, 0] rfl, (show ldk_wI f3 f4 f5 f11 f12 f13 (ldk_most I) (kk + 1) v_15 (upd p3 ii.toNatClampNeg v_12) (upd p4 ii.toNatClampNeg v_13) (upd p5 ii.toNatClampNeg v_14) (upd p11 ii.toNatClampNeg v_9) (upd p12 ii.toNatClampNeg v_10) (upd p13 ii.toNatClampNeg v_11) from (by clear hP hD hl; have z_ := ev_15.symm; clear ev_15; subst z_; have z_ := ev_14.symm; clear ev_14; subst z_; have z_ := ev_13.symm; clear ev_13; subst z_; have z_ := ev_12.symm; clear ev_12; subst z_; have z_ := ev_11.symm; clear ev_11; subst z_; have z_ := ev_10.symm; clear ev_10; subst z_; have z_ := ev_9.symm; clear ev_9; subst z_; have z_ := ev_2.symm; clear ev_2; subst z_; exact (ldk_wI_step hp c_3).1))⟩ (show (ldk_most I).toNatClampNeg - (kk + 1) < (ldk_most I).toNatClampNeg - kk from (by clear hP hD hl; have z_ := ev_15.symm; clear ev_15; subst z_; have z_ := ev_14.symm; clear ev_14; subst z_; have z_ := ev_13.symm; clear ev_13; subst z_; have z_ := ev_12.symm; clear ev_12; subst z_; have z_ := ev_11.symm; clear ev_11; subst z_; have z_ := ev_10.symm; clear ev_10; subst z_; have z_ := ev_9.symm; clear ev_9; subst z_; have z_ := ev_2.symm; clear ev_2; subst z_; exact (ldk_wI_step hp c_3).2))

