set_option maxRecDepth 20000 in
theorem iX7_reads_7 : ∀ w ∈ wsX70, w ∈ wsX7_reads := by decide +kernel
set_option maxHeartbeats 4000000 in
set_option maxRecDepth 100000 in
theorem kX7_reads (l : Launch) (D : va_G) (cI cJ cZ cD : ClassId) (tA : Nat) (h : Nat) (R : Nat → Nat) (I : Nat → Int32) (L : Nat → Int64) (f1 : Nat → Int32) (f11 : Nat → Int32) (f12 : Nat → Int32) (f13 : Nat → Int32) (f16 : Nat → Int32) (f17 : Nat → Int32) (hs : (I 2).toInt ≤ 160) (hrd : ldk_rdOK f1 161 (ldk_rd0 I f1, f11, f12, f13, f16, f17)) : jx_M l yX7_reads wsX7_reads ({ frames := 3, cells := 0, slots := 0, locals := 63 }) D (jT cI cJ cZ cD) tA [.ref h] [(h, .inr (7, (oX7 R I L))), ((R 1), .inl (cI, 160, .inl f1)), ((R 11), .inl (cI, 160, .inl f11)), ((R 12), .inl (cI, 160, .inl f12)), ((R 13), .inl (cI, 160, .inl f13)), ((R 16), .inl (cI, 6, .inl f16)), ((R 17), .inl (cI, 6, .inl f17))] (jx_Qi D (jT cI cJ cZ cD) (fun r (_ : Unit) => r = (sX7_reads I f1 f11 f12 f13 f16 f17).1) (fun _ => [(h, .inr (7, (oX7 R (sX7_reads I f1 f11 f12 f13 f16 f17).2.1 L))), ((R 1), .inl (cI, 160, .inl f1)), ((R 11), .inl (cI, 160, .inl ((sX7_reads I f1 f11 f12 f13 f16 f17).2.2.1))), ((R 12), .inl (cI, 160, .inl ((sX7_reads I f1 f11 f12 f13 f16 f17).2.2.2.1))), ((R 13), .inl (cI, 160, .inl ((sX7_reads I f1 f11 f12 f13 f16 f17).2.2.2.2.1))), ((R 16), .inl (cI, 6, .inl ((sX7_reads I f1 f11 f12 f13 f16 f17).2.2.2.2.2.1))), ((R 17), .inl (cI, 6, .inl ((sX7_reads I f1 f11 f12 f13 f16 f17).2.2.2.2.2.2)))])) := by
  refine jx_of (cc := cX7_reads) (maxL := 2) (ret := (some .boolean)) (by decide +kernel) rfl (Nat.le_of_ble_eq_true rfl) ?_
  intro p e s m below meth c A ls hx hb hr hlocks hml hown hts hK hP hD hA hS hX hl
  have hl : lv_has ls 2 [(0, .ref h)] := hl
  have hown : s.vm.findClass RX7 = some m.cls := hown
  have hk38 := hts (.fieldLink RX7 38 "LoomDeskModel" "newEnd" "[I") (by decide +kernel)
  have hk41 := hts (.fieldLink RX7 41 "LoomDeskModel" "open" "[I") (by decide +kernel)
  have hk44 := hts (.fieldLink RX7 44 "LoomDeskModel" "before" "[I") (by decide +kernel)
  have hk77 := hts (.fieldLink RX7 77 "LoomDeskModel" "typed" "I") (by decide +kernel)
  have hk86 := hts (.fieldLink RX7 86 "LoomDeskModel" "at" "I") (by decide +kernel)
  have hk93 := hts (.fieldLink RX7 93 "LoomDeskModel" "newItems" "I") (by decide +kernel)
  have hk104 := hts (.fieldLink RX7 104 "LoomDeskModel" "seen" "I") (by decide +kernel)
  have hk114 := hts (.fieldLink RX7 114 "LoomDeskModel" "opens" "I") (by decide +kernel)
  have hk117 := hts (.fieldLink RX7 117 "LoomDeskModel" "wants" "Z") (by decide +kernel)
  refine lv_aload_n hx hb dX7_reads_0 rfl (lv_at hl 0 rfl) ?_
  refine lv_iconst (v := 0) hx hb dX7_reads_1 (by decide) ?_
  refine jx_put (w2 := [(h, .inr (7, (oX7 R (upd I 15 (0 : Int32)) L))), ((R 1), .inl (cI, 160, .inl f1)), ((R 11), .inl (cI, 160, .inl f11)), ((R 12), .inl (cI, 160, .inl f12)), ((R 13), .inl (cI, 160, .inl f13)), ((R 16), .inl (cI, 6, .inl f16)), ((R 17), .inl (cI, 6, .inl f17))]) hx hb hts iX7_reads_7 tyX7 tyX7_ok nmX7 hown hK hP hD hS 0 rfl rfl 15 (by decide) hk86 rfl rfl rfl rfl (Nat.le_of_ble_eq_true rfl) dX7_reads_2 rfl (fun H locs hP hD hS => ?_)
  refine lv_aload_n hx hb dX7_reads_5 rfl (lv_at hl 0 rfl) ?_
  refine lv_iconst (v := 0) hx hb dX7_reads_6 (by decide) ?_
  refine jx_put (w2 := [(h, .inr (7, (oX7 R (upd (upd I 14 (0 : Int32)) 15 (0 : Int32)) L))), ((R 1), .inl (cI, 160, .inl f1)), ((R 11), .inl (cI, 160, .inl f11)), ((R 12), .inl (cI, 160, .inl f12)), ((R 13), .inl (cI, 160, .inl f13)), ((R 16), .inl (cI, 6, .inl f16)), ((R 17), .inl (cI, 6, .inl f17))]) hx hb hts iX7_reads_7 tyX7 tyX7_ok nmX7 hown hK hP hD hS 0 rfl rfl 14 (by decide) hk93 rfl rfl rfl rfl (Nat.le_of_ble_eq_true rfl) dX7_reads_7 rfl (fun H locs hP hD hS => ?_)
  refine lv_aload_n hx hb dX7_reads_10 rfl (lv_at hl 0 rfl) ?_
  refine lv_iconst (v := 0) hx hb dX7_reads_11 (by decide) ?_
  refine jx_put (w2 := [(h, .inr (7, (oX7 R (upd (upd (upd I 14 (0 : Int32)) 15 (0 : Int32)) 18 (0 : Int32)) L))), ((R 1), .inl (cI, 160, .inl f1)), ((R 11), .inl (cI, 160, .inl f11)), ((R 12), .inl (cI, 160, .inl f12)), ((R 13), .inl (cI, 160, .inl f13)), ((R 16), .inl (cI, 6, .inl f16)), ((R 17), .inl (cI, 6, .inl f17))]) hx hb hts iX7_reads_7 tyX7 tyX7_ok nmX7 hown hK hP hD hS 0 rfl rfl 18 (by decide) hk114 rfl rfl rfl rfl (Nat.le_of_ble_eq_true rfl) dX7_reads_12 rfl (fun H locs hP hD hS => ?_)
  refine lv_aload_n hx hb dX7_reads_15 rfl (lv_at hl 0 rfl) ?_
  refine lv_iconst (v := 0) hx hb dX7_reads_16 (by decide) ?_
  refine jx_put (w2 := [(h, .inr (7, (oX7 R (upd (upd (upd (upd I 14 (0 : Int32)) 15 (0 : Int32)) 18 (0 : Int32)) 19 (0 : Int32)) L))), ((R 1), .inl (cI, 160, .inl f1)), ((R 11), .inl (cI, 160, .inl f11)), ((R 12), .inl (cI, 160, .inl f12)), ((R 13), .inl (cI, 160, .inl f13)), ((R 16), .inl (cI, 6, .inl f16)), ((R 17), .inl (cI, 6, .inl f17))]) hx hb hts iX7_reads_7 tyX7 tyX7_ok nmX7 hown hK hP hD hS 0 rfl rfl 19 (by decide) hk104 rfl rfl rfl rfl (Nat.le_of_ble_eq_true rfl) dX7_reads_17 rfl (fun H locs hP hD hS => ?_)
  refine lv_aload_n hx hb dX7_reads_20 rfl (lv_at hl 0 rfl) ?_
  refine lv_iconst (v := 1) hx hb dX7_reads_21 (by decide) ?_
  refine jx_put (w2 := [(h, .inr (7, (oX7 R (upd (upd (upd (upd (upd I 14 (0 : Int32)) 15 (0 : Int32)) 18 (0 : Int32)) 19 (0 : Int32)) 43 (1 : Int32)) L))), ((R 1), .inl (cI, 160, .inl f1)), ((R 11), .inl (cI, 160, .inl f11)), ((R 12), .inl (cI, 160, .inl f12)), ((R 13), .inl (cI, 160, .inl f13)), ((R 16), .inl (cI, 6, .inl f16)), ((R 17), .inl (cI, 6, .inl f17))]) hx hb hts iX7_reads_7 tyX7 tyX7_ok nmX7 hown hK hP hD hS 0 rfl rfl 43 (by decide) hk117 rfl rfl (jx_bn (Or.inr rfl)) (jx_bf (Or.inr rfl)) (Nat.le_of_ble_eq_true rfl) dX7_reads_22 rfl (fun H locs hP hD hS => ?_)
  refine lv_aload_n hx hb dX7_reads_25 rfl (lv_at hl 0 rfl) ?_
  refine jx_callv (wc := [(h, .inr (7, (oX7 R (upd (upd (upd (upd (upd I 14 (0 : Int32)) 15 (0 : Int32)) 18 (0 : Int32)) 19 (0 : Int32)) 43 (1 : Int32)) L))), ((R 1), .inl (cI, 160, .inl f1))]) (wr := [((R 11), .inl (cI, 160, .inl f11)), ((R 12), .inl (cI, 160, .inl f12)), ((R 13), .inl (cI, 160, .inl f13)), ((R 16), .inl (cI, 6, .inl f16)), ((R 17), .inl (cI, 6, .inl f17))]) hP hD hS hA hK [0, 1] [2, 3, 4, 5, 6] rfl rfl (by decide) (by decide) (by decide) (fun hPc hDc hF => jx_runV (As := []) (rest := []) (n := 0) (ci := 7) (q0 := 0) hx hb hml hown hts hK hX hS hl.1 (kX7_skip l D cI cJ cZ cD tA h R (upd (upd (upd (upd (upd I 14 (0 : Int32)) 15 (0 : Int32)) 18 (0 : Int32)) 19 (0 : Int32)) 43 (1 : Int32)) L f1 (by rw [pk_un (by decide), pk_un (by decide), pk_un (by decide), pk_us]; decide) (by rw [pk_un (by decide), pk_un (by decide), pk_un (by decide), pk_un (by decide), pk_un (by decide)]; exact hs)) gX7_reads_X7_skip rfl rfl rfl (by decide +kernel) ⟨Nat.le_of_ble_eq_true rfl, Nat.le_of_ble_eq_true rfl⟩ rfl rfl rfl rfl rfl (Nat.le_of_ble_eq_true rfl) dX7_reads_26 ⟨Nat.zero_le _, Nat.zero_le _⟩ hPc hDc hF) (fun u H locs hw hP hD hS => ?_)
  obtain ⟨I_2, eI_2⟩ : ∃ x : (Nat → Int32), x = (sX7_skip (upd (upd (upd (upd (upd I 14 (0 : Int32)) 15 (0 : Int32)) 18 (0 : Int32)) 19 (0 : Int32)) 43 (1 : Int32)) f1) := ⟨_, rfl⟩
  have hP : va_P D vwCl [((R 11), .inl (cI, 160, .inl f11)), ((R 12), .inl (cI, 160, .inl f12)), ((R 13), .inl (cI, 160, .inl f13)), ((R 16), .inl (cI, 6, .inl f16)), ((R 17), .inl (cI, 6, .inl f17)), (h, .inr (7, (oX7 R I_2 L))), ((R 1), .inl (cI, 160, .inl f1))] H := by rw [eI_2]; exact hP
  have hD : va_D A [((R 11), .inl (cI, 160, .inl f11)), ((R 12), .inl (cI, 160, .inl f12)), ((R 13), .inl (cI, 160, .inl f13)), ((R 16), .inl (cI, 6, .inl f16)), ((R 17), .inl (cI, 6, .inl f17)), (h, .inr (7, (oX7 R I_2 L))), ((R 1), .inl (cI, 160, .inl f1))] := by rw [eI_2]; exact hD
  refine jx_loop (σ := ((Nat → Int32)) × ((Nat → Int32)) × ((Nat → Int32)) × ((Nat → Int32)) × ((Nat → Int32)) × ((Nat → Int32)) × (Nat) × (Unit)) (fun x H locs ls => va_P D vwCl [((R 11), .inl (cI, 160, .inl x.2.1)), ((R 12), .inl (cI, 160, .inl x.2.2.1)), ((R 13), .inl (cI, 160, .inl x.2.2.2.1)), ((R 16), .inl (cI, 6, .inl x.2.2.2.2.1)), ((R 17), .inl (cI, 6, .inl x.2.2.2.2.2.1)), (h, .inr (7, (oX7 R x.1 L))), ((R 1), .inl (cI, 160, .inl f1))] H ∧ va_D A [((R 11), .inl (cI, 160, .inl x.2.1)), ((R 12), .inl (cI, 160, .inl x.2.2.1)), ((R 13), .inl (cI, 160, .inl x.2.2.2.1)), ((R 16), .inl (cI, 6, .inl x.2.2.2.2.1)), ((R 17), .inl (cI, 6, .inl x.2.2.2.2.2.1)), (h, .inr (7, (oX7 R x.1 L))), ((R 1), .inl (cI, 160, .inl f1))] ∧ va_S A s.heap H locs ∧ lv_has ls 2 [(0, .ref h)] ∧ (ldk_rdI f1 (sX7_reads I f1 f11 f12 f13 f16 f17) x.2.2.2.2.2.2.1 x.1 x.2.1 x.2.2.1 x.2.2.2.1 x.2.2.2.2.1 x.2.2.2.2.2.1)) (fun x => x.2.2.2.2.2.2.1) (I_2, f11, f12, f13, f16, f17, 161, ()) ⟨hP, hD, hS, lv_sub hl [0] rfl, (show ldk_rdI f1 (sX7_reads I f1 f11 f12 f13 f16 f17) 161 I_2 f11 f12 f13 f16 f17 from (by clear hP hD hl; have z_ := eI_2.symm; clear eI_2; subst z_; exact ⟨rfl, hrd⟩))⟩ ?_
  intro x H locs ls hI ih
  obtain ⟨J, q11, q12, q13, q16, q17, nn, ux⟩ := x
  obtain ⟨hP, hD, hS, hl, hp⟩ := hI
  have hP : va_P D vwCl [((R 11), .inl (cI, 160, .inl q11)), ((R 12), .inl (cI, 160, .inl q12)), ((R 13), .inl (cI, 160, .inl q13)), ((R 16), .inl (cI, 6, .inl q16)), ((R 17), .inl (cI, 6, .inl q17)), (h, .inr (7, (oX7 R J L))), ((R 1), .inl (cI, 160, .inl f1))] H := hP
  have hD : va_D A [((R 11), .inl (cI, 160, .inl q11)), ((R 12), .inl (cI, 160, .inl q12)), ((R 13), .inl (cI, 160, .inl q13)), ((R 16), .inl (cI, 6, .inl q16)), ((R 17), .inl (cI, 6, .inl q17)), (h, .inr (7, (oX7 R J L))), ((R 1), .inl (cI, 160, .inl f1))] := hD
  have hl : lv_has ls 2 [(0, .ref h)] := hl
  have hp : ldk_rdI f1 (sX7_reads I f1 f11 f12 f13 f16 f17) nn J q11 q12 q13 q16 q17 := hp
  refine lv_aload_n hx hb dX7_reads_29 rfl (lv_at hl 0 rfl) ?_
  refine jx_get (v := .int (J 15)) hx hb hts iX7_reads_7 hown hK hP 5 rfl rfl 15 (by decide) hk86 rfl rfl dX7_reads_30 ?_
  refine lv_aload_n hx hb dX7_reads_33 rfl (lv_at hl 0 rfl) ?_
  refine jx_get (v := .int (J 2)) hx hb hts iX7_reads_7 hown hK hP 5 rfl rfl 2 (by decide) hk77 rfl rfl dX7_reads_34 ?_
  refine lv_icmp_ge (tgt := 236) hx hb dX7_reads_37 (by decide) (fun c_3 => ?_) (fun c_3 => ?_)
  · skip
    refine lv_aload_n hx hb dX7_reads_236 rfl (lv_at hl 0 rfl) ?_
    refine jx_get (v := .int (J 18)) hx hb hts iX7_reads_7 hown hK hP 5 rfl rfl 18 (by decide) hk114 rfl rfl dX7_reads_237 ?_
    refine jx_joini (J := 255) (v := (if (J 18) = 0 then (if (J 43) = 0 then (1 : Int32) else (0 : Int32)) else (0 : Int32))) (rest := []) (fun key => ?_) ?_
    · skip
      refine lv_if_ne (tgt := 254) hx hb dX7_reads_240 (by decide) (fun c_4 => ?_) (fun c_4 => ?_)
      · skip
        refine lv_iconst (v := 0) hx hb dX7_reads_254 (by decide) ?_
        rw [if_neg c_4] at key
        exact key
      · skip
        refine lv_aload_n hx hb dX7_reads_243 rfl (lv_at hl 0 rfl) ?_
        refine jx_get (v := .int (J 43)) hx hb hts iX7_reads_7 hown hK hP 5 rfl rfl 43 (by decide) hk117 rfl rfl dX7_reads_244 ?_
        refine lv_if_ne (tgt := 254) hx hb dX7_reads_247 (by decide) (fun c_5 => ?_) (fun c_5 => ?_)
        · skip
          refine lv_iconst (v := 0) hx hb dX7_reads_254 (by decide) ?_
          rw [if_pos c_4, if_neg c_5] at key
          exact key
        · skip
          refine lv_iconst (v := 1) hx hb dX7_reads_250 (by decide) ?_
          refine lv_goto (tgt := 255) hx hb dX7_reads_251 (by decide) ?_
          rw [if_pos c_4, if_pos c_5] at key
          exact key
    refine lv_topi (fun v_6 ev_6 => ?_)
    have hq : (sX7_reads I f1 f11 f12 f13 f16 f17) = (v_6, J, q11, q12, q13, q16, q17) := (by clear hP hD hl; have z_ := ev_6.symm; clear ev_6; subst z_; have z_ := eI_2.symm; clear eI_2; subst z_; exact ldk_rdI_e hp c_3)
    exact jx_zret () hx hb hr hlocks hK (hP.sub (ws' := [(h, .inr (7, (oX7 R J L))), ((R 1), .inl (cI, 160, .inl f1)), ((R 11), .inl (cI, 160, .inl q11)), ((R 12), .inl (cI, 160, .inl q12)), ((R 13), .inl (cI, 160, .inl q13)), ((R 16), .inl (cI, 6, .inl q16)), ((R 17), .inl (cI, 6, .inl q17))]) [5, 6, 0, 1, 2, 3, 4] rfl) (hD.sub (ws' := [(h, .inr (7, (oX7 R J L))), ((R 1), .inl (cI, 160, .inl f1)), ((R 11), .inl (cI, 160, .inl q11)), ((R 12), .inl (cI, 160, .inl q12)), ((R 13), .inl (cI, 160, .inl q13)), ((R 16), .inl (cI, 6, .inl q16)), ((R 17), .inl (cI, 6, .inl q17))]) [5, 6, 0, 1, 2, 3, 4] (by decide) rfl) hS (by rw [hq]) (by rw [hq]) (by clear hP hD hl; have z_ := ev_6.symm; clear ev_6; subst z_; have z_ := eI_2.symm; clear eI_2; subst z_; repeat (first | exact Or.inl rfl | exact Or.inr rfl | split)) dX7_reads_255
  · skip
    refine lv_aload_n hx hb dX7_reads_40 rfl (lv_at hl 0 rfl) ?_
    refine jx_pcalli (wc := [(h, .inr (7, (oX7 R J L))), ((R 1), .inl (cI, 160, .inl f1))]) hP hD hS hA [5, 6] rfl (by decide) (fun hPc hDc hF => jx_runVs (As := []) (rest := []) (n := 0) (ci := 7) (q0 := 0) hx hb hml hown hts hK hX hS hl.1 (kX7_see l D cI cJ cZ cD tA h R J L f1 (ldk_rdI_a hp).1 (ldk_rdI_a hp).2) gX7_reads_X7_see rfl rfl rfl (by decide +kernel) ⟨Nat.le_of_ble_eq_true rfl, Nat.le_of_ble_eq_true rfl⟩ rfl rfl rfl rfl rfl (Nat.le_of_ble_eq_true rfl) dX7_reads_41 ⟨Nat.zero_le _, Nat.zero_le _⟩ hPc hDc hF) (fun r_7 er_7 => ?_)
    have er_7 : r_7 = (sX7_see J f1) := er_7
    refine lv_istore_n (lv' := [(1, .int r_7), (0, .ref h)]) hx hb dX7_reads_44 rfl hl (by decide) rfl (fun ls hl => ?_)
    refine lv_iload_n hx hb dX7_reads_45 rfl (lv_at hl 0 rfl) ?_
    refine lv_bipush (v := 41) hx hb dX7_reads_46 (by decide) ?_
    refine lv_icmp_ne (tgt := 116) hx hb dX7_reads_48 (by decide) (fun c_8 => ?_) (fun c_8 => ?_)
    · skip
      refine jx_cutl (J := 134) (P := r_7 = (104 : Int32) ∨ r_7 = (99 : Int32) ∨ r_7 = (100 : Int32)) (lv := [(1, .int r_7), (0, .ref h)]) (nL := 2) (rest := []) (fun key => ?_) (fun ls hfin hl => ?_)
      · skip
        refine lv_iload_n hx hb dX7_reads_116 rfl (lv_at hl 0 rfl) ?_
        refine lv_bipush (v := 104) hx hb dX7_reads_117 (by decide) ?_
        refine lv_icmp_eq (tgt := 134) hx hb dX7_reads_119 (by decide) (fun c_9 => ?_) (fun c_9 => ?_)
        · skip
          exact key _ (Or.inl c_9) (lv_sub hl [0, 1] rfl)
        · skip
          refine lv_iload_n hx hb dX7_reads_122 rfl (lv_at hl 0 rfl) ?_
          refine lv_bipush (v := 99) hx hb dX7_reads_123 (by decide) ?_
          refine lv_icmp_eq (tgt := 134) hx hb dX7_reads_125 (by decide) (fun c_10 => ?_) (fun c_10 => ?_)
          · skip
            exact key _ (Or.inr (Or.inl c_10)) (lv_sub hl [0, 1] rfl)
          · skip
            refine lv_iload_n hx hb dX7_reads_128 rfl (lv_at hl 0 rfl) ?_
            refine lv_bipush (v := 100) hx hb dX7_reads_129 (by decide) ?_
            refine lv_icmp_ne (tgt := 172) hx hb dX7_reads_131 (by decide) (fun c_11 => ?_) (fun c_11 => ?_)
            · skip
              refine jx_cutl (J := 184) (P := r_7 = (114 : Int32) ∨ r_7 = (109 : Int32)) (lv := [(1, .int r_7), (0, .ref h)]) (nL := 2) (rest := []) (fun key => ?_) (fun ls hfin hl => ?_)
              · skip
                refine lv_iload_n hx hb dX7_reads_172 rfl (lv_at hl 0 rfl) ?_
                refine lv_bipush (v := 114) hx hb dX7_reads_173 (by decide) ?_
                refine lv_icmp_eq (tgt := 184) hx hb dX7_reads_175 (by decide) (fun c_12 => ?_) (fun c_12 => ?_)
                · skip
                  exact key _ (Or.inl c_12) (lv_sub hl [0, 1] rfl)
                · skip
                  refine lv_iload_n hx hb dX7_reads_178 rfl (lv_at hl 0 rfl) ?_
                  refine lv_bipush (v := 109) hx hb dX7_reads_179 (by decide) ?_
                  refine lv_icmp_ne (tgt := 217) hx hb dX7_reads_181 (by decide) (fun c_13 => ?_) (fun c_13 => ?_)
                  · skip
                    refine lv_iconst (v := 0) hx hb dX7_reads_217 (by decide) ?_
                    have hq : (sX7_reads I f1 f11 f12 f13 f16 f17) = ((0 : Int32), J, q11, q12, q13, q16, q17) := (by clear hP hD hl; have z_ := er_7.symm; clear er_7; subst z_; have z_ := eI_2.symm; clear eI_2; subst z_; exact ldk_rdI_f hp c_3 (ldk_rdS_x c_8 c_9 c_10 c_11 c_12 c_13))
                    exact jx_zret () hx hb hr hlocks hK (hP.sub (ws' := [(h, .inr (7, (oX7 R J L))), ((R 1), .inl (cI, 160, .inl f1)), ((R 11), .inl (cI, 160, .inl q11)), ((R 12), .inl (cI, 160, .inl q12)), ((R 13), .inl (cI, 160, .inl q13)), ((R 16), .inl (cI, 6, .inl q16)), ((R 17), .inl (cI, 6, .inl q17))]) [5, 6, 0, 1, 2, 3, 4] rfl) (hD.sub (ws' := [(h, .inr (7, (oX7 R J L))), ((R 1), .inl (cI, 160, .inl f1)), ((R 11), .inl (cI, 160, .inl q11)), ((R 12), .inl (cI, 160, .inl q12)), ((R 13), .inl (cI, 160, .inl q13)), ((R 16), .inl (cI, 6, .inl q16)), ((R 17), .inl (cI, 6, .inl q17))]) [5, 6, 0, 1, 2, 3, 4] (by decide) rfl) hS (by rw [hq]) (by rw [hq]) (Or.inl rfl) dX7_reads_218
                  · skip
                    exact key _ (Or.inr c_13) (lv_sub hl [0, 1] rfl)
              · skip
                refine lv_aload_n hx hb dX7_reads_184 rfl (lv_at hl 1 rfl) ?_
                refine lv_dup hx hb dX7_reads_185 rfl ?_
                refine jx_get (v := .int (J 15)) hx hb hts iX7_reads_7 hown hK hP 5 rfl rfl 15 (by decide) hk86 rfl rfl dX7_reads_186 ?_
                refine lv_iconst (v := 1) hx hb dX7_reads_189 (by decide) ?_
                refine lv_iadd hx hb dX7_reads_190 ?_
                refine lv_topi (fun v_14 ev_14 => ?_)
                refine jx_put (w2 := [((R 11), .inl (cI, 160, .inl q11)), ((R 12), .inl (cI, 160, .inl q12)), ((R 13), .inl (cI, 160, .inl q13)), ((R 16), .inl (cI, 6, .inl q16)), ((R 17), .inl (cI, 6, .inl q17)), (h, .inr (7, (oX7 R (upd J 15 v_14) L))), ((R 1), .inl (cI, 160, .inl f1))]) hx hb hts iX7_reads_7 tyX7 tyX7_ok nmX7 hown hK hP hD hS 5 rfl rfl 15 (by decide) hk86 rfl rfl rfl rfl (Nat.le_of_ble_eq_true rfl) dX7_reads_191 rfl (fun H locs hP hD hS => ?_)
                refine lv_aload_n hx hb dX7_reads_194 rfl (lv_at hl 1 rfl) ?_
                refine lv_iload_n hx hb dX7_reads_195 rfl (lv_at hl 0 rfl) ?_
                refine jx_calli (wc := [(h, .inr (7, (oX7 R (upd J 15 v_14) L))), ((R 1), .inl (cI, 160, .inl f1)), ((R 11), .inl (cI, 160, .inl q11)), ((R 12), .inl (cI, 160, .inl q12)), ((R 13), .inl (cI, 160, .inl q13)), ((R 16), .inl (cI, 6, .inl q16)), ((R 17), .inl (cI, 6, .inl q17))]) (wr := []) hP hD hS hA hK [5, 6, 0, 1, 2, 3, 4] [] rfl rfl (by decide) (by decide) (by decide) (fun hPc hDc hF => jx_runV (As := [.int r_7]) (rest := []) (n := 1) (ci := 7) (q0 := 0) hx hb hml hown hts hK hX hS hl.1 (kX7_readsOpening l D cI cJ cZ cD tA h R (upd J 15 v_14) L f1 q11 q12 q13 q16 q17 r_7 (by clear hP hD hl; have z_ := ev_14.symm; clear ev_14; subst z_; have z_ := er_7.symm; clear er_7; subst z_; have z_ := eI_2.symm; clear eI_2; subst z_; exact (ldk_rdI_in hp c_3).1) (by clear hP hD hl; have z_ := ev_14.symm; clear ev_14; subst z_; have z_ := er_7.symm; clear er_7; subst z_; have z_ := eI_2.symm; clear eI_2; subst z_; exact (ldk_rdI_in hp c_3).2.1) (by clear hP hD hl; have z_ := ev_14.symm; clear ev_14; subst z_; have z_ := er_7.symm; clear er_7; subst z_; have z_ := eI_2.symm; clear eI_2; subst z_; exact (ldk_rdI_in hp c_3).2.2.1) (by clear hP hD hl; have z_ := ev_14.symm; clear ev_14; subst z_; have z_ := er_7.symm; clear er_7; subst z_; have z_ := eI_2.symm; clear eI_2; subst z_; exact (ldk_rdI_in hp c_3).2.2.2)) gX7_reads_X7_readsOpening rfl rfl rfl (by decide +kernel) ⟨Nat.le_of_ble_eq_true rfl, Nat.le_of_ble_eq_true rfl⟩ rfl rfl rfl rfl rfl (Nat.le_of_ble_eq_true rfl) dX7_reads_196 ⟨Nat.zero_le _, Nat.zero_le _⟩ hPc hDc hF) (fun r_15 u H locs er_15 hP hD hS => ?_)
                have er_15 : r_15 = (sX7_readsOpening (upd J 15 v_14) f1 q11 q12 q13 q16 q17 r_7).1 := er_15
                obtain ⟨I_16, eI_16⟩ : ∃ x : (Nat → Int32), x = (sX7_readsOpening (upd J 15 v_14) f1 q11 q12 q13 q16 q17 r_7).2.1 := ⟨_, rfl⟩
                obtain ⟨f_17, ef_17⟩ : ∃ x : (Nat → Int32), x = (sX7_readsOpening (upd J 15 v_14) f1 q11 q12 q13 q16 q17 r_7).2.2.1 := ⟨_, rfl⟩
                obtain ⟨f_18, ef_18⟩ : ∃ x : (Nat → Int32), x = (sX7_readsOpening (upd J 15 v_14) f1 q11 q12 q13 q16 q17 r_7).2.2.2.1 := ⟨_, rfl⟩
                obtain ⟨f_19, ef_19⟩ : ∃ x : (Nat → Int32), x = (sX7_readsOpening (upd J 15 v_14) f1 q11 q12 q13 q16 q17 r_7).2.2.2.2.1 := ⟨_, rfl⟩
                obtain ⟨f_20, ef_20⟩ : ∃ x : (Nat → Int32), x = (sX7_readsOpening (upd J 15 v_14) f1 q11 q12 q13 q16 q17 r_7).2.2.2.2.2.1 := ⟨_, rfl⟩
                obtain ⟨f_21, ef_21⟩ : ∃ x : (Nat → Int32), x = (sX7_readsOpening (upd J 15 v_14) f1 q11 q12 q13 q16 q17 r_7).2.2.2.2.2.2 := ⟨_, rfl⟩
                have hP : va_P D vwCl [(h, .inr (7, (oX7 R I_16 L))), ((R 1), .inl (cI, 160, .inl f1)), ((R 11), .inl (cI, 160, .inl f_17)), ((R 12), .inl (cI, 160, .inl f_18)), ((R 13), .inl (cI, 160, .inl f_19)), ((R 16), .inl (cI, 6, .inl f_20)), ((R 17), .inl (cI, 6, .inl f_21))] H := by rw [eI_16, ef_17, ef_18, ef_19, ef_20, ef_21]; exact hP
                have hD : va_D A [(h, .inr (7, (oX7 R I_16 L))), ((R 1), .inl (cI, 160, .inl f1)), ((R 11), .inl (cI, 160, .inl f_17)), ((R 12), .inl (cI, 160, .inl f_18)), ((R 13), .inl (cI, 160, .inl f_19)), ((R 16), .inl (cI, 6, .inl f_20)), ((R 17), .inl (cI, 6, .inl f_21))] := by rw [eI_16, ef_17, ef_18, ef_19, ef_20, ef_21]; exact hD
                refine lv_if_ne (tgt := 204) hx hb dX7_reads_199 (by decide) (fun c_22 => ?_) (fun c_22 => ?_)
                · skip
                  refine lv_aload_n hx hb dX7_reads_204 rfl (lv_at hl 1 rfl) ?_
                  refine lv_dup hx hb dX7_reads_205 rfl ?_
                  refine jx_get (v := .int (I_16 15)) hx hb hts iX7_reads_7 hown hK hP 0 rfl rfl 15 (by decide) hk86 rfl rfl dX7_reads_206 ?_
                  refine lv_iconst (v := 1) hx hb dX7_reads_209 (by decide) ?_
                  refine lv_isub hx hb dX7_reads_210 ?_
                  refine lv_topi (fun v_23 ev_23 => ?_)
                  refine jx_put (w2 := [(h, .inr (7, (oX7 R (upd I_16 15 v_23) L))), ((R 1), .inl (cI, 160, .inl f1)), ((R 11), .inl (cI, 160, .inl f_17)), ((R 12), .inl (cI, 160, .inl f_18)), ((R 13), .inl (cI, 160, .inl f_19)), ((R 16), .inl (cI, 6, .inl f_20)), ((R 17), .inl (cI, 6, .inl f_21))]) hx hb hts iX7_reads_7 tyX7 tyX7_ok nmX7 hown hK hP hD hS 0 rfl rfl 15 (by decide) hk86 rfl rfl rfl rfl (Nat.le_of_ble_eq_true rfl) dX7_reads_211 rfl (fun H locs hP hD hS => ?_)
                  refine lv_goto (tgt := 219) hx hb dX7_reads_214 (by decide) ?_
                  refine lv_aload_n hx hb dX7_reads_219 rfl (lv_at hl 1 rfl) ?_
                  refine lv_dup hx hb dX7_reads_220 rfl ?_
                  refine jx_get (v := .int v_23) hx hb hts iX7_reads_7 hown hK hP 0 rfl rfl 15 (by decide) hk86 rfl rfl dX7_reads_221 ?_
                  refine lv_iconst (v := 1) hx hb dX7_reads_224 (by decide) ?_
                  refine lv_iadd hx hb dX7_reads_225 ?_
                  refine lv_topi (fun v_24 ev_24 => ?_)
                  refine jx_put (w2 := [(h, .inr (7, (oX7 R (upd I_16 15 v_24) L))), ((R 1), .inl (cI, 160, .inl f1)), ((R 11), .inl (cI, 160, .inl f_17)), ((R 12), .inl (cI, 160, .inl f_18)), ((R 13), .inl (cI, 160, .inl f_19)), ((R 16), .inl (cI, 6, .inl f_20)), ((R 17), .inl (cI, 6, .inl f_21))]) hx hb hts iX7_reads_7 tyX7 tyX7_ok nmX7 hown hK hP hD hS 0 rfl rfl 15 (by decide) hk86 rfl rfl rfl rfl (Nat.le_of_ble_eq_true rfl) dX7_reads_226 rfl (fun H locs hP hD hS => ?_)
                  refine lv_aload_n hx hb dX7_reads_229 rfl (lv_at hl 1 rfl) ?_
                  refine jx_callv (wc := [(h, .inr (7, (oX7 R (upd I_16 15 v_24) L))), ((R 1), .inl (cI, 160, .inl f1))]) (wr := [((R 11), .inl (cI, 160, .inl f_17)), ((R 12), .inl (cI, 160, .inl f_18)), ((R 13), .inl (cI, 160, .inl f_19)), ((R 16), .inl (cI, 6, .inl f_20)), ((R 17), .inl (cI, 6, .inl f_21))]) hP hD hS hA hK [0, 1] [2, 3, 4, 5, 6] rfl rfl (by decide) (by decide) (by decide) (fun hPc hDc hF => jx_runV (As := []) (rest := []) (n := 0) (ci := 7) (q0 := 0) hx hb hml hown hts hK hX hS hl.1 (kX7_skip l D cI cJ cZ cD tA h R (upd I_16 15 v_24) L f1 (by clear hP hD hl; have z_ := ev_24.symm; clear ev_24; subst z_; have z_ := ev_23.symm; clear ev_23; subst z_; have z_ := ef_21.symm; clear ef_21; subst z_; have z_ := ef_20.symm; clear ef_20; subst z_; have z_ := ef_19.symm; clear ef_19; subst z_; have z_ := ef_18.symm; clear ef_18; subst z_; have z_ := ef_17.symm; clear ef_17; subst z_; have z_ := eI_16.symm; clear eI_16; subst z_; have z_ := er_15.symm; clear er_15; subst z_; have z_ := ev_14.symm; clear ev_14; subst z_; have z_ := er_7.symm; clear er_7; subst z_; have z_ := eI_2.symm; clear eI_2; subst z_; rw [pk_us]; exact (ldk_rdI_g hp c_3).2.2.2.2.1) (by clear hP hD hl; have z_ := ev_24.symm; clear ev_24; subst z_; have z_ := ev_23.symm; clear ev_23; subst z_; have z_ := ef_21.symm; clear ef_21; subst z_; have z_ := ef_20.symm; clear ef_20; subst z_; have z_ := ef_19.symm; clear ef_19; subst z_; have z_ := ef_18.symm; clear ef_18; subst z_; have z_ := ef_17.symm; clear ef_17; subst z_; have z_ := eI_16.symm; clear eI_16; subst z_; have z_ := er_15.symm; clear er_15; subst z_; have z_ := ev_14.symm; clear ev_14; subst z_; have z_ := er_7.symm; clear er_7; subst z_; have z_ := eI_2.symm; clear eI_2; subst z_; rw [pk_un (by decide)]; exact (ldk_rdI_g hp c_3).2.2.2.2.2)) gX7_reads_X7_skip rfl rfl rfl (by decide +kernel) ⟨Nat.le_of_ble_eq_true rfl, Nat.le_of_ble_eq_true rfl⟩ rfl rfl rfl rfl rfl (Nat.le_of_ble_eq_true rfl) dX7_reads_230 ⟨Nat.zero_le _, Nat.zero_le _⟩ hPc hDc hF) (fun u H locs hw hP hD hS => ?_)
                  obtain ⟨I_26, eI_26⟩ : ∃ x : (Nat → Int32), x = (sX7_skip (upd I_16 15 v_24) f1) := ⟨_, rfl⟩
                  have hP : va_P D vwCl [((R 11), .inl (cI, 160, .inl f_17)), ((R 12), .inl (cI, 160, .inl f_18)), ((R 13), .inl (cI, 160, .inl f_19)), ((R 16), .inl (cI, 6, .inl f_20)), ((R 17), .inl (cI, 6, .inl f_21)), (h, .inr (7, (oX7 R I_26 L))), ((R 1), .inl (cI, 160, .inl f1))] H := by rw [eI_26]; exact hP
                  have hD : va_D A [((R 11), .inl (cI, 160, .inl f_17)), ((R 12), .inl (cI, 160, .inl f_18)), ((R 13), .inl (cI, 160, .inl f_19)), ((R 16), .inl (cI, 6, .inl f_20)), ((R 17), .inl (cI, 6, .inl f_21)), (h, .inr (7, (oX7 R I_26 L))), ((R 1), .inl (cI, 160, .inl f1))] := by rw [eI_26]; exact hD
                  refine lv_goto (tgt := 29) hx hb dX7_reads_233 (by decide) ?_
                  exact ih (I_26, f_17, f_18, f_19, f_20, f_21, nn - 1, ()) _ _ _ ⟨hP, hD, hS, lv_sub hl [1] rfl, (show ldk_rdI f1 (sX7_reads I f1 f11 f12 f13 f16 f17) (nn - 1) I_26 f_17 f_18 f_19 f_20 f_21 from (by clear hP hD hl; have z_ := eI_26.symm; clear eI_26; subst z_; have z_ := ev_24.symm; clear ev_24; subst z_; have z_ := ev_23.symm; clear ev_23; subst z_; have z_ := ef_21.symm; clear ef_21; subst z_; have z_ := ef_20.symm; clear ef_20; subst z_; have z_ := ef_19.symm; clear ef_19; subst z_; have z_ := ef_18.symm; clear ef_18; subst z_; have z_ := ef_17.symm; clear ef_17; subst z_; have z_ := eI_16.symm; clear eI_16; subst z_; have z_ := er_15.symm; clear er_15; subst z_; have z_ := ev_14.symm; clear ev_14; subst z_; have z_ := er_7.symm; clear er_7; subst z_; have z_ := eI_2.symm; clear eI_2; subst z_; exact (ldk_rdI_s hp c_3 (ldk_rdS_o1 hfin c_22)).1))⟩ (show (nn - 1) < nn from (by clear hP hD hl; have z_ := eI_26.symm; clear eI_26; subst z_; have z_ := ev_24.symm; clear ev_24; subst z_; have z_ := ev_23.symm; clear ev_23; subst z_; have z_ := ef_21.symm; clear ef_21; subst z_; have z_ := ef_20.symm; clear ef_20; subst z_; have z_ := ef_19.symm; clear ef_19; subst z_; have z_ := ef_18.symm; clear ef_18; subst z_; have z_ := ef_17.symm; clear ef_17; subst z_; have z_ := eI_16.symm; clear eI_16; subst z_; have z_ := er_15.symm; clear er_15; subst z_; have z_ := ev_14.symm; clear ev_14; subst z_; have z_ := er_7.symm; clear er_7; subst z_; have z_ := eI_2.symm; clear eI_2; subst z_; exact (ldk_rdI_s hp c_3 (ldk_rdS_o1 hfin c_22)).2))
                · skip
                  refine lv_iconst (v := 0) hx hb dX7_reads_202 (by decide) ?_
                  have hq : (sX7_reads I f1 f11 f12 f13 f16 f17) = ((0 : Int32), I_16, f_17, f_18, f_19, f_20, f_21) := (by clear hP hD hl; have z_ := ef_21.symm; clear ef_21; subst z_; have z_ := ef_20.symm; clear ef_20; subst z_; have z_ := ef_19.symm; clear ef_19; subst z_; have z_ := ef_18.symm; clear ef_18; subst z_; have z_ := ef_17.symm; clear ef_17; subst z_; have z_ := eI_16.symm; clear eI_16; subst z_; have z_ := er_15.symm; clear er_15; subst z_; have z_ := ev_14.symm; clear ev_14; subst z_; have z_ := er_7.symm; clear er_7; subst z_; have z_ := eI_2.symm; clear eI_2; subst z_; exact ldk_rdI_f hp c_3 (ldk_rdS_o0 hfin c_22))
                  exact jx_zret () hx hb hr hlocks hK hP hD hS (by rw [hq]) (by rw [hq]) (Or.inl rfl) dX7_reads_203
            · skip
              exact key _ (Or.inr (Or.inr c_11)) (lv_sub hl [0, 1] rfl)
      · skip
        refine lv_aload_n hx hb dX7_reads_134 rfl (lv_at hl 1 rfl) ?_
        refine lv_dup hx hb dX7_reads_135 rfl ?_
        refine jx_get (v := .int (J 15)) hx hb hts iX7_reads_7 hown hK hP 5 rfl rfl 15 (by decide) hk86 rfl rfl dX7_reads_136 ?_
        refine lv_iconst (v := 1) hx hb dX7_reads_139 (by decide) ?_
        refine lv_iadd hx hb dX7_reads_140 ?_
        refine lv_topi (fun v_27 ev_27 => ?_)
        refine jx_put (w2 := [((R 11), .inl (cI, 160, .inl q11)), ((R 12), .inl (cI, 160, .inl q12)), ((R 13), .inl (cI, 160, .inl q13)), ((R 16), .inl (cI, 6, .inl q16)), ((R 17), .inl (cI, 6, .inl q17)), (h, .inr (7, (oX7 R (upd J 15 v_27) L))), ((R 1), .inl (cI, 160, .inl f1))]) hx hb hts iX7_reads_7 tyX7 tyX7_ok nmX7 hown hK hP hD hS 5 rfl rfl 15 (by decide) hk86 rfl rfl rfl rfl (Nat.le_of_ble_eq_true rfl) dX7_reads_141 rfl (fun H locs hP hD hS => ?_)
        refine lv_aload_n hx hb dX7_reads_144 rfl (lv_at hl 1 rfl) ?_
        refine lv_iload_n hx hb dX7_reads_145 rfl (lv_at hl 0 rfl) ?_
        refine jx_calli (wc := [(h, .inr (7, (oX7 R (upd J 15 v_27) L))), ((R 1), .inl (cI, 160, .inl f1)), ((R 11), .inl (cI, 160, .inl q11)), ((R 12), .inl (cI, 160, .inl q12)), ((R 13), .inl (cI, 160, .inl q13))]) (wr := [((R 16), .inl (cI, 6, .inl q16)), ((R 17), .inl (cI, 6, .inl q17))]) hP hD hS hA hK [5, 6, 0, 1, 2] [3, 4] rfl rfl (by decide) (by decide) (by decide) (fun hPc hDc hF => jx_runV (As := [.int r_7]) (rest := []) (n := 1) (ci := 7) (q0 := 0) hx hb hml hown hts hK hX hS hl.1 (kX7_readsWord l D cI cJ cZ cD tA h R (upd J 15 v_27) L f1 q11 q12 q13 r_7 (by clear hP hD hl; have z_ := ev_27.symm; clear ev_27; subst z_; have z_ := er_7.symm; clear er_7; subst z_; have z_ := eI_2.symm; clear eI_2; subst z_; exact (ldk_rdI_in hp c_3).1) (by clear hP hD hl; have z_ := ev_27.symm; clear ev_27; subst z_; have z_ := er_7.symm; clear er_7; subst z_; have z_ := eI_2.symm; clear eI_2; subst z_; exact (ldk_rdI_in hp c_3).2.1) (by clear hP hD hl; have z_ := ev_27.symm; clear ev_27; subst z_; have z_ := er_7.symm; clear er_7; subst z_; have z_ := eI_2.symm; clear eI_2; subst z_; exact (ldk_rdI_in hp c_3).2.2.1)) gX7_reads_X7_readsWord rfl rfl rfl (by decide +kernel) ⟨Nat.le_of_ble_eq_true rfl, Nat.le_of_ble_eq_true rfl⟩ rfl rfl rfl rfl rfl (Nat.le_of_ble_eq_true rfl) dX7_reads_146 ⟨Nat.zero_le _, Nat.zero_le _⟩ hPc hDc hF) (fun r_28 u H locs er_28 hP hD hS => ?_)
        have er_28 : r_28 = (sX7_readsWord (upd J 15 v_27) f1 q11 q12 q13 r_7).1 := er_28
        obtain ⟨I_29, eI_29⟩ : ∃ x : (Nat → Int32), x = (sX7_readsWord (upd J 15 v_27) f1 q11 q12 q13 r_7).2.1 := ⟨_, rfl⟩
        obtain ⟨f_30, ef_30⟩ : ∃ x : (Nat → Int32), x = (sX7_readsWord (upd J 15 v_27) f1 q11 q12 q13 r_7).2.2.1 := ⟨_, rfl⟩
        obtain ⟨f_31, ef_31⟩ : ∃ x : (Nat → Int32), x = (sX7_readsWord (upd J 15 v_27) f1 q11 q12 q13 r_7).2.2.2.1 := ⟨_, rfl⟩
        obtain ⟨f_32, ef_32⟩ : ∃ x : (Nat → Int32), x = (sX7_readsWord (upd J 15 v_27) f1 q11 q12 q13 r_7).2.2.2.2 := ⟨_, rfl⟩
        have hP : va_P D vwCl [((R 16), .inl (cI, 6, .inl q16)), ((R 17), .inl (cI, 6, .inl q17)), (h, .inr (7, (oX7 R I_29 L))), ((R 1), .inl (cI, 160, .inl f1)), ((R 11), .inl (cI, 160, .inl f_30)), ((R 12), .inl (cI, 160, .inl f_31)), ((R 13), .inl (cI, 160, .inl f_32))] H := by rw [eI_29, ef_30, ef_31, ef_32]; exact hP
        have hD : va_D A [((R 16), .inl (cI, 6, .inl q16)), ((R 17), .inl (cI, 6, .inl q17)), (h, .inr (7, (oX7 R I_29 L))), ((R 1), .inl (cI, 160, .inl f1)), ((R 11), .inl (cI, 160, .inl f_30)), ((R 12), .inl (cI, 160, .inl f_31)), ((R 13), .inl (cI, 160, .inl f_32))] := by rw [eI_29, ef_30, ef_31, ef_32]; exact hD
        refine lv_if_ne (tgt := 154) hx hb dX7_reads_149 (by decide) (fun c_33 => ?_) (fun c_33 => ?_)
        · skip
          refine lv_aload_n hx hb dX7_reads_154 rfl (lv_at hl 1 rfl) ?_
          refine lv_dup hx hb dX7_reads_155 rfl ?_
          refine jx_get (v := .int (I_29 15)) hx hb hts iX7_reads_7 hown hK hP 2 rfl rfl 15 (by decide) hk86 rfl rfl dX7_reads_156 ?_
          refine lv_iconst (v := 1) hx hb dX7_reads_159 (by decide) ?_
          refine lv_isub hx hb dX7_reads_160 ?_
          refine lv_topi (fun v_34 ev_34 => ?_)
          refine jx_put (w2 := [((R 16), .inl (cI, 6, .inl q16)), ((R 17), .inl (cI, 6, .inl q17)), (h, .inr (7, (oX7 R (upd I_29 15 v_34) L))), ((R 1), .inl (cI, 160, .inl f1)), ((R 11), .inl (cI, 160, .inl f_30)), ((R 12), .inl (cI, 160, .inl f_31)), ((R 13), .inl (cI, 160, .inl f_32))]) hx hb hts iX7_reads_7 tyX7 tyX7_ok nmX7 hown hK hP hD hS 2 rfl rfl 15 (by decide) hk86 rfl rfl rfl rfl (Nat.le_of_ble_eq_true rfl) dX7_reads_161 rfl (fun H locs hP hD hS => ?_)
          refine lv_aload_n hx hb dX7_reads_164 rfl (lv_at hl 1 rfl) ?_
          refine lv_iconst (v := 0) hx hb dX7_reads_165 (by decide) ?_
          refine jx_put (w2 := [((R 16), .inl (cI, 6, .inl q16)), ((R 17), .inl (cI, 6, .inl q17)), (h, .inr (7, (oX7 R (upd (upd I_29 15 v_34) 43 (0 : Int32)) L))), ((R 1), .inl (cI, 160, .inl f1)), ((R 11), .inl (cI, 160, .inl f_30)), ((R 12), .inl (cI, 160, .inl f_31)), ((R 13), .inl (cI, 160, .inl f_32))]) hx hb hts iX7_reads_7 tyX7 tyX7_ok nmX7 hown hK hP hD hS 2 rfl rfl 43 (by decide) hk117 rfl rfl (jx_bn (Or.inl rfl)) (jx_bf (Or.inl rfl)) (Nat.le_of_ble_eq_true rfl) dX7_reads_166 rfl (fun H locs hP hD hS => ?_)
          refine lv_goto (tgt := 219) hx hb dX7_reads_169 (by decide) ?_
          refine lv_aload_n hx hb dX7_reads_219 rfl (lv_at hl 1 rfl) ?_
          refine lv_dup hx hb dX7_reads_220 rfl ?_
          refine jx_get (v := .int v_34) hx hb hts iX7_reads_7 hown hK hP 2 rfl rfl 15 (by decide) hk86 rfl rfl dX7_reads_221 ?_
          refine lv_iconst (v := 1) hx hb dX7_reads_224 (by decide) ?_
          refine lv_iadd hx hb dX7_reads_225 ?_
          refine lv_topi (fun v_35 ev_35 => ?_)
          refine jx_put (w2 := [((R 16), .inl (cI, 6, .inl q16)), ((R 17), .inl (cI, 6, .inl q17)), (h, .inr (7, (oX7 R (upd (upd I_29 15 v_35) 43 (0 : Int32)) L))), ((R 1), .inl (cI, 160, .inl f1)), ((R 11), .inl (cI, 160, .inl f_30)), ((R 12), .inl (cI, 160, .inl f_31)), ((R 13), .inl (cI, 160, .inl f_32))]) hx hb hts iX7_reads_7 tyX7 tyX7_ok nmX7 hown hK hP hD hS 2 rfl rfl 15 (by decide) hk86 rfl rfl rfl rfl (Nat.le_of_ble_eq_true rfl) dX7_reads_226 rfl (fun H locs hP hD hS => ?_)
          refine lv_aload_n hx hb dX7_reads_229 rfl (lv_at hl 1 rfl) ?_
          refine jx_callv (wc := [(h, .inr (7, (oX7 R (upd (upd I_29 15 v_35) 43 (0 : Int32)) L))), ((R 1), .inl (cI, 160, .inl f1))]) (wr := [((R 16), .inl (cI, 6, .inl q16)), ((R 17), .inl (cI, 6, .inl q17)), ((R 11), .inl (cI, 160, .inl f_30)), ((R 12), .inl (cI, 160, .inl f_31)), ((R 13), .inl (cI, 160, .inl f_32))]) hP hD hS hA hK [2, 3] [0, 1, 4, 5, 6] rfl rfl (by decide) (by decide) (by decide) (fun hPc hDc hF => jx_runV (As := []) (rest := []) (n := 0) (ci := 7) (q0 := 0) hx hb hml hown hts hK hX hS hl.1 (kX7_skip l D cI cJ cZ cD tA h R (upd (upd I_29 15 v_35) 43 (0 : Int32)) L f1 (by clear hP hD hl; have z_ := ev_35.symm; clear ev_35; subst z_; have z_ := ev_34.symm; clear ev_34; subst z_; have z_ := ef_32.symm; clear ef_32; subst z_; have z_ := ef_31.symm; clear ef_31; subst z_; have z_ := ef_30.symm; clear ef_30; subst z_; have z_ := eI_29.symm; clear eI_29; subst z_; have z_ := er_28.symm; clear er_28; subst z_; have z_ := ev_27.symm; clear ev_27; subst z_; have z_ := er_7.symm; clear er_7; subst z_; have z_ := eI_2.symm; clear eI_2; subst z_; rw [pk_un (by decide), pk_us]; exact (ldk_rdI_g hp c_3).2.2.2.1.1) (by clear hP hD hl; have z_ := ev_35.symm; clear ev_35; subst z_; have z_ := ev_34.symm; clear ev_34; subst z_; have z_ := ef_32.symm; clear ef_32; subst z_; have z_ := ef_31.symm; clear ef_31; subst z_; have z_ := ef_30.symm; clear ef_30; subst z_; have z_ := eI_29.symm; clear eI_29; subst z_; have z_ := er_28.symm; clear er_28; subst z_; have z_ := ev_27.symm; clear ev_27; subst z_; have z_ := er_7.symm; clear er_7; subst z_; have z_ := eI_2.symm; clear eI_2; subst z_; rw [pk_un (by decide), pk_un (by decide)]; exact (ldk_rdI_g hp c_3).2.2.2.1.2)) gX7_reads_X7_skip rfl rfl rfl (by decide +kernel) ⟨Nat.le_of_ble_eq_true rfl, Nat.le_of_ble_eq_true rfl⟩ rfl rfl rfl rfl rfl (Nat.le_of_ble_eq_true rfl) dX7_reads_230 ⟨Nat.zero_le _, Nat.zero_le _⟩ hPc hDc hF) (fun u H locs hw hP hD hS => ?_)
          obtain ⟨I_37, eI_37⟩ : ∃ x : (Nat → Int32), x = (sX7_skip (upd (upd I_29 15 v_35) 43 (0 : Int32)) f1) := ⟨_, rfl⟩
          have hP : va_P D vwCl [((R 16), .inl (cI, 6, .inl q16)), ((R 17), .inl (cI, 6, .inl q17)), ((R 11), .inl (cI, 160, .inl f_30)), ((R 12), .inl (cI, 160, .inl f_31)), ((R 13), .inl (cI, 160, .inl f_32)), (h, .inr (7, (oX7 R I_37 L))), ((R 1), .inl (cI, 160, .inl f1))] H := by rw [eI_37]; exact hP
          have hD : va_D A [((R 16), .inl (cI, 6, .inl q16)), ((R 17), .inl (cI, 6, .inl q17)), ((R 11), .inl (cI, 160, .inl f_30)), ((R 12), .inl (cI, 160, .inl f_31)), ((R 13), .inl (cI, 160, .inl f_32)), (h, .inr (7, (oX7 R I_37 L))), ((R 1), .inl (cI, 160, .inl f1))] := by rw [eI_37]; exact hD
          refine lv_goto (tgt := 29) hx hb dX7_reads_233 (by decide) ?_
          exact ih (I_37, f_30, f_31, f_32, q16, q17, nn - 1, ()) _ _ _ ⟨hP.sub (ws' := [((R 11), .inl (cI, 160, .inl f_30)), ((R 12), .inl (cI, 160, .inl f_31)), ((R 13), .inl (cI, 160, .inl f_32)), ((R 16), .inl (cI, 6, .inl q16)), ((R 17), .inl (cI, 6, .inl q17)), (h, .inr (7, (oX7 R I_37 L))), ((R 1), .inl (cI, 160, .inl f1))]) [2, 3, 4, 0, 1, 5, 6] rfl, hD.sub (ws' := [((R 11), .inl (cI, 160, .inl f_30)), ((R 12), .inl (cI, 160, .inl f_31)), ((R 13), .inl (cI, 160, .inl f_32)), ((R 16), .inl (cI, 6, .inl q16)), ((R 17), .inl (cI, 6, .inl q17)), (h, .inr (7, (oX7 R I_37 L))), ((R 1), .inl (cI, 160, .inl f1))]) [2, 3, 4, 0, 1, 5, 6] (by decide) rfl, hS, lv_sub hl [1] rfl, (show ldk_rdI f1 (sX7_reads I f1 f11 f12 f13 f16 f17) (nn - 1) I_37 f_30 f_31 f_32 q16 q17 from (by clear hP hD hl; have z_ := eI_37.symm; clear eI_37; subst z_; have z_ := ev_35.symm; clear ev_35; subst z_; have z_ := ev_34.symm; clear ev_34; subst z_; have z_ := ef_32.symm; clear ef_32; subst z_; have z_ := ef_31.symm; clear ef_31; subst z_; have z_ := ef_30.symm; clear ef_30; subst z_; have z_ := eI_29.symm; clear eI_29; subst z_; have z_ := er_28.symm; clear er_28; subst z_; have z_ := ev_27.symm; clear ev_27; subst z_; have z_ := er_7.symm; clear er_7; subst z_; have z_ := eI_2.symm; clear eI_2; subst z_; exact (ldk_rdI_s hp c_3 (ldk_rdS_w1 hfin c_33)).1))⟩ (show (nn - 1) < nn from (by clear hP hD hl; have z_ := eI_37.symm; clear eI_37; subst z_; have z_ := ev_35.symm; clear ev_35; subst z_; have z_ := ev_34.symm; clear ev_34; subst z_; have z_ := ef_32.symm; clear ef_32; subst z_; have z_ := ef_31.symm; clear ef_31; subst z_; have z_ := ef_30.symm; clear ef_30; subst z_; have z_ := eI_29.symm; clear eI_29; subst z_; have z_ := er_28.symm; clear er_28; subst z_; have z_ := ev_27.symm; clear ev_27; subst z_; have z_ := er_7.symm; clear er_7; subst z_; have z_ := eI_2.symm; clear eI_2; subst z_; exact (ldk_rdI_s hp c_3 (ldk_rdS_w1 hfin c_33)).2))
        · skip
          refine lv_iconst (v := 0) hx hb dX7_reads_152 (by decide) ?_
          have hq : (sX7_reads I f1 f11 f12 f13 f16 f17) = ((0 : Int32), I_29, f_30, f_31, f_32, q16, q17) := (by clear hP hD hl; have z_ := ef_32.symm; clear ef_32; subst z_; have z_ := ef_31.symm; clear ef_31; subst z_; have z_ := ef_30.symm; clear ef_30; subst z_; have z_ := eI_29.symm; clear eI_29; subst z_; have z_ := er_28.symm; clear er_28; subst z_; have z_ := ev_27.symm; clear ev_27; subst z_; have z_ := er_7.symm; clear er_7; subst z_; have z_ := eI_2.symm; clear eI_2; subst z_; exact ldk_rdI_f hp c_3 (ldk_rdS_w0 hfin c_33))
          exact jx_zret () hx hb hr hlocks hK (hP.sub (ws' := [(h, .inr (7, (oX7 R I_29 L))), ((R 1), .inl (cI, 160, .inl f1)), ((R 11), .inl (cI, 160, .inl f_30)), ((R 12), .inl (cI, 160, .inl f_31)), ((R 13), .inl (cI, 160, .inl f_32)), ((R 16), .inl (cI, 6, .inl q16)), ((R 17), .inl (cI, 6, .inl q17))]) [2, 3, 4, 5, 6, 0, 1] rfl) (hD.sub (ws' := [(h, .inr (7, (oX7 R I_29 L))), ((R 1), .inl (cI, 160, .inl f1)), ((R 11), .inl (cI, 160, .inl f_30)), ((R 12), .inl (cI, 160, .inl f_31)), ((R 13), .inl (cI, 160, .inl f_32)), ((R 16), .inl (cI, 6, .inl q16)), ((R 17), .inl (cI, 6, .inl q17))]) [2, 3, 4, 5, 6, 0, 1] (by decide) rfl) hS (by rw [hq]) (by rw [hq]) (Or.inl rfl) dX7_reads_153
    · skip
      refine lv_aload_n hx hb dX7_reads_51 rfl (lv_at hl 1 rfl) ?_
      refine jx_get (v := .int (J 18)) hx hb hts iX7_reads_7 hown hK hP 5 rfl rfl 18 (by decide) hk114 rfl rfl dX7_reads_52 ?_
      refine lv_if_eq (tgt := 83) hx hb dX7_reads_55 (by decide) (fun c_38 => ?_) (fun c_38 => ?_)
      · skip
        refine lv_iconst (v := 0) hx hb dX7_reads_83 (by decide) ?_
        have hq : (sX7_reads I f1 f11 f12 f13 f16 f17) = ((0 : Int32), J, q11, q12, q13, q16, q17) := (by clear hP hD hl; have z_ := er_7.symm; clear er_7; subst z_; have z_ := eI_2.symm; clear eI_2; subst z_; exact ldk_rdI_f hp c_3 (ldk_rdS_c0 c_8 c_38))
        exact jx_zret () hx hb hr hlocks hK (hP.sub (ws' := [(h, .inr (7, (oX7 R J L))), ((R 1), .inl (cI, 160, .inl f1)), ((R 11), .inl (cI, 160, .inl q11)), ((R 12), .inl (cI, 160, .inl q12)), ((R 13), .inl (cI, 160, .inl q13)), ((R 16), .inl (cI, 6, .inl q16)), ((R 17), .inl (cI, 6, .inl q17))]) [5, 6, 0, 1, 2, 3, 4] rfl) (hD.sub (ws' := [(h, .inr (7, (oX7 R J L))), ((R 1), .inl (cI, 160, .inl f1)), ((R 11), .inl (cI, 160, .inl q11)), ((R 12), .inl (cI, 160, .inl q12)), ((R 13), .inl (cI, 160, .inl q13)), ((R 16), .inl (cI, 6, .inl q16)), ((R 17), .inl (cI, 6, .inl q17))]) [5, 6, 0, 1, 2, 3, 4] (by decide) rfl) hS (by rw [hq]) (by rw [hq]) (Or.inl rfl) dX7_reads_84
      · skip
        refine lv_aload_n hx hb dX7_reads_58 rfl (lv_at hl 1 rfl) ?_
        refine jx_get (v := .int (J 43)) hx hb hts iX7_reads_7 hown hK hP 5 rfl rfl 43 (by decide) hk117 rfl rfl dX7_reads_59 ?_
        refine lv_if_ne (tgt := 83) hx hb dX7_reads_62 (by decide) (fun c_39 => ?_) (fun c_39 => ?_)
        · skip
          refine lv_iconst (v := 0) hx hb dX7_reads_83 (by decide) ?_
          have hq : (sX7_reads I f1 f11 f12 f13 f16 f17) = ((0 : Int32), J, q11, q12, q13, q16, q17) := (by clear hP hD hl; have z_ := er_7.symm; clear er_7; subst z_; have z_ := eI_2.symm; clear eI_2; subst z_; exact ldk_rdI_f hp c_3 (ldk_rdS_c1 c_8 c_38 c_39))
          exact jx_zret () hx hb hr hlocks hK (hP.sub (ws' := [(h, .inr (7, (oX7 R J L))), ((R 1), .inl (cI, 160, .inl f1)), ((R 11), .inl (cI, 160, .inl q11)), ((R 12), .inl (cI, 160, .inl q12)), ((R 13), .inl (cI, 160, .inl q13)), ((R 16), .inl (cI, 6, .inl q16)), ((R 17), .inl (cI, 6, .inl q17))]) [5, 6, 0, 1, 2, 3, 4] rfl) (hD.sub (ws' := [(h, .inr (7, (oX7 R J L))), ((R 1), .inl (cI, 160, .inl f1)), ((R 11), .inl (cI, 160, .inl q11)), ((R 12), .inl (cI, 160, .inl q12)), ((R 13), .inl (cI, 160, .inl q13)), ((R 16), .inl (cI, 6, .inl q16)), ((R 17), .inl (cI, 6, .inl q17))]) [5, 6, 0, 1, 2, 3, 4] (by decide) rfl) hS (by rw [hq]) (by rw [hq]) (Or.inl rfl) dX7_reads_84
        · skip
          refine lv_aload_n hx hb dX7_reads_65 rfl (lv_at hl 1 rfl) ?_
          refine jx_get (v := .int (J 19)) hx hb hts iX7_reads_7 hown hK hP 5 rfl rfl 19 (by decide) hk104 rfl rfl dX7_reads_66 ?_
          refine lv_aload_n hx hb dX7_reads_69 rfl (lv_at hl 1 rfl) ?_
          refine jx_get (v := .ref (R 17)) hx hb hts iX7_reads_7 hown hK hP 5 rfl rfl 17 (by decide) hk44 rfl rfl dX7_reads_70 ?_
          refine lv_aload_n hx hb dX7_reads_73 rfl (lv_at hl 1 rfl) ?_
          refine jx_get (v := .int (J 18)) hx hb hts iX7_reads_7 hown hK hP 5 rfl rfl 18 (by decide) hk114 rfl rfl dX7_reads_74 ?_
          refine lv_iconst (v := 1) hx hb dX7_reads_77 (by decide) ?_
          refine lv_isub hx hb dX7_reads_78 ?_
          refine va_iald hx hb hK hP 4 0 rfl rfl (by clear hP hD hl; have z_ := er_7.symm; clear er_7; subst z_; have z_ := eI_2.symm; clear eI_2; subst z_; exact ldk_rdI_o hp c_3 c_38) dX7_reads_79 ?_
          refine lv_icmp_ne (tgt := 85) hx hb dX7_reads_80 (by decide) (fun c_40 => ?_) (fun c_40 => ?_)
          · skip
            refine lv_aload_n hx hb dX7_reads_85 rfl (lv_at hl 1 rfl) ?_
            refine lv_dup hx hb dX7_reads_86 rfl ?_
            refine jx_get (v := .int (J 18)) hx hb hts iX7_reads_7 hown hK hP 5 rfl rfl 18 (by decide) hk114 rfl rfl dX7_reads_87 ?_
            refine lv_iconst (v := 1) hx hb dX7_reads_90 (by decide) ?_
            refine lv_isub hx hb dX7_reads_91 ?_
            refine lv_topi (fun v_41 ev_41 => ?_)
            refine jx_put (w2 := [((R 11), .inl (cI, 160, .inl q11)), ((R 12), .inl (cI, 160, .inl q12)), ((R 13), .inl (cI, 160, .inl q13)), ((R 16), .inl (cI, 6, .inl q16)), ((R 17), .inl (cI, 6, .inl q17)), (h, .inr (7, (oX7 R (upd J 18 v_41) L))), ((R 1), .inl (cI, 160, .inl f1))]) hx hb hts iX7_reads_7 tyX7 tyX7_ok nmX7 hown hK hP hD hS 5 rfl rfl 18 (by decide) hk114 rfl rfl rfl rfl (Nat.le_of_ble_eq_true rfl) dX7_reads_92 rfl (fun H locs hP hD hS => ?_)
            refine lv_aload_n hx hb dX7_reads_95 rfl (lv_at hl 1 rfl) ?_
            refine jx_get (v := .ref (R 13)) hx hb hts iX7_reads_7 hown hK hP 5 rfl rfl 13 (by decide) hk38 rfl rfl dX7_reads_96 ?_
            refine lv_aload_n hx hb dX7_reads_99 rfl (lv_at hl 1 rfl) ?_
            refine jx_get (v := .ref (R 16)) hx hb hts iX7_reads_7 hown hK hP 5 rfl rfl 16 (by decide) hk41 rfl rfl dX7_reads_100 ?_
            refine lv_aload_n hx hb dX7_reads_103 rfl (lv_at hl 1 rfl) ?_
            refine jx_get (v := .int v_41) hx hb hts iX7_reads_7 hown hK hP 5 rfl rfl 18 (by decide) hk114 rfl rfl dX7_reads_104 ?_
            refine va_iald hx hb hK hP 3 0 rfl rfl (by clear hP hD hl; have z_ := ev_41.symm; clear ev_41; subst z_; have z_ := er_7.symm; clear er_7; subst z_; have z_ := eI_2.symm; clear eI_2; subst z_; exact ldk_rdI_o hp c_3 c_38) dX7_reads_107 ?_
            refine lv_aload_n hx hb dX7_reads_108 rfl (lv_at hl 1 rfl) ?_
            refine jx_get (v := .int (J 14)) hx hb hts iX7_reads_7 hown hK hP 5 rfl rfl 14 (by decide) hk93 rfl rfl dX7_reads_109 ?_
            refine jx_iast (w2 := [((R 11), .inl (cI, 160, .inl q11)), ((R 12), .inl (cI, 160, .inl q12)), ((R 13), .inl (cI, 160, .inl (upd q13 (q16 v_41.toNatClampNeg).toNatClampNeg (J 14)))), ((R 16), .inl (cI, 6, .inl q16)), ((R 17), .inl (cI, 6, .inl q17)), (h, .inr (7, (oX7 R (upd J 18 v_41) L))), ((R 1), .inl (cI, 160, .inl f1))]) hx hb hK hP hD hS 2 0 rfl rfl (by clear hP hD hl; have z_ := ev_41.symm; clear ev_41; subst z_; have z_ := er_7.symm; clear er_7; subst z_; have z_ := eI_2.symm; clear eI_2; subst z_; exact (ldk_rdI_g hp c_3).2.2.1 c_38) dX7_reads_112 rfl (fun H locs hP hD hS => ?_)
            refine lv_goto (tgt := 219) hx hb dX7_reads_113 (by decide) ?_
            refine lv_aload_n hx hb dX7_reads_219 rfl (lv_at hl 1 rfl) ?_
            refine lv_dup hx hb dX7_reads_220 rfl ?_
            refine jx_get (v := .int (J 15)) hx hb hts iX7_reads_7 hown hK hP 5 rfl rfl 15 (by decide) hk86 rfl rfl dX7_reads_221 ?_
            refine lv_iconst (v := 1) hx hb dX7_reads_224 (by decide) ?_
            refine lv_iadd hx hb dX7_reads_225 ?_
            refine lv_topi (fun v_42 ev_42 => ?_)
            refine jx_put (w2 := [((R 11), .inl (cI, 160, .inl q11)), ((R 12), .inl (cI, 160, .inl q12)), ((R 13), .inl (cI, 160, .inl (upd q13 (q16 v_41.toNatClampNeg).toNatClampNeg (J 14)))), ((R 16), .inl (cI, 6, .inl q16)), ((R 17), .inl (cI, 6, .inl q17)), (h, .inr (7, (oX7 R (upd (upd J 15 v_42) 18 v_41) L))), ((R 1), .inl (cI, 160, .inl f1))]) hx hb hts iX7_reads_7 tyX7 tyX7_ok nmX7 hown hK hP hD hS 5 rfl rfl 15 (by decide) hk86 rfl rfl rfl rfl (Nat.le_of_ble_eq_true rfl) dX7_reads_226 rfl (fun H locs hP hD hS => ?_)
            refine lv_aload_n hx hb dX7_reads_229 rfl (lv_at hl 1 rfl) ?_
            refine jx_callv (wc := [(h, .inr (7, (oX7 R (upd (upd J 15 v_42) 18 v_41) L))), ((R 1), .inl (cI, 160, .inl f1))]) (wr := [((R 11), .inl (cI, 160, .inl q11)), ((R 12), .inl (cI, 160, .inl q12)), ((R 13), .inl (cI, 160, .inl (upd q13 (q16 v_41.toNatClampNeg).toNatClampNeg (J 14)))), ((R 16), .inl (cI, 6, .inl q16)), ((R 17), .inl (cI, 6, .inl q17))]) hP hD hS hA hK [5, 6] [0, 1, 2, 3, 4] rfl rfl (by decide) (by decide) (by decide) (fun hPc hDc hF => jx_runV (As := []) (rest := []) (n := 0) (ci := 7) (q0 := 0) hx hb hml hown hts hK hX hS hl.1 (kX7_skip l D cI cJ cZ cD tA h R (upd (upd J 15 v_42) 18 v_41) L f1 (by clear hP hD hl; have z_ := ev_42.symm; clear ev_42; subst z_; have z_ := ev_41.symm; clear ev_41; subst z_; have z_ := er_7.symm; clear er_7; subst z_; have z_ := eI_2.symm; clear eI_2; subst z_; rw [pk_un (by decide)]; exact (ldk_rdI_in hp c_3).1) (by clear hP hD hl; have z_ := ev_42.symm; clear ev_42; subst z_; have z_ := ev_41.symm; clear ev_41; subst z_; have z_ := er_7.symm; clear er_7; subst z_; have z_ := eI_2.symm; clear eI_2; subst z_; rw [pk_un (by decide)]; exact (ldk_rdI_in hp c_3).2.1)) gX7_reads_X7_skip rfl rfl rfl (by decide +kernel) ⟨Nat.le_of_ble_eq_true rfl, Nat.le_of_ble_eq_true rfl⟩ rfl rfl rfl rfl rfl (Nat.le_of_ble_eq_true rfl) dX7_reads_230 ⟨Nat.zero_le _, Nat.zero_le _⟩ hPc hDc hF) (fun u H locs hw hP hD hS => ?_)
            obtain ⟨I_44, eI_44⟩ : ∃ x : (Nat → Int32), x = (sX7_skip (upd (upd J 15 v_42) 18 v_41) f1) := ⟨_, rfl⟩
            have hP : va_P D vwCl [((R 11), .inl (cI, 160, .inl q11)), ((R 12), .inl (cI, 160, .inl q12)), ((R 13), .inl (cI, 160, .inl (upd q13 (q16 v_41.toNatClampNeg).toNatClampNeg (J 14)))), ((R 16), .inl (cI, 6, .inl q16)), ((R 17), .inl (cI, 6, .inl q17)), (h, .inr (7, (oX7 R I_44 L))), ((R 1), .inl (cI, 160, .inl f1))] H := by rw [eI_44]; exact hP
            have hD : va_D A [((R 11), .inl (cI, 160, .inl q11)), ((R 12), .inl (cI, 160, .inl q12)), ((R 13), .inl (cI, 160, .inl (upd q13 (q16 v_41.toNatClampNeg).toNatClampNeg (J 14)))), ((R 16), .inl (cI, 6, .inl q16)), ((R 17), .inl (cI, 6, .inl q17)), (h, .inr (7, (oX7 R I_44 L))), ((R 1), .inl (cI, 160, .inl f1))] := by rw [eI_44]; exact hD
            refine lv_goto (tgt := 29) hx hb dX7_reads_233 (by decide) ?_
            exact ih (I_44, q11, q12, (upd q13 (q16 v_41.toNatClampNeg).toNatClampNeg (J 14)), q16, q17, nn - 1, ()) _ _ _ ⟨hP, hD, hS, lv_sub hl [1] rfl, (show ldk_rdI f1 (sX7_reads I f1 f11 f12 f13 f16 f17) (nn - 1) I_44 q11 q12 (upd q13 (q16 v_41.toNatClampNeg).toNatClampNeg (J 14)) q16 q17 from (by clear hP hD hl; have z_ := eI_44.symm; clear eI_44; subst z_; have z_ := ev_42.symm; clear ev_42; subst z_; have z_ := ev_41.symm; clear ev_41; subst z_; have z_ := er_7.symm; clear er_7; subst z_; have z_ := eI_2.symm; clear eI_2; subst z_; exact (ldk_rdI_s hp c_3 (ldk_rdS_c3 c_8 c_38 c_39 c_40)).1))⟩ (show (nn - 1) < nn from (by clear hP hD hl; have z_ := eI_44.symm; clear eI_44; subst z_; have z_ := ev_42.symm; clear ev_42; subst z_; have z_ := ev_41.symm; clear ev_41; subst z_; have z_ := er_7.symm; clear er_7; subst z_; have z_ := eI_2.symm; clear eI_2; subst z_; exact (ldk_rdI_s hp c_3 (ldk_rdS_c3 c_8 c_38 c_39 c_40)).2))
          · skip
            refine lv_iconst (v := 0) hx hb dX7_reads_83 (by decide) ?_
            have hq : (sX7_reads I f1 f11 f12 f13 f16 f17) = ((0 : Int32), J, q11, q12, q13, q16, q17) := (by clear hP hD hl; have z_ := er_7.symm; clear er_7; subst z_; have z_ := eI_2.symm; clear eI_2; subst z_; exact ldk_rdI_f hp c_3 (ldk_rdS_c2 c_8 c_38 c_39 c_40))
            exact jx_zret () hx hb hr hlocks hK (hP.sub (ws' := [(h, .inr (7, (oX7 R J L))), ((R 1), .inl (cI, 160, .inl f1)), ((R 11), .inl (cI, 160, .inl q11)), ((R 12), .inl (cI, 160, .inl q12)), ((R 13), .inl (cI, 160, .inl q13)), ((R 16), .inl (cI, 6, .inl q16)), ((R 17), .inl (cI, 6, .inl q17))]) [5, 6, 0, 1, 2, 3, 4] rfl) (hD.sub (ws' := [(h, .inr (7, (oX7 R J L))), ((R 1), .inl (cI, 160, .inl f1)), ((R 11), .inl (cI, 160, .inl q11)), ((R 12), .inl (cI, 160, .inl q12)), ((R 13), .inl (cI, 160, .inl q13)), ((R 16), .inl (cI, 6, .inl q16)), ((R 17), .inl (cI, 6, .inl q17))]) [5, 6, 0, 1, 2, 3, 4] (by decide) rfl) hS (by rw [hq]) (by rw [hq]) (Or.inl rfl) dX7_reads_84

