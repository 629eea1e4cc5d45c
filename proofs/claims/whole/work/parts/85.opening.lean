set_option maxRecDepth 20000 in
theorem iX7_readsOpening_7 : ∀ w ∈ wsX70, w ∈ wsX7_readsOpening := by decide +kernel
set_option maxHeartbeats 4000000 in
set_option maxRecDepth 100000 in
theorem kX7_readsOpening (l : Launch) (D : va_G) (cI cJ cZ cD : ClassId) (tA : Nat) (h : Nat) (R : Nat → Nat) (I : Nat → Int32) (L : Nat → Int64) (f1 : Nat → Int32) (f11 : Nat → Int32) (f12 : Nat → Int32) (f13 : Nat → Int32) (f16 : Nat → Int32) (f17 : Nat → Int32) (a0 : Int32) (ha : 0 ≤ (I 15).toInt) (hs : (I 2).toInt ≤ 160) (hi : vp_in (I 14) 160) (ho : 0 ≤ (I 18).toInt ∧ (I 18).toInt ≤ 6) : jx_M l yX7_readsOpening wsX7_readsOpening ({ frames := 2, cells := 0, slots := 0, locals := 40 }) D (jT cI cJ cZ cD) tA [.ref h, .int a0] [(h, .inr (7, (oX7 R I L))), ((R 1), .inl (cI, 160, .inl f1)), ((R 11), .inl (cI, 160, .inl f11)), ((R 12), .inl (cI, 160, .inl f12)), ((R 13), .inl (cI, 160, .inl f13)), ((R 16), .inl (cI, 6, .inl f16)), ((R 17), .inl (cI, 6, .inl f17))] (jx_Qi D (jT cI cJ cZ cD) (fun r (_ : Unit) => r = (sX7_readsOpening I f1 f11 f12 f13 f16 f17 a0).1) (fun _ => [(h, .inr (7, (oX7 R (sX7_readsOpening I f1 f11 f12 f13 f16 f17 a0).2.1 L))), ((R 1), .inl (cI, 160, .inl f1)), ((R 11), .inl (cI, 160, .inl ((sX7_readsOpening I f1 f11 f12 f13 f16 f17 a0).2.2.1))), ((R 12), .inl (cI, 160, .inl ((sX7_readsOpening I f1 f11 f12 f13 f16 f17 a0).2.2.2.1))), ((R 13), .inl (cI, 160, .inl ((sX7_readsOpening I f1 f11 f12 f13 f16 f17 a0).2.2.2.2.1))), ((R 16), .inl (cI, 6, .inl ((sX7_readsOpening I f1 f11 f12 f13 f16 f17 a0).2.2.2.2.2.1))), ((R 17), .inl (cI, 6, .inl ((sX7_readsOpening I f1 f11 f12 f13 f16 f17 a0).2.2.2.2.2.2)))])) := by
  refine jx_of (cc := cX7_readsOpening) (maxL := 4) (ret := (some .boolean)) (by decide +kernel) rfl (Nat.le_of_ble_eq_true rfl) ?_
  intro p e s m below meth c A ls hx hb hr hlocks hml hown hts hK hP hD hA hS hX hl
  have hl : lv_has ls 4 [(0, .ref h), (1, .int a0)] := hl
  have hown : s.vm.findClass RX7 = some m.cls := hown
  have hk41 := hts (.fieldLink RX7 41 "LoomDeskModel" "open" "[I") (by decide +kernel)
  have hk44 := hts (.fieldLink RX7 44 "LoomDeskModel" "before" "[I") (by decide +kernel)
  have hk86 := hts (.fieldLink RX7 86 "LoomDeskModel" "at" "I") (by decide +kernel)
  have hk93 := hts (.fieldLink RX7 93 "LoomDeskModel" "newItems" "I") (by decide +kernel)
  have hk104 := hts (.fieldLink RX7 104 "LoomDeskModel" "seen" "I") (by decide +kernel)
  have hk114 := hts (.fieldLink RX7 114 "LoomDeskModel" "opens" "I") (by decide +kernel)
  have hk117 := hts (.fieldLink RX7 117 "LoomDeskModel" "wants" "Z") (by decide +kernel)
  refine lv_iconst (v := 2) hx hb dX7_readsOpening_0 (by decide) ?_
  refine lv_istore_n (lv' := [(2, .int (2 : Int32)), (0, .ref h), (1, .int a0)]) hx hb dX7_readsOpening_1 rfl hl (by decide) rfl (fun ls hl => ?_)
  refine lv_iload_n hx hb dX7_readsOpening_2 rfl (lv_at hl 2 rfl) ?_
  refine lv_bipush (v := 114) hx hb dX7_readsOpening_3 (by decide) ?_
  refine lv_icmp_ne (tgt := 105) hx hb dX7_readsOpening_5 (by decide) (fun c_1 => ?_) (fun c_1 => ?_)
  · skip
    refine lv_aload_n hx hb dX7_readsOpening_105 rfl (lv_at hl 1 rfl) ?_
    refine jx_callv (wc := [(h, .inr (7, (oX7 R I L))), ((R 1), .inl (cI, 160, .inl f1))]) (wr := [((R 11), .inl (cI, 160, .inl f11)), ((R 12), .inl (cI, 160, .inl f12)), ((R 13), .inl (cI, 160, .inl f13)), ((R 16), .inl (cI, 6, .inl f16)), ((R 17), .inl (cI, 6, .inl f17))]) hP hD hS hA hK [0, 1] [2, 3, 4, 5, 6] rfl rfl (by decide) (by decide) (by decide) (fun hPc hDc hF => jx_runV (As := []) (rest := []) (n := 0) (ci := 7) (q0 := 0) hx hb hml hown hts hK hX hS hl.1 (kX7_skip l D cI cJ cZ cD tA h R I L f1 ha hs) gX7_readsOpening_X7_skip rfl rfl rfl (by decide +kernel) ⟨Nat.le_of_ble_eq_true rfl, Nat.le_of_ble_eq_true rfl⟩ rfl rfl rfl rfl rfl (Nat.le_of_ble_eq_true rfl) dX7_readsOpening_106 ⟨Nat.zero_le _, Nat.zero_le _⟩ hPc hDc hF) (fun u H locs hw hP hD hS => ?_)
    obtain ⟨I_3, eI_3⟩ : ∃ x : (Nat → Int32), x = (sX7_skip I f1) := ⟨_, rfl⟩
    have hP : va_P D vwCl [((R 11), .inl (cI, 160, .inl f11)), ((R 12), .inl (cI, 160, .inl f12)), ((R 13), .inl (cI, 160, .inl f13)), ((R 16), .inl (cI, 6, .inl f16)), ((R 17), .inl (cI, 6, .inl f17)), (h, .inr (7, (oX7 R I_3 L))), ((R 1), .inl (cI, 160, .inl f1))] H := by rw [eI_3]; exact hP
    have hD : va_D A [((R 11), .inl (cI, 160, .inl f11)), ((R 12), .inl (cI, 160, .inl f12)), ((R 13), .inl (cI, 160, .inl f13)), ((R 16), .inl (cI, 6, .inl f16)), ((R 17), .inl (cI, 6, .inl f17)), (h, .inr (7, (oX7 R I_3 L))), ((R 1), .inl (cI, 160, .inl f1))] := by rw [eI_3]; exact hD
    refine lv_aload_n hx hb dX7_readsOpening_109 rfl (lv_at hl 1 rfl) ?_
    refine jx_pcalli (wc := [(h, .inr (7, (oX7 R I_3 L))), ((R 1), .inl (cI, 160, .inl f1))]) hP hD hS hA [5, 6] rfl (by decide) (fun hPc hDc hF => jx_runVs (As := []) (rest := []) (n := 0) (ci := 7) (q0 := 0) hx hb hml hown hts hK hX hS hl.1 (kX7_see l D cI cJ cZ cD tA h R I_3 L f1 (by clear hP hD hl; have z_ := eI_3.symm; clear eI_3; subst z_; exact sk_pos _ _ ha hs) (by clear hP hD hl; have z_ := eI_3.symm; clear eI_3; subst z_; rw [sk_keep _ _ (by decide)]; exact hs)) gX7_readsOpening_X7_see rfl rfl rfl (by decide +kernel) ⟨Nat.le_of_ble_eq_true rfl, Nat.le_of_ble_eq_true rfl⟩ rfl rfl rfl rfl rfl (Nat.le_of_ble_eq_true rfl) dX7_readsOpening_110 ⟨Nat.zero_le _, Nat.zero_le _⟩ hPc hDc hF) (fun r_4 er_4 => ?_)
    have er_4 : r_4 = (sX7_see I_3 f1) := er_4
    refine lv_bipush (v := 40) hx hb dX7_readsOpening_113 (by decide) ?_
    refine lv_icmp_ne (tgt := 127) hx hb dX7_readsOpening_115 (by decide) (fun c_5 => ?_) (fun c_5 => ?_)
    · skip
      refine lv_iconst (v := 0) hx hb dX7_readsOpening_127 (by decide) ?_
      have hq : (sX7_readsOpening I f1 f11 f12 f13 f16 f17 a0) = ((0 : Int32), I_3, f11, f12, f13, f16, f17) := (by clear hP hD hl; have z_ := er_4.symm; clear er_4; subst z_; have z_ := eI_3.symm; clear eI_3; subst z_; unfold sX7_readsOpening; exact (if_neg c_1).trans ((if_neg c_5)))
      exact jx_zret () hx hb hr hlocks hK (hP.sub (ws' := [(h, .inr (7, (oX7 R I_3 L))), ((R 1), .inl (cI, 160, .inl f1)), ((R 11), .inl (cI, 160, .inl f11)), ((R 12), .inl (cI, 160, .inl f12)), ((R 13), .inl (cI, 160, .inl f13)), ((R 16), .inl (cI, 6, .inl f16)), ((R 17), .inl (cI, 6, .inl f17))]) [5, 6, 0, 1, 2, 3, 4] rfl) (hD.sub (ws' := [(h, .inr (7, (oX7 R I_3 L))), ((R 1), .inl (cI, 160, .inl f1)), ((R 11), .inl (cI, 160, .inl f11)), ((R 12), .inl (cI, 160, .inl f12)), ((R 13), .inl (cI, 160, .inl f13)), ((R 16), .inl (cI, 6, .inl f16)), ((R 17), .inl (cI, 6, .inl f17))]) [5, 6, 0, 1, 2, 3, 4] (by decide) rfl) hS (by rw [hq]) (by rw [hq]) (Or.inl rfl) dX7_readsOpening_128
    · skip
      refine lv_aload_n hx hb dX7_readsOpening_118 rfl (lv_at hl 1 rfl) ?_
      refine jx_get (v := .int (I_3 18)) hx hb hts iX7_readsOpening_7 hown hK hP 5 rfl rfl 18 (by decide) hk114 rfl rfl dX7_readsOpening_119 ?_
      refine lv_bipush (v := 6) hx hb dX7_readsOpening_122 (by decide) ?_
      refine lv_icmp_ne (tgt := 129) hx hb dX7_readsOpening_124 (by decide) (fun c_6 => ?_) (fun c_6 => ?_)
      · skip
        refine lv_aload_n hx hb dX7_readsOpening_129 rfl (lv_at hl 1 rfl) ?_
        refine lv_dup hx hb dX7_readsOpening_130 rfl ?_
        refine jx_get (v := .int (I_3 15)) hx hb hts iX7_readsOpening_7 hown hK hP 5 rfl rfl 15 (by decide) hk86 rfl rfl dX7_readsOpening_131 ?_
        refine lv_iconst (v := 1) hx hb dX7_readsOpening_134 (by decide) ?_
        refine lv_iadd hx hb dX7_readsOpening_135 ?_
        refine lv_topi (fun v_7 ev_7 => ?_)
        refine jx_put (w2 := [((R 11), .inl (cI, 160, .inl f11)), ((R 12), .inl (cI, 160, .inl f12)), ((R 13), .inl (cI, 160, .inl f13)), ((R 16), .inl (cI, 6, .inl f16)), ((R 17), .inl (cI, 6, .inl f17)), (h, .inr (7, (oX7 R (upd I_3 15 v_7) L))), ((R 1), .inl (cI, 160, .inl f1))]) hx hb hts iX7_readsOpening_7 tyX7 tyX7_ok nmX7 hown hK hP hD hS 5 rfl rfl 15 (by decide) hk86 rfl rfl rfl rfl (Nat.le_of_ble_eq_true rfl) dX7_readsOpening_136 rfl (fun H locs hP hD hS => ?_)
        refine lv_aload_n hx hb dX7_readsOpening_139 rfl (lv_at hl 1 rfl) ?_
        refine jx_get (v := .ref (R 16)) hx hb hts iX7_readsOpening_7 hown hK hP 5 rfl rfl 16 (by decide) hk41 rfl rfl dX7_readsOpening_140 ?_
        refine lv_aload_n hx hb dX7_readsOpening_143 rfl (lv_at hl 1 rfl) ?_
        refine jx_get (v := .int (I_3 18)) hx hb hts iX7_readsOpening_7 hown hK hP 5 rfl rfl 18 (by decide) hk114 rfl rfl dX7_readsOpening_144 ?_
        refine lv_aload_n hx hb dX7_readsOpening_147 rfl (lv_at hl 1 rfl) ?_
        refine jx_get (v := .int (I_3 14)) hx hb hts iX7_readsOpening_7 hown hK hP 5 rfl rfl 14 (by decide) hk93 rfl rfl dX7_readsOpening_148 ?_
        refine jx_iast (w2 := [((R 11), .inl (cI, 160, .inl f11)), ((R 12), .inl (cI, 160, .inl f12)), ((R 13), .inl (cI, 160, .inl f13)), ((R 16), .inl (cI, 6, .inl (upd f16 (I_3 18).toNatClampNeg (I_3 14)))), ((R 17), .inl (cI, 6, .inl f17)), (h, .inr (7, (oX7 R (upd I_3 15 v_7) L))), ((R 1), .inl (cI, 160, .inl f1))]) hx hb hK hP hD hS 3 0 rfl rfl (by clear hP hD hl; have z_ := ev_7.symm; clear ev_7; subst z_; have z_ := er_4.symm; clear er_4; subst z_; have z_ := eI_3.symm; clear eI_3; subst z_; exact ldk_op6 (by rw [sk_keep _ _ (by decide)]; exact ho) c_6) dX7_readsOpening_151 rfl (fun H locs hP hD hS => ?_)
        refine lv_aload_n hx hb dX7_readsOpening_152 rfl (lv_at hl 1 rfl) ?_
        refine jx_get (v := .ref (R 17)) hx hb hts iX7_readsOpening_7 hown hK hP 5 rfl rfl 17 (by decide) hk44 rfl rfl dX7_readsOpening_153 ?_
        refine lv_aload_n hx hb dX7_readsOpening_156 rfl (lv_at hl 1 rfl) ?_
        refine jx_get (v := .int (I_3 18)) hx hb hts iX7_readsOpening_7 hown hK hP 5 rfl rfl 18 (by decide) hk114 rfl rfl dX7_readsOpening_157 ?_
        refine lv_aload_n hx hb dX7_readsOpening_160 rfl (lv_at hl 1 rfl) ?_
        refine jx_get (v := .int (I_3 19)) hx hb hts iX7_readsOpening_7 hown hK hP 5 rfl rfl 19 (by decide) hk104 rfl rfl dX7_readsOpening_161 ?_
        refine jx_iast (w2 := [((R 11), .inl (cI, 160, .inl f11)), ((R 12), .inl (cI, 160, .inl f12)), ((R 13), .inl (cI, 160, .inl f13)), ((R 16), .inl (cI, 6, .inl (upd f16 (I_3 18).toNatClampNeg (I_3 14)))), ((R 17), .inl (cI, 6, .inl (upd f17 (I_3 18).toNatClampNeg (I_3 19)))), (h, .inr (7, (oX7 R (upd I_3 15 v_7) L))), ((R 1), .inl (cI, 160, .inl f1))]) hx hb hK hP hD hS 4 0 rfl rfl (by clear hP hD hl; have z_ := ev_7.symm; clear ev_7; subst z_; have z_ := er_4.symm; clear er_4; subst z_; have z_ := eI_3.symm; clear eI_3; subst z_; exact ldk_op6 (by rw [sk_keep _ _ (by decide)]; exact ho) c_6) dX7_readsOpening_164 rfl (fun H locs hP hD hS => ?_)
        refine lv_aload_n hx hb dX7_readsOpening_165 rfl (lv_at hl 1 rfl) ?_
        refine lv_dup hx hb dX7_readsOpening_166 rfl ?_
        refine jx_get (v := .int (I_3 18)) hx hb hts iX7_readsOpening_7 hown hK hP 5 rfl rfl 18 (by decide) hk114 rfl rfl dX7_readsOpening_167 ?_
        refine lv_iconst (v := 1) hx hb dX7_readsOpening_170 (by decide) ?_
        refine lv_iadd hx hb dX7_readsOpening_171 ?_
        refine lv_topi (fun v_8 ev_8 => ?_)
        refine jx_put (w2 := [((R 11), .inl (cI, 160, .inl f11)), ((R 12), .inl (cI, 160, .inl f12)), ((R 13), .inl (cI, 160, .inl f13)), ((R 16), .inl (cI, 6, .inl (upd f16 (I_3 18).toNatClampNeg (I_3 14)))), ((R 17), .inl (cI, 6, .inl (upd f17 (I_3 18).toNatClampNeg (I_3 19)))), (h, .inr (7, (oX7 R (upd (upd I_3 15 v_7) 18 v_8) L))), ((R 1), .inl (cI, 160, .inl f1))]) hx hb hts iX7_readsOpening_7 tyX7 tyX7_ok nmX7 hown hK hP hD hS 5 rfl rfl 18 (by decide) hk114 rfl rfl rfl rfl (Nat.le_of_ble_eq_true rfl) dX7_readsOpening_172 rfl (fun H locs hP hD hS => ?_)
        refine lv_aload_n hx hb dX7_readsOpening_175 rfl (lv_at hl 1 rfl) ?_
        refine lv_iload_n hx hb dX7_readsOpening_176 rfl (lv_at hl 2 rfl) ?_
        refine lv_bipush (v := 114) hx hb dX7_readsOpening_177 (by decide) ?_
        refine jx_joini (J := 187) (v := (if a0 = (114 : Int32) then (3 : Int32) else (4 : Int32))) (rest := [.ref h]) (fun key => ?_) ?_
        · skip
          refine lv_icmp_ne (tgt := 186) hx hb dX7_readsOpening_179 (by decide) (fun c_9 => ?_) (fun c_9 => ?_)
          · skip
            refine lv_iconst (v := 4) hx hb dX7_readsOpening_186 (by decide) ?_
            rw [if_neg c_9] at key
            exact key
          · skip
            refine lv_iconst (v := 3) hx hb dX7_readsOpening_182 (by decide) ?_
            refine lv_goto (tgt := 187) hx hb dX7_readsOpening_183 (by decide) ?_
            rw [if_pos c_9] at key
            exact key
        refine lv_topi (fun v_10 ev_10 => ?_)
        refine lv_iload_n hx hb dX7_readsOpening_187 rfl (lv_at hl 0 rfl) ?_
        refine jx_callv (wc := [(h, .inr (7, (oX7 R (upd (upd I_3 15 v_7) 18 v_8) L))), ((R 11), .inl (cI, 160, .inl f11)), ((R 12), .inl (cI, 160, .inl f12)), ((R 13), .inl (cI, 160, .inl f13))]) (wr := [((R 16), .inl (cI, 6, .inl (upd f16 (I_3 18).toNatClampNeg (I_3 14)))), ((R 17), .inl (cI, 6, .inl (upd f17 (I_3 18).toNatClampNeg (I_3 19)))), ((R 1), .inl (cI, 160, .inl f1))]) hP hD hS hA hK [5, 0, 1, 2] [3, 4, 6] rfl rfl (by decide) (by decide) (by decide) (fun hPc hDc hF => jx_runV (As := [.int v_10, .int (2 : Int32)]) (rest := []) (n := 2) (ci := 7) (q0 := 0) hx hb hml hown hts hK hX hS hl.1 (kX7_item l D cI cJ cZ cD tA h R (upd (upd I_3 15 v_7) 18 v_8) L f11 f12 f13 v_10 (2 : Int32) (by clear hP hD hl; have z_ := ev_10.symm; clear ev_10; subst z_; have z_ := ev_8.symm; clear ev_8; subst z_; have z_ := ev_7.symm; clear ev_7; subst z_; have z_ := er_4.symm; clear er_4; subst z_; have z_ := eI_3.symm; clear eI_3; subst z_; rw [pk_un (by decide), pk_un (by decide), sk_keep _ _ (by decide)]; exact hi)) gX7_readsOpening_X7_item rfl rfl rfl (by decide +kernel) ⟨Nat.le_of_ble_eq_true rfl, Nat.le_of_ble_eq_true rfl⟩ rfl rfl rfl rfl rfl (Nat.le_of_ble_eq_true rfl) dX7_readsOpening_188 ⟨Nat.zero_le _, Nat.zero_le _⟩ hPc hDc hF) (fun u H locs hw hP hD hS => ?_)
        obtain ⟨I_12, eI_12⟩ : ∃ x : (Nat → Int32), x = (sX7_item (upd (upd I_3 15 v_7) 18 v_8) f11 f12 f13 v_10 (2 : Int32)).1 := ⟨_, rfl⟩
        obtain ⟨f_13, ef_13⟩ : ∃ x : (Nat → Int32), x = (sX7_item (upd (upd I_3 15 v_7) 18 v_8) f11 f12 f13 v_10 (2 : Int32)).2.1 := ⟨_, rfl⟩
        obtain ⟨f_14, ef_14⟩ : ∃ x : (Nat → Int32), x = (sX7_item (upd (upd I_3 15 v_7) 18 v_8) f11 f12 f13 v_10 (2 : Int32)).2.2.1 := ⟨_, rfl⟩
        obtain ⟨f_15, ef_15⟩ : ∃ x : (Nat → Int32), x = (sX7_item (upd (upd I_3 15 v_7) 18 v_8) f11 f12 f13 v_10 (2 : Int32)).2.2.2 := ⟨_, rfl⟩
        have hP : va_P D vwCl [((R 16), .inl (cI, 6, .inl (upd f16 (I_3 18).toNatClampNeg (I_3 14)))), ((R 17), .inl (cI, 6, .inl (upd f17 (I_3 18).toNatClampNeg (I_3 19)))), ((R 1), .inl (cI, 160, .inl f1)), (h, .inr (7, (oX7 R I_12 L))), ((R 11), .inl (cI, 160, .inl f_13)), ((R 12), .inl (cI, 160, .inl f_14)), ((R 13), .inl (cI, 160, .inl f_15))] H := by rw [eI_12, ef_13, ef_14, ef_15]; exact hP
        have hD : va_D A [((R 16), .inl (cI, 6, .inl (upd f16 (I_3 18).toNatClampNeg (I_3 14)))), ((R 17), .inl (cI, 6, .inl (upd f17 (I_3 18).toNatClampNeg (I_3 19)))), ((R 1), .inl (cI, 160, .inl f1)), (h, .inr (7, (oX7 R I_12 L))), ((R 11), .inl (cI, 160, .inl f_13)), ((R 12), .inl (cI, 160, .inl f_14)), ((R 13), .inl (cI, 160, .inl f_15))] := by rw [eI_12, ef_13, ef_14, ef_15]; exact hD
        refine lv_aload_n hx hb dX7_readsOpening_191 rfl (lv_at hl 1 rfl) ?_
        refine lv_iconst (v := 1) hx hb dX7_readsOpening_192 (by decide) ?_
        refine jx_put (w2 := [((R 16), .inl (cI, 6, .inl (upd f16 (I_3 18).toNatClampNeg (I_3 14)))), ((R 17), .inl (cI, 6, .inl (upd f17 (I_3 18).toNatClampNeg (I_3 19)))), ((R 1), .inl (cI, 160, .inl f1)), (h, .inr (7, (oX7 R (upd I_12 43 (1 : Int32)) L))), ((R 11), .inl (cI, 160, .inl f_13)), ((R 12), .inl (cI, 160, .inl f_14)), ((R 13), .inl (cI, 160, .inl f_15))]) hx hb hts iX7_readsOpening_7 tyX7 tyX7_ok nmX7 hown hK hP hD hS 3 rfl rfl 43 (by decide) hk117 rfl rfl (jx_bn (Or.inr rfl)) (jx_bf (Or.inr rfl)) (Nat.le_of_ble_eq_true rfl) dX7_readsOpening_193 rfl (fun H locs hP hD hS => ?_)
        refine lv_iconst (v := 1) hx hb dX7_readsOpening_196 (by decide) ?_
        have hq : (sX7_readsOpening I f1 f11 f12 f13 f16 f17 a0) = ((1 : Int32), (upd I_12 43 (1 : Int32)), f_13, f_14, f_15, (upd f16 (I_3 18).toNatClampNeg (I_3 14)), (upd f17 (I_3 18).toNatClampNeg (I_3 19))) := (by clear hP hD hl; have z_ := ef_15.symm; clear ef_15; subst z_; have z_ := ef_14.symm; clear ef_14; subst z_; have z_ := ef_13.symm; clear ef_13; subst z_; have z_ := eI_12.symm; clear eI_12; subst z_; have z_ := ev_10.symm; clear ev_10; subst z_; have z_ := ev_8.symm; clear ev_8; subst z_; have z_ := ev_7.symm; clear ev_7; subst z_; have z_ := er_4.symm; clear er_4; subst z_; have z_ := eI_3.symm; clear eI_3; subst z_; unfold sX7_readsOpening; exact (if_neg c_1).trans ((if_pos c_5).trans ((if_neg c_6))))
        exact jx_zret () hx hb hr hlocks hK (hP.sub (ws' := [(h, .inr (7, (oX7 R (upd I_12 43 (1 : Int32)) L))), ((R 1), .inl (cI, 160, .inl f1)), ((R 11), .inl (cI, 160, .inl f_13)), ((R 12), .inl (cI, 160, .inl f_14)), ((R 13), .inl (cI, 160, .inl f_15)), ((R 16), .inl (cI, 6, .inl (upd f16 (I_3 18).toNatClampNeg (I_3 14)))), ((R 17), .inl (cI, 6, .inl (upd f17 (I_3 18).toNatClampNeg (I_3 19))))]) [3, 2, 4, 5, 6, 0, 1] rfl) (hD.sub (ws' := [(h, .inr (7, (oX7 R (upd I_12 43 (1 : Int32)) L))), ((R 1), .inl (cI, 160, .inl f1)), ((R 11), .inl (cI, 160, .inl f_13)), ((R 12), .inl (cI, 160, .inl f_14)), ((R 13), .inl (cI, 160, .inl f_15)), ((R 16), .inl (cI, 6, .inl (upd f16 (I_3 18).toNatClampNeg (I_3 14)))), ((R 17), .inl (cI, 6, .inl (upd f17 (I_3 18).toNatClampNeg (I_3 19))))]) [3, 2, 4, 5, 6, 0, 1] (by decide) rfl) hS (by rw [hq]) (by rw [hq]) (Or.inr rfl) dX7_readsOpening_197
      · skip
        refine lv_iconst (v := 0) hx hb dX7_readsOpening_127 (by decide) ?_
        have hq : (sX7_readsOpening I f1 f11 f12 f13 f16 f17 a0) = ((0 : Int32), I_3, f11, f12, f13, f16, f17) := (by clear hP hD hl; have z_ := er_4.symm; clear er_4; subst z_; have z_ := eI_3.symm; clear eI_3; subst z_; unfold sX7_readsOpening; exact (if_neg c_1).trans ((if_pos c_5).trans ((if_pos c_6))))
        exact jx_zret () hx hb hr hlocks hK (hP.sub (ws' := [(h, .inr (7, (oX7 R I_3 L))), ((R 1), .inl (cI, 160, .inl f1)), ((R 11), .inl (cI, 160, .inl f11)), ((R 12), .inl (cI, 160, .inl f12)), ((R 13), .inl (cI, 160, .inl f13)), ((R 16), .inl (cI, 6, .inl f16)), ((R 17), .inl (cI, 6, .inl f17))]) [5, 6, 0, 1, 2, 3, 4] rfl) (hD.sub (ws' := [(h, .inr (7, (oX7 R I_3 L))), ((R 1), .inl (cI, 160, .inl f1)), ((R 11), .inl (cI, 160, .inl f11)), ((R 12), .inl (cI, 160, .inl f12)), ((R 13), .inl (cI, 160, .inl f13)), ((R 16), .inl (cI, 6, .inl f16)), ((R 17), .inl (cI, 6, .inl f17))]) [5, 6, 0, 1, 2, 3, 4] (by decide) rfl) hS (by rw [hq]) (by rw [hq]) (Or.inl rfl) dX7_readsOpening_128
  · skip
    refine lv_aload_n hx hb dX7_readsOpening_8 rfl (lv_at hl 1 rfl) ?_
    refine jx_get (v := .int (I 15)) hx hb hts iX7_readsOpening_7 hown hK hP 0 rfl rfl 15 (by decide) hk86 rfl rfl dX7_readsOpening_9 ?_
    refine lv_istore_n (lv' := [(3, .int (I 15)), (2, .int (2 : Int32)), (0, .ref h), (1, .int a0)]) hx hb dX7_readsOpening_12 rfl hl (by decide) rfl (fun ls hl => ?_)
    refine lv_iconst (v := 0) hx hb dX7_readsOpening_13 (by decide) ?_
    refine lv_istore_n (lv' := [(2, .int (0 : Int32)), (3, .int (I 15)), (0, .ref h), (1, .int a0)]) hx hb dX7_readsOpening_14 rfl hl (by decide) rfl (fun ls hl => ?_)
    refine jx_loop (σ := (Int32) × ((Nat → Int32)) × (Nat) × (Unit)) (fun x H locs ls => va_P D vwCl [(h, .inr (7, (oX7 R x.2.1 L))), ((R 1), .inl (cI, 160, .inl f1)), ((R 11), .inl (cI, 160, .inl f11)), ((R 12), .inl (cI, 160, .inl f12)), ((R 13), .inl (cI, 160, .inl f13)), ((R 16), .inl (cI, 6, .inl f16)), ((R 17), .inl (cI, 6, .inl f17))] H ∧ va_D A [(h, .inr (7, (oX7 R x.2.1 L))), ((R 1), .inl (cI, 160, .inl f1)), ((R 11), .inl (cI, 160, .inl f11)), ((R 12), .inl (cI, 160, .inl f12)), ((R 13), .inl (cI, 160, .inl f13)), ((R 16), .inl (cI, 6, .inl f16)), ((R 17), .inl (cI, 6, .inl f17))] ∧ va_S A s.heap H locs ∧ lv_has ls 4 [(0, .ref h), (1, .int a0), (2, .int x.1), (3, .int (I 15))] ∧ (ldk_rwI f1 114 10 4 (I 15) (ldk_oW I f1) I x.2.2.1 x.1 x.2.1 ∧ x.2.1 18 = I 18)) (fun x => x.2.2.1) ((0 : Int32), I, 161, ()) ⟨hP, hD, hS, lv_sub hl [2, 3, 0, 1] rfl, (show ldk_rwI f1 114 10 4 (I 15) (ldk_oW I f1) I 161 (0 : Int32) I ∧ I 18 = I 18 from ⟨⟨rfl, by omega, ha, hs, rfl⟩, rfl⟩)⟩ ?_
    intro x H locs ls hI ih
    obtain ⟨vv, J, nn, ux⟩ := x
    obtain ⟨hP, hD, hS, hl, hp⟩ := hI
    have hP : va_P D vwCl [(h, .inr (7, (oX7 R J L))), ((R 1), .inl (cI, 160, .inl f1)), ((R 11), .inl (cI, 160, .inl f11)), ((R 12), .inl (cI, 160, .inl f12)), ((R 13), .inl (cI, 160, .inl f13)), ((R 16), .inl (cI, 6, .inl f16)), ((R 17), .inl (cI, 6, .inl f17))] H := hP
    have hD : va_D A [(h, .inr (7, (oX7 R J L))), ((R 1), .inl (cI, 160, .inl f1)), ((R 11), .inl (cI, 160, .inl f11)), ((R 12), .inl (cI, 160, .inl f12)), ((R 13), .inl (cI, 160, .inl f13)), ((R 16), .inl (cI, 6, .inl f16)), ((R 17), .inl (cI, 6, .inl f17))] := hD
    have hl : lv_has ls 4 [(0, .ref h), (1, .int a0), (2, .int vv), (3, .int (I 15))] := hl
    have hp : ldk_rwI f1 114 10 4 (I 15) (ldk_oW I f1) I nn vv J ∧ J 18 = I 18 := hp
    refine jx_cutl (J := 63) (P := (ldk_oW I f1) = (vv, J)) (lv := [(0, .ref h), (1, .int a0), (2, .int vv), (3, .int (I 15))]) (nL := 4) (rest := []) (fun key => ?_) (fun ls hfin hl => ?_)
    · skip
      refine lv_aload_n hx hb dX7_readsOpening_15 rfl (lv_at hl 0 rfl) ?_
      refine jx_get (v := .int (J 15)) hx hb hts iX7_readsOpening_7 hown hK hP 0 rfl rfl 15 (by decide) hk86 rfl rfl dX7_readsOpening_16 ?_
      refine lv_iload_n hx hb dX7_readsOpening_19 rfl (lv_at hl 3 rfl) ?_
      refine lv_isub hx hb dX7_readsOpening_20 ?_
      refine lv_iconst (v := 4) hx hb dX7_readsOpening_21 (by decide) ?_
      refine lv_icmp_ge (tgt := 63) hx hb dX7_readsOpening_22 (by decide) (fun c_16 => ?_) (fun c_16 => ?_)
      · skip
        exact key _ (by exact ldk_rwI_e1 hp.1 c_16) (lv_sub hl [0, 1, 2, 3] rfl)
      · skip
        refine lv_aload_n hx hb dX7_readsOpening_25 rfl (lv_at hl 0 rfl) ?_
        refine jx_pcalli (wc := [(h, .inr (7, (oX7 R J L))), ((R 1), .inl (cI, 160, .inl f1))]) hP hD hS hA [0, 1] rfl (by decide) (fun hPc hDc hF => jx_runVs (As := []) (rest := []) (n := 0) (ci := 7) (q0 := 0) hx hb hml hown hts hK hX hS hl.1 (kX7_see l D cI cJ cZ cD tA h R J L f1 hp.1.2.2.1 hp.1.2.2.2.1) gX7_readsOpening_X7_see rfl rfl rfl (by decide +kernel) ⟨Nat.le_of_ble_eq_true rfl, Nat.le_of_ble_eq_true rfl⟩ rfl rfl rfl rfl rfl (Nat.le_of_ble_eq_true rfl) dX7_readsOpening_26 ⟨Nat.zero_le _, Nat.zero_le _⟩ hPc hDc hF) (fun r_17 er_17 => ?_)
        have er_17 : r_17 = (sX7_see J f1) := er_17
        refine jx_pcalli (wc := []) hP hD hS hA [] rfl (by decide) (fun hPc hDc hF => jx_runSs (As := [.int r_17]) (rest := []) (n := 1) hx hb hml hown hts hK hX hS hl.1 (kX7_digit l D cI cJ cZ cD tA r_17) gX7_readsOpening_X7_digit rfl rfl rfl (by decide +kernel) ⟨Nat.le_of_ble_eq_true rfl, Nat.le_of_ble_eq_true rfl⟩ rfl rfl (Nat.le_of_ble_eq_true rfl) dX7_readsOpening_29 ⟨Nat.zero_le _, Nat.zero_le _⟩ hPc hDc hF) (fun r_18 er_18 => ?_)
        have er_18 : r_18 = (sX7_digit r_17) := er_18
        refine lv_bipush (v := 10) hx hb dX7_readsOpening_32 (by decide) ?_
        refine lv_icmp_ge (tgt := 63) hx hb dX7_readsOpening_34 (by decide) (fun c_19 => ?_) (fun c_19 => ?_)
        · skip
          exact key _ (by clear hP hD hl; have z_ := er_18.symm; clear er_18; subst z_; have z_ := er_17.symm; clear er_17; subst z_; exact ldk_rwI_e2 hp.1 c_16 c_19) (lv_sub hl [0, 1, 2, 3] rfl)
        · skip
          refine lv_bipush (v := 10) hx hb dX7_readsOpening_37 (by decide) ?_
          refine lv_iload_n hx hb dX7_readsOpening_39 rfl (lv_at hl 2 rfl) ?_
          refine lv_imul hx hb dX7_readsOpening_40 ?_
          refine lv_aload_n hx hb dX7_readsOpening_41 rfl (lv_at hl 0 rfl) ?_
          refine jx_pcalli (wc := [(h, .inr (7, (oX7 R J L))), ((R 1), .inl (cI, 160, .inl f1))]) hP hD hS hA [0, 1] rfl (by decide) (fun hPc hDc hF => jx_runVs (As := []) (rest := [.int ((10 : Int32) * vv)]) (n := 0) (ci := 7) (q0 := 0) hx hb hml hown hts hK hX hS hl.1 (kX7_see l D cI cJ cZ cD tA h R J L f1 hp.1.2.2.1 hp.1.2.2.2.1) gX7_readsOpening_X7_see rfl rfl rfl (by decide +kernel) ⟨Nat.le_of_ble_eq_true rfl, Nat.le_of_ble_eq_true rfl⟩ rfl rfl rfl rfl rfl (Nat.le_of_ble_eq_true rfl) dX7_readsOpening_42 ⟨Nat.zero_le _, Nat.zero_le _⟩ hPc hDc hF) (fun r_20 er_20 => ?_)
          have er_20 : r_20 = (sX7_see J f1) := er_20
          refine jx_pcalli (wc := []) hP hD hS hA [] rfl (by decide) (fun hPc hDc hF => jx_runSs (As := [.int r_20]) (rest := [.int ((10 : Int32) * vv)]) (n := 1) hx hb hml hown hts hK hX hS hl.1 (kX7_digit l D cI cJ cZ cD tA r_20) gX7_readsOpening_X7_digit rfl rfl rfl (by decide +kernel) ⟨Nat.le_of_ble_eq_true rfl, Nat.le_of_ble_eq_true rfl⟩ rfl rfl (Nat.le_of_ble_eq_true rfl) dX7_readsOpening_45 ⟨Nat.zero_le _, Nat.zero_le _⟩ hPc hDc hF) (fun r_21 er_21 => ?_)
          have er_21 : r_21 = (sX7_digit r_20) := er_21
          refine lv_iadd hx hb dX7_readsOpening_48 ?_
          refine lv_topi (fun v_22 ev_22 => ?_)
          refine lv_istore_n (lv' := [(2, .int v_22), (0, .ref h), (1, .int a0), (3, .int (I 15))]) hx hb dX7_readsOpening_49 rfl hl (by decide) rfl (fun ls hl => ?_)
          refine lv_aload_n hx hb dX7_readsOpening_50 rfl (lv_at hl 1 rfl) ?_
          refine lv_dup hx hb dX7_readsOpening_51 rfl ?_
          refine jx_get (v := .int (J 15)) hx hb hts iX7_readsOpening_7 hown hK hP 0 rfl rfl 15 (by decide) hk86 rfl rfl dX7_readsOpening_52 ?_
          refine lv_iconst (v := 1) hx hb dX7_readsOpening_55 (by decide) ?_
          refine lv_iadd hx hb dX7_readsOpening_56 ?_
          refine lv_topi (fun v_23 ev_23 => ?_)
          refine jx_put (w2 := [(h, .inr (7, (oX7 R (upd J 15 v_23) L))), ((R 1), .inl (cI, 160, .inl f1)), ((R 11), .inl (cI, 160, .inl f11)), ((R 12), .inl (cI, 160, .inl f12)), ((R 13), .inl (cI, 160, .inl f13)), ((R 16), .inl (cI, 6, .inl f16)), ((R 17), .inl (cI, 6, .inl f17))]) hx hb hts iX7_readsOpening_7 tyX7 tyX7_ok nmX7 hown hK hP hD hS 0 rfl rfl 15 (by decide) hk86 rfl rfl rfl rfl (Nat.le_of_ble_eq_true rfl) dX7_readsOpening_57 rfl (fun H locs hP hD hS => ?_)
          refine lv_goto (tgt := 15) hx hb dX7_readsOpening_60 (by decide) ?_
          exact ih (v_22, (upd J 15 v_23), nn - 1, ()) _ _ _ ⟨hP, hD, hS, lv_sub hl [1, 2, 0, 3] rfl, (show ldk_rwI f1 114 10 4 (I 15) (ldk_oW I f1) I (nn - 1) v_22 (upd J 15 v_23) ∧ (upd J 15 v_23) 18 = I 18 from (by clear hP hD hl; have z_ := ev_23.symm; clear ev_23; subst z_; have z_ := ev_22.symm; clear ev_22; subst z_; have z_ := er_21.symm; clear er_21; subst z_; have z_ := er_20.symm; clear er_20; subst z_; have z_ := er_18.symm; clear er_18; subst z_; have z_ := er_17.symm; clear er_17; subst z_; have q_ := (ldk_rwI_step (by decide) hp.1 c_16 c_19).1; unfold ldk_num at q_; rw [if_neg (by decide)] at q_; exact ⟨q_, (pk_un (by decide)).trans hp.2⟩))⟩ (show (nn - 1) < nn from (by clear hP hD hl; have z_ := ev_23.symm; clear ev_23; subst z_; have z_ := ev_22.symm; clear ev_22; subst z_; have z_ := er_21.symm; clear er_21; subst z_; have z_ := er_20.symm; clear er_20; subst z_; have z_ := er_18.symm; clear er_18; subst z_; have z_ := er_17.symm; clear er_17; subst z_; exact (ldk_rwI_step (by decide) hp.1 c_16 c_19).2))
    · skip
      refine lv_iload_n hx hb dX7_readsOpening_63 rfl (lv_at hl 2 rfl) ?_
      refine lv_if_eq (tgt := 79) hx hb dX7_readsOpening_64 (by decide) (fun c_24 => ?_) (fun c_24 => ?_)
      · skip
        refine lv_aload_n hx hb dX7_readsOpening_79 rfl (lv_at hl 0 rfl) ?_
        refine lv_iload_n hx hb dX7_readsOpening_80 rfl (lv_at hl 2 rfl) ?_
        refine jx_joini (J := 100) (v := (if vv = 0 then (if (J 15) ≤ (I 15) then (J 15) else (I 15)) else (J 15))) (rest := [.ref h]) (fun key => ?_) ?_
        · skip
          refine lv_if_ne (tgt := 96) hx hb dX7_readsOpening_81 (by decide) (fun c_25 => ?_) (fun c_25 => ?_)
          · skip
            refine lv_aload_n hx hb dX7_readsOpening_96 rfl (lv_at hl 0 rfl) ?_
            refine jx_get (v := .int (J 15)) hx hb hts iX7_readsOpening_7 hown hK hP 0 rfl rfl 15 (by decide) hk86 rfl rfl dX7_readsOpening_97 ?_
            rw [if_neg c_25] at key
            exact key
          · skip
            refine lv_aload_n hx hb dX7_readsOpening_84 rfl (lv_at hl 0 rfl) ?_
            refine jx_get (v := .int (J 15)) hx hb hts iX7_readsOpening_7 hown hK hP 0 rfl rfl 15 (by decide) hk86 rfl rfl dX7_readsOpening_85 ?_
            refine lv_iload_n hx hb dX7_readsOpening_88 rfl (lv_at hl 3 rfl) ?_
            refine lv_icmp_le (tgt := 96) hx hb dX7_readsOpening_89 (by decide) (fun c_26 => ?_) (fun c_26 => ?_)
            · skip
              refine lv_aload_n hx hb dX7_readsOpening_96 rfl (lv_at hl 0 rfl) ?_
              refine jx_get (v := .int (J 15)) hx hb hts iX7_readsOpening_7 hown hK hP 0 rfl rfl 15 (by decide) hk86 rfl rfl dX7_readsOpening_97 ?_
              rw [if_pos c_25, if_pos c_26] at key
              exact key
            · skip
              refine lv_iload_n hx hb dX7_readsOpening_92 rfl (lv_at hl 3 rfl) ?_
              refine lv_goto (tgt := 100) hx hb dX7_readsOpening_93 (by decide) ?_
              rw [if_pos c_25, if_neg c_26] at key
              exact key
        refine lv_topi (fun v_27 ev_27 => ?_)
        refine jx_put (w2 := [(h, .inr (7, (oX7 R (upd J 15 v_27) L))), ((R 1), .inl (cI, 160, .inl f1)), ((R 11), .inl (cI, 160, .inl f11)), ((R 12), .inl (cI, 160, .inl f12)), ((R 13), .inl (cI, 160, .inl f13)), ((R 16), .inl (cI, 6, .inl f16)), ((R 17), .inl (cI, 6, .inl f17))]) hx hb hts iX7_readsOpening_7 tyX7 tyX7_ok nmX7 hown hK hP hD hS 0 rfl rfl 15 (by decide) hk86 rfl rfl rfl rfl (Nat.le_of_ble_eq_true rfl) dX7_readsOpening_100 rfl (fun H locs hP hD hS => ?_)
        refine lv_iconst (v := 0) hx hb dX7_readsOpening_103 (by decide) ?_
        have hq : (sX7_readsOpening I f1 f11 f12 f13 f16 f17 a0) = ((0 : Int32), (upd J 15 v_27), f11, f12, f13, f16, f17) := (by clear hP hD hl; have z_ := ev_27.symm; clear ev_27; subst z_; unfold sX7_readsOpening; rw [hfin]; exact (if_pos c_1).trans ((if_pos c_24)))
        exact jx_zret () hx hb hr hlocks hK hP hD hS (by rw [hq]) (by rw [hq]) (Or.inl rfl) dX7_readsOpening_104
      · skip
        refine lv_aload_n hx hb dX7_readsOpening_67 rfl (lv_at hl 0 rfl) ?_
        refine jx_pcalli (wc := [(h, .inr (7, (oX7 R J L))), ((R 1), .inl (cI, 160, .inl f1))]) hP hD hS hA [0, 1] rfl (by decide) (fun hPc hDc hF => jx_runVs (As := []) (rest := []) (n := 0) (ci := 7) (q0 := 0) hx hb hml hown hts hK hX hS hl.1 (kX7_see l D cI cJ cZ cD tA h R J L f1 hp.1.2.2.1 hp.1.2.2.2.1) gX7_readsOpening_X7_see rfl rfl rfl (by decide +kernel) ⟨Nat.le_of_ble_eq_true rfl, Nat.le_of_ble_eq_true rfl⟩ rfl rfl rfl rfl rfl (Nat.le_of_ble_eq_true rfl) dX7_readsOpening_68 ⟨Nat.zero_le _, Nat.zero_le _⟩ hPc hDc hF) (fun r_28 er_28 => ?_)
        have er_28 : r_28 = (sX7_see J f1) := er_28
        refine jx_pcalli (wc := []) hP hD hS hA [] rfl (by decide) (fun hPc hDc hF => jx_runSs (As := [.int r_28]) (rest := []) (n := 1) hx hb hml hown hts hK hX hS hl.1 (kX7_digit l D cI cJ cZ cD tA r_28) gX7_readsOpening_X7_digit rfl rfl rfl (by decide +kernel) ⟨Nat.le_of_ble_eq_true rfl, Nat.le_of_ble_eq_true rfl⟩ rfl rfl (Nat.le_of_ble_eq_true rfl) dX7_readsOpening_71 ⟨Nat.zero_le _, Nat.zero_le _⟩ hPc hDc hF) (fun r_29 er_29 => ?_)
        have er_29 : r_29 = (sX7_digit r_28) := er_29
        refine lv_bipush (v := 10) hx hb dX7_readsOpening_74 (by decide) ?_
        refine lv_icmp_ge (tgt := 105) hx hb dX7_readsOpening_76 (by decide) (fun c_30 => ?_) (fun c_30 => ?_)
        · skip
          refine lv_aload_n hx hb dX7_readsOpening_105 rfl (lv_at hl 0 rfl) ?_
          refine jx_callv (wc := [(h, .inr (7, (oX7 R J L))), ((R 1), .inl (cI, 160, .inl f1))]) (wr := [((R 11), .inl (cI, 160, .inl f11)), ((R 12), .inl (cI, 160, .inl f12)), ((R 13), .inl (cI, 160, .inl f13)), ((R 16), .inl (cI, 6, .inl f16)), ((R 17), .inl (cI, 6, .inl f17))]) hP hD hS hA hK [0, 1] [2, 3, 4, 5, 6] rfl rfl (by decide) (by decide) (by decide) (fun hPc hDc hF => jx_runV (As := []) (rest := []) (n := 0) (ci := 7) (q0 := 0) hx hb hml hown hts hK hX hS hl.1 (kX7_skip l D cI cJ cZ cD tA h R J L f1 hp.1.2.2.1 hp.1.2.2.2.1) gX7_readsOpening_X7_skip rfl rfl rfl (by decide +kernel) ⟨Nat.le_of_ble_eq_true rfl, Nat.le_of_ble_eq_true rfl⟩ rfl rfl rfl rfl rfl (Nat.le_of_ble_eq_true rfl) dX7_readsOpening_106 ⟨Nat.zero_le _, Nat.zero_le _⟩ hPc hDc hF) (fun u H locs hw hP hD hS => ?_)
          obtain ⟨I_32, eI_32⟩ : ∃ x : (Nat → Int32), x = (sX7_skip J f1) := ⟨_, rfl⟩
          have hP : va_P D vwCl [((R 11), .inl (cI, 160, .inl f11)), ((R 12), .inl (cI, 160, .inl f12)), ((R 13), .inl (cI, 160, .inl f13)), ((R 16), .inl (cI, 6, .inl f16)), ((R 17), .inl (cI, 6, .inl f17)), (h, .inr (7, (oX7 R I_32 L))), ((R 1), .inl (cI, 160, .inl f1))] H := by rw [eI_32]; exact hP
          have hD : va_D A [((R 11), .inl (cI, 160, .inl f11)), ((R 12), .inl (cI, 160, .inl f12)), ((R 13), .inl (cI, 160, .inl f13)), ((R 16), .inl (cI, 6, .inl f16)), ((R 17), .inl (cI, 6, .inl f17)), (h, .inr (7, (oX7 R I_32 L))), ((R 1), .inl (cI, 160, .inl f1))] := by rw [eI_32]; exact hD
          refine lv_aload_n hx hb dX7_readsOpening_109 rfl (lv_at hl 0 rfl) ?_
          refine jx_pcalli (wc := [(h, .inr (7, (oX7 R I_32 L))), ((R 1), .inl (cI, 160, .inl f1))]) hP hD hS hA [5, 6] rfl (by decide) (fun hPc hDc hF => jx_runVs (As := []) (rest := []) (n := 0) (ci := 7) (q0 := 0) hx hb hml hown hts hK hX hS hl.1 (kX7_see l D cI cJ cZ cD tA h R I_32 L f1 (by clear hP hD hl; have z_ := eI_32.symm; clear eI_32; subst z_; have z_ := er_29.symm; clear er_29; subst z_; have z_ := er_28.symm; clear er_28; subst z_; exact sk_pos _ _ hp.1.2.2.1 hp.1.2.2.2.1) (by clear hP hD hl; have z_ := eI_32.symm; clear eI_32; subst z_; have z_ := er_29.symm; clear er_29; subst z_; have z_ := er_28.symm; clear er_28; subst z_; rw [sk_keep _ _ (by decide)]; exact hp.1.2.2.2.1)) gX7_readsOpening_X7_see rfl rfl rfl (by decide +kernel) ⟨Nat.le_of_ble_eq_true rfl, Nat.le_of_ble_eq_true rfl⟩ rfl rfl rfl rfl rfl (Nat.le_of_ble_eq_true rfl) dX7_readsOpening_110 ⟨Nat.zero_le _, Nat.zero_le _⟩ hPc hDc hF) (fun r_33 er_33 => ?_)
          have er_33 : r_33 = (sX7_see I_32 f1) := er_33
          refine lv_bipush (v := 40) hx hb dX7_readsOpening_113 (by decide) ?_
          refine lv_icmp_ne (tgt := 127) hx hb dX7_readsOpening_115 (by decide) (fun c_34 => ?_) (fun c_34 => ?_)
          · skip
            refine lv_iconst (v := 0) hx hb dX7_readsOpening_127 (by decide) ?_
            have hq : (sX7_readsOpening I f1 f11 f12 f13 f16 f17 a0) = ((0 : Int32), I_32, f11, f12, f13, f16, f17) := (by clear hP hD hl; have z_ := er_33.symm; clear er_33; subst z_; have z_ := eI_32.symm; clear eI_32; subst z_; have z_ := er_29.symm; clear er_29; subst z_; have z_ := er_28.symm; clear er_28; subst z_; unfold sX7_readsOpening; rw [hfin]; exact (if_pos c_1).trans ((if_neg c_24).trans ((if_pos c_30).trans ((if_neg c_34)))))
            exact jx_zret () hx hb hr hlocks hK (hP.sub (ws' := [(h, .inr (7, (oX7 R I_32 L))), ((R 1), .inl (cI, 160, .inl f1)), ((R 11), .inl (cI, 160, .inl f11)), ((R 12), .inl (cI, 160, .inl f12)), ((R 13), .inl (cI, 160, .inl f13)), ((R 16), .inl (cI, 6, .inl f16)), ((R 17), .inl (cI, 6, .inl f17))]) [5, 6, 0, 1, 2, 3, 4] rfl) (hD.sub (ws' := [(h, .inr (7, (oX7 R I_32 L))), ((R 1), .inl (cI, 160, .inl f1)), ((R 11), .inl (cI, 160, .inl f11)), ((R 12), .inl (cI, 160, .inl f12)), ((R 13), .inl (cI, 160, .inl f13)), ((R 16), .inl (cI, 6, .inl f16)), ((R 17), .inl (cI, 6, .inl f17))]) [5, 6, 0, 1, 2, 3, 4] (by decide) rfl) hS (by rw [hq]) (by rw [hq]) (Or.inl rfl) dX7_readsOpening_128
          · skip
            refine lv_aload_n hx hb dX7_readsOpening_118 rfl (lv_at hl 0 rfl) ?_
            refine jx_get (v := .int (I_32 18)) hx hb hts iX7_readsOpening_7 hown hK hP 5 rfl rfl 18 (by decide) hk114 rfl rfl dX7_readsOpening_119 ?_
            refine lv_bipush (v := 6) hx hb dX7_readsOpening_122 (by decide) ?_
            refine lv_icmp_ne (tgt := 129) hx hb dX7_readsOpening_124 (by decide) (fun c_35 => ?_) (fun c_35 => ?_)
            · skip
              refine lv_aload_n hx hb dX7_readsOpening_129 rfl (lv_at hl 0 rfl) ?_
              refine lv_dup hx hb dX7_readsOpening_130 rfl ?_
              refine jx_get (v := .int (I_32 15)) hx hb hts iX7_readsOpening_7 hown hK hP 5 rfl rfl 15 (by decide) hk86 rfl rfl dX7_readsOpening_131 ?_
              refine lv_iconst (v := 1) hx hb dX7_readsOpening_134 (by decide) ?_
              refine lv_iadd hx hb dX7_readsOpening_135 ?_
              refine lv_topi (fun v_36 ev_36 => ?_)
              refine jx_put (w2 := [((R 11), .inl (cI, 160, .inl f11)), ((R 12), .inl (cI, 160, .inl f12)), ((R 13), .inl (cI, 160, .inl f13)), ((R 16), .inl (cI, 6, .inl f16)), ((R 17), .inl (cI, 6, .inl f17)), (h, .inr (7, (oX7 R (upd I_32 15 v_36) L))), ((R 1), .inl (cI, 160, .inl f1))]) hx hb hts iX7_readsOpening_7 tyX7 tyX7_ok nmX7 hown hK hP hD hS 5 rfl rfl 15 (by decide) hk86 rfl rfl rfl rfl (Nat.le_of_ble_eq_true rfl) dX7_readsOpening_136 rfl (fun H locs hP hD hS => ?_)
              refine lv_aload_n hx hb dX7_readsOpening_139 rfl (lv_at hl 0 rfl) ?_
              refine jx_get (v := .ref (R 16)) hx hb hts iX7_readsOpening_7 hown hK hP 5 rfl rfl 16 (by decide) hk41 rfl rfl dX7_readsOpening_140 ?_
              refine lv_aload_n hx hb dX7_readsOpening_143 rfl (lv_at hl 0 rfl) ?_
              refine jx_get (v := .int (I_32 18)) hx hb hts iX7_readsOpening_7 hown hK hP 5 rfl rfl 18 (by decide) hk114 rfl rfl dX7_readsOpening_144 ?_
              refine lv_aload_n hx hb dX7_readsOpening_147 rfl (lv_at hl 0 rfl) ?_
              refine jx_get (v := .int (I_32 14)) hx hb hts iX7_readsOpening_7 hown hK hP 5 rfl rfl 14 (by decide) hk93 rfl rfl dX7_readsOpening_148 ?_
              refine jx_iast (w2 := [((R 11), .inl (cI, 160, .inl f11)), ((R 12), .inl (cI, 160, .inl f12)), ((R 13), .inl (cI, 160, .inl f13)), ((R 16), .inl (cI, 6, .inl (upd f16 (I_32 18).toNatClampNeg (I_32 14)))), ((R 17), .inl (cI, 6, .inl f17)), (h, .inr (7, (oX7 R (upd I_32 15 v_36) L))), ((R 1), .inl (cI, 160, .inl f1))]) hx hb hK hP hD hS 3 0 rfl rfl (by clear hP hD hl; have z_ := ev_36.symm; clear ev_36; subst z_; have z_ := er_33.symm; clear er_33; subst z_; have z_ := eI_32.symm; clear eI_32; subst z_; have z_ := er_29.symm; clear er_29; subst z_; have z_ := er_28.symm; clear er_28; subst z_; exact ldk_op6 (by rw [sk_keep _ _ (by decide), hp.2]; exact ho) c_35) dX7_readsOpening_151 rfl (fun H locs hP hD hS => ?_)
              refine lv_aload_n hx hb dX7_readsOpening_152 rfl (lv_at hl 0 rfl) ?_
              refine jx_get (v := .ref (R 17)) hx hb hts iX7_readsOpening_7 hown hK hP 5 rfl rfl 17 (by decide) hk44 rfl rfl dX7_readsOpening_153 ?_
              refine lv_aload_n hx hb dX7_readsOpening_156 rfl (lv_at hl 0 rfl) ?_
              refine jx_get (v := .int (I_32 18)) hx hb hts iX7_readsOpening_7 hown hK hP 5 rfl rfl 18 (by decide) hk114 rfl rfl dX7_readsOpening_157 ?_
              refine lv_aload_n hx hb dX7_readsOpening_160 rfl (lv_at hl 0 rfl) ?_
              refine jx_get (v := .int (I_32 19)) hx hb hts iX7_readsOpening_7 hown hK hP 5 rfl rfl 19 (by decide) hk104 rfl rfl dX7_readsOpening_161 ?_
              refine jx_iast (w2 := [((R 11), .inl (cI, 160, .inl f11)), ((R 12), .inl (cI, 160, .inl f12)), ((R 13), .inl (cI, 160, .inl f13)), ((R 16), .inl (cI, 6, .inl (upd f16 (I_32 18).toNatClampNeg (I_32 14)))), ((R 17), .inl (cI, 6, .inl (upd f17 (I_32 18).toNatClampNeg (I_32 19)))), (h, .inr (7, (oX7 R (upd I_32 15 v_36) L))), ((R 1), .inl (cI, 160, .inl f1))]) hx hb hK hP hD hS 4 0 rfl rfl (by clear hP hD hl; have z_ := ev_36.symm; clear ev_36; subst z_; have z_ := er_33.symm; clear er_33; subst z_; have z_ := eI_32.symm; clear eI_32; subst z_; have z_ := er_29.symm; clear er_29; subst z_; have z_ := er_28.symm; clear er_28; subst z_; exact ldk_op6 (by rw [sk_keep _ _ (by decide), hp.2]; exact ho) c_35) dX7_readsOpening_164 rfl (fun H locs hP hD hS => ?_)
              refine lv_aload_n hx hb dX7_readsOpening_165 rfl (lv_at hl 0 rfl) ?_
              refine lv_dup hx hb dX7_readsOpening_166 rfl ?_
              refine jx_get (v := .int (I_32 18)) hx hb hts iX7_readsOpening_7 hown hK hP 5 rfl rfl 18 (by decide) hk114 rfl rfl dX7_readsOpening_167 ?_
              refine lv_iconst (v := 1) hx hb dX7_readsOpening_170 (by decide) ?_
              refine lv_iadd hx hb dX7_readsOpening_171 ?_
              refine lv_topi (fun v_37 ev_37 => ?_)
              refine jx_put (w2 := [((R 11), .inl (cI, 160, .inl f11)), ((R 12), .inl (cI, 160, .inl f12)), ((R 13), .inl (cI, 160, .inl f13)), ((R 16), .inl (cI, 6, .inl (upd f16 (I_32 18).toNatClampNeg (I_32 14)))), ((R 17), .inl (cI, 6, .inl (upd f17 (I_32 18).toNatClampNeg (I_32 19)))), (h, .inr (7, (oX7 R (upd (upd I_32 15 v_36) 18 v_37) L))), ((R 1), .inl (cI, 160, .inl f1))]) hx hb hts iX7_readsOpening_7 tyX7 tyX7_ok nmX7 hown hK hP hD hS 5 rfl rfl 18 (by decide) hk114 rfl rfl rfl rfl (Nat.le_of_ble_eq_true rfl) dX7_readsOpening_172 rfl (fun H locs hP hD hS => ?_)
              refine lv_aload_n hx hb dX7_readsOpening_175 rfl (lv_at hl 0 rfl) ?_
              refine lv_iload_n hx hb dX7_readsOpening_176 rfl (lv_at hl 1 rfl) ?_
              refine lv_bipush (v := 114) hx hb dX7_readsOpening_177 (by decide) ?_
              refine jx_joini (J := 187) (v := (if a0 = (114 : Int32) then (3 : Int32) else (4 : Int32))) (rest := [.ref h]) (fun key => ?_) ?_
              · skip
                refine lv_icmp_ne (tgt := 186) hx hb dX7_readsOpening_179 (by decide) (fun c_38 => ?_) (fun c_38 => ?_)
                · skip
                  refine lv_iconst (v := 4) hx hb dX7_readsOpening_186 (by decide) ?_
                  rw [if_neg c_38] at key
                  exact key
                · skip
                  refine lv_iconst (v := 3) hx hb dX7_readsOpening_182 (by decide) ?_
                  refine lv_goto (tgt := 187) hx hb dX7_readsOpening_183 (by decide) ?_
                  rw [if_pos c_38] at key
                  exact key
              refine lv_topi (fun v_39 ev_39 => ?_)
              refine lv_iload_n hx hb dX7_readsOpening_187 rfl (lv_at hl 2 rfl) ?_
              refine jx_callv (wc := [(h, .inr (7, (oX7 R (upd (upd I_32 15 v_36) 18 v_37) L))), ((R 11), .inl (cI, 160, .inl f11)), ((R 12), .inl (cI, 160, .inl f12)), ((R 13), .inl (cI, 160, .inl f13))]) (wr := [((R 16), .inl (cI, 6, .inl (upd f16 (I_32 18).toNatClampNeg (I_32 14)))), ((R 17), .inl (cI, 6, .inl (upd f17 (I_32 18).toNatClampNeg (I_32 19)))), ((R 1), .inl (cI, 160, .inl f1))]) hP hD hS hA hK [5, 0, 1, 2] [3, 4, 6] rfl rfl (by decide) (by decide) (by decide) (fun hPc hDc hF => jx_runV (As := [.int v_39, .int vv]) (rest := []) (n := 2) (ci := 7) (q0 := 0) hx hb hml hown hts hK hX hS hl.1 (kX7_item l D cI cJ cZ cD tA h R (upd (upd I_32 15 v_36) 18 v_37) L f11 f12 f13 v_39 vv (by clear hP hD hl; have z_ := ev_39.symm; clear ev_39; subst z_; have z_ := ev_37.symm; clear ev_37; subst z_; have z_ := ev_36.symm; clear ev_36; subst z_; have z_ := er_33.symm; clear er_33; subst z_; have z_ := eI_32.symm; clear eI_32; subst z_; have z_ := er_29.symm; clear er_29; subst z_; have z_ := er_28.symm; clear er_28; subst z_; rw [pk_un (by decide), pk_un (by decide), sk_keep _ _ (by decide), hp.1.2.2.2.2]; exact hi)) gX7_readsOpening_X7_item rfl rfl rfl (by decide +kernel) ⟨Nat.le_of_ble_eq_true rfl, Nat.le_of_ble_eq_true rfl⟩ rfl rfl rfl rfl rfl (Nat.le_of_ble_eq_true rfl) dX7_readsOpening_188 ⟨Nat.zero_le _, Nat.zero_le _⟩ hPc hDc hF) (fun u H locs hw hP hD hS => ?_)
              obtain ⟨I_41, eI_41⟩ : ∃ x : (Nat → Int32), x = (sX7_item (upd (upd I_32 15 v_36) 18 v_37) f11 f12 f13 v_39 vv).1 := ⟨_, rfl⟩
              obtain ⟨f_42, ef_42⟩ : ∃ x : (Nat → Int32), x = (sX7_item (upd (upd I_32 15 v_36) 18 v_37) f11 f12 f13 v_39 vv).2.1 := ⟨_, rfl⟩
              obtain ⟨f_43, ef_43⟩ : ∃ x : (Nat → Int32), x = (sX7_item (upd (upd I_32 15 v_36) 18 v_37) f11 f12 f13 v_39 vv).2.2.1 := ⟨_, rfl⟩
              obtain ⟨f_44, ef_44⟩ : ∃ x : (Nat → Int32), x = (sX7_item (upd (upd I_32 15 v_36) 18 v_37) f11 f12 f13 v_39 vv).2.2.2 := ⟨_, rfl⟩
              have hP : va_P D vwCl [((R 16), .inl (cI, 6, .inl (upd f16 (I_32 18).toNatClampNeg (I_32 14)))), ((R 17), .inl (cI, 6, .inl (upd f17 (I_32 18).toNatClampNeg (I_32 19)))), ((R 1), .inl (cI, 160, .inl f1)), (h, .inr (7, (oX7 R I_41 L))), ((R 11), .inl (cI, 160, .inl f_42)), ((R 12), .inl (cI, 160, .inl f_43)), ((R 13), .inl (cI, 160, .inl f_44))] H := by rw [eI_41, ef_42, ef_43, ef_44]; exact hP
              have hD : va_D A [((R 16), .inl (cI, 6, .inl (upd f16 (I_32 18).toNatClampNeg (I_32 14)))), ((R 17), .inl (cI, 6, .inl (upd f17 (I_32 18).toNatClampNeg (I_32 19)))), ((R 1), .inl (cI, 160, .inl f1)), (h, .inr (7, (oX7 R I_41 L))), ((R 11), .inl (cI, 160, .inl f_42)), ((R 12), .inl (cI, 160, .inl f_43)), ((R 13), .inl (cI, 160, .inl f_44))] := by rw [eI_41, ef_42, ef_43, ef_44]; exact hD
              refine lv_aload_n hx hb dX7_readsOpening_191 rfl (lv_at hl 0 rfl) ?_
              refine lv_iconst (v := 1) hx hb dX7_readsOpening_192 (by decide) ?_
              refine jx_put (w2 := [((R 16), .inl (cI, 6, .inl (upd f16 (I_32 18).toNatClampNeg (I_32 14)))), ((R 17), .inl (cI, 6, .inl (upd f17 (I_32 18).toNatClampNeg (I_32 19)))), ((R 1), .inl (cI, 160, .inl f1)), (h, .inr (7, (oX7 R (upd I_41 43 (1 : Int32)) L))), ((R 11), .inl (cI, 160, .inl f_42)), ((R 12), .inl (cI, 160, .inl f_43)), ((R 13), .inl (cI, 160, .inl f_44))]) hx hb hts iX7_readsOpening_7 tyX7 tyX7_ok nmX7 hown hK hP hD hS 3 rfl rfl 43 (by decide) hk117 rfl rfl (jx_bn (Or.inr rfl)) (jx_bf (Or.inr rfl)) (Nat.le_of_ble_eq_true rfl) dX7_readsOpening_193 rfl (fun H locs hP hD hS => ?_)
              refine lv_iconst (v := 1) hx hb dX7_readsOpening_196 (by decide) ?_
              have hq : (sX7_readsOpening I f1 f11 f12 f13 f16 f17 a0) = ((1 : Int32), (upd I_41 43 (1 : Int32)), f_42, f_43, f_44, (upd f16 (I_32 18).toNatClampNeg (I_32 14)), (upd f17 (I_32 18).toNatClampNeg (I_32 19))) := (by clear hP hD hl; have z_ := ef_44.symm; clear ef_44; subst z_; have z_ := ef_43.symm; clear ef_43; subst z_; have z_ := ef_42.symm; clear ef_42; subst z_; have z_ := eI_41.symm; clear eI_41; subst z_; have z_ := ev_39.symm; clear ev_39; subst z_; have z_ := ev_37.symm; clear ev_37; subst z_; have z_ := ev_36.symm; clear ev_36; subst z_; have z_ := er_33.symm; clear er_33; subst z_; have z_ := eI_32.symm; clear eI_32; subst z_; have z_ := er_29.symm; clear er_29; subst z_; have z_ := er_28.symm; clear er_28; subst z_; unfold sX7_readsOpening; rw [hfin]; exact (if_pos c_1).trans ((if_neg c_24).trans ((if_pos c_30).trans ((if_pos c_34).trans ((if_neg c_35))))))
              exact jx_zret () hx hb hr hlocks hK (hP.sub (ws' := [(h, .inr (7, (oX7 R (upd I_41 43 (1 : Int32)) L))), ((R 1), .inl (cI, 160, .inl f1)), ((R 11), .inl (cI, 160, .inl f_42)), ((R 12), .inl (cI, 160, .inl f_43)), ((R 13), .inl (cI, 160, .inl f_44)), ((R 16), .inl (cI, 6, .inl (upd f16 (I_32 18).toNatClampNeg (I_32 14)))), ((R 17), .inl (cI, 6, .inl (upd f17 (I_32 18).toNatClampNeg (I_32 19))))]) [3, 2, 4, 5, 6, 0, 1] rfl) (hD.sub (ws' := [(h, .inr (7, (oX7 R (upd I_41 43 (1 : Int32)) L))), ((R 1), .inl (cI, 160, .inl f1)), ((R 11), .inl (cI, 160, .inl f_42)), ((R 12), .inl (cI, 160, .inl f_43)), ((R 13), .inl (cI, 160, .inl f_44)), ((R 16), .inl (cI, 6, .inl (upd f16 (I_32 18).toNatClampNeg (I_32 14)))), ((R 17), .inl (cI, 6, .inl (upd f17 (I_32 18).toNatClampNeg (I_32 19))))]) [3, 2, 4, 5, 6, 0, 1] (by decide) rfl) hS (by rw [hq]) (by rw [hq]) (Or.inr rfl) dX7_readsOpening_197
            · skip
              refine lv_iconst (v := 0) hx hb dX7_readsOpening_127 (by decide) ?_
              have hq : (sX7_readsOpening I f1 f11 f12 f13 f16 f17 a0) = ((0 : Int32), I_32, f11, f12, f13, f16, f17) := (by clear hP hD hl; have z_ := er_33.symm; clear er_33; subst z_; have z_ := eI_32.symm; clear eI_32; subst z_; have z_ := er_29.symm; clear er_29; subst z_; have z_ := er_28.symm; clear er_28; subst z_; unfold sX7_readsOpening; rw [hfin]; exact (if_pos c_1).trans ((if_neg c_24).trans ((if_pos c_30).trans ((if_pos c_34).trans ((if_pos c_35))))))
              exact jx_zret () hx hb hr hlocks hK (hP.sub (ws' := [(h, .inr (7, (oX7 R I_32 L))), ((R 1), .inl (cI, 160, .inl f1)), ((R 11), .inl (cI, 160, .inl f11)), ((R 12), .inl (cI, 160, .inl f12)), ((R 13), .inl (cI, 160, .inl f13)), ((R 16), .inl (cI, 6, .inl f16)), ((R 17), .inl (cI, 6, .inl f17))]) [5, 6, 0, 1, 2, 3, 4] rfl) (hD.sub (ws' := [(h, .inr (7, (oX7 R I_32 L))), ((R 1), .inl (cI, 160, .inl f1)), ((R 11), .inl (cI, 160, .inl f11)), ((R 12), .inl (cI, 160, .inl f12)), ((R 13), .inl (cI, 160, .inl f13)), ((R 16), .inl (cI, 6, .inl f16)), ((R 17), .inl (cI, 6, .inl f17))]) [5, 6, 0, 1, 2, 3, 4] (by decide) rfl) hS (by rw [hq]) (by rw [hq]) (Or.inl rfl) dX7_readsOpening_128
        · skip
          refine lv_aload_n hx hb dX7_readsOpening_79 rfl (lv_at hl 0 rfl) ?_
          refine lv_iload_n hx hb dX7_readsOpening_80 rfl (lv_at hl 2 rfl) ?_
          refine jx_joini (J := 100) (v := (if vv = 0 then (if (J 15) ≤ (I 15) then (J 15) else (I 15)) else (J 15))) (rest := [.ref h]) (fun key => ?_) ?_
          · skip
            refine lv_if_ne (tgt := 96) hx hb dX7_readsOpening_81 (by decide) (fun c_45 => ?_) (fun c_45 => ?_)
            · skip
              refine lv_aload_n hx hb dX7_readsOpening_96 rfl (lv_at hl 0 rfl) ?_
              refine jx_get (v := .int (J 15)) hx hb hts iX7_readsOpening_7 hown hK hP 0 rfl rfl 15 (by decide) hk86 rfl rfl dX7_readsOpening_97 ?_
              rw [if_neg c_45] at key
              exact key
            · skip
              refine lv_aload_n hx hb dX7_readsOpening_84 rfl (lv_at hl 0 rfl) ?_
              refine jx_get (v := .int (J 15)) hx hb hts iX7_readsOpening_7 hown hK hP 0 rfl rfl 15 (by decide) hk86 rfl rfl dX7_readsOpening_85 ?_
              refine lv_iload_n hx hb dX7_readsOpening_88 rfl (lv_at hl 3 rfl) ?_
              refine lv_icmp_le (tgt := 96) hx hb dX7_readsOpening_89 (by decide) (fun c_46 => ?_) (fun c_46 => ?_)
              · skip
                refine lv_aload_n hx hb dX7_readsOpening_96 rfl (lv_at hl 0 rfl) ?_
                refine jx_get (v := .int (J 15)) hx hb hts iX7_readsOpening_7 hown hK hP 0 rfl rfl 15 (by decide) hk86 rfl rfl dX7_readsOpening_97 ?_
                rw [if_pos c_45, if_pos c_46] at key
                exact key
              · skip
                refine lv_iload_n hx hb dX7_readsOpening_92 rfl (lv_at hl 3 rfl) ?_
                refine lv_goto (tgt := 100) hx hb dX7_readsOpening_93 (by decide) ?_
                rw [if_pos c_45, if_neg c_46] at key
                exact key
          refine lv_topi (fun v_47 ev_47 => ?_)
          refine jx_put (w2 := [(h, .inr (7, (oX7 R (upd J 15 v_47) L))), ((R 1), .inl (cI, 160, .inl f1)), ((R 11), .inl (cI, 160, .inl f11)), ((R 12), .inl (cI, 160, .inl f12)), ((R 13), .inl (cI, 160, .inl f13)), ((R 16), .inl (cI, 6, .inl f16)), ((R 17), .inl (cI, 6, .inl f17))]) hx hb hts iX7_readsOpening_7 tyX7 tyX7_ok nmX7 hown hK hP hD hS 0 rfl rfl 15 (by decide) hk86 rfl rfl rfl rfl (Nat.le_of_ble_eq_true rfl) dX7_readsOpening_100 rfl (fun H locs hP hD hS => ?_)
          refine lv_iconst (v := 0) hx hb dX7_readsOpening_103 (by decide) ?_
          have hq : (sX7_readsOpening I f1 f11 f12 f13 f16 f17 a0) = ((0 : Int32), (upd J 15 v_47), f11, f12, f13, f16, f17) := (by clear hP hD hl; have z_ := ev_47.symm; clear ev_47; subst z_; have z_ := er_29.symm; clear er_29; subst z_; have z_ := er_28.symm; clear er_28; subst z_; unfold sX7_readsOpening; rw [hfin]; exact (if_pos c_1).trans ((if_neg c_24).trans ((if_neg c_30))))
          exact jx_zret () hx hb hr hlocks hK hP hD hS (by rw [hq]) (by rw [hq]) (Or.inl rfl) dX7_readsOpening_104

