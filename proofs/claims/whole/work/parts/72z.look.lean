set_option maxRecDepth 20000 in
theorem iX7_look_7 : ∀ w ∈ wsX70, w ∈ wsX7_look := by decide +kernel
set_option maxHeartbeats 4000000 in
set_option maxRecDepth 100000 in
theorem kX7_look (l : Launch) (D : va_G) (cI cJ cZ cD : ClassId) (tA : Nat) (h : Nat) (R : Nat → Nat) (I : Nat → Int32) (L : Nat → Int64) (f3 : Nat → Int32) (f4 : Nat → Int32) (f5 : Nat → Int32) (f6 : Nat → Int32) (f7 : Nat → Int32) (f8 : Nat → Int64) (a0 : Int64) (a1 : Int32) (hlk : ldkOK f3 f4 f5 f6 f7 f8 161 (0, 100, a0, 0)) : jx_Ms l yX7_look wsX7_look ({ frames := 1, cells := 0, slots := 0, locals := 23 }) D (jT cI cJ cZ cD) tA [.ref h, .long a0, .int a1] [(h, .inr (7, (oX7 R I L))), ((R 3), .inl (cI, 160, .inl f3)), ((R 4), .inl (cI, 160, .inl f4)), ((R 5), .inl (cI, 160, .inl f5)), ((R 6), .inl (cI, 160, .inl f6)), ((R 7), .inl (cI, 160, .inl f7)), ((R 8), .inl (cJ, 160, .inr (.inl f8)))] (vp_Si (fun r => r = (sX7_look f3 f4 f5 f6 f7 f8 a0 a1))) := by
  refine jx_ofs (cc := cX7_look) (maxL := 11) (ret := (some .int)) (by decide +kernel) rfl (Nat.le_of_ble_eq_true rfl) ?_
  intro p e s m below meth c A ls hx hb hr hlocks hml hown hts hK hP hD hA hS hX hl
  have hl : lv_has ls 11 [(0, .ref h), (1, .long a0), (3, .int a1)] := hl
  have hown : s.vm.findClass RX7 = some m.cls := hown
  have hk13 := hts (.fieldLink RX7 13 "LoomDeskModel" "kind" "[I") (by decide +kernel)
  have hk16 := hts (.fieldLink RX7 16 "LoomDeskModel" "value" "[I") (by decide +kernel)
  have hk19 := hts (.fieldLink RX7 19 "LoomDeskModel" "end" "[I") (by decide +kernel)
  have hk22 := hts (.fieldLink RX7 22 "LoomDeskModel" "carrierOut" "[I") (by decide +kernel)
  have hk25 := hts (.fieldLink RX7 25 "LoomDeskModel" "densityOut" "[I") (by decide +kernel)
  have hk28 := hts (.fieldLink RX7 28 "LoomDeskModel" "picks" "[J") (by decide +kernel)
  refine lv_iconst (v := 0) hx hb dX7_look_0 (by decide) ?_
  refine lv_istore (lv' := [(4, .int (0 : Int32)), (0, .ref h), (1, .long a0), (3, .int a1)]) hx hb dX7_look_1 hl (by decide) rfl (fun ls hl => ?_)
  refine lv_bipush (v := 100) hx hb dX7_look_3 (by decide) ?_
  refine lv_istore (lv' := [(5, .int (100 : Int32)), (4, .int (0 : Int32)), (0, .ref h), (1, .long a0), (3, .int a1)]) hx hb dX7_look_5 hl (by decide) rfl (fun ls hl => ?_)
  refine lv_lload_n hx hb dX7_look_7 rfl (lv_at hl 3 rfl) ?_
  refine lv_lstore (lv' := [(6, .long a0), (5, .int (100 : Int32)), (4, .int (0 : Int32)), (0, .ref h), (1, .long a0), (3, .int a1)]) hx hb dX7_look_8 hl (by decide) rfl (fun ls hl => ?_)
  refine lv_iconst (v := 0) hx hb dX7_look_10 (by decide) ?_
  refine lv_istore (lv' := [(8, .int (0 : Int32)), (6, .long a0), (5, .int (100 : Int32)), (4, .int (0 : Int32)), (0, .ref h), (1, .long a0), (3, .int a1)]) hx hb dX7_look_11 hl (by decide) rfl (fun ls hl => ?_)
  refine jx_loop (σ := (Int32) × (Int32) × (Int64) × (Int32) × (Nat) × (Unit)) (fun x H locs ls => H = s.heap ∧ locs = [] ∧ lv_has ls 11 [(0, .ref h), (1, .long a0), (3, .int a1), (4, .int x.1), (5, .int x.2.1), (6, .long x.2.2.1), (8, .int x.2.2.2.1)] ∧ (ldkI f3 f4 f5 f6 f7 f8 (ldkF f3 f4 f5 f6 f7 f8 161 (0, 100, a0, 0)) x.2.2.2.2.1 (x.1, x.2.1, x.2.2.1, x.2.2.2.1))) (fun x => x.2.2.2.2.1) ((0 : Int32), (100 : Int32), a0, (0 : Int32), 161, ()) ⟨rfl, rfl, lv_sub hl [4, 5, 6, 3, 2, 1, 0] rfl, (show ldkI f3 f4 f5 f6 f7 f8 (ldkF f3 f4 f5 f6 f7 f8 161 (0, 100, a0, 0)) 161 ((0 : Int32), (100 : Int32), a0, (0 : Int32)) from ⟨rfl, hlk⟩)⟩ ?_
  intro x H locs ls hI ih
  obtain ⟨cc_, dd, rr, kt, nn, ux⟩ := x
  obtain ⟨rfl, rfl, hl, hp⟩ := hI
  have hl : lv_has ls 11 [(0, .ref h), (1, .long a0), (3, .int a1), (4, .int cc_), (5, .int dd), (6, .long rr), (8, .int kt)] := hl
  have hp : ldkI f3 f4 f5 f6 f7 f8 (ldkF f3 f4 f5 f6 f7 f8 161 (0, 100, a0, 0)) nn (cc_, dd, rr, kt) := hp
  refine lv_aload_n hx hb dX7_look_13 rfl (lv_at hl 0 rfl) ?_
  refine jx_get (v := .ref (R 3)) hx hb hts iX7_look_7 hown hK hP 0 rfl rfl 3 (by decide) hk13 rfl rfl dX7_look_14 ?_
  refine lv_iload hx hb dX7_look_17 (lv_at hl 6 rfl) ?_
  refine va_iald hx hb hK hP 1 0 rfl rfl (ldkI_in hp) dX7_look_19 ?_
  refine lv_if_ne (tgt := 30) hx hb dX7_look_20 (by decide) (fun c_1 => ?_) (fun c_1 => ?_)
  · skip
    refine lv_aload_n hx hb dX7_look_30 rfl (lv_at hl 0 rfl) ?_
    refine lv_iload hx hb dX7_look_31 (lv_at hl 6 rfl) ?_
    refine jx_pcalli (wc := [(h, .inr (7, (oX7 R I L))), ((R 3), .inl (cI, 160, .inl f3))]) hP hD hS hA [0, 1] rfl (by decide) (fun hPc hDc hF => jx_runVs (As := [.int kt]) (rest := []) (n := 1) (ci := 7) (q0 := 0) hx hb hml hown hts hK hX hS hl.1 (kX7_isBracket l D cI cJ cZ cD tA h R I L f3 kt (ldkI_in hp)) gX7_look_X7_isBracket rfl rfl rfl (by decide +kernel) ⟨Nat.le_of_ble_eq_true rfl, Nat.le_of_ble_eq_true rfl⟩ rfl rfl rfl rfl rfl (Nat.le_of_ble_eq_true rfl) dX7_look_33 ⟨Nat.zero_le _, Nat.zero_le _⟩ hPc hDc hF) (fun r_2 er_2 => ?_)
    have er_2 : r_2 = (sX7_isBracket f3 kt) := er_2
    refine jx_joini (J := 56) (v := (if r_2 = 0 then (0 : Int32) else (if (sX7_times f3 f4 f8 kt) ≤ rr then (0 : Int32) else (1 : Int32)))) (rest := []) (fun key => ?_) ?_
    · skip
      refine lv_if_eq (tgt := 55) hx hb dX7_look_36 (by decide) (fun c_3 => ?_) (fun c_3 => ?_)
      · skip
        refine lv_iconst (v := 0) hx hb dX7_look_55 (by decide) ?_
        rw [if_pos c_3] at key
        exact key
      · skip
        refine lv_lload hx hb dX7_look_39 (lv_at hl 5 rfl) ?_
        refine lv_aload_n hx hb dX7_look_41 rfl (lv_at hl 0 rfl) ?_
        refine lv_iload hx hb dX7_look_42 (lv_at hl 6 rfl) ?_
        refine jx_pcalll (wc := [(h, .inr (7, (oX7 R I L))), ((R 3), .inl (cI, 160, .inl f3)), ((R 4), .inl (cI, 160, .inl f4)), ((R 8), .inl (cJ, 160, .inr (.inl f8)))]) hP hD hS hA [0, 1, 2, 6] rfl (by decide) (fun hPc hDc hF => jx_runVs (As := [.int kt]) (rest := [.long rr]) (n := 1) (ci := 7) (q0 := 0) hx hb hml hown hts hK hX hS hl.1 (kX7_times l D cI cJ cZ cD tA h R I L f3 f4 f8 kt (ldkI_in hp)) gX7_look_X7_times rfl rfl rfl (by decide +kernel) ⟨Nat.le_of_ble_eq_true rfl, Nat.le_of_ble_eq_true rfl⟩ rfl rfl rfl rfl rfl (Nat.le_of_ble_eq_true rfl) dX7_look_44 ⟨Nat.zero_le _, Nat.zero_le _⟩ hPc hDc hF) (fun r_4 er_4 => ?_)
        have er_4 : r_4 = (sX7_times f3 f4 f8 kt) := er_4
        refine jx_l_ge (tgt := 55) hx hb dX7_look_47 dX7_look_48 (by decide) (fun c_5 => ?_) (fun c_5 => ?_)
        · skip
          refine lv_iconst (v := 0) hx hb dX7_look_55 (by decide) ?_
          have z_ := er_4.symm; clear er_4; subst z_
          rw [if_neg c_3, if_pos c_5] at key
          exact key
        · skip
          refine lv_iconst (v := 1) hx hb dX7_look_51 (by decide) ?_
          refine lv_goto (tgt := 56) hx hb dX7_look_52 (by decide) ?_
          have z_ := er_4.symm; clear er_4; subst z_
          rw [if_neg c_3, if_neg c_5] at key
          exact key
    refine lv_topi (fun v_6 ev_6 => ?_)
    refine lv_istore (lv' := [(9, .int v_6), (0, .ref h), (1, .long a0), (3, .int a1), (4, .int cc_), (5, .int dd), (6, .long rr), (8, .int kt)]) hx hb dX7_look_56 hl (by decide) rfl (fun ls hl => ?_)
    refine lv_iload hx hb dX7_look_58 (lv_at hl 0 rfl) ?_
    refine jx_joini (J := 92) (v := (if v_6 = 0 then (0 : Int32) else (if (f3 kt.toNatClampNeg) = (3 : Int32) then (if rr < (f8 kt.toNatClampNeg) then (0 : Int32) else (1 : Int32)) else (0 : Int32)))) (rest := []) (fun key => ?_) ?_
    · skip
      refine lv_if_eq (tgt := 91) hx hb dX7_look_60 (by decide) (fun c_7 => ?_) (fun c_7 => ?_)
      · skip
        refine lv_iconst (v := 0) hx hb dX7_look_91 (by decide) ?_
        rw [if_pos c_7] at key
        exact key
      · skip
        refine lv_aload_n hx hb dX7_look_63 rfl (lv_at hl 1 rfl) ?_
        refine jx_get (v := .ref (R 3)) hx hb hts iX7_look_7 hown hK hP 0 rfl rfl 3 (by decide) hk13 rfl rfl dX7_look_64 ?_
        refine lv_iload hx hb dX7_look_67 (lv_at hl 7 rfl) ?_
        refine va_iald hx hb hK hP 1 0 rfl rfl (ldkI_in hp) dX7_look_69 ?_
        refine lv_iconst (v := 3) hx hb dX7_look_70 (by decide) ?_
        refine lv_icmp_ne (tgt := 91) hx hb dX7_look_71 (by decide) (fun c_8 => ?_) (fun c_8 => ?_)
        · skip
          refine lv_iconst (v := 0) hx hb dX7_look_91 (by decide) ?_
          rw [if_neg c_7, if_neg c_8] at key
          exact key
        · skip
          refine lv_lload hx hb dX7_look_74 (lv_at hl 6 rfl) ?_
          refine lv_aload_n hx hb dX7_look_76 rfl (lv_at hl 1 rfl) ?_
          refine jx_get (v := .ref (R 8)) hx hb hts iX7_look_7 hown hK hP 0 rfl rfl 8 (by decide) hk28 rfl rfl dX7_look_77 ?_
          refine lv_iload hx hb dX7_look_80 (lv_at hl 7 rfl) ?_
          refine va_lald hx hb hK hP 6 1 rfl rfl (ldkI_in hp) dX7_look_82 ?_
          refine jx_l_lt (tgt := 91) hx hb dX7_look_83 dX7_look_84 (by decide) (fun c_9 => ?_) (fun c_9 => ?_)
          · skip
            refine lv_iconst (v := 0) hx hb dX7_look_91 (by decide) ?_
            rw [if_neg c_7, if_pos c_8, if_pos c_9] at key
            exact key
          · skip
            refine lv_iconst (v := 1) hx hb dX7_look_87 (by decide) ?_
            refine lv_goto (tgt := 92) hx hb dX7_look_88 (by decide) ?_
            rw [if_neg c_7, if_pos c_8, if_neg c_9] at key
            exact key
    refine lv_topi (fun v_10 ev_10 => ?_)
    refine lv_istore (lv' := [(10, .int v_10), (9, .int v_6), (0, .ref h), (1, .long a0), (3, .int a1), (4, .int cc_), (5, .int dd), (6, .long rr), (8, .int kt)]) hx hb dX7_look_92 hl (by decide) rfl (fun ls hl => ?_)
    refine lv_iload hx hb dX7_look_94 (lv_at hl 1 rfl) ?_
    refine lv_if_eq (tgt := 104) hx hb dX7_look_96 (by decide) (fun c_11 => ?_) (fun c_11 => ?_)
    · skip
      refine lv_aload_n hx hb dX7_look_104 rfl (lv_at hl 2 rfl) ?_
      refine jx_get (v := .ref (R 6)) hx hb hts iX7_look_7 hown hK hP 0 rfl rfl 6 (by decide) hk22 rfl rfl dX7_look_105 ?_
      refine lv_iload hx hb dX7_look_108 (lv_at hl 8 rfl) ?_
      refine va_iald hx hb hK hP 4 0 rfl rfl (ldkI_in hp) dX7_look_110 ?_
      refine lv_iconst (v := -1) hx hb dX7_look_111 (by decide) ?_
      refine jx_joini (J := 127) (v := (if (f6 kt.toNatClampNeg) = (-1 : Int32) then cc_ else (f6 kt.toNatClampNeg))) (rest := []) (fun key => ?_) ?_
      · skip
        refine lv_icmp_ne (tgt := 120) hx hb dX7_look_112 (by decide) (fun c_12 => ?_) (fun c_12 => ?_)
        · skip
          refine lv_aload_n hx hb dX7_look_120 rfl (lv_at hl 2 rfl) ?_
          refine jx_get (v := .ref (R 6)) hx hb hts iX7_look_7 hown hK hP 0 rfl rfl 6 (by decide) hk22 rfl rfl dX7_look_121 ?_
          refine lv_iload hx hb dX7_look_124 (lv_at hl 8 rfl) ?_
          refine va_iald hx hb hK hP 4 0 rfl rfl (ldkI_in hp) dX7_look_126 ?_
          rw [if_neg c_12] at key
          exact key
        · skip
          refine lv_iload hx hb dX7_look_115 (lv_at hl 5 rfl) ?_
          refine lv_goto (tgt := 127) hx hb dX7_look_117 (by decide) ?_
          rw [if_pos c_12] at key
          exact key
      refine lv_topi (fun v_13 ev_13 => ?_)
      refine lv_istore (lv' := [(4, .int v_13), (10, .int v_10), (9, .int v_6), (0, .ref h), (1, .long a0), (3, .int a1), (5, .int dd), (6, .long rr), (8, .int kt)]) hx hb dX7_look_127 hl (by decide) rfl (fun ls hl => ?_)
      refine lv_aload_n hx hb dX7_look_129 rfl (lv_at hl 3 rfl) ?_
      refine jx_get (v := .ref (R 7)) hx hb hts iX7_look_7 hown hK hP 0 rfl rfl 7 (by decide) hk25 rfl rfl dX7_look_130 ?_
      refine lv_iload hx hb dX7_look_133 (lv_at hl 8 rfl) ?_
      refine va_iald hx hb hK hP 5 0 rfl rfl (ldkI_in hp) dX7_look_135 ?_
      refine lv_iconst (v := -1) hx hb dX7_look_136 (by decide) ?_
      refine jx_joini (J := 152) (v := (if (f7 kt.toNatClampNeg) = (-1 : Int32) then dd else (f7 kt.toNatClampNeg))) (rest := []) (fun key => ?_) ?_
      · skip
        refine lv_icmp_ne (tgt := 145) hx hb dX7_look_137 (by decide) (fun c_14 => ?_) (fun c_14 => ?_)
        · skip
          refine lv_aload_n hx hb dX7_look_145 rfl (lv_at hl 3 rfl) ?_
          refine jx_get (v := .ref (R 7)) hx hb hts iX7_look_7 hown hK hP 0 rfl rfl 7 (by decide) hk25 rfl rfl dX7_look_146 ?_
          refine lv_iload hx hb dX7_look_149 (lv_at hl 8 rfl) ?_
          refine va_iald hx hb hK hP 5 0 rfl rfl (ldkI_in hp) dX7_look_151 ?_
          rw [if_neg c_14] at key
          exact key
        · skip
          refine lv_iload hx hb dX7_look_140 (lv_at hl 6 rfl) ?_
          refine lv_goto (tgt := 152) hx hb dX7_look_142 (by decide) ?_
          rw [if_pos c_14] at key
          exact key
      refine lv_topi (fun v_15 ev_15 => ?_)
      refine lv_istore (lv' := [(5, .int v_15), (4, .int v_13), (10, .int v_10), (9, .int v_6), (0, .ref h), (1, .long a0), (3, .int a1), (6, .long rr), (8, .int kt)]) hx hb dX7_look_152 hl (by decide) rfl (fun ls hl => ?_)
      refine lv_iload hx hb dX7_look_154 (lv_at hl 3 rfl) ?_
      refine lv_if_ne (tgt := 209) hx hb dX7_look_156 (by decide) (fun c_16 => ?_) (fun c_16 => ?_)
      · skip
        exact absurd c_11 c_16
      · skip
        refine lv_lload hx hb dX7_look_159 (lv_at hl 7 rfl) ?_
        refine lv_aload_n hx hb dX7_look_161 rfl (lv_at hl 4 rfl) ?_
        refine lv_iload hx hb dX7_look_162 (lv_at hl 8 rfl) ?_
        refine jx_pcalli (wc := [(h, .inr (7, (oX7 R I L))), ((R 3), .inl (cI, 160, .inl f3))]) hP hD hS hA [0, 1] rfl (by decide) (fun hPc hDc hF => jx_runVs (As := [.int kt]) (rest := [.long rr]) (n := 1) (ci := 7) (q0 := 0) hx hb hml hown hts hK hX hS hl.1 (kX7_isBracket l D cI cJ cZ cD tA h R I L f3 kt (ldkI_in hp)) gX7_look_X7_isBracket rfl rfl rfl (by decide +kernel) ⟨Nat.le_of_ble_eq_true rfl, Nat.le_of_ble_eq_true rfl⟩ rfl rfl rfl rfl rfl (Nat.le_of_ble_eq_true rfl) dX7_look_164 ⟨Nat.zero_le _, Nat.zero_le _⟩ hPc hDc hF) (fun r_17 er_17 => ?_)
        have er_17 : r_17 = (sX7_isBracket f3 kt) := er_17
        refine jx_joinl (J := 194) (v := (if r_17 = 0 then (if (f3 kt.toNatClampNeg) = 0 then (1 : Int64) else (0 : Int64)) else (sX7_times f3 f4 f8 kt))) (rest := [.long rr]) (fun key => ?_) ?_
        · skip
          refine lv_if_eq (tgt := 179) hx hb dX7_look_167 (by decide) (fun c_18 => ?_) (fun c_18 => ?_)
          · skip
            refine lv_aload_n hx hb dX7_look_179 rfl (lv_at hl 4 rfl) ?_
            refine jx_get (v := .ref (R 3)) hx hb hts iX7_look_7 hown hK hP 0 rfl rfl 3 (by decide) hk13 rfl rfl dX7_look_180 ?_
            refine lv_iload hx hb dX7_look_183 (lv_at hl 8 rfl) ?_
            refine va_iald hx hb hK hP 1 0 rfl rfl (ldkI_in hp) dX7_look_185 ?_
            refine lv_if_ne (tgt := 193) hx hb dX7_look_186 (by decide) (fun c_19 => ?_) (fun c_19 => ?_)
            · skip
              refine lv_lconst (v := 0) hx hb dX7_look_193 (by decide) ?_
              rw [if_pos c_18, if_neg c_19] at key
              exact key
            · skip
              refine lv_lconst (v := 1) hx hb dX7_look_189 (by decide) ?_
              refine lv_goto (tgt := 194) hx hb dX7_look_190 (by decide) ?_
              rw [if_pos c_18, if_pos c_19] at key
              exact key
          · skip
            refine lv_aload_n hx hb dX7_look_170 rfl (lv_at hl 4 rfl) ?_
            refine lv_iload hx hb dX7_look_171 (lv_at hl 8 rfl) ?_
            refine jx_pcalll (wc := [(h, .inr (7, (oX7 R I L))), ((R 3), .inl (cI, 160, .inl f3)), ((R 4), .inl (cI, 160, .inl f4)), ((R 8), .inl (cJ, 160, .inr (.inl f8)))]) hP hD hS hA [0, 1, 2, 6] rfl (by decide) (fun hPc hDc hF => jx_runVs (As := [.int kt]) (rest := [.long rr]) (n := 1) (ci := 7) (q0 := 0) hx hb hml hown hts hK hX hS hl.1 (kX7_times l D cI cJ cZ cD tA h R I L f3 f4 f8 kt (ldkI_in hp)) gX7_look_X7_times rfl rfl rfl (by decide +kernel) ⟨Nat.le_of_ble_eq_true rfl, Nat.le_of_ble_eq_true rfl⟩ rfl rfl rfl rfl rfl (Nat.le_of_ble_eq_true rfl) dX7_look_173 ⟨Nat.zero_le _, Nat.zero_le _⟩ hPc hDc hF) (fun r_20 er_20 => ?_)
            have er_20 : r_20 = (sX7_times f3 f4 f8 kt) := er_20
            refine lv_goto (tgt := 194) hx hb dX7_look_176 (by decide) ?_
            have z_ := er_20.symm; clear er_20; subst z_
            rw [if_neg c_18] at key
            exact key
        refine lv_topl (fun v_21 ev_21 => ?_)
        refine lv_lsub hx hb dX7_look_194 ?_
        refine lv_topl (fun v_22 ev_22 => ?_)
        refine lv_lstore (lv' := [(6, .long v_22), (5, .int v_15), (4, .int v_13), (10, .int v_10), (9, .int v_6), (0, .ref h), (1, .long a0), (3, .int a1), (8, .int kt)]) hx hb dX7_look_195 hl (by decide) rfl (fun ls hl => ?_)
        refine lv_aload_n hx hb dX7_look_197 rfl (lv_at hl 5 rfl) ?_
        refine jx_get (v := .ref (R 5)) hx hb hts iX7_look_7 hown hK hP 0 rfl rfl 5 (by decide) hk19 rfl rfl dX7_look_198 ?_
        refine lv_iload hx hb dX7_look_201 (lv_at hl 8 rfl) ?_
        refine va_iald hx hb hK hP 3 0 rfl rfl (ldkI_in hp) dX7_look_203 ?_
        refine lv_topi (fun v_23 ev_23 => ?_)
        refine lv_istore (lv' := [(8, .int v_23), (6, .long v_22), (5, .int v_15), (4, .int v_13), (10, .int v_10), (9, .int v_6), (0, .ref h), (1, .long a0), (3, .int a1)]) hx hb dX7_look_204 hl (by decide) rfl (fun ls hl => ?_)
        refine lv_goto (tgt := 272) hx hb dX7_look_206 (by decide) ?_
        refine lv_goto (tgt := 13) hx hb dX7_look_272 (by decide) ?_
        exact ih (v_13, v_15, v_22, v_23, nn - 1, ()) _ _ _ ⟨rfl, rfl, lv_sub hl [6, 7, 8, 3, 2, 1, 0] rfl, (show ldkI f3 f4 f5 f6 f7 f8 (ldkF f3 f4 f5 f6 f7 f8 161 (0, 100, a0, 0)) (nn - 1) (v_13, v_15, v_22, v_23) from (by clear hP hD hl; have z_ := ev_23.symm; clear ev_23; subst z_; have z_ := ev_22.symm; clear ev_22; subst z_; have z_ := ev_21.symm; clear ev_21; subst z_; have z_ := er_17.symm; clear er_17; subst z_; have z_ := ev_15.symm; clear ev_15; subst z_; have z_ := ev_13.symm; clear ev_13; subst z_; have z_ := ev_10.symm; clear ev_10; subst z_; have z_ := ev_6.symm; clear ev_6; subst z_; have z_ := er_2.symm; clear er_2; subst z_; exact ldkI_a hp (fun z => c_1 z.1) c_11))⟩ (show (nn - 1) < nn from (by clear hP hD hl; have z_ := ev_23.symm; clear ev_23; subst z_; have z_ := ev_22.symm; clear ev_22; subst z_; have z_ := ev_21.symm; clear ev_21; subst z_; have z_ := er_17.symm; clear er_17; subst z_; have z_ := ev_15.symm; clear ev_15; subst z_; have z_ := ev_13.symm; clear ev_13; subst z_; have z_ := ev_10.symm; clear ev_10; subst z_; have z_ := ev_6.symm; clear ev_6; subst z_; have z_ := er_2.symm; clear er_2; subst z_; exact (ldkI_step hp (fun z => c_1 z.1)).2))
    · skip
      refine lv_iload hx hb dX7_look_99 (lv_at hl 0 rfl) ?_
      refine lv_if_eq (tgt := 154) hx hb dX7_look_101 (by decide) (fun c_24 => ?_) (fun c_24 => ?_)
      · skip
        refine lv_iload hx hb dX7_look_154 (lv_at hl 1 rfl) ?_
        refine lv_if_ne (tgt := 209) hx hb dX7_look_156 (by decide) (fun c_25 => ?_) (fun c_25 => ?_)
        · skip
          refine lv_aload_n hx hb dX7_look_209 rfl (lv_at hl 2 rfl) ?_
          refine jx_get (v := .ref (R 3)) hx hb hts iX7_look_7 hown hK hP 0 rfl rfl 3 (by decide) hk13 rfl rfl dX7_look_210 ?_
          refine lv_iload hx hb dX7_look_213 (lv_at hl 8 rfl) ?_
          refine va_iald hx hb hK hP 1 0 rfl rfl (ldkI_in hp) dX7_look_215 ?_
          refine lv_iconst (v := 3) hx hb dX7_look_216 (by decide) ?_
          refine jx_joinl (J := 267) (v := (if (f3 kt.toNatClampNeg) = (3 : Int32) then (rr - rr / (f8 kt.toNatClampNeg) * (f8 kt.toNatClampNeg)) else (if (f8 kt.toNatClampNeg) ≤ rr then ((((2 : Int64) * (f8 kt.toNatClampNeg)) - (1 : Int64)) - rr) else rr))) (rest := []) (fun key => ?_) ?_
          · skip
            refine lv_icmp_ne (tgt := 233) hx hb dX7_look_217 (by decide) (fun c_26 => ?_) (fun c_26 => ?_)
            · skip
              refine lv_lload hx hb dX7_look_233 (lv_at hl 7 rfl) ?_
              refine lv_aload_n hx hb dX7_look_235 rfl (lv_at hl 2 rfl) ?_
              refine jx_get (v := .ref (R 8)) hx hb hts iX7_look_7 hown hK hP 0 rfl rfl 8 (by decide) hk28 rfl rfl dX7_look_236 ?_
              refine lv_iload hx hb dX7_look_239 (lv_at hl 8 rfl) ?_
              refine va_lald hx hb hK hP 6 1 rfl rfl (ldkI_in hp) dX7_look_241 ?_
              refine jx_l_ge (tgt := 251) hx hb dX7_look_242 dX7_look_243 (by decide) (fun c_27 => ?_) (fun c_27 => ?_)
              · skip
                refine lv_ldc2 hx hb hown (hts (.constantLong RX7 128 (2)) (by decide +kernel)) dX7_look_251 ?_
                refine lv_aload_n hx hb dX7_look_254 rfl (lv_at hl 2 rfl) ?_
                refine jx_get (v := .ref (R 8)) hx hb hts iX7_look_7 hown hK hP 0 rfl rfl 8 (by decide) hk28 rfl rfl dX7_look_255 ?_
                refine lv_iload hx hb dX7_look_258 (lv_at hl 8 rfl) ?_
                refine va_lald hx hb hK hP 6 1 rfl rfl (ldkI_in hp) dX7_look_260 ?_
                refine lv_lmul hx hb dX7_look_261 ?_
                refine lv_lconst (v := 1) hx hb dX7_look_262 (by decide) ?_
                refine lv_lsub hx hb dX7_look_263 ?_
                refine lv_lload hx hb dX7_look_264 (lv_at hl 7 rfl) ?_
                refine lv_lsub hx hb dX7_look_266 ?_
                rw [if_neg c_26, if_pos c_27] at key
                exact key
              · skip
                refine lv_lload hx hb dX7_look_246 (lv_at hl 7 rfl) ?_
                refine lv_goto (tgt := 267) hx hb dX7_look_248 (by decide) ?_
                rw [if_neg c_26, if_neg c_27] at key
                exact key
            · skip
              refine lv_lload hx hb dX7_look_220 (lv_at hl 7 rfl) ?_
              refine lv_aload_n hx hb dX7_look_222 rfl (lv_at hl 2 rfl) ?_
              refine jx_get (v := .ref (R 8)) hx hb hts iX7_look_7 hown hK hP 0 rfl rfl 8 (by decide) hk28 rfl rfl dX7_look_223 ?_
              refine lv_iload hx hb dX7_look_226 (lv_at hl 8 rfl) ?_
              refine va_lald hx hb hK hP 6 1 rfl rfl (ldkI_in hp) dX7_look_228 ?_
              refine lv_lrem hx hb dX7_look_229 (by clear hP hD hl; have z_ := ev_10.symm; clear ev_10; subst z_; have z_ := ev_6.symm; clear ev_6; subst z_; have z_ := er_2.symm; clear er_2; subst z_; exact ldkI_ne hp (fun z => c_1 z.1) c_11 c_26) ?_
              refine lv_goto (tgt := 267) hx hb dX7_look_230 (by decide) ?_
              rw [if_pos c_26] at key
              exact key
          refine lv_topl (fun v_28 ev_28 => ?_)
          refine lv_lstore (lv' := [(6, .long v_28), (10, .int v_10), (9, .int v_6), (0, .ref h), (1, .long a0), (3, .int a1), (4, .int cc_), (5, .int dd), (8, .int kt)]) hx hb dX7_look_267 hl (by decide) rfl (fun ls hl => ?_)
          obtain ⟨v_29, ev_29⟩ : ∃ y : Int32, y = kt + (1 : Int32) := ⟨_, rfl⟩
          refine lv_iinc (v := v_29) (lv' := [(8, .int v_29), (6, .long v_28), (10, .int v_10), (9, .int v_6), (0, .ref h), (1, .long a0), (3, .int a1), (4, .int cc_), (5, .int dd)]) hx hb dX7_look_269 hl (k := 8) rfl (by rw [ev_29]; rfl) (by decide) rfl (fun ls hl => ?_)
          refine lv_goto (tgt := 13) hx hb dX7_look_272 (by decide) ?_
          exact ih (cc_, dd, v_28, v_29, nn - 1, ()) _ _ _ ⟨rfl, rfl, lv_sub hl [4, 5, 6, 7, 8, 1, 0] rfl, (show ldkI f3 f4 f5 f6 f7 f8 (ldkF f3 f4 f5 f6 f7 f8 161 (0, 100, a0, 0)) (nn - 1) (cc_, dd, v_28, v_29) from (by clear hP hD hl; have z_ := ev_29.symm; clear ev_29; subst z_; have z_ := ev_28.symm; clear ev_28; subst z_; have z_ := ev_10.symm; clear ev_10; subst z_; have z_ := ev_6.symm; clear ev_6; subst z_; have z_ := er_2.symm; clear er_2; subst z_; exact ldkI_b hp (fun z => c_1 z.1) c_11 c_24))⟩ (show (nn - 1) < nn from (by clear hP hD hl; have z_ := ev_29.symm; clear ev_29; subst z_; have z_ := ev_28.symm; clear ev_28; subst z_; have z_ := ev_10.symm; clear ev_10; subst z_; have z_ := ev_6.symm; clear ev_6; subst z_; have z_ := er_2.symm; clear er_2; subst z_; exact (ldkI_step hp (fun z => c_1 z.1)).2))
        · skip
          exact absurd c_25 c_11
      · skip
        refine lv_aload_n hx hb dX7_look_104 rfl (lv_at hl 2 rfl) ?_
        refine jx_get (v := .ref (R 6)) hx hb hts iX7_look_7 hown hK hP 0 rfl rfl 6 (by decide) hk22 rfl rfl dX7_look_105 ?_
        refine lv_iload hx hb dX7_look_108 (lv_at hl 8 rfl) ?_
        refine va_iald hx hb hK hP 4 0 rfl rfl (ldkI_in hp) dX7_look_110 ?_
        refine lv_iconst (v := -1) hx hb dX7_look_111 (by decide) ?_
        refine jx_joini (J := 127) (v := (if (f6 kt.toNatClampNeg) = (-1 : Int32) then cc_ else (f6 kt.toNatClampNeg))) (rest := []) (fun key => ?_) ?_
        · skip
          refine lv_icmp_ne (tgt := 120) hx hb dX7_look_112 (by decide) (fun c_30 => ?_) (fun c_30 => ?_)
          · skip
            refine lv_aload_n hx hb dX7_look_120 rfl (lv_at hl 2 rfl) ?_
            refine jx_get (v := .ref (R 6)) hx hb hts iX7_look_7 hown hK hP 0 rfl rfl 6 (by decide) hk22 rfl rfl dX7_look_121 ?_
            refine lv_iload hx hb dX7_look_124 (lv_at hl 8 rfl) ?_
            refine va_iald hx hb hK hP 4 0 rfl rfl (ldkI_in hp) dX7_look_126 ?_
            rw [if_neg c_30] at key
            exact key
          · skip
            refine lv_iload hx hb dX7_look_115 (lv_at hl 5 rfl) ?_
            refine lv_goto (tgt := 127) hx hb dX7_look_117 (by decide) ?_
            rw [if_pos c_30] at key
            exact key
        refine lv_topi (fun v_31 ev_31 => ?_)
        refine lv_istore (lv' := [(4, .int v_31), (10, .int v_10), (9, .int v_6), (0, .ref h), (1, .long a0), (3, .int a1), (5, .int dd), (6, .long rr), (8, .int kt)]) hx hb dX7_look_127 hl (by decide) rfl (fun ls hl => ?_)
        refine lv_aload_n hx hb dX7_look_129 rfl (lv_at hl 3 rfl) ?_
        refine jx_get (v := .ref (R 7)) hx hb hts iX7_look_7 hown hK hP 0 rfl rfl 7 (by decide) hk25 rfl rfl dX7_look_130 ?_
        refine lv_iload hx hb dX7_look_133 (lv_at hl 8 rfl) ?_
        refine va_iald hx hb hK hP 5 0 rfl rfl (ldkI_in hp) dX7_look_135 ?_
        refine lv_iconst (v := -1) hx hb dX7_look_136 (by decide) ?_
        refine jx_joini (J := 152) (v := (if (f7 kt.toNatClampNeg) = (-1 : Int32) then dd else (f7 kt.toNatClampNeg))) (rest := []) (fun key => ?_) ?_
        · skip
          refine lv_icmp_ne (tgt := 145) hx hb dX7_look_137 (by decide) (fun c_32 => ?_) (fun c_32 => ?_)
          · skip
            refine lv_aload_n hx hb dX7_look_145 rfl (lv_at hl 3 rfl) ?_
            refine jx_get (v := .ref (R 7)) hx hb hts iX7_look_7 hown hK hP 0 rfl rfl 7 (by decide) hk25 rfl rfl dX7_look_146 ?_
            refine lv_iload hx hb dX7_look_149 (lv_at hl 8 rfl) ?_
            refine va_iald hx hb hK hP 5 0 rfl rfl (ldkI_in hp) dX7_look_151 ?_
            rw [if_neg c_32] at key
            exact key
          · skip
            refine lv_iload hx hb dX7_look_140 (lv_at hl 6 rfl) ?_
            refine lv_goto (tgt := 152) hx hb dX7_look_142 (by decide) ?_
            rw [if_pos c_32] at key
            exact key
        refine lv_topi (fun v_33 ev_33 => ?_)
        refine lv_istore (lv' := [(5, .int v_33), (4, .int v_31), (10, .int v_10), (9, .int v_6), (0, .ref h), (1, .long a0), (3, .int a1), (6, .long rr), (8, .int kt)]) hx hb dX7_look_152 hl (by decide) rfl (fun ls hl => ?_)
        refine lv_iload hx hb dX7_look_154 (lv_at hl 3 rfl) ?_
        refine lv_if_ne (tgt := 209) hx hb dX7_look_156 (by decide) (fun c_34 => ?_) (fun c_34 => ?_)
        · skip
          refine lv_aload_n hx hb dX7_look_209 rfl (lv_at hl 4 rfl) ?_
          refine jx_get (v := .ref (R 3)) hx hb hts iX7_look_7 hown hK hP 0 rfl rfl 3 (by decide) hk13 rfl rfl dX7_look_210 ?_
          refine lv_iload hx hb dX7_look_213 (lv_at hl 8 rfl) ?_
          refine va_iald hx hb hK hP 1 0 rfl rfl (ldkI_in hp) dX7_look_215 ?_
          refine lv_iconst (v := 3) hx hb dX7_look_216 (by decide) ?_
          refine jx_joinl (J := 267) (v := (if (f3 kt.toNatClampNeg) = (3 : Int32) then (rr - rr / (f8 kt.toNatClampNeg) * (f8 kt.toNatClampNeg)) else (if (f8 kt.toNatClampNeg) ≤ rr then ((((2 : Int64) * (f8 kt.toNatClampNeg)) - (1 : Int64)) - rr) else rr))) (rest := []) (fun key => ?_) ?_
          · skip
            refine lv_icmp_ne (tgt := 233) hx hb dX7_look_217 (by decide) (fun c_35 => ?_) (fun c_35 => ?_)
            · skip
              refine lv_lload hx hb dX7_look_233 (lv_at hl 7 rfl) ?_
              refine lv_aload_n hx hb dX7_look_235 rfl (lv_at hl 4 rfl) ?_
              refine jx_get (v := .ref (R 8)) hx hb hts iX7_look_7 hown hK hP 0 rfl rfl 8 (by decide) hk28 rfl rfl dX7_look_236 ?_
              refine lv_iload hx hb dX7_look_239 (lv_at hl 8 rfl) ?_
              refine va_lald hx hb hK hP 6 1 rfl rfl (ldkI_in hp) dX7_look_241 ?_
              refine jx_l_ge (tgt := 251) hx hb dX7_look_242 dX7_look_243 (by decide) (fun c_36 => ?_) (fun c_36 => ?_)
              · skip
                refine lv_ldc2 hx hb hown (hts (.constantLong RX7 128 (2)) (by decide +kernel)) dX7_look_251 ?_
                refine lv_aload_n hx hb dX7_look_254 rfl (lv_at hl 4 rfl) ?_
                refine jx_get (v := .ref (R 8)) hx hb hts iX7_look_7 hown hK hP 0 rfl rfl 8 (by decide) hk28 rfl rfl dX7_look_255 ?_
                refine lv_iload hx hb dX7_look_258 (lv_at hl 8 rfl) ?_
                refine va_lald hx hb hK hP 6 1 rfl rfl (ldkI_in hp) dX7_look_260 ?_
                refine lv_lmul hx hb dX7_look_261 ?_
                refine lv_lconst (v := 1) hx hb dX7_look_262 (by decide) ?_
                refine lv_lsub hx hb dX7_look_263 ?_
                refine lv_lload hx hb dX7_look_264 (lv_at hl 7 rfl) ?_
                refine lv_lsub hx hb dX7_look_266 ?_
                rw [if_neg c_35, if_pos c_36] at key
                exact key
              · skip
                refine lv_lload hx hb dX7_look_246 (lv_at hl 7 rfl) ?_
                refine lv_goto (tgt := 267) hx hb dX7_look_248 (by decide) ?_
                rw [if_neg c_35, if_neg c_36] at key
                exact key
            · skip
              refine lv_lload hx hb dX7_look_220 (lv_at hl 7 rfl) ?_
              refine lv_aload_n hx hb dX7_look_222 rfl (lv_at hl 4 rfl) ?_
              refine jx_get (v := .ref (R 8)) hx hb hts iX7_look_7 hown hK hP 0 rfl rfl 8 (by decide) hk28 rfl rfl dX7_look_223 ?_
              refine lv_iload hx hb dX7_look_226 (lv_at hl 8 rfl) ?_
              refine va_lald hx hb hK hP 6 1 rfl rfl (ldkI_in hp) dX7_look_228 ?_
              refine lv_lrem hx hb dX7_look_229 (by clear hP hD hl; have z_ := ev_33.symm; clear ev_33; subst z_; have z_ := ev_31.symm; clear ev_31; subst z_; have z_ := ev_10.symm; clear ev_10; subst z_; have z_ := ev_6.symm; clear ev_6; subst z_; have z_ := er_2.symm; clear er_2; subst z_; exact ldkI_ne hp (fun z => c_1 z.1) c_11 c_35) ?_
              refine lv_goto (tgt := 267) hx hb dX7_look_230 (by decide) ?_
              rw [if_pos c_35] at key
              exact key
          refine lv_topl (fun v_37 ev_37 => ?_)
          refine lv_lstore (lv' := [(6, .long v_37), (5, .int v_33), (4, .int v_31), (10, .int v_10), (9, .int v_6), (0, .ref h), (1, .long a0), (3, .int a1), (8, .int kt)]) hx hb dX7_look_267 hl (by decide) rfl (fun ls hl => ?_)
          obtain ⟨v_38, ev_38⟩ : ∃ y : Int32, y = kt + (1 : Int32) := ⟨_, rfl⟩
          refine lv_iinc (v := v_38) (lv' := [(8, .int v_38), (6, .long v_37), (5, .int v_33), (4, .int v_31), (10, .int v_10), (9, .int v_6), (0, .ref h), (1, .long a0), (3, .int a1)]) hx hb dX7_look_269 hl (k := 8) rfl (by rw [ev_38]; rfl) (by decide) rfl (fun ls hl => ?_)
          refine lv_goto (tgt := 13) hx hb dX7_look_272 (by decide) ?_
          exact ih (v_31, v_33, v_37, v_38, nn - 1, ()) _ _ _ ⟨rfl, rfl, lv_sub hl [6, 7, 8, 3, 2, 1, 0] rfl, (show ldkI f3 f4 f5 f6 f7 f8 (ldkF f3 f4 f5 f6 f7 f8 161 (0, 100, a0, 0)) (nn - 1) (v_31, v_33, v_37, v_38) from (by clear hP hD hl; have z_ := ev_38.symm; clear ev_38; subst z_; have z_ := ev_37.symm; clear ev_37; subst z_; have z_ := ev_33.symm; clear ev_33; subst z_; have z_ := ev_31.symm; clear ev_31; subst z_; have z_ := ev_10.symm; clear ev_10; subst z_; have z_ := ev_6.symm; clear ev_6; subst z_; have z_ := er_2.symm; clear er_2; subst z_; exact ldkI_c hp (fun z => c_1 z.1) c_11 c_24))⟩ (show (nn - 1) < nn from (by clear hP hD hl; have z_ := ev_38.symm; clear ev_38; subst z_; have z_ := ev_37.symm; clear ev_37; subst z_; have z_ := ev_33.symm; clear ev_33; subst z_; have z_ := ev_31.symm; clear ev_31; subst z_; have z_ := ev_10.symm; clear ev_10; subst z_; have z_ := ev_6.symm; clear ev_6; subst z_; have z_ := er_2.symm; clear er_2; subst z_; exact (ldkI_step hp (fun z => c_1 z.1)).2))
        · skip
          exact absurd c_34 c_11
  · skip
    refine lv_lload hx hb dX7_look_23 (lv_at hl 5 rfl) ?_
    refine lv_lconst (v := 0) hx hb dX7_look_25 (by decide) ?_
    refine jx_l_le (tgt := 275) hx hb dX7_look_26 dX7_look_27 (by decide) (fun c_39 => ?_) (fun c_39 => ?_)
    · skip
      refine lv_iload_n hx hb dX7_look_275 rfl (lv_at hl 2 rfl) ?_
      refine jx_joini (J := 301) (v := (if a1 = 0 then (f4 kt.toNatClampNeg) else (if a1 = (1 : Int32) then cc_ else dd))) (rest := []) (fun key => ?_) ?_
      · skip
        refine lv_if_ne (tgt := 289) hx hb dX7_look_276 (by decide) (fun c_40 => ?_) (fun c_40 => ?_)
        · skip
          refine lv_iload_n hx hb dX7_look_289 rfl (lv_at hl 2 rfl) ?_
          refine lv_iconst (v := 1) hx hb dX7_look_290 (by decide) ?_
          refine lv_icmp_ne (tgt := 299) hx hb dX7_look_291 (by decide) (fun c_41 => ?_) (fun c_41 => ?_)
          · skip
            refine lv_iload hx hb dX7_look_299 (lv_at hl 4 rfl) ?_
            rw [if_neg c_40, if_neg c_41] at key
            exact key
          · skip
            refine lv_iload hx hb dX7_look_294 (lv_at hl 3 rfl) ?_
            refine lv_goto (tgt := 301) hx hb dX7_look_296 (by decide) ?_
            rw [if_neg c_40, if_pos c_41] at key
            exact key
        · skip
          refine lv_aload_n hx hb dX7_look_279 rfl (lv_at hl 0 rfl) ?_
          refine jx_get (v := .ref (R 4)) hx hb hts iX7_look_7 hown hK hP 0 rfl rfl 4 (by decide) hk16 rfl rfl dX7_look_280 ?_
          refine lv_iload hx hb dX7_look_283 (lv_at hl 6 rfl) ?_
          refine va_iald hx hb hK hP 2 0 rfl rfl (ldkI_in hp) dX7_look_285 ?_
          refine lv_goto (tgt := 301) hx hb dX7_look_286 (by decide) ?_
          rw [if_pos c_40] at key
          exact key
      refine lv_topi (fun v_42 ev_42 => ?_)
      have hq : (sX7_look f3 f4 f5 f6 f7 f8 a0 a1) = v_42 := (by clear hP hD hl; have z_ := ev_42.symm; clear ev_42; subst z_; rw [sX7_look, ldkI_end hp ⟨c_1, c_39⟩])
      exact jx_siret hx hb hr hlocks hq.symm dX7_look_301
    · skip
      refine lv_aload_n hx hb dX7_look_30 rfl (lv_at hl 0 rfl) ?_
      refine lv_iload hx hb dX7_look_31 (lv_at hl 6 rfl) ?_
      refine jx_pcalli (wc := [(h, .inr (7, (oX7 R I L))), ((R 3), .inl (cI, 160, .inl f3))]) hP hD hS hA [0, 1] rfl (by decide) (fun hPc hDc hF => jx_runVs (As := [.int kt]) (rest := []) (n := 1) (ci := 7) (q0 := 0) hx hb hml hown hts hK hX hS hl.1 (kX7_isBracket l D cI cJ cZ cD tA h R I L f3 kt (ldkI_in hp)) gX7_look_X7_isBracket rfl rfl rfl (by decide +kernel) ⟨Nat.le_of_ble_eq_true rfl, Nat.le_of_ble_eq_true rfl⟩ rfl rfl rfl rfl rfl (Nat.le_of_ble_eq_true rfl) dX7_look_33 ⟨Nat.zero_le _, Nat.zero_le _⟩ hPc hDc hF) (fun r_43 er_43 => ?_)
      have er_43 : r_43 = (sX7_isBracket f3 kt) := er_43
      refine jx_joini (J := 56) (v := (if r_43 = 0 then (0 : Int32) else (if (sX7_times f3 f4 f8 kt) ≤ rr then (0 : Int32) else (1 : Int32)))) (rest := []) (fun key => ?_) ?_
      · skip
        refine lv_if_eq (tgt := 55) hx hb dX7_look_36 (by decide) (fun c_44 => ?_) (fun c_44 => ?_)
        · skip
          refine lv_iconst (v := 0) hx hb dX7_look_55 (by decide) ?_
          rw [if_pos c_44] at key
          exact key
        · skip
          refine lv_lload hx hb dX7_look_39 (lv_at hl 5 rfl) ?_
          refine lv_aload_n hx hb dX7_look_41 rfl (lv_at hl 0 rfl) ?_
          refine lv_iload hx hb dX7_look_42 (lv_at hl 6 rfl) ?_
          refine jx_pcalll (wc := [(h, .inr (7, (oX7 R I L))), ((R 3), .inl (cI, 160, .inl f3)), ((R 4), .inl (cI, 160, .inl f4)), ((R 8), .inl (cJ, 160, .inr (.inl f8)))]) hP hD hS hA [0, 1, 2, 6] rfl (by decide) (fun hPc hDc hF => jx_runVs (As := [.int kt]) (rest := [.long rr]) (n := 1) (ci := 7) (q0 := 0) hx hb hml hown hts hK hX hS hl.1 (kX7_times l D cI cJ cZ cD tA h R I L f3 f4 f8 kt (ldkI_in hp)) gX7_look_X7_times rfl rfl rfl (by decide +kernel) ⟨Nat.le_of_ble_eq_true rfl, Nat.le_of_ble_eq_true rfl⟩ rfl rfl rfl rfl rfl (Nat.le_of_ble_eq_true rfl) dX7_look_44 ⟨Nat.zero_le _, Nat.zero_le _⟩ hPc hDc hF) (fun r_45 er_45 => ?_)
          have er_45 : r_45 = (sX7_times f3 f4 f8 kt) := er_45
          refine jx_l_ge (tgt := 55) hx hb dX7_look_47 dX7_look_48 (by decide) (fun c_46 => ?_) (fun c_46 => ?_)
          · skip
            refine lv_iconst (v := 0) hx hb dX7_look_55 (by decide) ?_
            have z_ := er_45.symm; clear er_45; subst z_
            rw [if_neg c_44, if_pos c_46] at key
            exact key
          · skip
            refine lv_iconst (v := 1) hx hb dX7_look_51 (by decide) ?_
            refine lv_goto (tgt := 56) hx hb dX7_look_52 (by decide) ?_
            have z_ := er_45.symm; clear er_45; subst z_
            rw [if_neg c_44, if_neg c_46] at key
            exact key
      refine lv_topi (fun v_47 ev_47 => ?_)
      refine lv_istore (lv' := [(9, .int v_47), (0, .ref h), (1, .long a0), (3, .int a1), (4, .int cc_), (5, .int dd), (6, .long rr), (8, .int kt)]) hx hb dX7_look_56 hl (by decide) rfl (fun ls hl => ?_)
      refine lv_iload hx hb dX7_look_58 (lv_at hl 0 rfl) ?_
      refine jx_joini (J := 92) (v := (if v_47 = 0 then (0 : Int32) else (if (f3 kt.toNatClampNeg) = (3 : Int32) then (if rr < (f8 kt.toNatClampNeg) then (0 : Int32) else (1 : Int32)) else (0 : Int32)))) (rest := []) (fun key => ?_) ?_
      · skip
        refine lv_if_eq (tgt := 91) hx hb dX7_look_60 (by decide) (fun c_48 => ?_) (fun c_48 => ?_)
        · skip
          refine lv_iconst (v := 0) hx hb dX7_look_91 (by decide) ?_
          rw [if_pos c_48] at key
          exact key
        · skip
          refine lv_aload_n hx hb dX7_look_63 rfl (lv_at hl 1 rfl) ?_
          refine jx_get (v := .ref (R 3)) hx hb hts iX7_look_7 hown hK hP 0 rfl rfl 3 (by decide) hk13 rfl rfl dX7_look_64 ?_
          refine lv_iload hx hb dX7_look_67 (lv_at hl 7 rfl) ?_
          refine va_iald hx hb hK hP 1 0 rfl rfl (ldkI_in hp) dX7_look_69 ?_
          refine lv_iconst (v := 3) hx hb dX7_look_70 (by decide) ?_
          refine lv_icmp_ne (tgt := 91) hx hb dX7_look_71 (by decide) (fun c_49 => ?_) (fun c_49 => ?_)
          · skip
            refine lv_iconst (v := 0) hx hb dX7_look_91 (by decide) ?_
            rw [if_neg c_48, if_neg c_49] at key
            exact key
          · skip
            refine lv_lload hx hb dX7_look_74 (lv_at hl 6 rfl) ?_
            refine lv_aload_n hx hb dX7_look_76 rfl (lv_at hl 1 rfl) ?_
            refine jx_get (v := .ref (R 8)) hx hb hts iX7_look_7 hown hK hP 0 rfl rfl 8 (by decide) hk28 rfl rfl dX7_look_77 ?_
            refine lv_iload hx hb dX7_look_80 (lv_at hl 7 rfl) ?_
            refine va_lald hx hb hK hP 6 1 rfl rfl (ldkI_in hp) dX7_look_82 ?_
            refine jx_l_lt (tgt := 91) hx hb dX7_look_83 dX7_look_84 (by decide) (fun c_50 => ?_) (fun c_50 => ?_)
            · skip
              refine lv_iconst (v := 0) hx hb dX7_look_91 (by decide) ?_
              rw [if_neg c_48, if_pos c_49, if_pos c_50] at key
              exact key
            · skip
              refine lv_iconst (v := 1) hx hb dX7_look_87 (by decide) ?_
              refine lv_goto (tgt := 92) hx hb dX7_look_88 (by decide) ?_
              rw [if_neg c_48, if_pos c_49, if_neg c_50] at key
              exact key
      refine lv_topi (fun v_51 ev_51 => ?_)
      refine lv_istore (lv' := [(10, .int v_51), (9, .int v_47), (0, .ref h), (1, .long a0), (3, .int a1), (4, .int cc_), (5, .int dd), (6, .long rr), (8, .int kt)]) hx hb dX7_look_92 hl (by decide) rfl (fun ls hl => ?_)
      refine lv_iload hx hb dX7_look_94 (lv_at hl 1 rfl) ?_
      refine lv_if_eq (tgt := 104) hx hb dX7_look_96 (by decide) (fun c_52 => ?_) (fun c_52 => ?_)
      · skip
        refine lv_aload_n hx hb dX7_look_104 rfl (lv_at hl 2 rfl) ?_
        refine jx_get (v := .ref (R 6)) hx hb hts iX7_look_7 hown hK hP 0 rfl rfl 6 (by decide) hk22 rfl rfl dX7_look_105 ?_
        refine lv_iload hx hb dX7_look_108 (lv_at hl 8 rfl) ?_
        refine va_iald hx hb hK hP 4 0 rfl rfl (ldkI_in hp) dX7_look_110 ?_
        refine lv_iconst (v := -1) hx hb dX7_look_111 (by decide) ?_
        refine jx_joini (J := 127) (v := (if (f6 kt.toNatClampNeg) = (-1 : Int32) then cc_ else (f6 kt.toNatClampNeg))) (rest := []) (fun key => ?_) ?_
        · skip
          refine lv_icmp_ne (tgt := 120) hx hb dX7_look_112 (by decide) (fun c_53 => ?_) (fun c_53 => ?_)
          · skip
            refine lv_aload_n hx hb dX7_look_120 rfl (lv_at hl 2 rfl) ?_
            refine jx_get (v := .ref (R 6)) hx hb hts iX7_look_7 hown hK hP 0 rfl rfl 6 (by decide) hk22 rfl rfl dX7_look_121 ?_
            refine lv_iload hx hb dX7_look_124 (lv_at hl 8 rfl) ?_
            refine va_iald hx hb hK hP 4 0 rfl rfl (ldkI_in hp) dX7_look_126 ?_
            rw [if_neg c_53] at key
            exact key
          · skip
            refine lv_iload hx hb dX7_look_115 (lv_at hl 5 rfl) ?_
            refine lv_goto (tgt := 127) hx hb dX7_look_117 (by decide) ?_
            rw [if_pos c_53] at key
            exact key
        refine lv_topi (fun v_54 ev_54 => ?_)
        refine lv_istore (lv' := [(4, .int v_54), (10, .int v_51), (9, .int v_47), (0, .ref h), (1, .long a0), (3, .int a1), (5, .int dd), (6, .long rr), (8, .int kt)]) hx hb dX7_look_127 hl (by decide) rfl (fun ls hl => ?_)
        refine lv_aload_n hx hb dX7_look_129 rfl (lv_at hl 3 rfl) ?_
        refine jx_get (v := .ref (R 7)) hx hb hts iX7_look_7 hown hK hP 0 rfl rfl 7 (by decide) hk25 rfl rfl dX7_look_130 ?_
        refine lv_iload hx hb dX7_look_133 (lv_at hl 8 rfl) ?_
        refine va_iald hx hb hK hP 5 0 rfl rfl (ldkI_in hp) dX7_look_135 ?_
        refine lv_iconst (v := -1) hx hb dX7_look_136 (by decide) ?_
        refine jx_joini (J := 152) (v := (if (f7 kt.toNatClampNeg) = (-1 : Int32) then dd else (f7 kt.toNatClampNeg))) (rest := []) (fun key => ?_) ?_
        · skip
          refine lv_icmp_ne (tgt := 145) hx hb dX7_look_137 (by decide) (fun c_55 => ?_) (fun c_55 => ?_)
          · skip
            refine lv_aload_n hx hb dX7_look_145 rfl (lv_at hl 3 rfl) ?_
            refine jx_get (v := .ref (R 7)) hx hb hts iX7_look_7 hown hK hP 0 rfl rfl 7 (by decide) hk25 rfl rfl dX7_look_146 ?_
            refine lv_iload hx hb dX7_look_149 (lv_at hl 8 rfl) ?_
            refine va_iald hx hb hK hP 5 0 rfl rfl (ldkI_in hp) dX7_look_151 ?_
            rw [if_neg c_55] at key
            exact key
          · skip
            refine lv_iload hx hb dX7_look_140 (lv_at hl 6 rfl) ?_
            refine lv_goto (tgt := 152) hx hb dX7_look_142 (by decide) ?_
            rw [if_pos c_55] at key
            exact key
        refine lv_topi (fun v_56 ev_56 => ?_)
        refine lv_istore (lv' := [(5, .int v_56), (4, .int v_54), (10, .int v_51), (9, .int v_47), (0, .ref h), (1, .long a0), (3, .int a1), (6, .long rr), (8, .int kt)]) hx hb dX7_look_152 hl (by decide) rfl (fun ls hl => ?_)
        refine lv_iload hx hb dX7_look_154 (lv_at hl 3 rfl) ?_
        refine lv_if_ne (tgt := 209) hx hb dX7_look_156 (by decide) (fun c_57 => ?_) (fun c_57 => ?_)
        · skip
          exact absurd c_52 c_57
        · skip
          refine lv_lload hx hb dX7_look_159 (lv_at hl 7 rfl) ?_
          refine lv_aload_n hx hb dX7_look_161 rfl (lv_at hl 4 rfl) ?_
          refine lv_iload hx hb dX7_look_162 (lv_at hl 8 rfl) ?_
          refine jx_pcalli (wc := [(h, .inr (7, (oX7 R I L))), ((R 3), .inl (cI, 160, .inl f3))]) hP hD hS hA [0, 1] rfl (by decide) (fun hPc hDc hF => jx_runVs (As := [.int kt]) (rest := [.long rr]) (n := 1) (ci := 7) (q0 := 0) hx hb hml hown hts hK hX hS hl.1 (kX7_isBracket l D cI cJ cZ cD tA h R I L f3 kt (ldkI_in hp)) gX7_look_X7_isBracket rfl rfl rfl (by decide +kernel) ⟨Nat.le_of_ble_eq_true rfl, Nat.le_of_ble_eq_true rfl⟩ rfl rfl rfl rfl rfl (Nat.le_of_ble_eq_true rfl) dX7_look_164 ⟨Nat.zero_le _, Nat.zero_le _⟩ hPc hDc hF) (fun r_58 er_58 => ?_)
          have er_58 : r_58 = (sX7_isBracket f3 kt) := er_58
          refine jx_joinl (J := 194) (v := (if r_58 = 0 then (if (f3 kt.toNatClampNeg) = 0 then (1 : Int64) else (0 : Int64)) else (sX7_times f3 f4 f8 kt))) (rest := [.long rr]) (fun key => ?_) ?_
          · skip
            refine lv_if_eq (tgt := 179) hx hb dX7_look_167 (by decide) (fun c_59 => ?_) (fun c_59 => ?_)
            · skip
              refine lv_aload_n hx hb dX7_look_179 rfl (lv_at hl 4 rfl) ?_
              refine jx_get (v := .ref (R 3)) hx hb hts iX7_look_7 hown hK hP 0 rfl rfl 3 (by decide) hk13 rfl rfl dX7_look_180 ?_
              refine lv_iload hx hb dX7_look_183 (lv_at hl 8 rfl) ?_
              refine va_iald hx hb hK hP 1 0 rfl rfl (ldkI_in hp) dX7_look_185 ?_
              refine lv_if_ne (tgt := 193) hx hb dX7_look_186 (by decide) (fun c_60 => ?_) (fun c_60 => ?_)
              · skip
                refine lv_lconst (v := 0) hx hb dX7_look_193 (by decide) ?_
                rw [if_pos c_59, if_neg c_60] at key
                exact key
              · skip
                refine lv_lconst (v := 1) hx hb dX7_look_189 (by decide) ?_
                refine lv_goto (tgt := 194) hx hb dX7_look_190 (by decide) ?_
                rw [if_pos c_59, if_pos c_60] at key
                exact key
            · skip
              refine lv_aload_n hx hb dX7_look_170 rfl (lv_at hl 4 rfl) ?_
              refine lv_iload hx hb dX7_look_171 (lv_at hl 8 rfl) ?_
              refine jx_pcalll (wc := [(h, .inr (7, (oX7 R I L))), ((R 3), .inl (cI, 160, .inl f3)), ((R 4), .inl (cI, 160, .inl f4)), ((R 8), .inl (cJ, 160, .inr (.inl f8)))]) hP hD hS hA [0, 1, 2, 6] rfl (by decide) (fun hPc hDc hF => jx_runVs (As := [.int kt]) (rest := [.long rr]) (n := 1) (ci := 7) (q0 := 0) hx hb hml hown hts hK hX hS hl.1 (kX7_times l D cI cJ cZ cD tA h R I L f3 f4 f8 kt (ldkI_in hp)) gX7_look_X7_times rfl rfl rfl (by decide +kernel) ⟨Nat.le_of_ble_eq_true rfl, Nat.le_of_ble_eq_true rfl⟩ rfl rfl rfl rfl rfl (Nat.le_of_ble_eq_true rfl) dX7_look_173 ⟨Nat.zero_le _, Nat.zero_le _⟩ hPc hDc hF) (fun r_61 er_61 => ?_)
              have er_61 : r_61 = (sX7_times f3 f4 f8 kt) := er_61
              refine lv_goto (tgt := 194) hx hb dX7_look_176 (by decide) ?_
              have z_ := er_61.symm; clear er_61; subst z_
              rw [if_neg c_59] at key
              exact key
          refine lv_topl (fun v_62 ev_62 => ?_)
          refine lv_lsub hx hb dX7_look_194 ?_
          refine lv_topl (fun v_63 ev_63 => ?_)
          refine lv_lstore (lv' := [(6, .long v_63), (5, .int v_56), (4, .int v_54), (10, .int v_51), (9, .int v_47), (0, .ref h), (1, .long a0), (3, .int a1), (8, .int kt)]) hx hb dX7_look_195 hl (by decide) rfl (fun ls hl => ?_)
          refine lv_aload_n hx hb dX7_look_197 rfl (lv_at hl 5 rfl) ?_
          refine jx_get (v := .ref (R 5)) hx hb hts iX7_look_7 hown hK hP 0 rfl rfl 5 (by decide) hk19 rfl rfl dX7_look_198 ?_
          refine lv_iload hx hb dX7_look_201 (lv_at hl 8 rfl) ?_
          refine va_iald hx hb hK hP 3 0 rfl rfl (ldkI_in hp) dX7_look_203 ?_
          refine lv_topi (fun v_64 ev_64 => ?_)
          refine lv_istore (lv' := [(8, .int v_64), (6, .long v_63), (5, .int v_56), (4, .int v_54), (10, .int v_51), (9, .int v_47), (0, .ref h), (1, .long a0), (3, .int a1)]) hx hb dX7_look_204 hl (by decide) rfl (fun ls hl => ?_)
          refine lv_goto (tgt := 272) hx hb dX7_look_206 (by decide) ?_
          refine lv_goto (tgt := 13) hx hb dX7_look_272 (by decide) ?_
          exact ih (v_54, v_56, v_63, v_64, nn - 1, ()) _ _ _ ⟨rfl, rfl, lv_sub hl [6, 7, 8, 3, 2, 1, 0] rfl, (show ldkI f3 f4 f5 f6 f7 f8 (ldkF f3 f4 f5 f6 f7 f8 161 (0, 100, a0, 0)) (nn - 1) (v_54, v_56, v_63, v_64) from (by clear hP hD hl; have z_ := ev_64.symm; clear ev_64; subst z_; have z_ := ev_63.symm; clear ev_63; subst z_; have z_ := ev_62.symm; clear ev_62; subst z_; have z_ := er_58.symm; clear er_58; subst z_; have z_ := ev_56.symm; clear ev_56; subst z_; have z_ := ev_54.symm; clear ev_54; subst z_; have z_ := ev_51.symm; clear ev_51; subst z_; have z_ := ev_47.symm; clear ev_47; subst z_; have z_ := er_43.symm; clear er_43; subst z_; exact ldkI_a hp (fun z => c_39 z.2) c_52))⟩ (show (nn - 1) < nn from (by clear hP hD hl; have z_ := ev_64.symm; clear ev_64; subst z_; have z_ := ev_63.symm; clear ev_63; subst z_; have z_ := ev_62.symm; clear ev_62; subst z_; have z_ := er_58.symm; clear er_58; subst z_; have z_ := ev_56.symm; clear ev_56; subst z_; have z_ := ev_54.symm; clear ev_54; subst z_; have z_ := ev_51.symm; clear ev_51; subst z_; have z_ := ev_47.symm; clear ev_47; subst z_; have z_ := er_43.symm; clear er_43; subst z_; exact (ldkI_step hp (fun z => c_39 z.2)).2))
      · skip
        refine lv_iload hx hb dX7_look_99 (lv_at hl 0 rfl) ?_
        refine lv_if_eq (tgt := 154) hx hb dX7_look_101 (by decide) (fun c_65 => ?_) (fun c_65 => ?_)
        · skip
          refine lv_iload hx hb dX7_look_154 (lv_at hl 1 rfl) ?_
          refine lv_if_ne (tgt := 209) hx hb dX7_look_156 (by decide) (fun c_66 => ?_) (fun c_66 => ?_)
          · skip
            refine lv_aload_n hx hb dX7_look_209 rfl (lv_at hl 2 rfl) ?_
            refine jx_get (v := .ref (R 3)) hx hb hts iX7_look_7 hown hK hP 0 rfl rfl 3 (by decide) hk13 rfl rfl dX7_look_210 ?_
            refine lv_iload hx hb dX7_look_213 (lv_at hl 8 rfl) ?_
            refine va_iald hx hb hK hP 1 0 rfl rfl (ldkI_in hp) dX7_look_215 ?_
            refine lv_iconst (v := 3) hx hb dX7_look_216 (by decide) ?_
            refine jx_joinl (J := 267) (v := (if (f3 kt.toNatClampNeg) = (3 : Int32) then (rr - rr / (f8 kt.toNatClampNeg) * (f8 kt.toNatClampNeg)) else (if (f8 kt.toNatClampNeg) ≤ rr then ((((2 : Int64) * (f8 kt.toNatClampNeg)) - (1 : Int64)) - rr) else rr))) (rest := []) (fun key => ?_) ?_
            · skip
              refine lv_icmp_ne (tgt := 233) hx hb dX7_look_217 (by decide) (fun c_67 => ?_) (fun c_67 => ?_)
              · skip
                refine lv_lload hx hb dX7_look_233 (lv_at hl 7 rfl) ?_
                refine lv_aload_n hx hb dX7_look_235 rfl (lv_at hl 2 rfl) ?_
                refine jx_get (v := .ref (R 8)) hx hb hts iX7_look_7 hown hK hP 0 rfl rfl 8 (by decide) hk28 rfl rfl dX7_look_236 ?_
                refine lv_iload hx hb dX7_look_239 (lv_at hl 8 rfl) ?_
                refine va_lald hx hb hK hP 6 1 rfl rfl (ldkI_in hp) dX7_look_241 ?_
                refine jx_l_ge (tgt := 251) hx hb dX7_look_242 dX7_look_243 (by decide) (fun c_68 => ?_) (fun c_68 => ?_)
                · skip
                  refine lv_ldc2 hx hb hown (hts (.constantLong RX7 128 (2)) (by decide +kernel)) dX7_look_251 ?_
                  refine lv_aload_n hx hb dX7_look_254 rfl (lv_at hl 2 rfl) ?_
                  refine jx_get (v := .ref (R 8)) hx hb hts iX7_look_7 hown hK hP 0 rfl rfl 8 (by decide) hk28 rfl rfl dX7_look_255 ?_
                  refine lv_iload hx hb dX7_look_258 (lv_at hl 8 rfl) ?_
                  refine va_lald hx hb hK hP 6 1 rfl rfl (ldkI_in hp) dX7_look_260 ?_
                  refine lv_lmul hx hb dX7_look_261 ?_
                  refine lv_lconst (v := 1) hx hb dX7_look_262 (by decide) ?_
                  refine lv_lsub hx hb dX7_look_263 ?_
                  refine lv_lload hx hb dX7_look_264 (lv_at hl 7 rfl) ?_
                  refine lv_lsub hx hb dX7_look_266 ?_
                  rw [if_neg c_67, if_pos c_68] at key
                  exact key
                · skip
                  refine lv_lload hx hb dX7_look_246 (lv_at hl 7 rfl) ?_
                  refine lv_goto (tgt := 267) hx hb dX7_look_248 (by decide) ?_
                  rw [if_neg c_67, if_neg c_68] at key
                  exact key
              · skip
                refine lv_lload hx hb dX7_look_220 (lv_at hl 7 rfl) ?_
                refine lv_aload_n hx hb dX7_look_222 rfl (lv_at hl 2 rfl) ?_
                refine jx_get (v := .ref (R 8)) hx hb hts iX7_look_7 hown hK hP 0 rfl rfl 8 (by decide) hk28 rfl rfl dX7_look_223 ?_
                refine lv_iload hx hb dX7_look_226 (lv_at hl 8 rfl) ?_
                refine va_lald hx hb hK hP 6 1 rfl rfl (ldkI_in hp) dX7_look_228 ?_
                refine lv_lrem hx hb dX7_look_229 (by clear hP hD hl; have z_ := ev_51.symm; clear ev_51; subst z_; have z_ := ev_47.symm; clear ev_47; subst z_; have z_ := er_43.symm; clear er_43; subst z_; exact ldkI_ne hp (fun z => c_39 z.2) c_52 c_67) ?_
                refine lv_goto (tgt := 267) hx hb dX7_look_230 (by decide) ?_
                rw [if_pos c_67] at key
                exact key
            refine lv_topl (fun v_69 ev_69 => ?_)
            refine lv_lstore (lv' := [(6, .long v_69), (10, .int v_51), (9, .int v_47), (0, .ref h), (1, .long a0), (3, .int a1), (4, .int cc_), (5, .int dd), (8, .int kt)]) hx hb dX7_look_267 hl (by decide) rfl (fun ls hl => ?_)
            obtain ⟨v_70, ev_70⟩ : ∃ y : Int32, y = kt + (1 : Int32) := ⟨_, rfl⟩
            refine lv_iinc (v := v_70) (lv' := [(8, .int v_70), (6, .long v_69), (10, .int v_51), (9, .int v_47), (0, .ref h), (1, .long a0), (3, .int a1), (4, .int cc_), (5, .int dd)]) hx hb dX7_look_269 hl (k := 8) rfl (by rw [ev_70]; rfl) (by decide) rfl (fun ls hl => ?_)
            refine lv_goto (tgt := 13) hx hb dX7_look_272 (by decide) ?_
            exact ih (cc_, dd, v_69, v_70, nn - 1, ()) _ _ _ ⟨rfl, rfl, lv_sub hl [4, 5, 6, 7, 8, 1, 0] rfl, (show ldkI f3 f4 f5 f6 f7 f8 (ldkF f3 f4 f5 f6 f7 f8 161 (0, 100, a0, 0)) (nn - 1) (cc_, dd, v_69, v_70) from (by clear hP hD hl; have z_ := ev_70.symm; clear ev_70; subst z_; have z_ := ev_69.symm; clear ev_69; subst z_; have z_ := ev_51.symm; clear ev_51; subst z_; have z_ := ev_47.symm; clear ev_47; subst z_; have z_ := er_43.symm; clear er_43; subst z_; exact ldkI_b hp (fun z => c_39 z.2) c_52 c_65))⟩ (show (nn - 1) < nn from (by clear hP hD hl; have z_ := ev_70.symm; clear ev_70; subst z_; have z_ := ev_69.symm; clear ev_69; subst z_; have z_ := ev_51.symm; clear ev_51; subst z_; have z_ := ev_47.symm; clear ev_47; subst z_; have z_ := er_43.symm; clear er_43; subst z_; exact (ldkI_step hp (fun z => c_39 z.2)).2))
          · skip
            exact absurd c_66 c_52
        · skip
          refine lv_aload_n hx hb dX7_look_104 rfl (lv_at hl 2 rfl) ?_
          refine jx_get (v := .ref (R 6)) hx hb hts iX7_look_7 hown hK hP 0 rfl rfl 6 (by decide) hk22 rfl rfl dX7_look_105 ?_
          refine lv_iload hx hb dX7_look_108 (lv_at hl 8 rfl) ?_
          refine va_iald hx hb hK hP 4 0 rfl rfl (ldkI_in hp) dX7_look_110 ?_
          refine lv_iconst (v := -1) hx hb dX7_look_111 (by decide) ?_
          refine jx_joini (J := 127) (v := (if (f6 kt.toNatClampNeg) = (-1 : Int32) then cc_ else (f6 kt.toNatClampNeg))) (rest := []) (fun key => ?_) ?_
          · skip
            refine lv_icmp_ne (tgt := 120) hx hb dX7_look_112 (by decide) (fun c_71 => ?_) (fun c_71 => ?_)
            · skip
              refine lv_aload_n hx hb dX7_look_120 rfl (lv_at hl 2 rfl) ?_
              refine jx_get (v := .ref (R 6)) hx hb hts iX7_look_7 hown hK hP 0 rfl rfl 6 (by decide) hk22 rfl rfl dX7_look_121 ?_
              refine lv_iload hx hb dX7_look_124 (lv_at hl 8 rfl) ?_
              refine va_iald hx hb hK hP 4 0 rfl rfl (ldkI_in hp) dX7_look_126 ?_
              rw [if_neg c_71] at key
              exact key
            · skip
              refine lv_iload hx hb dX7_look_115 (lv_at hl 5 rfl) ?_
              refine lv_goto (tgt := 127) hx hb dX7_look_117 (by decide) ?_
              rw [if_pos c_71] at key
              exact key
          refine lv_topi (fun v_72 ev_72 => ?_)
          refine lv_istore (lv' := [(4, .int v_72), (10, .int v_51), (9, .int v_47), (0, .ref h), (1, .long a0), (3, .int a1), (5, .int dd), (6, .long rr), (8, .int kt)]) hx hb dX7_look_127 hl (by decide) rfl (fun ls hl => ?_)
          refine lv_aload_n hx hb dX7_look_129 rfl (lv_at hl 3 rfl) ?_
          refine jx_get (v := .ref (R 7)) hx hb hts iX7_look_7 hown hK hP 0 rfl rfl 7 (by decide) hk25 rfl rfl dX7_look_130 ?_
          refine lv_iload hx hb dX7_look_133 (lv_at hl 8 rfl) ?_
          refine va_iald hx hb hK hP 5 0 rfl rfl (ldkI_in hp) dX7_look_135 ?_
          refine lv_iconst (v := -1) hx hb dX7_look_136 (by decide) ?_
          refine jx_joini (J := 152) (v := (if (f7 kt.toNatClampNeg) = (-1 : Int32) then dd else (f7 kt.toNatClampNeg))) (rest := []) (fun key => ?_) ?_
          · skip
            refine lv_icmp_ne (tgt := 145) hx hb dX7_look_137 (by decide) (fun c_73 => ?_) (fun c_73 => ?_)
            · skip
              refine lv_aload_n hx hb dX7_look_145 rfl (lv_at hl 3 rfl) ?_
              refine jx_get (v := .ref (R 7)) hx hb hts iX7_look_7 hown hK hP 0 rfl rfl 7 (by decide) hk25 rfl rfl dX7_look_146 ?_
              refine lv_iload hx hb dX7_look_149 (lv_at hl 8 rfl) ?_
              refine va_iald hx hb hK hP 5 0 rfl rfl (ldkI_in hp) dX7_look_151 ?_
              rw [if_neg c_73] at key
              exact key
            · skip
              refine lv_iload hx hb dX7_look_140 (lv_at hl 6 rfl) ?_
              refine lv_goto (tgt := 152) hx hb dX7_look_142 (by decide) ?_
              rw [if_pos c_73] at key
              exact key
          refine lv_topi (fun v_74 ev_74 => ?_)
          refine lv_istore (lv' := [(5, .int v_74), (4, .int v_72), (10, .int v_51), (9, .int v_47), (0, .ref h), (1, .long a0), (3, .int a1), (6, .long rr), (8, .int kt)]) hx hb dX7_look_152 hl (by decide) rfl (fun ls hl => ?_)
          refine lv_iload hx hb dX7_look_154 (lv_at hl 3 rfl) ?_
          refine lv_if_ne (tgt := 209) hx hb dX7_look_156 (by decide) (fun c_75 => ?_) (fun c_75 => ?_)
          · skip
            refine lv_aload_n hx hb dX7_look_209 rfl (lv_at hl 4 rfl) ?_
            refine jx_get (v := .ref (R 3)) hx hb hts iX7_look_7 hown hK hP 0 rfl rfl 3 (by decide) hk13 rfl rfl dX7_look_210 ?_
            refine lv_iload hx hb dX7_look_213 (lv_at hl 8 rfl) ?_
            refine va_iald hx hb hK hP 1 0 rfl rfl (ldkI_in hp) dX7_look_215 ?_
            refine lv_iconst (v := 3) hx hb dX7_look_216 (by decide) ?_
            refine jx_joinl (J := 267) (v := (if (f3 kt.toNatClampNeg) = (3 : Int32) then (rr - rr / (f8 kt.toNatClampNeg) * (f8 kt.toNatClampNeg)) else (if (f8 kt.toNatClampNeg) ≤ rr then ((((2 : Int64) * (f8 kt.toNatClampNeg)) - (1 : Int64)) - rr) else rr))) (rest := []) (fun key => ?_) ?_
            · skip
              refine lv_icmp_ne (tgt := 233) hx hb dX7_look_217 (by decide) (fun c_76 => ?_) (fun c_76 => ?_)
              · skip
                refine lv_lload hx hb dX7_look_233 (lv_at hl 7 rfl) ?_
                refine lv_aload_n hx hb dX7_look_235 rfl (lv_at hl 4 rfl) ?_
                refine jx_get (v := .ref (R 8)) hx hb hts iX7_look_7 hown hK hP 0 rfl rfl 8 (by decide) hk28 rfl rfl dX7_look_236 ?_
                refine lv_iload hx hb dX7_look_239 (lv_at hl 8 rfl) ?_
                refine va_lald hx hb hK hP 6 1 rfl rfl (ldkI_in hp) dX7_look_241 ?_
                refine jx_l_ge (tgt := 251) hx hb dX7_look_242 dX7_look_243 (by decide) (fun c_77 => ?_) (fun c_77 => ?_)
                · skip
                  refine lv_ldc2 hx hb hown (hts (.constantLong RX7 128 (2)) (by decide +kernel)) dX7_look_251 ?_
                  refine lv_aload_n hx hb dX7_look_254 rfl (lv_at hl 4 rfl) ?_
                  refine jx_get (v := .ref (R 8)) hx hb hts iX7_look_7 hown hK hP 0 rfl rfl 8 (by decide) hk28 rfl rfl dX7_look_255 ?_
                  refine lv_iload hx hb dX7_look_258 (lv_at hl 8 rfl) ?_
                  refine va_lald hx hb hK hP 6 1 rfl rfl (ldkI_in hp) dX7_look_260 ?_
                  refine lv_lmul hx hb dX7_look_261 ?_
                  refine lv_lconst (v := 1) hx hb dX7_look_262 (by decide) ?_
                  refine lv_lsub hx hb dX7_look_263 ?_
                  refine lv_lload hx hb dX7_look_264 (lv_at hl 7 rfl) ?_
                  refine lv_lsub hx hb dX7_look_266 ?_
                  rw [if_neg c_76, if_pos c_77] at key
                  exact key
                · skip
                  refine lv_lload hx hb dX7_look_246 (lv_at hl 7 rfl) ?_
                  refine lv_goto (tgt := 267) hx hb dX7_look_248 (by decide) ?_
                  rw [if_neg c_76, if_neg c_77] at key
                  exact key
              · skip
                refine lv_lload hx hb dX7_look_220 (lv_at hl 7 rfl) ?_
                refine lv_aload_n hx hb dX7_look_222 rfl (lv_at hl 4 rfl) ?_
                refine jx_get (v := .ref (R 8)) hx hb hts iX7_look_7 hown hK hP 0 rfl rfl 8 (by decide) hk28 rfl rfl dX7_look_223 ?_
                refine lv_iload hx hb dX7_look_226 (lv_at hl 8 rfl) ?_
                refine va_lald hx hb hK hP 6 1 rfl rfl (ldkI_in hp) dX7_look_228 ?_
                refine lv_lrem hx hb dX7_look_229 (by clear hP hD hl; have z_ := ev_74.symm; clear ev_74; subst z_; have z_ := ev_72.symm; clear ev_72; subst z_; have z_ := ev_51.symm; clear ev_51; subst z_; have z_ := ev_47.symm; clear ev_47; subst z_; have z_ := er_43.symm; clear er_43; subst z_; exact ldkI_ne hp (fun z => c_39 z.2) c_52 c_76) ?_
                refine lv_goto (tgt := 267) hx hb dX7_look_230 (by decide) ?_
                rw [if_pos c_76] at key
                exact key
            refine lv_topl (fun v_78 ev_78 => ?_)
            refine lv_lstore (lv' := [(6, .long v_78), (5, .int v_74), (4, .int v_72), (10, .int v_51), (9, .int v_47), (0, .ref h), (1, .long a0), (3, .int a1), (8, .int kt)]) hx hb dX7_look_267 hl (by decide) rfl (fun ls hl => ?_)
            obtain ⟨v_79, ev_79⟩ : ∃ y : Int32, y = kt + (1 : Int32) := ⟨_, rfl⟩
            refine lv_iinc (v := v_79) (lv' := [(8, .int v_79), (6, .long v_78), (5, .int v_74), (4, .int v_72), (10, .int v_51), (9, .int v_47), (0, .ref h), (1, .long a0), (3, .int a1)]) hx hb dX7_look_269 hl (k := 8) rfl (by rw [ev_79]; rfl) (by decide) rfl (fun ls hl => ?_)
            refine lv_goto (tgt := 13) hx hb dX7_look_272 (by decide) ?_
            exact ih (v_72, v_74, v_78, v_79, nn - 1, ()) _ _ _ ⟨rfl, rfl, lv_sub hl [6, 7, 8, 3, 2, 1, 0] rfl, (show ldkI f3 f4 f5 f6 f7 f8 (ldkF f3 f4 f5 f6 f7 f8 161 (0, 100, a0, 0)) (nn - 1) (v_72, v_74, v_78, v_79) from (by clear hP hD hl; have z_ := ev_79.symm; clear ev_79; subst z_; have z_ := ev_78.symm; clear ev_78; subst z_; have z_ := ev_74.symm; clear ev_74; subst z_; have z_ := ev_72.symm; clear ev_72; subst z_; have z_ := ev_51.symm; clear ev_51; subst z_; have z_ := ev_47.symm; clear ev_47; subst z_; have z_ := er_43.symm; clear er_43; subst z_; exact ldkI_c hp (fun z => c_39 z.2) c_52 c_65))⟩ (show (nn - 1) < nn from (by clear hP hD hl; have z_ := ev_79.symm; clear ev_79; subst z_; have z_ := ev_78.symm; clear ev_78; subst z_; have z_ := ev_74.symm; clear ev_74; subst z_; have z_ := ev_72.symm; clear ev_72; subst z_; have z_ := ev_51.symm; clear ev_51; subst z_; have z_ := ev_47.symm; clear ev_47; subst z_; have z_ := er_43.symm; clear er_43; subst z_; exact (ldkI_step hp (fun z => c_39 z.2)).2))
          · skip
            exact absurd c_75 c_52

def sX7_design (I : Nat → Int32) (L : Nat → Int64) (f3 : Nat → Int32) (f4 : Nat → Int32) (f5 : Nat → Int32) (f6 : Nat → Int32) (f7 : Nat → Int32) (f8 : Nat → Int64) (a0 : Int64) (a1 : Int32) : Int32 × (Nat → Int32) := (if a0 < (0 : Int64) then ((-1 : Int32), (upd I 0 (0 : Int32))) else (if (L 10) ≤ a0 then ((-1 : Int32), (upd I 0 (0 : Int32))) else (if a1 < 0 then ((-1 : Int32), (upd I 0 (0 : Int32))) else (if a1 ≤ (2 : Int32) then ((sX7_look f3 f4 f5 f6 f7 f8 a0 a1), (upd I 0 (0 : Int32))) else ((-1 : Int32), (upd I 0 (0 : Int32)))))))
set_option maxRecDepth 20000 in
theorem iX7_design_7 : ∀ w ∈ wsX70, w ∈ wsX7_design := by decide +kernel
set_option maxHeartbeats 4000000 in
set_option maxRecDepth 100000 in
theorem kX7_design (l : Launch) (D : va_G) (cI cJ cZ cD : ClassId) (tA : Nat) (h : Nat) (R : Nat → Nat) (I : Nat → Int32) (L : Nat → Int64) (f3 : Nat → Int32) (f4 : Nat → Int32) (f5 : Nat → Int32) (f6 : Nat → Int32) (f7 : Nat → Int32) (f8 : Nat → Int64) (a0 : Int64) (a1 : Int32) (hlk : 0 ≤ a0.toInt → a0.toInt < (L 10).toInt → ldkOK f3 f4 f5 f6 f7 f8 161 (0, 100, a0, 0)) : jx_M l yX7_design wsX7_design ({ frames := 2, cells := 0, slots := 0, locals := 53 }) D (jT cI cJ cZ cD) tA [.ref h, .long a0, .int a1] [(h, .inr (7, (oX7 R I L))), ((R 3), .inl (cI, 160, .inl f3)), ((R 4), .inl (cI, 160, .inl f4)), ((R 5), .inl (cI, 160, .inl f5)), ((R 6), .inl (cI, 160, .inl f6)), ((R 7), .inl (cI, 160, .inl f7)), ((R 8), .inl (cJ, 160, .inr (.inl f8)))] (jx_Qi D (jT cI cJ cZ cD) (fun r (_ : Unit) => r = (sX7_design I L f3 f4 f5 f6 f7 f8 a0 a1).1) (fun _ => [(h, .inr (7, (oX7 R (sX7_design I L f3 f4 f5 f6 f7 f8 a0 a1).2 L))), ((R 3), .inl (cI, 160, .inl f3)), ((R 4), .inl (cI, 160, .inl f4)), ((R 5), .inl (cI, 160, .inl f5)), ((R 6), .inl (cI, 160, .inl f6)), ((R 7), .inl (cI, 160, .inl f7)), ((R 8), .inl (cJ, 160, .inr (.inl f8)))])) := by
  refine jx_of (cc := cX7_design) (maxL := 4) (ret := (some .int)) (by decide +kernel) rfl (Nat.le_of_ble_eq_true rfl) ?_
  intro p e s m below meth c A ls hx hb hr hlocks hml hown hts hK hP hD hA hS hX hl
  have hl : lv_has ls 4 [(0, .ref h), (1, .long a0), (3, .int a1)] := hl
  have hown : s.vm.findClass RX7 = some m.cls := hown
  have hk74 := hts (.fieldLink RX7 74 "LoomDeskModel" "thrown" "I") (by decide +kernel)
  have hk130 := hts (.fieldLink RX7 130 "LoomDeskModel" "length" "J") (by decide +kernel)
  refine lv_aload_n hx hb dX7_design_0 rfl (lv_at hl 0 rfl) ?_
  refine lv_iconst (v := 0) hx hb dX7_design_1 (by decide) ?_
  refine jx_put (w2 := [(h, .inr (7, (oX7 R (upd I 0 (0 : Int32)) L))), ((R 3), .inl (cI, 160, .inl f3)), ((R 4), .inl (cI, 160, .inl f4)), ((R 5), .inl (cI, 160, .inl f5)), ((R 6), .inl (cI, 160, .inl f6)), ((R 7), .inl (cI, 160, .inl f7)), ((R 8), .inl (cJ, 160, .inr (.inl f8)))]) hx hb hts iX7_design_7 tyX7 tyX7_ok nmX7 hown hK hP hD hS 0 rfl rfl 0 (by decide) hk74 rfl rfl rfl rfl (Nat.le_of_ble_eq_true rfl) dX7_design_2 rfl (fun H locs hP hD hS => ?_)
  refine lv_lload_n hx hb dX7_design_5 rfl (lv_at hl 1 rfl) ?_
  refine lv_lconst (v := 0) hx hb dX7_design_6 (by decide) ?_
  refine jx_l_lt (tgt := 29) hx hb dX7_design_7 dX7_design_8 (by decide) (fun c_1 => ?_) (fun c_1 => ?_)
  · skip
    refine lv_iconst (v := -1) hx hb dX7_design_29 (by decide) ?_
    refine lv_goto (tgt := 39) hx hb dX7_design_30 (by decide) ?_
    have hq : (sX7_design I L f3 f4 f5 f6 f7 f8 a0 a1) = ((-1 : Int32), (upd I 0 (0 : Int32))) := by unfold sX7_design; exact (if_pos c_1)
    exact jx_iret () hx hb hr hlocks hK hP hD hS (by rw [hq]) (by rw [hq]) dX7_design_39
  · skip
    refine lv_lload_n hx hb dX7_design_11 rfl (lv_at hl 1 rfl) ?_
    refine lv_aload_n hx hb dX7_design_12 rfl (lv_at hl 0 rfl) ?_
    refine jx_get (v := .long (L 10)) hx hb hts iX7_design_7 hown hK hP 0 rfl rfl 10 (by decide) hk130 rfl rfl dX7_design_13 ?_
    refine jx_l_ge (tgt := 29) hx hb dX7_design_16 dX7_design_17 (by decide) (fun c_2 => ?_) (fun c_2 => ?_)
    · skip
      refine lv_iconst (v := -1) hx hb dX7_design_29 (by decide) ?_
      refine lv_goto (tgt := 39) hx hb dX7_design_30 (by decide) ?_
      have hq : (sX7_design I L f3 f4 f5 f6 f7 f8 a0 a1) = ((-1 : Int32), (upd I 0 (0 : Int32))) := by unfold sX7_design; exact (if_neg c_1).trans ((if_pos c_2))
      exact jx_iret () hx hb hr hlocks hK hP hD hS (by rw [hq]) (by rw [hq]) dX7_design_39
    · skip
      refine lv_iload_n hx hb dX7_design_20 rfl (lv_at hl 2 rfl) ?_
      refine lv_if_lt (tgt := 29) hx hb dX7_design_21 (by decide) (fun c_3 => ?_) (fun c_3 => ?_)
      · skip
        refine lv_iconst (v := -1) hx hb dX7_design_29 (by decide) ?_
        refine lv_goto (tgt := 39) hx hb dX7_design_30 (by decide) ?_
        have hq : (sX7_design I L f3 f4 f5 f6 f7 f8 a0 a1) = ((-1 : Int32), (upd I 0 (0 : Int32))) := by unfold sX7_design; exact (if_neg c_1).trans ((if_neg c_2).trans ((if_pos c_3)))
        exact jx_iret () hx hb hr hlocks hK hP hD hS (by rw [hq]) (by rw [hq]) dX7_design_39
      · skip
        refine lv_iload_n hx hb dX7_design_24 rfl (lv_at hl 2 rfl) ?_
        refine lv_iconst (v := 2) hx hb dX7_design_25 (by decide) ?_
        refine lv_icmp_le (tgt := 33) hx hb dX7_design_26 (by decide) (fun c_4 => ?_) (fun c_4 => ?_)
        · skip
          refine lv_aload_n hx hb dX7_design_33 rfl (lv_at hl 0 rfl) ?_
          refine lv_lload_n hx hb dX7_design_34 rfl (lv_at hl 1 rfl) ?_
          refine lv_iload_n hx hb dX7_design_35 rfl (lv_at hl 2 rfl) ?_
          refine jx_pcalli (wc := [(h, .inr (7, (oX7 R (upd I 0 (0 : Int32)) L))), ((R 3), .inl (cI, 160, .inl f3)), ((R 4), .inl (cI, 160, .inl f4)), ((R 5), .inl (cI, 160, .inl f5)), ((R 6), .inl (cI, 160, .inl f6)), ((R 7), .inl (cI, 160, .inl f7)), ((R 8), .inl (cJ, 160, .inr (.inl f8)))]) hP hD hS hA [0, 1, 2, 3, 4, 5, 6] rfl (by decide) (fun hPc hDc hF => jx_runVs (As := [.long a0, .int a1]) (rest := []) (n := 2) (ci := 7) (q0 := 0) hx hb hml hown hts hK hX hS hl.1 (kX7_look l D cI cJ cZ cD tA h R (upd I 0 (0 : Int32)) L f3 f4 f5 f6 f7 f8 a0 a1 (hlk (by have z := c_1; rw [Int64.lt_iff_toInt_lt] at z; have : (0 : Int64).toInt = 0 := rfl; omega) (by have z := c_2; rw [Int64.le_iff_toInt_le] at z; omega))) gX7_design_X7_look rfl rfl rfl (by decide +kernel) ⟨Nat.le_of_ble_eq_true rfl, Nat.le_of_ble_eq_true rfl⟩ rfl rfl rfl rfl rfl (Nat.le_of_ble_eq_true rfl) dX7_design_36 ⟨Nat.zero_le _, Nat.zero_le _⟩ hPc hDc hF) (fun r_5 er_5 => ?_)
          have er_5 : r_5 = (sX7_look f3 f4 f5 f6 f7 f8 a0 a1) := er_5
          have hq : (sX7_design I L f3 f4 f5 f6 f7 f8 a0 a1) = (r_5, (upd I 0 (0 : Int32))) := by clear hP hD hl; have z_ := er_5.symm; clear er_5; subst z_; unfold sX7_design; exact (if_neg c_1).trans ((if_neg c_2).trans ((if_neg c_3).trans ((if_pos c_4))))
          exact jx_iret () hx hb hr hlocks hK hP hD hS (by rw [hq]) (by rw [hq]) dX7_design_39
        · skip
          refine lv_iconst (v := -1) hx hb dX7_design_29 (by decide) ?_
          refine lv_goto (tgt := 39) hx hb dX7_design_30 (by decide) ?_
          have hq : (sX7_design I L f3 f4 f5 f6 f7 f8 a0 a1) = ((-1 : Int32), (upd I 0 (0 : Int32))) := by unfold sX7_design; exact (if_neg c_1).trans ((if_neg c_2).trans ((if_neg c_3).trans ((if_neg c_4))))
          exact jx_iret () hx hb hr hlocks hK hP hD hS (by rw [hq]) (by rw [hq]) dX7_design_39

