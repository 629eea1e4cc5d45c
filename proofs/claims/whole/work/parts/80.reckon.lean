theorem ldk_L10 {L M : Nat → Int64} {v : Int64} (h : M = vp_updL L 10 (M 10)) : vp_updL M 10 v = vp_updL L 10 (vp_updL M 10 v 10) := by
  rw [pk_uLs]
  funext j
  by_cases hj : j = 10
  · subst hj; rw [pk_uLs, pk_uLs]
  · rw [pk_uLn hj, pk_uLn hj, h, pk_uLn hj]
set_option maxRecDepth 20000 in
theorem iX7_reckon_7 : ∀ w ∈ wsX70, w ∈ wsX7_reckon := by decide +kernel
set_option maxHeartbeats 4000000 in
set_option maxRecDepth 100000 in
theorem kX7_reckon (l : Launch) (D : va_G) (cI cJ cZ cD : ClassId) (tA : Nat) (h : Nat) (R : Nat → Nat) (I : Nat → Int32) (L : Nat → Int64) (f3 : Nat → Int32) (f4 : Nat → Int32) (f5 : Nat → Int32) (f6 : Nat → Int32) (f7 : Nat → Int32) (f8 : Nat → Int64) (h9 : 0 ≤ (I 9).toInt) (hrk : ldk_rOK f5 (I 9 - 1)) (hrl : ldk_cOK f5 (I 9) 161 0) : jx_M l yX7_reckon wsX7_reckon ({ frames := 1, cells := 0, slots := 0, locals := 23 }) D (jT cI cJ cZ cD) tA [.ref h] [(h, .inr (7, (oX7 R I L))), ((R 3), .inl (cI, 160, .inl f3)), ((R 4), .inl (cI, 160, .inl f4)), ((R 5), .inl (cI, 160, .inl f5)), ((R 6), .inl (cI, 160, .inl f6)), ((R 7), .inl (cI, 160, .inl f7)), ((R 8), .inl (cJ, 160, .inr (.inl f8)))] (jx_Qv D (jT cI cJ cZ cD) (fun (_ : Unit) => True) (fun _ => [(h, .inr (7, (oX7 R I (sX7_reckon I L f3 f4 f5 f6 f7 f8).1))), ((R 3), .inl (cI, 160, .inl f3)), ((R 4), .inl (cI, 160, .inl f4)), ((R 5), .inl (cI, 160, .inl f5)), ((R 6), .inl (cI, 160, .inl ((sX7_reckon I L f3 f4 f5 f6 f7 f8).2.1))), ((R 7), .inl (cI, 160, .inl ((sX7_reckon I L f3 f4 f5 f6 f7 f8).2.2.1))), ((R 8), .inl (cJ, 160, .inr (.inl ((sX7_reckon I L f3 f4 f5 f6 f7 f8).2.2.2))))])) := by
  refine jx_of (cc := cX7_reckon) (maxL := 3) (ret := none) (by decide +kernel) rfl (Nat.le_of_ble_eq_true rfl) ?_
  intro p e s m below meth c A ls hx hb hr hlocks hml hown hts hK hP hD hA hS hX hl
  have hl : lv_has ls 3 [(0, .ref h)] := hl
  have hown : s.vm.findClass RX7 = some m.cls := hown
  have hk13 := hts (.fieldLink RX7 13 "LoomDeskModel" "kind" "[I") (by decide +kernel)
  have hk16 := hts (.fieldLink RX7 16 "LoomDeskModel" "value" "[I") (by decide +kernel)
  have hk19 := hts (.fieldLink RX7 19 "LoomDeskModel" "end" "[I") (by decide +kernel)
  have hk22 := hts (.fieldLink RX7 22 "LoomDeskModel" "carrierOut" "[I") (by decide +kernel)
  have hk25 := hts (.fieldLink RX7 25 "LoomDeskModel" "densityOut" "[I") (by decide +kernel)
  have hk28 := hts (.fieldLink RX7 28 "LoomDeskModel" "picks" "[J") (by decide +kernel)
  have hk130 := hts (.fieldLink RX7 130 "LoomDeskModel" "length" "J") (by decide +kernel)
  have hk134 := hts (.fieldLink RX7 134 "LoomDeskModel" "items" "I") (by decide +kernel)
  refine lv_aload_n hx hb dX7_reckon_0 rfl (lv_at hl 0 rfl) ?_
  refine lv_lconst (v := 0) hx hb dX7_reckon_1 (by decide) ?_
  refine jx_put (w2 := [(h, .inr (7, (oX7 R I (vp_updL L 10 (0 : Int64))))), ((R 3), .inl (cI, 160, .inl f3)), ((R 4), .inl (cI, 160, .inl f4)), ((R 5), .inl (cI, 160, .inl f5)), ((R 6), .inl (cI, 160, .inl f6)), ((R 7), .inl (cI, 160, .inl f7)), ((R 8), .inl (cJ, 160, .inr (.inl f8)))]) hx hb hts iX7_reckon_7 tyX7 tyX7_ok nmX7 hown hK hP hD hS 0 rfl rfl 10 (by decide) hk130 rfl rfl rfl rfl (Nat.le_of_ble_eq_true rfl) dX7_reckon_2 rfl (fun H locs hP hD hS => ?_)
  refine lv_aload_n hx hb dX7_reckon_5 rfl (lv_at hl 0 rfl) ?_
  refine jx_get (v := .int (I 9)) hx hb hts iX7_reckon_7 hown hK hP 0 rfl rfl 9 (by decide) hk134 rfl rfl dX7_reckon_6 ?_
  refine lv_iconst (v := 1) hx hb dX7_reckon_9 (by decide) ?_
  refine lv_isub hx hb dX7_reckon_10 ?_
  refine lv_topi (fun v_1 ev_1 => ?_)
  refine lv_istore_n (lv' := [(1, .int v_1), (0, .ref h)]) hx hb dX7_reckon_11 rfl hl (by decide) rfl (fun ls hl => ?_)
  refine jx_loop (σ := (Int32) × ((Nat → Int32)) × ((Nat → Int32)) × ((Nat → Int64)) × (Nat) × (Unit)) (fun x H locs ls => va_P D vwCl [(h, .inr (7, (oX7 R I (vp_updL L 10 (0 : Int64))))), ((R 3), .inl (cI, 160, .inl f3)), ((R 4), .inl (cI, 160, .inl f4)), ((R 5), .inl (cI, 160, .inl f5)), ((R 6), .inl (cI, 160, .inl x.2.1)), ((R 7), .inl (cI, 160, .inl x.2.2.1)), ((R 8), .inl (cJ, 160, .inr (.inl x.2.2.2.1)))] H ∧ va_D A [(h, .inr (7, (oX7 R I (vp_updL L 10 (0 : Int64))))), ((R 3), .inl (cI, 160, .inl f3)), ((R 4), .inl (cI, 160, .inl f4)), ((R 5), .inl (cI, 160, .inl f5)), ((R 6), .inl (cI, 160, .inl x.2.1)), ((R 7), .inl (cI, 160, .inl x.2.2.1)), ((R 8), .inl (cJ, 160, .inr (.inl x.2.2.2.1)))] ∧ va_S A s.heap H locs ∧ lv_has ls 3 [(0, .ref h), (1, .int x.1)] ∧ (ldk_oI f3 f4 f5 (ldk_oZ I f3 f4 f5 f6 f7 f8) x.2.2.2.2.1 x.1 (x.2.1, x.2.2.1, x.2.2.2.1))) (fun x => x.2.2.2.2.1) (v_1, f6, f7, f8, (I 9).toNatClampNeg + 1, ()) ⟨hP, hD, hS, lv_sub hl [1, 0] rfl, (show ldk_oI f3 f4 f5 (ldk_oZ I f3 f4 f5 f6 f7 f8) ((I 9).toNatClampNeg + 1) v_1 (f6, f7, f8) from (by clear hP hD hl; have z_ := ev_1.symm; clear ev_1; subst z_; exact ⟨rfl, (by rw [ldk_i9 h9]; have e_ : (I 9).toNatClampNeg = (I 9).toInt.toNat := rfl; omega), (by rw [ldk_i9 h9]; omega), hrk⟩))⟩ ?_
  intro x H locs ls hI ihA
  obtain ⟨ko, c6, c7, c8, nA, uxA⟩ := x
  obtain ⟨hP, hD, hS, hl, hpA⟩ := hI
  have hP : va_P D vwCl [(h, .inr (7, (oX7 R I (vp_updL L 10 (0 : Int64))))), ((R 3), .inl (cI, 160, .inl f3)), ((R 4), .inl (cI, 160, .inl f4)), ((R 5), .inl (cI, 160, .inl f5)), ((R 6), .inl (cI, 160, .inl c6)), ((R 7), .inl (cI, 160, .inl c7)), ((R 8), .inl (cJ, 160, .inr (.inl c8)))] H := hP
  have hD : va_D A [(h, .inr (7, (oX7 R I (vp_updL L 10 (0 : Int64))))), ((R 3), .inl (cI, 160, .inl f3)), ((R 4), .inl (cI, 160, .inl f4)), ((R 5), .inl (cI, 160, .inl f5)), ((R 6), .inl (cI, 160, .inl c6)), ((R 7), .inl (cI, 160, .inl c7)), ((R 8), .inl (cJ, 160, .inr (.inl c8)))] := hD
  have hl : lv_has ls 3 [(0, .ref h), (1, .int ko)] := hl
  have hpA : ldk_oI f3 f4 f5 (ldk_oZ I f3 f4 f5 f6 f7 f8) nA ko (c6, c7, c8) := hpA
  refine lv_iload_n hx hb dX7_reckon_12 rfl (lv_at hl 1 rfl) ?_
  refine lv_if_lt (tgt := 212) hx hb dX7_reckon_13 (by decide) (fun c_2 => ?_) (fun c_2 => ?_)
  · skip
    refine lv_iconst (v := 0) hx hb dX7_reckon_212 (by decide) ?_
    refine lv_istore_n (lv' := [(1, .int (0 : Int32)), (0, .ref h)]) hx hb dX7_reckon_213 rfl hl (by decide) rfl (fun ls hl => ?_)
    refine jx_loop (σ := (Int32) × ((Nat → Int64)) × (Nat) × (Unit)) (fun x H locs ls => va_P D vwCl [(h, .inr (7, (oX7 R I x.2.1))), ((R 3), .inl (cI, 160, .inl f3)), ((R 4), .inl (cI, 160, .inl f4)), ((R 5), .inl (cI, 160, .inl f5)), ((R 6), .inl (cI, 160, .inl c6)), ((R 7), .inl (cI, 160, .inl c7)), ((R 8), .inl (cJ, 160, .inr (.inl c8)))] H ∧ va_D A [(h, .inr (7, (oX7 R I x.2.1))), ((R 3), .inl (cI, 160, .inl f3)), ((R 4), .inl (cI, 160, .inl f4)), ((R 5), .inl (cI, 160, .inl f5)), ((R 6), .inl (cI, 160, .inl c6)), ((R 7), .inl (cI, 160, .inl c7)), ((R 8), .inl (cJ, 160, .inr (.inl c8)))] ∧ va_S A s.heap H locs ∧ lv_has ls 3 [(0, .ref h), (1, .int x.1)] ∧ (x.2.1 = vp_updL L 10 (x.2.1 10) ∧ ldk_lI f3 f4 f5 c8 (I 9) (ldk_lF f3 f4 f5 c8 (I 9) 161 0 0) x.2.2.1 x.1 (x.2.1 10))) (fun x => x.2.2.1) ((0 : Int32), (vp_updL L 10 (0 : Int64)), 161, ()) ⟨hP, hD, hS, lv_sub hl [1, 0] rfl, (show (vp_updL L 10 (0 : Int64)) = vp_updL L 10 ((vp_updL L 10 (0 : Int64)) 10) ∧ ldk_lI f3 f4 f5 c8 (I 9) (ldk_lF f3 f4 f5 c8 (I 9) 161 0 0) 161 (0 : Int32) ((vp_updL L 10 (0 : Int64)) 10) from ⟨rfl, rfl, hrl⟩)⟩ ?_
    intro x H locs ls hI ihC
    obtain ⟨jo, M, nC, uxC⟩ := x
    obtain ⟨hP, hD, hS, hl, hpC⟩ := hI
    have hP : va_P D vwCl [(h, .inr (7, (oX7 R I M))), ((R 3), .inl (cI, 160, .inl f3)), ((R 4), .inl (cI, 160, .inl f4)), ((R 5), .inl (cI, 160, .inl f5)), ((R 6), .inl (cI, 160, .inl c6)), ((R 7), .inl (cI, 160, .inl c7)), ((R 8), .inl (cJ, 160, .inr (.inl c8)))] H := hP
    have hD : va_D A [(h, .inr (7, (oX7 R I M))), ((R 3), .inl (cI, 160, .inl f3)), ((R 4), .inl (cI, 160, .inl f4)), ((R 5), .inl (cI, 160, .inl f5)), ((R 6), .inl (cI, 160, .inl c6)), ((R 7), .inl (cI, 160, .inl c7)), ((R 8), .inl (cJ, 160, .inr (.inl c8)))] := hD
    have hl : lv_has ls 3 [(0, .ref h), (1, .int jo)] := hl
    have hpC : M = vp_updL L 10 (M 10) ∧ ldk_lI f3 f4 f5 c8 (I 9) (ldk_lF f3 f4 f5 c8 (I 9) 161 0 0) nC jo (M 10) := hpC
    refine lv_iload_n hx hb dX7_reckon_214 rfl (lv_at hl 1 rfl) ?_
    refine lv_aload_n hx hb dX7_reckon_215 rfl (lv_at hl 0 rfl) ?_
    refine jx_get (v := .int (I 9)) hx hb hts iX7_reckon_7 hown hK hP 0 rfl rfl 9 (by decide) hk134 rfl rfl dX7_reckon_216 ?_
    refine lv_icmp_ge (tgt := 273) hx hb dX7_reckon_219 (by decide) (fun c_3 => ?_) (fun c_3 => ?_)
    · skip
      have hq : (sX7_reckon I L f3 f4 f5 f6 f7 f8) = (M, c6, c7, c8) := (by obtain ⟨q1, q2⟩ := hpC; have q3 := ldk_oI_end hpA c_2; have q4 := ldk_lI_end q2 c_3; unfold sX7_reckon; rw [q3]; dsimp only; rw [q4, ← q1])
      exact jx_vret () hx hb hr hlocks hK hP hD hS (by rw [hq]) trivial dX7_reckon_273
    · skip
      refine lv_aload_n hx hb dX7_reckon_222 rfl (lv_at hl 0 rfl) ?_
      refine lv_aload_n hx hb dX7_reckon_223 rfl (lv_at hl 0 rfl) ?_
      refine jx_get (v := .long (M 10)) hx hb hts iX7_reckon_7 hown hK hP 0 rfl rfl 10 (by decide) hk130 rfl rfl dX7_reckon_224 ?_
      refine lv_aload_n hx hb dX7_reckon_227 rfl (lv_at hl 0 rfl) ?_
      refine lv_iload_n hx hb dX7_reckon_228 rfl (lv_at hl 1 rfl) ?_
      refine jx_pcalli (wc := [(h, .inr (7, (oX7 R I M))), ((R 3), .inl (cI, 160, .inl f3))]) hP hD hS hA [0, 1] rfl (by decide) (fun hPc hDc hF => jx_runVs (As := [.int jo]) (rest := [.long (M 10), .ref h]) (n := 1) (ci := 7) (q0 := 0) hx hb hml hown hts hK hX hS hl.1 (kX7_isBracket l D cI cJ cZ cD tA h R I M f3 jo (ldk_cOK_in hpC.2.2 c_3).1) gX7_reckon_X7_isBracket rfl rfl rfl (by decide +kernel) ⟨Nat.le_of_ble_eq_true rfl, Nat.le_of_ble_eq_true rfl⟩ rfl rfl rfl rfl rfl (Nat.le_of_ble_eq_true rfl) dX7_reckon_229 ⟨Nat.zero_le _, Nat.zero_le _⟩ hPc hDc hF) (fun r_4 er_4 => ?_)
      have er_4 : r_4 = (sX7_isBracket f3 jo) := er_4
      refine jx_joinl (J := 257) (v := (if r_4 = 0 then (if (f3 jo.toNatClampNeg) = 0 then (1 : Int64) else (0 : Int64)) else (sX7_times f3 f4 c8 jo))) (rest := [.long (M 10), .ref h]) (fun key => ?_) ?_
      · skip
        refine lv_if_eq (tgt := 243) hx hb dX7_reckon_232 (by decide) (fun c_5 => ?_) (fun c_5 => ?_)
        · skip
          refine lv_aload_n hx hb dX7_reckon_243 rfl (lv_at hl 0 rfl) ?_
          refine jx_get (v := .ref (R 3)) hx hb hts iX7_reckon_7 hown hK hP 0 rfl rfl 3 (by decide) hk13 rfl rfl dX7_reckon_244 ?_
          refine lv_iload_n hx hb dX7_reckon_247 rfl (lv_at hl 1 rfl) ?_
          refine va_iald hx hb hK hP 1 0 rfl rfl (ldk_cOK_in hpC.2.2 c_3).1 dX7_reckon_248 ?_
          refine lv_if_ne (tgt := 256) hx hb dX7_reckon_249 (by decide) (fun c_6 => ?_) (fun c_6 => ?_)
          · skip
            refine lv_lconst (v := 0) hx hb dX7_reckon_256 (by decide) ?_
            rw [if_pos c_5, if_neg c_6] at key
            exact key
          · skip
            refine lv_lconst (v := 1) hx hb dX7_reckon_252 (by decide) ?_
            refine lv_goto (tgt := 257) hx hb dX7_reckon_253 (by decide) ?_
            rw [if_pos c_5, if_pos c_6] at key
            exact key
        · skip
          refine lv_aload_n hx hb dX7_reckon_235 rfl (lv_at hl 0 rfl) ?_
          refine lv_iload_n hx hb dX7_reckon_236 rfl (lv_at hl 1 rfl) ?_
          refine jx_pcalll (wc := [(h, .inr (7, (oX7 R I M))), ((R 3), .inl (cI, 160, .inl f3)), ((R 4), .inl (cI, 160, .inl f4)), ((R 8), .inl (cJ, 160, .inr (.inl c8)))]) hP hD hS hA [0, 1, 2, 6] rfl (by decide) (fun hPc hDc hF => jx_runVs (As := [.int jo]) (rest := [.long (M 10), .ref h]) (n := 1) (ci := 7) (q0 := 0) hx hb hml hown hts hK hX hS hl.1 (kX7_times l D cI cJ cZ cD tA h R I M f3 f4 c8 jo (ldk_cOK_in hpC.2.2 c_3).1) gX7_reckon_X7_times rfl rfl rfl (by decide +kernel) ⟨Nat.le_of_ble_eq_true rfl, Nat.le_of_ble_eq_true rfl⟩ rfl rfl rfl rfl rfl (Nat.le_of_ble_eq_true rfl) dX7_reckon_237 ⟨Nat.zero_le _, Nat.zero_le _⟩ hPc hDc hF) (fun r_7 er_7 => ?_)
          have er_7 : r_7 = (sX7_times f3 f4 c8 jo) := er_7
          refine lv_goto (tgt := 257) hx hb dX7_reckon_240 (by decide) ?_
          have z_ := er_7.symm; clear er_7; subst z_
          rw [if_neg c_5] at key
          exact key
      refine lv_topl (fun v_8 ev_8 => ?_)
      refine jx_pcalll (wc := []) hP hD hS hA [] rfl (by decide) (fun hPc hDc hF => jx_runSs (As := [.long (M 10), .long v_8]) (rest := [.ref h]) (n := 2) hx hb hml hown hts hK hX hS hl.1 (kX7_sum l D cI cJ cZ cD tA (M 10) v_8) gX7_reckon_X7_sum rfl rfl rfl (by decide +kernel) ⟨Nat.le_of_ble_eq_true rfl, Nat.le_of_ble_eq_true rfl⟩ rfl rfl (Nat.le_of_ble_eq_true rfl) dX7_reckon_257 ⟨Nat.zero_le _, Nat.zero_le _⟩ hPc hDc hF) (fun r_9 er_9 => ?_)
      have er_9 : r_9 = (sX7_sum (M 10) v_8) := er_9
      refine jx_put (w2 := [(h, .inr (7, (oX7 R I (vp_updL M 10 r_9)))), ((R 3), .inl (cI, 160, .inl f3)), ((R 4), .inl (cI, 160, .inl f4)), ((R 5), .inl (cI, 160, .inl f5)), ((R 6), .inl (cI, 160, .inl c6)), ((R 7), .inl (cI, 160, .inl c7)), ((R 8), .inl (cJ, 160, .inr (.inl c8)))]) hx hb hts iX7_reckon_7 tyX7 tyX7_ok nmX7 hown hK hP hD hS 0 rfl rfl 10 (by decide) hk130 rfl rfl rfl rfl (Nat.le_of_ble_eq_true rfl) dX7_reckon_260 rfl (fun H locs hP hD hS => ?_)
      refine lv_aload_n hx hb dX7_reckon_263 rfl (lv_at hl 0 rfl) ?_
      refine jx_get (v := .ref (R 5)) hx hb hts iX7_reckon_7 hown hK hP 0 rfl rfl 5 (by decide) hk19 rfl rfl dX7_reckon_264 ?_
      refine lv_iload_n hx hb dX7_reckon_267 rfl (lv_at hl 1 rfl) ?_
      refine va_iald hx hb hK hP 3 0 rfl rfl (ldk_cOK_in hpC.2.2 c_3).1 dX7_reckon_268 ?_
      refine lv_topi (fun v_10 ev_10 => ?_)
      refine lv_istore_n (lv' := [(1, .int v_10), (0, .ref h)]) hx hb dX7_reckon_269 rfl hl (by decide) rfl (fun ls hl => ?_)
      refine lv_goto (tgt := 214) hx hb dX7_reckon_270 (by decide) ?_
      exact ihC (v_10, (vp_updL M 10 r_9), nC - 1, ()) _ _ _ ⟨hP, hD, hS, lv_sub hl [1, 0] rfl, (show (vp_updL M 10 r_9) = vp_updL L 10 ((vp_updL M 10 r_9) 10) ∧ ldk_lI f3 f4 f5 c8 (I 9) (ldk_lF f3 f4 f5 c8 (I 9) 161 0 0) (nC - 1) v_10 ((vp_updL M 10 r_9) 10) from (by clear hP hD hl; have z_ := ev_10.symm; clear ev_10; subst z_; have z_ := er_9.symm; clear er_9; subst z_; have z_ := ev_8.symm; clear ev_8; subst z_; have z_ := er_4.symm; clear er_4; subst z_; have z_ := ev_1.symm; clear ev_1; subst z_; exact ⟨ldk_L10 hpC.1, (by rw [pk_uLs]; exact ldk_lI_step hpC.2 c_3)⟩))⟩ (show (nC - 1) < nC from (by clear hP hD hl; have z_ := ev_10.symm; clear ev_10; subst z_; have z_ := er_9.symm; clear er_9; subst z_; have z_ := ev_8.symm; clear ev_8; subst z_; have z_ := er_4.symm; clear er_4; subst z_; have z_ := ev_1.symm; clear ev_1; subst z_; exact (ldk_cOK_in hpC.2.2 c_3).2.2))
  · skip
    refine lv_aload_n hx hb dX7_reckon_16 rfl (lv_at hl 0 rfl) ?_
    refine jx_get (v := .ref (R 8)) hx hb hts iX7_reckon_7 hown hK hP 0 rfl rfl 8 (by decide) hk28 rfl rfl dX7_reckon_17 ?_
    refine lv_iload_n hx hb dX7_reckon_20 rfl (lv_at hl 1 rfl) ?_
    refine lv_lconst (v := 0) hx hb dX7_reckon_21 (by decide) ?_
    refine jx_last (w2 := [(h, .inr (7, (oX7 R I (vp_updL L 10 (0 : Int64))))), ((R 3), .inl (cI, 160, .inl f3)), ((R 4), .inl (cI, 160, .inl f4)), ((R 5), .inl (cI, 160, .inl f5)), ((R 6), .inl (cI, 160, .inl c6)), ((R 7), .inl (cI, 160, .inl c7)), ((R 8), .inl (cJ, 160, .inr (.inl (vp_updL c8 ko.toNatClampNeg (0 : Int64)))))]) hx hb hK hP hD hS 6 1 rfl rfl (ldk_oI_in hpA c_2).1 dX7_reckon_22 rfl (fun H locs hP hD hS => ?_)
    refine lv_aload_n hx hb dX7_reckon_23 rfl (lv_at hl 0 rfl) ?_
    refine jx_get (v := .ref (R 6)) hx hb hts iX7_reckon_7 hown hK hP 0 rfl rfl 6 (by decide) hk22 rfl rfl dX7_reckon_24 ?_
    refine lv_iload_n hx hb dX7_reckon_27 rfl (lv_at hl 1 rfl) ?_
    refine lv_aload_n hx hb dX7_reckon_28 rfl (lv_at hl 0 rfl) ?_
    refine jx_get (v := .ref (R 3)) hx hb hts iX7_reckon_7 hown hK hP 0 rfl rfl 3 (by decide) hk13 rfl rfl dX7_reckon_29 ?_
    refine lv_iload_n hx hb dX7_reckon_32 rfl (lv_at hl 1 rfl) ?_
    refine va_iald hx hb hK hP 1 0 rfl rfl (ldk_oI_in hpA c_2).1 dX7_reckon_33 ?_
    refine lv_iconst (v := 1) hx hb dX7_reckon_34 (by decide) ?_
    refine jx_joini (J := 48) (v := (if (f3 ko.toNatClampNeg) = (1 : Int32) then (f4 ko.toNatClampNeg) else (-1 : Int32))) (rest := [.int ko, .ref (R 6)]) (fun key => ?_) ?_
    · skip
      refine lv_icmp_ne (tgt := 47) hx hb dX7_reckon_35 (by decide) (fun c_11 => ?_) (fun c_11 => ?_)
      · skip
        refine lv_iconst (v := -1) hx hb dX7_reckon_47 (by decide) ?_
        rw [if_neg c_11] at key
        exact key
      · skip
        refine lv_aload_n hx hb dX7_reckon_38 rfl (lv_at hl 0 rfl) ?_
        refine jx_get (v := .ref (R 4)) hx hb hts iX7_reckon_7 hown hK hP 0 rfl rfl 4 (by decide) hk16 rfl rfl dX7_reckon_39 ?_
        refine lv_iload_n hx hb dX7_reckon_42 rfl (lv_at hl 1 rfl) ?_
        refine va_iald hx hb hK hP 2 0 rfl rfl (by first | exact (ldk_oI_in hpA c_2).1 | exact (ldk_cOK_in hpB.2 c_11).1) dX7_reckon_43 ?_
        refine lv_goto (tgt := 48) hx hb dX7_reckon_44 (by decide) ?_
        rw [if_pos c_11] at key
        exact key
    refine lv_topi (fun v_12 ev_12 => ?_)
    refine jx_iast (w2 := [(h, .inr (7, (oX7 R I (vp_updL L 10 (0 : Int64))))), ((R 3), .inl (cI, 160, .inl f3)), ((R 4), .inl (cI, 160, .inl f4)), ((R 5), .inl (cI, 160, .inl f5)), ((R 6), .inl (cI, 160, .inl (upd c6 ko.toNatClampNeg v_12))), ((R 7), .inl (cI, 160, .inl c7)), ((R 8), .inl (cJ, 160, .inr (.inl (vp_updL c8 ko.toNatClampNeg (0 : Int64)))))]) hx hb hK hP hD hS 4 0 rfl rfl (ldk_oI_in hpA c_2).1 dX7_reckon_48 rfl (fun H locs hP hD hS => ?_)
    refine lv_aload_n hx hb dX7_reckon_49 rfl (lv_at hl 0 rfl) ?_
    refine jx_get (v := .ref (R 7)) hx hb hts iX7_reckon_7 hown hK hP 0 rfl rfl 7 (by decide) hk25 rfl rfl dX7_reckon_50 ?_
    refine lv_iload_n hx hb dX7_reckon_53 rfl (lv_at hl 1 rfl) ?_
    refine lv_aload_n hx hb dX7_reckon_54 rfl (lv_at hl 0 rfl) ?_
    refine jx_get (v := .ref (R 3)) hx hb hts iX7_reckon_7 hown hK hP 0 rfl rfl 3 (by decide) hk13 rfl rfl dX7_reckon_55 ?_
    refine lv_iload_n hx hb dX7_reckon_58 rfl (lv_at hl 1 rfl) ?_
    refine va_iald hx hb hK hP 1 0 rfl rfl (ldk_oI_in hpA c_2).1 dX7_reckon_59 ?_
    refine lv_iconst (v := 2) hx hb dX7_reckon_60 (by decide) ?_
    refine jx_joini (J := 74) (v := (if (f3 ko.toNatClampNeg) = (2 : Int32) then (f4 ko.toNatClampNeg) else (-1 : Int32))) (rest := [.int ko, .ref (R 7)]) (fun key => ?_) ?_
    · skip
      refine lv_icmp_ne (tgt := 73) hx hb dX7_reckon_61 (by decide) (fun c_13 => ?_) (fun c_13 => ?_)
      · skip
        refine lv_iconst (v := -1) hx hb dX7_reckon_73 (by decide) ?_
        rw [if_neg c_13] at key
        exact key
      · skip
        refine lv_aload_n hx hb dX7_reckon_64 rfl (lv_at hl 0 rfl) ?_
        refine jx_get (v := .ref (R 4)) hx hb hts iX7_reckon_7 hown hK hP 0 rfl rfl 4 (by decide) hk16 rfl rfl dX7_reckon_65 ?_
        refine lv_iload_n hx hb dX7_reckon_68 rfl (lv_at hl 1 rfl) ?_
        refine va_iald hx hb hK hP 2 0 rfl rfl (by first | exact (ldk_oI_in hpA c_2).1 | exact (ldk_cOK_in hpB.2 c_13).1) dX7_reckon_69 ?_
        refine lv_goto (tgt := 74) hx hb dX7_reckon_70 (by decide) ?_
        rw [if_pos c_13] at key
        exact key
    refine lv_topi (fun v_14 ev_14 => ?_)
    refine jx_iast (w2 := [(h, .inr (7, (oX7 R I (vp_updL L 10 (0 : Int64))))), ((R 3), .inl (cI, 160, .inl f3)), ((R 4), .inl (cI, 160, .inl f4)), ((R 5), .inl (cI, 160, .inl f5)), ((R 6), .inl (cI, 160, .inl (upd c6 ko.toNatClampNeg v_12))), ((R 7), .inl (cI, 160, .inl (upd c7 ko.toNatClampNeg v_14))), ((R 8), .inl (cJ, 160, .inr (.inl (vp_updL c8 ko.toNatClampNeg (0 : Int64)))))]) hx hb hK hP hD hS 5 0 rfl rfl (ldk_oI_in hpA c_2).1 dX7_reckon_74 rfl (fun H locs hP hD hS => ?_)
    refine lv_iload_n hx hb dX7_reckon_75 rfl (lv_at hl 1 rfl) ?_
    refine lv_iconst (v := 1) hx hb dX7_reckon_76 (by decide) ?_
    refine lv_iadd hx hb dX7_reckon_77 ?_
    refine lv_topi (fun v_15 ev_15 => ?_)
    refine lv_istore_n (lv' := [(2, .int v_15), (0, .ref h), (1, .int ko)]) hx hb dX7_reckon_78 rfl hl (by decide) rfl (fun ls hl => ?_)
    refine jx_loop (σ := (Int32) × ((Nat → Int32)) × ((Nat → Int32)) × ((Nat → Int64)) × (Nat) × (Unit)) (fun x H locs ls => va_P D vwCl [(h, .inr (7, (oX7 R I (vp_updL L 10 (0 : Int64))))), ((R 3), .inl (cI, 160, .inl f3)), ((R 4), .inl (cI, 160, .inl f4)), ((R 5), .inl (cI, 160, .inl f5)), ((R 6), .inl (cI, 160, .inl x.2.1)), ((R 7), .inl (cI, 160, .inl x.2.2.1)), ((R 8), .inl (cJ, 160, .inr (.inl x.2.2.2.1)))] H ∧ va_D A [(h, .inr (7, (oX7 R I (vp_updL L 10 (0 : Int64))))), ((R 3), .inl (cI, 160, .inl f3)), ((R 4), .inl (cI, 160, .inl f4)), ((R 5), .inl (cI, 160, .inl f5)), ((R 6), .inl (cI, 160, .inl x.2.1)), ((R 7), .inl (cI, 160, .inl x.2.2.1)), ((R 8), .inl (cJ, 160, .inr (.inl x.2.2.2.1)))] ∧ va_S A s.heap H locs ∧ lv_has ls 3 [(0, .ref h), (1, .int ko), (2, .int x.1)] ∧ (ldk_kI f3 f4 f5 ko (ldk_kF f3 f4 f5 ko 161 (ko + 1) (ldk_k0 f3 f4 ko (c6, c7, c8))) x.2.2.2.2.1 x.1 (x.2.1, x.2.2.1, x.2.2.2.1))) (fun x => x.2.2.2.2.1) (v_15, (upd c6 ko.toNatClampNeg v_12), (upd c7 ko.toNatClampNeg v_14), (vp_updL c8 ko.toNatClampNeg (0 : Int64)), 161, ()) ⟨hP, hD, hS, lv_sub hl [1, 2, 0] rfl, (show ldk_kI f3 f4 f5 ko (ldk_kF f3 f4 f5 ko 161 (ko + 1) (ldk_k0 f3 f4 ko (c6, c7, c8))) 161 v_15 ((upd c6 ko.toNatClampNeg v_12), (upd c7 ko.toNatClampNeg v_14), (vp_updL c8 ko.toNatClampNeg (0 : Int64))) from (by clear hP hD hl; have z_ := ev_15.symm; clear ev_15; subst z_; have z_ := ev_14.symm; clear ev_14; subst z_; have z_ := ev_12.symm; clear ev_12; subst z_; have z_ := ev_1.symm; clear ev_1; subst z_; exact ⟨rfl, (ldk_oI_in hpA c_2).2⟩))⟩ ?_
    intro x H locs ls hI ihB
    obtain ⟨io, e6, e7, e8, nB, uxB⟩ := x
    obtain ⟨hP, hD, hS, hl, hpB⟩ := hI
    have hP : va_P D vwCl [(h, .inr (7, (oX7 R I (vp_updL L 10 (0 : Int64))))), ((R 3), .inl (cI, 160, .inl f3)), ((R 4), .inl (cI, 160, .inl f4)), ((R 5), .inl (cI, 160, .inl f5)), ((R 6), .inl (cI, 160, .inl e6)), ((R 7), .inl (cI, 160, .inl e7)), ((R 8), .inl (cJ, 160, .inr (.inl e8)))] H := hP
    have hD : va_D A [(h, .inr (7, (oX7 R I (vp_updL L 10 (0 : Int64))))), ((R 3), .inl (cI, 160, .inl f3)), ((R 4), .inl (cI, 160, .inl f4)), ((R 5), .inl (cI, 160, .inl f5)), ((R 6), .inl (cI, 160, .inl e6)), ((R 7), .inl (cI, 160, .inl e7)), ((R 8), .inl (cJ, 160, .inr (.inl e8)))] := hD
    have hl : lv_has ls 3 [(0, .ref h), (1, .int ko), (2, .int io)] := hl
    have hpB : ldk_kI f3 f4 f5 ko (ldk_kF f3 f4 f5 ko 161 (ko + 1) (ldk_k0 f3 f4 ko (c6, c7, c8))) nB io (e6, e7, e8) := hpB
    refine lv_iload_n hx hb dX7_reckon_79 rfl (lv_at hl 2 rfl) ?_
    refine lv_aload_n hx hb dX7_reckon_80 rfl (lv_at hl 0 rfl) ?_
    refine jx_get (v := .ref (R 5)) hx hb hts iX7_reckon_7 hown hK hP 0 rfl rfl 5 (by decide) hk19 rfl rfl dX7_reckon_81 ?_
    refine lv_iload_n hx hb dX7_reckon_84 rfl (lv_at hl 1 rfl) ?_
    refine va_iald hx hb hK hP 3 0 rfl rfl (ldk_oI_in hpA c_2).1 dX7_reckon_85 ?_
    refine lv_icmp_ge (tgt := 206) hx hb dX7_reckon_86 (by decide) (fun c_16 => ?_) (fun c_16 => ?_)
    · skip
      obtain ⟨v_17, ev_17⟩ : ∃ y : Int32, y = ko + (-1 : Int32) := ⟨_, rfl⟩
      refine lv_iinc (v := v_17) (lv' := [(1, .int v_17), (0, .ref h), (2, .int io)]) hx hb dX7_reckon_206 hl (k := 1) rfl (by rw [ev_17]; rfl) (by decide) rfl (fun ls hl => ?_)
      refine lv_goto (tgt := 12) hx hb dX7_reckon_209 (by decide) ?_
      exact ihA (v_17, e6, e7, e8, nA - 1, ()) _ _ _ ⟨hP, hD, hS, lv_sub hl [1, 0] rfl, (show ldk_oI f3 f4 f5 (ldk_oZ I f3 f4 f5 f6 f7 f8) (nA - 1) v_17 (e6, e7, e8) from (by clear hP hD hl; have z_ := ev_17.symm; clear ev_17; subst z_; have z_ := ev_15.symm; clear ev_15; subst z_; have z_ := ev_14.symm; clear ev_14; subst z_; have z_ := ev_12.symm; clear ev_12; subst z_; have z_ := ev_1.symm; clear ev_1; subst z_; exact (ldk_oI_step hpA c_2 (ldk_kI_end hpB c_16)).1))⟩ (show (nA - 1) < nA from (by clear hP hD hl; have z_ := ev_17.symm; clear ev_17; subst z_; have z_ := ev_15.symm; clear ev_15; subst z_; have z_ := ev_14.symm; clear ev_14; subst z_; have z_ := ev_12.symm; clear ev_12; subst z_; have z_ := ev_1.symm; clear ev_1; subst z_; exact (ldk_oI_step hpA c_2 (ldk_kI_end hpB c_16)).2))
    · skip
      refine lv_aload_n hx hb dX7_reckon_89 rfl (lv_at hl 0 rfl) ?_
      refine jx_get (v := .ref (R 8)) hx hb hts iX7_reckon_7 hown hK hP 0 rfl rfl 8 (by decide) hk28 rfl rfl dX7_reckon_90 ?_
      refine lv_iload_n hx hb dX7_reckon_93 rfl (lv_at hl 1 rfl) ?_
      refine lv_aload_n hx hb dX7_reckon_94 rfl (lv_at hl 0 rfl) ?_
      refine jx_get (v := .ref (R 8)) hx hb hts iX7_reckon_7 hown hK hP 0 rfl rfl 8 (by decide) hk28 rfl rfl dX7_reckon_95 ?_
      refine lv_iload_n hx hb dX7_reckon_98 rfl (lv_at hl 1 rfl) ?_
      refine va_lald hx hb hK hP 6 1 rfl rfl (by first | exact (ldk_oI_in hpA c_2).1 | exact (ldk_cOK_in hpB.2 c_16).1) dX7_reckon_99 ?_
      refine lv_aload_n hx hb dX7_reckon_100 rfl (lv_at hl 0 rfl) ?_
      refine lv_iload_n hx hb dX7_reckon_101 rfl (lv_at hl 2 rfl) ?_
      refine jx_pcalli (wc := [(h, .inr (7, (oX7 R I (vp_updL L 10 (0 : Int64))))), ((R 3), .inl (cI, 160, .inl f3))]) hP hD hS hA [0, 1] rfl (by decide) (fun hPc hDc hF => jx_runVs (As := [.int io]) (rest := [.long (e8 ko.toNatClampNeg), .int ko, .ref (R 8)]) (n := 1) (ci := 7) (q0 := 0) hx hb hml hown hts hK hX hS hl.1 (kX7_isBracket l D cI cJ cZ cD tA h R I (vp_updL L 10 (0 : Int64)) f3 io (ldk_cOK_in hpB.2 c_16).1) gX7_reckon_X7_isBracket rfl rfl rfl (by decide +kernel) ⟨Nat.le_of_ble_eq_true rfl, Nat.le_of_ble_eq_true rfl⟩ rfl rfl rfl rfl rfl (Nat.le_of_ble_eq_true rfl) dX7_reckon_102 ⟨Nat.zero_le _, Nat.zero_le _⟩ hPc hDc hF) (fun r_18 er_18 => ?_)
      have er_18 : r_18 = (sX7_isBracket f3 io) := er_18
      refine jx_joinl (J := 130) (v := (if r_18 = 0 then (if (f3 io.toNatClampNeg) = 0 then (1 : Int64) else (0 : Int64)) else (sX7_times f3 f4 e8 io))) (rest := [.long (e8 ko.toNatClampNeg), .int ko, .ref (R 8)]) (fun key => ?_) ?_
      · skip
        refine lv_if_eq (tgt := 116) hx hb dX7_reckon_105 (by decide) (fun c_19 => ?_) (fun c_19 => ?_)
        · skip
          refine lv_aload_n hx hb dX7_reckon_116 rfl (lv_at hl 0 rfl) ?_
          refine jx_get (v := .ref (R 3)) hx hb hts iX7_reckon_7 hown hK hP 0 rfl rfl 3 (by decide) hk13 rfl rfl dX7_reckon_117 ?_
          refine lv_iload_n hx hb dX7_reckon_120 rfl (lv_at hl 2 rfl) ?_
          refine va_iald hx hb hK hP 1 0 rfl rfl (by first | exact (ldk_oI_in hpA c_2).1 | exact (ldk_cOK_in hpB.2 c_16).1) dX7_reckon_121 ?_
          refine lv_if_ne (tgt := 129) hx hb dX7_reckon_122 (by decide) (fun c_20 => ?_) (fun c_20 => ?_)
          · skip
            refine lv_lconst (v := 0) hx hb dX7_reckon_129 (by decide) ?_
            rw [if_pos c_19, if_neg c_20] at key
            exact key
          · skip
            refine lv_lconst (v := 1) hx hb dX7_reckon_125 (by decide) ?_
            refine lv_goto (tgt := 130) hx hb dX7_reckon_126 (by decide) ?_
            rw [if_pos c_19, if_pos c_20] at key
            exact key
        · skip
          refine lv_aload_n hx hb dX7_reckon_108 rfl (lv_at hl 0 rfl) ?_
          refine lv_iload_n hx hb dX7_reckon_109 rfl (lv_at hl 2 rfl) ?_
          refine jx_pcalll (wc := [(h, .inr (7, (oX7 R I (vp_updL L 10 (0 : Int64))))), ((R 3), .inl (cI, 160, .inl f3)), ((R 4), .inl (cI, 160, .inl f4)), ((R 8), .inl (cJ, 160, .inr (.inl e8)))]) hP hD hS hA [0, 1, 2, 6] rfl (by decide) (fun hPc hDc hF => jx_runVs (As := [.int io]) (rest := [.long (e8 ko.toNatClampNeg), .int ko, .ref (R 8)]) (n := 1) (ci := 7) (q0 := 0) hx hb hml hown hts hK hX hS hl.1 (kX7_times l D cI cJ cZ cD tA h R I (vp_updL L 10 (0 : Int64)) f3 f4 e8 io (ldk_cOK_in hpB.2 c_16).1) gX7_reckon_X7_times rfl rfl rfl (by decide +kernel) ⟨Nat.le_of_ble_eq_true rfl, Nat.le_of_ble_eq_true rfl⟩ rfl rfl rfl rfl rfl (Nat.le_of_ble_eq_true rfl) dX7_reckon_110 ⟨Nat.zero_le _, Nat.zero_le _⟩ hPc hDc hF) (fun r_21 er_21 => ?_)
          have er_21 : r_21 = (sX7_times f3 f4 e8 io) := er_21
          refine lv_goto (tgt := 130) hx hb dX7_reckon_113 (by decide) ?_
          have z_ := er_21.symm; clear er_21; subst z_
          rw [if_neg c_19] at key
          exact key
      refine lv_topl (fun v_22 ev_22 => ?_)
      refine jx_pcalll (wc := []) hP hD hS hA [] rfl (by decide) (fun hPc hDc hF => jx_runSs (As := [.long (e8 ko.toNatClampNeg), .long v_22]) (rest := [.int ko, .ref (R 8)]) (n := 2) hx hb hml hown hts hK hX hS hl.1 (kX7_sum l D cI cJ cZ cD tA (e8 ko.toNatClampNeg) v_22) gX7_reckon_X7_sum rfl rfl rfl (by decide +kernel) ⟨Nat.le_of_ble_eq_true rfl, Nat.le_of_ble_eq_true rfl⟩ rfl rfl (Nat.le_of_ble_eq_true rfl) dX7_reckon_130 ⟨Nat.zero_le _, Nat.zero_le _⟩ hPc hDc hF) (fun r_23 er_23 => ?_)
      have er_23 : r_23 = (sX7_sum (e8 ko.toNatClampNeg) v_22) := er_23
      refine jx_last (w2 := [(h, .inr (7, (oX7 R I (vp_updL L 10 (0 : Int64))))), ((R 3), .inl (cI, 160, .inl f3)), ((R 4), .inl (cI, 160, .inl f4)), ((R 5), .inl (cI, 160, .inl f5)), ((R 6), .inl (cI, 160, .inl e6)), ((R 7), .inl (cI, 160, .inl e7)), ((R 8), .inl (cJ, 160, .inr (.inl (vp_updL e8 ko.toNatClampNeg r_23))))]) hx hb hK hP hD hS 6 1 rfl rfl (by first | exact (ldk_oI_in hpA c_2).1 | exact (ldk_cOK_in hpB.2 c_16).1) dX7_reckon_133 rfl (fun H locs hP hD hS => ?_)
      refine lv_aload_n hx hb dX7_reckon_134 rfl (lv_at hl 0 rfl) ?_
      refine jx_get (v := .ref (R 6)) hx hb hts iX7_reckon_7 hown hK hP 0 rfl rfl 6 (by decide) hk22 rfl rfl dX7_reckon_135 ?_
      refine lv_iload_n hx hb dX7_reckon_138 rfl (lv_at hl 1 rfl) ?_
      refine lv_aload_n hx hb dX7_reckon_139 rfl (lv_at hl 0 rfl) ?_
      refine jx_get (v := .ref (R 6)) hx hb hts iX7_reckon_7 hown hK hP 0 rfl rfl 6 (by decide) hk22 rfl rfl dX7_reckon_140 ?_
      refine lv_iload_n hx hb dX7_reckon_143 rfl (lv_at hl 2 rfl) ?_
      refine va_iald hx hb hK hP 4 0 rfl rfl (by first | exact (ldk_oI_in hpA c_2).1 | exact (ldk_cOK_in hpB.2 c_16).1) dX7_reckon_144 ?_
      refine lv_iconst (v := -1) hx hb dX7_reckon_145 (by decide) ?_
      refine jx_joini (J := 164) (v := (if (e6 io.toNatClampNeg) = (-1 : Int32) then (e6 ko.toNatClampNeg) else (e6 io.toNatClampNeg))) (rest := [.int ko, .ref (R 6)]) (fun key => ?_) ?_
      · skip
        refine lv_icmp_ne (tgt := 158) hx hb dX7_reckon_146 (by decide) (fun c_24 => ?_) (fun c_24 => ?_)
        · skip
          refine lv_aload_n hx hb dX7_reckon_158 rfl (lv_at hl 0 rfl) ?_
          refine jx_get (v := .ref (R 6)) hx hb hts iX7_reckon_7 hown hK hP 0 rfl rfl 6 (by decide) hk22 rfl rfl dX7_reckon_159 ?_
          refine lv_iload_n hx hb dX7_reckon_162 rfl (lv_at hl 2 rfl) ?_
          refine va_iald hx hb hK hP 4 0 rfl rfl (by first | exact (ldk_oI_in hpA c_2).1 | exact (ldk_cOK_in hpB.2 c_16).1) dX7_reckon_163 ?_
          rw [if_neg c_24] at key
          exact key
        · skip
          refine lv_aload_n hx hb dX7_reckon_149 rfl (lv_at hl 0 rfl) ?_
          refine jx_get (v := .ref (R 6)) hx hb hts iX7_reckon_7 hown hK hP 0 rfl rfl 6 (by decide) hk22 rfl rfl dX7_reckon_150 ?_
          refine lv_iload_n hx hb dX7_reckon_153 rfl (lv_at hl 1 rfl) ?_
          refine va_iald hx hb hK hP 4 0 rfl rfl (by first | exact (ldk_oI_in hpA c_2).1 | exact (ldk_cOK_in hpB.2 c_16).1) dX7_reckon_154 ?_
          refine lv_goto (tgt := 164) hx hb dX7_reckon_155 (by decide) ?_
          rw [if_pos c_24] at key
          exact key
      refine lv_topi (fun v_25 ev_25 => ?_)
      refine jx_iast (w2 := [(h, .inr (7, (oX7 R I (vp_updL L 10 (0 : Int64))))), ((R 3), .inl (cI, 160, .inl f3)), ((R 4), .inl (cI, 160, .inl f4)), ((R 5), .inl (cI, 160, .inl f5)), ((R 6), .inl (cI, 160, .inl (upd e6 ko.toNatClampNeg v_25))), ((R 7), .inl (cI, 160, .inl e7)), ((R 8), .inl (cJ, 160, .inr (.inl (vp_updL e8 ko.toNatClampNeg r_23))))]) hx hb hK hP hD hS 4 0 rfl rfl (by first | exact (ldk_oI_in hpA c_2).1 | exact (ldk_cOK_in hpB.2 c_16).1) dX7_reckon_164 rfl (fun H locs hP hD hS => ?_)
      refine lv_aload_n hx hb dX7_reckon_165 rfl (lv_at hl 0 rfl) ?_
      refine jx_get (v := .ref (R 7)) hx hb hts iX7_reckon_7 hown hK hP 0 rfl rfl 7 (by decide) hk25 rfl rfl dX7_reckon_166 ?_
      refine lv_iload_n hx hb dX7_reckon_169 rfl (lv_at hl 1 rfl) ?_
      refine lv_aload_n hx hb dX7_reckon_170 rfl (lv_at hl 0 rfl) ?_
      refine jx_get (v := .ref (R 7)) hx hb hts iX7_reckon_7 hown hK hP 0 rfl rfl 7 (by decide) hk25 rfl rfl dX7_reckon_171 ?_
      refine lv_iload_n hx hb dX7_reckon_174 rfl (lv_at hl 2 rfl) ?_
      refine va_iald hx hb hK hP 5 0 rfl rfl (by first | exact (ldk_oI_in hpA c_2).1 | exact (ldk_cOK_in hpB.2 c_16).1) dX7_reckon_175 ?_
      refine lv_iconst (v := -1) hx hb dX7_reckon_176 (by decide) ?_
      refine jx_joini (J := 195) (v := (if (e7 io.toNatClampNeg) = (-1 : Int32) then (e7 ko.toNatClampNeg) else (e7 io.toNatClampNeg))) (rest := [.int ko, .ref (R 7)]) (fun key => ?_) ?_
      · skip
        refine lv_icmp_ne (tgt := 189) hx hb dX7_reckon_177 (by decide) (fun c_26 => ?_) (fun c_26 => ?_)
        · skip
          refine lv_aload_n hx hb dX7_reckon_189 rfl (lv_at hl 0 rfl) ?_
          refine jx_get (v := .ref (R 7)) hx hb hts iX7_reckon_7 hown hK hP 0 rfl rfl 7 (by decide) hk25 rfl rfl dX7_reckon_190 ?_
          refine lv_iload_n hx hb dX7_reckon_193 rfl (lv_at hl 2 rfl) ?_
          refine va_iald hx hb hK hP 5 0 rfl rfl (by first | exact (ldk_oI_in hpA c_2).1 | exact (ldk_cOK_in hpB.2 c_16).1) dX7_reckon_194 ?_
          rw [if_neg c_26] at key
          exact key
        · skip
          refine lv_aload_n hx hb dX7_reckon_180 rfl (lv_at hl 0 rfl) ?_
          refine jx_get (v := .ref (R 7)) hx hb hts iX7_reckon_7 hown hK hP 0 rfl rfl 7 (by decide) hk25 rfl rfl dX7_reckon_181 ?_
          refine lv_iload_n hx hb dX7_reckon_184 rfl (lv_at hl 1 rfl) ?_
          refine va_iald hx hb hK hP 5 0 rfl rfl (by first | exact (ldk_oI_in hpA c_2).1 | exact (ldk_cOK_in hpB.2 c_16).1) dX7_reckon_185 ?_
          refine lv_goto (tgt := 195) hx hb dX7_reckon_186 (by decide) ?_
          rw [if_pos c_26] at key
          exact key
      refine lv_topi (fun v_27 ev_27 => ?_)
      refine jx_iast (w2 := [(h, .inr (7, (oX7 R I (vp_updL L 10 (0 : Int64))))), ((R 3), .inl (cI, 160, .inl f3)), ((R 4), .inl (cI, 160, .inl f4)), ((R 5), .inl (cI, 160, .inl f5)), ((R 6), .inl (cI, 160, .inl (upd e6 ko.toNatClampNeg v_25))), ((R 7), .inl (cI, 160, .inl (upd e7 ko.toNatClampNeg v_27))), ((R 8), .inl (cJ, 160, .inr (.inl (vp_updL e8 ko.toNatClampNeg r_23))))]) hx hb hK hP hD hS 5 0 rfl rfl (by first | exact (ldk_oI_in hpA c_2).1 | exact (ldk_cOK_in hpB.2 c_16).1) dX7_reckon_195 rfl (fun H locs hP hD hS => ?_)
      refine lv_aload_n hx hb dX7_reckon_196 rfl (lv_at hl 0 rfl) ?_
      refine jx_get (v := .ref (R 5)) hx hb hts iX7_reckon_7 hown hK hP 0 rfl rfl 5 (by decide) hk19 rfl rfl dX7_reckon_197 ?_
      refine lv_iload_n hx hb dX7_reckon_200 rfl (lv_at hl 2 rfl) ?_
      refine va_iald hx hb hK hP 3 0 rfl rfl (by first | exact (ldk_oI_in hpA c_2).1 | exact (ldk_cOK_in hpB.2 c_16).1) dX7_reckon_201 ?_
      refine lv_topi (fun v_28 ev_28 => ?_)
      refine lv_istore_n (lv' := [(2, .int v_28), (0, .ref h), (1, .int ko)]) hx hb dX7_reckon_202 rfl hl (by decide) rfl (fun ls hl => ?_)
      refine lv_goto (tgt := 79) hx hb dX7_reckon_203 (by decide) ?_
      exact ihB (v_28, (upd e6 ko.toNatClampNeg v_25), (upd e7 ko.toNatClampNeg v_27), (vp_updL e8 ko.toNatClampNeg r_23), nB - 1, ()) _ _ _ ⟨hP, hD, hS, lv_sub hl [1, 2, 0] rfl, (show ldk_kI f3 f4 f5 ko (ldk_kF f3 f4 f5 ko 161 (ko + 1) (ldk_k0 f3 f4 ko (c6, c7, c8))) (nB - 1) v_28 ((upd e6 ko.toNatClampNeg v_25), (upd e7 ko.toNatClampNeg v_27), (vp_updL e8 ko.toNatClampNeg r_23)) from (by clear hP hD hl; have z_ := ev_28.symm; clear ev_28; subst z_; have z_ := ev_27.symm; clear ev_27; subst z_; have z_ := ev_25.symm; clear ev_25; subst z_; have z_ := er_23.symm; clear er_23; subst z_; have z_ := ev_22.symm; clear ev_22; subst z_; have z_ := er_18.symm; clear er_18; subst z_; have z_ := ev_15.symm; clear ev_15; subst z_; have z_ := ev_14.symm; clear ev_14; subst z_; have z_ := ev_12.symm; clear ev_12; subst z_; have z_ := ev_1.symm; clear ev_1; subst z_; exact ldk_kI_step hpB c_16))⟩ (show (nB - 1) < nB from (by clear hP hD hl; have z_ := ev_28.symm; clear ev_28; subst z_; have z_ := ev_27.symm; clear ev_27; subst z_; have z_ := ev_25.symm; clear ev_25; subst z_; have z_ := er_23.symm; clear er_23; subst z_; have z_ := ev_22.symm; clear ev_22; subst z_; have z_ := er_18.symm; clear er_18; subst z_; have z_ := ev_15.symm; clear ev_15; subst z_; have z_ := ev_14.symm; clear ev_14; subst z_; have z_ := ev_12.symm; clear ev_12; subst z_; have z_ := ev_1.symm; clear ev_1; subst z_; exact (ldk_cOK_in hpB.2 c_16).2.2))

