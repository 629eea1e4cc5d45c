def ldk_st (I : Nat → Int32) : Int32 := if I 21 = 0 then (1 : Int32) else (if I 20 = 0 then (1 : Int32) else (0 : Int32))
def ldk_bd (a0 : UInt64) : Int32 := if Op.cmpValue (FP.dcmp a0 FP.dconst0) .l < 0 then (1 : Int32) else (if Op.cmpValue (FP.dcmp a0 (4660134898793709568 : UInt64)) .g ≤ 0 then (0 : Int32) else (1 : Int32))
def ldk_th (I : Nat → Int32) (a0 : UInt64) : Int32 := if ldk_st I = 0 then (if ldk_bd a0 = 0 then (0 : Int32) else (2 : Int32)) else (1 : Int32)
def ldk_r0 (a0 : UInt64) : Int32 := FP.d2i (FP.dmul a0 (4620693217682128896 : UInt64)) * 2
def ldk_tZ (I : Nat → Int32) (L : Nat → Int64) (f3 f4 f5 f6 f7 : Nat → Int32) (f8 : Nat → Int64) (f35 f36 f37 f39 f40 : Nat → Int32) (f41 : Nat → Int64) (a0 : UInt64) : Int32 × Int32 × LdkT := ldk_tF f3 f4 f5 f6 f7 f8 ((ldk_r0 a0).toNatClampNeg + 1) (ldk_r0 a0) 0 (upd I 0 (ldk_th I a0), L, f35, f36, f37, f39, f40, f41)
def sX7_turn (I : Nat → Int32) (L : Nat → Int64) (f3 f4 f5 f6 f7 : Nat → Int32) (f8 : Nat → Int64) (f35 f36 f37 f39 f40 : Nat → Int32) (f41 : Nat → Int64) (a0 : UInt64) : UInt64 × (Nat → Int32) × (Nat → Int64) × (Nat → Int32) × (Nat → Int32) × (Nat → Int32) × (Nat → Int32) × (Nat → Int32) × (Nat → Int64) :=
  if ldk_th I a0 ≤ 0 then (FP.ddiv (FP.i2d (ldk_tZ I L f3 f4 f5 f6 f7 f8 f35 f36 f37 f39 f40 f41 a0).2.1) (4625196817309499392 : UInt64), (ldk_tZ I L f3 f4 f5 f6 f7 f8 f35 f36 f37 f39 f40 f41 a0).2.2) else (FP.dconst0, upd I 0 (ldk_th I a0), L, f35, f36, f37, f39, f40, f41)
set_option maxRecDepth 20000 in
theorem iX7_turn_7 : ∀ w ∈ wsX70, w ∈ wsX7_turn := by decide +kernel
set_option maxHeartbeats 4000000 in
set_option maxRecDepth 100000 in
theorem kX7_turn (l : Launch) (D : va_G) (cI cJ cZ cD : ClassId) (tA : Nat) (h : Nat) (R : Nat → Nat) (I : Nat → Int32) (L : Nat → Int64) (f3 : Nat → Int32) (f4 : Nat → Int32) (f5 : Nat → Int32) (f6 : Nat → Int32) (f7 : Nat → Int32) (f8 : Nat → Int64) (f35 : Nat → Int32) (f36 : Nat → Int32) (f37 : Nat → Int32) (f39 : Nat → Int32) (f40 : Nat → Int32) (f41 : Nat → Int64) (a0 : UInt64) (htn : ldk_th I a0 ≤ 0 → ldk_tOK f3 f4 f5 f6 f7 f8 ((ldk_r0 a0).toNatClampNeg + 1) (ldk_r0 a0) (upd I 0 (ldk_th I a0), L, f35, f36, f37, f39, f40, f41)) (hn8 : vf_n64 (FP.dmul a0 4620693217682128896)) (hn : ∀ x : Int32, vf_n64 (FP.ddiv (FP.i2d x) 4625196817309499392)) : jx_M l yX7_turn wsX7_turn ({ frames := 4, cells := 0, slots := 0, locals := 96 }) D (jT cI cJ cZ cD) tA [.ref h, .double a0] [(h, .inr (7, (oX7 R I L))), ((R 3), .inl (cI, 160, .inl f3)), ((R 4), .inl (cI, 160, .inl f4)), ((R 5), .inl (cI, 160, .inl f5)), ((R 6), .inl (cI, 160, .inl f6)), ((R 7), .inl (cI, 160, .inl f7)), ((R 8), .inl (cJ, 160, .inr (.inl f8))), ((R 35), .inl (cI, 64, .inl f35)), ((R 36), .inl (cI, 64, .inl f36)), ((R 37), .inl (cI, 64, .inl f37)), ((R 39), .inl (cZ, 2, .inl f39)), ((R 40), .inl (cZ, 2, .inl f40)), ((R 41), .inl (cJ, 2, .inr (.inl f41)))] (jx_Qd D (jT cI cJ cZ cD) (fun r (_ : Unit) => r = (sX7_turn I L f3 f4 f5 f6 f7 f8 f35 f36 f37 f39 f40 f41 a0).1) (fun _ => [(h, .inr (7, (oX7 R (sX7_turn I L f3 f4 f5 f6 f7 f8 f35 f36 f37 f39 f40 f41 a0).2.1 (sX7_turn I L f3 f4 f5 f6 f7 f8 f35 f36 f37 f39 f40 f41 a0).2.2.1))), ((R 3), .inl (cI, 160, .inl f3)), ((R 4), .inl (cI, 160, .inl f4)), ((R 5), .inl (cI, 160, .inl f5)), ((R 6), .inl (cI, 160, .inl f6)), ((R 7), .inl (cI, 160, .inl f7)), ((R 8), .inl (cJ, 160, .inr (.inl f8))), ((R 35), .inl (cI, 64, .inl ((sX7_turn I L f3 f4 f5 f6 f7 f8 f35 f36 f37 f39 f40 f41 a0).2.2.2.1))), ((R 36), .inl (cI, 64, .inl ((sX7_turn I L f3 f4 f5 f6 f7 f8 f35 f36 f37 f39 f40 f41 a0).2.2.2.2.1))), ((R 37), .inl (cI, 64, .inl ((sX7_turn I L f3 f4 f5 f6 f7 f8 f35 f36 f37 f39 f40 f41 a0).2.2.2.2.2.1))), ((R 39), .inl (cZ, 2, .inl ((sX7_turn I L f3 f4 f5 f6 f7 f8 f35 f36 f37 f39 f40 f41 a0).2.2.2.2.2.2.1))), ((R 40), .inl (cZ, 2, .inl ((sX7_turn I L f3 f4 f5 f6 f7 f8 f35 f36 f37 f39 f40 f41 a0).2.2.2.2.2.2.2.1))), ((R 41), .inl (cJ, 2, .inr (.inl ((sX7_turn I L f3 f4 f5 f6 f7 f8 f35 f36 f37 f39 f40 f41 a0).2.2.2.2.2.2.2.2))))])) := by
  refine jx_of (cc := cX7_turn) (maxL := 10) (ret := (some .double)) (by decide +kernel) rfl (Nat.le_of_ble_eq_true rfl) ?_
  intro p e s m below meth c A ls hx hb hr hlocks hml hown hts hK hP hD hA hS hX hl
  have hl : lv_has ls 10 [(0, .ref h), (1, .double a0)] := hl
  have hown : s.vm.findClass RX7 = some m.cls := hown
  have hk47 := hts (.fieldLink RX7 47 "LoomDeskModel" "power" "Z") (by decide +kernel)
  have hk74 := hts (.fieldLink RX7 74 "LoomDeskModel" "thrown" "I") (by decide +kernel)
  have hk151 := hts (.fieldLink RX7 151 "LoomDeskModel" "mode" "I") (by decide +kernel)
  have hk170 := hts (.fieldLink RX7 170 "LoomDeskModel" "left" "I") (by decide +kernel)
  have hk220 := hts (.fieldLink RX7 220 "LoomDeskModel" "angle" "I") (by decide +kernel)
  refine lv_aload_n hx hb dX7_turn_0 rfl (lv_at hl 0 rfl) ?_
  refine jx_get (v := .int (I 21)) hx hb hts iX7_turn_7 hown hK hP 0 rfl rfl 21 (by decide) hk151 rfl rfl dX7_turn_1 ?_
  refine jx_joini (J := 19) (v := (if (I 21) = 0 then (1 : Int32) else (if (I 20) = 0 then (1 : Int32) else (0 : Int32)))) (rest := []) (fun key => ?_) ?_
  · skip
    refine lv_if_eq (tgt := 14) hx hb dX7_turn_4 (by decide) (fun c_1 => ?_) (fun c_1 => ?_)
    · skip
      refine lv_iconst (v := 1) hx hb dX7_turn_14 (by decide) ?_
      refine lv_goto (tgt := 19) hx hb dX7_turn_15 (by decide) ?_
      rw [if_pos c_1] at key
      exact key
    · skip
      refine lv_aload_n hx hb dX7_turn_7 rfl (lv_at hl 0 rfl) ?_
      refine jx_get (v := .int (I 20)) hx hb hts iX7_turn_7 hown hK hP 0 rfl rfl 20 (by decide) hk47 rfl rfl dX7_turn_8 ?_
      refine lv_if_ne (tgt := 18) hx hb dX7_turn_11 (by decide) (fun c_2 => ?_) (fun c_2 => ?_)
      · skip
        refine lv_iconst (v := 0) hx hb dX7_turn_18 (by decide) ?_
        rw [if_neg c_1, if_neg c_2] at key
        exact key
      · skip
        refine lv_iconst (v := 1) hx hb dX7_turn_14 (by decide) ?_
        refine lv_goto (tgt := 19) hx hb dX7_turn_15 (by decide) ?_
        rw [if_neg c_1, if_pos c_2] at key
        exact key
  refine lv_topi (fun v_3 ev_3 => ?_)
  refine lv_istore_n (lv' := [(3, .int v_3), (0, .ref h), (1, .double a0)]) hx hb dX7_turn_19 rfl hl (by decide) rfl (fun ls hl => ?_)
  refine lv_dload_n hx hb dX7_turn_20 rfl (lv_at hl 2 rfl) ?_
  refine lv_dconst0 hx hb dX7_turn_21 ?_
  refine lv_dcmp hx hb dX7_turn_22 ?_
  refine jx_joini (J := 39) (v := (if (Op.cmpValue (FP.dcmp a0 FP.dconst0) .l) < 0 then (1 : Int32) else (if (Op.cmpValue (FP.dcmp a0 (4660134898793709568 : UInt64)) .g) ≤ 0 then (0 : Int32) else (1 : Int32)))) (rest := []) (fun key => ?_) ?_
  · skip
    refine lv_if_lt (tgt := 34) hx hb dX7_turn_23 (by decide) (fun c_4 => ?_) (fun c_4 => ?_)
    · skip
      refine lv_iconst (v := 1) hx hb dX7_turn_34 (by decide) ?_
      refine lv_goto (tgt := 39) hx hb dX7_turn_35 (by decide) ?_
      rw [if_pos c_4] at key
      exact key
    · skip
      refine lv_dload_n hx hb dX7_turn_26 rfl (lv_at hl 2 rfl) ?_
      refine lv_ldc2d hx hb hown (hts (.constantDouble RX7 216 (4660134898793709568)) (by decide +kernel)) dX7_turn_27 ?_
      refine lv_dcmp hx hb dX7_turn_30 ?_
      refine lv_if_le (tgt := 38) hx hb dX7_turn_31 (by decide) (fun c_5 => ?_) (fun c_5 => ?_)
      · skip
        refine lv_iconst (v := 0) hx hb dX7_turn_38 (by decide) ?_
        rw [if_neg c_4, if_pos c_5] at key
        exact key
      · skip
        refine lv_iconst (v := 1) hx hb dX7_turn_34 (by decide) ?_
        refine lv_goto (tgt := 39) hx hb dX7_turn_35 (by decide) ?_
        rw [if_neg c_4, if_neg c_5] at key
        exact key
  refine lv_topi (fun v_6 ev_6 => ?_)
  refine lv_istore (lv' := [(4, .int v_6), (3, .int v_3), (0, .ref h), (1, .double a0)]) hx hb dX7_turn_39 hl (by decide) rfl (fun ls hl => ?_)
  refine lv_aload_n hx hb dX7_turn_41 rfl (lv_at hl 2 rfl) ?_
  refine lv_iload_n hx hb dX7_turn_42 rfl (lv_at hl 1 rfl) ?_
  refine jx_joini (J := 60) (v := (if v_3 = 0 then (if v_6 = 0 then (0 : Int32) else (2 : Int32)) else (1 : Int32))) (rest := [.ref h]) (fun key => ?_) ?_
  · skip
    refine lv_if_eq (tgt := 50) hx hb dX7_turn_43 (by decide) (fun c_7 => ?_) (fun c_7 => ?_)
    · skip
      refine lv_iload hx hb dX7_turn_50 (lv_at hl 0 rfl) ?_
      refine lv_if_eq (tgt := 59) hx hb dX7_turn_52 (by decide) (fun c_8 => ?_) (fun c_8 => ?_)
      · skip
        refine lv_iconst (v := 0) hx hb dX7_turn_59 (by decide) ?_
        rw [if_pos c_7, if_pos c_8] at key
        exact key
      · skip
        refine lv_iconst (v := 2) hx hb dX7_turn_55 (by decide) ?_
        refine lv_goto (tgt := 60) hx hb dX7_turn_56 (by decide) ?_
        rw [if_pos c_7, if_neg c_8] at key
        exact key
    · skip
      refine lv_iconst (v := 1) hx hb dX7_turn_46 (by decide) ?_
      refine lv_goto (tgt := 60) hx hb dX7_turn_47 (by decide) ?_
      rw [if_neg c_7] at key
      exact key
  refine lv_topi (fun v_9 ev_9 => ?_)
  refine jx_put (w2 := [(h, .inr (7, (oX7 R (upd I 0 v_9) L))), ((R 3), .inl (cI, 160, .inl f3)), ((R 4), .inl (cI, 160, .inl f4)), ((R 5), .inl (cI, 160, .inl f5)), ((R 6), .inl (cI, 160, .inl f6)), ((R 7), .inl (cI, 160, .inl f7)), ((R 8), .inl (cJ, 160, .inr (.inl f8))), ((R 35), .inl (cI, 64, .inl f35)), ((R 36), .inl (cI, 64, .inl f36)), ((R 37), .inl (cI, 64, .inl f37)), ((R 39), .inl (cZ, 2, .inl f39)), ((R 40), .inl (cZ, 2, .inl f40)), ((R 41), .inl (cJ, 2, .inr (.inl f41)))]) hx hb hts iX7_turn_7 tyX7 tyX7_ok nmX7 hown hK hP hD hS 0 rfl rfl 0 (by decide) hk74 rfl rfl rfl rfl (Nat.le_of_ble_eq_true rfl) dX7_turn_60 rfl (fun H locs hP hD hS => ?_)
  refine lv_aload_n hx hb dX7_turn_63 rfl (lv_at hl 2 rfl) ?_
  refine jx_get (v := .int v_9) hx hb hts iX7_turn_7 hown hK hP 0 rfl rfl 0 (by decide) hk74 rfl rfl dX7_turn_64 ?_
  refine lv_if_le (tgt := 72) hx hb dX7_turn_67 (by decide) (fun c_10 => ?_) (fun c_10 => ?_)
  · skip
    refine lv_dload_n hx hb dX7_turn_72 rfl (lv_at hl 3 rfl) ?_
    refine lv_ldc2d hx hb hown (hts (.constantDouble RX7 218 (4620693217682128896)) (by decide +kernel)) dX7_turn_73 ?_
    refine lv_dmul hx hb dX7_turn_76 hn8 ?_
    refine lv_d2i hx hb dX7_turn_77 ?_
    refine lv_iconst (v := 2) hx hb dX7_turn_78 (by decide) ?_
    refine lv_imul hx hb dX7_turn_79 ?_
    refine lv_topi (fun v_11 ev_11 => ?_)
    refine lv_istore (lv' := [(5, .int v_11), (4, .int v_6), (3, .int v_3), (0, .ref h), (1, .double a0)]) hx hb dX7_turn_80 hl (by decide) rfl (fun ls hl => ?_)
    refine lv_iconst (v := 0) hx hb dX7_turn_82 (by decide) ?_
    refine lv_istore (lv' := [(6, .int (0 : Int32)), (5, .int v_11), (4, .int v_6), (3, .int v_3), (0, .ref h), (1, .double a0)]) hx hb dX7_turn_83 hl (by decide) rfl (fun ls hl => ?_)
    refine jx_loop (σ := (Int32) × (Int32) × ((Nat → Int32)) × ((Nat → Int64)) × ((Nat → Int32)) × ((Nat → Int32)) × ((Nat → Int32)) × ((Nat → Int32)) × ((Nat → Int32)) × ((Nat → Int64)) × (Nat) × (Unit)) (fun x H locs ls => va_P D vwCl [(h, .inr (7, (oX7 R x.2.2.1 x.2.2.2.1))), ((R 3), .inl (cI, 160, .inl f3)), ((R 4), .inl (cI, 160, .inl f4)), ((R 5), .inl (cI, 160, .inl f5)), ((R 6), .inl (cI, 160, .inl f6)), ((R 7), .inl (cI, 160, .inl f7)), ((R 8), .inl (cJ, 160, .inr (.inl f8))), ((R 35), .inl (cI, 64, .inl x.2.2.2.2.1)), ((R 36), .inl (cI, 64, .inl x.2.2.2.2.2.1)), ((R 37), .inl (cI, 64, .inl x.2.2.2.2.2.2.1)), ((R 39), .inl (cZ, 2, .inl x.2.2.2.2.2.2.2.1)), ((R 40), .inl (cZ, 2, .inl x.2.2.2.2.2.2.2.2.1)), ((R 41), .inl (cJ, 2, .inr (.inl x.2.2.2.2.2.2.2.2.2.1)))] H ∧ va_D A [(h, .inr (7, (oX7 R x.2.2.1 x.2.2.2.1))), ((R 3), .inl (cI, 160, .inl f3)), ((R 4), .inl (cI, 160, .inl f4)), ((R 5), .inl (cI, 160, .inl f5)), ((R 6), .inl (cI, 160, .inl f6)), ((R 7), .inl (cI, 160, .inl f7)), ((R 8), .inl (cJ, 160, .inr (.inl f8))), ((R 35), .inl (cI, 64, .inl x.2.2.2.2.1)), ((R 36), .inl (cI, 64, .inl x.2.2.2.2.2.1)), ((R 37), .inl (cI, 64, .inl x.2.2.2.2.2.2.1)), ((R 39), .inl (cZ, 2, .inl x.2.2.2.2.2.2.2.1)), ((R 40), .inl (cZ, 2, .inl x.2.2.2.2.2.2.2.2.1)), ((R 41), .inl (cJ, 2, .inr (.inl x.2.2.2.2.2.2.2.2.2.1)))] ∧ va_S A s.heap H locs ∧ lv_has ls 10 [(0, .ref h), (1, .double a0), (5, .int x.1), (6, .int x.2.1)] ∧ (ldk_tI f3 f4 f5 f6 f7 f8 (ldk_tZ I L f3 f4 f5 f6 f7 f8 f35 f36 f37 f39 f40 f41 a0) x.2.2.2.2.2.2.2.2.2.2.1 x.1 x.2.1 (x.2.2.1, x.2.2.2.1, x.2.2.2.2.1, x.2.2.2.2.2.1, x.2.2.2.2.2.2.1, x.2.2.2.2.2.2.2.1, x.2.2.2.2.2.2.2.2.1, x.2.2.2.2.2.2.2.2.2.1))) (fun x => x.2.2.2.2.2.2.2.2.2.2.1) (v_11, (0 : Int32), (upd I 0 v_9), L, f35, f36, f37, f39, f40, f41, (ldk_r0 a0).toNatClampNeg + 1, ()) ⟨hP, hD, hS, lv_sub hl [4, 5, 1, 0] rfl, (show ldk_tI f3 f4 f5 f6 f7 f8 (ldk_tZ I L f3 f4 f5 f6 f7 f8 f35 f36 f37 f39 f40 f41 a0) ((ldk_r0 a0).toNatClampNeg + 1) v_11 (0 : Int32) ((upd I 0 v_9), L, f35, f36, f37, f39, f40, f41) from (by clear hP hD hl; have z_ := ev_11.symm; clear ev_11; subst z_; have z_ := ev_9.symm; clear ev_9; subst z_; have z_ := ev_6.symm; clear ev_6; subst z_; have z_ := ev_3.symm; clear ev_3; subst z_; exact ⟨rfl, htn c_10⟩))⟩ ?_
    intro x H locs ls hI ih
    obtain ⟨rr, gg, J, M, q35, q36, q37, q39, q40, q41, nn, ux⟩ := x
    obtain ⟨hP, hD, hS, hl, hp⟩ := hI
    have hP : va_P D vwCl [(h, .inr (7, (oX7 R J M))), ((R 3), .inl (cI, 160, .inl f3)), ((R 4), .inl (cI, 160, .inl f4)), ((R 5), .inl (cI, 160, .inl f5)), ((R 6), .inl (cI, 160, .inl f6)), ((R 7), .inl (cI, 160, .inl f7)), ((R 8), .inl (cJ, 160, .inr (.inl f8))), ((R 35), .inl (cI, 64, .inl q35)), ((R 36), .inl (cI, 64, .inl q36)), ((R 37), .inl (cI, 64, .inl q37)), ((R 39), .inl (cZ, 2, .inl q39)), ((R 40), .inl (cZ, 2, .inl q40)), ((R 41), .inl (cJ, 2, .inr (.inl q41)))] H := hP
    have hD : va_D A [(h, .inr (7, (oX7 R J M))), ((R 3), .inl (cI, 160, .inl f3)), ((R 4), .inl (cI, 160, .inl f4)), ((R 5), .inl (cI, 160, .inl f5)), ((R 6), .inl (cI, 160, .inl f6)), ((R 7), .inl (cI, 160, .inl f7)), ((R 8), .inl (cJ, 160, .inr (.inl f8))), ((R 35), .inl (cI, 64, .inl q35)), ((R 36), .inl (cI, 64, .inl q36)), ((R 37), .inl (cI, 64, .inl q37)), ((R 39), .inl (cZ, 2, .inl q39)), ((R 40), .inl (cZ, 2, .inl q40)), ((R 41), .inl (cJ, 2, .inr (.inl q41)))] := hD
    have hl : lv_has ls 10 [(0, .ref h), (1, .double a0), (5, .int rr), (6, .int gg)] := hl
    have hp : ldk_tI f3 f4 f5 f6 f7 f8 (ldk_tZ I L f3 f4 f5 f6 f7 f8 f35 f36 f37 f39 f40 f41 a0) nn rr gg (J, M, q35, q36, q37, q39, q40, q41) := hp
    refine jx_cutl (J := 319) (P := (ldk_tZ I L f3 f4 f5 f6 f7 f8 f35 f36 f37 f39 f40 f41 a0) = (rr, gg, (J, M, q35, q36, q37, q39, q40, q41))) (lv := [(0, .ref h), (1, .double a0), (5, .int rr), (6, .int gg)]) (nL := 10) (rest := []) (fun key => ?_) (fun ls hfin hl => ?_)
    · skip
      refine lv_iload hx hb dX7_turn_85 (lv_at hl 2 rfl) ?_
      refine lv_if_le (tgt := 319) hx hb dX7_turn_87 (by decide) (fun c_12 => ?_) (fun c_12 => ?_)
      · skip
        exact key _ (ldk_tI_e1 hp c_12) (lv_sub hl [0, 1, 2, 3] rfl)
      · skip
        refine lv_aload_n hx hb dX7_turn_90 rfl (lv_at hl 0 rfl) ?_
        refine jx_get (v := .int (J 21)) hx hb hts iX7_turn_7 hown hK hP 0 rfl rfl 21 (by decide) hk151 rfl rfl dX7_turn_91 ?_
        refine lv_if_eq (tgt := 319) hx hb dX7_turn_94 (by decide) (fun c_13 => ?_) (fun c_13 => ?_)
        · skip
          exact key _ (ldk_tI_e2 hp c_12 c_13) (lv_sub hl [0, 1, 2, 3] rfl)
        · skip
          refine lv_aload_n hx hb dX7_turn_97 rfl (lv_at hl 0 rfl) ?_
          refine jx_get (v := .int (J 22)) hx hb hts iX7_turn_7 hown hK hP 0 rfl rfl 22 (by decide) hk220 rfl rfl dX7_turn_98 ?_
          refine jx_pcalli (wc := []) hP hD hS hA [] rfl (by decide) (fun hPc hDc hF => jx_runSs (As := [.int (J 22)]) (rest := []) (n := 1) hx hb hml hown hts hK hX hS hl.1 (kX7_above l D cI cJ cZ cD tA (J 22)) gX7_turn_X7_above rfl rfl rfl (by decide +kernel) ⟨Nat.le_of_ble_eq_true rfl, Nat.le_of_ble_eq_true rfl⟩ rfl rfl (Nat.le_of_ble_eq_true rfl) dX7_turn_101 ⟨Nat.zero_le _, Nat.zero_le _⟩ hPc hDc hF) (fun r_14 er_14 => ?_)
          have er_14 : r_14 = (sX7_above (J 22)) := er_14
          refine lv_aload_n hx hb dX7_turn_104 rfl (lv_at hl 0 rfl) ?_
          refine jx_get (v := .int (J 22)) hx hb hts iX7_turn_7 hown hK hP 0 rfl rfl 22 (by decide) hk220 rfl rfl dX7_turn_105 ?_
          refine lv_isub hx hb dX7_turn_108 ?_
          refine lv_topi (fun v_15 ev_15 => ?_)
          refine lv_istore (lv' := [(7, .int v_15), (0, .ref h), (1, .double a0), (5, .int rr), (6, .int gg)]) hx hb dX7_turn_109 hl (by decide) rfl (fun ls hl => ?_)
          refine lv_iload hx hb dX7_turn_111 (lv_at hl 0 rfl) ?_
          refine lv_iload hx hb dX7_turn_113 (lv_at hl 3 rfl) ?_
          refine jx_joini (J := 125) (v := (if rr ≤ v_15 then rr else v_15)) (rest := []) (fun key => ?_) ?_
          · skip
            refine lv_icmp_ge (tgt := 123) hx hb dX7_turn_115 (by decide) (fun c_16 => ?_) (fun c_16 => ?_)
            · skip
              refine lv_iload hx hb dX7_turn_123 (lv_at hl 3 rfl) ?_
              rw [if_pos c_16] at key
              exact key
            · skip
              refine lv_iload hx hb dX7_turn_118 (lv_at hl 0 rfl) ?_
              refine lv_goto (tgt := 125) hx hb dX7_turn_120 (by decide) ?_
              rw [if_neg c_16] at key
              exact key
          refine lv_topi (fun v_17 ev_17 => ?_)
          refine lv_istore (lv' := [(7, .int v_17), (0, .ref h), (1, .double a0), (5, .int rr), (6, .int gg)]) hx hb dX7_turn_125 hl (by decide) rfl (fun ls hl => ?_)
          refine lv_aload_n hx hb dX7_turn_127 rfl (lv_at hl 1 rfl) ?_
          refine jx_get (v := .int (J 21)) hx hb hts iX7_turn_7 hown hK hP 0 rfl rfl 21 (by decide) hk151 rfl rfl dX7_turn_128 ?_
          refine lv_iconst (v := 2) hx hb dX7_turn_131 (by decide) ?_
          refine jx_joini (J := 153) (v := (if (J 21) = (2 : Int32) then (if v_17 ≤ (J 23) then v_17 else (J 23)) else v_17)) (rest := []) (fun key => ?_) ?_
          · skip
            refine lv_icmp_ne (tgt := 151) hx hb dX7_turn_132 (by decide) (fun c_18 => ?_) (fun c_18 => ?_)
            · skip
              refine lv_iload hx hb dX7_turn_151 (lv_at hl 0 rfl) ?_
              rw [if_neg c_18] at key
              exact key
            · skip
              refine lv_aload_n hx hb dX7_turn_135 rfl (lv_at hl 1 rfl) ?_
              refine jx_get (v := .int (J 23)) hx hb hts iX7_turn_7 hown hK hP 0 rfl rfl 23 (by decide) hk170 rfl rfl dX7_turn_136 ?_
              refine lv_iload hx hb dX7_turn_139 (lv_at hl 0 rfl) ?_
              refine lv_icmp_ge (tgt := 151) hx hb dX7_turn_141 (by decide) (fun c_19 => ?_) (fun c_19 => ?_)
              · skip
                refine lv_iload hx hb dX7_turn_151 (lv_at hl 0 rfl) ?_
                rw [if_pos c_18, if_pos c_19] at key
                exact key
              · skip
                refine lv_aload_n hx hb dX7_turn_144 rfl (lv_at hl 1 rfl) ?_
                refine jx_get (v := .int (J 23)) hx hb hts iX7_turn_7 hown hK hP 0 rfl rfl 23 (by decide) hk170 rfl rfl dX7_turn_145 ?_
                refine lv_goto (tgt := 153) hx hb dX7_turn_148 (by decide) ?_
                rw [if_pos c_18, if_neg c_19] at key
                exact key
          refine lv_topi (fun v_20 ev_20 => ?_)
          refine lv_istore (lv' := [(7, .int v_20), (0, .ref h), (1, .double a0), (5, .int rr), (6, .int gg)]) hx hb dX7_turn_153 hl (by decide) rfl (fun ls hl => ?_)
          refine lv_aload_n hx hb dX7_turn_155 rfl (lv_at hl 1 rfl) ?_
          refine lv_dup hx hb dX7_turn_156 rfl ?_
          refine jx_get (v := .int (J 22)) hx hb hts iX7_turn_7 hown hK hP 0 rfl rfl 22 (by decide) hk220 rfl rfl dX7_turn_157 ?_
          refine lv_iload hx hb dX7_turn_160 (lv_at hl 0 rfl) ?_
          refine lv_iadd hx hb dX7_turn_162 ?_
          refine lv_topi (fun v_21 ev_21 => ?_)
          refine jx_put (w2 := [(h, .inr (7, (oX7 R (upd J 22 v_21) M))), ((R 3), .inl (cI, 160, .inl f3)), ((R 4), .inl (cI, 160, .inl f4)), ((R 5), .inl (cI, 160, .inl f5)), ((R 6), .inl (cI, 160, .inl f6)), ((R 7), .inl (cI, 160, .inl f7)), ((R 8), .inl (cJ, 160, .inr (.inl f8))), ((R 35), .inl (cI, 64, .inl q35)), ((R 36), .inl (cI, 64, .inl q36)), ((R 37), .inl (cI, 64, .inl q37)), ((R 39), .inl (cZ, 2, .inl q39)), ((R 40), .inl (cZ, 2, .inl q40)), ((R 41), .inl (cJ, 2, .inr (.inl q41)))]) hx hb hts iX7_turn_7 tyX7 tyX7_ok nmX7 hown hK hP hD hS 0 rfl rfl 22 (by decide) hk220 rfl rfl rfl rfl (Nat.le_of_ble_eq_true rfl) dX7_turn_163 rfl (fun H locs hP hD hS => ?_)
          refine lv_iload hx hb dX7_turn_166 (lv_at hl 4 rfl) ?_
          refine lv_iload hx hb dX7_turn_168 (lv_at hl 0 rfl) ?_
          refine lv_iadd hx hb dX7_turn_170 ?_
          refine lv_topi (fun v_22 ev_22 => ?_)
          refine lv_istore (lv' := [(6, .int v_22), (7, .int v_20), (0, .ref h), (1, .double a0), (5, .int rr)]) hx hb dX7_turn_171 hl (by decide) rfl (fun ls hl => ?_)
          refine lv_iload hx hb dX7_turn_173 (lv_at hl 4 rfl) ?_
          refine lv_iload hx hb dX7_turn_175 (lv_at hl 1 rfl) ?_
          refine lv_isub hx hb dX7_turn_177 ?_
          refine lv_topi (fun v_23 ev_23 => ?_)
          refine lv_istore (lv' := [(5, .int v_23), (6, .int v_22), (7, .int v_20), (0, .ref h), (1, .double a0)]) hx hb dX7_turn_178 hl (by decide) rfl (fun ls hl => ?_)
          refine lv_aload_n hx hb dX7_turn_180 rfl (lv_at hl 3 rfl) ?_
          refine lv_dup hx hb dX7_turn_181 rfl ?_
          refine jx_get (v := .int (J 23)) hx hb hts iX7_turn_7 hown hK hP 0 rfl rfl 23 (by decide) hk170 rfl rfl dX7_turn_182 ?_
          refine lv_aload_n hx hb dX7_turn_185 rfl (lv_at hl 3 rfl) ?_
          refine jx_get (v := .int (J 21)) hx hb hts iX7_turn_7 hown hK hP 0 rfl rfl 21 (by decide) hk151 rfl rfl dX7_turn_186 ?_
          refine lv_iconst (v := 2) hx hb dX7_turn_189 (by decide) ?_
          refine jx_joini (J := 199) (v := (if (J 21) = (2 : Int32) then v_20 else (0 : Int32))) (rest := [.int (J 23), .ref h]) (fun key => ?_) ?_
          · skip
            refine lv_icmp_ne (tgt := 198) hx hb dX7_turn_190 (by decide) (fun c_24 => ?_) (fun c_24 => ?_)
            · skip
              refine lv_iconst (v := 0) hx hb dX7_turn_198 (by decide) ?_
              rw [if_neg c_24] at key
              exact key
            · skip
              refine lv_iload hx hb dX7_turn_193 (lv_at hl 2 rfl) ?_
              refine lv_goto (tgt := 199) hx hb dX7_turn_195 (by decide) ?_
              rw [if_pos c_24] at key
              exact key
          refine lv_topi (fun v_25 ev_25 => ?_)
          refine lv_isub hx hb dX7_turn_199 ?_
          refine lv_topi (fun v_26 ev_26 => ?_)
          refine jx_put (w2 := [(h, .inr (7, (oX7 R (upd (upd J 22 v_21) 23 v_26) M))), ((R 3), .inl (cI, 160, .inl f3)), ((R 4), .inl (cI, 160, .inl f4)), ((R 5), .inl (cI, 160, .inl f5)), ((R 6), .inl (cI, 160, .inl f6)), ((R 7), .inl (cI, 160, .inl f7)), ((R 8), .inl (cJ, 160, .inr (.inl f8))), ((R 35), .inl (cI, 64, .inl q35)), ((R 36), .inl (cI, 64, .inl q36)), ((R 37), .inl (cI, 64, .inl q37)), ((R 39), .inl (cZ, 2, .inl q39)), ((R 40), .inl (cZ, 2, .inl q40)), ((R 41), .inl (cJ, 2, .inr (.inl q41)))]) hx hb hts iX7_turn_7 tyX7 tyX7_ok nmX7 hown hK hP hD hS 0 rfl rfl 23 (by decide) hk170 rfl rfl rfl rfl (Nat.le_of_ble_eq_true rfl) dX7_turn_200 rfl (fun H locs hP hD hS => ?_)
          refine lv_aload_n hx hb dX7_turn_203 rfl (lv_at hl 3 rfl) ?_
          refine jx_get (v := .int (J 21)) hx hb hts iX7_turn_7 hown hK hP 0 rfl rfl 21 (by decide) hk151 rfl rfl dX7_turn_204 ?_
          refine lv_iconst (v := 2) hx hb dX7_turn_207 (by decide) ?_
          refine jx_joini (J := 223) (v := (if (J 21) = (2 : Int32) then (if v_26 = 0 then (1 : Int32) else (0 : Int32)) else (0 : Int32))) (rest := []) (fun key => ?_) ?_
          · skip
            refine lv_icmp_ne (tgt := 222) hx hb dX7_turn_208 (by decide) (fun c_27 => ?_) (fun c_27 => ?_)
            · skip
              refine lv_iconst (v := 0) hx hb dX7_turn_222 (by decide) ?_
              rw [if_neg c_27] at key
              exact key
            · skip
              refine lv_aload_n hx hb dX7_turn_211 rfl (lv_at hl 3 rfl) ?_
              refine jx_get (v := .int v_26) hx hb hts iX7_turn_7 hown hK hP 0 rfl rfl 23 (by decide) hk170 rfl rfl dX7_turn_212 ?_
              refine lv_if_ne (tgt := 222) hx hb dX7_turn_215 (by decide) (fun c_28 => ?_) (fun c_28 => ?_)
              · skip
                refine lv_iconst (v := 0) hx hb dX7_turn_222 (by decide) ?_
                rw [if_pos c_27, if_neg c_28] at key
                exact key
              · skip
                refine lv_iconst (v := 1) hx hb dX7_turn_218 (by decide) ?_
                refine lv_goto (tgt := 223) hx hb dX7_turn_219 (by decide) ?_
                rw [if_pos c_27, if_pos c_28] at key
                exact key
          refine lv_topi (fun v_29 ev_29 => ?_)
          refine lv_istore (lv' := [(8, .int v_29), (5, .int v_23), (6, .int v_22), (7, .int v_20), (0, .ref h), (1, .double a0)]) hx hb dX7_turn_223 hl (by decide) rfl (fun ls hl => ?_)
          refine jx_cutl (J := 265) (P := v_21 = (480 : Int32) ∨ v_21 = (1440 : Int32) ∨ v_21 = (4800 : Int32) ∨ v_21 = (5760 : Int32)) (lv := [(8, .int v_29), (5, .int v_23), (6, .int v_22), (7, .int v_20), (0, .ref h), (1, .double a0)]) (nL := 10) (rest := []) (fun key => ?_) (fun ls hfin hl => ?_)
          · skip
            refine lv_aload_n hx hb dX7_turn_225 rfl (lv_at hl 4 rfl) ?_
            refine jx_get (v := .int v_21) hx hb hts iX7_turn_7 hown hK hP 0 rfl rfl 22 (by decide) hk220 rfl rfl dX7_turn_226 ?_
            refine lv_sipush (v := 480) hx hb dX7_turn_229 (by decide) ?_
            refine lv_icmp_eq (tgt := 265) hx hb dX7_turn_232 (by decide) (fun c_30 => ?_) (fun c_30 => ?_)
            · skip
              exact key _ (Or.inl c_30) (lv_sub hl [0, 1, 2, 3, 4, 5] rfl)
            · skip
              refine lv_aload_n hx hb dX7_turn_235 rfl (lv_at hl 4 rfl) ?_
              refine jx_get (v := .int v_21) hx hb hts iX7_turn_7 hown hK hP 0 rfl rfl 22 (by decide) hk220 rfl rfl dX7_turn_236 ?_
              refine lv_sipush (v := 1440) hx hb dX7_turn_239 (by decide) ?_
              refine lv_icmp_eq (tgt := 265) hx hb dX7_turn_242 (by decide) (fun c_31 => ?_) (fun c_31 => ?_)
              · skip
                exact key _ (Or.inr (Or.inl c_31)) (lv_sub hl [0, 1, 2, 3, 4, 5] rfl)
              · skip
                refine lv_aload_n hx hb dX7_turn_245 rfl (lv_at hl 4 rfl) ?_
                refine jx_get (v := .int v_21) hx hb hts iX7_turn_7 hown hK hP 0 rfl rfl 22 (by decide) hk220 rfl rfl dX7_turn_246 ?_
                refine lv_sipush (v := 4800) hx hb dX7_turn_249 (by decide) ?_
                refine lv_icmp_eq (tgt := 265) hx hb dX7_turn_252 (by decide) (fun c_32 => ?_) (fun c_32 => ?_)
                · skip
                  exact key _ (Or.inr (Or.inr (Or.inl c_32))) (lv_sub hl [0, 1, 2, 3, 4, 5] rfl)
                · skip
                  refine lv_aload_n hx hb dX7_turn_255 rfl (lv_at hl 4 rfl) ?_
                  refine jx_get (v := .int v_21) hx hb hts iX7_turn_7 hown hK hP 0 rfl rfl 22 (by decide) hk220 rfl rfl dX7_turn_256 ?_
                  refine lv_sipush (v := 5760) hx hb dX7_turn_259 (by decide) ?_
                  refine lv_icmp_ne (tgt := 299) hx hb dX7_turn_262 (by decide) (fun c_33 => ?_) (fun c_33 => ?_)
                  · skip
                    refine lv_aload_n hx hb dX7_turn_299 rfl (lv_at hl 4 rfl) ?_
                    refine lv_iload hx hb dX7_turn_300 (lv_at hl 0 rfl) ?_
                    refine jx_joini (J := 313) (v := (if v_29 = 0 then (J 21) else (0 : Int32))) (rest := [.ref h]) (fun key => ?_) ?_
                    · skip
                      refine lv_if_eq (tgt := 309) hx hb dX7_turn_302 (by decide) (fun c_34 => ?_) (fun c_34 => ?_)
                      · skip
                        refine lv_aload_n hx hb dX7_turn_309 rfl (lv_at hl 4 rfl) ?_
                        refine jx_get (v := .int (J 21)) hx hb hts iX7_turn_7 hown hK hP 0 rfl rfl 21 (by decide) hk151 rfl rfl dX7_turn_310 ?_
                        rw [if_pos c_34] at key
                        exact key
                      · skip
                        refine lv_iconst (v := 0) hx hb dX7_turn_305 (by decide) ?_
                        refine lv_goto (tgt := 313) hx hb dX7_turn_306 (by decide) ?_
                        rw [if_neg c_34] at key
                        exact key
                    refine lv_topi (fun v_35 ev_35 => ?_)
                    refine jx_put (w2 := [(h, .inr (7, (oX7 R (upd (upd (upd J 21 v_35) 22 v_21) 23 v_26) M))), ((R 3), .inl (cI, 160, .inl f3)), ((R 4), .inl (cI, 160, .inl f4)), ((R 5), .inl (cI, 160, .inl f5)), ((R 6), .inl (cI, 160, .inl f6)), ((R 7), .inl (cI, 160, .inl f7)), ((R 8), .inl (cJ, 160, .inr (.inl f8))), ((R 35), .inl (cI, 64, .inl q35)), ((R 36), .inl (cI, 64, .inl q36)), ((R 37), .inl (cI, 64, .inl q37)), ((R 39), .inl (cZ, 2, .inl q39)), ((R 40), .inl (cZ, 2, .inl q40)), ((R 41), .inl (cJ, 2, .inr (.inl q41)))]) hx hb hts iX7_turn_7 tyX7 tyX7_ok nmX7 hown hK hP hD hS 0 rfl rfl 21 (by decide) hk151 rfl rfl rfl rfl (Nat.le_of_ble_eq_true rfl) dX7_turn_313 rfl (fun H locs hP hD hS => ?_)
                    refine lv_goto (tgt := 85) hx hb dX7_turn_316 (by decide) ?_
                    exact ih (v_23, v_22, (upd (upd (upd J 21 v_35) 22 v_21) 23 v_26), M, q35, q36, q37, q39, q40, q41, nn - 1, ()) _ _ _ ⟨hP, hD, hS, lv_sub hl [4, 5, 1, 2] rfl, (show ldk_tI f3 f4 f5 f6 f7 f8 (ldk_tZ I L f3 f4 f5 f6 f7 f8 f35 f36 f37 f39 f40 f41 a0) (nn - 1) v_23 v_22 ((upd (upd (upd J 21 v_35) 22 v_21) 23 v_26), M, q35, q36, q37, q39, q40, q41) from (by clear hP hD hl; have z_ := ev_35.symm; clear ev_35; subst z_; have z_ := ev_29.symm; clear ev_29; subst z_; have z_ := ev_26.symm; clear ev_26; subst z_; have z_ := ev_25.symm; clear ev_25; subst z_; have z_ := ev_23.symm; clear ev_23; subst z_; have z_ := ev_22.symm; clear ev_22; subst z_; have z_ := ev_21.symm; clear ev_21; subst z_; have z_ := ev_20.symm; clear ev_20; subst z_; have z_ := ev_17.symm; clear ev_17; subst z_; have z_ := ev_15.symm; clear ev_15; subst z_; have z_ := er_14.symm; clear er_14; subst z_; have z_ := ev_11.symm; clear ev_11; subst z_; have z_ := ev_9.symm; clear ev_9; subst z_; have z_ := ev_6.symm; clear ev_6; subst z_; have z_ := ev_3.symm; clear ev_3; subst z_; exact ldk_tI_b hp c_12 c_13 c_30 c_31 c_32 c_33))⟩ (show (nn - 1) < nn from (by clear hP hD hl; have z_ := ev_35.symm; clear ev_35; subst z_; have z_ := ev_29.symm; clear ev_29; subst z_; have z_ := ev_26.symm; clear ev_26; subst z_; have z_ := ev_25.symm; clear ev_25; subst z_; have z_ := ev_23.symm; clear ev_23; subst z_; have z_ := ev_22.symm; clear ev_22; subst z_; have z_ := ev_21.symm; clear ev_21; subst z_; have z_ := ev_20.symm; clear ev_20; subst z_; have z_ := ev_17.symm; clear ev_17; subst z_; have z_ := ev_15.symm; clear ev_15; subst z_; have z_ := er_14.symm; clear er_14; subst z_; have z_ := ev_11.symm; clear ev_11; subst z_; have z_ := ev_9.symm; clear ev_9; subst z_; have z_ := ev_6.symm; clear ev_6; subst z_; have z_ := ev_3.symm; clear ev_3; subst z_; exact (ldk_tI_step hp c_12 c_13).2))
                  · skip
                    exact key _ (Or.inr (Or.inr (Or.inr c_33))) (lv_sub hl [0, 1, 2, 3, 4, 5] rfl)
          · skip
            refine lv_aload_n hx hb dX7_turn_265 rfl (lv_at hl 4 rfl) ?_
            refine jx_get (v := .int v_21) hx hb hts iX7_turn_7 hown hK hP 0 rfl rfl 22 (by decide) hk220 rfl rfl dX7_turn_266 ?_
            refine lv_istore (lv' := [(9, .int v_21), (8, .int v_29), (5, .int v_23), (6, .int v_22), (7, .int v_20), (0, .ref h), (1, .double a0)]) hx hb dX7_turn_269 hl (by decide) rfl (fun ls hl => ?_)
            refine lv_aload_n hx hb dX7_turn_271 rfl (lv_at hl 5 rfl) ?_
            refine lv_aload_n hx hb dX7_turn_272 rfl (lv_at hl 5 rfl) ?_
            refine jx_get (v := .int v_21) hx hb hts iX7_turn_7 hown hK hP 0 rfl rfl 22 (by decide) hk220 rfl rfl dX7_turn_273 ?_
            refine lv_sipush (v := 5760) hx hb dX7_turn_276 (by decide) ?_
            refine jx_joini (J := 290) (v := (if v_21 = (5760 : Int32) then (0 : Int32) else v_21)) (rest := [.ref h]) (fun key => ?_) ?_
            · skip
              refine lv_icmp_ne (tgt := 286) hx hb dX7_turn_279 (by decide) (fun c_36 => ?_) (fun c_36 => ?_)
              · skip
                refine lv_aload_n hx hb dX7_turn_286 rfl (lv_at hl 5 rfl) ?_
                refine jx_get (v := .int v_21) hx hb hts iX7_turn_7 hown hK hP 0 rfl rfl 22 (by decide) hk220 rfl rfl dX7_turn_287 ?_
                rw [if_neg c_36] at key
                exact key
              · skip
                refine lv_iconst (v := 0) hx hb dX7_turn_282 (by decide) ?_
                refine lv_goto (tgt := 290) hx hb dX7_turn_283 (by decide) ?_
                rw [if_pos c_36] at key
                exact key
            refine lv_topi (fun v_37 ev_37 => ?_)
            refine jx_put (w2 := [(h, .inr (7, (oX7 R (upd (upd J 22 v_37) 23 v_26) M))), ((R 3), .inl (cI, 160, .inl f3)), ((R 4), .inl (cI, 160, .inl f4)), ((R 5), .inl (cI, 160, .inl f5)), ((R 6), .inl (cI, 160, .inl f6)), ((R 7), .inl (cI, 160, .inl f7)), ((R 8), .inl (cJ, 160, .inr (.inl f8))), ((R 35), .inl (cI, 64, .inl q35)), ((R 36), .inl (cI, 64, .inl q36)), ((R 37), .inl (cI, 64, .inl q37)), ((R 39), .inl (cZ, 2, .inl q39)), ((R 40), .inl (cZ, 2, .inl q40)), ((R 41), .inl (cJ, 2, .inr (.inl q41)))]) hx hb hts iX7_turn_7 tyX7 tyX7_ok nmX7 hown hK hP hD hS 0 rfl rfl 22 (by decide) hk220 rfl rfl rfl rfl (Nat.le_of_ble_eq_true rfl) dX7_turn_290 rfl (fun H locs hP hD hS => ?_)
            refine lv_aload_n hx hb dX7_turn_293 rfl (lv_at hl 5 rfl) ?_
            refine lv_iload hx hb dX7_turn_294 (lv_at hl 0 rfl) ?_
            refine jx_callv (wc := [(h, .inr (7, (oX7 R (upd (upd J 22 v_37) 23 v_26) M))), ((R 3), .inl (cI, 160, .inl f3)), ((R 4), .inl (cI, 160, .inl f4)), ((R 5), .inl (cI, 160, .inl f5)), ((R 6), .inl (cI, 160, .inl f6)), ((R 7), .inl (cI, 160, .inl f7)), ((R 8), .inl (cJ, 160, .inr (.inl f8))), ((R 35), .inl (cI, 64, .inl q35)), ((R 36), .inl (cI, 64, .inl q36)), ((R 37), .inl (cI, 64, .inl q37)), ((R 39), .inl (cZ, 2, .inl q39)), ((R 40), .inl (cZ, 2, .inl q40)), ((R 41), .inl (cJ, 2, .inr (.inl q41)))]) (wr := []) hP hD hS hA hK [0, 1, 2, 3, 4, 5, 6, 7, 8, 9, 10, 11, 12] [] rfl rfl (by decide) (by decide) (by decide) (fun hPc hDc hF => jx_runV (As := [.int v_21]) (rest := []) (n := 1) (ci := 7) (q0 := 0) hx hb hml hown hts hK hX hS hl.1 (kX7_comes l D cI cJ cZ cD tA h R (upd (upd J 22 v_37) 23 v_26) M f3 f4 f5 f6 f7 f8 q35 q36 q37 q39 q40 q41 v_21 (by clear hP hD hl; have z_ := ev_37.symm; clear ev_37; subst z_; have z_ := ev_29.symm; clear ev_29; subst z_; have z_ := ev_26.symm; clear ev_26; subst z_; have z_ := ev_25.symm; clear ev_25; subst z_; have z_ := ev_23.symm; clear ev_23; subst z_; have z_ := ev_22.symm; clear ev_22; subst z_; have z_ := ev_21.symm; clear ev_21; subst z_; have z_ := ev_20.symm; clear ev_20; subst z_; have z_ := ev_17.symm; clear ev_17; subst z_; have z_ := ev_15.symm; clear ev_15; subst z_; have z_ := er_14.symm; clear er_14; subst z_; have z_ := ev_11.symm; clear ev_11; subst z_; have z_ := ev_9.symm; clear ev_9; subst z_; have z_ := ev_6.symm; clear ev_6; subst z_; have z_ := ev_3.symm; clear ev_3; subst z_; exact (ldk_tI_good hp c_12 c_13 hfin).1) (by clear hP hD hl; have z_ := ev_37.symm; clear ev_37; subst z_; have z_ := ev_29.symm; clear ev_29; subst z_; have z_ := ev_26.symm; clear ev_26; subst z_; have z_ := ev_25.symm; clear ev_25; subst z_; have z_ := ev_23.symm; clear ev_23; subst z_; have z_ := ev_22.symm; clear ev_22; subst z_; have z_ := ev_21.symm; clear ev_21; subst z_; have z_ := ev_20.symm; clear ev_20; subst z_; have z_ := ev_17.symm; clear ev_17; subst z_; have z_ := ev_15.symm; clear ev_15; subst z_; have z_ := er_14.symm; clear er_14; subst z_; have z_ := ev_11.symm; clear ev_11; subst z_; have z_ := ev_9.symm; clear ev_9; subst z_; have z_ := ev_6.symm; clear ev_6; subst z_; have z_ := ev_3.symm; clear ev_3; subst z_; exact (ldk_tI_good hp c_12 c_13 hfin).2.1) (by clear hP hD hl; have z_ := ev_37.symm; clear ev_37; subst z_; have z_ := ev_29.symm; clear ev_29; subst z_; have z_ := ev_26.symm; clear ev_26; subst z_; have z_ := ev_25.symm; clear ev_25; subst z_; have z_ := ev_23.symm; clear ev_23; subst z_; have z_ := ev_22.symm; clear ev_22; subst z_; have z_ := ev_21.symm; clear ev_21; subst z_; have z_ := ev_20.symm; clear ev_20; subst z_; have z_ := ev_17.symm; clear ev_17; subst z_; have z_ := ev_15.symm; clear ev_15; subst z_; have z_ := er_14.symm; clear er_14; subst z_; have z_ := ev_11.symm; clear ev_11; subst z_; have z_ := ev_9.symm; clear ev_9; subst z_; have z_ := ev_6.symm; clear ev_6; subst z_; have z_ := ev_3.symm; clear ev_3; subst z_; exact (ldk_tI_good hp c_12 c_13 hfin).2.2.1) (by clear hP hD hl; have z_ := ev_37.symm; clear ev_37; subst z_; have z_ := ev_29.symm; clear ev_29; subst z_; have z_ := ev_26.symm; clear ev_26; subst z_; have z_ := ev_25.symm; clear ev_25; subst z_; have z_ := ev_23.symm; clear ev_23; subst z_; have z_ := ev_22.symm; clear ev_22; subst z_; have z_ := ev_21.symm; clear ev_21; subst z_; have z_ := ev_20.symm; clear ev_20; subst z_; have z_ := ev_17.symm; clear ev_17; subst z_; have z_ := ev_15.symm; clear ev_15; subst z_; have z_ := er_14.symm; clear er_14; subst z_; have z_ := ev_11.symm; clear ev_11; subst z_; have z_ := ev_9.symm; clear ev_9; subst z_; have z_ := ev_6.symm; clear ev_6; subst z_; have z_ := ev_3.symm; clear ev_3; subst z_; exact (ldk_tI_good hp c_12 c_13 hfin).2.2.2)) gX7_turn_X7_comes rfl rfl rfl (by decide +kernel) ⟨Nat.le_of_ble_eq_true rfl, Nat.le_of_ble_eq_true rfl⟩ rfl rfl rfl rfl rfl (Nat.le_of_ble_eq_true rfl) dX7_turn_296 ⟨Nat.zero_le _, Nat.zero_le _⟩ hPc hDc hF) (fun u H locs hw hP hD hS => ?_)
            obtain ⟨I_39, eI_39⟩ : ∃ x : (Nat → Int32), x = (sX7_comes (upd (upd J 22 v_37) 23 v_26) M f3 f4 f5 f6 f7 f8 q35 q36 q37 q39 q40 q41 v_21).1 := ⟨_, rfl⟩
            obtain ⟨L_40, eL_40⟩ : ∃ x : (Nat → Int64), x = (sX7_comes (upd (upd J 22 v_37) 23 v_26) M f3 f4 f5 f6 f7 f8 q35 q36 q37 q39 q40 q41 v_21).2.1 := ⟨_, rfl⟩
            obtain ⟨f_41, ef_41⟩ : ∃ x : (Nat → Int32), x = (sX7_comes (upd (upd J 22 v_37) 23 v_26) M f3 f4 f5 f6 f7 f8 q35 q36 q37 q39 q40 q41 v_21).2.2.1 := ⟨_, rfl⟩
            obtain ⟨f_42, ef_42⟩ : ∃ x : (Nat → Int32), x = (sX7_comes (upd (upd J 22 v_37) 23 v_26) M f3 f4 f5 f6 f7 f8 q35 q36 q37 q39 q40 q41 v_21).2.2.2.1 := ⟨_, rfl⟩
            obtain ⟨f_43, ef_43⟩ : ∃ x : (Nat → Int32), x = (sX7_comes (upd (upd J 22 v_37) 23 v_26) M f3 f4 f5 f6 f7 f8 q35 q36 q37 q39 q40 q41 v_21).2.2.2.2.1 := ⟨_, rfl⟩
            obtain ⟨f_44, ef_44⟩ : ∃ x : (Nat → Int32), x = (sX7_comes (upd (upd J 22 v_37) 23 v_26) M f3 f4 f5 f6 f7 f8 q35 q36 q37 q39 q40 q41 v_21).2.2.2.2.2.1 := ⟨_, rfl⟩
            obtain ⟨f_45, ef_45⟩ : ∃ x : (Nat → Int32), x = (sX7_comes (upd (upd J 22 v_37) 23 v_26) M f3 f4 f5 f6 f7 f8 q35 q36 q37 q39 q40 q41 v_21).2.2.2.2.2.2.1 := ⟨_, rfl⟩
            obtain ⟨f_46, ef_46⟩ : ∃ x : (Nat → Int64), x = (sX7_comes (upd (upd J 22 v_37) 23 v_26) M f3 f4 f5 f6 f7 f8 q35 q36 q37 q39 q40 q41 v_21).2.2.2.2.2.2.2 := ⟨_, rfl⟩
            have hP : va_P D vwCl [(h, .inr (7, (oX7 R I_39 L_40))), ((R 3), .inl (cI, 160, .inl f3)), ((R 4), .inl (cI, 160, .inl f4)), ((R 5), .inl (cI, 160, .inl f5)), ((R 6), .inl (cI, 160, .inl f6)), ((R 7), .inl (cI, 160, .inl f7)), ((R 8), .inl (cJ, 160, .inr (.inl f8))), ((R 35), .inl (cI, 64, .inl f_41)), ((R 36), .inl (cI, 64, .inl f_42)), ((R 37), .inl (cI, 64, .inl f_43)), ((R 39), .inl (cZ, 2, .inl f_44)), ((R 40), .inl (cZ, 2, .inl f_45)), ((R 41), .inl (cJ, 2, .inr (.inl f_46)))] H := by rw [eI_39, eL_40, ef_41, ef_42, ef_43, ef_44, ef_45, ef_46]; exact hP
            have hD : va_D A [(h, .inr (7, (oX7 R I_39 L_40))), ((R 3), .inl (cI, 160, .inl f3)), ((R 4), .inl (cI, 160, .inl f4)), ((R 5), .inl (cI, 160, .inl f5)), ((R 6), .inl (cI, 160, .inl f6)), ((R 7), .inl (cI, 160, .inl f7)), ((R 8), .inl (cJ, 160, .inr (.inl f8))), ((R 35), .inl (cI, 64, .inl f_41)), ((R 36), .inl (cI, 64, .inl f_42)), ((R 37), .inl (cI, 64, .inl f_43)), ((R 39), .inl (cZ, 2, .inl f_44)), ((R 40), .inl (cZ, 2, .inl f_45)), ((R 41), .inl (cJ, 2, .inr (.inl f_46)))] := by rw [eI_39, eL_40, ef_41, ef_42, ef_43, ef_44, ef_45, ef_46]; exact hD
            refine lv_aload_n hx hb dX7_turn_299 rfl (lv_at hl 5 rfl) ?_
            refine lv_iload hx hb dX7_turn_300 (lv_at hl 1 rfl) ?_
            refine jx_joini (J := 313) (v := (if v_29 = 0 then (I_39 21) else (0 : Int32))) (rest := [.ref h]) (fun key => ?_) ?_
            · skip
              refine lv_if_eq (tgt := 309) hx hb dX7_turn_302 (by decide) (fun c_47 => ?_) (fun c_47 => ?_)
              · skip
                refine lv_aload_n hx hb dX7_turn_309 rfl (lv_at hl 5 rfl) ?_
                refine jx_get (v := .int (I_39 21)) hx hb hts iX7_turn_7 hown hK hP 0 rfl rfl 21 (by decide) hk151 rfl rfl dX7_turn_310 ?_
                rw [if_pos c_47] at key
                exact key
              · skip
                refine lv_iconst (v := 0) hx hb dX7_turn_305 (by decide) ?_
                refine lv_goto (tgt := 313) hx hb dX7_turn_306 (by decide) ?_
                rw [if_neg c_47] at key
                exact key
            refine lv_topi (fun v_48 ev_48 => ?_)
            refine jx_put (w2 := [(h, .inr (7, (oX7 R (upd I_39 21 v_48) L_40))), ((R 3), .inl (cI, 160, .inl f3)), ((R 4), .inl (cI, 160, .inl f4)), ((R 5), .inl (cI, 160, .inl f5)), ((R 6), .inl (cI, 160, .inl f6)), ((R 7), .inl (cI, 160, .inl f7)), ((R 8), .inl (cJ, 160, .inr (.inl f8))), ((R 35), .inl (cI, 64, .inl f_41)), ((R 36), .inl (cI, 64, .inl f_42)), ((R 37), .inl (cI, 64, .inl f_43)), ((R 39), .inl (cZ, 2, .inl f_44)), ((R 40), .inl (cZ, 2, .inl f_45)), ((R 41), .inl (cJ, 2, .inr (.inl f_46)))]) hx hb hts iX7_turn_7 tyX7 tyX7_ok nmX7 hown hK hP hD hS 0 rfl rfl 21 (by decide) hk151 rfl rfl rfl rfl (Nat.le_of_ble_eq_true rfl) dX7_turn_313 rfl (fun H locs hP hD hS => ?_)
            refine lv_goto (tgt := 85) hx hb dX7_turn_316 (by decide) ?_
            exact ih (v_23, v_22, (upd I_39 21 v_48), L_40, f_41, f_42, f_43, f_44, f_45, f_46, nn - 1, ()) _ _ _ ⟨hP, hD, hS, lv_sub hl [5, 6, 2, 3] rfl, (show ldk_tI f3 f4 f5 f6 f7 f8 (ldk_tZ I L f3 f4 f5 f6 f7 f8 f35 f36 f37 f39 f40 f41 a0) (nn - 1) v_23 v_22 ((upd I_39 21 v_48), L_40, f_41, f_42, f_43, f_44, f_45, f_46) from (by clear hP hD hl; have z_ := ev_48.symm; clear ev_48; subst z_; have z_ := ef_46.symm; clear ef_46; subst z_; have z_ := ef_45.symm; clear ef_45; subst z_; have z_ := ef_44.symm; clear ef_44; subst z_; have z_ := ef_43.symm; clear ef_43; subst z_; have z_ := ef_42.symm; clear ef_42; subst z_; have z_ := ef_41.symm; clear ef_41; subst z_; have z_ := eL_40.symm; clear eL_40; subst z_; have z_ := eI_39.symm; clear eI_39; subst z_; have z_ := ev_37.symm; clear ev_37; subst z_; have z_ := ev_29.symm; clear ev_29; subst z_; have z_ := ev_26.symm; clear ev_26; subst z_; have z_ := ev_25.symm; clear ev_25; subst z_; have z_ := ev_23.symm; clear ev_23; subst z_; have z_ := ev_22.symm; clear ev_22; subst z_; have z_ := ev_21.symm; clear ev_21; subst z_; have z_ := ev_20.symm; clear ev_20; subst z_; have z_ := ev_17.symm; clear ev_17; subst z_; have z_ := ev_15.symm; clear ev_15; subst z_; have z_ := er_14.symm; clear er_14; subst z_; have z_ := ev_11.symm; clear ev_11; subst z_; have z_ := ev_9.symm; clear ev_9; subst z_; have z_ := ev_6.symm; clear ev_6; subst z_; have z_ := ev_3.symm; clear ev_3; subst z_; exact ldk_tI_a hp c_12 c_13 hfin))⟩ (show (nn - 1) < nn from (by clear hP hD hl; have z_ := ev_48.symm; clear ev_48; subst z_; have z_ := ef_46.symm; clear ef_46; subst z_; have z_ := ef_45.symm; clear ef_45; subst z_; have z_ := ef_44.symm; clear ef_44; subst z_; have z_ := ef_43.symm; clear ef_43; subst z_; have z_ := ef_42.symm; clear ef_42; subst z_; have z_ := ef_41.symm; clear ef_41; subst z_; have z_ := eL_40.symm; clear eL_40; subst z_; have z_ := eI_39.symm; clear eI_39; subst z_; have z_ := ev_37.symm; clear ev_37; subst z_; have z_ := ev_29.symm; clear ev_29; subst z_; have z_ := ev_26.symm; clear ev_26; subst z_; have z_ := ev_25.symm; clear ev_25; subst z_; have z_ := ev_23.symm; clear ev_23; subst z_; have z_ := ev_22.symm; clear ev_22; subst z_; have z_ := ev_21.symm; clear ev_21; subst z_; have z_ := ev_20.symm; clear ev_20; subst z_; have z_ := ev_17.symm; clear ev_17; subst z_; have z_ := ev_15.symm; clear ev_15; subst z_; have z_ := er_14.symm; clear er_14; subst z_; have z_ := ev_11.symm; clear ev_11; subst z_; have z_ := ev_9.symm; clear ev_9; subst z_; have z_ := ev_6.symm; clear ev_6; subst z_; have z_ := ev_3.symm; clear ev_3; subst z_; exact (ldk_tI_step hp c_12 c_13).2))
    · skip
      refine lv_iload hx hb dX7_turn_319 (lv_at hl 3 rfl) ?_
      refine lv_i2d hx hb dX7_turn_321 ?_
      refine lv_ldc2d hx hb hown (hts (.constantDouble RX7 230 (4625196817309499392)) (by decide +kernel)) dX7_turn_322 ?_
      refine lv_ddiv hx hb dX7_turn_325 (hn _) ?_
      have hq : (sX7_turn I L f3 f4 f5 f6 f7 f8 f35 f36 f37 f39 f40 f41 a0) = ((FP.ddiv (FP.i2d gg) (4625196817309499392 : UInt64)), J, M, q35, q36, q37, q39, q40, q41) := (by clear hP hD hl; have z_ := ev_11.symm; clear ev_11; subst z_; have z_ := ev_9.symm; clear ev_9; subst z_; have z_ := ev_6.symm; clear ev_6; subst z_; have z_ := ev_3.symm; clear ev_3; subst z_; unfold sX7_turn; rw [hfin]; exact if_pos c_10)
      exact jx_dret () hx hb hr hlocks hK hP hD hS (by rw [hq]) (by rw [hq]) dX7_turn_326
  · skip
    refine lv_dconst0 hx hb dX7_turn_70 ?_
    have hq : (sX7_turn I L f3 f4 f5 f6 f7 f8 f35 f36 f37 f39 f40 f41 a0) = (FP.dconst0, (upd I 0 v_9), L, f35, f36, f37, f39, f40, f41) := (by clear hP hD hl; have z_ := ev_9.symm; clear ev_9; subst z_; have z_ := ev_6.symm; clear ev_6; subst z_; have z_ := ev_3.symm; clear ev_3; subst z_; exact if_neg c_10)
    exact jx_dret () hx hb hr hlocks hK hP hD hS (by rw [hq]) (by rw [hq]) dX7_turn_71

