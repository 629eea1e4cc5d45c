section JXLDCW
variable {p : Program} {l : Launch} {e : Env} {R : Room} {s : State} {m : MethodId} {args : Array Value} {below : List Frame} {meth : Method} {c : Code} {H : Heap} {locs : List Loc} {cells slots : Nat} {Q : State → Prop} {cc : ByteArray} {pc : Nat} {ls : Array Slot} {rest : List Value}
theorem jx_ldcwf (hexec : p.tables.exec = Jvm.exec) (hb : c.code = cc) {own : String} {index : Nat} {v : UInt32} (hown : s.vm.findClass own = some m.cls) (hconst : (Jvm.Cond.constantFloat own index v).before args s = true) (hdg : decode cc pc = .ok (.ldc_w index, 3)) (k : W p l e R s m args below meth c H locs cells slots Q (F0 m (pc + 3) ls (.float v :: rest))) : W p l e R s m args below meth c H locs cells slots Q (F0 m pc ls rest) := by
  intro T hT X
  obtain ⟨t, a, b⟩ := k T hT X
  refine ⟨t, ?_, b⟩
  obtain ⟨kc, cf, hk, hcf, hcp⟩ := Cond.constantFloat_spec hown hconst
  obtain ⟨k', hk', he⟩ := X.warmed.alike.2.2 _ _ hk
  jvm_step X.here [hexec, hb, hdg, ldc_w.wp_float (s := T) (f := F0 m pc ls rest) X.here.top hk' (by rw [he]; exact hcf) hcp]
  exact a
end JXLDCW
def sX7_letOff (I : Nat → Int32) (a0 : UInt32) : Int32 × (Nat → Int32) := (if (Op.cmpValue (FP.fcmp a0 (3463342888 : UInt32)) .l) < 0 then ((0 : Int32), (upd I 0 (0 : Int32))) else (if (Op.cmpValue (FP.fcmp a0 (1315859240 : UInt32)) .g) ≤ 0 then (((FP.d2l (FP.dmul (FP.f2d a0) (4620693217682128896 : UInt64))) - (FP.d2l (FP.dmul (FP.f2d a0) (4620693217682128896 : UInt64))) / (100 : Int64) * (100 : Int64)).toInt32, (upd I 0 (0 : Int32))) else ((0 : Int32), (upd I 0 (0 : Int32)))))
set_option maxRecDepth 20000 in
theorem iX7_letOff_7 : ∀ w ∈ wsX70, w ∈ wsX7_letOff := by decide +kernel
set_option maxHeartbeats 4000000 in
set_option maxRecDepth 100000 in
theorem kX7_letOff (l : Launch) (D : va_G) (cI cJ cZ cD : ClassId) (tA : Nat) (h : Nat) (R : Nat → Nat) (I : Nat → Int32) (L : Nat → Int64) (a0 : UInt32) (hnf : vf_n64 (FP.f2d a0)) (hn8 : vf_n64 (FP.dmul (FP.f2d a0) 4620693217682128896)) : jx_M l yX7_letOff wsX7_letOff ({ frames := 0, cells := 0, slots := 0, locals := 0 }) D (jT cI cJ cZ cD) tA [.ref h, .float a0] [(h, .inr (7, (oX7 R I L)))] (jx_Qi D (jT cI cJ cZ cD) (fun r (_ : Unit) => r = (sX7_letOff I a0).1) (fun _ => [(h, .inr (7, (oX7 R (sX7_letOff I a0).2 L)))])) := by
  refine jx_of (cc := cX7_letOff) (maxL := 2) (ret := (some .int)) (by decide +kernel) rfl (Nat.le_of_ble_eq_true rfl) ?_
  intro p e s m below meth c A ls hx hb hr hlocks hml hown hts hK hP hD hA hS hX hl
  have hl : lv_has ls 2 [(0, .ref h), (1, .float a0)] := hl
  have hown : s.vm.findClass RX7 = some m.cls := hown
  have hk74 := hts (.fieldLink RX7 74 "LoomDeskModel" "thrown" "I") (by decide +kernel)
  refine lv_aload_n hx hb dX7_letOff_0 rfl (lv_at hl 0 rfl) ?_
  refine lv_iconst (v := 0) hx hb dX7_letOff_1 (by decide) ?_
  refine jx_put (w2 := [(h, .inr (7, (oX7 R (upd I 0 (0 : Int32)) L)))]) hx hb hts iX7_letOff_7 tyX7 tyX7_ok nmX7 hown hK hP hD hS 0 rfl rfl 0 (by decide) hk74 rfl rfl rfl rfl (Nat.le_of_ble_eq_true rfl) dX7_letOff_2 rfl (fun H locs hP hD hS => ?_)
  refine lv_fload_n hx hb dX7_letOff_5 rfl (lv_at hl 1 rfl) ?_
  refine lv_ldcf hx hb hown (hts (.constantFloat RX7 255 (3463342888)) (by decide +kernel)) dX7_letOff_6 ?_
  refine lv_fcmp hx hb dX7_letOff_8 ?_
  refine lv_if_lt (tgt := 20) hx hb dX7_letOff_9 (by decide) (fun c_1 => ?_) (fun c_1 => ?_)
  · skip
    refine lv_iconst (v := 0) hx hb dX7_letOff_20 (by decide) ?_
    have hq : (sX7_letOff I a0) = ((0 : Int32), (upd I 0 (0 : Int32))) := by unfold sX7_letOff; exact (if_pos c_1)
    exact jx_iret () hx hb hr hlocks hK hP hD hS (by rw [hq]) (by rw [hq]) dX7_letOff_21
  · skip
    refine lv_fload_n hx hb dX7_letOff_12 rfl (lv_at hl 1 rfl) ?_
    refine jx_ldcwf hx hb hown (hts (.constantFloat RX7 256 (1315859240)) (by decide +kernel)) dX7_letOff_13 ?_
    refine lv_fcmp hx hb dX7_letOff_16 ?_
    refine lv_if_le (tgt := 22) hx hb dX7_letOff_17 (by decide) (fun c_2 => ?_) (fun c_2 => ?_)
    · skip
      refine lv_fload_n hx hb dX7_letOff_22 rfl (lv_at hl 1 rfl) ?_
      refine lv_f2d hx hb dX7_letOff_23 hnf ?_
      refine lv_ldc2d hx hb hown (hts (.constantDouble RX7 218 (4620693217682128896)) (by decide +kernel)) dX7_letOff_24 ?_
      refine lv_dmul hx hb dX7_letOff_27 hn8 ?_
      refine lv_d2l hx hb dX7_letOff_28 ?_
      refine lv_ldc2 hx hb hown (hts (.constantLong RX7 257 (100)) (by decide +kernel)) dX7_letOff_29 ?_
      refine lv_lrem hx hb dX7_letOff_32 (by decide) ?_
      refine lv_l2i hx hb dX7_letOff_33 rfl ?_
      have hq : (sX7_letOff I a0) = (((FP.d2l (FP.dmul (FP.f2d a0) (4620693217682128896 : UInt64))) - (FP.d2l (FP.dmul (FP.f2d a0) (4620693217682128896 : UInt64))) / (100 : Int64) * (100 : Int64)).toInt32, (upd I 0 (0 : Int32))) := by unfold sX7_letOff; exact (if_neg c_1).trans ((if_pos c_2))
      exact jx_iret () hx hb hr hlocks hK hP hD hS (by rw [hq]) (by rw [hq]) dX7_letOff_34
    · skip
      refine lv_iconst (v := 0) hx hb dX7_letOff_20 (by decide) ?_
      have hq : (sX7_letOff I a0) = ((0 : Int32), (upd I 0 (0 : Int32))) := by unfold sX7_letOff; exact (if_neg c_1).trans ((if_neg c_2))
      exact jx_iret () hx hb hr hlocks hK hP hD hS (by rw [hq]) (by rw [hq]) dX7_letOff_21

