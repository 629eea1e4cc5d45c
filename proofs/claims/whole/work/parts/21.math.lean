def sJ9_floorMod_7cf53 (a0 : Int32) (a1 : Int32) : Int32 := (if 0 ≤ (a0 ^^^ a1) then (a0 - a0 / a1 * a1) else (if (a0 - a0 / a1 * a1) = 0 then (a0 - a0 / a1 * a1) else ((a0 - a0 / a1 * a1) + a1)))
set_option maxHeartbeats 4000000 in
set_option maxRecDepth 100000 in
theorem kJ9_floorMod_7cf53 (l : Launch) (D : va_G) (cI cJ cZ cD : ClassId) (tA : Nat) (a0 : Int32) (a1 : Int32) (hn0 : ¬ a1 = 0) : jx_M l yJ9_floorMod_7cf53 wsJ9_floorMod_7cf53 ({ frames := 0, cells := 0, slots := 0, locals := 0 }) D (jT cI cJ cZ cD) tA [.int a0, .int a1] [] (jx_Qi D (jT cI cJ cZ cD) (fun r (_ : Unit) => r = (sJ9_floorMod_7cf53 a0 a1)) (fun _ => [])) := by
  refine jx_of (cc := cJ9_floorMod_7cf53) (maxL := 3) (ret := (some .int)) (by decide) rfl (by decide) ?_
  intro p e s m below meth c A ls hx hb hr hlocks hml hown hts hK hP hD hA hS hX hl
  have hl : lv_has ls 3 [(0, .int a0), (1, .int a1)] := hl
  have hown : s.vm.findClass RJ9 = some m.cls := hown
  refine lv_iload_n hx hb dJ9_floorMod_7cf53_0 rfl (lv_at hl 0 rfl) ?_
  refine lv_iload_n hx hb dJ9_floorMod_7cf53_1 rfl (lv_at hl 1 rfl) ?_
  refine lv_irem hx hb dJ9_floorMod_7cf53_2 hn0 ?_
  refine lv_istore_n (lv' := [(2, .int (a0 - a0 / a1 * a1)), (0, .int a0), (1, .int a1)]) hx hb dJ9_floorMod_7cf53_3 rfl hl (by decide) rfl (fun ls hl => ?_)
  refine lv_iload_n hx hb dJ9_floorMod_7cf53_4 rfl (lv_at hl 1 rfl) ?_
  refine lv_iload_n hx hb dJ9_floorMod_7cf53_5 rfl (lv_at hl 2 rfl) ?_
  refine lv_ixor hx hb dJ9_floorMod_7cf53_6 ?_
  refine lv_if_ge (tgt := 18) hx hb dJ9_floorMod_7cf53_7 (by decide) (fun c_1 => ?_) (fun c_1 => ?_)
  · skip
    refine lv_iload_n hx hb dJ9_floorMod_7cf53_18 rfl (lv_at hl 0 rfl) ?_
    have hq : (sJ9_floorMod_7cf53 a0 a1) = (a0 - a0 / a1 * a1) := by first | (rw [sJ9_floorMod_7cf53, if_pos c_1]; done) | simp only [sJ9_floorMod_7cf53, if_pos c_1]
    exact jx_iret () hx hb hr hlocks hK hP hD hS rfl (by rw [hq]) dJ9_floorMod_7cf53_19
  · skip
    refine lv_iload_n hx hb dJ9_floorMod_7cf53_10 rfl (lv_at hl 0 rfl) ?_
    refine lv_if_eq (tgt := 18) hx hb dJ9_floorMod_7cf53_11 (by decide) (fun c_2 => ?_) (fun c_2 => ?_)
    · skip
      refine lv_iload_n hx hb dJ9_floorMod_7cf53_18 rfl (lv_at hl 0 rfl) ?_
      have hq : (sJ9_floorMod_7cf53 a0 a1) = (a0 - a0 / a1 * a1) := by first | (rw [sJ9_floorMod_7cf53, if_neg c_1, if_pos c_2]; done) | simp only [sJ9_floorMod_7cf53, if_neg c_1, if_pos c_2]
      exact jx_iret () hx hb hr hlocks hK hP hD hS rfl (by rw [hq]) dJ9_floorMod_7cf53_19
    · skip
      refine lv_iload_n hx hb dJ9_floorMod_7cf53_14 rfl (lv_at hl 0 rfl) ?_
      refine lv_iload_n hx hb dJ9_floorMod_7cf53_15 rfl (lv_at hl 2 rfl) ?_
      refine lv_iadd hx hb dJ9_floorMod_7cf53_16 ?_
      have hq : (sJ9_floorMod_7cf53 a0 a1) = ((a0 - a0 / a1 * a1) + a1) := by first | (rw [sJ9_floorMod_7cf53, if_neg c_1, if_neg c_2]; done) | simp only [sJ9_floorMod_7cf53, if_neg c_1, if_neg c_2]
      exact jx_iret () hx hb hr hlocks hK hP hD hS rfl (by rw [hq]) dJ9_floorMod_7cf53_17

def sJ9_floorDiv_f86c9 (a0 : Int64) (a1 : Int64) : Int64 := (if (0 : Int64) ≤ (a0 ^^^ a1) then (a0 / a1) else (if ((a0 / a1) * a1) = a0 then (a0 / a1) else ((a0 / a1) - (1 : Int64))))
set_option maxHeartbeats 4000000 in
set_option maxRecDepth 100000 in
theorem kJ9_floorDiv_f86c9 (l : Launch) (D : va_G) (cI cJ cZ cD : ClassId) (tA : Nat) (a0 : Int64) (a1 : Int64) (hn0 : ¬ a1 = 0) : jx_M l yJ9_floorDiv_f86c9 wsJ9_floorDiv_f86c9 ({ frames := 0, cells := 0, slots := 0, locals := 0 }) D (jT cI cJ cZ cD) tA [.long a0, .long a1] [] (jx_Ql D (jT cI cJ cZ cD) (fun r (_ : Unit) => r = (sJ9_floorDiv_f86c9 a0 a1)) (fun _ => [])) := by
  refine jx_of (cc := cJ9_floorDiv_f86c9) (maxL := 6) (ret := (some .long)) (by decide) rfl (by decide) ?_
  intro p e s m below meth c A ls hx hb hr hlocks hml hown hts hK hP hD hA hS hX hl
  have hl : lv_has ls 6 [(0, .long a0), (2, .long a1)] := hl
  have hown : s.vm.findClass RJ9 = some m.cls := hown
  refine lv_lload_n hx hb dJ9_floorDiv_f86c9_0 rfl (lv_at hl 0 rfl) ?_
  refine lv_lload_n hx hb dJ9_floorDiv_f86c9_1 rfl (lv_at hl 1 rfl) ?_
  refine lv_ldiv hx hb dJ9_floorDiv_f86c9_2 hn0 ?_
  refine lv_lstore (lv' := [(4, .long (a0 / a1)), (0, .long a0), (2, .long a1)]) hx hb dJ9_floorDiv_f86c9_3 hl (by decide) rfl (fun ls hl => ?_)
  refine lv_lload_n hx hb dJ9_floorDiv_f86c9_5 rfl (lv_at hl 1 rfl) ?_
  refine lv_lload_n hx hb dJ9_floorDiv_f86c9_6 rfl (lv_at hl 2 rfl) ?_
  refine lv_lxor hx hb dJ9_floorDiv_f86c9_7 ?_
  refine lv_lconst (v := 0) hx hb dJ9_floorDiv_f86c9_8 (by decide) ?_
  refine jx_l_ge (tgt := 27) hx hb dJ9_floorDiv_f86c9_9 dJ9_floorDiv_f86c9_10 (by decide) (fun c_1 => ?_) (fun c_1 => ?_)
  · skip
    refine lv_lload hx hb dJ9_floorDiv_f86c9_27 (lv_at hl 0 rfl) ?_
    have hq : (sJ9_floorDiv_f86c9 a0 a1) = (a0 / a1) := by first | (rw [sJ9_floorDiv_f86c9, if_pos c_1]; done) | simp only [sJ9_floorDiv_f86c9, if_pos c_1]
    exact jx_lret () hx hb hr hlocks hK hP hD hS rfl (by rw [hq]) dJ9_floorDiv_f86c9_29
  · skip
    refine lv_lload hx hb dJ9_floorDiv_f86c9_13 (lv_at hl 0 rfl) ?_
    refine lv_lload_n hx hb dJ9_floorDiv_f86c9_15 rfl (lv_at hl 2 rfl) ?_
    refine lv_lmul hx hb dJ9_floorDiv_f86c9_16 ?_
    refine lv_lload_n hx hb dJ9_floorDiv_f86c9_17 rfl (lv_at hl 1 rfl) ?_
    refine jx_l_eq (tgt := 27) hx hb dJ9_floorDiv_f86c9_18 dJ9_floorDiv_f86c9_19 (by decide) (fun c_2 => ?_) (fun c_2 => ?_)
    · skip
      refine lv_lload hx hb dJ9_floorDiv_f86c9_27 (lv_at hl 0 rfl) ?_
      have hq : (sJ9_floorDiv_f86c9 a0 a1) = (a0 / a1) := by first | (rw [sJ9_floorDiv_f86c9, if_neg c_1, if_pos c_2]; done) | simp only [sJ9_floorDiv_f86c9, if_neg c_1, if_pos c_2]
      exact jx_lret () hx hb hr hlocks hK hP hD hS rfl (by rw [hq]) dJ9_floorDiv_f86c9_29
    · skip
      refine lv_lload hx hb dJ9_floorDiv_f86c9_22 (lv_at hl 0 rfl) ?_
      refine lv_lconst (v := 1) hx hb dJ9_floorDiv_f86c9_24 (by decide) ?_
      refine lv_lsub hx hb dJ9_floorDiv_f86c9_25 ?_
      have hq : (sJ9_floorDiv_f86c9 a0 a1) = ((a0 / a1) - (1 : Int64)) := by first | (rw [sJ9_floorDiv_f86c9, if_neg c_1, if_neg c_2]; done) | simp only [sJ9_floorDiv_f86c9, if_neg c_1, if_neg c_2]
      exact jx_lret () hx hb hr hlocks hK hP hD hS rfl (by rw [hq]) dJ9_floorDiv_f86c9_26

theorem jx_fm64 (x : Int32) : vp_in (sJ9_floorMod_7cf53 x 64) 64 := by
  sorry

