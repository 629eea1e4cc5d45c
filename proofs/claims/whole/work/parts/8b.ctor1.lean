set_option maxRecDepth 20000 in
theorem iX4_init_4 : ∀ w ∈ wsX40, w ∈ wsX4_init := by decide +kernel
set_option maxHeartbeats 4000000 in
set_option maxRecDepth 100000 in
theorem kX4_init (l : Launch) (D : va_G) (cI cJ cZ cD : ClassId) (tA : Nat) (h : Nat) : jx_C l yX4_init wsX4_init ({ frames := 1, cells := 0, slots := 0, locals := 12 }) 0 0 D (jT cI cJ cZ cD) tA [.ref h] [(h, .inr (4, [.int (0 : Int32), .int (0 : Int32), .int (0 : Int32), .int (0 : Int32), .int (0 : Int32), .long (0 : Int64)]))] (jx_Qv D (jT cI cJ cZ cD) (fun (_ : (Nat → Nat)) => True) (fun u => [(h, .inr (4, (oX4 u (upd (fun _ => 0) 3 (960 : Int32)) (fun _ => 0))))])) := by
  refine jx_ofC (cc := cX4_init) (maxL := 1) (ret := none) (by decide +kernel) rfl rfl (Nat.le_of_ble_eq_true rfl) ?_
  intro p e s m below meth c A ls hx hb hr hlocks hml hown hnam hts hK hP hD hA hS hX hl
  have hl : lv_has ls 1 [(0, .ref h)] := hl
  have hown : s.vm.findClass RX4 = some m.cls := hown
  refine lv_aload_n hx hb dX4_init_0 rfl (lv_at hl 0 rfl) ?_
  refine jx_obj hx hb hown (hts (.methodLink RX4 3 objectInit) (by decide +kernel)) (hts (.instanceMethod objectInit) (by decide +kernel)) (hts (.code objectInit ⟨#[0xb1]⟩ 1 none) (by decide +kernel)) (hl.1.trans hml.symm) dX4_init_1 (Nat.le_of_ble_eq_true rfl) (Nat.le_of_ble_eq_true rfl) ?_
  refine lv_aload_n hx hb dX4_init_4 rfl (lv_at hl 0 rfl) ?_
  refine lv_iconst (v := 0) hx hb dX4_init_5 (by decide) ?_
  refine jx_put (w2 := [(h, .inr (4, [.int (0 : Int32), .int (0 : Int32), .int (0 : Int32), .int (0 : Int32), .int (0 : Int32), .long (0 : Int64)]))]) hx hb hts iX4_init_4 tyX4 tyX4_ok nmX4 hown hK hP hD hS 0 rfl rfl 0 (by decide) (hts (.fieldLink RX4 9 "LoomDesk$Shaft" "at" "I") (by decide +kernel)) rfl rfl rfl rfl (Nat.le_of_ble_eq_true rfl) dX4_init_6 rfl (fun H locs hP hD hS => ?_)
  refine lv_aload_n hx hb dX4_init_9 rfl (lv_at hl 0 rfl) ?_
  refine lv_iconst (v := 0) hx hb dX4_init_10 (by decide) ?_
  refine jx_put (w2 := [(h, .inr (4, [.int (0 : Int32), .int (0 : Int32), .int (0 : Int32), .int (0 : Int32), .int (0 : Int32), .long (0 : Int64)]))]) hx hb hts iX4_init_4 tyX4 tyX4_ok nmX4 hown hK hP hD hS 0 rfl rfl 1 (by decide) (hts (.fieldLink RX4 15 "LoomDesk$Shaft" "mode" "I") (by decide +kernel)) rfl rfl rfl rfl (Nat.le_of_ble_eq_true rfl) dX4_init_11 rfl (fun H locs hP hD hS => ?_)
  refine lv_aload_n hx hb dX4_init_14 rfl (lv_at hl 0 rfl) ?_
  refine lv_iconst (v := 0) hx hb dX4_init_15 (by decide) ?_
  refine jx_put (w2 := [(h, .inr (4, [.int (0 : Int32), .int (0 : Int32), .int (0 : Int32), .int (0 : Int32), .int (0 : Int32), .long (0 : Int64)]))]) hx hb hts iX4_init_4 tyX4 tyX4_ok nmX4 hown hK hP hD hS 0 rfl rfl 2 (by decide) (hts (.fieldLink RX4 18 "LoomDesk$Shaft" "toGo" "I") (by decide +kernel)) rfl rfl rfl rfl (Nat.le_of_ble_eq_true rfl) dX4_init_16 rfl (fun H locs hP hD hS => ?_)
  refine lv_aload_n hx hb dX4_init_19 rfl (lv_at hl 0 rfl) ?_
  refine lv_sipush (v := 960) hx hb dX4_init_20 (by decide) ?_
  refine jx_put (w2 := [(h, .inr (4, [.int (0 : Int32), .int (0 : Int32), .int (0 : Int32), .int (960 : Int32), .int (0 : Int32), .long (0 : Int64)]))]) hx hb hts iX4_init_4 tyX4 tyX4_ok nmX4 hown hK hP hD hS 0 rfl rfl 3 (by decide) (hts (.fieldLink RX4 21 "LoomDesk$Shaft" "pace" "I") (by decide +kernel)) rfl rfl rfl rfl (Nat.le_of_ble_eq_true rfl) dX4_init_23 rfl (fun H locs hP hD hS => ?_)
  refine lv_aload_n hx hb dX4_init_26 rfl (lv_at hl 0 rfl) ?_
  refine lv_iconst (v := 0) hx hb dX4_init_27 (by decide) ?_
  refine jx_put (w2 := [(h, .inr (4, [.int (0 : Int32), .int (0 : Int32), .int (0 : Int32), .int (960 : Int32), .int (0 : Int32), .long (0 : Int64)]))]) hx hb hts iX4_init_4 tyX4 tyX4_ok nmX4 hown hK hP hD hS 0 rfl rfl 4 (by decide) (hts (.fieldLink RX4 24 "LoomDesk$Shaft" "orders" "I") (by decide +kernel)) rfl rfl rfl rfl (Nat.le_of_ble_eq_true rfl) dX4_init_28 rfl (fun H locs hP hD hS => ?_)
  refine lv_aload_n hx hb dX4_init_31 rfl (lv_at hl 0 rfl) ?_
  refine lv_lconst (v := 0) hx hb dX4_init_32 (by decide) ?_
  refine jx_put (w2 := [(h, .inr (4, [.int (0 : Int32), .int (0 : Int32), .int (0 : Int32), .int (960 : Int32), .int (0 : Int32), .long (0 : Int64)]))]) hx hb hts iX4_init_4 tyX4 tyX4_ok nmX4 hown hK hP hD hS 0 rfl rfl 5 (by decide) (hts (.fieldLink RX4 27 "LoomDesk$Shaft" "turns" "J") (by decide +kernel)) rfl rfl rfl rfl (Nat.le_of_ble_eq_true rfl) dX4_init_33 rfl (fun H locs hP hD hS => ?_)
  refine W.widen (k := 0) (n := 0) (Nat.le_of_ble_eq_true rfl) (Nat.le_of_ble_eq_true rfl) ?_
  exact jx_vretC (fun _ => 0) hx hb hr hlocks hK hP hD hS rfl trivial dX4_init_36
set_option maxRecDepth 20000 in
theorem iX0_init_0 : ∀ w ∈ wsX00, w ∈ wsX0_init := by decide +kernel
set_option maxHeartbeats 4000000 in
set_option maxRecDepth 100000 in
theorem kX0_init (l : Launch) (D : va_G) (cI cJ cZ cD : ClassId) (tA : Nat) (h : Nat) : jx_C l yX0_init wsX0_init ({ frames := 1, cells := 3, slots := 192, locals := 12 }) 3 192 D (jT cI cJ cZ cD) tA [.ref h] [(h, .inr (0, [.null, .null, .null, .int (0 : Int32), .int (0 : Int32), .long (0 : Int64), .long (0 : Int64)]))] (jx_Qv D (jT cI cJ cZ cD) (fun (_ : (Nat → Nat)) => True) (fun u => [(h, .inr (0, (oX0 u (fun _ => 0) (fun _ => 0)))), ((u 0), .inl (cI, 64, .inl (fun _ => 0))), ((u 1), .inl (cI, 64, .inl (fun _ => 0))), ((u 2), .inl (cI, 64, .inl (fun _ => 0)))])) := by
  refine jx_ofC (cc := cX0_init) (maxL := 1) (ret := none) (by decide +kernel) rfl rfl (Nat.le_of_ble_eq_true rfl) ?_
  intro p e s m below meth c A ls hx hb hr hlocks hml hown hnam hts hK hP hD hA hS hX hl
  have hl : lv_has ls 1 [(0, .ref h)] := hl
  have hown : s.vm.findClass RX0 = some m.cls := hown
  refine lv_aload_n hx hb dX0_init_0 rfl (lv_at hl 0 rfl) ?_
  refine jx_obj hx hb hown (hts (.methodLink RX0 3 objectInit) (by decide +kernel)) (hts (.instanceMethod objectInit) (by decide +kernel)) (hts (.code objectInit ⟨#[0xb1]⟩ 1 none) (by decide +kernel)) (hl.1.trans hml.symm) dX0_init_1 (Nat.le_of_ble_eq_true rfl) (Nat.le_of_ble_eq_true rfl) ?_
  refine lv_aload_n hx hb dX0_init_4 rfl (lv_at hl 0 rfl) ?_
  refine lv_bipush (v := 64) hx hb dX0_init_5 (by decide) ?_
  refine jx_newi hx hb (hts (.arrayClass .int) (by decide +kernel)) hK hP hD hS hA 64 (by decide) (by decide) (by decide) (Nat.le_of_ble_eq_true rfl) (Nat.le_of_ble_eq_true rfl) dX0_init_7 (fun q7 H hP hD hS => ?_)
  have hP : va_P D vwCl [(h, .inr (0, [.null, .null, .null, .int (0 : Int32), .int (0 : Int32), .long (0 : Int64), .long (0 : Int64)])), (q7, .inl (cI, 64, .inl (fun _ => 0)))] H := hP
  have hD : va_D A [(h, .inr (0, [.null, .null, .null, .int (0 : Int32), .int (0 : Int32), .long (0 : Int64), .long (0 : Int64)])), (q7, .inl (cI, 64, .inl (fun _ => 0)))] := hD
  refine jx_putF (w2 := [(h, .inr (0, [.ref q7, .null, .null, .int (0 : Int32), .int (0 : Int32), .long (0 : Int64), .long (0 : Int64)])), (q7, .inl (cI, 64, .inl (fun _ => 0)))]) hx hb hts iX0_init_0 tyX0 tyX0_ok nmX0 hown hK hP hD hS 0 rfl rfl 0 (by decide) (hts (.fieldLink RX0 11 "LoomDesk$Cloth" "sheds" "[I") (by decide +kernel)) rfl rfl hnam rfl rfl rfl (Nat.le_of_ble_eq_true rfl) dX0_init_9 rfl (fun H locs hP hD hS => ?_)
  refine lv_aload_n hx hb dX0_init_12 rfl (lv_at hl 0 rfl) ?_
  refine lv_bipush (v := 64) hx hb dX0_init_13 (by decide) ?_
  refine jx_newi hx hb (hts (.arrayClass .int) (by decide +kernel)) hK hP hD hS hA 64 (by decide) (by decide) (by decide) (Nat.le_of_ble_eq_true rfl) (Nat.le_of_ble_eq_true rfl) dX0_init_15 (fun q15 H hP hD hS => ?_)
  have hP : va_P D vwCl [(h, .inr (0, [.ref q7, .null, .null, .int (0 : Int32), .int (0 : Int32), .long (0 : Int64), .long (0 : Int64)])), (q7, .inl (cI, 64, .inl (fun _ => 0))), (q15, .inl (cI, 64, .inl (fun _ => 0)))] H := hP
  have hD : va_D A [(h, .inr (0, [.ref q7, .null, .null, .int (0 : Int32), .int (0 : Int32), .long (0 : Int64), .long (0 : Int64)])), (q7, .inl (cI, 64, .inl (fun _ => 0))), (q15, .inl (cI, 64, .inl (fun _ => 0)))] := hD
  refine jx_putF (w2 := [(h, .inr (0, [.ref q7, .ref q15, .null, .int (0 : Int32), .int (0 : Int32), .long (0 : Int64), .long (0 : Int64)])), (q7, .inl (cI, 64, .inl (fun _ => 0))), (q15, .inl (cI, 64, .inl (fun _ => 0)))]) hx hb hts iX0_init_0 tyX0 tyX0_ok nmX0 hown hK hP hD hS 0 rfl rfl 1 (by decide) (hts (.fieldLink RX0 15 "LoomDesk$Cloth" "carriers" "[I") (by decide +kernel)) rfl rfl hnam rfl rfl rfl (Nat.le_of_ble_eq_true rfl) dX0_init_17 rfl (fun H locs hP hD hS => ?_)
  refine lv_aload_n hx hb dX0_init_20 rfl (lv_at hl 0 rfl) ?_
  refine lv_bipush (v := 64) hx hb dX0_init_21 (by decide) ?_
  refine jx_newi hx hb (hts (.arrayClass .int) (by decide +kernel)) hK hP hD hS hA 64 (by decide) (by decide) (by decide) (Nat.le_of_ble_eq_true rfl) (Nat.le_of_ble_eq_true rfl) dX0_init_23 (fun q23 H hP hD hS => ?_)
  have hP : va_P D vwCl [(h, .inr (0, [.ref q7, .ref q15, .null, .int (0 : Int32), .int (0 : Int32), .long (0 : Int64), .long (0 : Int64)])), (q7, .inl (cI, 64, .inl (fun _ => 0))), (q15, .inl (cI, 64, .inl (fun _ => 0))), (q23, .inl (cI, 64, .inl (fun _ => 0)))] H := hP
  have hD : va_D A [(h, .inr (0, [.ref q7, .ref q15, .null, .int (0 : Int32), .int (0 : Int32), .long (0 : Int64), .long (0 : Int64)])), (q7, .inl (cI, 64, .inl (fun _ => 0))), (q15, .inl (cI, 64, .inl (fun _ => 0))), (q23, .inl (cI, 64, .inl (fun _ => 0)))] := hD
  refine jx_putF (w2 := [(h, .inr (0, [.ref q7, .ref q15, .ref q23, .int (0 : Int32), .int (0 : Int32), .long (0 : Int64), .long (0 : Int64)])), (q7, .inl (cI, 64, .inl (fun _ => 0))), (q15, .inl (cI, 64, .inl (fun _ => 0))), (q23, .inl (cI, 64, .inl (fun _ => 0)))]) hx hb hts iX0_init_0 tyX0 tyX0_ok nmX0 hown hK hP hD hS 0 rfl rfl 2 (by decide) (hts (.fieldLink RX0 18 "LoomDesk$Cloth" "densities" "[I") (by decide +kernel)) rfl rfl hnam rfl rfl rfl (Nat.le_of_ble_eq_true rfl) dX0_init_25 rfl (fun H locs hP hD hS => ?_)
  refine lv_aload_n hx hb dX0_init_28 rfl (lv_at hl 0 rfl) ?_
  refine lv_iconst (v := 0) hx hb dX0_init_29 (by decide) ?_
  refine jx_put (w2 := [(h, .inr (0, [.ref q7, .ref q15, .ref q23, .int (0 : Int32), .int (0 : Int32), .long (0 : Int64), .long (0 : Int64)])), (q7, .inl (cI, 64, .inl (fun _ => 0))), (q15, .inl (cI, 64, .inl (fun _ => 0))), (q23, .inl (cI, 64, .inl (fun _ => 0)))]) hx hb hts iX0_init_0 tyX0 tyX0_ok nmX0 hown hK hP hD hS 0 rfl rfl 3 (by decide) (hts (.fieldLink RX0 21 "LoomDesk$Cloth" "next" "I") (by decide +kernel)) rfl rfl rfl rfl (Nat.le_of_ble_eq_true rfl) dX0_init_30 rfl (fun H locs hP hD hS => ?_)
  refine lv_aload_n hx hb dX0_init_33 rfl (lv_at hl 0 rfl) ?_
  refine lv_iconst (v := 0) hx hb dX0_init_34 (by decide) ?_
  refine jx_put (w2 := [(h, .inr (0, [.ref q7, .ref q15, .ref q23, .int (0 : Int32), .int (0 : Int32), .long (0 : Int64), .long (0 : Int64)])), (q7, .inl (cI, 64, .inl (fun _ => 0))), (q15, .inl (cI, 64, .inl (fun _ => 0))), (q23, .inl (cI, 64, .inl (fun _ => 0)))]) hx hb hts iX0_init_0 tyX0 tyX0_ok nmX0 hown hK hP hD hS 0 rfl rfl 4 (by decide) (hts (.fieldLink RX0 25 "LoomDesk$Cloth" "kept" "I") (by decide +kernel)) rfl rfl rfl rfl (Nat.le_of_ble_eq_true rfl) dX0_init_35 rfl (fun H locs hP hD hS => ?_)
  refine lv_aload_n hx hb dX0_init_38 rfl (lv_at hl 0 rfl) ?_
  refine lv_lconst (v := 0) hx hb dX0_init_39 (by decide) ?_
  refine jx_put (w2 := [(h, .inr (0, [.ref q7, .ref q15, .ref q23, .int (0 : Int32), .int (0 : Int32), .long (0 : Int64), .long (0 : Int64)])), (q7, .inl (cI, 64, .inl (fun _ => 0))), (q15, .inl (cI, 64, .inl (fun _ => 0))), (q23, .inl (cI, 64, .inl (fun _ => 0)))]) hx hb hts iX0_init_0 tyX0 tyX0_ok nmX0 hown hK hP hD hS 0 rfl rfl 5 (by decide) (hts (.fieldLink RX0 28 "LoomDesk$Cloth" "beaten" "J") (by decide +kernel)) rfl rfl rfl rfl (Nat.le_of_ble_eq_true rfl) dX0_init_40 rfl (fun H locs hP hD hS => ?_)
  refine lv_aload_n hx hb dX0_init_43 rfl (lv_at hl 0 rfl) ?_
  refine lv_lconst (v := 0) hx hb dX0_init_44 (by decide) ?_
  refine jx_put (w2 := [(h, .inr (0, [.ref q7, .ref q15, .ref q23, .int (0 : Int32), .int (0 : Int32), .long (0 : Int64), .long (0 : Int64)])), (q7, .inl (cI, 64, .inl (fun _ => 0))), (q15, .inl (cI, 64, .inl (fun _ => 0))), (q23, .inl (cI, 64, .inl (fun _ => 0)))]) hx hb hts iX0_init_0 tyX0 tyX0_ok nmX0 hown hK hP hD hS 0 rfl rfl 6 (by decide) (hts (.fieldLink RX0 32 "LoomDesk$Cloth" "taken" "J") (by decide +kernel)) rfl rfl rfl rfl (Nat.le_of_ble_eq_true rfl) dX0_init_45 rfl (fun H locs hP hD hS => ?_)
  refine W.widen (k := 3) (n := 192) (Nat.le_of_ble_eq_true rfl) (Nat.le_of_ble_eq_true rfl) ?_
  exact jx_vretC (va_up (va_up (va_up (fun _ => 0) 0 q7) 1 q15) 2 q23) hx hb hr hlocks hK hP hD hS rfl trivial dX0_init_48
set_option maxRecDepth 20000 in
theorem iX3_init_3 : ∀ w ∈ wsX30, w ∈ wsX3_init := by decide +kernel
set_option maxHeartbeats 4000000 in
set_option maxRecDepth 100000 in
theorem kX3_init (l : Launch) (D : va_G) (cI cJ cZ cD : ClassId) (tA : Nat) (h : Nat) : jx_C l yX3_init wsX3_init ({ frames := 1, cells := 2, slots := 4, locals := 12 }) 2 4 D (jT cI cJ cZ cD) tA [.ref h] [(h, .inr (3, [.null, .null, .int (0 : Int32)]))] (jx_Qv D (jT cI cJ cZ cD) (fun (_ : (Nat → Nat)) => True) (fun u => [(h, .inr (3, (oX3 u (fun _ => 0) (fun _ => 0)))), ((u 0), .inl (cI, 2, .inl (upd (upd (fun _ => 0) ((0 : Int32)).toNatClampNeg (-1 : Int32)) ((1 : Int32)).toNatClampNeg (-1 : Int32)))), ((u 1), .inl (cJ, 2, .inr (.inl (vp_updL (vp_updL (fun _ => 0) ((0 : Int32)).toNatClampNeg (0 : Int64)) ((1 : Int32)).toNatClampNeg (0 : Int64)))))])) := by
  refine jx_ofC (cc := cX3_init) (maxL := 1) (ret := none) (by decide +kernel) rfl rfl (Nat.le_of_ble_eq_true rfl) ?_
  intro p e s m below meth c A ls hx hb hr hlocks hml hown hnam hts hK hP hD hA hS hX hl
  have hl : lv_has ls 1 [(0, .ref h)] := hl
  have hown : s.vm.findClass RX3 = some m.cls := hown
  refine lv_aload_n hx hb dX3_init_0 rfl (lv_at hl 0 rfl) ?_
  refine jx_obj hx hb hown (hts (.methodLink RX3 3 objectInit) (by decide +kernel)) (hts (.instanceMethod objectInit) (by decide +kernel)) (hts (.code objectInit ⟨#[0xb1]⟩ 1 none) (by decide +kernel)) (hl.1.trans hml.symm) dX3_init_1 (Nat.le_of_ble_eq_true rfl) (Nat.le_of_ble_eq_true rfl) ?_
  refine lv_aload_n hx hb dX3_init_4 rfl (lv_at hl 0 rfl) ?_
  refine lv_iconst (v := 2) hx hb dX3_init_5 (by decide) ?_
  refine jx_newi hx hb (hts (.arrayClass .int) (by decide +kernel)) hK hP hD hS hA 2 (by decide) (by decide) (by decide) (Nat.le_of_ble_eq_true rfl) (Nat.le_of_ble_eq_true rfl) dX3_init_6 (fun q6 H hP hD hS => ?_)
  have hP : va_P D vwCl [(h, .inr (3, [.null, .null, .int (0 : Int32)])), (q6, .inl (cI, 2, .inl (fun _ => 0)))] H := hP
  have hD : va_D A [(h, .inr (3, [.null, .null, .int (0 : Int32)])), (q6, .inl (cI, 2, .inl (fun _ => 0)))] := hD
  refine lv_dup hx hb dX3_init_8 rfl ?_
  refine lv_iconst (v := 0) hx hb dX3_init_9 (by decide) ?_
  refine lv_iconst (v := -1) hx hb dX3_init_10 (by decide) ?_
  refine jx_iast (w2 := [(h, .inr (3, [.null, .null, .int (0 : Int32)])), (q6, .inl (cI, 2, .inl (upd (fun _ => 0) (0 : Int32).toNatClampNeg (-1 : Int32))))]) hx hb hK hP hD hS 1 0 rfl rfl (by rw [vp_in_iff]; decide) dX3_init_11 rfl (fun H locs hP hD hS => ?_)
  refine lv_dup hx hb dX3_init_12 rfl ?_
  refine lv_iconst (v := 1) hx hb dX3_init_13 (by decide) ?_
  refine lv_iconst (v := -1) hx hb dX3_init_14 (by decide) ?_
  refine jx_iast (w2 := [(h, .inr (3, [.null, .null, .int (0 : Int32)])), (q6, .inl (cI, 2, .inl (upd (upd (fun _ => 0) (0 : Int32).toNatClampNeg (-1 : Int32)) (1 : Int32).toNatClampNeg (-1 : Int32))))]) hx hb hK hP hD hS 1 0 rfl rfl (by rw [vp_in_iff]; decide) dX3_init_15 rfl (fun H locs hP hD hS => ?_)
  refine jx_putF (w2 := [(h, .inr (3, [.ref q6, .null, .int (0 : Int32)])), (q6, .inl (cI, 2, .inl (upd (upd (fun _ => 0) (0 : Int32).toNatClampNeg (-1 : Int32)) (1 : Int32).toNatClampNeg (-1 : Int32))))]) hx hb hts iX3_init_3 tyX3 tyX3_ok nmX3 hown hK hP hD hS 0 rfl rfl 0 (by decide) (hts (.fieldLink RX3 9 "LoomDesk$Records" "marks" "[I") (by decide +kernel)) rfl rfl hnam rfl rfl rfl (Nat.le_of_ble_eq_true rfl) dX3_init_16 rfl (fun H locs hP hD hS => ?_)
  refine lv_aload_n hx hb dX3_init_19 rfl (lv_at hl 0 rfl) ?_
  refine lv_iconst (v := 2) hx hb dX3_init_20 (by decide) ?_
  refine jx_newl hx hb (hts (.arrayClass .long) (by decide +kernel)) hK hP hD hS hA 2 (by decide) (by decide) (by decide) (Nat.le_of_ble_eq_true rfl) (Nat.le_of_ble_eq_true rfl) dX3_init_21 (fun q21 H hP hD hS => ?_)
  have hP : va_P D vwCl [(h, .inr (3, [.ref q6, .null, .int (0 : Int32)])), (q6, .inl (cI, 2, .inl (upd (upd (fun _ => 0) (0 : Int32).toNatClampNeg (-1 : Int32)) (1 : Int32).toNatClampNeg (-1 : Int32)))), (q21, .inl (cJ, 2, .inr (.inl (fun _ => 0))))] H := hP
  have hD : va_D A [(h, .inr (3, [.ref q6, .null, .int (0 : Int32)])), (q6, .inl (cI, 2, .inl (upd (upd (fun _ => 0) (0 : Int32).toNatClampNeg (-1 : Int32)) (1 : Int32).toNatClampNeg (-1 : Int32)))), (q21, .inl (cJ, 2, .inr (.inl (fun _ => 0))))] := hD
  refine lv_dup hx hb dX3_init_23 rfl ?_
  refine lv_iconst (v := 0) hx hb dX3_init_24 (by decide) ?_
  refine lv_lconst (v := 0) hx hb dX3_init_25 (by decide) ?_
  refine jx_last (w2 := [(h, .inr (3, [.ref q6, .null, .int (0 : Int32)])), (q6, .inl (cI, 2, .inl (upd (upd (fun _ => 0) (0 : Int32).toNatClampNeg (-1 : Int32)) (1 : Int32).toNatClampNeg (-1 : Int32)))), (q21, .inl (cJ, 2, .inr (.inl (vp_updL (fun _ => 0) (0 : Int32).toNatClampNeg (0 : Int64)))))]) hx hb hK hP hD hS 2 1 rfl rfl (by rw [vp_in_iff]; decide) dX3_init_26 rfl (fun H locs hP hD hS => ?_)
  refine lv_dup hx hb dX3_init_27 rfl ?_
  refine lv_iconst (v := 1) hx hb dX3_init_28 (by decide) ?_
  refine lv_lconst (v := 0) hx hb dX3_init_29 (by decide) ?_
  refine jx_last (w2 := [(h, .inr (3, [.ref q6, .null, .int (0 : Int32)])), (q6, .inl (cI, 2, .inl (upd (upd (fun _ => 0) (0 : Int32).toNatClampNeg (-1 : Int32)) (1 : Int32).toNatClampNeg (-1 : Int32)))), (q21, .inl (cJ, 2, .inr (.inl (vp_updL (vp_updL (fun _ => 0) (0 : Int32).toNatClampNeg (0 : Int64)) (1 : Int32).toNatClampNeg (0 : Int64)))))]) hx hb hK hP hD hS 2 1 rfl rfl (by rw [vp_in_iff]; decide) dX3_init_30 rfl (fun H locs hP hD hS => ?_)
  refine jx_putF (w2 := [(h, .inr (3, [.ref q6, .ref q21, .int (0 : Int32)])), (q6, .inl (cI, 2, .inl (upd (upd (fun _ => 0) (0 : Int32).toNatClampNeg (-1 : Int32)) (1 : Int32).toNatClampNeg (-1 : Int32)))), (q21, .inl (cJ, 2, .inr (.inl (vp_updL (vp_updL (fun _ => 0) (0 : Int32).toNatClampNeg (0 : Int64)) (1 : Int32).toNatClampNeg (0 : Int64)))))]) hx hb hts iX3_init_3 tyX3 tyX3_ok nmX3 hown hK hP hD hS 0 rfl rfl 1 (by decide) (hts (.fieldLink RX3 15 "LoomDesk$Records" "places" "[J") (by decide +kernel)) rfl rfl hnam rfl rfl rfl (Nat.le_of_ble_eq_true rfl) dX3_init_31 rfl (fun H locs hP hD hS => ?_)
  refine lv_aload_n hx hb dX3_init_34 rfl (lv_at hl 0 rfl) ?_
  refine lv_iconst (v := 0) hx hb dX3_init_35 (by decide) ?_
  refine jx_put (w2 := [(h, .inr (3, [.ref q6, .ref q21, .int (0 : Int32)])), (q6, .inl (cI, 2, .inl (upd (upd (fun _ => 0) (0 : Int32).toNatClampNeg (-1 : Int32)) (1 : Int32).toNatClampNeg (-1 : Int32)))), (q21, .inl (cJ, 2, .inr (.inl (vp_updL (vp_updL (fun _ => 0) (0 : Int32).toNatClampNeg (0 : Int64)) (1 : Int32).toNatClampNeg (0 : Int64)))))]) hx hb hts iX3_init_3 tyX3 tyX3_ok nmX3 hown hK hP hD hS 0 rfl rfl 2 (by decide) (hts (.fieldLink RX3 19 "LoomDesk$Records" "last" "I") (by decide +kernel)) rfl rfl rfl rfl (Nat.le_of_ble_eq_true rfl) dX3_init_36 rfl (fun H locs hP hD hS => ?_)
  refine W.widen (k := 2) (n := 4) (Nat.le_of_ble_eq_true rfl) (Nat.le_of_ble_eq_true rfl) ?_
  exact jx_vretC (va_up (va_up (fun _ => 0) 0 q6) 1 q21) hx hb hr hlocks hK hP hD hS rfl trivial dX3_init_39
set_option maxRecDepth 20000 in
theorem iX5_init_5 : ∀ w ∈ wsX50, w ∈ wsX5_init := by decide +kernel
set_option maxHeartbeats 4000000 in
set_option maxRecDepth 100000 in
theorem kX5_init (l : Launch) (D : va_G) (cI cJ cZ cD : ClassId) (tA : Nat) (h : Nat) : jx_C l yX5_init wsX5_init ({ frames := 1, cells := 1, slots := 160, locals := 12 }) 1 160 D (jT cI cJ cZ cD) tA [.ref h] [(h, .inr (5, [.null, .int (0 : Int32)]))] (jx_Qv D (jT cI cJ cZ cD) (fun (_ : (Nat → Nat)) => True) (fun u => [(h, .inr (5, (oX5 u (fun _ => 0) (fun _ => 0)))), ((u 0), .inl (cI, 160, .inl (fun _ => 0)))])) := by
  refine jx_ofC (cc := cX5_init) (maxL := 1) (ret := none) (by decide +kernel) rfl rfl (Nat.le_of_ble_eq_true rfl) ?_
  intro p e s m below meth c A ls hx hb hr hlocks hml hown hnam hts hK hP hD hA hS hX hl
  have hl : lv_has ls 1 [(0, .ref h)] := hl
  have hown : s.vm.findClass RX5 = some m.cls := hown
  refine lv_aload_n hx hb dX5_init_0 rfl (lv_at hl 0 rfl) ?_
  refine jx_obj hx hb hown (hts (.methodLink RX5 3 objectInit) (by decide +kernel)) (hts (.instanceMethod objectInit) (by decide +kernel)) (hts (.code objectInit ⟨#[0xb1]⟩ 1 none) (by decide +kernel)) (hl.1.trans hml.symm) dX5_init_1 (Nat.le_of_ble_eq_true rfl) (Nat.le_of_ble_eq_true rfl) ?_
  refine lv_aload_n hx hb dX5_init_4 rfl (lv_at hl 0 rfl) ?_
  refine lv_sipush (v := 160) hx hb dX5_init_5 (by decide) ?_
  refine jx_newi hx hb (hts (.arrayClass .int) (by decide +kernel)) hK hP hD hS hA 160 (by decide) (by decide) (by decide) (Nat.le_of_ble_eq_true rfl) (Nat.le_of_ble_eq_true rfl) dX5_init_8 (fun q8 H hP hD hS => ?_)
  have hP : va_P D vwCl [(h, .inr (5, [.null, .int (0 : Int32)])), (q8, .inl (cI, 160, .inl (fun _ => 0)))] H := hP
  have hD : va_D A [(h, .inr (5, [.null, .int (0 : Int32)])), (q8, .inl (cI, 160, .inl (fun _ => 0)))] := hD
  refine jx_putF (w2 := [(h, .inr (5, [.ref q8, .int (0 : Int32)])), (q8, .inl (cI, 160, .inl (fun _ => 0)))]) hx hb hts iX5_init_5 tyX5 tyX5_ok nmX5 hown hK hP hD hS 0 rfl rfl 0 (by decide) (hts (.fieldLink RX5 11 "LoomDesk$Tape" "chars" "[I") (by decide +kernel)) rfl rfl hnam rfl rfl rfl (Nat.le_of_ble_eq_true rfl) dX5_init_10 rfl (fun H locs hP hD hS => ?_)
  refine lv_aload_n hx hb dX5_init_13 rfl (lv_at hl 0 rfl) ?_
  refine lv_iconst (v := 0) hx hb dX5_init_14 (by decide) ?_
  refine jx_put (w2 := [(h, .inr (5, [.ref q8, .int (0 : Int32)])), (q8, .inl (cI, 160, .inl (fun _ => 0)))]) hx hb hts iX5_init_5 tyX5 tyX5_ok nmX5 hown hK hP hD hS 0 rfl rfl 1 (by decide) (hts (.fieldLink RX5 15 "LoomDesk$Tape" "size" "I") (by decide +kernel)) rfl rfl rfl rfl (Nat.le_of_ble_eq_true rfl) dX5_init_15 rfl (fun H locs hP hD hS => ?_)
  refine W.widen (k := 1) (n := 160) (Nat.le_of_ble_eq_true rfl) (Nat.le_of_ble_eq_true rfl) ?_
  exact jx_vretC (va_up (fun _ => 0) 0 q8) hx hb hr hlocks hK hP hD hS rfl trivial dX5_init_18
set_option maxRecDepth 20000 in
theorem iX1_init_1 : ∀ w ∈ wsX10, w ∈ wsX1_init := by decide +kernel
set_option maxHeartbeats 4000000 in
set_option maxRecDepth 100000 in
theorem kX1_init (l : Launch) (D : va_G) (cI cJ cZ cD : ClassId) (tA : Nat) (h : Nat) : jx_C l yX1_init wsX1_init ({ frames := 1, cells := 6, slots := 480, locals := 12 }) 6 480 D (jT cI cJ cZ cD) tA [.ref h] [(h, .inr (1, [.null, .null, .null, .null, .null, .null, .int (0 : Int32), .long (0 : Int64), .long (0 : Int64), .int (0 : Int32), .int (0 : Int32)]))] (jx_Qv D (jT cI cJ cZ cD) (fun (_ : (Nat → Nat)) => True) (fun u => [(h, .inr (1, (oX1 u (fun _ => 0) (fun _ => 0)))), ((u 0), .inl (cI, 80, .inl (fun _ => 0))), ((u 1), .inl (cI, 80, .inl (fun _ => 0))), ((u 2), .inl (cI, 80, .inl (fun _ => 0))), ((u 3), .inl (cJ, 80, .inr (.inl (fun _ => 0)))), ((u 4), .inl (cI, 80, .inl (fun _ => 0))), ((u 5), .inl (cI, 80, .inl (fun _ => 0)))])) := by
  refine jx_ofC (cc := cX1_init) (maxL := 1) (ret := none) (by decide +kernel) rfl rfl (Nat.le_of_ble_eq_true rfl) ?_
  intro p e s m below meth c A ls hx hb hr hlocks hml hown hnam hts hK hP hD hA hS hX hl
  have hl : lv_has ls 1 [(0, .ref h)] := hl
  have hown : s.vm.findClass RX1 = some m.cls := hown
  refine lv_aload_n hx hb dX1_init_0 rfl (lv_at hl 0 rfl) ?_
  refine jx_obj hx hb hown (hts (.methodLink RX1 5 objectInit) (by decide +kernel)) (hts (.instanceMethod objectInit) (by decide +kernel)) (hts (.code objectInit ⟨#[0xb1]⟩ 1 none) (by decide +kernel)) (hl.1.trans hml.symm) dX1_init_1 (Nat.le_of_ble_eq_true rfl) (Nat.le_of_ble_eq_true rfl) ?_
  refine lv_aload_n hx hb dX1_init_4 rfl (lv_at hl 0 rfl) ?_
  refine lv_bipush (v := 80) hx hb dX1_init_5 (by decide) ?_
  refine jx_newi hx hb (hts (.arrayClass .int) (by decide +kernel)) hK hP hD hS hA 80 (by decide) (by decide) (by decide) (Nat.le_of_ble_eq_true rfl) (Nat.le_of_ble_eq_true rfl) dX1_init_7 (fun q7 H hP hD hS => ?_)
  have hP : va_P D vwCl [(h, .inr (1, [.null, .null, .null, .null, .null, .null, .int (0 : Int32), .long (0 : Int64), .long (0 : Int64), .int (0 : Int32), .int (0 : Int32)])), (q7, .inl (cI, 80, .inl (fun _ => 0)))] H := hP
  have hD : va_D A [(h, .inr (1, [.null, .null, .null, .null, .null, .null, .int (0 : Int32), .long (0 : Int64), .long (0 : Int64), .int (0 : Int32), .int (0 : Int32)])), (q7, .inl (cI, 80, .inl (fun _ => 0)))] := hD
  refine jx_putF (w2 := [(h, .inr (1, [.ref q7, .null, .null, .null, .null, .null, .int (0 : Int32), .long (0 : Int64), .long (0 : Int64), .int (0 : Int32), .int (0 : Int32)])), (q7, .inl (cI, 80, .inl (fun _ => 0)))]) hx hb hts iX1_init_1 tyX1 tyX1_ok nmX1 hown hK hP hD hS 0 rfl rfl 0 (by decide) (hts (.fieldLink RX1 13 "LoomDesk$Pattern" "kinds" "[I") (by decide +kernel)) rfl rfl hnam rfl rfl rfl (Nat.le_of_ble_eq_true rfl) dX1_init_9 rfl (fun H locs hP hD hS => ?_)
  refine lv_aload_n hx hb dX1_init_12 rfl (lv_at hl 0 rfl) ?_
  refine lv_bipush (v := 80) hx hb dX1_init_13 (by decide) ?_
  refine jx_newi hx hb (hts (.arrayClass .int) (by decide +kernel)) hK hP hD hS hA 80 (by decide) (by decide) (by decide) (Nat.le_of_ble_eq_true rfl) (Nat.le_of_ble_eq_true rfl) dX1_init_15 (fun q15 H hP hD hS => ?_)
  have hP : va_P D vwCl [(h, .inr (1, [.ref q7, .null, .null, .null, .null, .null, .int (0 : Int32), .long (0 : Int64), .long (0 : Int64), .int (0 : Int32), .int (0 : Int32)])), (q7, .inl (cI, 80, .inl (fun _ => 0))), (q15, .inl (cI, 80, .inl (fun _ => 0)))] H := hP
  have hD : va_D A [(h, .inr (1, [.ref q7, .null, .null, .null, .null, .null, .int (0 : Int32), .long (0 : Int64), .long (0 : Int64), .int (0 : Int32), .int (0 : Int32)])), (q7, .inl (cI, 80, .inl (fun _ => 0))), (q15, .inl (cI, 80, .inl (fun _ => 0)))] := hD
  refine jx_putF (w2 := [(h, .inr (1, [.ref q7, .ref q15, .null, .null, .null, .null, .int (0 : Int32), .long (0 : Int64), .long (0 : Int64), .int (0 : Int32), .int (0 : Int32)])), (q7, .inl (cI, 80, .inl (fun _ => 0))), (q15, .inl (cI, 80, .inl (fun _ => 0)))]) hx hb hts iX1_init_1 tyX1 tyX1_ok nmX1 hown hK hP hD hS 0 rfl rfl 1 (by decide) (hts (.fieldLink RX1 17 "LoomDesk$Pattern" "values" "[I") (by decide +kernel)) rfl rfl hnam rfl rfl rfl (Nat.le_of_ble_eq_true rfl) dX1_init_17 rfl (fun H locs hP hD hS => ?_)
  refine lv_aload_n hx hb dX1_init_20 rfl (lv_at hl 0 rfl) ?_
  refine lv_bipush (v := 80) hx hb dX1_init_21 (by decide) ?_
  refine jx_newi hx hb (hts (.arrayClass .int) (by decide +kernel)) hK hP hD hS hA 80 (by decide) (by decide) (by decide) (Nat.le_of_ble_eq_true rfl) (Nat.le_of_ble_eq_true rfl) dX1_init_23 (fun q23 H hP hD hS => ?_)
  have hP : va_P D vwCl [(h, .inr (1, [.ref q7, .ref q15, .null, .null, .null, .null, .int (0 : Int32), .long (0 : Int64), .long (0 : Int64), .int (0 : Int32), .int (0 : Int32)])), (q7, .inl (cI, 80, .inl (fun _ => 0))), (q15, .inl (cI, 80, .inl (fun _ => 0))), (q23, .inl (cI, 80, .inl (fun _ => 0)))] H := hP
  have hD : va_D A [(h, .inr (1, [.ref q7, .ref q15, .null, .null, .null, .null, .int (0 : Int32), .long (0 : Int64), .long (0 : Int64), .int (0 : Int32), .int (0 : Int32)])), (q7, .inl (cI, 80, .inl (fun _ => 0))), (q15, .inl (cI, 80, .inl (fun _ => 0))), (q23, .inl (cI, 80, .inl (fun _ => 0)))] := hD
  refine jx_putF (w2 := [(h, .inr (1, [.ref q7, .ref q15, .ref q23, .null, .null, .null, .int (0 : Int32), .long (0 : Int64), .long (0 : Int64), .int (0 : Int32), .int (0 : Int32)])), (q7, .inl (cI, 80, .inl (fun _ => 0))), (q15, .inl (cI, 80, .inl (fun _ => 0))), (q23, .inl (cI, 80, .inl (fun _ => 0)))]) hx hb hts iX1_init_1 tyX1 tyX1_ok nmX1 hown hK hP hD hS 0 rfl rfl 2 (by decide) (hts (.fieldLink RX1 20 "LoomDesk$Pattern" "ends" "[I") (by decide +kernel)) rfl rfl hnam rfl rfl rfl (Nat.le_of_ble_eq_true rfl) dX1_init_25 rfl (fun H locs hP hD hS => ?_)
  refine lv_aload_n hx hb dX1_init_28 rfl (lv_at hl 0 rfl) ?_
  refine lv_bipush (v := 80) hx hb dX1_init_29 (by decide) ?_
  refine jx_newl hx hb (hts (.arrayClass .long) (by decide +kernel)) hK hP hD hS hA 80 (by decide) (by decide) (by decide) (Nat.le_of_ble_eq_true rfl) (Nat.le_of_ble_eq_true rfl) dX1_init_31 (fun q31 H hP hD hS => ?_)
  have hP : va_P D vwCl [(h, .inr (1, [.ref q7, .ref q15, .ref q23, .null, .null, .null, .int (0 : Int32), .long (0 : Int64), .long (0 : Int64), .int (0 : Int32), .int (0 : Int32)])), (q7, .inl (cI, 80, .inl (fun _ => 0))), (q15, .inl (cI, 80, .inl (fun _ => 0))), (q23, .inl (cI, 80, .inl (fun _ => 0))), (q31, .inl (cJ, 80, .inr (.inl (fun _ => 0))))] H := hP
  have hD : va_D A [(h, .inr (1, [.ref q7, .ref q15, .ref q23, .null, .null, .null, .int (0 : Int32), .long (0 : Int64), .long (0 : Int64), .int (0 : Int32), .int (0 : Int32)])), (q7, .inl (cI, 80, .inl (fun _ => 0))), (q15, .inl (cI, 80, .inl (fun _ => 0))), (q23, .inl (cI, 80, .inl (fun _ => 0))), (q31, .inl (cJ, 80, .inr (.inl (fun _ => 0))))] := hD
  refine jx_putF (w2 := [(h, .inr (1, [.ref q7, .ref q15, .ref q23, .ref q31, .null, .null, .int (0 : Int32), .long (0 : Int64), .long (0 : Int64), .int (0 : Int32), .int (0 : Int32)])), (q7, .inl (cI, 80, .inl (fun _ => 0))), (q15, .inl (cI, 80, .inl (fun _ => 0))), (q23, .inl (cI, 80, .inl (fun _ => 0))), (q31, .inl (cJ, 80, .inr (.inl (fun _ => 0))))]) hx hb hts iX1_init_1 tyX1 tyX1_ok nmX1 hown hK hP hD hS 0 rfl rfl 3 (by decide) (hts (.fieldLink RX1 23 "LoomDesk$Pattern" "insides" "[J") (by decide +kernel)) rfl rfl hnam rfl rfl rfl (Nat.le_of_ble_eq_true rfl) dX1_init_33 rfl (fun H locs hP hD hS => ?_)
  refine lv_aload_n hx hb dX1_init_36 rfl (lv_at hl 0 rfl) ?_
  refine lv_bipush (v := 80) hx hb dX1_init_37 (by decide) ?_
  refine jx_newi hx hb (hts (.arrayClass .int) (by decide +kernel)) hK hP hD hS hA 80 (by decide) (by decide) (by decide) (Nat.le_of_ble_eq_true rfl) (Nat.le_of_ble_eq_true rfl) dX1_init_39 (fun q39 H hP hD hS => ?_)
  have hP : va_P D vwCl [(h, .inr (1, [.ref q7, .ref q15, .ref q23, .ref q31, .null, .null, .int (0 : Int32), .long (0 : Int64), .long (0 : Int64), .int (0 : Int32), .int (0 : Int32)])), (q7, .inl (cI, 80, .inl (fun _ => 0))), (q15, .inl (cI, 80, .inl (fun _ => 0))), (q23, .inl (cI, 80, .inl (fun _ => 0))), (q31, .inl (cJ, 80, .inr (.inl (fun _ => 0)))), (q39, .inl (cI, 80, .inl (fun _ => 0)))] H := hP
  have hD : va_D A [(h, .inr (1, [.ref q7, .ref q15, .ref q23, .ref q31, .null, .null, .int (0 : Int32), .long (0 : Int64), .long (0 : Int64), .int (0 : Int32), .int (0 : Int32)])), (q7, .inl (cI, 80, .inl (fun _ => 0))), (q15, .inl (cI, 80, .inl (fun _ => 0))), (q23, .inl (cI, 80, .inl (fun _ => 0))), (q31, .inl (cJ, 80, .inr (.inl (fun _ => 0)))), (q39, .inl (cI, 80, .inl (fun _ => 0)))] := hD
  refine jx_putF (w2 := [(h, .inr (1, [.ref q7, .ref q15, .ref q23, .ref q31, .ref q39, .null, .int (0 : Int32), .long (0 : Int64), .long (0 : Int64), .int (0 : Int32), .int (0 : Int32)])), (q7, .inl (cI, 80, .inl (fun _ => 0))), (q15, .inl (cI, 80, .inl (fun _ => 0))), (q23, .inl (cI, 80, .inl (fun _ => 0))), (q31, .inl (cJ, 80, .inr (.inl (fun _ => 0)))), (q39, .inl (cI, 80, .inl (fun _ => 0)))]) hx hb hts iX1_init_1 tyX1 tyX1_ok nmX1 hown hK hP hD hS 0 rfl rfl 4 (by decide) (hts (.fieldLink RX1 27 "LoomDesk$Pattern" "carriers" "[I") (by decide +kernel)) rfl rfl hnam rfl rfl rfl (Nat.le_of_ble_eq_true rfl) dX1_init_41 rfl (fun H locs hP hD hS => ?_)
  refine lv_aload_n hx hb dX1_init_44 rfl (lv_at hl 0 rfl) ?_
  refine lv_bipush (v := 80) hx hb dX1_init_45 (by decide) ?_
  refine jx_newi hx hb (hts (.arrayClass .int) (by decide +kernel)) hK hP hD hS hA 80 (by decide) (by decide) (by decide) (Nat.le_of_ble_eq_true rfl) (Nat.le_of_ble_eq_true rfl) dX1_init_47 (fun q47 H hP hD hS => ?_)
  have hP : va_P D vwCl [(h, .inr (1, [.ref q7, .ref q15, .ref q23, .ref q31, .ref q39, .null, .int (0 : Int32), .long (0 : Int64), .long (0 : Int64), .int (0 : Int32), .int (0 : Int32)])), (q7, .inl (cI, 80, .inl (fun _ => 0))), (q15, .inl (cI, 80, .inl (fun _ => 0))), (q23, .inl (cI, 80, .inl (fun _ => 0))), (q31, .inl (cJ, 80, .inr (.inl (fun _ => 0)))), (q39, .inl (cI, 80, .inl (fun _ => 0))), (q47, .inl (cI, 80, .inl (fun _ => 0)))] H := hP
  have hD : va_D A [(h, .inr (1, [.ref q7, .ref q15, .ref q23, .ref q31, .ref q39, .null, .int (0 : Int32), .long (0 : Int64), .long (0 : Int64), .int (0 : Int32), .int (0 : Int32)])), (q7, .inl (cI, 80, .inl (fun _ => 0))), (q15, .inl (cI, 80, .inl (fun _ => 0))), (q23, .inl (cI, 80, .inl (fun _ => 0))), (q31, .inl (cJ, 80, .inr (.inl (fun _ => 0)))), (q39, .inl (cI, 80, .inl (fun _ => 0))), (q47, .inl (cI, 80, .inl (fun _ => 0)))] := hD
  refine jx_putF (w2 := [(h, .inr (1, [.ref q7, .ref q15, .ref q23, .ref q31, .ref q39, .ref q47, .int (0 : Int32), .long (0 : Int64), .long (0 : Int64), .int (0 : Int32), .int (0 : Int32)])), (q7, .inl (cI, 80, .inl (fun _ => 0))), (q15, .inl (cI, 80, .inl (fun _ => 0))), (q23, .inl (cI, 80, .inl (fun _ => 0))), (q31, .inl (cJ, 80, .inr (.inl (fun _ => 0)))), (q39, .inl (cI, 80, .inl (fun _ => 0))), (q47, .inl (cI, 80, .inl (fun _ => 0)))]) hx hb hts iX1_init_1 tyX1 tyX1_ok nmX1 hown hK hP hD hS 0 rfl rfl 5 (by decide) (hts (.fieldLink RX1 30 "LoomDesk$Pattern" "densities" "[I") (by decide +kernel)) rfl rfl hnam rfl rfl rfl (Nat.le_of_ble_eq_true rfl) dX1_init_49 rfl (fun H locs hP hD hS => ?_)
  refine lv_aload_n hx hb dX1_init_52 rfl (lv_at hl 0 rfl) ?_
  refine lv_iconst (v := 0) hx hb dX1_init_53 (by decide) ?_
  refine jx_put (w2 := [(h, .inr (1, [.ref q7, .ref q15, .ref q23, .ref q31, .ref q39, .ref q47, .int (0 : Int32), .long (0 : Int64), .long (0 : Int64), .int (0 : Int32), .int (0 : Int32)])), (q7, .inl (cI, 80, .inl (fun _ => 0))), (q15, .inl (cI, 80, .inl (fun _ => 0))), (q23, .inl (cI, 80, .inl (fun _ => 0))), (q31, .inl (cJ, 80, .inr (.inl (fun _ => 0)))), (q39, .inl (cI, 80, .inl (fun _ => 0))), (q47, .inl (cI, 80, .inl (fun _ => 0)))]) hx hb hts iX1_init_1 tyX1 tyX1_ok nmX1 hown hK hP hD hS 0 rfl rfl 6 (by decide) (hts (.fieldLink RX1 33 "LoomDesk$Pattern" "size" "I") (by decide +kernel)) rfl rfl rfl rfl (Nat.le_of_ble_eq_true rfl) dX1_init_54 rfl (fun H locs hP hD hS => ?_)
  refine lv_aload_n hx hb dX1_init_57 rfl (lv_at hl 0 rfl) ?_
  refine lv_lconst (v := 0) hx hb dX1_init_58 (by decide) ?_
  refine jx_put (w2 := [(h, .inr (1, [.ref q7, .ref q15, .ref q23, .ref q31, .ref q39, .ref q47, .int (0 : Int32), .long (0 : Int64), .long (0 : Int64), .int (0 : Int32), .int (0 : Int32)])), (q7, .inl (cI, 80, .inl (fun _ => 0))), (q15, .inl (cI, 80, .inl (fun _ => 0))), (q23, .inl (cI, 80, .inl (fun _ => 0))), (q31, .inl (cJ, 80, .inr (.inl (fun _ => 0)))), (q39, .inl (cI, 80, .inl (fun _ => 0))), (q47, .inl (cI, 80, .inl (fun _ => 0)))]) hx hb hts iX1_init_1 tyX1 tyX1_ok nmX1 hown hK hP hD hS 0 rfl rfl 7 (by decide) (hts (.fieldLink RX1 37 "LoomDesk$Pattern" "picks" "J") (by decide +kernel)) rfl rfl rfl rfl (Nat.le_of_ble_eq_true rfl) dX1_init_59 rfl (fun H locs hP hD hS => ?_)
  refine lv_aload_n hx hb dX1_init_62 rfl (lv_at hl 0 rfl) ?_
  refine lv_lconst (v := 0) hx hb dX1_init_63 (by decide) ?_
  refine jx_put (w2 := [(h, .inr (1, [.ref q7, .ref q15, .ref q23, .ref q31, .ref q39, .ref q47, .int (0 : Int32), .long (0 : Int64), .long (0 : Int64), .int (0 : Int32), .int (0 : Int32)])), (q7, .inl (cI, 80, .inl (fun _ => 0))), (q15, .inl (cI, 80, .inl (fun _ => 0))), (q23, .inl (cI, 80, .inl (fun _ => 0))), (q31, .inl (cJ, 80, .inr (.inl (fun _ => 0)))), (q39, .inl (cI, 80, .inl (fun _ => 0))), (q47, .inl (cI, 80, .inl (fun _ => 0)))]) hx hb hts iX1_init_1 tyX1 tyX1_ok nmX1 hown hK hP hD hS 0 rfl rfl 8 (by decide) (hts (.fieldLink RX1 41 "LoomDesk$Pattern" "ahead" "J") (by decide +kernel)) rfl rfl rfl rfl (Nat.le_of_ble_eq_true rfl) dX1_init_64 rfl (fun H locs hP hD hS => ?_)
  refine lv_aload_n hx hb dX1_init_67 rfl (lv_at hl 0 rfl) ?_
  refine lv_iconst (v := 0) hx hb dX1_init_68 (by decide) ?_
  refine jx_put (w2 := [(h, .inr (1, [.ref q7, .ref q15, .ref q23, .ref q31, .ref q39, .ref q47, .int (0 : Int32), .long (0 : Int64), .long (0 : Int64), .int (0 : Int32), .int (0 : Int32)])), (q7, .inl (cI, 80, .inl (fun _ => 0))), (q15, .inl (cI, 80, .inl (fun _ => 0))), (q23, .inl (cI, 80, .inl (fun _ => 0))), (q31, .inl (cJ, 80, .inr (.inl (fun _ => 0)))), (q39, .inl (cI, 80, .inl (fun _ => 0))), (q47, .inl (cI, 80, .inl (fun _ => 0)))]) hx hb hts iX1_init_1 tyX1 tyX1_ok nmX1 hown hK hP hD hS 0 rfl rfl 9 (by decide) (hts (.fieldLink RX1 44 "LoomDesk$Pattern" "carrier" "I") (by decide +kernel)) rfl rfl rfl rfl (Nat.le_of_ble_eq_true rfl) dX1_init_69 rfl (fun H locs hP hD hS => ?_)
  refine lv_aload_n hx hb dX1_init_72 rfl (lv_at hl 0 rfl) ?_
  refine lv_iconst (v := 0) hx hb dX1_init_73 (by decide) ?_
  refine jx_put (w2 := [(h, .inr (1, [.ref q7, .ref q15, .ref q23, .ref q31, .ref q39, .ref q47, .int (0 : Int32), .long (0 : Int64), .long (0 : Int64), .int (0 : Int32), .int (0 : Int32)])), (q7, .inl (cI, 80, .inl (fun _ => 0))), (q15, .inl (cI, 80, .inl (fun _ => 0))), (q23, .inl (cI, 80, .inl (fun _ => 0))), (q31, .inl (cJ, 80, .inr (.inl (fun _ => 0)))), (q39, .inl (cI, 80, .inl (fun _ => 0))), (q47, .inl (cI, 80, .inl (fun _ => 0)))]) hx hb hts iX1_init_1 tyX1 tyX1_ok nmX1 hown hK hP hD hS 0 rfl rfl 10 (by decide) (hts (.fieldLink RX1 47 "LoomDesk$Pattern" "density" "I") (by decide +kernel)) rfl rfl rfl rfl (Nat.le_of_ble_eq_true rfl) dX1_init_74 rfl (fun H locs hP hD hS => ?_)
  refine W.widen (k := 6) (n := 480) (Nat.le_of_ble_eq_true rfl) (Nat.le_of_ble_eq_true rfl) ?_
  exact jx_vretC (va_up (va_up (va_up (va_up (va_up (va_up (fun _ => 0) 0 q7) 1 q15) 2 q23) 3 q31) 4 q39) 5 q47) hx hb hr hlocks hK hP hD hS rfl trivial dX1_init_77
