/-! ===== the start ===== -/
theorem law_IV0 : ldk_IV (12800 * ((0 : Nat) : Int)) ((upd (fun _ => 0) 11 (1 : Int32)), (fun _ => 0), (upd (fun _ => 0) 3 (960 : Int32)), (fun _ => 0), (fun _ => 0), (fun _ => 0), (fun _ => 0), (fun _ => 0), (fun _ => 0), (fun _ => 0), (upd (upd (fun _ => 0) ((0 : Int32)).toNatClampNeg (-1 : Int32)) ((1 : Int32)).toNatClampNeg (-1 : Int32)), (vp_updL (vp_updL (fun _ => 0) ((0 : Int32)).toNatClampNeg (0 : Int64)) ((1 : Int32)).toNatClampNeg (0 : Int64)), (fun _ => 0), (fun _ => 0)) ((fun _ => 0), (fun _ => 0), (fun _ => 0), (fun _ => 0), (fun _ => 0), (fun _ => 0)) (fun _ => 0) (fun _ => 0) ((upd (upd (fun _ => 0) 20 (1 : Int32)) 24 (1920 : Int32)), (fun _ => 0), (fun _ => 0), (fun _ => 0), (fun _ => 0), (fun _ => 0), (fun _ => 0), (fun _ => 0)) ((fun _ => 0), (fun _ => 0), (fun _ => 0)) ((fun _ => 0), (fun _ => 0), (fun _ => 0)) (fun _ => 0) := by
  refine ldk_IV_mk 0 0 (by unfold ldk_eA; decide +kernel) (by unfold ldk_eB ldk_eB0; decide +kernel) ⟨0, 0, by decide, by decide, rfl, rfl, rfl, rfl, rfl, fun i h => absurd h (Nat.not_lt_zero _), fun i h => absurd h (Nat.not_lt_zero _), by decide, by decide⟩ ⟨Or.inl rfl, rfl, fun r hr => Or.inl ?_⟩ (by unfold ldk_eP; decide +kernel) rfl rfl ⟨fun _ => [], fun _ => 0, [], ⟨by decide, fun i h => absurd h (Nat.not_lt_zero _), rfl⟩, fun i h => absurd h (Nat.not_lt_zero _), rfl, by decide⟩ rfl rfl (by decide) (by decide) rfl
  rcases (show r = 0 ∨ r = 1 by omega) with rfl | rfl
  · exact ⟨by decide +kernel, rfl⟩
  · exact ⟨by decide +kernel, rfl⟩
theorem law_arr {args : Array Value} {s : State} {ty : FieldType} (h : (Cond.arrayClass ty).before args s = true) : ∃ c : ClassId, ArrOfT s c ty ∧ s.vm.findClass ("[" ++ ty.toString) = some c := by
  obtain ⟨cA, kA, comp, h1, h2, h3⟩ := Cond.arrayClass_spec h
  exact ⟨cA, fun n z => ⟨fun k h => (by cases h), kA, h2, comp, h3⟩, h1⟩
theorem law_str {args : Array Value} {s : State} {own tx : String} {k : Nat} (h1 : (Cond.stringRef own k tx).before args s = true) (h2 : (Cond.exactly (.string own k) "java/lang/String").before args s = true) : ∃ a : Nat, vk_R own k tx a s := by
  obtain ⟨a, c, cell, kk, he, -⟩ := Cond.exactly_spec h2
  exact ⟨a, vk_R.of h1 he⟩
set_option maxRecDepth 100000 in
theorem law_nest_in : ∀ q ∈ jx_nest, Cond.fieldLinkNest q.1 q.2.1 q.2.2.1 q.2.2.2.1 q.2.2.2.2.1 q.2.2.2.2.2 ∈ lw_tbl := by decide +kernel
set_option maxRecDepth 100000 in
theorem law_K {b : Nat} {s : State} (hts : ∀ w ∈ lw_tbl, w.before #[Value.ref b] s = true) : ∃ (D : va_G) (cI cJ cZ cD : ClassId), va_K D vwCl (jT cI cJ cZ cD) s := by
  obtain ⟨c0, i0, k0⟩ := u_known (C := RX0) (T := TX0) (N := 7) (n := 7) hts inX0 (hts (.instantiable RX0 7) (by decide +kernel))
  obtain ⟨c1, i1, k1⟩ := u_known (C := RX1) (T := TX1) (N := 11) (n := 11) hts inX1 (hts (.instantiable RX1 11) (by decide +kernel))
  obtain ⟨c2, i2, k2⟩ := u_known (C := RX2) (T := TX2) (N := 9) (n := 9) hts inX2 (hts (.instantiable RX2 9) (by decide +kernel))
  obtain ⟨c3, i3, k3⟩ := u_known (C := RX3) (T := TX3) (N := 3) (n := 3) hts inX3 (hts (.instantiable RX3 3) (by decide +kernel))
  obtain ⟨c4, i4, k4⟩ := u_known (C := RX4) (T := TX4) (N := 6) (n := 6) hts inX4 (hts (.instantiable RX4 6) (by decide +kernel))
  obtain ⟨c5, i5, k5⟩ := u_known (C := RX5) (T := TX5) (N := 2) (n := 2) hts inX5 (hts (.instantiable RX5 2) (by decide +kernel))
  obtain ⟨c6, i6, k6⟩ := u_known (C := RX6) (T := TX6) (N := 12) (n := 12) hts inX6 (hts (.instantiable RX6 12) (by decide +kernel))
  obtain ⟨c7, i7, k7⟩ := u_known (C := RX7) (T := TX7) (N := 44) (n := 44) hts inX7 (hts (.instantiable RX7 44) (by decide +kernel))
  obtain ⟨cI, aI, rI⟩ := law_arr (hts (.arrayClass .int) (by decide +kernel))
  obtain ⟨cJ, aJ, rJ⟩ := law_arr (hts (.arrayClass .long) (by decide +kernel))
  obtain ⟨cZ, aZ, rZ⟩ := law_arr (hts (.arrayClass .boolean) (by decide +kernel))
  obtain ⟨cD, aD, rD⟩ := law_arr (hts (.arrayClass .double) (by decide +kernel))
  refine ⟨(fun c => [c0, c1, c2, c3, c4, c5, c6, c7].getD c c0, fun c => [i0, i1, i2, i3, i4, i5, i6, i7].getD c i0), cI, cJ, cZ, cD, fun c q hq => ?_, fun k q hk => ?_⟩
  · match c, hq with
    | 0, hq => cases hq; exact k0
    | 1, hq => cases hq; exact k1
    | 2, hq => cases hq; exact k2
    | 3, hq => cases hq; exact k3
    | 4, hq => cases hq; exact k4
    | 5, hq => cases hq; exact k5
    | 6, hq => cases hq; exact k6
    | 7, hq => cases hq; exact k7
    | (c + 8), hq => exact absurd (List.getElem?_eq_some_iff.mp hq).1 (by show ¬ c + 8 < 8; omega)
  · match k, hk with
    | 0, hk => cases hk; exact ⟨aI, rI⟩
    | 1, hk => cases hk; exact ⟨aJ, rJ⟩
    | 2, hk => cases hk; exact ⟨aZ, rZ⟩
    | 3, hk => cases hk; exact ⟨aD, rD⟩
    | (k + 4), hk => exact absurd (List.getElem?_eq_some_iff.mp hk).1 (by show ¬ k + 4 < 4; omega)
set_option maxRecDepth 100000 in
theorem law_X {b : Nat} {s : State} (hts : ∀ w ∈ lw_tbl, w.before #[Value.ref b] s = true) (hgv : (Jvm.Cond.and given_1 narrow_1).before #[Value.ref b] s = true) : ∃ tA : Nat, jx_X tA (fun q : Nat => s.heap.size ≤ q) s s.heap := by
  have hs := flat_of_before _ hgv
  have hA : ∀ a : Nat, a < s.heap.size → ¬ (fun q : Nat => s.heap.size ≤ q) a := fun a h => Nat.not_le.mpr h
  have hel : ∀ j : Nat, j < 11 → (Term.elem (.static RX2 "ALLOWED" "[I") (.int (Int32.ofNat j))).eval #[Value.ref b] s none [] s = some (.int (jx_alw j)) := by
    intro j hj
    match j, hj with
    | 0, _ => exact va_eqt (hs (.eq (.elem (.static RX2 "ALLOWED" "[I") (.int 0)) (.int 20)) (by decide +kernel))
    | 1, _ => exact va_eqt (hs (.eq (.elem (.static RX2 "ALLOWED" "[I") (.int 1)) (.int 25)) (by decide +kernel))
    | 2, _ => exact va_eqt (hs (.eq (.elem (.static RX2 "ALLOWED" "[I") (.int 2)) (.int 40)) (by decide +kernel))
    | 3, _ => exact va_eqt (hs (.eq (.elem (.static RX2 "ALLOWED" "[I") (.int 3)) (.int 50)) (by decide +kernel))
    | 4, _ => exact va_eqt (hs (.eq (.elem (.static RX2 "ALLOWED" "[I") (.int 4)) (.int 80)) (by decide +kernel))
    | 5, _ => exact va_eqt (hs (.eq (.elem (.static RX2 "ALLOWED" "[I") (.int 5)) (.int 100)) (by decide +kernel))
    | 6, _ => exact va_eqt (hs (.eq (.elem (.static RX2 "ALLOWED" "[I") (.int 6)) (.int 125)) (by decide +kernel))
    | 7, _ => exact va_eqt (hs (.eq (.elem (.static RX2 "ALLOWED" "[I") (.int 7)) (.int 160)) (by decide +kernel))
    | 8, _ => exact va_eqt (hs (.eq (.elem (.static RX2 "ALLOWED" "[I") (.int 8)) (.int 200)) (by decide +kernel))
    | 9, _ => exact va_eqt (hs (.eq (.elem (.static RX2 "ALLOWED" "[I") (.int 9)) (.int 250)) (by decide +kernel))
    | 10, _ => exact va_eqt (hs (.eq (.elem (.static RX2 "ALLOWED" "[I") (.int 10)) (.int 400)) (by decide +kernel))
  obtain ⟨t, ht, hT⟩ := va_Tof (tm := (.static RX2 "ALLOWED" "[I")) (ty := .int) (N := 11) (f := fun j => .int (jx_alw j)) (by decide) (hs (.arrayOf (.static RX2 "ALLOWED" "[I") .int) (by decide +kernel)) (va_eqt (hs (.eq (.length (.static RX2 "ALLOWED" "[I")) (.int 11)) (by decide +kernel))) hel hA
  exact ⟨t, fun q hq => va_Nw.of rfl (hts _ (law_nest_in q hq)), va_Zof (hts (.laysStatic RX2 "ALLOWED" "[I") (by decide +kernel)) (hts (.initialized RX2) (by decide +kernel)) ht hA, hT⟩
set_option maxRecDepth 100000 in
theorem law_Y {b tA : Nat} {s : State} (hts : ∀ w ∈ lw_tbl, w.before #[Value.ref b] s = true) (hgv : (Jvm.Cond.and given_1 narrow_1).before #[Value.ref b] s = true) (hX : jx_X tA (fun q : Nat => s.heap.size ≤ q) s s.heap) : ∃ sa : Nat → Nat, jx_Y tA sa (fun q : Nat => s.heap.size ≤ q) s s.heap := by
  have hs := flat_of_before _ hgv
  have hA : ∀ a : Nat, a < s.heap.size → ¬ (fun q : Nat => s.heap.size ≤ q) a := fun a h => Nat.not_le.mpr h
  obtain ⟨a0, e0⟩ := law_str (hts (.stringRef RX6 108 "the shaft stands, or there is no power") (by decide +kernel)) (hs (.exactly (.string RX6 108) "java/lang/String") (by decide +kernel))
  obtain ⟨a1, e1⟩ := law_str (hts (.stringRef RX6 117 "the degrees are not 0 to 3600") (by decide +kernel)) (hs (.exactly (.string RX6 117) "java/lang/String") (by decide +kernel))
  obtain ⟨a2, e2⟩ := law_str (hts (.stringRef RX6 132 "the shaft does not stand, or there is no pattern or no power") (by decide +kernel)) (hs (.exactly (.string RX6 132) "java/lang/String") (by decide +kernel))
  obtain ⟨a3, e3⟩ := law_str (hts (.stringRef RX6 136 "the degrees are not 0 to 1080") (by decide +kernel)) (hs (.exactly (.string RX6 136) "java/lang/String") (by decide +kernel))
  exact ⟨fun k => match k with | 0 => a0 | 1 => a1 | 2 => a2 | _ => a3, hX, vx_Zqof (hts (.laysStatic Bundle.tN "UNASSIGNED_STACK" Bundle.steD) (by decide +kernel)) (hts (.initialized Bundle.tN) (by decide +kernel)) (hs (.isRef (.static Bundle.tN "UNASSIGNED_STACK" Bundle.steD)) (by decide +kernel)) hA, vx_Zqof (hts (.laysStatic Bundle.tN "SUPPRESSED_SENTINEL" Bundle.listD) (by decide +kernel)) (hts (.initialized Bundle.tN) (by decide +kernel)) (hs (.isRef (.static Bundle.tN "SUPPRESSED_SENTINEL" Bundle.listD)) (by decide +kernel)) hA, e0, e1, e2, e3, va_Nc.of (hs (.not (.castable "java/lang/IllegalArgumentException" "java/lang/IllegalStateException")) (by decide +kernel)), va_Nw.of rfl (hts (.castable "java/lang/IllegalStateException" "java/lang/IllegalStateException") (by decide +kernel)), va_Nw.of rfl (hts (.castable "java/lang/IllegalArgumentException" "java/lang/IllegalArgumentException") (by decide +kernel)), va_Nw.of rfl (hts (.declares (Bundle.initS "java/lang/RuntimeException")) (by decide +kernel)), va_Nw.of rfl (hts (.declares (Bundle.initS "java/lang/Exception")) (by decide +kernel)), va_Nw.of rfl (hts (.declares (Bundle.initS Bundle.tN)) (by decide +kernel))⟩
