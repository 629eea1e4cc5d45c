theorem jx_ofF {l : Launch} {y : MethodName} {ws ws' : List Cond} {rm : Room} {D : va_G} {tys : List (ClassId × FieldType)} {tA : Nat} {av : List Value} {w0 : va_W} {Qc : (Nat → Prop) → Array Value → State → Outcome → State → Prop} {cc : ByteArray} {maxL : Nat} {ret : Option FieldType}
    (hy : plainFor y = true) (hw : ws = Cond.code y cc maxL ret :: ws') (hent : (lg_sl av).length ≤ maxL)
    (body : ∀ (p : Program) (e : Env) (s : State) (m : MethodId) (below : List Frame) (meth : Method) (c : Code) (A : Nat → Prop) (ls : Array Slot), p.tables.exec = Jvm.exec → c.code = cc → meth.sig.returnType = ret → meth.locks = false → c.maxLocals = maxL → s.vm.findClass y.cls = some m.cls → (∀ w ∈ ws, w.before av.toArray s = true) → va_K D vwCl tys s → va_P D vwCl w0 s.heap → va_D A w0 → (∀ q : Nat, s.heap.size ≤ q → A q) → va_S A s.heap s.heap [] → jx_X tA A s s.heap → lv_has ls maxL (lv_args 0 av) →
      W p l e (headSpec ws rm).room s m av.toArray below meth c s.heap [] 0 0 (MQ below (Qc A) av.toArray s 0 0 A) (F0 m 0 ls [])) : jx_M l y ws rm D tys tA av w0 Qc := by
  intro sz
  refine va_MetF (cc := cc) (maxL := maxL) (ret := ret) hy hw ?_
  intro p e s m args below meth c s₁ B hml hv
  obtain ⟨rfl, hsz, hP, hK, hD0, hX⟩ := hv
  subst hsz
  have hl := lv_entry av (n := maxL) hent
  rw [lg_entry_eq]
  exact body p e s m below meth c _ _ B.exec B.bytes B.returns B.notSynchronized hml (findClass_of_methodNamed B.named) (atoms_spec (ws := ws) B.pre) hK hP (hD0.self (sz := s.heap.size)) (fun q h => Or.inr h) va_S.rf hX hl

def sJ9_floorMod_7cf53 (a0 : Int32) (a1 : Int32) : Int32 := (if 0 ≤ (a0 ^^^ a1) then (a0 - a0 / a1 * a1) else (if (a0 - a0 / a1 * a1) = 0 then (a0 - a0 / a1 * a1) else ((a0 - a0 / a1 * a1) + a1)))
set_option maxHeartbeats 4000000 in
set_option maxRecDepth 100000 in
theorem kJ9_floorMod_7cf53 (l : Launch) (D : va_G) (cI cJ cZ cD : ClassId) (tA : Nat) (a0 : Int32) (a1 : Int32) (hn0 : ¬ a1 = 0) : jx_Ms l yJ9_floorMod_7cf53 wsJ9_floorMod_7cf53 ({ frames := 0, cells := 0, slots := 0, locals := 0 }) D (jT cI cJ cZ cD) tA [.int a0, .int a1] [] (vp_Si (fun r => r = (sJ9_floorMod_7cf53 a0 a1))) := by
  refine jx_ofs (cc := cJ9_floorMod_7cf53) (maxL := 3) (ret := (some .int)) (by decide +kernel) rfl (Nat.le_of_ble_eq_true rfl) ?_
  intro p e s m below meth c A ls hx hb hr hlocks hml hown hts hK hP hD hA hS hX hl
  have hl : lv_has ls 3 [(0, .int a0), (1, .int a1)] := hl
  have hown : s.vm.findClass RJ9 = some m.cls := hown
  refine lv_iload_n hx hb dJ9_floorMod_7cf53_0 rfl (lv_at hl 0 rfl) ?_
  refine lv_iload_n hx hb dJ9_floorMod_7cf53_1 rfl (lv_at hl 1 rfl) ?_
  refine lv_irem hx hb dJ9_floorMod_7cf53_2 hn0 ?_
  refine lv_topi (fun v_1 ev_1 => ?_)
  refine lv_istore_n (lv' := [(2, .int v_1), (0, .int a0), (1, .int a1)]) hx hb dJ9_floorMod_7cf53_3 rfl hl (by decide) rfl (fun ls hl => ?_)
  refine lv_iload_n hx hb dJ9_floorMod_7cf53_4 rfl (lv_at hl 1 rfl) ?_
  refine lv_iload_n hx hb dJ9_floorMod_7cf53_5 rfl (lv_at hl 2 rfl) ?_
  refine lv_ixor hx hb dJ9_floorMod_7cf53_6 ?_
  refine lv_if_ge (tgt := 18) hx hb dJ9_floorMod_7cf53_7 (by decide) (fun c_2 => ?_) (fun c_2 => ?_)
  · skip
    refine lv_iload_n hx hb dJ9_floorMod_7cf53_18 rfl (lv_at hl 0 rfl) ?_
    have hq : (sJ9_floorMod_7cf53 a0 a1) = v_1 := by clear hP hD hl; have z_ := ev_1.symm; clear ev_1; subst z_; unfold sJ9_floorMod_7cf53; exact (if_pos c_2)
    exact jx_siret hx hb hr hlocks hq.symm dJ9_floorMod_7cf53_19
  · skip
    refine lv_iload_n hx hb dJ9_floorMod_7cf53_10 rfl (lv_at hl 0 rfl) ?_
    refine lv_if_eq (tgt := 18) hx hb dJ9_floorMod_7cf53_11 (by decide) (fun c_3 => ?_) (fun c_3 => ?_)
    · skip
      refine lv_iload_n hx hb dJ9_floorMod_7cf53_18 rfl (lv_at hl 0 rfl) ?_
      have hq : (sJ9_floorMod_7cf53 a0 a1) = v_1 := by clear hP hD hl; have z_ := ev_1.symm; clear ev_1; subst z_; unfold sJ9_floorMod_7cf53; exact (if_neg c_2).trans ((if_pos c_3))
      exact jx_siret hx hb hr hlocks hq.symm dJ9_floorMod_7cf53_19
    · skip
      refine lv_iload_n hx hb dJ9_floorMod_7cf53_14 rfl (lv_at hl 0 rfl) ?_
      refine lv_iload_n hx hb dJ9_floorMod_7cf53_15 rfl (lv_at hl 2 rfl) ?_
      refine lv_iadd hx hb dJ9_floorMod_7cf53_16 ?_
      have hq : (sJ9_floorMod_7cf53 a0 a1) = (v_1 + a1) := by clear hP hD hl; have z_ := ev_1.symm; clear ev_1; subst z_; unfold sJ9_floorMod_7cf53; exact (if_neg c_2).trans ((if_neg c_3))
      exact jx_siret hx hb hr hlocks hq.symm dJ9_floorMod_7cf53_17

def sJ9_floorDiv_f86c9 (a0 : Int64) (a1 : Int64) : Int64 := (if (0 : Int64) ≤ (a0 ^^^ a1) then (a0 / a1) else (if ((a0 / a1) * a1) = a0 then (a0 / a1) else ((a0 / a1) - (1 : Int64))))
set_option maxHeartbeats 4000000 in
set_option maxRecDepth 100000 in
theorem kJ9_floorDiv_f86c9 (l : Launch) (D : va_G) (cI cJ cZ cD : ClassId) (tA : Nat) (a0 : Int64) (a1 : Int64) (hn0 : ¬ a1 = 0) : jx_Ms l yJ9_floorDiv_f86c9 wsJ9_floorDiv_f86c9 ({ frames := 0, cells := 0, slots := 0, locals := 0 }) D (jT cI cJ cZ cD) tA [.long a0, .long a1] [] (vp_Sl (fun r => r = (sJ9_floorDiv_f86c9 a0 a1))) := by
  refine jx_ofs (cc := cJ9_floorDiv_f86c9) (maxL := 6) (ret := (some .long)) (by decide +kernel) rfl (Nat.le_of_ble_eq_true rfl) ?_
  intro p e s m below meth c A ls hx hb hr hlocks hml hown hts hK hP hD hA hS hX hl
  have hl : lv_has ls 6 [(0, .long a0), (2, .long a1)] := hl
  have hown : s.vm.findClass RJ9 = some m.cls := hown
  refine lv_lload_n hx hb dJ9_floorDiv_f86c9_0 rfl (lv_at hl 0 rfl) ?_
  refine lv_lload_n hx hb dJ9_floorDiv_f86c9_1 rfl (lv_at hl 1 rfl) ?_
  refine lv_ldiv hx hb dJ9_floorDiv_f86c9_2 hn0 ?_
  refine lv_topl (fun v_1 ev_1 => ?_)
  refine lv_lstore (lv' := [(4, .long v_1), (0, .long a0), (2, .long a1)]) hx hb dJ9_floorDiv_f86c9_3 hl (by decide) rfl (fun ls hl => ?_)
  refine lv_lload_n hx hb dJ9_floorDiv_f86c9_5 rfl (lv_at hl 1 rfl) ?_
  refine lv_lload_n hx hb dJ9_floorDiv_f86c9_6 rfl (lv_at hl 2 rfl) ?_
  refine lv_lxor hx hb dJ9_floorDiv_f86c9_7 ?_
  refine lv_lconst (v := 0) hx hb dJ9_floorDiv_f86c9_8 (by decide) ?_
  refine jx_l_ge (tgt := 27) hx hb dJ9_floorDiv_f86c9_9 dJ9_floorDiv_f86c9_10 (by decide) (fun c_2 => ?_) (fun c_2 => ?_)
  · skip
    refine lv_lload hx hb dJ9_floorDiv_f86c9_27 (lv_at hl 0 rfl) ?_
    have hq : (sJ9_floorDiv_f86c9 a0 a1) = v_1 := by clear hP hD hl; have z_ := ev_1.symm; clear ev_1; subst z_; unfold sJ9_floorDiv_f86c9; exact (if_pos c_2)
    exact jx_slret hx hb hr hlocks hq.symm dJ9_floorDiv_f86c9_29
  · skip
    refine lv_lload hx hb dJ9_floorDiv_f86c9_13 (lv_at hl 0 rfl) ?_
    refine lv_lload_n hx hb dJ9_floorDiv_f86c9_15 rfl (lv_at hl 2 rfl) ?_
    refine lv_lmul hx hb dJ9_floorDiv_f86c9_16 ?_
    refine lv_lload_n hx hb dJ9_floorDiv_f86c9_17 rfl (lv_at hl 1 rfl) ?_
    refine jx_l_eq (tgt := 27) hx hb dJ9_floorDiv_f86c9_18 dJ9_floorDiv_f86c9_19 (by decide) (fun c_3 => ?_) (fun c_3 => ?_)
    · skip
      refine lv_lload hx hb dJ9_floorDiv_f86c9_27 (lv_at hl 0 rfl) ?_
      have hq : (sJ9_floorDiv_f86c9 a0 a1) = v_1 := by clear hP hD hl; have z_ := ev_1.symm; clear ev_1; subst z_; unfold sJ9_floorDiv_f86c9; exact (if_neg c_2).trans ((if_pos c_3))
      exact jx_slret hx hb hr hlocks hq.symm dJ9_floorDiv_f86c9_29
    · skip
      refine lv_lload hx hb dJ9_floorDiv_f86c9_22 (lv_at hl 0 rfl) ?_
      refine lv_lconst (v := 1) hx hb dJ9_floorDiv_f86c9_24 (by decide) ?_
      refine lv_lsub hx hb dJ9_floorDiv_f86c9_25 ?_
      have hq : (sJ9_floorDiv_f86c9 a0 a1) = (v_1 - (1 : Int64)) := by clear hP hD hl; have z_ := ev_1.symm; clear ev_1; subst z_; unfold sJ9_floorDiv_f86c9; exact (if_neg c_2).trans ((if_neg c_3))
      exact jx_slret hx hb hr hlocks hq.symm dJ9_floorDiv_f86c9_26

theorem jx_bm32 {z : Int} (h1 : -2147483648 ≤ z) (h2 : z < 2147483648) : z.bmod (2 ^ 32) = z := Int.bmod_eq_of_le (by omega) (by omega)
theorem jx_bm64 {z : Int} (h1 : -9223372036854775808 ≤ z) (h2 : z < 9223372036854775808) : z.bmod (2 ^ 64) = z := Int.bmod_eq_of_le (by omega) (by omega)
theorem jx_rg32 (x : Int32) : -2147483648 ≤ x.toInt ∧ x.toInt < 2147483648 := ⟨by have := x.le_toInt; omega, by have := x.toInt_lt; omega⟩
theorem jx_rg64 (x : Int64) : -9223372036854775808 ≤ x.toInt ∧ x.toInt < 9223372036854775808 := ⟨by have := x.le_toInt; omega, by have := x.toInt_lt; omega⟩
theorem jx_td (a : Int) {b : Int} (hb : 0 < b) : a.tdiv b = if 0 ≤ a then a / b else -((-a) / b) := by
  split
  · rename_i h
    exact Int.tdiv_eq_ediv_of_nonneg h
  · rename_i h
    have h2 := Int.neg_tdiv (-a) b
    rw [Int.neg_neg] at h2
    rw [h2, Int.tdiv_eq_ediv_of_nonneg (by omega)]
theorem jx_rem64 (x : Int32) : (x - x / 64 * 64).toInt = x.toInt - x.toInt.tdiv 64 * 64 := by
  obtain ⟨a, b⟩ := jx_rg32 x
  have hd : (x / 64).toInt = x.toInt.tdiv 64 := Int32.toInt_div_of_ne_right x 64 (by decide)
  have ht := jx_td x.toInt (b := 64) (by omega)
  have hm : (x / 64 * 64).toInt = x.toInt.tdiv 64 * 64 := by
    rw [Int32.toInt_mul, hd, show (64 : Int32).toInt = 64 from rfl]
    exact jx_bm32 (by split at ht <;> omega) (by split at ht <;> omega)
  rw [Int32.toInt_sub, hm]
  exact jx_bm32 (by split at ht <;> omega) (by split at ht <;> omega)
theorem jx_xor64 (x : Int32) : 0 ≤ x ^^^ 64 ↔ 0 ≤ x.toInt := by
  have h1 : ∀ y : Int32, 0 ≤ y ↔ y.toBitVec.msb = false := fun y => by
    rw [Int32.le_iff_toInt_le, BitVec.msb_eq_toInt]
    show 0 ≤ y.toBitVec.toInt ↔ _
    simp
  rw [h1]
  have h2 : (x ^^^ 64).toBitVec.msb = x.toBitVec.msb := by
    show (x.toBitVec ^^^ (64 : Int32).toBitVec).msb = _
    rw [BitVec.msb_xor, show (64 : Int32).toBitVec.msb = false from by decide]
    simp
  rw [h2, ← h1, Int32.le_iff_toInt_le]
  exact Iff.rfl
theorem jx_fm (x : Int32) : (sJ9_floorMod_7cf53 x 64).toInt = x.toInt % 64 := by
  obtain ⟨a, b⟩ := jx_rg32 x
  have ht := jx_td x.toInt (b := 64) (by omega)
  have hr := jx_rem64 x
  unfold sJ9_floorMod_7cf53
  split
  · rename_i h
    rw [jx_xor64] at h
    rw [hr]
    split at ht <;> omega
  · rename_i h
    rw [jx_xor64] at h
    split
    · rename_i h2
      rw [h2] at hr
      rw [h2]
      have h3 : (0 : Int32).toInt = 0 := rfl
      split at ht <;> omega
    · rename_i h2
      have h3 : (x - x / 64 * 64).toInt ≠ 0 := fun z => h2 (Int32.toInt_inj.mp z)
      rw [Int32.toInt_add, hr, show (64 : Int32).toInt = 64 from rfl]
      rw [hr] at h3
      rw [jx_bm32 (by split at ht <;> omega) (by split at ht <;> omega)]
      split at ht <;> omega
theorem jx_fm64 (x : Int32) : vp_in (sJ9_floorMod_7cf53 x 64) 64 := vp_in_iff.mpr (by rw [jx_fm]; omega)

