def ldk_num (c b v d : Int32) : Int32 := if c = (100 : Int32) then (if b * v + d ≤ (1000 : Int32) then b * v + d else (1000 : Int32)) else b * v + d
def ldk_wF (f1 : Nat → Int32) (c b mo fr : Int32) : Nat → Int32 → (Nat → Int32) → Int32 × (Nat → Int32)
  | 0, v, J => (v, J)
  | n + 1, v, J => if mo ≤ J 15 - fr then (v, J) else if b ≤ sX7_digit (sX7_see J f1) then (v, J) else ldk_wF f1 c b mo fr n (ldk_num c b v (sX7_digit (sX7_see J f1))) (upd J 15 (J 15 + 1))
def ldk_rwI (f1 : Nat → Int32) (c b mo fr : Int32) (Z : Int32 × (Nat → Int32)) (I : Nat → Int32) (nn : Nat) (v : Int32) (J : Nat → Int32) : Prop := ldk_wF f1 c b mo fr nn v J = Z ∧ 160 - (J 15).toInt < nn ∧ 0 ≤ (J 15).toInt ∧ (J 2).toInt ≤ 160 ∧ J 14 = I 14
theorem ldk_dig_lt {J f : Nat → Int32} {b : Int32} (hb : b.toInt ≤ 16) (h : ¬ b ≤ sX7_digit (sX7_see J f)) : (J 15).toInt < (J 2).toInt := by
  rcases Int.lt_or_le (J 15).toInt (J 2).toInt with q | q
  · exact q
  · exfalso
    apply h
    have e : sX7_see J f = -1 := by
      unfold sX7_see
      rw [if_pos (by rw [Int32.le_iff_toInt_le]; exact q)]
    rw [e, Int32.le_iff_toInt_le, show (sX7_digit (-1)).toInt = 99 from by decide]
    omega
section LDKRW
variable {f1 I J : Nat → Int32} {c b mo fr v : Int32} {Z : Int32 × (Nat → Int32)} {nn : Nat}
theorem ldk_rwI_e1 (h : ldk_rwI f1 c b mo fr Z I nn v J) (c1 : mo ≤ J 15 - fr) : Z = (v, J) := by
  rw [← h.1]
  cases nn with
  | zero => rfl
  | succ n => exact if_pos c1
theorem ldk_rwI_e2 (h : ldk_rwI f1 c b mo fr Z I nn v J) (c1 : ¬ mo ≤ J 15 - fr) (c2 : b ≤ sX7_digit (sX7_see J f1)) : Z = (v, J) := by
  rw [← h.1]
  cases nn with
  | zero => rfl
  | succ n => exact (if_neg c1).trans (if_pos c2)
theorem ldk_rwI_step (hb : b.toInt ≤ 16) (h : ldk_rwI f1 c b mo fr Z I nn v J) (c1 : ¬ mo ≤ J 15 - fr) (c2 : ¬ b ≤ sX7_digit (sX7_see J f1)) : ldk_rwI f1 c b mo fr Z I (nn - 1) (ldk_num c b v (sX7_digit (sX7_see J f1))) (upd J 15 (J 15 + 1)) ∧ nn - 1 < nn := by
  have h5 := ldk_dig_lt hb c2
  obtain ⟨h1, h2, h3, h4, h6⟩ := h
  cases nn with
  | zero => exact absurd h2 (by omega)
  | succ n =>
    have h7 := toInt_inc h5 (by omega)
    refine ⟨⟨?_, ?_, ?_, ?_, ?_⟩, by omega⟩
    · rw [← h1, Nat.add_sub_cancel]; exact ((if_neg c1).trans (if_neg c2)).symm
    · rw [pk_us, h7, Nat.add_sub_cancel]; omega
    · rw [pk_us, h7]; omega
    · rw [pk_un (by decide)]; exact h4
    · rw [pk_un (by decide)]; exact h6
end LDKRW
def ldk_rwG (c v : Int32) (J f11 f12 f13 : Nat → Int32) : Int32 × (Nat → Int32) × (Nat → Int32) × (Nat → Int32) × (Nat → Int32) := (1, sX7_item (upd J 19 (J 19 + (if c = (104 : Int32) then (1 : Int32) else (0 : Int32)))) f11 f12 f13 (if c = (104 : Int32) then (0 : Int32) else (if c = (99 : Int32) then (1 : Int32) else (2 : Int32))) v)
def ldk_rwT (c fr v : Int32) (J f11 f12 f13 : Nat → Int32) : Int32 × (Nat → Int32) × (Nat → Int32) × (Nat → Int32) × (Nat → Int32) :=
  if J 15 = fr then (0, J, f11, f12, f13) else if c = (99 : Int32) then (if (7 : Int32) < v then (0, upd J 15 fr, f11, f12, f13) else (if c = (100 : Int32) then (if sX7_isDensity v = 0 then (0, upd J 15 fr, f11, f12, f13) else ldk_rwG c v J f11 f12 f13) else ldk_rwG c v J f11 f12 f13)) else (if c = (100 : Int32) then (if sX7_isDensity v = 0 then (0, upd J 15 fr, f11, f12, f13) else ldk_rwG c v J f11 f12 f13) else ldk_rwG c v J f11 f12 f13)
def ldk_rwZ (I f1 : Nat → Int32) (a0 : Int32) : Int32 × (Nat → Int32) := ldk_wF f1 a0 (if a0 = (104 : Int32) then (16 : Int32) else (10 : Int32)) (if a0 = (104 : Int32) then (6 : Int32) else (if a0 = (99 : Int32) then (1 : Int32) else (160 : Int32))) (I 15) 161 0 I
def sX7_readsWord (I f1 f11 f12 f13 : Nat → Int32) (a0 : Int32) : Int32 × (Nat → Int32) × (Nat → Int32) × (Nat → Int32) × (Nat → Int32) := ldk_rwT a0 (I 15) (ldk_rwZ I f1 a0).1 (ldk_rwZ I f1 a0).2 f11 f12 f13
theorem ldk_ba (a0 : Int32) : ((if a0 = (104 : Int32) then (16 : Int32) else (10 : Int32))).toInt ≤ 16 := by split <;> decide
set_option maxRecDepth 20000 in
theorem iX7_readsWord_7 : ∀ w ∈ wsX70, w ∈ wsX7_readsWord := by decide +kernel
set_option maxHeartbeats 4000000 in
set_option maxRecDepth 100000 in
theorem kX7_readsWord (l : Launch) (D : va_G) (cI cJ cZ cD : ClassId) (tA : Nat) (h : Nat) (R : Nat → Nat) (I : Nat → Int32) (L : Nat → Int64) (f1 : Nat → Int32) (f11 : Nat → Int32) (f12 : Nat → Int32) (f13 : Nat → Int32) (a0 : Int32) (ha : 0 ≤ (I 15).toInt) (hs : (I 2).toInt ≤ 160) (hi : vp_in (I 14) 160) : jx_M l yX7_readsWord wsX7_readsWord ({ frames := 1, cells := 0, slots := 0, locals := 22 }) D (jT cI cJ cZ cD) tA [.ref h, .int a0] [(h, .inr (7, (oX7 R I L))), ((R 1), .inl (cI, 160, .inl f1)), ((R 11), .inl (cI, 160, .inl f11)), ((R 12), .inl (cI, 160, .inl f12)), ((R 13), .inl (cI, 160, .inl f13))] (jx_Qi D (jT cI cJ cZ cD) (fun r (_ : Unit) => r = (sX7_readsWord I f1 f11 f12 f13 a0).1) (fun _ => [(h, .inr (7, (oX7 R (sX7_readsWord I f1 f11 f12 f13 a0).2.1 L))), ((R 1), .inl (cI, 160, .inl f1)), ((R 11), .inl (cI, 160, .inl ((sX7_readsWord I f1 f11 f12 f13 a0).2.2.1))), ((R 12), .inl (cI, 160, .inl ((sX7_readsWord I f1 f11 f12 f13 a0).2.2.2.1))), ((R 13), .inl (cI, 160, .inl ((sX7_readsWord I f1 f11 f12 f13 a0).2.2.2.2)))])) := by
  refine jx_of (cc := cX7_readsWord) (maxL := 6) (ret := (some .boolean)) (by decide +kernel) rfl (Nat.le_of_ble_eq_true rfl) ?_
  intro p e s m below meth c A ls hx hb hr hlocks hml hown hts hK hP hD hA hS hX hl
  have hl : lv_has ls 6 [(0, .ref h), (1, .int a0)] := hl
  have hown : s.vm.findClass RX7 = some m.cls := hown
  have hk86 := hts (.fieldLink RX7 86 "LoomDeskModel" "at" "I") (by decide +kernel)
  have hk104 := hts (.fieldLink RX7 104 "LoomDeskModel" "seen" "I") (by decide +kernel)
  refine lv_aload_n hx hb dX7_readsWord_0 rfl (lv_at hl 0 rfl) ?_
  refine jx_get (v := .int (I 15)) hx hb hts iX7_readsWord_7 hown hK hP 0 rfl rfl 15 (by decide) hk86 rfl rfl dX7_readsWord_1 ?_
  refine lv_istore_n (lv' := [(2, .int (I 15)), (0, .ref h), (1, .int a0)]) hx hb dX7_readsWord_4 rfl hl (by decide) rfl (fun ls hl => ?_)
  refine lv_iconst (v := 0) hx hb dX7_readsWord_5 (by decide) ?_
  refine lv_istore_n (lv' := [(3, .int (0 : Int32)), (2, .int (I 15)), (0, .ref h), (1, .int a0)]) hx hb dX7_readsWord_6 rfl hl (by decide) rfl (fun ls hl => ?_)
  refine lv_iload_n hx hb dX7_readsWord_7 rfl (lv_at hl 3 rfl) ?_
  refine lv_bipush (v := 104) hx hb dX7_readsWord_8 (by decide) ?_
  refine jx_joini (J := 31) (v := (if a0 = (104 : Int32) then (6 : Int32) else (if a0 = (99 : Int32) then (1 : Int32) else (160 : Int32)))) (rest := []) (fun key => ?_) ?_
  · skip
    refine lv_icmp_ne (tgt := 18) hx hb dX7_readsWord_10 (by decide) (fun c_1 => ?_) (fun c_1 => ?_)
    · skip
      refine lv_iload_n hx hb dX7_readsWord_18 rfl (lv_at hl 3 rfl) ?_
      refine lv_bipush (v := 99) hx hb dX7_readsWord_19 (by decide) ?_
      refine lv_icmp_ne (tgt := 28) hx hb dX7_readsWord_21 (by decide) (fun c_2 => ?_) (fun c_2 => ?_)
      · skip
        refine lv_sipush (v := 160) hx hb dX7_readsWord_28 (by decide) ?_
        rw [if_neg c_1, if_neg c_2] at key
        exact key
      · skip
        refine lv_iconst (v := 1) hx hb dX7_readsWord_24 (by decide) ?_
        refine lv_goto (tgt := 31) hx hb dX7_readsWord_25 (by decide) ?_
        rw [if_neg c_1, if_pos c_2] at key
        exact key
    · skip
      refine lv_bipush (v := 6) hx hb dX7_readsWord_13 (by decide) ?_
      refine lv_goto (tgt := 31) hx hb dX7_readsWord_15 (by decide) ?_
      rw [if_pos c_1] at key
      exact key
  refine lv_topi (fun v_3 ev_3 => ?_)
  refine lv_istore (lv' := [(4, .int v_3), (3, .int (0 : Int32)), (2, .int (I 15)), (0, .ref h), (1, .int a0)]) hx hb dX7_readsWord_31 hl (by decide) rfl (fun ls hl => ?_)
  refine lv_iload_n hx hb dX7_readsWord_33 rfl (lv_at hl 4 rfl) ?_
  refine lv_bipush (v := 104) hx hb dX7_readsWord_34 (by decide) ?_
  refine jx_joini (J := 46) (v := (if a0 = (104 : Int32) then (16 : Int32) else (10 : Int32))) (rest := []) (fun key => ?_) ?_
  · skip
    refine lv_icmp_ne (tgt := 44) hx hb dX7_readsWord_36 (by decide) (fun c_4 => ?_) (fun c_4 => ?_)
    · skip
      refine lv_bipush (v := 10) hx hb dX7_readsWord_44 (by decide) ?_
      rw [if_neg c_4] at key
      exact key
    · skip
      refine lv_bipush (v := 16) hx hb dX7_readsWord_39 (by decide) ?_
      refine lv_goto (tgt := 46) hx hb dX7_readsWord_41 (by decide) ?_
      rw [if_pos c_4] at key
      exact key
  refine lv_topi (fun v_5 ev_5 => ?_)
  refine lv_istore (lv' := [(5, .int v_5), (4, .int v_3), (3, .int (0 : Int32)), (2, .int (I 15)), (0, .ref h), (1, .int a0)]) hx hb dX7_readsWord_46 hl (by decide) rfl (fun ls hl => ?_)
  refine jx_loop (σ := (Int32) × ((Nat → Int32)) × (Nat) × (Unit)) (fun x H locs ls => va_P D vwCl [(h, .inr (7, (oX7 R x.2.1 L))), ((R 1), .inl (cI, 160, .inl f1)), ((R 11), .inl (cI, 160, .inl f11)), ((R 12), .inl (cI, 160, .inl f12)), ((R 13), .inl (cI, 160, .inl f13))] H ∧ va_D A [(h, .inr (7, (oX7 R x.2.1 L))), ((R 1), .inl (cI, 160, .inl f1)), ((R 11), .inl (cI, 160, .inl f11)), ((R 12), .inl (cI, 160, .inl f12)), ((R 13), .inl (cI, 160, .inl f13))] ∧ va_S A s.heap H locs ∧ lv_has ls 6 [(0, .ref h), (1, .int a0), (2, .int (I 15)), (3, .int x.1), (4, .int v_3), (5, .int v_5)] ∧ (ldk_rwI f1 a0 (if a0 = (104 : Int32) then (16 : Int32) else (10 : Int32)) (if a0 = (104 : Int32) then (6 : Int32) else (if a0 = (99 : Int32) then (1 : Int32) else (160 : Int32))) (I 15) (ldk_rwZ I f1 a0) I x.2.2.1 x.1 x.2.1)) (fun x => x.2.2.1) ((0 : Int32), I, 161, ()) ⟨hP, hD, hS, lv_sub hl [4, 5, 3, 2, 1, 0] rfl, (show ldk_rwI f1 a0 (if a0 = (104 : Int32) then (16 : Int32) else (10 : Int32)) (if a0 = (104 : Int32) then (6 : Int32) else (if a0 = (99 : Int32) then (1 : Int32) else (160 : Int32))) (I 15) (ldk_rwZ I f1 a0) I 161 (0 : Int32) I from ⟨rfl, by omega, ha, hs, rfl⟩)⟩ ?_
  intro x H locs ls hI ih
  obtain ⟨vv, J, nn, ux⟩ := x
  obtain ⟨hP, hD, hS, hl, hp⟩ := hI
  have hP : va_P D vwCl [(h, .inr (7, (oX7 R J L))), ((R 1), .inl (cI, 160, .inl f1)), ((R 11), .inl (cI, 160, .inl f11)), ((R 12), .inl (cI, 160, .inl f12)), ((R 13), .inl (cI, 160, .inl f13))] H := hP
  have hD : va_D A [(h, .inr (7, (oX7 R J L))), ((R 1), .inl (cI, 160, .inl f1)), ((R 11), .inl (cI, 160, .inl f11)), ((R 12), .inl (cI, 160, .inl f12)), ((R 13), .inl (cI, 160, .inl f13))] := hD
  have hl : lv_has ls 6 [(0, .ref h), (1, .int a0), (2, .int (I 15)), (3, .int vv), (4, .int v_3), (5, .int v_5)] := hl
  have hp : ldk_rwI f1 a0 (if a0 = (104 : Int32) then (16 : Int32) else (10 : Int32)) (if a0 = (104 : Int32) then (6 : Int32) else (if a0 = (99 : Int32) then (1 : Int32) else (160 : Int32))) (I 15) (ldk_rwZ I f1 a0) I nn vv J := hp
  refine jx_cutl (J := 118) (P := (ldk_rwZ I f1 a0) = (vv, J)) (lv := [(0, .ref h), (1, .int a0), (2, .int (I 15)), (3, .int vv), (4, .int v_3), (5, .int v_5)]) (nL := 6) (rest := []) (fun key => ?_) (fun ls hfin hl => ?_)
  · skip
    refine lv_aload_n hx hb dX7_readsWord_48 rfl (lv_at hl 0 rfl) ?_
    refine jx_get (v := .int (J 15)) hx hb hts iX7_readsWord_7 hown hK hP 0 rfl rfl 15 (by decide) hk86 rfl rfl dX7_readsWord_49 ?_
    refine lv_iload_n hx hb dX7_readsWord_52 rfl (lv_at hl 2 rfl) ?_
    refine lv_isub hx hb dX7_readsWord_53 ?_
    refine lv_iload hx hb dX7_readsWord_54 (lv_at hl 4 rfl) ?_
    refine lv_icmp_ge (tgt := 118) hx hb dX7_readsWord_56 (by decide) (fun c_6 => ?_) (fun c_6 => ?_)
    · skip
      exact key _ (by clear hP hD hl; have z_ := ev_5.symm; clear ev_5; subst z_; have z_ := ev_3.symm; clear ev_3; subst z_; exact ldk_rwI_e1 hp c_6) (lv_sub hl [0, 1, 2, 3, 4, 5] rfl)
    · skip
      refine lv_aload_n hx hb dX7_readsWord_59 rfl (lv_at hl 0 rfl) ?_
      refine jx_pcalli (wc := [(h, .inr (7, (oX7 R J L))), ((R 1), .inl (cI, 160, .inl f1))]) hP hD hS hA [0, 1] rfl (by decide) (fun hPc hDc hF => jx_runVs (As := []) (rest := []) (n := 0) (ci := 7) (q0 := 0) hx hb hml hown hts hK hX hS hl.1 (kX7_see l D cI cJ cZ cD tA h R J L f1 hp.2.2.1 hp.2.2.2.1) gX7_readsWord_X7_see rfl rfl rfl (by decide +kernel) ⟨Nat.le_of_ble_eq_true rfl, Nat.le_of_ble_eq_true rfl⟩ rfl rfl rfl rfl rfl (Nat.le_of_ble_eq_true rfl) dX7_readsWord_60 ⟨Nat.zero_le _, Nat.zero_le _⟩ hPc hDc hF) (fun r_7 er_7 => ?_)
      have er_7 : r_7 = (sX7_see J f1) := er_7
      refine jx_pcalli (wc := []) hP hD hS hA [] rfl (by decide) (fun hPc hDc hF => jx_runSs (As := [.int r_7]) (rest := []) (n := 1) hx hb hml hown hts hK hX hS hl.1 (kX7_digit l D cI cJ cZ cD tA r_7) gX7_readsWord_X7_digit rfl rfl rfl (by decide +kernel) ⟨Nat.le_of_ble_eq_true rfl, Nat.le_of_ble_eq_true rfl⟩ rfl rfl (Nat.le_of_ble_eq_true rfl) dX7_readsWord_63 ⟨Nat.zero_le _, Nat.zero_le _⟩ hPc hDc hF) (fun r_8 er_8 => ?_)
      have er_8 : r_8 = (sX7_digit r_7) := er_8
      refine lv_iload hx hb dX7_readsWord_66 (lv_at hl 5 rfl) ?_
      refine lv_icmp_ge (tgt := 118) hx hb dX7_readsWord_68 (by decide) (fun c_9 => ?_) (fun c_9 => ?_)
      · skip
        exact key _ (by clear hP hD hl; have z_ := er_8.symm; clear er_8; subst z_; have z_ := er_7.symm; clear er_7; subst z_; have z_ := ev_5.symm; clear ev_5; subst z_; have z_ := ev_3.symm; clear ev_3; subst z_; exact ldk_rwI_e2 hp c_6 c_9) (lv_sub hl [0, 1, 2, 3, 4, 5] rfl)
      · skip
        refine lv_iload hx hb dX7_readsWord_71 (lv_at hl 5 rfl) ?_
        refine lv_iload_n hx hb dX7_readsWord_73 rfl (lv_at hl 3 rfl) ?_
        refine lv_imul hx hb dX7_readsWord_74 ?_
        refine lv_aload_n hx hb dX7_readsWord_75 rfl (lv_at hl 0 rfl) ?_
        refine jx_pcalli (wc := [(h, .inr (7, (oX7 R J L))), ((R 1), .inl (cI, 160, .inl f1))]) hP hD hS hA [0, 1] rfl (by decide) (fun hPc hDc hF => jx_runVs (As := []) (rest := [.int (v_5 * vv)]) (n := 0) (ci := 7) (q0 := 0) hx hb hml hown hts hK hX hS hl.1 (kX7_see l D cI cJ cZ cD tA h R J L f1 hp.2.2.1 hp.2.2.2.1) gX7_readsWord_X7_see rfl rfl rfl (by decide +kernel) ⟨Nat.le_of_ble_eq_true rfl, Nat.le_of_ble_eq_true rfl⟩ rfl rfl rfl rfl rfl (Nat.le_of_ble_eq_true rfl) dX7_readsWord_76 ⟨Nat.zero_le _, Nat.zero_le _⟩ hPc hDc hF) (fun r_10 er_10 => ?_)
        have er_10 : r_10 = (sX7_see J f1) := er_10
        refine jx_pcalli (wc := []) hP hD hS hA [] rfl (by decide) (fun hPc hDc hF => jx_runSs (As := [.int r_10]) (rest := [.int (v_5 * vv)]) (n := 1) hx hb hml hown hts hK hX hS hl.1 (kX7_digit l D cI cJ cZ cD tA r_10) gX7_readsWord_X7_digit rfl rfl rfl (by decide +kernel) ⟨Nat.le_of_ble_eq_true rfl, Nat.le_of_ble_eq_true rfl⟩ rfl rfl (Nat.le_of_ble_eq_true rfl) dX7_readsWord_79 ⟨Nat.zero_le _, Nat.zero_le _⟩ hPc hDc hF) (fun r_11 er_11 => ?_)
        have er_11 : r_11 = (sX7_digit r_10) := er_11
        refine lv_iadd hx hb dX7_readsWord_82 ?_
        refine lv_topi (fun v_12 ev_12 => ?_)
        refine lv_istore_n (lv' := [(3, .int v_12), (0, .ref h), (1, .int a0), (2, .int (I 15)), (4, .int v_3), (5, .int v_5)]) hx hb dX7_readsWord_83 rfl hl (by decide) rfl (fun ls hl => ?_)
        refine lv_iload_n hx hb dX7_readsWord_84 rfl (lv_at hl 2 rfl) ?_
        refine lv_bipush (v := 100) hx hb dX7_readsWord_85 (by decide) ?_
        refine jx_joini (J := 104) (v := (if a0 = (100 : Int32) then (if v_12 ≤ (1000 : Int32) then v_12 else (1000 : Int32)) else v_12)) (rest := []) (fun key => ?_) ?_
        · skip
          refine lv_icmp_ne (tgt := 103) hx hb dX7_readsWord_87 (by decide) (fun c_13 => ?_) (fun c_13 => ?_)
          · skip
            refine lv_iload_n hx hb dX7_readsWord_103 rfl (lv_at hl 0 rfl) ?_
            rw [if_neg c_13] at key
            exact key
          · skip
            refine lv_iload_n hx hb dX7_readsWord_90 rfl (lv_at hl 0 rfl) ?_
            refine lv_sipush (v := 1000) hx hb dX7_readsWord_91 (by decide) ?_
            refine lv_icmp_le (tgt := 103) hx hb dX7_readsWord_94 (by decide) (fun c_14 => ?_) (fun c_14 => ?_)
            · skip
              refine lv_iload_n hx hb dX7_readsWord_103 rfl (lv_at hl 0 rfl) ?_
              rw [if_pos c_13, if_pos c_14] at key
              exact key
            · skip
              refine lv_sipush (v := 1000) hx hb dX7_readsWord_97 (by decide) ?_
              refine lv_goto (tgt := 104) hx hb dX7_readsWord_100 (by decide) ?_
              rw [if_pos c_13, if_neg c_14] at key
              exact key
        refine lv_topi (fun v_15 ev_15 => ?_)
        refine lv_istore_n (lv' := [(3, .int v_15), (0, .ref h), (1, .int a0), (2, .int (I 15)), (4, .int v_3), (5, .int v_5)]) hx hb dX7_readsWord_104 rfl hl (by decide) rfl (fun ls hl => ?_)
        refine lv_aload_n hx hb dX7_readsWord_105 rfl (lv_at hl 1 rfl) ?_
        refine lv_dup hx hb dX7_readsWord_106 rfl ?_
        refine jx_get (v := .int (J 15)) hx hb hts iX7_readsWord_7 hown hK hP 0 rfl rfl 15 (by decide) hk86 rfl rfl dX7_readsWord_107 ?_
        refine lv_iconst (v := 1) hx hb dX7_readsWord_110 (by decide) ?_
        refine lv_iadd hx hb dX7_readsWord_111 ?_
        refine lv_topi (fun v_16 ev_16 => ?_)
        refine jx_put (w2 := [(h, .inr (7, (oX7 R (upd J 15 v_16) L))), ((R 1), .inl (cI, 160, .inl f1)), ((R 11), .inl (cI, 160, .inl f11)), ((R 12), .inl (cI, 160, .inl f12)), ((R 13), .inl (cI, 160, .inl f13))]) hx hb hts iX7_readsWord_7 tyX7 tyX7_ok nmX7 hown hK hP hD hS 0 rfl rfl 15 (by decide) hk86 rfl rfl rfl rfl (Nat.le_of_ble_eq_true rfl) dX7_readsWord_112 rfl (fun H locs hP hD hS => ?_)
        refine lv_goto (tgt := 48) hx hb dX7_readsWord_115 (by decide) ?_
        exact ih (v_15, (upd J 15 v_16), nn - 1, ()) _ _ _ ⟨hP, hD, hS, lv_sub hl [1, 2, 3, 0, 4, 5] rfl, (show ldk_rwI f1 a0 (if a0 = (104 : Int32) then (16 : Int32) else (10 : Int32)) (if a0 = (104 : Int32) then (6 : Int32) else (if a0 = (99 : Int32) then (1 : Int32) else (160 : Int32))) (I 15) (ldk_rwZ I f1 a0) I (nn - 1) v_15 (upd J 15 v_16) from (by clear hP hD hl; have z_ := ev_16.symm; clear ev_16; subst z_; have z_ := ev_15.symm; clear ev_15; subst z_; have z_ := ev_12.symm; clear ev_12; subst z_; have z_ := er_11.symm; clear er_11; subst z_; have z_ := er_10.symm; clear er_10; subst z_; have z_ := er_8.symm; clear er_8; subst z_; have z_ := er_7.symm; clear er_7; subst z_; have z_ := ev_5.symm; clear ev_5; subst z_; have z_ := ev_3.symm; clear ev_3; subst z_; exact (ldk_rwI_step (ldk_ba _) hp c_6 c_9).1))⟩ (show (nn - 1) < nn from (by clear hP hD hl; have z_ := ev_16.symm; clear ev_16; subst z_; have z_ := ev_15.symm; clear ev_15; subst z_; have z_ := ev_12.symm; clear ev_12; subst z_; have z_ := er_11.symm; clear er_11; subst z_; have z_ := er_10.symm; clear er_10; subst z_; have z_ := er_8.symm; clear er_8; subst z_; have z_ := er_7.symm; clear er_7; subst z_; have z_ := ev_5.symm; clear ev_5; subst z_; have z_ := ev_3.symm; clear ev_3; subst z_; exact (ldk_rwI_step (ldk_ba _) hp c_6 c_9).2))
  · skip
    refine lv_aload_n hx hb dX7_readsWord_118 rfl (lv_at hl 0 rfl) ?_
    refine jx_get (v := .int (J 15)) hx hb hts iX7_readsWord_7 hown hK hP 0 rfl rfl 15 (by decide) hk86 rfl rfl dX7_readsWord_119 ?_
    refine lv_iload_n hx hb dX7_readsWord_122 rfl (lv_at hl 2 rfl) ?_
    refine lv_icmp_ne (tgt := 128) hx hb dX7_readsWord_123 (by decide) (fun c_17 => ?_) (fun c_17 => ?_)
    · skip
      refine lv_iload_n hx hb dX7_readsWord_128 rfl (lv_at hl 1 rfl) ?_
      refine lv_bipush (v := 99) hx hb dX7_readsWord_129 (by decide) ?_
      refine lv_icmp_ne (tgt := 140) hx hb dX7_readsWord_131 (by decide) (fun c_18 => ?_) (fun c_18 => ?_)
      · skip
        refine lv_iload_n hx hb dX7_readsWord_140 rfl (lv_at hl 1 rfl) ?_
        refine lv_bipush (v := 100) hx hb dX7_readsWord_141 (by decide) ?_
        refine lv_icmp_ne (tgt := 160) hx hb dX7_readsWord_143 (by decide) (fun c_19 => ?_) (fun c_19 => ?_)
        · skip
          refine lv_aload_n hx hb dX7_readsWord_160 rfl (lv_at hl 0 rfl) ?_
          refine lv_dup hx hb dX7_readsWord_161 rfl ?_
          refine jx_get (v := .int (J 19)) hx hb hts iX7_readsWord_7 hown hK hP 0 rfl rfl 19 (by decide) hk104 rfl rfl dX7_readsWord_162 ?_
          refine lv_iload_n hx hb dX7_readsWord_165 rfl (lv_at hl 1 rfl) ?_
          refine lv_bipush (v := 104) hx hb dX7_readsWord_166 (by decide) ?_
          refine jx_joini (J := 176) (v := (if a0 = (104 : Int32) then (1 : Int32) else (0 : Int32))) (rest := [.int (J 19), .ref h]) (fun key => ?_) ?_
          · skip
            refine lv_icmp_ne (tgt := 175) hx hb dX7_readsWord_168 (by decide) (fun c_20 => ?_) (fun c_20 => ?_)
            · skip
              refine lv_iconst (v := 0) hx hb dX7_readsWord_175 (by decide) ?_
              rw [if_neg c_20] at key
              exact key
            · skip
              refine lv_iconst (v := 1) hx hb dX7_readsWord_171 (by decide) ?_
              refine lv_goto (tgt := 176) hx hb dX7_readsWord_172 (by decide) ?_
              rw [if_pos c_20] at key
              exact key
          refine lv_topi (fun v_21 ev_21 => ?_)
          refine lv_iadd hx hb dX7_readsWord_176 ?_
          refine lv_topi (fun v_22 ev_22 => ?_)
          refine jx_put (w2 := [(h, .inr (7, (oX7 R (upd J 19 v_22) L))), ((R 1), .inl (cI, 160, .inl f1)), ((R 11), .inl (cI, 160, .inl f11)), ((R 12), .inl (cI, 160, .inl f12)), ((R 13), .inl (cI, 160, .inl f13))]) hx hb hts iX7_readsWord_7 tyX7 tyX7_ok nmX7 hown hK hP hD hS 0 rfl rfl 19 (by decide) hk104 rfl rfl rfl rfl (Nat.le_of_ble_eq_true rfl) dX7_readsWord_177 rfl (fun H locs hP hD hS => ?_)
          refine lv_aload_n hx hb dX7_readsWord_180 rfl (lv_at hl 0 rfl) ?_
          refine lv_iload_n hx hb dX7_readsWord_181 rfl (lv_at hl 1 rfl) ?_
          refine lv_bipush (v := 104) hx hb dX7_readsWord_182 (by decide) ?_
          refine jx_joini (J := 202) (v := (if a0 = (104 : Int32) then (0 : Int32) else (if a0 = (99 : Int32) then (1 : Int32) else (2 : Int32)))) (rest := [.ref h]) (fun key => ?_) ?_
          · skip
            refine lv_icmp_ne (tgt := 191) hx hb dX7_readsWord_184 (by decide) (fun c_23 => ?_) (fun c_23 => ?_)
            · skip
              refine lv_iload_n hx hb dX7_readsWord_191 rfl (lv_at hl 1 rfl) ?_
              refine lv_bipush (v := 99) hx hb dX7_readsWord_192 (by decide) ?_
              refine lv_icmp_ne (tgt := 201) hx hb dX7_readsWord_194 (by decide) (fun c_24 => ?_) (fun c_24 => ?_)
              · skip
                refine lv_iconst (v := 2) hx hb dX7_readsWord_201 (by decide) ?_
                rw [if_neg c_23, if_neg c_24] at key
                exact key
              · skip
                refine lv_iconst (v := 1) hx hb dX7_readsWord_197 (by decide) ?_
                refine lv_goto (tgt := 202) hx hb dX7_readsWord_198 (by decide) ?_
                rw [if_neg c_23, if_pos c_24] at key
                exact key
            · skip
              refine lv_iconst (v := 0) hx hb dX7_readsWord_187 (by decide) ?_
              refine lv_goto (tgt := 202) hx hb dX7_readsWord_188 (by decide) ?_
              rw [if_pos c_23] at key
              exact key
          refine lv_topi (fun v_25 ev_25 => ?_)
          refine lv_iload_n hx hb dX7_readsWord_202 rfl (lv_at hl 3 rfl) ?_
          refine jx_callv (wc := [(h, .inr (7, (oX7 R (upd J 19 v_22) L))), ((R 11), .inl (cI, 160, .inl f11)), ((R 12), .inl (cI, 160, .inl f12)), ((R 13), .inl (cI, 160, .inl f13))]) (wr := [((R 1), .inl (cI, 160, .inl f1))]) hP hD hS hA hK [0, 2, 3, 4] [1] rfl rfl (by decide) (by decide) (by decide) (fun hPc hDc hF => jx_runV (As := [.int v_25, .int vv]) (rest := []) (n := 2) (ci := 7) (q0 := 0) hx hb hml hown hts hK hX hS hl.1 (kX7_item l D cI cJ cZ cD tA h R (upd J 19 v_22) L f11 f12 f13 v_25 vv (by clear hP hD hl; have z_ := ev_25.symm; clear ev_25; subst z_; have z_ := ev_22.symm; clear ev_22; subst z_; have z_ := ev_21.symm; clear ev_21; subst z_; have z_ := ev_5.symm; clear ev_5; subst z_; have z_ := ev_3.symm; clear ev_3; subst z_; rw [show ∀ (y : Int32), (upd J 19 y) 14 = I 14 from fun y => (pk_un (by decide)).trans hp.2.2.2.2]; exact hi)) gX7_readsWord_X7_item rfl rfl rfl (by decide +kernel) ⟨Nat.le_of_ble_eq_true rfl, Nat.le_of_ble_eq_true rfl⟩ rfl rfl rfl rfl rfl (Nat.le_of_ble_eq_true rfl) dX7_readsWord_203 ⟨Nat.zero_le _, Nat.zero_le _⟩ hPc hDc hF) (fun u H locs hw hP hD hS => ?_)
          obtain ⟨I_27, eI_27⟩ : ∃ x : (Nat → Int32), x = (sX7_item (upd J 19 v_22) f11 f12 f13 v_25 vv).1 := ⟨_, rfl⟩
          obtain ⟨f_28, ef_28⟩ : ∃ x : (Nat → Int32), x = (sX7_item (upd J 19 v_22) f11 f12 f13 v_25 vv).2.1 := ⟨_, rfl⟩
          obtain ⟨f_29, ef_29⟩ : ∃ x : (Nat → Int32), x = (sX7_item (upd J 19 v_22) f11 f12 f13 v_25 vv).2.2.1 := ⟨_, rfl⟩
          obtain ⟨f_30, ef_30⟩ : ∃ x : (Nat → Int32), x = (sX7_item (upd J 19 v_22) f11 f12 f13 v_25 vv).2.2.2 := ⟨_, rfl⟩
          have hP : va_P D vwCl [((R 1), .inl (cI, 160, .inl f1)), (h, .inr (7, (oX7 R I_27 L))), ((R 11), .inl (cI, 160, .inl f_28)), ((R 12), .inl (cI, 160, .inl f_29)), ((R 13), .inl (cI, 160, .inl f_30))] H := by rw [eI_27, ef_28, ef_29, ef_30]; exact hP
          have hD : va_D A [((R 1), .inl (cI, 160, .inl f1)), (h, .inr (7, (oX7 R I_27 L))), ((R 11), .inl (cI, 160, .inl f_28)), ((R 12), .inl (cI, 160, .inl f_29)), ((R 13), .inl (cI, 160, .inl f_30))] := by rw [eI_27, ef_28, ef_29, ef_30]; exact hD
          refine lv_iconst (v := 1) hx hb dX7_readsWord_206 (by decide) ?_
          have hq : (sX7_readsWord I f1 f11 f12 f13 a0) = ((1 : Int32), I_27, f_28, f_29, f_30) := (by clear hP hD hl; have z_ := ef_30.symm; clear ef_30; subst z_; have z_ := ef_29.symm; clear ef_29; subst z_; have z_ := ef_28.symm; clear ef_28; subst z_; have z_ := eI_27.symm; clear eI_27; subst z_; have z_ := ev_25.symm; clear ev_25; subst z_; have z_ := ev_22.symm; clear ev_22; subst z_; have z_ := ev_21.symm; clear ev_21; subst z_; have z_ := ev_5.symm; clear ev_5; subst z_; have z_ := ev_3.symm; clear ev_3; subst z_; unfold sX7_readsWord; rw [hfin]; exact (if_neg c_17).trans ((if_neg c_18).trans ((if_neg c_19))))
          exact jx_zret () hx hb hr hlocks hK (hP.sub (ws' := [(h, .inr (7, (oX7 R I_27 L))), ((R 1), .inl (cI, 160, .inl f1)), ((R 11), .inl (cI, 160, .inl f_28)), ((R 12), .inl (cI, 160, .inl f_29)), ((R 13), .inl (cI, 160, .inl f_30))]) [1, 0, 2, 3, 4] rfl) (hD.sub (ws' := [(h, .inr (7, (oX7 R I_27 L))), ((R 1), .inl (cI, 160, .inl f1)), ((R 11), .inl (cI, 160, .inl f_28)), ((R 12), .inl (cI, 160, .inl f_29)), ((R 13), .inl (cI, 160, .inl f_30))]) [1, 0, 2, 3, 4] (by decide) rfl) hS (by rw [hq]) (by rw [hq]) (Or.inr rfl) dX7_readsWord_207
        · skip
          refine lv_iload_n hx hb dX7_readsWord_146 rfl (lv_at hl 3 rfl) ?_
          refine jx_pcalli (wc := []) hP hD hS hA [] rfl (by decide) (fun hPc hDc hF => jx_runSs (As := [.int vv]) (rest := []) (n := 1) hx hb hml hown hts hK hX hS hl.1 (kX7_isDensity l D cI cJ cZ cD tA vv) gX7_readsWord_X7_isDensity rfl rfl rfl (by decide +kernel) ⟨Nat.le_of_ble_eq_true rfl, Nat.le_of_ble_eq_true rfl⟩ rfl rfl (Nat.le_of_ble_eq_true rfl) dX7_readsWord_147 ⟨Nat.zero_le _, Nat.zero_le _⟩ hPc hDc hF) (fun r_31 er_31 => ?_)
          have er_31 : r_31 = (sX7_isDensity vv) := er_31
          refine lv_if_ne (tgt := 160) hx hb dX7_readsWord_150 (by decide) (fun c_32 => ?_) (fun c_32 => ?_)
          · skip
            refine lv_aload_n hx hb dX7_readsWord_160 rfl (lv_at hl 0 rfl) ?_
            refine lv_dup hx hb dX7_readsWord_161 rfl ?_
            refine jx_get (v := .int (J 19)) hx hb hts iX7_readsWord_7 hown hK hP 0 rfl rfl 19 (by decide) hk104 rfl rfl dX7_readsWord_162 ?_
            refine lv_iload_n hx hb dX7_readsWord_165 rfl (lv_at hl 1 rfl) ?_
            refine lv_bipush (v := 104) hx hb dX7_readsWord_166 (by decide) ?_
            refine jx_joini (J := 176) (v := (if a0 = (104 : Int32) then (1 : Int32) else (0 : Int32))) (rest := [.int (J 19), .ref h]) (fun key => ?_) ?_
            · skip
              refine lv_icmp_ne (tgt := 175) hx hb dX7_readsWord_168 (by decide) (fun c_33 => ?_) (fun c_33 => ?_)
              · skip
                refine lv_iconst (v := 0) hx hb dX7_readsWord_175 (by decide) ?_
                rw [if_neg c_33] at key
                exact key
              · skip
                refine lv_iconst (v := 1) hx hb dX7_readsWord_171 (by decide) ?_
                refine lv_goto (tgt := 176) hx hb dX7_readsWord_172 (by decide) ?_
                rw [if_pos c_33] at key
                exact key
            refine lv_topi (fun v_34 ev_34 => ?_)
            refine lv_iadd hx hb dX7_readsWord_176 ?_
            refine lv_topi (fun v_35 ev_35 => ?_)
            refine jx_put (w2 := [(h, .inr (7, (oX7 R (upd J 19 v_35) L))), ((R 1), .inl (cI, 160, .inl f1)), ((R 11), .inl (cI, 160, .inl f11)), ((R 12), .inl (cI, 160, .inl f12)), ((R 13), .inl (cI, 160, .inl f13))]) hx hb hts iX7_readsWord_7 tyX7 tyX7_ok nmX7 hown hK hP hD hS 0 rfl rfl 19 (by decide) hk104 rfl rfl rfl rfl (Nat.le_of_ble_eq_true rfl) dX7_readsWord_177 rfl (fun H locs hP hD hS => ?_)
            refine lv_aload_n hx hb dX7_readsWord_180 rfl (lv_at hl 0 rfl) ?_
            refine lv_iload_n hx hb dX7_readsWord_181 rfl (lv_at hl 1 rfl) ?_
            refine lv_bipush (v := 104) hx hb dX7_readsWord_182 (by decide) ?_
            refine jx_joini (J := 202) (v := (if a0 = (104 : Int32) then (0 : Int32) else (if a0 = (99 : Int32) then (1 : Int32) else (2 : Int32)))) (rest := [.ref h]) (fun key => ?_) ?_
            · skip
              refine lv_icmp_ne (tgt := 191) hx hb dX7_readsWord_184 (by decide) (fun c_36 => ?_) (fun c_36 => ?_)
              · skip
                refine lv_iload_n hx hb dX7_readsWord_191 rfl (lv_at hl 1 rfl) ?_
                refine lv_bipush (v := 99) hx hb dX7_readsWord_192 (by decide) ?_
                refine lv_icmp_ne (tgt := 201) hx hb dX7_readsWord_194 (by decide) (fun c_37 => ?_) (fun c_37 => ?_)
                · skip
                  refine lv_iconst (v := 2) hx hb dX7_readsWord_201 (by decide) ?_
                  rw [if_neg c_36, if_neg c_37] at key
                  exact key
                · skip
                  refine lv_iconst (v := 1) hx hb dX7_readsWord_197 (by decide) ?_
                  refine lv_goto (tgt := 202) hx hb dX7_readsWord_198 (by decide) ?_
                  rw [if_neg c_36, if_pos c_37] at key
                  exact key
              · skip
                refine lv_iconst (v := 0) hx hb dX7_readsWord_187 (by decide) ?_
                refine lv_goto (tgt := 202) hx hb dX7_readsWord_188 (by decide) ?_
                rw [if_pos c_36] at key
                exact key
            refine lv_topi (fun v_38 ev_38 => ?_)
            refine lv_iload_n hx hb dX7_readsWord_202 rfl (lv_at hl 3 rfl) ?_
            refine jx_callv (wc := [(h, .inr (7, (oX7 R (upd J 19 v_35) L))), ((R 11), .inl (cI, 160, .inl f11)), ((R 12), .inl (cI, 160, .inl f12)), ((R 13), .inl (cI, 160, .inl f13))]) (wr := [((R 1), .inl (cI, 160, .inl f1))]) hP hD hS hA hK [0, 2, 3, 4] [1] rfl rfl (by decide) (by decide) (by decide) (fun hPc hDc hF => jx_runV (As := [.int v_38, .int vv]) (rest := []) (n := 2) (ci := 7) (q0 := 0) hx hb hml hown hts hK hX hS hl.1 (kX7_item l D cI cJ cZ cD tA h R (upd J 19 v_35) L f11 f12 f13 v_38 vv (by clear hP hD hl; have z_ := ev_38.symm; clear ev_38; subst z_; have z_ := ev_35.symm; clear ev_35; subst z_; have z_ := ev_34.symm; clear ev_34; subst z_; have z_ := er_31.symm; clear er_31; subst z_; have z_ := ev_5.symm; clear ev_5; subst z_; have z_ := ev_3.symm; clear ev_3; subst z_; rw [show ∀ (y : Int32), (upd J 19 y) 14 = I 14 from fun y => (pk_un (by decide)).trans hp.2.2.2.2]; exact hi)) gX7_readsWord_X7_item rfl rfl rfl (by decide +kernel) ⟨Nat.le_of_ble_eq_true rfl, Nat.le_of_ble_eq_true rfl⟩ rfl rfl rfl rfl rfl (Nat.le_of_ble_eq_true rfl) dX7_readsWord_203 ⟨Nat.zero_le _, Nat.zero_le _⟩ hPc hDc hF) (fun u H locs hw hP hD hS => ?_)
            obtain ⟨I_40, eI_40⟩ : ∃ x : (Nat → Int32), x = (sX7_item (upd J 19 v_35) f11 f12 f13 v_38 vv).1 := ⟨_, rfl⟩
            obtain ⟨f_41, ef_41⟩ : ∃ x : (Nat → Int32), x = (sX7_item (upd J 19 v_35) f11 f12 f13 v_38 vv).2.1 := ⟨_, rfl⟩
            obtain ⟨f_42, ef_42⟩ : ∃ x : (Nat → Int32), x = (sX7_item (upd J 19 v_35) f11 f12 f13 v_38 vv).2.2.1 := ⟨_, rfl⟩
            obtain ⟨f_43, ef_43⟩ : ∃ x : (Nat → Int32), x = (sX7_item (upd J 19 v_35) f11 f12 f13 v_38 vv).2.2.2 := ⟨_, rfl⟩
            have hP : va_P D vwCl [((R 1), .inl (cI, 160, .inl f1)), (h, .inr (7, (oX7 R I_40 L))), ((R 11), .inl (cI, 160, .inl f_41)), ((R 12), .inl (cI, 160, .inl f_42)), ((R 13), .inl (cI, 160, .inl f_43))] H := by rw [eI_40, ef_41, ef_42, ef_43]; exact hP
            have hD : va_D A [((R 1), .inl (cI, 160, .inl f1)), (h, .inr (7, (oX7 R I_40 L))), ((R 11), .inl (cI, 160, .inl f_41)), ((R 12), .inl (cI, 160, .inl f_42)), ((R 13), .inl (cI, 160, .inl f_43))] := by rw [eI_40, ef_41, ef_42, ef_43]; exact hD
            refine lv_iconst (v := 1) hx hb dX7_readsWord_206 (by decide) ?_
            have hq : (sX7_readsWord I f1 f11 f12 f13 a0) = ((1 : Int32), I_40, f_41, f_42, f_43) := (by clear hP hD hl; have z_ := ef_43.symm; clear ef_43; subst z_; have z_ := ef_42.symm; clear ef_42; subst z_; have z_ := ef_41.symm; clear ef_41; subst z_; have z_ := eI_40.symm; clear eI_40; subst z_; have z_ := ev_38.symm; clear ev_38; subst z_; have z_ := ev_35.symm; clear ev_35; subst z_; have z_ := ev_34.symm; clear ev_34; subst z_; have z_ := er_31.symm; clear er_31; subst z_; have z_ := ev_5.symm; clear ev_5; subst z_; have z_ := ev_3.symm; clear ev_3; subst z_; unfold sX7_readsWord; rw [hfin]; exact (if_neg c_17).trans ((if_neg c_18).trans ((if_pos c_19).trans ((if_neg c_32)))))
            exact jx_zret () hx hb hr hlocks hK (hP.sub (ws' := [(h, .inr (7, (oX7 R I_40 L))), ((R 1), .inl (cI, 160, .inl f1)), ((R 11), .inl (cI, 160, .inl f_41)), ((R 12), .inl (cI, 160, .inl f_42)), ((R 13), .inl (cI, 160, .inl f_43))]) [1, 0, 2, 3, 4] rfl) (hD.sub (ws' := [(h, .inr (7, (oX7 R I_40 L))), ((R 1), .inl (cI, 160, .inl f1)), ((R 11), .inl (cI, 160, .inl f_41)), ((R 12), .inl (cI, 160, .inl f_42)), ((R 13), .inl (cI, 160, .inl f_43))]) [1, 0, 2, 3, 4] (by decide) rfl) hS (by rw [hq]) (by rw [hq]) (Or.inr rfl) dX7_readsWord_207
          · skip
            refine lv_aload_n hx hb dX7_readsWord_153 rfl (lv_at hl 0 rfl) ?_
            refine lv_iload_n hx hb dX7_readsWord_154 rfl (lv_at hl 2 rfl) ?_
            refine jx_put (w2 := [(h, .inr (7, (oX7 R (upd J 15 (I 15)) L))), ((R 1), .inl (cI, 160, .inl f1)), ((R 11), .inl (cI, 160, .inl f11)), ((R 12), .inl (cI, 160, .inl f12)), ((R 13), .inl (cI, 160, .inl f13))]) hx hb hts iX7_readsWord_7 tyX7 tyX7_ok nmX7 hown hK hP hD hS 0 rfl rfl 15 (by decide) hk86 rfl rfl rfl rfl (Nat.le_of_ble_eq_true rfl) dX7_readsWord_155 rfl (fun H locs hP hD hS => ?_)
            refine lv_iconst (v := 0) hx hb dX7_readsWord_158 (by decide) ?_
            have hq : (sX7_readsWord I f1 f11 f12 f13 a0) = ((0 : Int32), (upd J 15 (I 15)), f11, f12, f13) := (by clear hP hD hl; have z_ := er_31.symm; clear er_31; subst z_; have z_ := ev_5.symm; clear ev_5; subst z_; have z_ := ev_3.symm; clear ev_3; subst z_; unfold sX7_readsWord; rw [hfin]; exact (if_neg c_17).trans ((if_neg c_18).trans ((if_pos c_19).trans ((if_pos c_32)))))
            exact jx_zret () hx hb hr hlocks hK hP hD hS (by rw [hq]) (by rw [hq]) (Or.inl rfl) dX7_readsWord_159
      · skip
        refine lv_iload_n hx hb dX7_readsWord_134 rfl (lv_at hl 3 rfl) ?_
        refine lv_bipush (v := 7) hx hb dX7_readsWord_135 (by decide) ?_
        refine lv_icmp_gt (tgt := 153) hx hb dX7_readsWord_137 (by decide) (fun c_44 => ?_) (fun c_44 => ?_)
        · skip
          refine lv_aload_n hx hb dX7_readsWord_153 rfl (lv_at hl 0 rfl) ?_
          refine lv_iload_n hx hb dX7_readsWord_154 rfl (lv_at hl 2 rfl) ?_
          refine jx_put (w2 := [(h, .inr (7, (oX7 R (upd J 15 (I 15)) L))), ((R 1), .inl (cI, 160, .inl f1)), ((R 11), .inl (cI, 160, .inl f11)), ((R 12), .inl (cI, 160, .inl f12)), ((R 13), .inl (cI, 160, .inl f13))]) hx hb hts iX7_readsWord_7 tyX7 tyX7_ok nmX7 hown hK hP hD hS 0 rfl rfl 15 (by decide) hk86 rfl rfl rfl rfl (Nat.le_of_ble_eq_true rfl) dX7_readsWord_155 rfl (fun H locs hP hD hS => ?_)
          refine lv_iconst (v := 0) hx hb dX7_readsWord_158 (by decide) ?_
          have hq : (sX7_readsWord I f1 f11 f12 f13 a0) = ((0 : Int32), (upd J 15 (I 15)), f11, f12, f13) := (by clear hP hD hl; have z_ := ev_5.symm; clear ev_5; subst z_; have z_ := ev_3.symm; clear ev_3; subst z_; unfold sX7_readsWord; rw [hfin]; exact (if_neg c_17).trans ((if_pos c_18).trans ((if_pos c_44))))
          exact jx_zret () hx hb hr hlocks hK hP hD hS (by rw [hq]) (by rw [hq]) (Or.inl rfl) dX7_readsWord_159
        · skip
          refine lv_iload_n hx hb dX7_readsWord_140 rfl (lv_at hl 1 rfl) ?_
          refine lv_bipush (v := 100) hx hb dX7_readsWord_141 (by decide) ?_
          refine lv_icmp_ne (tgt := 160) hx hb dX7_readsWord_143 (by decide) (fun c_45 => ?_) (fun c_45 => ?_)
          · skip
            refine lv_aload_n hx hb dX7_readsWord_160 rfl (lv_at hl 0 rfl) ?_
            refine lv_dup hx hb dX7_readsWord_161 rfl ?_
            refine jx_get (v := .int (J 19)) hx hb hts iX7_readsWord_7 hown hK hP 0 rfl rfl 19 (by decide) hk104 rfl rfl dX7_readsWord_162 ?_
            refine lv_iload_n hx hb dX7_readsWord_165 rfl (lv_at hl 1 rfl) ?_
            refine lv_bipush (v := 104) hx hb dX7_readsWord_166 (by decide) ?_
            refine jx_joini (J := 176) (v := (if a0 = (104 : Int32) then (1 : Int32) else (0 : Int32))) (rest := [.int (J 19), .ref h]) (fun key => ?_) ?_
            · skip
              refine lv_icmp_ne (tgt := 175) hx hb dX7_readsWord_168 (by decide) (fun c_46 => ?_) (fun c_46 => ?_)
              · skip
                refine lv_iconst (v := 0) hx hb dX7_readsWord_175 (by decide) ?_
                rw [if_neg c_46] at key
                exact key
              · skip
                refine lv_iconst (v := 1) hx hb dX7_readsWord_171 (by decide) ?_
                refine lv_goto (tgt := 176) hx hb dX7_readsWord_172 (by decide) ?_
                rw [if_pos c_46] at key
                exact key
            refine lv_topi (fun v_47 ev_47 => ?_)
            refine lv_iadd hx hb dX7_readsWord_176 ?_
            refine lv_topi (fun v_48 ev_48 => ?_)
            refine jx_put (w2 := [(h, .inr (7, (oX7 R (upd J 19 v_48) L))), ((R 1), .inl (cI, 160, .inl f1)), ((R 11), .inl (cI, 160, .inl f11)), ((R 12), .inl (cI, 160, .inl f12)), ((R 13), .inl (cI, 160, .inl f13))]) hx hb hts iX7_readsWord_7 tyX7 tyX7_ok nmX7 hown hK hP hD hS 0 rfl rfl 19 (by decide) hk104 rfl rfl rfl rfl (Nat.le_of_ble_eq_true rfl) dX7_readsWord_177 rfl (fun H locs hP hD hS => ?_)
            refine lv_aload_n hx hb dX7_readsWord_180 rfl (lv_at hl 0 rfl) ?_
            refine lv_iload_n hx hb dX7_readsWord_181 rfl (lv_at hl 1 rfl) ?_
            refine lv_bipush (v := 104) hx hb dX7_readsWord_182 (by decide) ?_
            refine jx_joini (J := 202) (v := (if a0 = (104 : Int32) then (0 : Int32) else (if a0 = (99 : Int32) then (1 : Int32) else (2 : Int32)))) (rest := [.ref h]) (fun key => ?_) ?_
            · skip
              refine lv_icmp_ne (tgt := 191) hx hb dX7_readsWord_184 (by decide) (fun c_49 => ?_) (fun c_49 => ?_)
              · skip
                refine lv_iload_n hx hb dX7_readsWord_191 rfl (lv_at hl 1 rfl) ?_
                refine lv_bipush (v := 99) hx hb dX7_readsWord_192 (by decide) ?_
                refine lv_icmp_ne (tgt := 201) hx hb dX7_readsWord_194 (by decide) (fun c_50 => ?_) (fun c_50 => ?_)
                · skip
                  refine lv_iconst (v := 2) hx hb dX7_readsWord_201 (by decide) ?_
                  rw [if_neg c_49, if_neg c_50] at key
                  exact key
                · skip
                  refine lv_iconst (v := 1) hx hb dX7_readsWord_197 (by decide) ?_
                  refine lv_goto (tgt := 202) hx hb dX7_readsWord_198 (by decide) ?_
                  rw [if_neg c_49, if_pos c_50] at key
                  exact key
              · skip
                refine lv_iconst (v := 0) hx hb dX7_readsWord_187 (by decide) ?_
                refine lv_goto (tgt := 202) hx hb dX7_readsWord_188 (by decide) ?_
                rw [if_pos c_49] at key
                exact key
            refine lv_topi (fun v_51 ev_51 => ?_)
            refine lv_iload_n hx hb dX7_readsWord_202 rfl (lv_at hl 3 rfl) ?_
            refine jx_callv (wc := [(h, .inr (7, (oX7 R (upd J 19 v_48) L))), ((R 11), .inl (cI, 160, .inl f11)), ((R 12), .inl (cI, 160, .inl f12)), ((R 13), .inl (cI, 160, .inl f13))]) (wr := [((R 1), .inl (cI, 160, .inl f1))]) hP hD hS hA hK [0, 2, 3, 4] [1] rfl rfl (by decide) (by decide) (by decide) (fun hPc hDc hF => jx_runV (As := [.int v_51, .int vv]) (rest := []) (n := 2) (ci := 7) (q0 := 0) hx hb hml hown hts hK hX hS hl.1 (kX7_item l D cI cJ cZ cD tA h R (upd J 19 v_48) L f11 f12 f13 v_51 vv (by clear hP hD hl; have z_ := ev_51.symm; clear ev_51; subst z_; have z_ := ev_48.symm; clear ev_48; subst z_; have z_ := ev_47.symm; clear ev_47; subst z_; have z_ := ev_5.symm; clear ev_5; subst z_; have z_ := ev_3.symm; clear ev_3; subst z_; rw [show ∀ (y : Int32), (upd J 19 y) 14 = I 14 from fun y => (pk_un (by decide)).trans hp.2.2.2.2]; exact hi)) gX7_readsWord_X7_item rfl rfl rfl (by decide +kernel) ⟨Nat.le_of_ble_eq_true rfl, Nat.le_of_ble_eq_true rfl⟩ rfl rfl rfl rfl rfl (Nat.le_of_ble_eq_true rfl) dX7_readsWord_203 ⟨Nat.zero_le _, Nat.zero_le _⟩ hPc hDc hF) (fun u H locs hw hP hD hS => ?_)
            obtain ⟨I_53, eI_53⟩ : ∃ x : (Nat → Int32), x = (sX7_item (upd J 19 v_48) f11 f12 f13 v_51 vv).1 := ⟨_, rfl⟩
            obtain ⟨f_54, ef_54⟩ : ∃ x : (Nat → Int32), x = (sX7_item (upd J 19 v_48) f11 f12 f13 v_51 vv).2.1 := ⟨_, rfl⟩
            obtain ⟨f_55, ef_55⟩ : ∃ x : (Nat → Int32), x = (sX7_item (upd J 19 v_48) f11 f12 f13 v_51 vv).2.2.1 := ⟨_, rfl⟩
            obtain ⟨f_56, ef_56⟩ : ∃ x : (Nat → Int32), x = (sX7_item (upd J 19 v_48) f11 f12 f13 v_51 vv).2.2.2 := ⟨_, rfl⟩
            have hP : va_P D vwCl [((R 1), .inl (cI, 160, .inl f1)), (h, .inr (7, (oX7 R I_53 L))), ((R 11), .inl (cI, 160, .inl f_54)), ((R 12), .inl (cI, 160, .inl f_55)), ((R 13), .inl (cI, 160, .inl f_56))] H := by rw [eI_53, ef_54, ef_55, ef_56]; exact hP
            have hD : va_D A [((R 1), .inl (cI, 160, .inl f1)), (h, .inr (7, (oX7 R I_53 L))), ((R 11), .inl (cI, 160, .inl f_54)), ((R 12), .inl (cI, 160, .inl f_55)), ((R 13), .inl (cI, 160, .inl f_56))] := by rw [eI_53, ef_54, ef_55, ef_56]; exact hD
            refine lv_iconst (v := 1) hx hb dX7_readsWord_206 (by decide) ?_
            have hq : (sX7_readsWord I f1 f11 f12 f13 a0) = ((1 : Int32), I_53, f_54, f_55, f_56) := (by clear hP hD hl; have z_ := ef_56.symm; clear ef_56; subst z_; have z_ := ef_55.symm; clear ef_55; subst z_; have z_ := ef_54.symm; clear ef_54; subst z_; have z_ := eI_53.symm; clear eI_53; subst z_; have z_ := ev_51.symm; clear ev_51; subst z_; have z_ := ev_48.symm; clear ev_48; subst z_; have z_ := ev_47.symm; clear ev_47; subst z_; have z_ := ev_5.symm; clear ev_5; subst z_; have z_ := ev_3.symm; clear ev_3; subst z_; unfold sX7_readsWord; rw [hfin]; exact (if_neg c_17).trans ((if_pos c_18).trans ((if_neg c_44).trans ((if_neg c_45)))))
            exact jx_zret () hx hb hr hlocks hK (hP.sub (ws' := [(h, .inr (7, (oX7 R I_53 L))), ((R 1), .inl (cI, 160, .inl f1)), ((R 11), .inl (cI, 160, .inl f_54)), ((R 12), .inl (cI, 160, .inl f_55)), ((R 13), .inl (cI, 160, .inl f_56))]) [1, 0, 2, 3, 4] rfl) (hD.sub (ws' := [(h, .inr (7, (oX7 R I_53 L))), ((R 1), .inl (cI, 160, .inl f1)), ((R 11), .inl (cI, 160, .inl f_54)), ((R 12), .inl (cI, 160, .inl f_55)), ((R 13), .inl (cI, 160, .inl f_56))]) [1, 0, 2, 3, 4] (by decide) rfl) hS (by rw [hq]) (by rw [hq]) (Or.inr rfl) dX7_readsWord_207
          · skip
            refine lv_iload_n hx hb dX7_readsWord_146 rfl (lv_at hl 3 rfl) ?_
            refine jx_pcalli (wc := []) hP hD hS hA [] rfl (by decide) (fun hPc hDc hF => jx_runSs (As := [.int vv]) (rest := []) (n := 1) hx hb hml hown hts hK hX hS hl.1 (kX7_isDensity l D cI cJ cZ cD tA vv) gX7_readsWord_X7_isDensity rfl rfl rfl (by decide +kernel) ⟨Nat.le_of_ble_eq_true rfl, Nat.le_of_ble_eq_true rfl⟩ rfl rfl (Nat.le_of_ble_eq_true rfl) dX7_readsWord_147 ⟨Nat.zero_le _, Nat.zero_le _⟩ hPc hDc hF) (fun r_57 er_57 => ?_)
            have er_57 : r_57 = (sX7_isDensity vv) := er_57
            refine lv_if_ne (tgt := 160) hx hb dX7_readsWord_150 (by decide) (fun c_58 => ?_) (fun c_58 => ?_)
            · skip
              refine lv_aload_n hx hb dX7_readsWord_160 rfl (lv_at hl 0 rfl) ?_
              refine lv_dup hx hb dX7_readsWord_161 rfl ?_
              refine jx_get (v := .int (J 19)) hx hb hts iX7_readsWord_7 hown hK hP 0 rfl rfl 19 (by decide) hk104 rfl rfl dX7_readsWord_162 ?_
              refine lv_iload_n hx hb dX7_readsWord_165 rfl (lv_at hl 1 rfl) ?_
              refine lv_bipush (v := 104) hx hb dX7_readsWord_166 (by decide) ?_
              refine jx_joini (J := 176) (v := (if a0 = (104 : Int32) then (1 : Int32) else (0 : Int32))) (rest := [.int (J 19), .ref h]) (fun key => ?_) ?_
              · skip
                refine lv_icmp_ne (tgt := 175) hx hb dX7_readsWord_168 (by decide) (fun c_59 => ?_) (fun c_59 => ?_)
                · skip
                  refine lv_iconst (v := 0) hx hb dX7_readsWord_175 (by decide) ?_
                  rw [if_neg c_59] at key
                  exact key
                · skip
                  refine lv_iconst (v := 1) hx hb dX7_readsWord_171 (by decide) ?_
                  refine lv_goto (tgt := 176) hx hb dX7_readsWord_172 (by decide) ?_
                  rw [if_pos c_59] at key
                  exact key
              refine lv_topi (fun v_60 ev_60 => ?_)
              refine lv_iadd hx hb dX7_readsWord_176 ?_
              refine lv_topi (fun v_61 ev_61 => ?_)
              refine jx_put (w2 := [(h, .inr (7, (oX7 R (upd J 19 v_61) L))), ((R 1), .inl (cI, 160, .inl f1)), ((R 11), .inl (cI, 160, .inl f11)), ((R 12), .inl (cI, 160, .inl f12)), ((R 13), .inl (cI, 160, .inl f13))]) hx hb hts iX7_readsWord_7 tyX7 tyX7_ok nmX7 hown hK hP hD hS 0 rfl rfl 19 (by decide) hk104 rfl rfl rfl rfl (Nat.le_of_ble_eq_true rfl) dX7_readsWord_177 rfl (fun H locs hP hD hS => ?_)
              refine lv_aload_n hx hb dX7_readsWord_180 rfl (lv_at hl 0 rfl) ?_
              refine lv_iload_n hx hb dX7_readsWord_181 rfl (lv_at hl 1 rfl) ?_
              refine lv_bipush (v := 104) hx hb dX7_readsWord_182 (by decide) ?_
              refine jx_joini (J := 202) (v := (if a0 = (104 : Int32) then (0 : Int32) else (if a0 = (99 : Int32) then (1 : Int32) else (2 : Int32)))) (rest := [.ref h]) (fun key => ?_) ?_
              · skip
                refine lv_icmp_ne (tgt := 191) hx hb dX7_readsWord_184 (by decide) (fun c_62 => ?_) (fun c_62 => ?_)
                · skip
                  refine lv_iload_n hx hb dX7_readsWord_191 rfl (lv_at hl 1 rfl) ?_
                  refine lv_bipush (v := 99) hx hb dX7_readsWord_192 (by decide) ?_
                  refine lv_icmp_ne (tgt := 201) hx hb dX7_readsWord_194 (by decide) (fun c_63 => ?_) (fun c_63 => ?_)
                  · skip
                    refine lv_iconst (v := 2) hx hb dX7_readsWord_201 (by decide) ?_
                    rw [if_neg c_62, if_neg c_63] at key
                    exact key
                  · skip
                    refine lv_iconst (v := 1) hx hb dX7_readsWord_197 (by decide) ?_
                    refine lv_goto (tgt := 202) hx hb dX7_readsWord_198 (by decide) ?_
                    rw [if_neg c_62, if_pos c_63] at key
                    exact key
                · skip
                  refine lv_iconst (v := 0) hx hb dX7_readsWord_187 (by decide) ?_
                  refine lv_goto (tgt := 202) hx hb dX7_readsWord_188 (by decide) ?_
                  rw [if_pos c_62] at key
                  exact key
              refine lv_topi (fun v_64 ev_64 => ?_)
              refine lv_iload_n hx hb dX7_readsWord_202 rfl (lv_at hl 3 rfl) ?_
              refine jx_callv (wc := [(h, .inr (7, (oX7 R (upd J 19 v_61) L))), ((R 11), .inl (cI, 160, .inl f11)), ((R 12), .inl (cI, 160, .inl f12)), ((R 13), .inl (cI, 160, .inl f13))]) (wr := [((R 1), .inl (cI, 160, .inl f1))]) hP hD hS hA hK [0, 2, 3, 4] [1] rfl rfl (by decide) (by decide) (by decide) (fun hPc hDc hF => jx_runV (As := [.int v_64, .int vv]) (rest := []) (n := 2) (ci := 7) (q0 := 0) hx hb hml hown hts hK hX hS hl.1 (kX7_item l D cI cJ cZ cD tA h R (upd J 19 v_61) L f11 f12 f13 v_64 vv (by clear hP hD hl; have z_ := ev_64.symm; clear ev_64; subst z_; have z_ := ev_61.symm; clear ev_61; subst z_; have z_ := ev_60.symm; clear ev_60; subst z_; have z_ := er_57.symm; clear er_57; subst z_; have z_ := ev_5.symm; clear ev_5; subst z_; have z_ := ev_3.symm; clear ev_3; subst z_; rw [show ∀ (y : Int32), (upd J 19 y) 14 = I 14 from fun y => (pk_un (by decide)).trans hp.2.2.2.2]; exact hi)) gX7_readsWord_X7_item rfl rfl rfl (by decide +kernel) ⟨Nat.le_of_ble_eq_true rfl, Nat.le_of_ble_eq_true rfl⟩ rfl rfl rfl rfl rfl (Nat.le_of_ble_eq_true rfl) dX7_readsWord_203 ⟨Nat.zero_le _, Nat.zero_le _⟩ hPc hDc hF) (fun u H locs hw hP hD hS => ?_)
              obtain ⟨I_66, eI_66⟩ : ∃ x : (Nat → Int32), x = (sX7_item (upd J 19 v_61) f11 f12 f13 v_64 vv).1 := ⟨_, rfl⟩
              obtain ⟨f_67, ef_67⟩ : ∃ x : (Nat → Int32), x = (sX7_item (upd J 19 v_61) f11 f12 f13 v_64 vv).2.1 := ⟨_, rfl⟩
              obtain ⟨f_68, ef_68⟩ : ∃ x : (Nat → Int32), x = (sX7_item (upd J 19 v_61) f11 f12 f13 v_64 vv).2.2.1 := ⟨_, rfl⟩
              obtain ⟨f_69, ef_69⟩ : ∃ x : (Nat → Int32), x = (sX7_item (upd J 19 v_61) f11 f12 f13 v_64 vv).2.2.2 := ⟨_, rfl⟩
              have hP : va_P D vwCl [((R 1), .inl (cI, 160, .inl f1)), (h, .inr (7, (oX7 R I_66 L))), ((R 11), .inl (cI, 160, .inl f_67)), ((R 12), .inl (cI, 160, .inl f_68)), ((R 13), .inl (cI, 160, .inl f_69))] H := by rw [eI_66, ef_67, ef_68, ef_69]; exact hP
              have hD : va_D A [((R 1), .inl (cI, 160, .inl f1)), (h, .inr (7, (oX7 R I_66 L))), ((R 11), .inl (cI, 160, .inl f_67)), ((R 12), .inl (cI, 160, .inl f_68)), ((R 13), .inl (cI, 160, .inl f_69))] := by rw [eI_66, ef_67, ef_68, ef_69]; exact hD
              refine lv_iconst (v := 1) hx hb dX7_readsWord_206 (by decide) ?_
              have hq : (sX7_readsWord I f1 f11 f12 f13 a0) = ((1 : Int32), I_66, f_67, f_68, f_69) := (by clear hP hD hl; have z_ := ef_69.symm; clear ef_69; subst z_; have z_ := ef_68.symm; clear ef_68; subst z_; have z_ := ef_67.symm; clear ef_67; subst z_; have z_ := eI_66.symm; clear eI_66; subst z_; have z_ := ev_64.symm; clear ev_64; subst z_; have z_ := ev_61.symm; clear ev_61; subst z_; have z_ := ev_60.symm; clear ev_60; subst z_; have z_ := er_57.symm; clear er_57; subst z_; have z_ := ev_5.symm; clear ev_5; subst z_; have z_ := ev_3.symm; clear ev_3; subst z_; unfold sX7_readsWord; rw [hfin]; exact (if_neg c_17).trans ((if_pos c_18).trans ((if_neg c_44).trans ((if_pos c_45).trans ((if_neg c_58))))))
              exact jx_zret () hx hb hr hlocks hK (hP.sub (ws' := [(h, .inr (7, (oX7 R I_66 L))), ((R 1), .inl (cI, 160, .inl f1)), ((R 11), .inl (cI, 160, .inl f_67)), ((R 12), .inl (cI, 160, .inl f_68)), ((R 13), .inl (cI, 160, .inl f_69))]) [1, 0, 2, 3, 4] rfl) (hD.sub (ws' := [(h, .inr (7, (oX7 R I_66 L))), ((R 1), .inl (cI, 160, .inl f1)), ((R 11), .inl (cI, 160, .inl f_67)), ((R 12), .inl (cI, 160, .inl f_68)), ((R 13), .inl (cI, 160, .inl f_69))]) [1, 0, 2, 3, 4] (by decide) rfl) hS (by rw [hq]) (by rw [hq]) (Or.inr rfl) dX7_readsWord_207
            · skip
              refine lv_aload_n hx hb dX7_readsWord_153 rfl (lv_at hl 0 rfl) ?_
              refine lv_iload_n hx hb dX7_readsWord_154 rfl (lv_at hl 2 rfl) ?_
              refine jx_put (w2 := [(h, .inr (7, (oX7 R (upd J 15 (I 15)) L))), ((R 1), .inl (cI, 160, .inl f1)), ((R 11), .inl (cI, 160, .inl f11)), ((R 12), .inl (cI, 160, .inl f12)), ((R 13), .inl (cI, 160, .inl f13))]) hx hb hts iX7_readsWord_7 tyX7 tyX7_ok nmX7 hown hK hP hD hS 0 rfl rfl 15 (by decide) hk86 rfl rfl rfl rfl (Nat.le_of_ble_eq_true rfl) dX7_readsWord_155 rfl (fun H locs hP hD hS => ?_)
              refine lv_iconst (v := 0) hx hb dX7_readsWord_158 (by decide) ?_
              have hq : (sX7_readsWord I f1 f11 f12 f13 a0) = ((0 : Int32), (upd J 15 (I 15)), f11, f12, f13) := (by clear hP hD hl; have z_ := er_57.symm; clear er_57; subst z_; have z_ := ev_5.symm; clear ev_5; subst z_; have z_ := ev_3.symm; clear ev_3; subst z_; unfold sX7_readsWord; rw [hfin]; exact (if_neg c_17).trans ((if_pos c_18).trans ((if_neg c_44).trans ((if_pos c_45).trans ((if_pos c_58))))))
              exact jx_zret () hx hb hr hlocks hK hP hD hS (by rw [hq]) (by rw [hq]) (Or.inl rfl) dX7_readsWord_159
    · skip
      refine lv_iconst (v := 0) hx hb dX7_readsWord_126 (by decide) ?_
      have hq : (sX7_readsWord I f1 f11 f12 f13 a0) = ((0 : Int32), J, f11, f12, f13) := (by clear hP hD hl; have z_ := ev_5.symm; clear ev_5; subst z_; have z_ := ev_3.symm; clear ev_3; subst z_; unfold sX7_readsWord; rw [hfin]; exact (if_pos c_17))
      exact jx_zret () hx hb hr hlocks hK hP hD hS (by rw [hq]) (by rw [hq]) (Or.inl rfl) dX7_readsWord_127

