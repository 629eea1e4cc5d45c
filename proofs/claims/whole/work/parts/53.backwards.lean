abbrev BS : Type := (Nat → Int32) × (Nat → Int64) × (Nat → Int32) × (Nat → Int64) × (Nat → Int32) × (Nat → Int64)
/-- back to one mark, and over it -/
def bStep (f2_2 : Nat → Int32) (L4 : Nat → Int64) (c : Int32) (x : BS) : BS := (sX6_undo x.1 x.2.1 (upd x.2.2.1 0 (sX4_markBelow c)) x.2.2.2.1 x.2.2.2.2.1 x.2.2.2.2.2 f2_2 L4 (sX4_markBelow c))
def bF (f2_2 : Nat → Int32) (L4 : Nat → Int64) : Nat → Int32 → Int32 → BS → Int32 × BS
  | 0, r, _, x => (r, x)
  | n + 1, r, c, x => if x.2.2.1 0 - (sX4_markBelow c) < r then bF f2_2 L4 n (r - (x.2.2.1 0 - (sX4_markBelow c))) ((bStep f2_2 L4 c x).2.2.1 0) (bStep f2_2 L4 c x) else (r, x)
def bI (f2_2 : Nat → Int32) (L4 : Nat → Int64) (Z : Int32 × BS) (kk : Nat) (ii r c : Int32) (x : BS) : Prop := ii = nI kk ∧ kk ≤ 64 ∧ bF f2_2 L4 (64 - kk) r c x = Z
section BI
variable {f2_2 : Nat → Int32} {L4 : Nat → Int64} {Z : Int32 × BS} {kk : Nat} {ii r c : Int32} {x : BS}
theorem bI_ne (h : bI f2_2 L4 Z kk ii r c x) (c1 : ¬ 64 ≤ ii) : 64 - kk = (64 - (kk + 1)) + 1 := by
  obtain ⟨h1, h2, -⟩ := h
  have : kk ≠ 64 := fun z => c1 (by rw [h1]; exact (nI_lt64 h2).mpr z)
  omega
theorem bI_out (h : bI f2_2 L4 Z kk ii r c x) (c1 : 64 ≤ ii) : Z = (r, x) := by
  obtain ⟨h1, h2, h3⟩ := h
  have h5 := (nI_lt64 h2).mp (h1 ▸ c1)
  rw [← h3, h5]; rfl
theorem bI_end (h : bI f2_2 L4 Z kk ii r c x) (c1 : ¬ 64 ≤ ii) (c2 : ¬ x.2.2.1 0 - (sX4_markBelow c) < r) : Z = (r, x) := by
  rw [← h.2.2, bI_ne h c1, bF, if_neg c2]
theorem bI_step (h : bI f2_2 L4 Z kk ii r c x) (c1 : ¬ 64 ≤ ii) (c2 : x.2.2.1 0 - (sX4_markBelow c) < r) : bI f2_2 L4 Z (kk + 1) (ii + 1) (r - (x.2.2.1 0 - (sX4_markBelow c))) ((bStep f2_2 L4 c x).2.2.1 0) (bStep f2_2 L4 c x) ∧ 64 - (kk + 1) < 64 - kk := by
  have h5 := bI_ne h c1
  obtain ⟨h1, h2, h3⟩ := h
  refine ⟨⟨by rw [h1]; exact nI_1 kk, by omega, ?_⟩, by omega⟩
  rw [← h3, h5, bF.eq_def _ _ (_ + 1)]
  simp only [if_pos c2]
end BI
def sX6_goBackwards (I : Nat → Int32) (L : Nat → Int64) (I1 : Nat → Int32) (L1 : Nat → Int64) (I2 : Nat → Int32) (L2 : Nat → Int64) (f2_2 : Nat → Int32) (L4 : Nat → Int64) (a0 : Int32) : (Nat → Int32) × (Nat → Int64) × (Nat → Int32) × (Nat → Int64) × (Nat → Int32) × (Nat → Int64) :=
  ((bF f2_2 L4 64 a0 (I1 0 + 1) (I, L, I1, L1, I2, L2)).2.1, (bF f2_2 L4 64 a0 (I1 0 + 1) (I, L, I1, L1, I2, L2)).2.2.1, upd (bF f2_2 L4 64 a0 (I1 0 + 1) (I, L, I1, L1, I2, L2)).2.2.2.1 0 ((bF f2_2 L4 64 a0 (I1 0 + 1) (I, L, I1, L1, I2, L2)).2.2.2.1 0 - (bF f2_2 L4 64 a0 (I1 0 + 1) (I, L, I1, L1, I2, L2)).1), (bF f2_2 L4 64 a0 (I1 0 + 1) (I, L, I1, L1, I2, L2)).2.2.2.2)
set_option maxRecDepth 20000 in
theorem iX6_goBackwards_4 : ∀ w ∈ wsX40, w ∈ wsX6_goBackwards := by decide +kernel
set_option maxRecDepth 20000 in
theorem iX6_goBackwards_6 : ∀ w ∈ wsX60, w ∈ wsX6_goBackwards := by decide +kernel
set_option maxHeartbeats 4000000 in
set_option maxRecDepth 100000 in
theorem kX6_goBackwards (l : Launch) (D : va_G) (cI cJ cZ cD : ClassId) (tA : Nat) (h : Nat) (R : Nat → Nat) (I : Nat → Int32) (L : Nat → Int64) (R1 : Nat → Nat) (I1 : Nat → Int32) (L1 : Nat → Int64) (R2 : Nat → Nat) (I2 : Nat → Int32) (L2 : Nat → Int64) (f2_0 : Nat → Int32) (f2_1 : Nat → Int32) (f2_2 : Nat → Int32) (R4 : Nat → Nat) (I4 : Nat → Int32) (L4 : Nat → Int64) (a0 : Int32) : jx_M l yX6_goBackwards wsX6_goBackwards ({ frames := 5, cells := 0, slots := 0, locals := 104 }) D (jT cI cJ cZ cD) tA [.ref h, .int a0] [(h, .inr (6, (oX6 R I L))), ((R 1), .inr (4, (oX4 R1 I1 L1))), ((R 2), .inr (0, (oX0 R2 I2 L2))), ((R2 0), .inl (cI, 64, .inl f2_0)), ((R2 1), .inl (cI, 64, .inl f2_1)), ((R2 2), .inl (cI, 64, .inl f2_2)), ((R 4), .inr (1, (oX1 R4 I4 L4)))] (jx_Qv D (jT cI cJ cZ cD) (fun (_ : Unit) => True) (fun _ => [(h, .inr (6, (oX6 R (sX6_goBackwards I L I1 L1 I2 L2 f2_2 L4 a0).1 (sX6_goBackwards I L I1 L1 I2 L2 f2_2 L4 a0).2.1))), ((R 1), .inr (4, (oX4 R1 (sX6_goBackwards I L I1 L1 I2 L2 f2_2 L4 a0).2.2.1 (sX6_goBackwards I L I1 L1 I2 L2 f2_2 L4 a0).2.2.2.1))), ((R 2), .inr (0, (oX0 R2 (sX6_goBackwards I L I1 L1 I2 L2 f2_2 L4 a0).2.2.2.2.1 (sX6_goBackwards I L I1 L1 I2 L2 f2_2 L4 a0).2.2.2.2.2))), ((R2 0), .inl (cI, 64, .inl f2_0)), ((R2 1), .inl (cI, 64, .inl f2_1)), ((R2 2), .inl (cI, 64, .inl f2_2)), ((R 4), .inr (1, (oX1 R4 I4 L4)))])) := by
  refine jx_of (cc := cX6_goBackwards) (maxL := 7) (ret := none) (by decide +kernel) rfl (Nat.le_of_ble_eq_true rfl) ?_
  intro p e s m below meth c A ls hx hb hr hlocks hml hown hts hK hP hD hA hS hX hl
  have hl : lv_has ls 7 [(0, .ref h), (1, .int a0)] := hl
  have hown : s.vm.findClass RX6 = some m.cls := hown
  have hk19 := hts (.fieldLink RX6 19 "LoomDesk" "shaft" "LLoomDesk$Shaft;") (by decide +kernel)
  refine lv_iload_n hx hb dX6_goBackwards_0 rfl (lv_at hl 1 rfl) ?_
  refine lv_istore_n (lv' := [(2, .int a0), (0, .ref h), (1, .int a0)]) hx hb dX6_goBackwards_1 rfl hl (by decide) rfl (fun ls hl => ?_)
  refine lv_aload_n hx hb dX6_goBackwards_2 rfl (lv_at hl 1 rfl) ?_
  refine jx_get (v := .ref (R 1)) hx hb hts iX6_goBackwards_6 hown hK hP 0 rfl rfl 1 (by decide) hk19 rfl rfl dX6_goBackwards_3 ?_
  refine jx_getN (host := RX6) (v := .int (I1 0)) hx hb hts iX6_goBackwards_4 hown hK hP 1 rfl rfl 0 (by decide) hX (by decide +kernel) rfl rfl dX6_goBackwards_6 ?_
  refine lv_iconst (v := 1) hx hb dX6_goBackwards_9 (by decide) ?_
  refine lv_iadd hx hb dX6_goBackwards_10 ?_
  refine lv_topi (fun v_1 ev_1 => ?_)
  refine lv_istore_n (lv' := [(3, .int v_1), (2, .int a0), (0, .ref h), (1, .int a0)]) hx hb dX6_goBackwards_11 rfl hl (by decide) rfl (fun ls hl => ?_)
  refine lv_iconst (v := 0) hx hb dX6_goBackwards_12 (by decide) ?_
  refine lv_istore (lv' := [(4, .int (0 : Int32)), (3, .int v_1), (2, .int a0), (0, .ref h), (1, .int a0)]) hx hb dX6_goBackwards_13 hl (by decide) rfl (fun ls hl => ?_)
  refine jx_loop (σ := (Int32) × (Int32) × (Int32) × ((Nat → Int32)) × ((Nat → Int64)) × ((Nat → Int32)) × ((Nat → Int64)) × ((Nat → Int32)) × ((Nat → Int64)) × (Nat) × (Unit)) (fun x H locs ls => va_P D vwCl [(h, .inr (6, (oX6 R x.2.2.2.1 x.2.2.2.2.1))), ((R 1), .inr (4, (oX4 R1 x.2.2.2.2.2.1 x.2.2.2.2.2.2.1))), ((R 2), .inr (0, (oX0 R2 x.2.2.2.2.2.2.2.1 x.2.2.2.2.2.2.2.2.1))), ((R2 0), .inl (cI, 64, .inl f2_0)), ((R2 1), .inl (cI, 64, .inl f2_1)), ((R2 2), .inl (cI, 64, .inl f2_2)), ((R 4), .inr (1, (oX1 R4 I4 L4)))] H ∧ va_D A [(h, .inr (6, (oX6 R x.2.2.2.1 x.2.2.2.2.1))), ((R 1), .inr (4, (oX4 R1 x.2.2.2.2.2.1 x.2.2.2.2.2.2.1))), ((R 2), .inr (0, (oX0 R2 x.2.2.2.2.2.2.2.1 x.2.2.2.2.2.2.2.2.1))), ((R2 0), .inl (cI, 64, .inl f2_0)), ((R2 1), .inl (cI, 64, .inl f2_1)), ((R2 2), .inl (cI, 64, .inl f2_2)), ((R 4), .inr (1, (oX1 R4 I4 L4)))] ∧ va_S A s.heap H locs ∧ lv_has ls 7 [(0, .ref h), (1, .int a0), (2, .int x.1), (3, .int x.2.1), (4, .int x.2.2.1)] ∧ (bI f2_2 L4 (bF f2_2 L4 64 a0 (I1 0 + 1) (I, L, I1, L1, I2, L2)) x.2.2.2.2.2.2.2.2.2.1 x.2.2.1 x.1 x.2.1 (x.2.2.2.1, x.2.2.2.2.1, x.2.2.2.2.2.1, x.2.2.2.2.2.2.1, x.2.2.2.2.2.2.2.1, x.2.2.2.2.2.2.2.2.1))) (fun x => 64 - x.2.2.2.2.2.2.2.2.2.1) (a0, v_1, (0 : Int32), I, L, I1, L1, I2, L2, 0, ()) ⟨hP, hD, hS, lv_sub hl [3, 4, 2, 1, 0] rfl, (show bI f2_2 L4 (bF f2_2 L4 64 a0 (I1 0 + 1) (I, L, I1, L1, I2, L2)) 0 (0 : Int32) a0 v_1 (I, L, I1, L1, I2, L2) from (by clear hP hD hl; have z_ := ev_1.symm; clear ev_1; subst z_; exact ⟨rfl, by omega, rfl⟩))⟩ ?_
  intro x H locs ls hI ih
  obtain ⟨rr, cl_, ii, J, M, J1, M1, J2, M2, kk, ux⟩ := x
  obtain ⟨hP, hD, hS, hl, hp⟩ := hI
  have hP : va_P D vwCl [(h, .inr (6, (oX6 R J M))), ((R 1), .inr (4, (oX4 R1 J1 M1))), ((R 2), .inr (0, (oX0 R2 J2 M2))), ((R2 0), .inl (cI, 64, .inl f2_0)), ((R2 1), .inl (cI, 64, .inl f2_1)), ((R2 2), .inl (cI, 64, .inl f2_2)), ((R 4), .inr (1, (oX1 R4 I4 L4)))] H := hP
  have hD : va_D A [(h, .inr (6, (oX6 R J M))), ((R 1), .inr (4, (oX4 R1 J1 M1))), ((R 2), .inr (0, (oX0 R2 J2 M2))), ((R2 0), .inl (cI, 64, .inl f2_0)), ((R2 1), .inl (cI, 64, .inl f2_1)), ((R2 2), .inl (cI, 64, .inl f2_2)), ((R 4), .inr (1, (oX1 R4 I4 L4)))] := hD
  have hl : lv_has ls 7 [(0, .ref h), (1, .int a0), (2, .int rr), (3, .int cl_), (4, .int ii)] := hl
  have hp : bI f2_2 L4 (bF f2_2 L4 64 a0 (I1 0 + 1) (I, L, I1, L1, I2, L2)) kk ii rr cl_ (J, M, J1, M1, J2, M2) := hp
  refine jx_cutl (J := 87) (P := (bF f2_2 L4 64 a0 (I1 0 + 1) (I, L, I1, L1, I2, L2)) = (rr, (J, M, J1, M1, J2, M2))) (lv := [(0, .ref h), (1, .int a0), (2, .int rr), (3, .int cl_), (4, .int ii)]) (nL := 7) (rest := []) (fun key => ?_) (fun ls hfin hl => ?_)
  · skip
    refine lv_iload hx hb dX6_goBackwards_15 (lv_at hl 4 rfl) ?_
    refine lv_bipush (v := 64) hx hb dX6_goBackwards_17 (by decide) ?_
    refine lv_icmp_ge (tgt := 87) hx hb dX6_goBackwards_19 (by decide) (fun c_2 => ?_) (fun c_2 => ?_)
    · skip
      exact key _ (bI_out hp c_2) (lv_sub hl [0, 1, 2, 3, 4] rfl)
    · skip
      refine lv_aload_n hx hb dX6_goBackwards_22 rfl (lv_at hl 0 rfl) ?_
      refine jx_get (v := .ref (R 1)) hx hb hts iX6_goBackwards_6 hown hK hP 0 rfl rfl 1 (by decide) hk19 rfl rfl dX6_goBackwards_23 ?_
      refine lv_iload_n hx hb dX6_goBackwards_26 rfl (lv_at hl 3 rfl) ?_
      refine jx_pcalli (wc := [((R 1), .inr (4, (oX4 R1 J1 M1)))]) hP hD hS hA [1] rfl (by decide) (fun hPc hDc hF => jx_runVs (As := [.int cl_]) (rest := []) (n := 1) (ci := 4) (q0 := 0) hx hb hml hown hts hK hX hS hl.1 (kX4_markBelow l D cI cJ cZ cD tA (R 1) R1 J1 M1 cl_) gX6_goBackwards_X4_markBelow rfl rfl rfl (by decide +kernel) ⟨Nat.le_of_ble_eq_true rfl, Nat.le_of_ble_eq_true rfl⟩ rfl rfl rfl rfl rfl (Nat.le_of_ble_eq_true rfl) dX6_goBackwards_27 ⟨Nat.zero_le _, Nat.zero_le _⟩ hPc hDc hF) (fun r_3 er_3 => ?_)
      have er_3 : r_3 = (sX4_markBelow cl_) := er_3
      refine lv_istore (lv' := [(5, .int r_3), (0, .ref h), (1, .int a0), (2, .int rr), (3, .int cl_), (4, .int ii)]) hx hb dX6_goBackwards_30 hl (by decide) rfl (fun ls hl => ?_)
      refine lv_aload_n hx hb dX6_goBackwards_32 rfl (lv_at hl 1 rfl) ?_
      refine jx_get (v := .ref (R 1)) hx hb hts iX6_goBackwards_6 hown hK hP 0 rfl rfl 1 (by decide) hk19 rfl rfl dX6_goBackwards_33 ?_
      refine jx_getN (host := RX6) (v := .int (J1 0)) hx hb hts iX6_goBackwards_4 hown hK hP 1 rfl rfl 0 (by decide) hX (by decide +kernel) rfl rfl dX6_goBackwards_36 ?_
      refine lv_iload hx hb dX6_goBackwards_39 (lv_at hl 0 rfl) ?_
      refine lv_isub hx hb dX6_goBackwards_41 ?_
      refine lv_topi (fun v_4 ev_4 => ?_)
      refine lv_istore (lv' := [(6, .int v_4), (5, .int r_3), (0, .ref h), (1, .int a0), (2, .int rr), (3, .int cl_), (4, .int ii)]) hx hb dX6_goBackwards_42 hl (by decide) rfl (fun ls hl => ?_)
      refine lv_iload_n hx hb dX6_goBackwards_44 rfl (lv_at hl 4 rfl) ?_
      refine lv_iload hx hb dX6_goBackwards_45 (lv_at hl 0 rfl) ?_
      refine lv_icmp_gt (tgt := 53) hx hb dX6_goBackwards_47 (by decide) (fun c_5 => ?_) (fun c_5 => ?_)
      · skip
        refine lv_iload_n hx hb dX6_goBackwards_53 rfl (lv_at hl 4 rfl) ?_
        refine lv_iload hx hb dX6_goBackwards_54 (lv_at hl 0 rfl) ?_
        refine lv_isub hx hb dX6_goBackwards_56 ?_
        refine lv_topi (fun v_6 ev_6 => ?_)
        refine lv_istore_n (lv' := [(2, .int v_6), (6, .int v_4), (5, .int r_3), (0, .ref h), (1, .int a0), (3, .int cl_), (4, .int ii)]) hx hb dX6_goBackwards_57 rfl hl (by decide) rfl (fun ls hl => ?_)
        refine lv_aload_n hx hb dX6_goBackwards_58 rfl (lv_at hl 3 rfl) ?_
        refine jx_get (v := .ref (R 1)) hx hb hts iX6_goBackwards_6 hown hK hP 0 rfl rfl 1 (by decide) hk19 rfl rfl dX6_goBackwards_59 ?_
        refine lv_iload hx hb dX6_goBackwards_62 (lv_at hl 2 rfl) ?_
        refine jx_putN (host := RX6) (w2 := [(h, .inr (6, (oX6 R J M))), ((R 1), .inr (4, (oX4 R1 (upd J1 0 r_3) M1))), ((R 2), .inr (0, (oX0 R2 J2 M2))), ((R2 0), .inl (cI, 64, .inl f2_0)), ((R2 1), .inl (cI, 64, .inl f2_1)), ((R2 2), .inl (cI, 64, .inl f2_2)), ((R 4), .inr (1, (oX1 R4 I4 L4)))]) hx hb hts iX6_goBackwards_4 tyX4 tyX4_ok nmX4 hown hK hP hD hS 1 rfl rfl 0 (by decide) hX (by decide +kernel) rfl rfl rfl rfl (Nat.le_of_ble_eq_true rfl) dX6_goBackwards_64 rfl (fun H locs hP hD hS => ?_)
        refine lv_aload_n hx hb dX6_goBackwards_67 rfl (lv_at hl 3 rfl) ?_
        refine lv_iload hx hb dX6_goBackwards_68 (lv_at hl 2 rfl) ?_
        refine jx_callv (wc := [(h, .inr (6, (oX6 R J M))), ((R 1), .inr (4, (oX4 R1 (upd J1 0 r_3) M1))), ((R 2), .inr (0, (oX0 R2 J2 M2))), ((R2 0), .inl (cI, 64, .inl f2_0)), ((R2 1), .inl (cI, 64, .inl f2_1)), ((R2 2), .inl (cI, 64, .inl f2_2)), ((R 4), .inr (1, (oX1 R4 I4 L4)))]) (wr := []) hP hD hS hA hK [0, 1, 2, 3, 4, 5, 6] [] rfl rfl (by decide) (by decide) (by decide) (fun hPc hDc hF => jx_runV (As := [.int r_3]) (rest := []) (n := 1) (ci := 6) (q0 := 0) hx hb hml hown hts hK hX hS hl.1 (kX6_undo l D cI cJ cZ cD tA h R J M R1 (upd J1 0 r_3) M1 R2 J2 M2 f2_0 f2_1 f2_2 R4 I4 L4 r_3) gX6_goBackwards_X6_undo rfl rfl rfl (by decide +kernel) ⟨Nat.le_of_ble_eq_true rfl, Nat.le_of_ble_eq_true rfl⟩ rfl rfl rfl rfl rfl (Nat.le_of_ble_eq_true rfl) dX6_goBackwards_70 ⟨Nat.zero_le _, Nat.zero_le _⟩ hPc hDc hF) (fun u H locs hw hP hD hS => ?_)
        obtain ⟨I_8, eI_8⟩ : ∃ x : (Nat → Int32), x = (sX6_undo J M (upd J1 0 r_3) M1 J2 M2 f2_2 L4 r_3).1 := ⟨_, rfl⟩
        obtain ⟨L_9, eL_9⟩ : ∃ x : (Nat → Int64), x = (sX6_undo J M (upd J1 0 r_3) M1 J2 M2 f2_2 L4 r_3).2.1 := ⟨_, rfl⟩
        obtain ⟨I_10, eI_10⟩ : ∃ x : (Nat → Int32), x = (sX6_undo J M (upd J1 0 r_3) M1 J2 M2 f2_2 L4 r_3).2.2.1 := ⟨_, rfl⟩
        obtain ⟨L_11, eL_11⟩ : ∃ x : (Nat → Int64), x = (sX6_undo J M (upd J1 0 r_3) M1 J2 M2 f2_2 L4 r_3).2.2.2.1 := ⟨_, rfl⟩
        obtain ⟨I_12, eI_12⟩ : ∃ x : (Nat → Int32), x = (sX6_undo J M (upd J1 0 r_3) M1 J2 M2 f2_2 L4 r_3).2.2.2.2.1 := ⟨_, rfl⟩
        obtain ⟨L_13, eL_13⟩ : ∃ x : (Nat → Int64), x = (sX6_undo J M (upd J1 0 r_3) M1 J2 M2 f2_2 L4 r_3).2.2.2.2.2 := ⟨_, rfl⟩
        have hP : va_P D vwCl [(h, .inr (6, (oX6 R I_8 L_9))), ((R 1), .inr (4, (oX4 R1 I_10 L_11))), ((R 2), .inr (0, (oX0 R2 I_12 L_13))), ((R2 0), .inl (cI, 64, .inl f2_0)), ((R2 1), .inl (cI, 64, .inl f2_1)), ((R2 2), .inl (cI, 64, .inl f2_2)), ((R 4), .inr (1, (oX1 R4 I4 L4)))] H := by rw [eI_8, eL_9, eI_10, eL_11, eI_12, eL_13]; exact hP
        have hD : va_D A [(h, .inr (6, (oX6 R I_8 L_9))), ((R 1), .inr (4, (oX4 R1 I_10 L_11))), ((R 2), .inr (0, (oX0 R2 I_12 L_13))), ((R2 0), .inl (cI, 64, .inl f2_0)), ((R2 1), .inl (cI, 64, .inl f2_1)), ((R2 2), .inl (cI, 64, .inl f2_2)), ((R 4), .inr (1, (oX1 R4 I4 L4)))] := by rw [eI_8, eL_9, eI_10, eL_11, eI_12, eL_13]; exact hD
        refine lv_aload_n hx hb dX6_goBackwards_73 rfl (lv_at hl 3 rfl) ?_
        refine jx_get (v := .ref (R 1)) hx hb hts iX6_goBackwards_6 hown hK hP 0 rfl rfl 1 (by decide) hk19 rfl rfl dX6_goBackwards_74 ?_
        refine jx_getN (host := RX6) (v := .int (I_10 0)) hx hb hts iX6_goBackwards_4 hown hK hP 1 rfl rfl 0 (by decide) hX (by decide +kernel) rfl rfl dX6_goBackwards_77 ?_
        refine lv_istore_n (lv' := [(3, .int (I_10 0)), (2, .int v_6), (6, .int v_4), (5, .int r_3), (0, .ref h), (1, .int a0), (4, .int ii)]) hx hb dX6_goBackwards_80 rfl hl (by decide) rfl (fun ls hl => ?_)
        obtain ⟨v_14, ev_14⟩ : ∃ y : Int32, y = ii + (1 : Int32) := ⟨_, rfl⟩
        refine lv_iinc (v := v_14) (lv' := [(4, .int v_14), (3, .int (I_10 0)), (2, .int v_6), (6, .int v_4), (5, .int r_3), (0, .ref h), (1, .int a0)]) hx hb dX6_goBackwards_81 hl (k := 6) rfl (by rw [ev_14]; rfl) (by decide) rfl (fun ls hl => ?_)
        refine lv_goto (tgt := 15) hx hb dX6_goBackwards_84 (by decide) ?_
        exact ih (v_6, (I_10 0), v_14, I_8, L_9, I_10, L_11, I_12, L_13, kk + 1, ()) _ _ _ ⟨hP, hD, hS, lv_sub hl [5, 6, 2, 1, 0] rfl, (show bI f2_2 L4 (bF f2_2 L4 64 a0 (I1 0 + 1) (I, L, I1, L1, I2, L2)) (kk + 1) v_14 v_6 (I_10 0) (I_8, L_9, I_10, L_11, I_12, L_13) from (by clear hP hD hl; have z_ := ev_14.symm; clear ev_14; subst z_; have z_ := eL_13.symm; clear eL_13; subst z_; have z_ := eI_12.symm; clear eI_12; subst z_; have z_ := eL_11.symm; clear eL_11; subst z_; have z_ := eI_10.symm; clear eI_10; subst z_; have z_ := eL_9.symm; clear eL_9; subst z_; have z_ := eI_8.symm; clear eI_8; subst z_; have z_ := ev_6.symm; clear ev_6; subst z_; have z_ := ev_4.symm; clear ev_4; subst z_; have z_ := er_3.symm; clear er_3; subst z_; have z_ := ev_1.symm; clear ev_1; subst z_; exact (bI_step hp c_2 c_5).1))⟩ (show 64 - (kk + 1) < 64 - kk from (by clear hP hD hl; have z_ := ev_14.symm; clear ev_14; subst z_; have z_ := eL_13.symm; clear eL_13; subst z_; have z_ := eI_12.symm; clear eI_12; subst z_; have z_ := eL_11.symm; clear eL_11; subst z_; have z_ := eI_10.symm; clear eI_10; subst z_; have z_ := eL_9.symm; clear eL_9; subst z_; have z_ := eI_8.symm; clear eI_8; subst z_; have z_ := ev_6.symm; clear ev_6; subst z_; have z_ := ev_4.symm; clear ev_4; subst z_; have z_ := er_3.symm; clear er_3; subst z_; have z_ := ev_1.symm; clear ev_1; subst z_; exact (bI_step hp c_2 c_5).2))
      · skip
        refine lv_goto (tgt := 87) hx hb dX6_goBackwards_50 (by decide) ?_
        exact key _ (by clear hP hD hl; have z_ := ev_4.symm; clear ev_4; subst z_; have z_ := er_3.symm; clear er_3; subst z_; have z_ := ev_1.symm; clear ev_1; subst z_; exact bI_end hp c_2 c_5) (lv_sub hl [2, 3, 4, 5, 6] rfl)
  · skip
    refine lv_aload_n hx hb dX6_goBackwards_87 rfl (lv_at hl 0 rfl) ?_
    refine jx_get (v := .ref (R 1)) hx hb hts iX6_goBackwards_6 hown hK hP 0 rfl rfl 1 (by decide) hk19 rfl rfl dX6_goBackwards_88 ?_
    refine lv_dup hx hb dX6_goBackwards_91 rfl ?_
    refine jx_getN (host := RX6) (v := .int (J1 0)) hx hb hts iX6_goBackwards_4 hown hK hP 1 rfl rfl 0 (by decide) hX (by decide +kernel) rfl rfl dX6_goBackwards_92 ?_
    refine lv_iload_n hx hb dX6_goBackwards_95 rfl (lv_at hl 2 rfl) ?_
    refine lv_isub hx hb dX6_goBackwards_96 ?_
    refine lv_topi (fun v_15 ev_15 => ?_)
    refine jx_putN (host := RX6) (w2 := [(h, .inr (6, (oX6 R J M))), ((R 1), .inr (4, (oX4 R1 (upd J1 0 v_15) M1))), ((R 2), .inr (0, (oX0 R2 J2 M2))), ((R2 0), .inl (cI, 64, .inl f2_0)), ((R2 1), .inl (cI, 64, .inl f2_1)), ((R2 2), .inl (cI, 64, .inl f2_2)), ((R 4), .inr (1, (oX1 R4 I4 L4)))]) hx hb hts iX6_goBackwards_4 tyX4 tyX4_ok nmX4 hown hK hP hD hS 1 rfl rfl 0 (by decide) hX (by decide +kernel) rfl rfl rfl rfl (Nat.le_of_ble_eq_true rfl) dX6_goBackwards_97 rfl (fun H locs hP hD hS => ?_)
    have hq : (sX6_goBackwards I L I1 L1 I2 L2 f2_2 L4 a0) = (J, M, (upd J1 0 v_15), M1, J2, M2) := (by clear hP hD hl; have z_ := ev_15.symm; clear ev_15; subst z_; have z_ := ev_1.symm; clear ev_1; subst z_; rw [sX6_goBackwards, hfin])
    exact jx_vret () hx hb hr hlocks hK hP hD hS (by rw [hq]) trivial dX6_goBackwards_100

def sX6_findPick (I : Nat → Int32) (L : Nat → Int64) (I1 : Nat → Int32) (L1 : Nat → Int64) (I2 : Nat → Int32) (L2 : Nat → Int64) (f2_2 : Nat → Int32) (L4 : Nat → Int64) : Int32 × (Nat → Int32) × (Nat → Int64) × (Nat → Int32) × (Nat → Int64) × (Nat → Int32) × (Nat → Int64) := (if (I 11) = 0 then ((0 : Int32), I, L, I1, L1, I2, L2) else (if (sX4_stands I1) = 0 then ((0 : Int32), I, L, I1, L1, I2, L2) else (if (I 8) = (2 : Int32) then (if (I1 0) ≤ (960 : Int32) then ((1 : Int32), I, L, I1, L1, I2, L2) else ((1 : Int32), ((sX6_goBackwards I L I1 L1 I2 L2 f2_2 L4 ((I1 0) - (960 : Int32))).1), ((sX6_goBackwards I L I1 L1 I2 L2 f2_2 L4 ((I1 0) - (960 : Int32))).2.1), ((sX6_goBackwards I L I1 L1 I2 L2 f2_2 L4 ((I1 0) - (960 : Int32))).2.2.1), ((sX6_goBackwards I L I1 L1 I2 L2 f2_2 L4 ((I1 0) - (960 : Int32))).2.2.2.1), ((sX6_goBackwards I L I1 L1 I2 L2 f2_2 L4 ((I1 0) - (960 : Int32))).2.2.2.2.1), ((sX6_goBackwards I L I1 L1 I2 L2 f2_2 L4 ((I1 0) - (960 : Int32))).2.2.2.2.2))) else ((0 : Int32), I, L, I1, L1, I2, L2))))
set_option maxRecDepth 20000 in
theorem iX6_findPick_4 : ∀ w ∈ wsX40, w ∈ wsX6_findPick := by decide +kernel
set_option maxRecDepth 20000 in
theorem iX6_findPick_6 : ∀ w ∈ wsX60, w ∈ wsX6_findPick := by decide +kernel
set_option maxHeartbeats 4000000 in
set_option maxRecDepth 100000 in
theorem kX6_findPick (l : Launch) (D : va_G) (cI cJ cZ cD : ClassId) (tA : Nat) (h : Nat) (R : Nat → Nat) (I : Nat → Int32) (L : Nat → Int64) (R1 : Nat → Nat) (I1 : Nat → Int32) (L1 : Nat → Int64) (R2 : Nat → Nat) (I2 : Nat → Int32) (L2 : Nat → Int64) (f2_0 : Nat → Int32) (f2_1 : Nat → Int32) (f2_2 : Nat → Int32) (R4 : Nat → Nat) (I4 : Nat → Int32) (L4 : Nat → Int64) : jx_M l yX6_findPick wsX6_findPick ({ frames := 6, cells := 0, slots := 0, locals := 130 }) D (jT cI cJ cZ cD) tA [.ref h] [(h, .inr (6, (oX6 R I L))), ((R 1), .inr (4, (oX4 R1 I1 L1))), ((R 2), .inr (0, (oX0 R2 I2 L2))), ((R2 0), .inl (cI, 64, .inl f2_0)), ((R2 1), .inl (cI, 64, .inl f2_1)), ((R2 2), .inl (cI, 64, .inl f2_2)), ((R 4), .inr (1, (oX1 R4 I4 L4)))] (jx_Qi D (jT cI cJ cZ cD) (fun r (_ : Unit) => r = (sX6_findPick I L I1 L1 I2 L2 f2_2 L4).1) (fun _ => [(h, .inr (6, (oX6 R (sX6_findPick I L I1 L1 I2 L2 f2_2 L4).2.1 (sX6_findPick I L I1 L1 I2 L2 f2_2 L4).2.2.1))), ((R 1), .inr (4, (oX4 R1 (sX6_findPick I L I1 L1 I2 L2 f2_2 L4).2.2.2.1 (sX6_findPick I L I1 L1 I2 L2 f2_2 L4).2.2.2.2.1))), ((R 2), .inr (0, (oX0 R2 (sX6_findPick I L I1 L1 I2 L2 f2_2 L4).2.2.2.2.2.1 (sX6_findPick I L I1 L1 I2 L2 f2_2 L4).2.2.2.2.2.2))), ((R2 0), .inl (cI, 64, .inl f2_0)), ((R2 1), .inl (cI, 64, .inl f2_1)), ((R2 2), .inl (cI, 64, .inl f2_2)), ((R 4), .inr (1, (oX1 R4 I4 L4)))])) := by
  refine jx_of (cc := cX6_findPick) (maxL := 1) (ret := (some .boolean)) (by decide +kernel) rfl (Nat.le_of_ble_eq_true rfl) ?_
  intro p e s m below meth c A ls hx hb hr hlocks hml hown hts hK hP hD hA hS hX hl
  have hl : lv_has ls 1 [(0, .ref h)] := hl
  have hown : s.vm.findClass RX6 = some m.cls := hown
  have hk19 := hts (.fieldLink RX6 19 "LoomDesk" "shaft" "LLoomDesk$Shaft;") (by decide +kernel)
  have hk55 := hts (.fieldLink RX6 55 "LoomDesk" "pick" "I") (by decide +kernel)
  have hk65 := hts (.fieldLink RX6 65 "LoomDesk" "power" "Z") (by decide +kernel)
  refine lv_aload_n hx hb dX6_findPick_0 rfl (lv_at hl 0 rfl) ?_
  refine jx_get (v := .int (I 11)) hx hb hts iX6_findPick_6 hown hK hP 0 rfl rfl 11 (by decide) hk65 rfl rfl dX6_findPick_1 ?_
  refine lv_if_eq (tgt := 25) hx hb dX6_findPick_4 (by decide) (fun c_1 => ?_) (fun c_1 => ?_)
  · skip
    refine lv_iconst (v := 0) hx hb dX6_findPick_25 (by decide) ?_
    have hq : (sX6_findPick I L I1 L1 I2 L2 f2_2 L4) = ((0 : Int32), I, L, I1, L1, I2, L2) := by unfold sX6_findPick; exact (if_pos c_1)
    exact jx_zret () hx hb hr hlocks hK hP hD hS (by rw [hq]) (by rw [hq]) (Or.inl rfl) dX6_findPick_26
  · skip
    refine lv_aload_n hx hb dX6_findPick_7 rfl (lv_at hl 0 rfl) ?_
    refine jx_get (v := .ref (R 1)) hx hb hts iX6_findPick_6 hown hK hP 0 rfl rfl 1 (by decide) hk19 rfl rfl dX6_findPick_8 ?_
    refine jx_pcalli (wc := [((R 1), .inr (4, (oX4 R1 I1 L1)))]) hP hD hS hA [1] rfl (by decide) (fun hPc hDc hF => jx_runVs (As := []) (rest := []) (n := 0) (ci := 4) (q0 := 0) hx hb hml hown hts hK hX hS hl.1 (kX4_stands l D cI cJ cZ cD tA (R 1) R1 I1 L1) gX6_findPick_X4_stands rfl rfl rfl (by decide +kernel) ⟨Nat.le_of_ble_eq_true rfl, Nat.le_of_ble_eq_true rfl⟩ rfl rfl rfl rfl rfl (Nat.le_of_ble_eq_true rfl) dX6_findPick_11 ⟨Nat.zero_le _, Nat.zero_le _⟩ hPc hDc hF) (fun r_2 er_2 => ?_)
    have er_2 : r_2 = (sX4_stands I1) := er_2
    refine lv_if_eq (tgt := 25) hx hb dX6_findPick_14 (by decide) (fun c_3 => ?_) (fun c_3 => ?_)
    · skip
      refine lv_iconst (v := 0) hx hb dX6_findPick_25 (by decide) ?_
      have hq : (sX6_findPick I L I1 L1 I2 L2 f2_2 L4) = ((0 : Int32), I, L, I1, L1, I2, L2) := by clear hP hD hl; have z_ := er_2.symm; clear er_2; subst z_; unfold sX6_findPick; exact (if_neg c_1).trans ((if_pos c_3))
      exact jx_zret () hx hb hr hlocks hK hP hD hS (by rw [hq]) (by rw [hq]) (Or.inl rfl) dX6_findPick_26
    · skip
      refine lv_aload_n hx hb dX6_findPick_17 rfl (lv_at hl 0 rfl) ?_
      refine jx_get (v := .int (I 8)) hx hb hts iX6_findPick_6 hown hK hP 0 rfl rfl 8 (by decide) hk55 rfl rfl dX6_findPick_18 ?_
      refine lv_iconst (v := 2) hx hb dX6_findPick_21 (by decide) ?_
      refine lv_icmp_eq (tgt := 27) hx hb dX6_findPick_22 (by decide) (fun c_4 => ?_) (fun c_4 => ?_)
      · skip
        refine lv_aload_n hx hb dX6_findPick_27 rfl (lv_at hl 0 rfl) ?_
        refine jx_get (v := .ref (R 1)) hx hb hts iX6_findPick_6 hown hK hP 0 rfl rfl 1 (by decide) hk19 rfl rfl dX6_findPick_28 ?_
        refine jx_getN (host := RX6) (v := .int (I1 0)) hx hb hts iX6_findPick_4 hown hK hP 1 rfl rfl 0 (by decide) hX (by decide +kernel) rfl rfl dX6_findPick_31 ?_
        refine lv_sipush (v := 960) hx hb dX6_findPick_34 (by decide) ?_
        refine lv_icmp_le (tgt := 55) hx hb dX6_findPick_37 (by decide) (fun c_5 => ?_) (fun c_5 => ?_)
        · skip
          refine lv_iconst (v := 1) hx hb dX6_findPick_55 (by decide) ?_
          have hq : (sX6_findPick I L I1 L1 I2 L2 f2_2 L4) = ((1 : Int32), I, L, I1, L1, I2, L2) := by clear hP hD hl; have z_ := er_2.symm; clear er_2; subst z_; unfold sX6_findPick; exact (if_neg c_1).trans ((if_neg c_3).trans ((if_pos c_4).trans ((if_pos c_5))))
          exact jx_zret () hx hb hr hlocks hK hP hD hS (by rw [hq]) (by rw [hq]) (Or.inr rfl) dX6_findPick_56
        · skip
          refine lv_aload_n hx hb dX6_findPick_40 rfl (lv_at hl 0 rfl) ?_
          refine lv_aload_n hx hb dX6_findPick_41 rfl (lv_at hl 0 rfl) ?_
          refine jx_get (v := .ref (R 1)) hx hb hts iX6_findPick_6 hown hK hP 0 rfl rfl 1 (by decide) hk19 rfl rfl dX6_findPick_42 ?_
          refine jx_getN (host := RX6) (v := .int (I1 0)) hx hb hts iX6_findPick_4 hown hK hP 1 rfl rfl 0 (by decide) hX (by decide +kernel) rfl rfl dX6_findPick_45 ?_
          refine lv_sipush (v := 960) hx hb dX6_findPick_48 (by decide) ?_
          refine lv_isub hx hb dX6_findPick_51 ?_
          refine jx_callv (wc := [(h, .inr (6, (oX6 R I L))), ((R 1), .inr (4, (oX4 R1 I1 L1))), ((R 2), .inr (0, (oX0 R2 I2 L2))), ((R2 0), .inl (cI, 64, .inl f2_0)), ((R2 1), .inl (cI, 64, .inl f2_1)), ((R2 2), .inl (cI, 64, .inl f2_2)), ((R 4), .inr (1, (oX1 R4 I4 L4)))]) (wr := []) hP hD hS hA hK [0, 1, 2, 3, 4, 5, 6] [] rfl rfl (by decide) (by decide) (by decide) (fun hPc hDc hF => jx_runV (As := [.int ((I1 0) - (960 : Int32))]) (rest := []) (n := 1) (ci := 6) (q0 := 0) hx hb hml hown hts hK hX hS hl.1 (kX6_goBackwards l D cI cJ cZ cD tA h R I L R1 I1 L1 R2 I2 L2 f2_0 f2_1 f2_2 R4 I4 L4 ((I1 0) - (960 : Int32))) gX6_findPick_X6_goBackwards rfl rfl rfl (by decide +kernel) ⟨Nat.le_of_ble_eq_true rfl, Nat.le_of_ble_eq_true rfl⟩ rfl rfl rfl rfl rfl (Nat.le_of_ble_eq_true rfl) dX6_findPick_52 ⟨Nat.zero_le _, Nat.zero_le _⟩ hPc hDc hF) (fun u H locs hw hP hD hS => ?_)
          obtain ⟨I_7, eI_7⟩ : ∃ x : (Nat → Int32), x = (sX6_goBackwards I L I1 L1 I2 L2 f2_2 L4 ((I1 0) - (960 : Int32))).1 := ⟨_, rfl⟩
          obtain ⟨L_8, eL_8⟩ : ∃ x : (Nat → Int64), x = (sX6_goBackwards I L I1 L1 I2 L2 f2_2 L4 ((I1 0) - (960 : Int32))).2.1 := ⟨_, rfl⟩
          obtain ⟨I_9, eI_9⟩ : ∃ x : (Nat → Int32), x = (sX6_goBackwards I L I1 L1 I2 L2 f2_2 L4 ((I1 0) - (960 : Int32))).2.2.1 := ⟨_, rfl⟩
          obtain ⟨L_10, eL_10⟩ : ∃ x : (Nat → Int64), x = (sX6_goBackwards I L I1 L1 I2 L2 f2_2 L4 ((I1 0) - (960 : Int32))).2.2.2.1 := ⟨_, rfl⟩
          obtain ⟨I_11, eI_11⟩ : ∃ x : (Nat → Int32), x = (sX6_goBackwards I L I1 L1 I2 L2 f2_2 L4 ((I1 0) - (960 : Int32))).2.2.2.2.1 := ⟨_, rfl⟩
          obtain ⟨L_12, eL_12⟩ : ∃ x : (Nat → Int64), x = (sX6_goBackwards I L I1 L1 I2 L2 f2_2 L4 ((I1 0) - (960 : Int32))).2.2.2.2.2 := ⟨_, rfl⟩
          have hP : va_P D vwCl [(h, .inr (6, (oX6 R I_7 L_8))), ((R 1), .inr (4, (oX4 R1 I_9 L_10))), ((R 2), .inr (0, (oX0 R2 I_11 L_12))), ((R2 0), .inl (cI, 64, .inl f2_0)), ((R2 1), .inl (cI, 64, .inl f2_1)), ((R2 2), .inl (cI, 64, .inl f2_2)), ((R 4), .inr (1, (oX1 R4 I4 L4)))] H := by rw [eI_7, eL_8, eI_9, eL_10, eI_11, eL_12]; exact hP
          have hD : va_D A [(h, .inr (6, (oX6 R I_7 L_8))), ((R 1), .inr (4, (oX4 R1 I_9 L_10))), ((R 2), .inr (0, (oX0 R2 I_11 L_12))), ((R2 0), .inl (cI, 64, .inl f2_0)), ((R2 1), .inl (cI, 64, .inl f2_1)), ((R2 2), .inl (cI, 64, .inl f2_2)), ((R 4), .inr (1, (oX1 R4 I4 L4)))] := by rw [eI_7, eL_8, eI_9, eL_10, eI_11, eL_12]; exact hD
          refine lv_iconst (v := 1) hx hb dX6_findPick_55 (by decide) ?_
          have hq : (sX6_findPick I L I1 L1 I2 L2 f2_2 L4) = ((1 : Int32), I_7, L_8, I_9, L_10, I_11, L_12) := by clear hP hD hl; have z_ := eL_12.symm; clear eL_12; subst z_; have z_ := eI_11.symm; clear eI_11; subst z_; have z_ := eL_10.symm; clear eL_10; subst z_; have z_ := eI_9.symm; clear eI_9; subst z_; have z_ := eL_8.symm; clear eL_8; subst z_; have z_ := eI_7.symm; clear eI_7; subst z_; have z_ := er_2.symm; clear er_2; subst z_; unfold sX6_findPick; exact (if_neg c_1).trans ((if_neg c_3).trans ((if_pos c_4).trans ((if_neg c_5))))
          exact jx_zret () hx hb hr hlocks hK hP hD hS (by rw [hq]) (by rw [hq]) (Or.inr rfl) dX6_findPick_56
      · skip
        refine lv_iconst (v := 0) hx hb dX6_findPick_25 (by decide) ?_
        have hq : (sX6_findPick I L I1 L1 I2 L2 f2_2 L4) = ((0 : Int32), I, L, I1, L1, I2, L2) := by clear hP hD hl; have z_ := er_2.symm; clear er_2; subst z_; unfold sX6_findPick; exact (if_neg c_1).trans ((if_neg c_3).trans ((if_neg c_4)))
        exact jx_zret () hx hb hr hlocks hK hP hD hS (by rw [hq]) (by rw [hq]) (Or.inl rfl) dX6_findPick_26

