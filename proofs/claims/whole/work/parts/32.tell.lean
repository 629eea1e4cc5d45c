/-- the walk to one pick: n items at most -/
def tellF (f0 f1 f2 : Nat → Int32) (f3 : Nat → Int64) (f4 f5 : Nat → Int32) (w : Int32) : Nat → Int32 → (Nat → Int32) → (Nat → Int64) → Int32 × (Nat → Int32) × (Nat → Int64)
  | 0, _, I, L => (-1, I, L)
  | n + 1, k, I, L => if k < 0 then (-1, I, L) else if I 6 ≤ k then (-1, I, L) else if f0 k.toNatClampNeg = 0 ∧ L 8 = 0 then (sX1_tellHere I (f1 k.toNatClampNeg) w, I, L) else tellF f0 f1 f2 f3 f4 f5 w n (sX1_pass I L f0 f1 f2 f3 f4 f5 k).1 (sX1_pass I L f0 f1 f2 f3 f4 f5 k).2.1 (sX1_pass I L f0 f1 f2 f3 f4 f5 k).2.2
def sX1_tell (I : Nat → Int32) (L : Nat → Int64) (f0 f1 f2 : Nat → Int32) (f3 : Nat → Int64) (f4 f5 : Nat → Int32) (a0 : Int64) (a1 : Int32) : Int32 × (Nat → Int32) × (Nat → Int64) :=
  if sX1_has L a0 = 0 then (-1, I, L) else tellF f0 f1 f2 f3 f4 f5 a1 80 0 (upd (upd I 9 0) 10 100) (vp_updL L 8 a0)
theorem jp_brk6 (I : Nat → Int32) (L : Nat → Int64) (f0 f1 f2 : Nat → Int32) (f3 : Nat → Int64) (f4 f5 : Nat → Int32) (k : Int32) : (sX1_passBracket I L f0 f1 f2 f3 f4 f5 k).2.1 6 = I 6 := by
  unfold sX1_passBracket; repeat' split
  all_goals rfl
theorem jp_pass6 (I : Nat → Int32) (L : Nat → Int64) (f0 f1 f2 : Nat → Int32) (f3 : Nat → Int64) (f4 f5 : Nat → Int32) (k : Int32) : (sX1_pass I L f0 f1 f2 f3 f4 f5 k).2.1 6 = I 6 := by
  unfold sX1_pass; repeat' split
  all_goals first | rfl | exact jp_brk6 ..
theorem nI_lt80 {k : Nat} (hk : k ≤ 80) : (80 : Int32) ≤ nI k ↔ k = 80 := by
  rw [show (80 : Int32) = nI 80 from rfl, nI_leI (by omega) (by omega)]; omega
def tellI (f0 f1 f2 : Nat → Int32) (f3 : Nat → Int64) (f4 f5 : Nat → Int32) (w : Int32) (Z : Int32 × (Nat → Int32) × (Nat → Int64)) (kk : Nat) (ii kt : Int32) (J : Nat → Int32) (M : Nat → Int64) : Prop := ii = nI kk ∧ kk ≤ 80 ∧ tellF f0 f1 f2 f3 f4 f5 w (80 - kk) kt J M = Z ∧ (J 6).toInt ≤ 80
section TELLI
variable {f0 f1 f2 : Nat → Int32} {f3 : Nat → Int64} {f4 f5 : Nat → Int32} {w : Int32} {Z : Int32 × (Nat → Int32) × (Nat → Int64)} {kk : Nat} {ii kt : Int32} {J : Nat → Int32} {M : Nat → Int64}
theorem tellI_ne (h : tellI f0 f1 f2 f3 f4 f5 w Z kk ii kt J M) (c : ¬ 80 ≤ ii) : 80 - kk = (79 - kk) + 1 := by
  obtain ⟨h1, h2, h3, h4⟩ := h
  have : kk ≠ 80 := fun z => c (by rw [h1]; exact (nI_lt80 h2).mpr z)
  omega
theorem tellI_out (h : tellI f0 f1 f2 f3 f4 f5 w Z kk ii kt J M) (c : 80 ≤ ii) : Z = (-1, J, M) := by
  obtain ⟨h1, h2, h3, h4⟩ := h
  have h5 := (nI_lt80 h2).mp (h1 ▸ c)
  rw [← h3, h5]; rfl
theorem tellI_neg (h : tellI f0 f1 f2 f3 f4 f5 w Z kk ii kt J M) (c : ¬ 80 ≤ ii) (c2 : kt < 0) : Z = (-1, J, M) := by
  rw [← h.2.2.1, tellI_ne h c, tellF, if_pos c2]
theorem tellI_end (h : tellI f0 f1 f2 f3 f4 f5 w Z kk ii kt J M) (c : ¬ 80 ≤ ii) (c2 : ¬ kt < 0) (c3 : J 6 ≤ kt) : Z = (-1, J, M) := by
  rw [← h.2.2.1, tellI_ne h c, tellF, if_neg c2, if_pos c3]
theorem tellI_here (h : tellI f0 f1 f2 f3 f4 f5 w Z kk ii kt J M) (c : ¬ 80 ≤ ii) (c2 : ¬ kt < 0) (c3 : ¬ J 6 ≤ kt) (c4 : f0 kt.toNatClampNeg = 0) (c5 : M 8 = 0) : Z = (sX1_tellHere J (f1 kt.toNatClampNeg) w, J, M) := by
  rw [← h.2.2.1, tellI_ne h c, tellF, if_neg c2, if_neg c3, if_pos ⟨c4, c5⟩]
theorem tellI_step (h : tellI f0 f1 f2 f3 f4 f5 w Z kk ii kt J M) (c : ¬ 80 ≤ ii) (c2 : ¬ kt < 0) (c3 : ¬ J 6 ≤ kt) (c4 : ¬ (f0 kt.toNatClampNeg = 0 ∧ M 8 = 0)) : tellI f0 f1 f2 f3 f4 f5 w Z (kk + 1) (ii + 1) (sX1_pass J M f0 f1 f2 f3 f4 f5 kt).1 (sX1_pass J M f0 f1 f2 f3 f4 f5 kt).2.1 (sX1_pass J M f0 f1 f2 f3 f4 f5 kt).2.2 ∧ 80 - (kk + 1) < 80 - kk := by
  have h5 := tellI_ne h c
  refine ⟨⟨by rw [h.1]; exact nI_1 kk, by omega, ?_, by rw [jp_pass6]; exact h.2.2.2⟩, by omega⟩
  rw [← h.2.2.1, h5, show 80 - (kk + 1) = 79 - kk from by omega, tellF.eq_def _ _ _ _ _ _ _ (79 - kk + 1)]
  simp only [if_neg c2, if_neg c3, if_neg c4]
end TELLI
set_option maxRecDepth 20000 in
theorem iX1_tell_1 : ∀ w ∈ wsX10, w ∈ wsX1_tell := by decide +kernel
set_option maxHeartbeats 4000000 in
set_option maxRecDepth 100000 in
theorem kX1_tell (l : Launch) (D : va_G) (cI cJ cZ cD : ClassId) (tA : Nat) (h : Nat) (R : Nat → Nat) (I : Nat → Int32) (L : Nat → Int64) (f0 : Nat → Int32) (f1 : Nat → Int32) (f2 : Nat → Int32) (f3 : Nat → Int64) (f4 : Nat → Int32) (f5 : Nat → Int32) (a0 : Int64) (a1 : Int32) (hs : (I 6).toInt ≤ 80) : jx_M l yX1_tell wsX1_tell ({ frames := 2, cells := 0, slots := 0, locals := 46 }) D (jT cI cJ cZ cD) tA [.ref h, .long a0, .int a1] [(h, .inr (1, (oX1 R I L))), ((R 0), .inl (cI, 80, .inl f0)), ((R 1), .inl (cI, 80, .inl f1)), ((R 2), .inl (cI, 80, .inl f2)), ((R 3), .inl (cJ, 80, .inr (.inl f3))), ((R 4), .inl (cI, 80, .inl f4)), ((R 5), .inl (cI, 80, .inl f5))] (jx_Qi D (jT cI cJ cZ cD) (fun r (_ : Unit) => r = (sX1_tell I L f0 f1 f2 f3 f4 f5 a0 a1).1) (fun _ => [(h, .inr (1, (oX1 R (sX1_tell I L f0 f1 f2 f3 f4 f5 a0 a1).2.1 (sX1_tell I L f0 f1 f2 f3 f4 f5 a0 a1).2.2))), ((R 0), .inl (cI, 80, .inl f0)), ((R 1), .inl (cI, 80, .inl f1)), ((R 2), .inl (cI, 80, .inl f2)), ((R 3), .inl (cJ, 80, .inr (.inl f3))), ((R 4), .inl (cI, 80, .inl f4)), ((R 5), .inl (cI, 80, .inl f5))])) := by
  refine jx_of (cc := cX1_tell) (maxL := 6) (ret := (some .int)) (by decide +kernel) rfl (Nat.le_of_ble_eq_true rfl) ?_
  intro p e s m below meth c A ls hx hb hr hlocks hml hown hts hK hP hD hA hS hX hl
  have hl : lv_has ls 6 [(0, .ref h), (1, .long a0), (3, .int a1)] := hl
  have hown : s.vm.findClass RX1 = some m.cls := hown
  have hk13 := hts (.fieldLink RX1 13 "LoomDesk$Pattern" "kinds" "[I") (by decide +kernel)
  have hk17 := hts (.fieldLink RX1 17 "LoomDesk$Pattern" "values" "[I") (by decide +kernel)
  have hk33 := hts (.fieldLink RX1 33 "LoomDesk$Pattern" "size" "I") (by decide +kernel)
  have hk41 := hts (.fieldLink RX1 41 "LoomDesk$Pattern" "ahead" "J") (by decide +kernel)
  have hk44 := hts (.fieldLink RX1 44 "LoomDesk$Pattern" "carrier" "I") (by decide +kernel)
  have hk47 := hts (.fieldLink RX1 47 "LoomDesk$Pattern" "density" "I") (by decide +kernel)
  refine lv_aload_n hx hb dX1_tell_0 rfl (lv_at hl 0 rfl) ?_
  refine lv_lload_n hx hb dX1_tell_1 rfl (lv_at hl 1 rfl) ?_
  refine jx_pcalli (wc := [(h, .inr (1, (oX1 R I L)))]) hP hD hS hA [0] rfl (by decide) (fun hPc hDc hF => jx_runVs (As := [.long a0]) (rest := []) (n := 1) (ci := 1) (q0 := 0) hx hb hml hown hts hK hX hS hl.1 (kX1_has l D cI cJ cZ cD tA h R I L a0) gX1_tell_X1_has rfl rfl rfl (by decide +kernel) ⟨Nat.le_of_ble_eq_true rfl, Nat.le_of_ble_eq_true rfl⟩ rfl rfl rfl rfl rfl (Nat.le_of_ble_eq_true rfl) dX1_tell_2 ⟨Nat.zero_le _, Nat.zero_le _⟩ hPc hDc hF) (fun r_1 er_1 => ?_)
  have er_1 : r_1 = (sX1_has L a0) := er_1
  refine lv_if_ne (tgt := 10) hx hb dX1_tell_5 (by decide) (fun c_2 => ?_) (fun c_2 => ?_)
  · skip
    refine lv_aload_n hx hb dX1_tell_10 rfl (lv_at hl 0 rfl) ?_
    refine lv_lload_n hx hb dX1_tell_11 rfl (lv_at hl 1 rfl) ?_
    refine jx_put (w2 := [(h, .inr (1, (oX1 R I (vp_updL L 8 a0)))), ((R 0), .inl (cI, 80, .inl f0)), ((R 1), .inl (cI, 80, .inl f1)), ((R 2), .inl (cI, 80, .inl f2)), ((R 3), .inl (cJ, 80, .inr (.inl f3))), ((R 4), .inl (cI, 80, .inl f4)), ((R 5), .inl (cI, 80, .inl f5))]) hx hb hts iX1_tell_1 tyX1 tyX1_ok nmX1 hown hK hP hD hS 0 rfl rfl 8 (by decide) hk41 rfl rfl rfl rfl (Nat.le_of_ble_eq_true rfl) dX1_tell_12 rfl (fun H locs hP hD hS => ?_)
    refine lv_aload_n hx hb dX1_tell_15 rfl (lv_at hl 0 rfl) ?_
    refine lv_iconst (v := 0) hx hb dX1_tell_16 (by decide) ?_
    refine jx_put (w2 := [(h, .inr (1, (oX1 R (upd I 9 (0 : Int32)) (vp_updL L 8 a0)))), ((R 0), .inl (cI, 80, .inl f0)), ((R 1), .inl (cI, 80, .inl f1)), ((R 2), .inl (cI, 80, .inl f2)), ((R 3), .inl (cJ, 80, .inr (.inl f3))), ((R 4), .inl (cI, 80, .inl f4)), ((R 5), .inl (cI, 80, .inl f5))]) hx hb hts iX1_tell_1 tyX1 tyX1_ok nmX1 hown hK hP hD hS 0 rfl rfl 9 (by decide) hk44 rfl rfl rfl rfl (Nat.le_of_ble_eq_true rfl) dX1_tell_17 rfl (fun H locs hP hD hS => ?_)
    refine lv_aload_n hx hb dX1_tell_20 rfl (lv_at hl 0 rfl) ?_
    refine lv_bipush (v := 100) hx hb dX1_tell_21 (by decide) ?_
    refine jx_put (w2 := [(h, .inr (1, (oX1 R (upd (upd I 9 (0 : Int32)) 10 (100 : Int32)) (vp_updL L 8 a0)))), ((R 0), .inl (cI, 80, .inl f0)), ((R 1), .inl (cI, 80, .inl f1)), ((R 2), .inl (cI, 80, .inl f2)), ((R 3), .inl (cJ, 80, .inr (.inl f3))), ((R 4), .inl (cI, 80, .inl f4)), ((R 5), .inl (cI, 80, .inl f5))]) hx hb hts iX1_tell_1 tyX1 tyX1_ok nmX1 hown hK hP hD hS 0 rfl rfl 10 (by decide) hk47 rfl rfl rfl rfl (Nat.le_of_ble_eq_true rfl) dX1_tell_23 rfl (fun H locs hP hD hS => ?_)
    refine lv_iconst (v := 0) hx hb dX1_tell_26 (by decide) ?_
    refine lv_istore (lv' := [(4, .int (0 : Int32)), (0, .ref h), (1, .long a0), (3, .int a1)]) hx hb dX1_tell_27 hl (by decide) rfl (fun ls hl => ?_)
    refine lv_iconst (v := 0) hx hb dX1_tell_29 (by decide) ?_
    refine lv_istore (lv' := [(5, .int (0 : Int32)), (4, .int (0 : Int32)), (0, .ref h), (1, .long a0), (3, .int a1)]) hx hb dX1_tell_30 hl (by decide) rfl (fun ls hl => ?_)
    refine jx_loop (σ := (Int32) × (Int32) × ((Nat → Int32)) × ((Nat → Int64)) × (Nat) × (Unit)) (fun x H locs ls => va_P D vwCl [(h, .inr (1, (oX1 R x.2.2.1 x.2.2.2.1))), ((R 0), .inl (cI, 80, .inl f0)), ((R 1), .inl (cI, 80, .inl f1)), ((R 2), .inl (cI, 80, .inl f2)), ((R 3), .inl (cJ, 80, .inr (.inl f3))), ((R 4), .inl (cI, 80, .inl f4)), ((R 5), .inl (cI, 80, .inl f5))] H ∧ va_D A [(h, .inr (1, (oX1 R x.2.2.1 x.2.2.2.1))), ((R 0), .inl (cI, 80, .inl f0)), ((R 1), .inl (cI, 80, .inl f1)), ((R 2), .inl (cI, 80, .inl f2)), ((R 3), .inl (cJ, 80, .inr (.inl f3))), ((R 4), .inl (cI, 80, .inl f4)), ((R 5), .inl (cI, 80, .inl f5))] ∧ va_S A s.heap H locs ∧ lv_has ls 6 [(0, .ref h), (1, .long a0), (3, .int a1), (4, .int x.1), (5, .int x.2.1)] ∧ (tellI f0 f1 f2 f3 f4 f5 a1 (tellF f0 f1 f2 f3 f4 f5 a1 80 0 (upd (upd I 9 0) 10 100) (vp_updL L 8 a0)) x.2.2.2.2.1 x.2.1 x.1 x.2.2.1 x.2.2.2.1)) (fun x => 80 - x.2.2.2.2.1) ((0 : Int32), (0 : Int32), (upd (upd I 9 (0 : Int32)) 10 (100 : Int32)), (vp_updL L 8 a0), 0, ()) ⟨hP, hD, hS, lv_sub hl [2, 3, 4, 1, 0] rfl, (show tellI f0 f1 f2 f3 f4 f5 a1 (tellF f0 f1 f2 f3 f4 f5 a1 80 0 (upd (upd I 9 0) 10 100) (vp_updL L 8 a0)) 0 (0 : Int32) (0 : Int32) (upd (upd I 9 (0 : Int32)) 10 (100 : Int32)) (vp_updL L 8 a0) from ⟨rfl, by omega, rfl, hs⟩)⟩ ?_
    intro x H locs ls hI ih
    obtain ⟨kt, ii, J, M, kk, ux⟩ := x
    obtain ⟨hP, hD, hS, hl, hp⟩ := hI
    have hP : va_P D vwCl [(h, .inr (1, (oX1 R J M))), ((R 0), .inl (cI, 80, .inl f0)), ((R 1), .inl (cI, 80, .inl f1)), ((R 2), .inl (cI, 80, .inl f2)), ((R 3), .inl (cJ, 80, .inr (.inl f3))), ((R 4), .inl (cI, 80, .inl f4)), ((R 5), .inl (cI, 80, .inl f5))] H := hP
    have hD : va_D A [(h, .inr (1, (oX1 R J M))), ((R 0), .inl (cI, 80, .inl f0)), ((R 1), .inl (cI, 80, .inl f1)), ((R 2), .inl (cI, 80, .inl f2)), ((R 3), .inl (cJ, 80, .inr (.inl f3))), ((R 4), .inl (cI, 80, .inl f4)), ((R 5), .inl (cI, 80, .inl f5))] := hD
    have hl : lv_has ls 6 [(0, .ref h), (1, .long a0), (3, .int a1), (4, .int kt), (5, .int ii)] := hl
    have hp : tellI f0 f1 f2 f3 f4 f5 a1 (tellF f0 f1 f2 f3 f4 f5 a1 80 0 (upd (upd I 9 0) 10 100) (vp_updL L 8 a0)) kk ii kt J M := hp
    refine lv_iload hx hb dX1_tell_32 (lv_at hl 4 rfl) ?_
    refine lv_bipush (v := 80) hx hb dX1_tell_34 (by decide) ?_
    refine lv_icmp_ge (tgt := 99) hx hb dX1_tell_36 (by decide) (fun c_3 => ?_) (fun c_3 => ?_)
    · skip
      refine lv_iconst (v := -1) hx hb dX1_tell_99 (by decide) ?_
      have hq : (sX1_tell I L f0 f1 f2 f3 f4 f5 a0 a1) = ((-1 : Int32), J, M) := (by rw [sX1_tell, ← er_1, if_neg c_2]; exact tellI_out hp c_3)
      exact jx_iret () hx hb hr hlocks hK hP hD hS (by rw [hq]) (by rw [hq]) dX1_tell_100
    · skip
      refine lv_iload hx hb dX1_tell_39 (lv_at hl 3 rfl) ?_
      refine lv_if_lt (tgt := 99) hx hb dX1_tell_41 (by decide) (fun c_4 => ?_) (fun c_4 => ?_)
      · skip
        refine lv_iconst (v := -1) hx hb dX1_tell_99 (by decide) ?_
        have hq : (sX1_tell I L f0 f1 f2 f3 f4 f5 a0 a1) = ((-1 : Int32), J, M) := (by rw [sX1_tell, ← er_1, if_neg c_2]; exact tellI_neg hp c_3 c_4)
        exact jx_iret () hx hb hr hlocks hK hP hD hS (by rw [hq]) (by rw [hq]) dX1_tell_100
      · skip
        refine lv_iload hx hb dX1_tell_44 (lv_at hl 3 rfl) ?_
        refine lv_aload_n hx hb dX1_tell_46 rfl (lv_at hl 0 rfl) ?_
        refine jx_get (v := .int (J 6)) hx hb hts iX1_tell_1 hown hK hP 0 rfl rfl 6 (by decide) hk33 rfl rfl dX1_tell_47 ?_
        refine lv_icmp_ge (tgt := 99) hx hb dX1_tell_50 (by decide) (fun c_5 => ?_) (fun c_5 => ?_)
        · skip
          refine lv_iconst (v := -1) hx hb dX1_tell_99 (by decide) ?_
          have hq : (sX1_tell I L f0 f1 f2 f3 f4 f5 a0 a1) = ((-1 : Int32), J, M) := (by rw [sX1_tell, ← er_1, if_neg c_2]; exact tellI_end hp c_3 c_4 c_5)
          exact jx_iret () hx hb hr hlocks hK hP hD hS (by rw [hq]) (by rw [hq]) dX1_tell_100
        · skip
          refine lv_aload_n hx hb dX1_tell_53 rfl (lv_at hl 0 rfl) ?_
          refine jx_get (v := .ref (R 0)) hx hb hts iX1_tell_1 hown hK hP 0 rfl rfl 0 (by decide) hk13 rfl rfl dX1_tell_54 ?_
          refine lv_iload hx hb dX1_tell_57 (lv_at hl 3 rfl) ?_
          refine va_iald hx hb hK hP 1 0 rfl rfl (jx_inlt c_4 c_5 hp.2.2.2) dX1_tell_59 ?_
          refine lv_if_ne (tgt := 85) hx hb dX1_tell_60 (by decide) (fun c_6 => ?_) (fun c_6 => ?_)
          · skip
            refine lv_aload_n hx hb dX1_tell_85 rfl (lv_at hl 0 rfl) ?_
            refine lv_iload hx hb dX1_tell_86 (lv_at hl 3 rfl) ?_
            refine jx_calli (wc := [(h, .inr (1, (oX1 R J M))), ((R 0), .inl (cI, 80, .inl f0)), ((R 1), .inl (cI, 80, .inl f1)), ((R 2), .inl (cI, 80, .inl f2)), ((R 3), .inl (cJ, 80, .inr (.inl f3))), ((R 4), .inl (cI, 80, .inl f4)), ((R 5), .inl (cI, 80, .inl f5))]) (wr := []) hP hD hS hA hK [0, 1, 2, 3, 4, 5, 6] [] rfl rfl (by decide) (by decide) (by decide) (fun hPc hDc hF => jx_runV (As := [.int kt]) (rest := []) (n := 1) (ci := 1) (q0 := 0) hx hb hml hown hts hK hX hS hl.1 (kX1_pass l D cI cJ cZ cD tA h R J M f0 f1 f2 f3 f4 f5 kt (jx_inlt c_4 c_5 hp.2.2.2)) gX1_tell_X1_pass rfl rfl rfl (by decide +kernel) ⟨Nat.le_of_ble_eq_true rfl, Nat.le_of_ble_eq_true rfl⟩ rfl rfl rfl rfl rfl (Nat.le_of_ble_eq_true rfl) dX1_tell_88 ⟨Nat.zero_le _, Nat.zero_le _⟩ hPc hDc hF) (fun r_7 u H locs er_7 hP hD hS => ?_)
            have er_7 : r_7 = (sX1_pass J M f0 f1 f2 f3 f4 f5 kt).1 := er_7
            obtain ⟨I_8, eI_8⟩ : ∃ x : (Nat → Int32), x = (sX1_pass J M f0 f1 f2 f3 f4 f5 kt).2.1 := ⟨_, rfl⟩
            obtain ⟨L_9, eL_9⟩ : ∃ x : (Nat → Int64), x = (sX1_pass J M f0 f1 f2 f3 f4 f5 kt).2.2 := ⟨_, rfl⟩
            have hP : va_P D vwCl [(h, .inr (1, (oX1 R I_8 L_9))), ((R 0), .inl (cI, 80, .inl f0)), ((R 1), .inl (cI, 80, .inl f1)), ((R 2), .inl (cI, 80, .inl f2)), ((R 3), .inl (cJ, 80, .inr (.inl f3))), ((R 4), .inl (cI, 80, .inl f4)), ((R 5), .inl (cI, 80, .inl f5))] H := by rw [eI_8, eL_9]; exact hP
            have hD : va_D A [(h, .inr (1, (oX1 R I_8 L_9))), ((R 0), .inl (cI, 80, .inl f0)), ((R 1), .inl (cI, 80, .inl f1)), ((R 2), .inl (cI, 80, .inl f2)), ((R 3), .inl (cJ, 80, .inr (.inl f3))), ((R 4), .inl (cI, 80, .inl f4)), ((R 5), .inl (cI, 80, .inl f5))] := by rw [eI_8, eL_9]; exact hD
            refine lv_istore (lv' := [(4, .int r_7), (0, .ref h), (1, .long a0), (3, .int a1), (5, .int ii)]) hx hb dX1_tell_91 hl (by decide) rfl (fun ls hl => ?_)
            obtain ⟨v_10, ev_10⟩ : ∃ y : Int32, y = ii + (1 : Int32) := ⟨_, rfl⟩
            refine lv_iinc (v := v_10) (lv' := [(5, .int v_10), (4, .int r_7), (0, .ref h), (1, .long a0), (3, .int a1)]) hx hb dX1_tell_93 hl (k := 4) rfl (by rw [ev_10]; rfl) (by decide) rfl (fun ls hl => ?_)
            refine lv_goto (tgt := 32) hx hb dX1_tell_96 (by decide) ?_
            exact ih (r_7, v_10, I_8, L_9, kk + 1, ()) _ _ _ ⟨hP, hD, hS, lv_sub hl [2, 3, 4, 1, 0] rfl, (show tellI f0 f1 f2 f3 f4 f5 a1 (tellF f0 f1 f2 f3 f4 f5 a1 80 0 (upd (upd I 9 0) 10 100) (vp_updL L 8 a0)) (kk + 1) v_10 r_7 I_8 L_9 from (by clear hP hD hl; have z_ := ev_10.symm; clear ev_10; subst z_; have z_ := eL_9.symm; clear eL_9; subst z_; have z_ := eI_8.symm; clear eI_8; subst z_; have z_ := er_7.symm; clear er_7; subst z_; have z_ := er_1.symm; clear er_1; subst z_; exact (tellI_step hp c_3 c_4 c_5 (fun z => c_6 z.1)).1))⟩ (show 80 - (kk + 1) < 80 - kk from (by clear hP hD hl; have z_ := ev_10.symm; clear ev_10; subst z_; have z_ := eL_9.symm; clear eL_9; subst z_; have z_ := eI_8.symm; clear eI_8; subst z_; have z_ := er_7.symm; clear er_7; subst z_; have z_ := er_1.symm; clear er_1; subst z_; exact (tellI_step hp c_3 c_4 c_5 (fun z => c_6 z.1)).2))
          · skip
            refine lv_aload_n hx hb dX1_tell_63 rfl (lv_at hl 0 rfl) ?_
            refine jx_get (v := .long (M 8)) hx hb hts iX1_tell_1 hown hK hP 0 rfl rfl 8 (by decide) hk41 rfl rfl dX1_tell_64 ?_
            refine lv_lconst (v := 0) hx hb dX1_tell_67 (by decide) ?_
            refine jx_l_ne (tgt := 85) hx hb dX1_tell_68 dX1_tell_69 (by decide) (fun c_11 => ?_) (fun c_11 => ?_)
            · skip
              refine lv_aload_n hx hb dX1_tell_85 rfl (lv_at hl 0 rfl) ?_
              refine lv_iload hx hb dX1_tell_86 (lv_at hl 3 rfl) ?_
              refine jx_calli (wc := [(h, .inr (1, (oX1 R J M))), ((R 0), .inl (cI, 80, .inl f0)), ((R 1), .inl (cI, 80, .inl f1)), ((R 2), .inl (cI, 80, .inl f2)), ((R 3), .inl (cJ, 80, .inr (.inl f3))), ((R 4), .inl (cI, 80, .inl f4)), ((R 5), .inl (cI, 80, .inl f5))]) (wr := []) hP hD hS hA hK [0, 1, 2, 3, 4, 5, 6] [] rfl rfl (by decide) (by decide) (by decide) (fun hPc hDc hF => jx_runV (As := [.int kt]) (rest := []) (n := 1) (ci := 1) (q0 := 0) hx hb hml hown hts hK hX hS hl.1 (kX1_pass l D cI cJ cZ cD tA h R J M f0 f1 f2 f3 f4 f5 kt (jx_inlt c_4 c_5 hp.2.2.2)) gX1_tell_X1_pass rfl rfl rfl (by decide +kernel) ⟨Nat.le_of_ble_eq_true rfl, Nat.le_of_ble_eq_true rfl⟩ rfl rfl rfl rfl rfl (Nat.le_of_ble_eq_true rfl) dX1_tell_88 ⟨Nat.zero_le _, Nat.zero_le _⟩ hPc hDc hF) (fun r_12 u H locs er_12 hP hD hS => ?_)
              have er_12 : r_12 = (sX1_pass J M f0 f1 f2 f3 f4 f5 kt).1 := er_12
              obtain ⟨I_13, eI_13⟩ : ∃ x : (Nat → Int32), x = (sX1_pass J M f0 f1 f2 f3 f4 f5 kt).2.1 := ⟨_, rfl⟩
              obtain ⟨L_14, eL_14⟩ : ∃ x : (Nat → Int64), x = (sX1_pass J M f0 f1 f2 f3 f4 f5 kt).2.2 := ⟨_, rfl⟩
              have hP : va_P D vwCl [(h, .inr (1, (oX1 R I_13 L_14))), ((R 0), .inl (cI, 80, .inl f0)), ((R 1), .inl (cI, 80, .inl f1)), ((R 2), .inl (cI, 80, .inl f2)), ((R 3), .inl (cJ, 80, .inr (.inl f3))), ((R 4), .inl (cI, 80, .inl f4)), ((R 5), .inl (cI, 80, .inl f5))] H := by rw [eI_13, eL_14]; exact hP
              have hD : va_D A [(h, .inr (1, (oX1 R I_13 L_14))), ((R 0), .inl (cI, 80, .inl f0)), ((R 1), .inl (cI, 80, .inl f1)), ((R 2), .inl (cI, 80, .inl f2)), ((R 3), .inl (cJ, 80, .inr (.inl f3))), ((R 4), .inl (cI, 80, .inl f4)), ((R 5), .inl (cI, 80, .inl f5))] := by rw [eI_13, eL_14]; exact hD
              refine lv_istore (lv' := [(4, .int r_12), (0, .ref h), (1, .long a0), (3, .int a1), (5, .int ii)]) hx hb dX1_tell_91 hl (by decide) rfl (fun ls hl => ?_)
              obtain ⟨v_15, ev_15⟩ : ∃ y : Int32, y = ii + (1 : Int32) := ⟨_, rfl⟩
              refine lv_iinc (v := v_15) (lv' := [(5, .int v_15), (4, .int r_12), (0, .ref h), (1, .long a0), (3, .int a1)]) hx hb dX1_tell_93 hl (k := 4) rfl (by rw [ev_15]; rfl) (by decide) rfl (fun ls hl => ?_)
              refine lv_goto (tgt := 32) hx hb dX1_tell_96 (by decide) ?_
              exact ih (r_12, v_15, I_13, L_14, kk + 1, ()) _ _ _ ⟨hP, hD, hS, lv_sub hl [2, 3, 4, 1, 0] rfl, (show tellI f0 f1 f2 f3 f4 f5 a1 (tellF f0 f1 f2 f3 f4 f5 a1 80 0 (upd (upd I 9 0) 10 100) (vp_updL L 8 a0)) (kk + 1) v_15 r_12 I_13 L_14 from (by clear hP hD hl; have z_ := ev_15.symm; clear ev_15; subst z_; have z_ := eL_14.symm; clear eL_14; subst z_; have z_ := eI_13.symm; clear eI_13; subst z_; have z_ := er_12.symm; clear er_12; subst z_; have z_ := er_1.symm; clear er_1; subst z_; exact (tellI_step hp c_3 c_4 c_5 (fun z => c_11 z.2)).1))⟩ (show 80 - (kk + 1) < 80 - kk from (by clear hP hD hl; have z_ := ev_15.symm; clear ev_15; subst z_; have z_ := eL_14.symm; clear eL_14; subst z_; have z_ := eI_13.symm; clear eI_13; subst z_; have z_ := er_12.symm; clear er_12; subst z_; have z_ := er_1.symm; clear er_1; subst z_; exact (tellI_step hp c_3 c_4 c_5 (fun z => c_11 z.2)).2))
            · skip
              refine lv_aload_n hx hb dX1_tell_72 rfl (lv_at hl 0 rfl) ?_
              refine lv_aload_n hx hb dX1_tell_73 rfl (lv_at hl 0 rfl) ?_
              refine jx_get (v := .ref (R 1)) hx hb hts iX1_tell_1 hown hK hP 0 rfl rfl 1 (by decide) hk17 rfl rfl dX1_tell_74 ?_
              refine lv_iload hx hb dX1_tell_77 (lv_at hl 3 rfl) ?_
              refine va_iald hx hb hK hP 2 0 rfl rfl (jx_inlt c_4 c_5 hp.2.2.2) dX1_tell_79 ?_
              refine lv_iload_n hx hb dX1_tell_80 rfl (lv_at hl 2 rfl) ?_
              refine jx_pcalli (wc := [(h, .inr (1, (oX1 R J M)))]) hP hD hS hA [0] rfl (by decide) (fun hPc hDc hF => jx_runVs (As := [.int (f1 kt.toNatClampNeg), .int a1]) (rest := []) (n := 2) (ci := 1) (q0 := 0) hx hb hml hown hts hK hX hS hl.1 (kX1_tellHere l D cI cJ cZ cD tA h R J M (f1 kt.toNatClampNeg) a1) gX1_tell_X1_tellHere rfl rfl rfl (by decide +kernel) ⟨Nat.le_of_ble_eq_true rfl, Nat.le_of_ble_eq_true rfl⟩ rfl rfl rfl rfl rfl (Nat.le_of_ble_eq_true rfl) dX1_tell_81 ⟨Nat.zero_le _, Nat.zero_le _⟩ hPc hDc hF) (fun r_16 er_16 => ?_)
              have er_16 : r_16 = (sX1_tellHere J (f1 kt.toNatClampNeg) a1) := er_16
              have hq : (sX1_tell I L f0 f1 f2 f3 f4 f5 a0 a1) = (r_16, J, M) := (by rw [sX1_tell, ← er_1, if_neg c_2]; rw [er_16]; exact tellI_here hp c_3 c_4 c_5 c_6 c_11)
              exact jx_iret () hx hb hr hlocks hK hP hD hS (by rw [hq]) (by rw [hq]) dX1_tell_84
  · skip
    refine lv_iconst (v := -1) hx hb dX1_tell_8 (by decide) ?_
    have hq : (sX1_tell I L f0 f1 f2 f3 f4 f5 a0 a1) = ((-1 : Int32), I, L) := (by rw [sX1_tell, ← er_1, if_pos c_2])
    exact jx_iret () hx hb hr hlocks hK hP hD hS (by rw [hq]) (by rw [hq]) dX1_tell_9

