/-- the picks that the reference has in mind: their densities are not 0 -/
def ldk_cl (n : Int32) (f : Nat → Int32) : Prop := 0 ≤ n.toInt ∧ n.toInt ≤ 64 ∧ ∀ k : Nat, (k : Int) < n.toInt → ¬ f k = 0
theorem ldk_dec {n : Int32} (h : 0 < n.toInt) : (n - 1).toInt = n.toInt - 1 := by
  obtain ⟨r1, r2⟩ := jx_rg32 n
  rw [Int32.toInt_sub, show (1 : Int32).toInt = 1 from rfl]; exact jx_bm32 (by omega) (by omega)
theorem ldk_cl_hc {n : Int32} {f : Nat → Int32} (h : ldk_cl n f) : ¬ n ≤ 0 → vp_in (n - 1) 64 ∧ ¬ f (n - 1).toNatClampNeg = 0 := by
  intro h1
  rw [Int32.le_iff_toInt_le, show (0 : Int32).toInt = 0 from rfl] at h1
  obtain ⟨h2, h3, h4⟩ := h
  have e := ldk_dec (n := n) (by omega)
  refine ⟨vp_in_iff.mpr ⟨by omega, by omega⟩, h4 _ ?_⟩
  show ((n - 1).toInt.toNat : Int) < _
  omega
theorem ldk_un38 (I : Nat → Int32) (L : Nat → Int64) {f : Nat → Int32} (h : ldk_cl (I 38) f) : ldk_cl ((sX7_unpicks I L f).1 38) f := by
  unfold sX7_unpicks
  split
  · dsimp only; rw [pk_un (by decide)]; exact h
  · rename_i h1
    rw [Int32.le_iff_toInt_le, show (0 : Int32).toInt = 0 from rfl] at h1
    have e := ldk_dec (n := I 38) (by omega)
    have h5 := h.2.1
    split
    · dsimp only
      rw [pk_us]
      exact ⟨by omega, by omega, fun k hk => h.2.2 k (by omega)⟩
    · dsimp only
      rw [pk_us]
      exact ⟨by omega, by omega, fun k hk => h.2.2 k (by omega)⟩
theorem ldk_na {a : Int32} (h : 0 ≤ a.toInt) : 0 ≤ (sX7_notAbove a).toInt ∧ (sX7_notAbove a).toInt ≤ a.toInt ∧ (sX7_notAbove a).toInt ≤ 4800 := by
  unfold sX7_notAbove
  simp only [Int32.lt_iff_toInt_lt, Int32.le_iff_toInt_le]
  have e1 : (4800 : Int32).toInt = 4800 := rfl
  have e2 : (1440 : Int32).toInt = 1440 := rfl
  have e3 : (480 : Int32).toInt = 480 := rfl
  have e4 : (0 : Int32).toInt = 0 := rfl
  repeat' split
  all_goals omega
theorem ldk_uc {f : Nat → Int32} {a b : Nat} {x y : Int32} (h : a ≠ b) : upd (upd f a x) b y = upd (upd f b y) a x := by
  funext j
  by_cases h1 : j = a
  · subst h1; rw [pk_un h, pk_us, pk_us]
  · by_cases h2 : j = b
    · subst h2; rw [pk_us, pk_un h1, pk_us]
    · rw [pk_un h2, pk_un h1, pk_un h1, pk_un h2]
def ldk_bS (f37 : Nat → Int32) (J : Nat → Int32) (M : Nat → Int64) : (Nat → Int32) × (Nat → Int64) := if sX7_notAbove (J 22) = 0 then sX7_unpicks (if sX7_notAbove (J 22) = 1440 then upd J 28 0 else J) M f37 else ((if sX7_notAbove (J 22) = 1440 then upd J 28 0 else J), M)
def ldk_bF (f37 : Nat → Int32) : Nat → Int32 → (Nat → Int32) → (Nat → Int64) → (Nat → Int32) × (Nat → Int64)
  | 0, _, J, M => (J, M)
  | n + 1, r, J, M => if r ≤ 0 then (J, M) else if J 22 - sX7_notAbove (J 22) < r then ldk_bF f37 n (r - (J 22 - sX7_notAbove (J 22)) + (-1)) (upd (ldk_bS f37 J M).1 22 ((if sX7_notAbove (J 22) = 0 then (5760 : Int32) else sX7_notAbove (J 22)) - 1)) (ldk_bS f37 J M).2 else ldk_bF f37 n 0 (upd J 22 (J 22 - r)) M
def sX7_goesBack (I : Nat → Int32) (L : Nat → Int64) (f37 : Nat → Int32) (a0 : Int32) : (Nat → Int32) × (Nat → Int64) := ldk_bF f37 (a0.toNatClampNeg + 2) a0 I L
def ldk_bI (f37 : Nat → Int32) (Z : (Nat → Int32) × (Nat → Int64)) (nn : Nat) (r : Int32) (J : Nat → Int32) (M : Nat → Int64) : Prop := ldk_bF f37 nn r J M = Z ∧ r.toInt < nn ∧ 0 ≤ (J 22).toInt ∧ ldk_cl (J 38) f37 ∧ 1 ≤ nn
section LDKB
variable {f37 : Nat → Int32} {Z : (Nat → Int32) × (Nat → Int64)} {nn : Nat} {r : Int32} {J : Nat → Int32} {M : Nat → Int64}
theorem ldk_bI_end (h : ldk_bI f37 Z nn r J M) (c : r ≤ 0) : Z = (J, M) := by
  obtain ⟨h1, h2, h3, h4, h5⟩ := h
  cases nn with
  | zero => omega
  | succ n => rw [← h1]; exact if_pos c
theorem ldk_bI_a (h : ldk_bI f37 Z nn r J M) (c : ¬ r ≤ 0) (c2 : ¬ J 22 - sX7_notAbove (J 22) < r) : ldk_bI f37 Z (nn - 1) 0 (upd J 22 (J 22 - r)) M ∧ nn - 1 < nn := by
  obtain ⟨h1, h2, h3, h4, h5⟩ := h
  obtain ⟨t1, t2, t3⟩ := ldk_na h3
  obtain ⟨r1, r2⟩ := jx_rg32 (J 22)
  have ed : (J 22 - sX7_notAbove (J 22)).toInt = (J 22).toInt - (sX7_notAbove (J 22)).toInt := by
    rw [Int32.toInt_sub]; exact jx_bm32 (by omega) (by omega)
  have c' := c
  have c2' := c2
  rw [Int32.le_iff_toInt_le, show (0 : Int32).toInt = 0 from rfl] at c'
  rw [Int32.lt_iff_toInt_lt, ed] at c2'
  have er : (J 22 - r).toInt = (J 22).toInt - r.toInt := by
    rw [Int32.toInt_sub]; exact jx_bm32 (by omega) (by omega)
  cases nn with
  | zero => omega
  | succ n =>
    refine ⟨⟨?_, ?_, ?_, ?_, ?_⟩, by omega⟩
    · rw [← h1, Nat.add_sub_cancel]
      exact ((if_neg c).trans (if_neg c2)).symm
    · rw [show (0 : Int32).toInt = 0 from rfl]; omega
    · rw [pk_us, er]; omega
    · rw [pk_un (by decide)]; exact h4
    · omega
theorem ldk_bI_b (h : ldk_bI f37 Z nn r J M) (c : ¬ r ≤ 0) (c2 : J 22 - sX7_notAbove (J 22) < r) : ldk_bI f37 Z (nn - 1) (r - (J 22 - sX7_notAbove (J 22)) + (-1)) (upd (ldk_bS f37 J M).1 22 ((if sX7_notAbove (J 22) = 0 then (5760 : Int32) else sX7_notAbove (J 22)) - 1)) (ldk_bS f37 J M).2 ∧ nn - 1 < nn := by
  obtain ⟨h1, h2, h3, h4, h5⟩ := h
  obtain ⟨t1, t2, t3⟩ := ldk_na h3
  obtain ⟨r1, r2⟩ := jx_rg32 (J 22)
  obtain ⟨q1, q2⟩ := jx_rg32 r
  have ed : (J 22 - sX7_notAbove (J 22)).toInt = (J 22).toInt - (sX7_notAbove (J 22)).toInt := by
    rw [Int32.toInt_sub]; exact jx_bm32 (by omega) (by omega)
  have c2' := c2
  rw [Int32.lt_iff_toInt_lt, ed] at c2'
  have er : (r - (J 22 - sX7_notAbove (J 22))).toInt = r.toInt - ((J 22).toInt - (sX7_notAbove (J 22)).toInt) := by
    rw [Int32.toInt_sub, ed]; exact jx_bm32 (by omega) (by omega)
  have er2 : (r - (J 22 - sX7_notAbove (J 22)) + (-1)).toInt = r.toInt - ((J 22).toInt - (sX7_notAbove (J 22)).toInt) - 1 := by
    rw [Int32.toInt_add, er, show (-1 : Int32).toInt = -1 from rfl]; exact jx_bm32 (by omega) (by omega)
  cases nn with
  | zero => omega
  | succ n =>
    refine ⟨⟨?_, ?_, ?_, ?_, ?_⟩, by omega⟩
    · rw [← h1, Nat.add_sub_cancel]
      exact ((if_neg c).trans (if_pos c2)).symm
    · rw [er2]; omega
    · rw [pk_us]
      split
      · rw [show ((5760 : Int32) - 1).toInt = 5759 from rfl]; omega
      · rename_i hz
        have hz' : (sX7_notAbove (J 22)).toInt ≠ 0 := fun z => hz (Int32.toInt_inj.mp z)
        rw [ldk_dec (by omega)]; omega
    · rw [pk_un (by decide)]
      unfold ldk_bS
      split
      · refine ldk_un38 _ _ ?_
        split
        · rw [pk_un (by decide)]; exact h4
        · exact h4
      · dsimp only
        split
        · rw [pk_un (by decide)]; exact h4
        · exact h4
    · have c' := c
      rw [Int32.le_iff_toInt_le, show (0 : Int32).toInt = 0 from rfl] at c'
      omega
end LDKB
set_option maxRecDepth 20000 in
theorem iX7_goesBack_7 : ∀ w ∈ wsX70, w ∈ wsX7_goesBack := by decide +kernel
set_option maxHeartbeats 4000000 in
set_option maxRecDepth 100000 in
theorem kX7_goesBack (l : Launch) (D : va_G) (cI cJ cZ cD : ClassId) (tA : Nat) (h : Nat) (R : Nat → Nat) (I : Nat → Int32) (L : Nat → Int64) (f37 : Nat → Int32) (a0 : Int32) (hang : 0 ≤ (I 22).toInt) (hcl : ldk_cl (I 38) f37) : jx_M l yX7_goesBack wsX7_goesBack ({ frames := 1, cells := 0, slots := 0, locals := 20 }) D (jT cI cJ cZ cD) tA [.ref h, .int a0] [(h, .inr (7, (oX7 R I L))), ((R 37), .inl (cI, 64, .inl f37))] (jx_Qv D (jT cI cJ cZ cD) (fun (_ : Unit) => True) (fun _ => [(h, .inr (7, (oX7 R (sX7_goesBack I L f37 a0).1 (sX7_goesBack I L f37 a0).2))), ((R 37), .inl (cI, 64, .inl f37))])) := by
  refine jx_of (cc := cX7_goesBack) (maxL := 4) (ret := none) (by decide +kernel) rfl (Nat.le_of_ble_eq_true rfl) ?_
  intro p e s m below meth c A ls hx hb hr hlocks hml hown hts hK hP hD hA hS hX hl
  have hl : lv_has ls 4 [(0, .ref h), (1, .int a0)] := hl
  have hown : s.vm.findClass RX7 = some m.cls := hown
  have hk200 := hts (.fieldLink RX7 200 "LoomDeskModel" "pick" "I") (by decide +kernel)
  have hk220 := hts (.fieldLink RX7 220 "LoomDeskModel" "angle" "I") (by decide +kernel)
  refine lv_iload_n hx hb dX7_goesBack_0 rfl (lv_at hl 1 rfl) ?_
  refine lv_istore_n (lv' := [(2, .int a0), (0, .ref h), (1, .int a0)]) hx hb dX7_goesBack_1 rfl hl (by decide) rfl (fun ls hl => ?_)
  refine jx_loop (σ := (Int32) × ((Nat → Int32)) × ((Nat → Int64)) × (Nat) × (Unit)) (fun x H locs ls => va_P D vwCl [(h, .inr (7, (oX7 R x.2.1 x.2.2.1))), ((R 37), .inl (cI, 64, .inl f37))] H ∧ va_D A [(h, .inr (7, (oX7 R x.2.1 x.2.2.1))), ((R 37), .inl (cI, 64, .inl f37))] ∧ va_S A s.heap H locs ∧ lv_has ls 4 [(0, .ref h), (1, .int a0), (2, .int x.1)] ∧ (ldk_bI f37 (sX7_goesBack I L f37 a0) x.2.2.2.1 x.1 x.2.1 x.2.2.1)) (fun x => x.2.2.2.1) (a0, I, L, a0.toNatClampNeg + 2, ()) ⟨hP, hD, hS, lv_sub hl [1, 2, 0] rfl, (show ldk_bI f37 (sX7_goesBack I L f37 a0) (a0.toNatClampNeg + 2) a0 I L from ⟨rfl, (by have e_ : a0.toNatClampNeg = a0.toInt.toNat := rfl; omega), hang, hcl, by omega⟩)⟩ ?_
  intro x H locs ls hI ih
  obtain ⟨rr, J, M, nn, ux⟩ := x
  obtain ⟨hP, hD, hS, hl, hp⟩ := hI
  have hP : va_P D vwCl [(h, .inr (7, (oX7 R J M))), ((R 37), .inl (cI, 64, .inl f37))] H := hP
  have hD : va_D A [(h, .inr (7, (oX7 R J M))), ((R 37), .inl (cI, 64, .inl f37))] := hD
  have hl : lv_has ls 4 [(0, .ref h), (1, .int a0), (2, .int rr)] := hl
  have hp : ldk_bI f37 (sX7_goesBack I L f37 a0) nn rr J M := hp
  refine lv_iload_n hx hb dX7_goesBack_2 rfl (lv_at hl 2 rfl) ?_
  refine lv_if_le (tgt := 91) hx hb dX7_goesBack_3 (by decide) (fun c_1 => ?_) (fun c_1 => ?_)
  · skip
    have hq : (sX7_goesBack I L f37 a0) = (J, M) := (ldk_bI_end hp c_1)
    exact jx_vret () hx hb hr hlocks hK hP hD hS (by rw [hq]) trivial dX7_goesBack_91
  · skip
    refine lv_aload_n hx hb dX7_goesBack_6 rfl (lv_at hl 0 rfl) ?_
    refine jx_get (v := .int (J 22)) hx hb hts iX7_goesBack_7 hown hK hP 0 rfl rfl 22 (by decide) hk220 rfl rfl dX7_goesBack_7 ?_
    refine jx_pcalli (wc := []) hP hD hS hA [] rfl (by decide) (fun hPc hDc hF => jx_runSs (As := [.int (J 22)]) (rest := []) (n := 1) hx hb hml hown hts hK hX hS hl.1 (kX7_notAbove l D cI cJ cZ cD tA (J 22)) gX7_goesBack_X7_notAbove rfl rfl rfl (by decide +kernel) ⟨Nat.le_of_ble_eq_true rfl, Nat.le_of_ble_eq_true rfl⟩ rfl rfl (Nat.le_of_ble_eq_true rfl) dX7_goesBack_10 ⟨Nat.zero_le _, Nat.zero_le _⟩ hPc hDc hF) (fun r_2 er_2 => ?_)
    have er_2 : r_2 = (sX7_notAbove (J 22)) := er_2
    refine lv_istore_n (lv' := [(3, .int r_2), (0, .ref h), (1, .int a0), (2, .int rr)]) hx hb dX7_goesBack_13 rfl hl (by decide) rfl (fun ls hl => ?_)
    refine lv_aload_n hx hb dX7_goesBack_14 rfl (lv_at hl 1 rfl) ?_
    refine jx_get (v := .int (J 22)) hx hb hts iX7_goesBack_7 hown hK hP 0 rfl rfl 22 (by decide) hk220 rfl rfl dX7_goesBack_15 ?_
    refine lv_iload_n hx hb dX7_goesBack_18 rfl (lv_at hl 0 rfl) ?_
    refine lv_isub hx hb dX7_goesBack_19 ?_
    refine lv_iload_n hx hb dX7_goesBack_20 rfl (lv_at hl 3 rfl) ?_
    refine lv_icmp_lt (tgt := 39) hx hb dX7_goesBack_21 (by decide) (fun c_3 => ?_) (fun c_3 => ?_)
    · skip
      refine lv_iload_n hx hb dX7_goesBack_39 rfl (lv_at hl 3 rfl) ?_
      refine lv_aload_n hx hb dX7_goesBack_40 rfl (lv_at hl 1 rfl) ?_
      refine jx_get (v := .int (J 22)) hx hb hts iX7_goesBack_7 hown hK hP 0 rfl rfl 22 (by decide) hk220 rfl rfl dX7_goesBack_41 ?_
      refine lv_iload_n hx hb dX7_goesBack_44 rfl (lv_at hl 0 rfl) ?_
      refine lv_isub hx hb dX7_goesBack_45 ?_
      refine lv_isub hx hb dX7_goesBack_46 ?_
      refine lv_topi (fun v_4 ev_4 => ?_)
      refine lv_istore_n (lv' := [(2, .int v_4), (3, .int r_2), (0, .ref h), (1, .int a0)]) hx hb dX7_goesBack_47 rfl hl (by decide) rfl (fun ls hl => ?_)
      refine lv_iload_n hx hb dX7_goesBack_48 rfl (lv_at hl 1 rfl) ?_
      refine lv_sipush (v := 1440) hx hb dX7_goesBack_49 (by decide) ?_
      refine lv_icmp_ne (tgt := 60) hx hb dX7_goesBack_52 (by decide) (fun c_5 => ?_) (fun c_5 => ?_)
      · skip
        refine lv_iload_n hx hb dX7_goesBack_60 rfl (lv_at hl 1 rfl) ?_
        refine lv_if_ne (tgt := 68) hx hb dX7_goesBack_61 (by decide) (fun c_6 => ?_) (fun c_6 => ?_)
        · skip
          refine lv_aload_n hx hb dX7_goesBack_68 rfl (lv_at hl 2 rfl) ?_
          refine lv_iload_n hx hb dX7_goesBack_69 rfl (lv_at hl 1 rfl) ?_
          refine jx_joini (J := 80) (v := (if r_2 = 0 then (5760 : Int32) else r_2)) (rest := [.ref h]) (fun key => ?_) ?_
          · skip
            refine lv_if_ne (tgt := 79) hx hb dX7_goesBack_70 (by decide) (fun c_7 => ?_) (fun c_7 => ?_)
            · skip
              refine lv_iload_n hx hb dX7_goesBack_79 rfl (lv_at hl 1 rfl) ?_
              rw [if_neg c_7] at key
              exact key
            · skip
              refine lv_sipush (v := 5760) hx hb dX7_goesBack_73 (by decide) ?_
              refine lv_goto (tgt := 80) hx hb dX7_goesBack_76 (by decide) ?_
              rw [if_pos c_7] at key
              exact key
          refine lv_topi (fun v_8 ev_8 => ?_)
          refine lv_iconst (v := 1) hx hb dX7_goesBack_80 (by decide) ?_
          refine lv_isub hx hb dX7_goesBack_81 ?_
          refine lv_topi (fun v_9 ev_9 => ?_)
          refine jx_put (w2 := [(h, .inr (7, (oX7 R (upd J 22 v_9) M))), ((R 37), .inl (cI, 64, .inl f37))]) hx hb hts iX7_goesBack_7 tyX7 tyX7_ok nmX7 hown hK hP hD hS 0 rfl rfl 22 (by decide) hk220 rfl rfl rfl rfl (Nat.le_of_ble_eq_true rfl) dX7_goesBack_82 rfl (fun H locs hP hD hS => ?_)
          obtain ⟨v_10, ev_10⟩ : ∃ y : Int32, y = v_4 + (-1 : Int32) := ⟨_, rfl⟩
          refine lv_iinc (v := v_10) (lv' := [(2, .int v_10), (3, .int r_2), (0, .ref h), (1, .int a0)]) hx hb dX7_goesBack_85 hl (k := 0) rfl (by rw [ev_10]; rfl) (by decide) rfl (fun ls hl => ?_)
          refine lv_goto (tgt := 2) hx hb dX7_goesBack_88 (by decide) ?_
          exact ih (v_10, (upd J 22 v_9), M, nn - 1, ()) _ _ _ ⟨hP, hD, hS, lv_sub hl [2, 3, 0] rfl, (show ldk_bI f37 (sX7_goesBack I L f37 a0) (nn - 1) v_10 (upd J 22 v_9) M from (by clear hP hD hl; have z_ := ev_10.symm; clear ev_10; subst z_; have z_ := ev_9.symm; clear ev_9; subst z_; have z_ := ev_8.symm; clear ev_8; subst z_; have z_ := ev_4.symm; clear ev_4; subst z_; have z_ := er_2.symm; clear er_2; subst z_; have q_ := (ldk_bI_b hp c_1 c_3).1; unfold ldk_bS at q_; simp only [if_neg c_5, if_neg c_6] at q_ ⊢; exact q_))⟩ (show (nn - 1) < nn from (by clear hP hD hl; have z_ := ev_10.symm; clear ev_10; subst z_; have z_ := ev_9.symm; clear ev_9; subst z_; have z_ := ev_8.symm; clear ev_8; subst z_; have z_ := ev_4.symm; clear ev_4; subst z_; have z_ := er_2.symm; clear er_2; subst z_; exact (ldk_bI_b hp c_1 c_3).2))
        · skip
          refine lv_aload_n hx hb dX7_goesBack_64 rfl (lv_at hl 2 rfl) ?_
          refine jx_callv (wc := [(h, .inr (7, (oX7 R J M))), ((R 37), .inl (cI, 64, .inl f37))]) (wr := []) hP hD hS hA hK [0, 1] [] rfl rfl (by decide) (by decide) (by decide) (fun hPc hDc hF => jx_runV (As := []) (rest := []) (n := 0) (ci := 7) (q0 := 0) hx hb hml hown hts hK hX hS hl.1 (kX7_unpicks l D cI cJ cZ cD tA h R J M f37 (by clear hP hD hl; have z_ := ev_4.symm; clear ev_4; subst z_; have z_ := er_2.symm; clear er_2; subst z_; exact ldk_cl_hc hp.2.2.2.1)) gX7_goesBack_X7_unpicks rfl rfl rfl (by decide +kernel) ⟨Nat.le_of_ble_eq_true rfl, Nat.le_of_ble_eq_true rfl⟩ rfl rfl rfl rfl rfl (Nat.le_of_ble_eq_true rfl) dX7_goesBack_65 ⟨Nat.zero_le _, Nat.zero_le _⟩ hPc hDc hF) (fun u H locs hw hP hD hS => ?_)
          obtain ⟨I_12, eI_12⟩ : ∃ x : (Nat → Int32), x = (sX7_unpicks J M f37).1 := ⟨_, rfl⟩
          obtain ⟨L_13, eL_13⟩ : ∃ x : (Nat → Int64), x = (sX7_unpicks J M f37).2 := ⟨_, rfl⟩
          have hP : va_P D vwCl [(h, .inr (7, (oX7 R I_12 L_13))), ((R 37), .inl (cI, 64, .inl f37))] H := by rw [eI_12, eL_13]; exact hP
          have hD : va_D A [(h, .inr (7, (oX7 R I_12 L_13))), ((R 37), .inl (cI, 64, .inl f37))] := by rw [eI_12, eL_13]; exact hD
          refine lv_aload_n hx hb dX7_goesBack_68 rfl (lv_at hl 2 rfl) ?_
          refine lv_iload_n hx hb dX7_goesBack_69 rfl (lv_at hl 1 rfl) ?_
          refine jx_joini (J := 80) (v := (if r_2 = 0 then (5760 : Int32) else r_2)) (rest := [.ref h]) (fun key => ?_) ?_
          · skip
            refine lv_if_ne (tgt := 79) hx hb dX7_goesBack_70 (by decide) (fun c_14 => ?_) (fun c_14 => ?_)
            · skip
              refine lv_iload_n hx hb dX7_goesBack_79 rfl (lv_at hl 1 rfl) ?_
              rw [if_neg c_14] at key
              exact key
            · skip
              refine lv_sipush (v := 5760) hx hb dX7_goesBack_73 (by decide) ?_
              refine lv_goto (tgt := 80) hx hb dX7_goesBack_76 (by decide) ?_
              rw [if_pos c_14] at key
              exact key
          refine lv_topi (fun v_15 ev_15 => ?_)
          refine lv_iconst (v := 1) hx hb dX7_goesBack_80 (by decide) ?_
          refine lv_isub hx hb dX7_goesBack_81 ?_
          refine lv_topi (fun v_16 ev_16 => ?_)
          refine jx_put (w2 := [(h, .inr (7, (oX7 R (upd I_12 22 v_16) L_13))), ((R 37), .inl (cI, 64, .inl f37))]) hx hb hts iX7_goesBack_7 tyX7 tyX7_ok nmX7 hown hK hP hD hS 0 rfl rfl 22 (by decide) hk220 rfl rfl rfl rfl (Nat.le_of_ble_eq_true rfl) dX7_goesBack_82 rfl (fun H locs hP hD hS => ?_)
          obtain ⟨v_17, ev_17⟩ : ∃ y : Int32, y = v_4 + (-1 : Int32) := ⟨_, rfl⟩
          refine lv_iinc (v := v_17) (lv' := [(2, .int v_17), (3, .int r_2), (0, .ref h), (1, .int a0)]) hx hb dX7_goesBack_85 hl (k := 0) rfl (by rw [ev_17]; rfl) (by decide) rfl (fun ls hl => ?_)
          refine lv_goto (tgt := 2) hx hb dX7_goesBack_88 (by decide) ?_
          exact ih (v_17, (upd I_12 22 v_16), L_13, nn - 1, ()) _ _ _ ⟨hP, hD, hS, lv_sub hl [2, 3, 0] rfl, (show ldk_bI f37 (sX7_goesBack I L f37 a0) (nn - 1) v_17 (upd I_12 22 v_16) L_13 from (by clear hP hD hl; have z_ := ev_17.symm; clear ev_17; subst z_; have z_ := ev_16.symm; clear ev_16; subst z_; have z_ := ev_15.symm; clear ev_15; subst z_; have z_ := eL_13.symm; clear eL_13; subst z_; have z_ := eI_12.symm; clear eI_12; subst z_; have z_ := ev_4.symm; clear ev_4; subst z_; have z_ := er_2.symm; clear er_2; subst z_; have q_ := (ldk_bI_b hp c_1 c_3).1; unfold ldk_bS at q_; simp only [if_neg c_5, if_pos c_6] at q_ ⊢; exact q_))⟩ (show (nn - 1) < nn from (by clear hP hD hl; have z_ := ev_17.symm; clear ev_17; subst z_; have z_ := ev_16.symm; clear ev_16; subst z_; have z_ := ev_15.symm; clear ev_15; subst z_; have z_ := eL_13.symm; clear eL_13; subst z_; have z_ := eI_12.symm; clear eI_12; subst z_; have z_ := ev_4.symm; clear ev_4; subst z_; have z_ := er_2.symm; clear er_2; subst z_; exact (ldk_bI_b hp c_1 c_3).2))
      · skip
        refine lv_aload_n hx hb dX7_goesBack_55 rfl (lv_at hl 2 rfl) ?_
        refine lv_iconst (v := 0) hx hb dX7_goesBack_56 (by decide) ?_
        refine jx_put (w2 := [(h, .inr (7, (oX7 R (upd J 28 (0 : Int32)) M))), ((R 37), .inl (cI, 64, .inl f37))]) hx hb hts iX7_goesBack_7 tyX7 tyX7_ok nmX7 hown hK hP hD hS 0 rfl rfl 28 (by decide) hk200 rfl rfl rfl rfl (Nat.le_of_ble_eq_true rfl) dX7_goesBack_57 rfl (fun H locs hP hD hS => ?_)
        refine lv_iload_n hx hb dX7_goesBack_60 rfl (lv_at hl 1 rfl) ?_
        refine lv_if_ne (tgt := 68) hx hb dX7_goesBack_61 (by decide) (fun c_18 => ?_) (fun c_18 => ?_)
        · skip
          refine lv_aload_n hx hb dX7_goesBack_68 rfl (lv_at hl 2 rfl) ?_
          refine lv_iload_n hx hb dX7_goesBack_69 rfl (lv_at hl 1 rfl) ?_
          refine jx_joini (J := 80) (v := (if r_2 = 0 then (5760 : Int32) else r_2)) (rest := [.ref h]) (fun key => ?_) ?_
          · skip
            refine lv_if_ne (tgt := 79) hx hb dX7_goesBack_70 (by decide) (fun c_19 => ?_) (fun c_19 => ?_)
            · skip
              refine lv_iload_n hx hb dX7_goesBack_79 rfl (lv_at hl 1 rfl) ?_
              rw [if_neg c_19] at key
              exact key
            · skip
              refine lv_sipush (v := 5760) hx hb dX7_goesBack_73 (by decide) ?_
              refine lv_goto (tgt := 80) hx hb dX7_goesBack_76 (by decide) ?_
              rw [if_pos c_19] at key
              exact key
          refine lv_topi (fun v_20 ev_20 => ?_)
          refine lv_iconst (v := 1) hx hb dX7_goesBack_80 (by decide) ?_
          refine lv_isub hx hb dX7_goesBack_81 ?_
          refine lv_topi (fun v_21 ev_21 => ?_)
          refine jx_put (w2 := [(h, .inr (7, (oX7 R (upd (upd J 22 v_21) 28 (0 : Int32)) M))), ((R 37), .inl (cI, 64, .inl f37))]) hx hb hts iX7_goesBack_7 tyX7 tyX7_ok nmX7 hown hK hP hD hS 0 rfl rfl 22 (by decide) hk220 rfl rfl rfl rfl (Nat.le_of_ble_eq_true rfl) dX7_goesBack_82 rfl (fun H locs hP hD hS => ?_)
          obtain ⟨v_22, ev_22⟩ : ∃ y : Int32, y = v_4 + (-1 : Int32) := ⟨_, rfl⟩
          refine lv_iinc (v := v_22) (lv' := [(2, .int v_22), (3, .int r_2), (0, .ref h), (1, .int a0)]) hx hb dX7_goesBack_85 hl (k := 0) rfl (by rw [ev_22]; rfl) (by decide) rfl (fun ls hl => ?_)
          refine lv_goto (tgt := 2) hx hb dX7_goesBack_88 (by decide) ?_
          exact ih (v_22, (upd (upd J 22 v_21) 28 (0 : Int32)), M, nn - 1, ()) _ _ _ ⟨hP, hD, hS, lv_sub hl [2, 3, 0] rfl, (show ldk_bI f37 (sX7_goesBack I L f37 a0) (nn - 1) v_22 (upd (upd J 22 v_21) 28 (0 : Int32)) M from (by clear hP hD hl; have z_ := ev_22.symm; clear ev_22; subst z_; have z_ := ev_21.symm; clear ev_21; subst z_; have z_ := ev_20.symm; clear ev_20; subst z_; have z_ := ev_4.symm; clear ev_4; subst z_; have z_ := er_2.symm; clear er_2; subst z_; have q_ := (ldk_bI_b hp c_1 c_3).1; unfold ldk_bS at q_; simp only [if_pos c_5, if_neg c_18] at q_ ⊢; rw [ldk_uc (show (28 : Nat) ≠ 22 by decide)] at q_; exact q_))⟩ (show (nn - 1) < nn from (by clear hP hD hl; have z_ := ev_22.symm; clear ev_22; subst z_; have z_ := ev_21.symm; clear ev_21; subst z_; have z_ := ev_20.symm; clear ev_20; subst z_; have z_ := ev_4.symm; clear ev_4; subst z_; have z_ := er_2.symm; clear er_2; subst z_; exact (ldk_bI_b hp c_1 c_3).2))
        · skip
          refine lv_aload_n hx hb dX7_goesBack_64 rfl (lv_at hl 2 rfl) ?_
          refine jx_callv (wc := [(h, .inr (7, (oX7 R (upd J 28 (0 : Int32)) M))), ((R 37), .inl (cI, 64, .inl f37))]) (wr := []) hP hD hS hA hK [0, 1] [] rfl rfl (by decide) (by decide) (by decide) (fun hPc hDc hF => jx_runV (As := []) (rest := []) (n := 0) (ci := 7) (q0 := 0) hx hb hml hown hts hK hX hS hl.1 (kX7_unpicks l D cI cJ cZ cD tA h R (upd J 28 (0 : Int32)) M f37 (by clear hP hD hl; have z_ := ev_4.symm; clear ev_4; subst z_; have z_ := er_2.symm; clear er_2; subst z_; exact ldk_cl_hc hp.2.2.2.1)) gX7_goesBack_X7_unpicks rfl rfl rfl (by decide +kernel) ⟨Nat.le_of_ble_eq_true rfl, Nat.le_of_ble_eq_true rfl⟩ rfl rfl rfl rfl rfl (Nat.le_of_ble_eq_true rfl) dX7_goesBack_65 ⟨Nat.zero_le _, Nat.zero_le _⟩ hPc hDc hF) (fun u H locs hw hP hD hS => ?_)
          obtain ⟨I_24, eI_24⟩ : ∃ x : (Nat → Int32), x = (sX7_unpicks (upd J 28 (0 : Int32)) M f37).1 := ⟨_, rfl⟩
          obtain ⟨L_25, eL_25⟩ : ∃ x : (Nat → Int64), x = (sX7_unpicks (upd J 28 (0 : Int32)) M f37).2 := ⟨_, rfl⟩
          have hP : va_P D vwCl [(h, .inr (7, (oX7 R I_24 L_25))), ((R 37), .inl (cI, 64, .inl f37))] H := by rw [eI_24, eL_25]; exact hP
          have hD : va_D A [(h, .inr (7, (oX7 R I_24 L_25))), ((R 37), .inl (cI, 64, .inl f37))] := by rw [eI_24, eL_25]; exact hD
          refine lv_aload_n hx hb dX7_goesBack_68 rfl (lv_at hl 2 rfl) ?_
          refine lv_iload_n hx hb dX7_goesBack_69 rfl (lv_at hl 1 rfl) ?_
          refine jx_joini (J := 80) (v := (if r_2 = 0 then (5760 : Int32) else r_2)) (rest := [.ref h]) (fun key => ?_) ?_
          · skip
            refine lv_if_ne (tgt := 79) hx hb dX7_goesBack_70 (by decide) (fun c_26 => ?_) (fun c_26 => ?_)
            · skip
              refine lv_iload_n hx hb dX7_goesBack_79 rfl (lv_at hl 1 rfl) ?_
              rw [if_neg c_26] at key
              exact key
            · skip
              refine lv_sipush (v := 5760) hx hb dX7_goesBack_73 (by decide) ?_
              refine lv_goto (tgt := 80) hx hb dX7_goesBack_76 (by decide) ?_
              rw [if_pos c_26] at key
              exact key
          refine lv_topi (fun v_27 ev_27 => ?_)
          refine lv_iconst (v := 1) hx hb dX7_goesBack_80 (by decide) ?_
          refine lv_isub hx hb dX7_goesBack_81 ?_
          refine lv_topi (fun v_28 ev_28 => ?_)
          refine jx_put (w2 := [(h, .inr (7, (oX7 R (upd I_24 22 v_28) L_25))), ((R 37), .inl (cI, 64, .inl f37))]) hx hb hts iX7_goesBack_7 tyX7 tyX7_ok nmX7 hown hK hP hD hS 0 rfl rfl 22 (by decide) hk220 rfl rfl rfl rfl (Nat.le_of_ble_eq_true rfl) dX7_goesBack_82 rfl (fun H locs hP hD hS => ?_)
          obtain ⟨v_29, ev_29⟩ : ∃ y : Int32, y = v_4 + (-1 : Int32) := ⟨_, rfl⟩
          refine lv_iinc (v := v_29) (lv' := [(2, .int v_29), (3, .int r_2), (0, .ref h), (1, .int a0)]) hx hb dX7_goesBack_85 hl (k := 0) rfl (by rw [ev_29]; rfl) (by decide) rfl (fun ls hl => ?_)
          refine lv_goto (tgt := 2) hx hb dX7_goesBack_88 (by decide) ?_
          exact ih (v_29, (upd I_24 22 v_28), L_25, nn - 1, ()) _ _ _ ⟨hP, hD, hS, lv_sub hl [2, 3, 0] rfl, (show ldk_bI f37 (sX7_goesBack I L f37 a0) (nn - 1) v_29 (upd I_24 22 v_28) L_25 from (by clear hP hD hl; have z_ := ev_29.symm; clear ev_29; subst z_; have z_ := ev_28.symm; clear ev_28; subst z_; have z_ := ev_27.symm; clear ev_27; subst z_; have z_ := eL_25.symm; clear eL_25; subst z_; have z_ := eI_24.symm; clear eI_24; subst z_; have z_ := ev_4.symm; clear ev_4; subst z_; have z_ := er_2.symm; clear er_2; subst z_; have q_ := (ldk_bI_b hp c_1 c_3).1; unfold ldk_bS at q_; simp only [if_pos c_5, if_pos c_18] at q_ ⊢; exact q_))⟩ (show (nn - 1) < nn from (by clear hP hD hl; have z_ := ev_29.symm; clear ev_29; subst z_; have z_ := ev_28.symm; clear ev_28; subst z_; have z_ := ev_27.symm; clear ev_27; subst z_; have z_ := eL_25.symm; clear eL_25; subst z_; have z_ := eI_24.symm; clear eI_24; subst z_; have z_ := ev_4.symm; clear ev_4; subst z_; have z_ := er_2.symm; clear er_2; subst z_; exact (ldk_bI_b hp c_1 c_3).2))
    · skip
      refine lv_aload_n hx hb dX7_goesBack_24 rfl (lv_at hl 1 rfl) ?_
      refine lv_dup hx hb dX7_goesBack_25 rfl ?_
      refine jx_get (v := .int (J 22)) hx hb hts iX7_goesBack_7 hown hK hP 0 rfl rfl 22 (by decide) hk220 rfl rfl dX7_goesBack_26 ?_
      refine lv_iload_n hx hb dX7_goesBack_29 rfl (lv_at hl 3 rfl) ?_
      refine lv_isub hx hb dX7_goesBack_30 ?_
      refine lv_topi (fun v_30 ev_30 => ?_)
      refine jx_put (w2 := [(h, .inr (7, (oX7 R (upd J 22 v_30) M))), ((R 37), .inl (cI, 64, .inl f37))]) hx hb hts iX7_goesBack_7 tyX7 tyX7_ok nmX7 hown hK hP hD hS 0 rfl rfl 22 (by decide) hk220 rfl rfl rfl rfl (Nat.le_of_ble_eq_true rfl) dX7_goesBack_31 rfl (fun H locs hP hD hS => ?_)
      refine lv_iconst (v := 0) hx hb dX7_goesBack_34 (by decide) ?_
      refine lv_istore_n (lv' := [(2, .int (0 : Int32)), (3, .int r_2), (0, .ref h), (1, .int a0)]) hx hb dX7_goesBack_35 rfl hl (by decide) rfl (fun ls hl => ?_)
      refine lv_goto (tgt := 2) hx hb dX7_goesBack_36 (by decide) ?_
      exact ih ((0 : Int32), (upd J 22 v_30), M, nn - 1, ()) _ _ _ ⟨hP, hD, hS, lv_sub hl [2, 3, 0] rfl, (show ldk_bI f37 (sX7_goesBack I L f37 a0) (nn - 1) (0 : Int32) (upd J 22 v_30) M from (by clear hP hD hl; have z_ := ev_30.symm; clear ev_30; subst z_; have z_ := er_2.symm; clear er_2; subst z_; exact (ldk_bI_a hp c_1 c_3).1))⟩ (show (nn - 1) < nn from (by clear hP hD hl; have z_ := ev_30.symm; clear ev_30; subst z_; have z_ := er_2.symm; clear er_2; subst z_; exact (ldk_bI_a hp c_1 c_3).2))

def sX7_findPick (I : Nat → Int32) (L : Nat → Int64) (f37 : Nat → Int32) : Int32 × (Nat → Int32) × (Nat → Int64) := (if (I 21) = 0 then (if (I 28) = (2 : Int32) then (if (I 20) = 0 then ((0 : Int32), (upd I 0 (0 : Int32)), L) else (if (I 22) ≤ (960 : Int32) then ((1 : Int32), (upd I 0 (0 : Int32)), L) else ((1 : Int32), ((sX7_goesBack (upd I 0 (0 : Int32)) L f37 ((I 22) - (960 : Int32))).1), ((sX7_goesBack (upd I 0 (0 : Int32)) L f37 ((I 22) - (960 : Int32))).2)))) else ((0 : Int32), (upd I 0 (0 : Int32)), L)) else ((0 : Int32), (upd I 0 (0 : Int32)), L))
set_option maxRecDepth 20000 in
theorem iX7_findPick_7 : ∀ w ∈ wsX70, w ∈ wsX7_findPick := by decide +kernel
set_option maxHeartbeats 4000000 in
set_option maxRecDepth 100000 in
theorem kX7_findPick (l : Launch) (D : va_G) (cI cJ cZ cD : ClassId) (tA : Nat) (h : Nat) (R : Nat → Nat) (I : Nat → Int32) (L : Nat → Int64) (f37 : Nat → Int32) (hang : 0 ≤ (I 22).toInt) (hcl : ldk_cl (I 38) f37) : jx_M l yX7_findPick wsX7_findPick ({ frames := 2, cells := 0, slots := 0, locals := 43 }) D (jT cI cJ cZ cD) tA [.ref h] [(h, .inr (7, (oX7 R I L))), ((R 37), .inl (cI, 64, .inl f37))] (jx_Qi D (jT cI cJ cZ cD) (fun r (_ : Unit) => r = (sX7_findPick I L f37).1) (fun _ => [(h, .inr (7, (oX7 R (sX7_findPick I L f37).2.1 (sX7_findPick I L f37).2.2))), ((R 37), .inl (cI, 64, .inl f37))])) := by
  refine jx_of (cc := cX7_findPick) (maxL := 1) (ret := (some .boolean)) (by decide +kernel) rfl (Nat.le_of_ble_eq_true rfl) ?_
  intro p e s m below meth c A ls hx hb hr hlocks hml hown hts hK hP hD hA hS hX hl
  have hl : lv_has ls 1 [(0, .ref h)] := hl
  have hown : s.vm.findClass RX7 = some m.cls := hown
  have hk47 := hts (.fieldLink RX7 47 "LoomDeskModel" "power" "Z") (by decide +kernel)
  have hk74 := hts (.fieldLink RX7 74 "LoomDeskModel" "thrown" "I") (by decide +kernel)
  have hk151 := hts (.fieldLink RX7 151 "LoomDeskModel" "mode" "I") (by decide +kernel)
  have hk200 := hts (.fieldLink RX7 200 "LoomDeskModel" "pick" "I") (by decide +kernel)
  have hk220 := hts (.fieldLink RX7 220 "LoomDeskModel" "angle" "I") (by decide +kernel)
  refine lv_aload_n hx hb dX7_findPick_0 rfl (lv_at hl 0 rfl) ?_
  refine lv_iconst (v := 0) hx hb dX7_findPick_1 (by decide) ?_
  refine jx_put (w2 := [(h, .inr (7, (oX7 R (upd I 0 (0 : Int32)) L))), ((R 37), .inl (cI, 64, .inl f37))]) hx hb hts iX7_findPick_7 tyX7 tyX7_ok nmX7 hown hK hP hD hS 0 rfl rfl 0 (by decide) hk74 rfl rfl rfl rfl (Nat.le_of_ble_eq_true rfl) dX7_findPick_2 rfl (fun H locs hP hD hS => ?_)
  refine lv_aload_n hx hb dX7_findPick_5 rfl (lv_at hl 0 rfl) ?_
  refine jx_get (v := .int (I 21)) hx hb hts iX7_findPick_7 hown hK hP 0 rfl rfl 21 (by decide) hk151 rfl rfl dX7_findPick_6 ?_
  refine lv_if_ne (tgt := 27) hx hb dX7_findPick_9 (by decide) (fun c_1 => ?_) (fun c_1 => ?_)
  · skip
    refine lv_iconst (v := 0) hx hb dX7_findPick_27 (by decide) ?_
    have hq : (sX7_findPick I L f37) = ((0 : Int32), (upd I 0 (0 : Int32)), L) := by unfold sX7_findPick; exact (if_neg c_1)
    exact jx_zret () hx hb hr hlocks hK hP hD hS (by rw [hq]) (by rw [hq]) (Or.inl rfl) dX7_findPick_28
  · skip
    refine lv_aload_n hx hb dX7_findPick_12 rfl (lv_at hl 0 rfl) ?_
    refine jx_get (v := .int (I 28)) hx hb hts iX7_findPick_7 hown hK hP 0 rfl rfl 28 (by decide) hk200 rfl rfl dX7_findPick_13 ?_
    refine lv_iconst (v := 2) hx hb dX7_findPick_16 (by decide) ?_
    refine lv_icmp_ne (tgt := 27) hx hb dX7_findPick_17 (by decide) (fun c_2 => ?_) (fun c_2 => ?_)
    · skip
      refine lv_iconst (v := 0) hx hb dX7_findPick_27 (by decide) ?_
      have hq : (sX7_findPick I L f37) = ((0 : Int32), (upd I 0 (0 : Int32)), L) := by unfold sX7_findPick; exact (if_pos c_1).trans ((if_neg c_2))
      exact jx_zret () hx hb hr hlocks hK hP hD hS (by rw [hq]) (by rw [hq]) (Or.inl rfl) dX7_findPick_28
    · skip
      refine lv_aload_n hx hb dX7_findPick_20 rfl (lv_at hl 0 rfl) ?_
      refine jx_get (v := .int (I 20)) hx hb hts iX7_findPick_7 hown hK hP 0 rfl rfl 20 (by decide) hk47 rfl rfl dX7_findPick_21 ?_
      refine lv_if_ne (tgt := 29) hx hb dX7_findPick_24 (by decide) (fun c_3 => ?_) (fun c_3 => ?_)
      · skip
        refine lv_aload_n hx hb dX7_findPick_29 rfl (lv_at hl 0 rfl) ?_
        refine jx_get (v := .int (I 22)) hx hb hts iX7_findPick_7 hown hK hP 0 rfl rfl 22 (by decide) hk220 rfl rfl dX7_findPick_30 ?_
        refine lv_sipush (v := 960) hx hb dX7_findPick_33 (by decide) ?_
        refine lv_icmp_le (tgt := 51) hx hb dX7_findPick_36 (by decide) (fun c_4 => ?_) (fun c_4 => ?_)
        · skip
          refine lv_iconst (v := 1) hx hb dX7_findPick_51 (by decide) ?_
          have hq : (sX7_findPick I L f37) = ((1 : Int32), (upd I 0 (0 : Int32)), L) := by unfold sX7_findPick; exact (if_pos c_1).trans ((if_pos c_2).trans ((if_neg c_3).trans ((if_pos c_4))))
          exact jx_zret () hx hb hr hlocks hK hP hD hS (by rw [hq]) (by rw [hq]) (Or.inr rfl) dX7_findPick_52
        · skip
          refine lv_aload_n hx hb dX7_findPick_39 rfl (lv_at hl 0 rfl) ?_
          refine lv_aload_n hx hb dX7_findPick_40 rfl (lv_at hl 0 rfl) ?_
          refine jx_get (v := .int (I 22)) hx hb hts iX7_findPick_7 hown hK hP 0 rfl rfl 22 (by decide) hk220 rfl rfl dX7_findPick_41 ?_
          refine lv_sipush (v := 960) hx hb dX7_findPick_44 (by decide) ?_
          refine lv_isub hx hb dX7_findPick_47 ?_
          refine jx_callv (wc := [(h, .inr (7, (oX7 R (upd I 0 (0 : Int32)) L))), ((R 37), .inl (cI, 64, .inl f37))]) (wr := []) hP hD hS hA hK [0, 1] [] rfl rfl (by decide) (by decide) (by decide) (fun hPc hDc hF => jx_runV (As := [.int ((I 22) - (960 : Int32))]) (rest := []) (n := 1) (ci := 7) (q0 := 0) hx hb hml hown hts hK hX hS hl.1 (kX7_goesBack l D cI cJ cZ cD tA h R (upd I 0 (0 : Int32)) L f37 ((I 22) - (960 : Int32)) (by exact hang) (by exact hcl)) gX7_findPick_X7_goesBack rfl rfl rfl (by decide +kernel) ⟨Nat.le_of_ble_eq_true rfl, Nat.le_of_ble_eq_true rfl⟩ rfl rfl rfl rfl rfl (Nat.le_of_ble_eq_true rfl) dX7_findPick_48 ⟨Nat.zero_le _, Nat.zero_le _⟩ hPc hDc hF) (fun u H locs hw hP hD hS => ?_)
          obtain ⟨I_6, eI_6⟩ : ∃ x : (Nat → Int32), x = (sX7_goesBack (upd I 0 (0 : Int32)) L f37 ((I 22) - (960 : Int32))).1 := ⟨_, rfl⟩
          obtain ⟨L_7, eL_7⟩ : ∃ x : (Nat → Int64), x = (sX7_goesBack (upd I 0 (0 : Int32)) L f37 ((I 22) - (960 : Int32))).2 := ⟨_, rfl⟩
          have hP : va_P D vwCl [(h, .inr (7, (oX7 R I_6 L_7))), ((R 37), .inl (cI, 64, .inl f37))] H := by rw [eI_6, eL_7]; exact hP
          have hD : va_D A [(h, .inr (7, (oX7 R I_6 L_7))), ((R 37), .inl (cI, 64, .inl f37))] := by rw [eI_6, eL_7]; exact hD
          refine lv_iconst (v := 1) hx hb dX7_findPick_51 (by decide) ?_
          have hq : (sX7_findPick I L f37) = ((1 : Int32), I_6, L_7) := by clear hP hD hl; have z_ := eL_7.symm; clear eL_7; subst z_; have z_ := eI_6.symm; clear eI_6; subst z_; unfold sX7_findPick; exact (if_pos c_1).trans ((if_pos c_2).trans ((if_neg c_3).trans ((if_neg c_4))))
          exact jx_zret () hx hb hr hlocks hK hP hD hS (by rw [hq]) (by rw [hq]) (Or.inr rfl) dX7_findPick_52
      · skip
        refine lv_iconst (v := 0) hx hb dX7_findPick_27 (by decide) ?_
        have hq : (sX7_findPick I L f37) = ((0 : Int32), (upd I 0 (0 : Int32)), L) := by unfold sX7_findPick; exact (if_pos c_1).trans ((if_pos c_2).trans ((if_pos c_3)))
        exact jx_zret () hx hb hr hlocks hK hP hD hS (by rw [hq]) (by rw [hq]) (Or.inl rfl) dX7_findPick_28

def sX7_back (I : Nat → Int32) (L : Nat → Int64) (f37 : Nat → Int32) (a0 : UInt64) : UInt64 × (Nat → Int32) × (Nat → Int64) := (if (if (if (I 21) = 0 then (if (L 10) = (0 : Int64) then (1 : Int32) else (if (I 20) = 0 then (1 : Int32) else (0 : Int32))) else (1 : Int32)) = 0 then (if (if (Op.cmpValue (FP.dcmp a0 FP.dconst0) .l) < 0 then (1 : Int32) else (if (Op.cmpValue (FP.dcmp a0 (4652464705678344192 : UInt64)) .g) ≤ 0 then (0 : Int32) else (1 : Int32))) = 0 then (0 : Int32) else (2 : Int32)) else (1 : Int32)) ≤ 0 then ((FP.ddiv (FP.i2d (((sX7_goesBack (upd I 0 (if (if (I 21) = 0 then (if (L 10) = (0 : Int64) then (1 : Int32) else (if (I 20) = 0 then (1 : Int32) else (0 : Int32))) else (1 : Int32)) = 0 then (if (if (Op.cmpValue (FP.dcmp a0 FP.dconst0) .l) < 0 then (1 : Int32) else (if (Op.cmpValue (FP.dcmp a0 (4652464705678344192 : UInt64)) .g) ≤ 0 then (0 : Int32) else (1 : Int32))) = 0 then (0 : Int32) else (2 : Int32)) else (1 : Int32))) L f37 ((FP.d2i (FP.dmul a0 (4620693217682128896 : UInt64))) * (2 : Int32))).1) 22)) (4625196817309499392 : UInt64)), ((sX7_goesBack (upd I 0 (if (if (I 21) = 0 then (if (L 10) = (0 : Int64) then (1 : Int32) else (if (I 20) = 0 then (1 : Int32) else (0 : Int32))) else (1 : Int32)) = 0 then (if (if (Op.cmpValue (FP.dcmp a0 FP.dconst0) .l) < 0 then (1 : Int32) else (if (Op.cmpValue (FP.dcmp a0 (4652464705678344192 : UInt64)) .g) ≤ 0 then (0 : Int32) else (1 : Int32))) = 0 then (0 : Int32) else (2 : Int32)) else (1 : Int32))) L f37 ((FP.d2i (FP.dmul a0 (4620693217682128896 : UInt64))) * (2 : Int32))).1), ((sX7_goesBack (upd I 0 (if (if (I 21) = 0 then (if (L 10) = (0 : Int64) then (1 : Int32) else (if (I 20) = 0 then (1 : Int32) else (0 : Int32))) else (1 : Int32)) = 0 then (if (if (Op.cmpValue (FP.dcmp a0 FP.dconst0) .l) < 0 then (1 : Int32) else (if (Op.cmpValue (FP.dcmp a0 (4652464705678344192 : UInt64)) .g) ≤ 0 then (0 : Int32) else (1 : Int32))) = 0 then (0 : Int32) else (2 : Int32)) else (1 : Int32))) L f37 ((FP.d2i (FP.dmul a0 (4620693217682128896 : UInt64))) * (2 : Int32))).2)) else (FP.dconst0, (upd I 0 (if (if (I 21) = 0 then (if (L 10) = (0 : Int64) then (1 : Int32) else (if (I 20) = 0 then (1 : Int32) else (0 : Int32))) else (1 : Int32)) = 0 then (if (if (Op.cmpValue (FP.dcmp a0 FP.dconst0) .l) < 0 then (1 : Int32) else (if (Op.cmpValue (FP.dcmp a0 (4652464705678344192 : UInt64)) .g) ≤ 0 then (0 : Int32) else (1 : Int32))) = 0 then (0 : Int32) else (2 : Int32)) else (1 : Int32))), L))
set_option maxRecDepth 20000 in
theorem iX7_back_7 : ∀ w ∈ wsX70, w ∈ wsX7_back := by decide +kernel
set_option maxHeartbeats 4000000 in
set_option maxRecDepth 100000 in
theorem kX7_back (l : Launch) (D : va_G) (cI cJ cZ cD : ClassId) (tA : Nat) (h : Nat) (R : Nat → Nat) (I : Nat → Int32) (L : Nat → Int64) (f37 : Nat → Int32) (a0 : UInt64) (hang : 0 ≤ (I 22).toInt) (hcl : ldk_cl (I 38) f37) (hn8 : vf_n64 (FP.dmul a0 4620693217682128896)) (hn : ∀ x : Int32, vf_n64 (FP.ddiv (FP.i2d x) 4625196817309499392)) : jx_M l yX7_back wsX7_back ({ frames := 2, cells := 0, slots := 0, locals := 43 }) D (jT cI cJ cZ cD) tA [.ref h, .double a0] [(h, .inr (7, (oX7 R I L))), ((R 37), .inl (cI, 64, .inl f37))] (jx_Qd D (jT cI cJ cZ cD) (fun r (_ : Unit) => r = (sX7_back I L f37 a0).1) (fun _ => [(h, .inr (7, (oX7 R (sX7_back I L f37 a0).2.1 (sX7_back I L f37 a0).2.2))), ((R 37), .inl (cI, 64, .inl f37))])) := by
  refine jx_of (cc := cX7_back) (maxL := 5) (ret := (some .double)) (by decide +kernel) rfl (Nat.le_of_ble_eq_true rfl) ?_
  intro p e s m below meth c A ls hx hb hr hlocks hml hown hts hK hP hD hA hS hX hl
  have hl : lv_has ls 5 [(0, .ref h), (1, .double a0)] := hl
  have hown : s.vm.findClass RX7 = some m.cls := hown
  have hk47 := hts (.fieldLink RX7 47 "LoomDeskModel" "power" "Z") (by decide +kernel)
  have hk74 := hts (.fieldLink RX7 74 "LoomDeskModel" "thrown" "I") (by decide +kernel)
  have hk130 := hts (.fieldLink RX7 130 "LoomDeskModel" "length" "J") (by decide +kernel)
  have hk151 := hts (.fieldLink RX7 151 "LoomDeskModel" "mode" "I") (by decide +kernel)
  have hk220 := hts (.fieldLink RX7 220 "LoomDeskModel" "angle" "I") (by decide +kernel)
  refine lv_aload_n hx hb dX7_back_0 rfl (lv_at hl 0 rfl) ?_
  refine jx_get (v := .int (I 21)) hx hb hts iX7_back_7 hown hK hP 0 rfl rfl 21 (by decide) hk151 rfl rfl dX7_back_1 ?_
  refine jx_joini (J := 28) (v := (if (I 21) = 0 then (if (L 10) = (0 : Int64) then (1 : Int32) else (if (I 20) = 0 then (1 : Int32) else (0 : Int32))) else (1 : Int32))) (rest := []) (fun key => ?_) ?_
  · skip
    refine lv_if_ne (tgt := 23) hx hb dX7_back_4 (by decide) (fun c_1 => ?_) (fun c_1 => ?_)
    · skip
      refine lv_iconst (v := 1) hx hb dX7_back_23 (by decide) ?_
      refine lv_goto (tgt := 28) hx hb dX7_back_24 (by decide) ?_
      rw [if_neg c_1] at key
      exact key
    · skip
      refine lv_aload_n hx hb dX7_back_7 rfl (lv_at hl 0 rfl) ?_
      refine jx_get (v := .long (L 10)) hx hb hts iX7_back_7 hown hK hP 0 rfl rfl 10 (by decide) hk130 rfl rfl dX7_back_8 ?_
      refine lv_lconst (v := 0) hx hb dX7_back_11 (by decide) ?_
      refine jx_l_eq (tgt := 23) hx hb dX7_back_12 dX7_back_13 (by decide) (fun c_2 => ?_) (fun c_2 => ?_)
      · skip
        refine lv_iconst (v := 1) hx hb dX7_back_23 (by decide) ?_
        refine lv_goto (tgt := 28) hx hb dX7_back_24 (by decide) ?_
        rw [if_pos c_1, if_pos c_2] at key
        exact key
      · skip
        refine lv_aload_n hx hb dX7_back_16 rfl (lv_at hl 0 rfl) ?_
        refine jx_get (v := .int (I 20)) hx hb hts iX7_back_7 hown hK hP 0 rfl rfl 20 (by decide) hk47 rfl rfl dX7_back_17 ?_
        refine lv_if_ne (tgt := 27) hx hb dX7_back_20 (by decide) (fun c_3 => ?_) (fun c_3 => ?_)
        · skip
          refine lv_iconst (v := 0) hx hb dX7_back_27 (by decide) ?_
          rw [if_pos c_1, if_neg c_2, if_neg c_3] at key
          exact key
        · skip
          refine lv_iconst (v := 1) hx hb dX7_back_23 (by decide) ?_
          refine lv_goto (tgt := 28) hx hb dX7_back_24 (by decide) ?_
          rw [if_pos c_1, if_neg c_2, if_pos c_3] at key
          exact key
  refine lv_topi (fun v_4 ev_4 => ?_)
  refine lv_istore_n (lv' := [(3, .int v_4), (0, .ref h), (1, .double a0)]) hx hb dX7_back_28 rfl hl (by decide) rfl (fun ls hl => ?_)
  refine lv_dload_n hx hb dX7_back_29 rfl (lv_at hl 2 rfl) ?_
  refine lv_dconst0 hx hb dX7_back_30 ?_
  refine lv_dcmp hx hb dX7_back_31 ?_
  refine jx_joini (J := 48) (v := (if (Op.cmpValue (FP.dcmp a0 FP.dconst0) .l) < 0 then (1 : Int32) else (if (Op.cmpValue (FP.dcmp a0 (4652464705678344192 : UInt64)) .g) ≤ 0 then (0 : Int32) else (1 : Int32)))) (rest := []) (fun key => ?_) ?_
  · skip
    refine lv_if_lt (tgt := 43) hx hb dX7_back_32 (by decide) (fun c_5 => ?_) (fun c_5 => ?_)
    · skip
      refine lv_iconst (v := 1) hx hb dX7_back_43 (by decide) ?_
      refine lv_goto (tgt := 48) hx hb dX7_back_44 (by decide) ?_
      rw [if_pos c_5] at key
      exact key
    · skip
      refine lv_dload_n hx hb dX7_back_35 rfl (lv_at hl 2 rfl) ?_
      refine lv_ldc2d hx hb hown (hts (.constantDouble RX7 238 (4652464705678344192)) (by decide +kernel)) dX7_back_36 ?_
      refine lv_dcmp hx hb dX7_back_39 ?_
      refine lv_if_le (tgt := 47) hx hb dX7_back_40 (by decide) (fun c_6 => ?_) (fun c_6 => ?_)
      · skip
        refine lv_iconst (v := 0) hx hb dX7_back_47 (by decide) ?_
        rw [if_neg c_5, if_pos c_6] at key
        exact key
      · skip
        refine lv_iconst (v := 1) hx hb dX7_back_43 (by decide) ?_
        refine lv_goto (tgt := 48) hx hb dX7_back_44 (by decide) ?_
        rw [if_neg c_5, if_neg c_6] at key
        exact key
  refine lv_topi (fun v_7 ev_7 => ?_)
  refine lv_istore (lv' := [(4, .int v_7), (3, .int v_4), (0, .ref h), (1, .double a0)]) hx hb dX7_back_48 hl (by decide) rfl (fun ls hl => ?_)
  refine lv_aload_n hx hb dX7_back_50 rfl (lv_at hl 2 rfl) ?_
  refine lv_iload_n hx hb dX7_back_51 rfl (lv_at hl 1 rfl) ?_
  refine jx_joini (J := 69) (v := (if v_4 = 0 then (if v_7 = 0 then (0 : Int32) else (2 : Int32)) else (1 : Int32))) (rest := [.ref h]) (fun key => ?_) ?_
  · skip
    refine lv_if_eq (tgt := 59) hx hb dX7_back_52 (by decide) (fun c_8 => ?_) (fun c_8 => ?_)
    · skip
      refine lv_iload hx hb dX7_back_59 (lv_at hl 0 rfl) ?_
      refine lv_if_eq (tgt := 68) hx hb dX7_back_61 (by decide) (fun c_9 => ?_) (fun c_9 => ?_)
      · skip
        refine lv_iconst (v := 0) hx hb dX7_back_68 (by decide) ?_
        rw [if_pos c_8, if_pos c_9] at key
        exact key
      · skip
        refine lv_iconst (v := 2) hx hb dX7_back_64 (by decide) ?_
        refine lv_goto (tgt := 69) hx hb dX7_back_65 (by decide) ?_
        rw [if_pos c_8, if_neg c_9] at key
        exact key
    · skip
      refine lv_iconst (v := 1) hx hb dX7_back_55 (by decide) ?_
      refine lv_goto (tgt := 69) hx hb dX7_back_56 (by decide) ?_
      rw [if_neg c_8] at key
      exact key
  refine lv_topi (fun v_10 ev_10 => ?_)
  refine jx_put (w2 := [(h, .inr (7, (oX7 R (upd I 0 v_10) L))), ((R 37), .inl (cI, 64, .inl f37))]) hx hb hts iX7_back_7 tyX7 tyX7_ok nmX7 hown hK hP hD hS 0 rfl rfl 0 (by decide) hk74 rfl rfl rfl rfl (Nat.le_of_ble_eq_true rfl) dX7_back_69 rfl (fun H locs hP hD hS => ?_)
  refine lv_aload_n hx hb dX7_back_72 rfl (lv_at hl 2 rfl) ?_
  refine jx_get (v := .int v_10) hx hb hts iX7_back_7 hown hK hP 0 rfl rfl 0 (by decide) hk74 rfl rfl dX7_back_73 ?_
  refine lv_if_le (tgt := 81) hx hb dX7_back_76 (by decide) (fun c_11 => ?_) (fun c_11 => ?_)
  · skip
    refine lv_aload_n hx hb dX7_back_81 rfl (lv_at hl 2 rfl) ?_
    refine lv_dload_n hx hb dX7_back_82 rfl (lv_at hl 3 rfl) ?_
    refine lv_ldc2d hx hb hown (hts (.constantDouble RX7 218 (4620693217682128896)) (by decide +kernel)) dX7_back_83 ?_
    refine lv_dmul hx hb dX7_back_86 hn8 ?_
    refine lv_d2i hx hb dX7_back_87 ?_
    refine lv_iconst (v := 2) hx hb dX7_back_88 (by decide) ?_
    refine lv_imul hx hb dX7_back_89 ?_
    refine jx_callv (wc := [(h, .inr (7, (oX7 R (upd I 0 v_10) L))), ((R 37), .inl (cI, 64, .inl f37))]) (wr := []) hP hD hS hA hK [0, 1] [] rfl rfl (by decide) (by decide) (by decide) (fun hPc hDc hF => jx_runV (As := [.int ((FP.d2i (FP.dmul a0 (4620693217682128896 : UInt64))) * (2 : Int32))]) (rest := []) (n := 1) (ci := 7) (q0 := 0) hx hb hml hown hts hK hX hS hl.1 (kX7_goesBack l D cI cJ cZ cD tA h R (upd I 0 v_10) L f37 ((FP.d2i (FP.dmul a0 (4620693217682128896 : UInt64))) * (2 : Int32)) (by clear hP hD hl; have z_ := ev_10.symm; clear ev_10; subst z_; have z_ := ev_7.symm; clear ev_7; subst z_; have z_ := ev_4.symm; clear ev_4; subst z_; exact hang) (by clear hP hD hl; have z_ := ev_10.symm; clear ev_10; subst z_; have z_ := ev_7.symm; clear ev_7; subst z_; have z_ := ev_4.symm; clear ev_4; subst z_; exact hcl)) gX7_back_X7_goesBack rfl rfl rfl (by decide +kernel) ⟨Nat.le_of_ble_eq_true rfl, Nat.le_of_ble_eq_true rfl⟩ rfl rfl rfl rfl rfl (Nat.le_of_ble_eq_true rfl) dX7_back_90 ⟨Nat.zero_le _, Nat.zero_le _⟩ hPc hDc hF) (fun u H locs hw hP hD hS => ?_)
    obtain ⟨I_13, eI_13⟩ : ∃ x : (Nat → Int32), x = (sX7_goesBack (upd I 0 v_10) L f37 ((FP.d2i (FP.dmul a0 (4620693217682128896 : UInt64))) * (2 : Int32))).1 := ⟨_, rfl⟩
    obtain ⟨L_14, eL_14⟩ : ∃ x : (Nat → Int64), x = (sX7_goesBack (upd I 0 v_10) L f37 ((FP.d2i (FP.dmul a0 (4620693217682128896 : UInt64))) * (2 : Int32))).2 := ⟨_, rfl⟩
    have hP : va_P D vwCl [(h, .inr (7, (oX7 R I_13 L_14))), ((R 37), .inl (cI, 64, .inl f37))] H := by rw [eI_13, eL_14]; exact hP
    have hD : va_D A [(h, .inr (7, (oX7 R I_13 L_14))), ((R 37), .inl (cI, 64, .inl f37))] := by rw [eI_13, eL_14]; exact hD
    refine lv_aload_n hx hb dX7_back_93 rfl (lv_at hl 2 rfl) ?_
    refine jx_get (v := .int (I_13 22)) hx hb hts iX7_back_7 hown hK hP 0 rfl rfl 22 (by decide) hk220 rfl rfl dX7_back_94 ?_
    refine lv_i2d hx hb dX7_back_97 ?_
    refine lv_ldc2d hx hb hown (hts (.constantDouble RX7 230 (4625196817309499392)) (by decide +kernel)) dX7_back_98 ?_
    refine lv_ddiv hx hb dX7_back_101 (hn _) ?_
    have hq : (sX7_back I L f37 a0) = ((FP.ddiv (FP.i2d (I_13 22)) (4625196817309499392 : UInt64)), I_13, L_14) := by clear hP hD hl; have z_ := eL_14.symm; clear eL_14; subst z_; have z_ := eI_13.symm; clear eI_13; subst z_; have z_ := ev_10.symm; clear ev_10; subst z_; have z_ := ev_7.symm; clear ev_7; subst z_; have z_ := ev_4.symm; clear ev_4; subst z_; unfold sX7_back; exact (if_pos c_11)
    exact jx_dret () hx hb hr hlocks hK hP hD hS (by rw [hq]) (by rw [hq]) dX7_back_102
  · skip
    refine lv_dconst0 hx hb dX7_back_79 ?_
    have hq : (sX7_back I L f37 a0) = (FP.dconst0, (upd I 0 v_10), L) := by clear hP hD hl; have z_ := ev_10.symm; clear ev_10; subst z_; have z_ := ev_7.symm; clear ev_7; subst z_; have z_ := ev_4.symm; clear ev_4; subst z_; unfold sX7_back; exact (if_neg c_11)
    exact jx_dret () hx hb hr hlocks hK hP hD hS (by rw [hq]) (by rw [hq]) dX7_back_80

