def skF (f1 : Nat → Int32) : Nat → (Nat → Int32) → (Nat → Int32)
  | 0, I => I
  | n + 1, I => if sX7_see I f1 = 32 then skF f1 n (upd I 15 (I 15 + 1)) else I
def sX7_skip (I f1 : Nat → Int32) : (Nat → Int32) := skF f1 161 I
def skI (f1 : Nat → Int32) (Z : Nat → Int32) (nn : Nat) (J : Nat → Int32) : Prop := skF f1 nn J = Z ∧ 160 - (J 15).toInt < nn ∧ 0 ≤ (J 15).toInt ∧ (J 2).toInt ≤ 160
theorem see_lt {I f : Nat → Int32} (h : sX7_see I f = 32) : (I 15).toInt < (I 2).toInt := by
  unfold sX7_see at h
  split at h
  · exact absurd h (by decide)
  · rename_i h2
    rw [Int32.le_iff_toInt_le] at h2; omega
theorem toInt_inc {x : Int32} {b : Int} (h : x.toInt < b) (hb : b < 2147483648) : (x + 1).toInt = x.toInt + 1 := by
  obtain ⟨r1, r2⟩ := jx_rg32 x
  rw [Int32.toInt_add, show (1 : Int32).toInt = 1 from rfl]; exact jx_bm32 (by omega) (by omega)
theorem skI_step {f1 Z : Nat → Int32} {nn : Nat} {J : Nat → Int32} (h : skI f1 Z nn J) (c : sX7_see J f1 = 32) : skI f1 Z (nn - 1) (upd J 15 (J 15 + 1)) ∧ nn - 1 < nn := by
  obtain ⟨h1, h2, h3, h4⟩ := h
  have h5 := see_lt c
  cases nn with
  | zero => exact absurd h2 (by omega)
  | succ n =>
    have h6 := toInt_inc h5 (by omega)
    refine ⟨⟨?_, ?_, ?_, ?_⟩, by omega⟩
    · rw [← h1, Nat.add_sub_cancel, skF.eq_def _ (n + 1)]
      simp only [if_pos c]
    · rw [pk_us, h6, Nat.add_sub_cancel]; omega
    · rw [pk_us, h6]; omega
    · rw [pk_un (by decide)]; exact h4
theorem skI_end {f1 Z : Nat → Int32} {nn : Nat} {J : Nat → Int32} (h : skI f1 Z nn J) (c : ¬ sX7_see J f1 = 32) : Z = J := by
  obtain ⟨h1, h2, h3, h4⟩ := h
  rw [← h1]
  cases nn with
  | zero => rfl
  | succ n => rw [skF, if_neg c]
set_option maxRecDepth 20000 in
theorem iX7_skip_7 : ∀ w ∈ wsX70, w ∈ wsX7_skip := by decide +kernel
set_option maxHeartbeats 4000000 in
set_option maxRecDepth 100000 in
theorem kX7_skip (l : Launch) (D : va_G) (cI cJ cZ cD : ClassId) (tA : Nat) (h : Nat) (R : Nat → Nat) (I : Nat → Int32) (L : Nat → Int64) (f1 : Nat → Int32) (ha : 0 ≤ (I 15).toInt) (hs : (I 2).toInt ≤ 160) : jx_M l yX7_skip wsX7_skip ({ frames := 1, cells := 0, slots := 0, locals := 20 }) D (jT cI cJ cZ cD) tA [.ref h] [(h, .inr (7, (oX7 R I L))), ((R 1), .inl (cI, 160, .inl f1))] (jx_Qv D (jT cI cJ cZ cD) (fun (_ : Unit) => True) (fun _ => [(h, .inr (7, (oX7 R (sX7_skip I f1) L))), ((R 1), .inl (cI, 160, .inl f1))])) := by
  refine jx_of (cc := cX7_skip) (maxL := 1) (ret := none) (by decide +kernel) rfl (Nat.le_of_ble_eq_true rfl) ?_
  intro p e s m below meth c A ls hx hb hr hlocks hml hown hts hK hP hD hA hS hX hl
  have hl : lv_has ls 1 [(0, .ref h)] := hl
  have hown : s.vm.findClass RX7 = some m.cls := hown
  have hk86 := hts (.fieldLink RX7 86 "LoomDeskModel" "at" "I") (by decide +kernel)
  refine jx_loop (σ := ((Nat → Int32)) × (Nat) × (Unit)) (fun x H locs ls => va_P D vwCl [(h, .inr (7, (oX7 R x.1 L))), ((R 1), .inl (cI, 160, .inl f1))] H ∧ va_D A [(h, .inr (7, (oX7 R x.1 L))), ((R 1), .inl (cI, 160, .inl f1))] ∧ va_S A s.heap H locs ∧ lv_has ls 1 [(0, .ref h)] ∧ (skI f1 (sX7_skip I f1) x.2.1 x.1)) (fun x => x.2.1) (I, 161, ()) ⟨hP, hD, hS, lv_sub hl [0] rfl, (show skI f1 (sX7_skip I f1) 161 I from ⟨rfl, by omega, ha, hs⟩)⟩ ?_
  intro x H locs ls hI ih
  obtain ⟨J, nn, ux⟩ := x
  obtain ⟨hP, hD, hS, hl, hp⟩ := hI
  have hP : va_P D vwCl [(h, .inr (7, (oX7 R J L))), ((R 1), .inl (cI, 160, .inl f1))] H := hP
  have hD : va_D A [(h, .inr (7, (oX7 R J L))), ((R 1), .inl (cI, 160, .inl f1))] := hD
  have hl : lv_has ls 1 [(0, .ref h)] := hl
  have hp : skI f1 (sX7_skip I f1) nn J := hp
  refine lv_aload_n hx hb dX7_skip_0 rfl (lv_at hl 0 rfl) ?_
  refine jx_pcalli (wc := [(h, .inr (7, (oX7 R J L))), ((R 1), .inl (cI, 160, .inl f1))]) hP hD hS hA [0, 1] rfl (by decide) (fun hPc hDc hF => jx_runVs (As := []) (rest := []) (n := 0) (ci := 7) (q0 := 0) hx hb hml hown hts hK hX hS hl.1 (kX7_see l D cI cJ cZ cD tA h R J L f1 hp.2.2.1 hp.2.2.2) gX7_skip_X7_see rfl rfl rfl (by decide +kernel) ⟨Nat.le_of_ble_eq_true rfl, Nat.le_of_ble_eq_true rfl⟩ rfl rfl rfl rfl rfl (Nat.le_of_ble_eq_true rfl) dX7_skip_1 ⟨Nat.zero_le _, Nat.zero_le _⟩ hPc hDc hF) (fun r_1 er_1 => ?_)
  have er_1 : r_1 = (sX7_see J f1) := er_1
  refine lv_bipush (v := 32) hx hb dX7_skip_4 (by decide) ?_
  refine lv_icmp_ne (tgt := 22) hx hb dX7_skip_6 (by decide) (fun c_2 => ?_) (fun c_2 => ?_)
  · skip
    have hq : (sX7_skip I f1) = J := (by clear hP hD hl; have z_ := er_1.symm; clear er_1; subst z_; exact skI_end hp c_2)
    exact jx_vret () hx hb hr hlocks hK hP hD hS (by rw [hq]) trivial dX7_skip_22
  · skip
    refine lv_aload_n hx hb dX7_skip_9 rfl (lv_at hl 0 rfl) ?_
    refine lv_dup hx hb dX7_skip_10 rfl ?_
    refine jx_get (v := .int (J 15)) hx hb hts iX7_skip_7 hown hK hP 0 rfl rfl 15 (by decide) hk86 rfl rfl dX7_skip_11 ?_
    refine lv_iconst (v := 1) hx hb dX7_skip_14 (by decide) ?_
    refine lv_iadd hx hb dX7_skip_15 ?_
    refine lv_topi (fun v_3 ev_3 => ?_)
    refine jx_put (w2 := [(h, .inr (7, (oX7 R (upd J 15 v_3) L))), ((R 1), .inl (cI, 160, .inl f1))]) hx hb hts iX7_skip_7 tyX7 tyX7_ok nmX7 hown hK hP hD hS 0 rfl rfl 15 (by decide) hk86 rfl rfl rfl rfl (Nat.le_of_ble_eq_true rfl) dX7_skip_16 rfl (fun H locs hP hD hS => ?_)
    refine lv_goto (tgt := 0) hx hb dX7_skip_19 (by decide) ?_
    exact ih ((upd J 15 v_3), nn - 1, ()) _ _ _ ⟨hP, hD, hS, lv_sub hl [0] rfl, (show skI f1 (sX7_skip I f1) (nn - 1) (upd J 15 v_3) from (by clear hP hD hl; have z_ := ev_3.symm; clear ev_3; subst z_; have z_ := er_1.symm; clear er_1; subst z_; exact (skI_step hp c_2).1))⟩ (show (nn - 1) < nn from (by clear hP hD hl; have z_ := ev_3.symm; clear ev_3; subst z_; have z_ := er_1.symm; clear er_1; subst z_; exact (skI_step hp c_2).2))

def b7 (w : Int64) (i : Int32) : Int64 := (w >>> (((8 : Int32) * i).toInt64 &&& 63)) &&& (255 : Int64)
def pc7F (w : Int64) (n : Int32) : Nat → Int32 → Int32
  | 0, _ => 1
  | m + 1, i => if n ≤ i then 1 else if b7 w i < 32 then 0 else if b7 w i ≤ 126 then pc7F w n m (i + 1) else 0
def pa7F (w : Int64) : Nat → Int32 → (Nat → Int32) → (Nat → Int32) → (Nat → Int32) × (Nat → Int32)
  | 0, _, I, f => (I, f)
  | m + 1, i, I, f => if i < 0 then (I, f) else pa7F w m (i + (-1)) (upd I 2 (I 2 + 1)) (upd f (I 2).toNatClampNeg (b7 w i).toInt32)
def sX7_type (I : Nat → Int32) (f1 : Nat → Int32) (a0 : Int64) (a1 : Int32) : Int32 × (Nat → Int32) × (Nat → Int32) :=
  if a1 < 1 then (0, upd I 0 0, f1) else if 8 < a1 then (0, upd I 0 0, f1) else if I 2 + a1 ≤ 160 then (if pc7F a0 a1 9 0 = 0 then (0, upd I 0 0, f1) else (1, pa7F a0 (a1.toNatClampNeg + 1) (a1 - 1) (upd I 0 0) f1)) else (0, upd I 0 0, f1)
def pc7I (w : Int64) (n : Int32) (kk : Nat) (ii : Int32) : Prop := ii = nI kk ∧ kk ≤ 8 ∧ pc7F w n (9 - kk) ii = pc7F w n 9 0
theorem pc7I_step {w : Int64} {n ii : Int32} {kk nn : Nat} (hn : n = nI nn) (hn2 : nn ≤ 8) (h : pc7I w n kk ii) (c1 : ¬ n ≤ ii) (c2 : ¬ b7 w ii < 32) (c3 : b7 w ii ≤ 126) : pc7I w n (kk + 1) (ii + 1) ∧ 9 - (kk + 1) < 9 - kk := by
  obtain ⟨h1, h2, h3⟩ := h
  have h4 : kk < 8 := by rw [h1, hn, nI_leI (by omega) (by omega)] at c1; omega
  refine ⟨⟨by rw [h1]; exact nI_1 kk, by omega, ?_⟩, by omega⟩
  rw [← h3, show 9 - kk = (9 - (kk + 1)) + 1 from by omega, pc7F, if_neg c1, if_neg c2, if_pos c3]
theorem pc7I_bad1 {w : Int64} {n ii : Int32} {kk : Nat} (h : pc7I w n kk ii) (c1 : ¬ n ≤ ii) (c2 : b7 w ii < 32) : pc7F w n 9 0 = 0 := by
  obtain ⟨h1, h2, h3⟩ := h
  rw [← h3, show 9 - kk = (8 - kk) + 1 from by omega, pc7F, if_neg c1, if_pos c2]
theorem pc7I_bad2 {w : Int64} {n ii : Int32} {kk : Nat} (h : pc7I w n kk ii) (c1 : ¬ n ≤ ii) (c2 : ¬ b7 w ii < 32) (c3 : ¬ b7 w ii ≤ 126) : pc7F w n 9 0 = 0 := by
  obtain ⟨h1, h2, h3⟩ := h
  rw [← h3, show 9 - kk = (8 - kk) + 1 from by omega, pc7F, if_neg c1, if_neg c2, if_neg c3]
theorem pc7I_end {w : Int64} {n ii : Int32} {kk : Nat} (h : pc7I w n kk ii) (c1 : n ≤ ii) : pc7F w n 9 0 = 1 := by
  obtain ⟨h1, h2, h3⟩ := h
  rw [← h3, show 9 - kk = (8 - kk) + 1 from by omega, pc7F, if_pos c1]
def pa7I (w : Int64) (Z : (Nat → Int32) × (Nat → Int32)) (mm : Nat) (jj : Int32) (J g : Nat → Int32) : Prop := jj = nI mm - 1 ∧ mm ≤ 8 ∧ pa7F w (mm + 1) jj J g = Z ∧ 0 ≤ (J 2).toInt ∧ (J 2).toInt + mm ≤ 160
theorem pa7I_in {w : Int64} {Z : (Nat → Int32) × (Nat → Int32)} {mm : Nat} {jj : Int32} {J g : Nat → Int32} (h : pa7I w Z mm jj J g) (c : ¬ jj < 0) : 1 ≤ mm ∧ vp_in (J 2) 160 := by
  obtain ⟨h1, h2, h3, h4, h5⟩ := h
  cases mm with
  | zero => exact absurd (by rw [h1]; decide) c
  | succ q => exact ⟨by omega, vp_in_iff.mpr ⟨h4, by omega⟩⟩
theorem pa7I_step {w : Int64} {Z : (Nat → Int32) × (Nat → Int32)} {mm : Nat} {jj : Int32} {J g : Nat → Int32} (h : pa7I w Z mm jj J g) (c : ¬ jj < 0) : pa7I w Z (mm - 1) (jj + (-1)) (upd J 2 (J 2 + 1)) (upd g (J 2).toNatClampNeg (b7 w jj).toInt32) ∧ mm - 1 < mm := by
  have h6 := (pa7I_in h c).1
  obtain ⟨h1, h2, h3, h4, h5⟩ := h
  obtain ⟨q, rfl⟩ : ∃ q, mm = q + 1 := ⟨mm - 1, by omega⟩
  have h7 := toInt_inc (x := J 2) (b := 160) (by omega) (by omega)
  refine ⟨⟨?_, by omega, ?_, ?_, ?_⟩, by omega⟩
  · rw [h1, nI_pred, Nat.add_sub_cancel]; exact (Int32.sub_eq_add_neg _ _).symm
  · rw [← h3, Nat.add_sub_cancel, pa7F.eq_def w (q + 1 + 1)]
    simp only [if_neg c]
  · rw [pk_us, h7]; omega
  · rw [pk_us, h7, Nat.add_sub_cancel]; omega
theorem pa7I_end {w : Int64} {Z : (Nat → Int32) × (Nat → Int32)} {mm : Nat} {jj : Int32} {J g : Nat → Int32} (h : pa7I w Z mm jj J g) (c : jj < 0) : Z = (J, g) := by
  obtain ⟨h1, h2, h3, -⟩ := h
  rw [← h3, pa7F, if_pos c]
theorem ty_sum {x : Int32} {nn : Nat} (h0 : 0 ≤ x.toInt) (hs : x.toInt ≤ 160) (hn : nn ≤ 8) (h : x + nI nn ≤ 160) : x.toInt + nn ≤ 160 := by
  rw [Int32.le_iff_toInt_le, Int32.toInt_add, nI_toInt (by omega), jx_bm32 (by omega) (by omega), show (160 : Int32).toInt = 160 from rfl] at h
  exact h
set_option maxRecDepth 20000 in
theorem iX7_type_7 : ∀ w ∈ wsX70, w ∈ wsX7_type := by decide +kernel
set_option maxHeartbeats 4000000 in
set_option maxRecDepth 100000 in
theorem kX7_type (l : Launch) (D : va_G) (cI cJ cZ cD : ClassId) (tA : Nat) (h : Nat) (R : Nat → Nat) (I : Nat → Int32) (L : Nat → Int64) (f1 : Nat → Int32) (a0 : Int64) (a1 : Int32) (ht : 0 ≤ (I 2).toInt) (hs : (I 2).toInt ≤ 160) : jx_M l yX7_type wsX7_type ({ frames := 0, cells := 0, slots := 0, locals := 0 }) D (jT cI cJ cZ cD) tA [.ref h, .long a0, .int a1] [(h, .inr (7, (oX7 R I L))), ((R 1), .inl (cI, 160, .inl f1))] (jx_Qi D (jT cI cJ cZ cD) (fun r (_ : Unit) => r = (sX7_type I f1 a0 a1).1) (fun _ => [(h, .inr (7, (oX7 R (sX7_type I f1 a0 a1).2.1 L))), ((R 1), .inl (cI, 160, .inl ((sX7_type I f1 a0 a1).2.2)))])) := by
  refine jx_of (cc := cX7_type) (maxL := 7) (ret := (some .boolean)) (by decide +kernel) rfl (Nat.le_of_ble_eq_true rfl) ?_
  intro p e s m below meth c A ls hx hb hr hlocks hml hown hts hK hP hD hA hS hX hl
  have hl : lv_has ls 7 [(0, .ref h), (1, .long a0), (3, .int a1)] := hl
  have hown : s.vm.findClass RX7 = some m.cls := hown
  have hk7 := hts (.fieldLink RX7 7 "LoomDeskModel" "tape" "[I") (by decide +kernel)
  have hk74 := hts (.fieldLink RX7 74 "LoomDeskModel" "thrown" "I") (by decide +kernel)
  have hk77 := hts (.fieldLink RX7 77 "LoomDeskModel" "typed" "I") (by decide +kernel)
  refine lv_aload_n hx hb dX7_type_0 rfl (lv_at hl 0 rfl) ?_
  refine lv_iconst (v := 0) hx hb dX7_type_1 (by decide) ?_
  refine jx_put (w2 := [(h, .inr (7, (oX7 R (upd I 0 (0 : Int32)) L))), ((R 1), .inl (cI, 160, .inl f1))]) hx hb hts iX7_type_7 tyX7 tyX7_ok nmX7 hown hK hP hD hS 0 rfl rfl 0 (by decide) hk74 rfl rfl rfl rfl (Nat.le_of_ble_eq_true rfl) dX7_type_2 rfl (fun H locs hP hD hS => ?_)
  refine lv_iload_n hx hb dX7_type_5 rfl (lv_at hl 2 rfl) ?_
  refine lv_iconst (v := 1) hx hb dX7_type_6 (by decide) ?_
  refine lv_icmp_lt (tgt := 28) hx hb dX7_type_7 (by decide) (fun c_1 => ?_) (fun c_1 => ?_)
  · skip
    refine lv_iconst (v := 0) hx hb dX7_type_28 (by decide) ?_
    have hq : (sX7_type I f1 a0 a1) = ((0 : Int32), (upd I 0 (0 : Int32)), f1) := (by rw [sX7_type, if_pos c_1])
    exact jx_zret () hx hb hr hlocks hK hP hD hS (by rw [hq]) (by rw [hq]) (Or.inl rfl) dX7_type_29
  · skip
    refine lv_iload_n hx hb dX7_type_10 rfl (lv_at hl 2 rfl) ?_
    refine lv_bipush (v := 8) hx hb dX7_type_11 (by decide) ?_
    refine lv_icmp_gt (tgt := 28) hx hb dX7_type_13 (by decide) (fun c_2 => ?_) (fun c_2 => ?_)
    · skip
      refine lv_iconst (v := 0) hx hb dX7_type_28 (by decide) ?_
      have hq : (sX7_type I f1 a0 a1) = ((0 : Int32), (upd I 0 (0 : Int32)), f1) := (by rw [sX7_type, if_neg c_1, if_pos c_2])
      exact jx_zret () hx hb hr hlocks hK hP hD hS (by rw [hq]) (by rw [hq]) (Or.inl rfl) dX7_type_29
    · skip
      refine lv_aload_n hx hb dX7_type_16 rfl (lv_at hl 0 rfl) ?_
      refine jx_get (v := .int (I 2)) hx hb hts iX7_type_7 hown hK hP 0 rfl rfl 2 (by decide) hk77 rfl rfl dX7_type_17 ?_
      refine lv_iload_n hx hb dX7_type_20 rfl (lv_at hl 2 rfl) ?_
      refine lv_iadd hx hb dX7_type_21 ?_
      refine lv_sipush (v := 160) hx hb dX7_type_22 (by decide) ?_
      refine lv_icmp_le (tgt := 30) hx hb dX7_type_25 (by decide) (fun c_3 => ?_) (fun c_3 => ?_)
      · skip
        obtain ⟨nn, hn1, hn2, hn⟩ : ∃ n : Nat, 1 ≤ n ∧ n ≤ 8 ∧ a1 = nI n := jx_natR (by have z := c_1; rw [Int32.lt_iff_toInt_lt] at z; have : (1 : Int32).toInt = 1 := rfl; omega) (by have z := c_2; rw [Int32.lt_iff_toInt_lt] at z; have : (8 : Int32).toInt = 8 := rfl; omega)
        have hsum : (I 2).toInt + nn ≤ 160 := ty_sum ht hs hn2 (by have z := c_3; rw [hn] at z; exact z)
        refine lv_iconst (v := 0) hx hb dX7_type_30 (by decide) ?_
        refine lv_istore (lv' := [(4, .int (0 : Int32)), (0, .ref h), (1, .long a0), (3, .int a1)]) hx hb dX7_type_31 hl (by decide) rfl (fun ls hl => ?_)
        refine jx_loop (σ := (Int32) × (Nat) × (Unit)) (fun x H locs ls => va_P D vwCl [(h, .inr (7, (oX7 R (upd I 0 (0 : Int32)) L))), ((R 1), .inl (cI, 160, .inl f1))] H ∧ va_D A [(h, .inr (7, (oX7 R (upd I 0 (0 : Int32)) L))), ((R 1), .inl (cI, 160, .inl f1))] ∧ va_S A s.heap H locs ∧ lv_has ls 7 [(0, .ref h), (1, .long a0), (3, .int a1), (4, .int x.1)] ∧ (pc7I a0 a1 x.2.1 x.1)) (fun x => 9 - x.2.1) ((0 : Int32), 0, ()) ⟨hP, hD, hS, lv_sub hl [1, 2, 3, 0] rfl, (show pc7I a0 a1 0 (0 : Int32) from ⟨rfl, by omega, rfl⟩)⟩ ?_
        intro x H locs ls hI ih
        obtain ⟨ii, kk, ux⟩ := x
        obtain ⟨hP, hD, hS, hl, hp⟩ := hI
        have hP : va_P D vwCl [(h, .inr (7, (oX7 R (upd I 0 (0 : Int32)) L))), ((R 1), .inl (cI, 160, .inl f1))] H := hP
        have hD : va_D A [(h, .inr (7, (oX7 R (upd I 0 (0 : Int32)) L))), ((R 1), .inl (cI, 160, .inl f1))] := hD
        have hl : lv_has ls 7 [(0, .ref h), (1, .long a0), (3, .int a1), (4, .int ii)] := hl
        have hp : pc7I a0 a1 kk ii := hp
        refine lv_iload hx hb dX7_type_33 (lv_at hl 3 rfl) ?_
        refine lv_iload_n hx hb dX7_type_35 rfl (lv_at hl 2 rfl) ?_
        refine lv_icmp_ge (tgt := 78) hx hb dX7_type_36 (by decide) (fun c_4 => ?_) (fun c_4 => ?_)
        · skip
          have hok : pc7F a0 a1 9 0 = 1 := pc7I_end hp c_4
          refine lv_iload_n hx hb dX7_type_78 rfl (lv_at hl 2 rfl) ?_
          refine lv_iconst (v := 1) hx hb dX7_type_79 (by decide) ?_
          refine lv_isub hx hb dX7_type_80 ?_
          refine lv_topi (fun v_5 ev_5 => ?_)
          refine lv_istore (lv' := [(4, .int v_5), (0, .ref h), (1, .long a0), (3, .int a1)]) hx hb dX7_type_81 hl (by decide) rfl (fun ls hl => ?_)
          refine jx_loop (σ := (Int32) × ((Nat → Int32)) × ((Nat → Int32)) × (Nat) × (Unit)) (fun x H locs ls => va_P D vwCl [(h, .inr (7, (oX7 R x.2.1 L))), ((R 1), .inl (cI, 160, .inl x.2.2.1))] H ∧ va_D A [(h, .inr (7, (oX7 R x.2.1 L))), ((R 1), .inl (cI, 160, .inl x.2.2.1))] ∧ va_S A s.heap H locs ∧ lv_has ls 7 [(0, .ref h), (1, .long a0), (3, .int a1), (4, .int x.1)] ∧ (pa7I a0 (pa7F a0 (a1.toNatClampNeg + 1) (a1 - 1) (upd I 0 0) f1) x.2.2.2.1 x.1 x.2.1 x.2.2.1)) (fun x => x.2.2.2.1) (v_5, (upd I 0 (0 : Int32)), f1, nn, ()) ⟨hP, hD, hS, lv_sub hl [1, 2, 3, 0] rfl, (show pa7I a0 (pa7F a0 (a1.toNatClampNeg + 1) (a1 - 1) (upd I 0 0) f1) nn v_5 (upd I 0 (0 : Int32)) f1 from (by clear hP hD hl; have z_ := ev_5.symm; clear ev_5; subst z_; exact ⟨by rw [hn], hn2, by rw [hn, nI_clamp (by omega)], ht, hsum⟩))⟩ ?_
          intro x H locs ls hI ih
          obtain ⟨jj, J, g, mm, ux⟩ := x
          obtain ⟨hP, hD, hS, hl, hp⟩ := hI
          have hP : va_P D vwCl [(h, .inr (7, (oX7 R J L))), ((R 1), .inl (cI, 160, .inl g))] H := hP
          have hD : va_D A [(h, .inr (7, (oX7 R J L))), ((R 1), .inl (cI, 160, .inl g))] := hD
          have hl : lv_has ls 7 [(0, .ref h), (1, .long a0), (3, .int a1), (4, .int jj)] := hl
          have hp : pa7I a0 (pa7F a0 (a1.toNatClampNeg + 1) (a1 - 1) (upd I 0 0) f1) mm jj J g := hp
          refine lv_iload hx hb dX7_type_83 (lv_at hl 3 rfl) ?_
          refine lv_if_lt (tgt := 125) hx hb dX7_type_85 (by decide) (fun c_6 => ?_) (fun c_6 => ?_)
          · skip
            refine lv_iconst (v := 1) hx hb dX7_type_125 (by decide) ?_
            have hq : (sX7_type I f1 a0 a1) = ((1 : Int32), J, g) := (by rw [sX7_type, if_neg c_1, if_neg c_2, if_pos c_3]; rw [hok, if_neg (by decide), pa7I_end hp c_6])
            exact jx_zret () hx hb hr hlocks hK hP hD hS (by rw [hq]) (by rw [hq]) (Or.inr rfl) dX7_type_126
          · skip
            refine lv_aload_n hx hb dX7_type_88 rfl (lv_at hl 0 rfl) ?_
            refine jx_get (v := .ref (R 1)) hx hb hts iX7_type_7 hown hK hP 0 rfl rfl 1 (by decide) hk7 rfl rfl dX7_type_89 ?_
            refine lv_aload_n hx hb dX7_type_92 rfl (lv_at hl 0 rfl) ?_
            refine jx_get (v := .int (J 2)) hx hb hts iX7_type_7 hown hK hP 0 rfl rfl 2 (by decide) hk77 rfl rfl dX7_type_93 ?_
            refine lv_lload_n hx hb dX7_type_96 rfl (lv_at hl 1 rfl) ?_
            refine lv_bipush (v := 8) hx hb dX7_type_97 (by decide) ?_
            refine lv_iload hx hb dX7_type_99 (lv_at hl 3 rfl) ?_
            refine lv_imul hx hb dX7_type_101 ?_
            refine lv_lshr hx hb dX7_type_102 rfl ?_
            refine lv_ldc2 hx hb hown (hts (.constantLong RX7 80 (255)) (by decide +kernel)) dX7_type_103 ?_
            refine lv_land hx hb dX7_type_106 ?_
            refine lv_l2i hx hb dX7_type_107 rfl ?_
            refine lv_topi (fun v_7 ev_7 => ?_)
            refine jx_iast (w2 := [(h, .inr (7, (oX7 R J L))), ((R 1), .inl (cI, 160, .inl (upd g (J 2).toNatClampNeg v_7)))]) hx hb hK hP hD hS 1 0 rfl rfl (pa7I_in hp c_6).2 dX7_type_108 rfl (fun H locs hP hD hS => ?_)
            refine lv_aload_n hx hb dX7_type_109 rfl (lv_at hl 0 rfl) ?_
            refine lv_dup hx hb dX7_type_110 rfl ?_
            refine jx_get (v := .int (J 2)) hx hb hts iX7_type_7 hown hK hP 0 rfl rfl 2 (by decide) hk77 rfl rfl dX7_type_111 ?_
            refine lv_iconst (v := 1) hx hb dX7_type_114 (by decide) ?_
            refine lv_iadd hx hb dX7_type_115 ?_
            refine lv_topi (fun v_8 ev_8 => ?_)
            refine jx_put (w2 := [(h, .inr (7, (oX7 R (upd J 2 v_8) L))), ((R 1), .inl (cI, 160, .inl (upd g (J 2).toNatClampNeg v_7)))]) hx hb hts iX7_type_7 tyX7 tyX7_ok nmX7 hown hK hP hD hS 0 rfl rfl 2 (by decide) hk77 rfl rfl rfl rfl (Nat.le_of_ble_eq_true rfl) dX7_type_116 rfl (fun H locs hP hD hS => ?_)
            obtain ⟨v_9, ev_9⟩ : ∃ y : Int32, y = jj + (-1 : Int32) := ⟨_, rfl⟩
            refine lv_iinc (v := v_9) (lv' := [(4, .int v_9), (0, .ref h), (1, .long a0), (3, .int a1)]) hx hb dX7_type_119 hl (k := 3) rfl (by rw [ev_9]; rfl) (by decide) rfl (fun ls hl => ?_)
            refine lv_goto (tgt := 83) hx hb dX7_type_122 (by decide) ?_
            exact ih (v_9, (upd J 2 v_8), (upd g (J 2).toNatClampNeg v_7), mm - 1, ()) _ _ _ ⟨hP, hD, hS, lv_sub hl [1, 2, 3, 0] rfl, (show pa7I a0 (pa7F a0 (a1.toNatClampNeg + 1) (a1 - 1) (upd I 0 0) f1) (mm - 1) v_9 (upd J 2 v_8) (upd g (J 2).toNatClampNeg v_7) from (by clear hP hD hl; have z_ := ev_9.symm; clear ev_9; subst z_; have z_ := ev_8.symm; clear ev_8; subst z_; have z_ := ev_7.symm; clear ev_7; subst z_; have z_ := ev_5.symm; clear ev_5; subst z_; exact (pa7I_step hp c_6).1))⟩ (show (mm - 1) < mm from (by clear hP hD hl; have z_ := ev_9.symm; clear ev_9; subst z_; have z_ := ev_8.symm; clear ev_8; subst z_; have z_ := ev_7.symm; clear ev_7; subst z_; have z_ := ev_5.symm; clear ev_5; subst z_; exact (pa7I_step hp c_6).2))
        · skip
          refine lv_lload_n hx hb dX7_type_39 rfl (lv_at hl 1 rfl) ?_
          refine lv_bipush (v := 8) hx hb dX7_type_40 (by decide) ?_
          refine lv_iload hx hb dX7_type_42 (lv_at hl 3 rfl) ?_
          refine lv_imul hx hb dX7_type_44 ?_
          refine lv_lshr hx hb dX7_type_45 rfl ?_
          refine lv_ldc2 hx hb hown (hts (.constantLong RX7 80 (255)) (by decide +kernel)) dX7_type_46 ?_
          refine lv_land hx hb dX7_type_49 ?_
          refine lv_topl (fun v_10 ev_10 => ?_)
          refine lv_lstore (lv' := [(5, .long v_10), (0, .ref h), (1, .long a0), (3, .int a1), (4, .int ii)]) hx hb dX7_type_50 hl (by decide) rfl (fun ls hl => ?_)
          refine lv_lload hx hb dX7_type_52 (lv_at hl 0 rfl) ?_
          refine lv_ldc2 hx hb hown (hts (.constantLong RX7 82 (32)) (by decide +kernel)) dX7_type_54 ?_
          refine jx_l_lt (tgt := 70) hx hb dX7_type_57 dX7_type_58 (by decide) (fun c_11 => ?_) (fun c_11 => ?_)
          · skip
            refine lv_iconst (v := 0) hx hb dX7_type_70 (by decide) ?_
            have hq : (sX7_type I f1 a0 a1) = ((0 : Int32), (upd I 0 (0 : Int32)), f1) := (by clear hP hD hl; have z_ := ev_10.symm; clear ev_10; subst z_; have h9 := pc7I_bad1 hp c_4 c_11; rw [sX7_type, if_neg c_1, if_neg c_2, if_pos c_3]; rw [if_pos h9])
            exact jx_zret () hx hb hr hlocks hK hP hD hS (by rw [hq]) (by rw [hq]) (Or.inl rfl) dX7_type_71
          · skip
            refine lv_lload hx hb dX7_type_61 (lv_at hl 0 rfl) ?_
            refine lv_ldc2 hx hb hown (hts (.constantLong RX7 84 (126)) (by decide +kernel)) dX7_type_63 ?_
            refine jx_l_le (tgt := 72) hx hb dX7_type_66 dX7_type_67 (by decide) (fun c_12 => ?_) (fun c_12 => ?_)
            · skip
              obtain ⟨v_13, ev_13⟩ : ∃ y : Int32, y = ii + (1 : Int32) := ⟨_, rfl⟩
              refine lv_iinc (v := v_13) (lv' := [(4, .int v_13), (5, .long v_10), (0, .ref h), (1, .long a0), (3, .int a1)]) hx hb dX7_type_72 hl (k := 4) rfl (by rw [ev_13]; rfl) (by decide) rfl (fun ls hl => ?_)
              refine lv_goto (tgt := 33) hx hb dX7_type_75 (by decide) ?_
              exact ih (v_13, kk + 1, ()) _ _ _ ⟨hP, hD, hS, lv_sub hl [2, 3, 4, 0] rfl, (show pc7I a0 a1 (kk + 1) v_13 from (by clear hP hD hl; have z_ := ev_13.symm; clear ev_13; subst z_; have z_ := ev_10.symm; clear ev_10; subst z_; exact (pc7I_step hn hn2 hp c_4 c_11 c_12).1))⟩ (show 9 - (kk + 1) < 9 - kk from (by clear hP hD hl; have z_ := ev_13.symm; clear ev_13; subst z_; have z_ := ev_10.symm; clear ev_10; subst z_; exact (pc7I_step hn hn2 hp c_4 c_11 c_12).2))
            · skip
              refine lv_iconst (v := 0) hx hb dX7_type_70 (by decide) ?_
              have hq : (sX7_type I f1 a0 a1) = ((0 : Int32), (upd I 0 (0 : Int32)), f1) := (by clear hP hD hl; have z_ := ev_10.symm; clear ev_10; subst z_; have h9 := pc7I_bad2 hp c_4 c_11 c_12; rw [sX7_type, if_neg c_1, if_neg c_2, if_pos c_3]; rw [if_pos h9])
              exact jx_zret () hx hb hr hlocks hK hP hD hS (by rw [hq]) (by rw [hq]) (Or.inl rfl) dX7_type_71
      · skip
        refine lv_iconst (v := 0) hx hb dX7_type_28 (by decide) ?_
        have hq : (sX7_type I f1 a0 a1) = ((0 : Int32), (upd I 0 (0 : Int32)), f1) := (by rw [sX7_type, if_neg c_1, if_neg c_2, if_neg c_3])
        exact jx_zret () hx hb hr hlocks hK hP hD hS (by rw [hq]) (by rw [hq]) (Or.inl rfl) dX7_type_29

