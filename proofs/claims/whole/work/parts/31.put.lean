theorem jx_nat {x : Int32} (h : 0 ≤ x.toInt) : x = nI x.toInt.toNat := by
  apply Int32.toInt_inj.mp
  obtain ⟨a, b⟩ := jx_rg32 x
  rw [nI_toInt (by omega)]; omega
theorem jx_natR {x : Int32} {a b : Nat} (h1 : (a : Int) ≤ x.toInt) (h2 : x.toInt ≤ b) : ∃ n : Nat, a ≤ n ∧ n ≤ b ∧ x = nI n := ⟨x.toInt.toNat, by omega, by omega, jx_nat (by omega)⟩
theorem nI_m1 {n : Nat} (h : n < 2 ^ 31) : (nI n - 1).toInt = (n : Int) - 1 := by
  rw [Int32.toInt_sub, nI_toInt h, show (1 : Int32).toInt = 1 from rfl]
  exact jx_bm32 (by omega) (by omega)
/-- are all n bytes characters? 1 or 0 -/
def pcF (w : Int64) (n : Int32) : Nat → Int32 → Int32
  | 0, _ => 1
  | m + 1, i => if n ≤ i then 1 else if sX5_byteOf w i < 32 then 0 else if sX5_byteOf w i ≤ 126 then pcF w n m (i + 1) else 0
/-- the bytes go to the tape, the highest first -/
def paF (w : Int64) : Nat → Int32 → (Nat → Int32) → (Nat → Int32) → (Nat → Int32) × (Nat → Int32)
  | 0, _, I, f => (I, f)
  | m + 1, i, I, f => if i < 0 then (I, f) else paF w m (i + (-1)) (sX5_add I f (sX5_byteOf w i)).1 (sX5_add I f (sX5_byteOf w i)).2
def sX5_put (I : Nat → Int32) (f0 : Nat → Int32) (a0 : Int64) (a1 : Int32) : Int32 × (Nat → Int32) × (Nat → Int32) :=
  if a1 < 1 then (0, I, f0) else if 8 < a1 then (0, I, f0) else if I 1 + a1 ≤ 160 then (if pcF a0 a1 9 0 = 0 then (0, I, f0) else (1, paF a0 (a1.toNatClampNeg + 1) (a1 - 1) I f0)) else (0, I, f0)
def pcI (w : Int64) (n : Int32) (kk : Nat) (ii : Int32) : Prop := ii = nI kk ∧ kk ≤ 8 ∧ pcF w n (9 - kk) ii = pcF w n 9 0
theorem pcI_step {w : Int64} {n ii : Int32} {kk nn : Nat} (hn : n = nI nn) (hn2 : nn ≤ 8) (h : pcI w n kk ii) (c1 : ¬ n ≤ ii) (c2 : ¬ sX5_byteOf w ii < 32) (c3 : sX5_byteOf w ii ≤ 126) : pcI w n (kk + 1) (ii + 1) ∧ 9 - (kk + 1) < 9 - kk := by
  obtain ⟨h1, h2, h3⟩ := h
  have h4 : kk < 8 := by rw [h1, hn, nI_leI (by omega) (by omega)] at c1; omega
  refine ⟨⟨by rw [h1]; exact nI_1 kk, by omega, ?_⟩, by omega⟩
  rw [← h3, show 9 - kk = (9 - (kk + 1)) + 1 from by omega, pcF, if_neg c1, if_neg c2, if_pos c3]
theorem pcI_bad1 {w : Int64} {n ii : Int32} {kk : Nat} (h : pcI w n kk ii) (c1 : ¬ n ≤ ii) (c2 : sX5_byteOf w ii < 32) : pcF w n 9 0 = 0 := by
  obtain ⟨h1, h2, h3⟩ := h
  rw [← h3, show 9 - kk = (8 - kk) + 1 from by omega, pcF, if_neg c1, if_pos c2]
theorem pcI_bad2 {w : Int64} {n ii : Int32} {kk : Nat} (h : pcI w n kk ii) (c1 : ¬ n ≤ ii) (c2 : ¬ sX5_byteOf w ii < 32) (c3 : ¬ sX5_byteOf w ii ≤ 126) : pcF w n 9 0 = 0 := by
  obtain ⟨h1, h2, h3⟩ := h
  rw [← h3, show 9 - kk = (8 - kk) + 1 from by omega, pcF, if_neg c1, if_neg c2, if_neg c3]
theorem pcI_end {w : Int64} {n ii : Int32} {kk : Nat} (h : pcI w n kk ii) (c1 : n ≤ ii) : pcF w n 9 0 = 1 := by
  obtain ⟨h1, h2, h3⟩ := h
  rw [← h3, show 9 - kk = (8 - kk) + 1 from by omega, pcF, if_pos c1]
def paI (w : Int64) (a1 : Int32) (I f0 : Nat → Int32) (mm : Nat) (jj : Int32) (J g : Nat → Int32) : Prop := jj = nI mm - 1 ∧ mm ≤ 8 ∧ paF w (mm + 1) jj J g = paF w (a1.toNatClampNeg + 1) (a1 - 1) I f0
theorem paI_step {w : Int64} {a1 : Int32} {I f0 : Nat → Int32} {mm : Nat} {jj : Int32} {J g : Nat → Int32} (h : paI w a1 I f0 mm jj J g) (c : ¬ jj < 0) : paI w a1 I f0 (mm - 1) (jj + (-1)) (sX5_add J g (sX5_byteOf w jj)).1 (sX5_add J g (sX5_byteOf w jj)).2 ∧ mm - 1 < mm := by
  obtain ⟨h1, h2, h3⟩ := h
  cases mm with
  | zero => exact absurd (by rw [h1]; decide) c
  | succ q =>
    refine ⟨⟨?_, by omega, ?_⟩, by omega⟩
    · rw [h1, nI_pred, Nat.add_sub_cancel]; exact (Int32.sub_eq_add_neg _ _).symm
    · rw [← h3, Nat.add_sub_cancel, paF.eq_def w (q + 1 + 1)]
      simp only [if_neg c]
theorem paI_end {w : Int64} {a1 : Int32} {I f0 : Nat → Int32} {mm : Nat} {jj : Int32} {J g : Nat → Int32} (h : paI w a1 I f0 mm jj J g) (c : jj < 0) : paF w (a1.toNatClampNeg + 1) (a1 - 1) I f0 = (J, g) := by
  obtain ⟨h1, h2, h3⟩ := h
  rw [← h3, paF, if_pos c]
set_option maxRecDepth 20000 in
theorem iX5_put_5 : ∀ w ∈ wsX50, w ∈ wsX5_put := by decide +kernel
set_option maxHeartbeats 4000000 in
set_option maxRecDepth 100000 in
theorem kX5_put (l : Launch) (D : va_G) (cI cJ cZ cD : ClassId) (tA : Nat) (h : Nat) (R : Nat → Nat) (I : Nat → Int32) (L : Nat → Int64) (f0 : Nat → Int32) (a0 : Int64) (a1 : Int32) : jx_M l yX5_put wsX5_put ({ frames := 1, cells := 0, slots := 0, locals := 22 }) D (jT cI cJ cZ cD) tA [.ref h, .long a0, .int a1] [(h, .inr (5, (oX5 R I L))), ((R 0), .inl (cI, 160, .inl f0))] (jx_Qi D (jT cI cJ cZ cD) (fun r (_ : Unit) => r = (sX5_put I f0 a0 a1).1) (fun _ => [(h, .inr (5, (oX5 R (sX5_put I f0 a0 a1).2.1 L))), ((R 0), .inl (cI, 160, .inl ((sX5_put I f0 a0 a1).2.2)))])) := by
  refine jx_of (cc := cX5_put) (maxL := 6) (ret := (some .boolean)) (by decide +kernel) rfl (Nat.le_of_ble_eq_true rfl) ?_
  intro p e s m below meth c A ls hx hb hr hlocks hml hown hts hK hP hD hA hS hX hl
  have hl : lv_has ls 6 [(0, .ref h), (1, .long a0), (3, .int a1)] := hl
  have hown : s.vm.findClass RX5 = some m.cls := hown
  have hk15 := hts (.fieldLink RX5 15 "LoomDesk$Tape" "size" "I") (by decide +kernel)
  refine lv_iload_n hx hb dX5_put_0 rfl (lv_at hl 2 rfl) ?_
  refine lv_iconst (v := 1) hx hb dX5_put_1 (by decide) ?_
  refine lv_icmp_lt (tgt := 23) hx hb dX5_put_2 (by decide) (fun c_1 => ?_) (fun c_1 => ?_)
  · skip
    refine lv_iconst (v := 0) hx hb dX5_put_23 (by decide) ?_
    have hq : (sX5_put I f0 a0 a1) = ((0 : Int32), I, f0) := (by rw [sX5_put, if_pos c_1])
    exact jx_zret () hx hb hr hlocks hK hP hD hS (by rw [hq]) (by rw [hq]) (Or.inl rfl) dX5_put_24
  · skip
    refine lv_iload_n hx hb dX5_put_5 rfl (lv_at hl 2 rfl) ?_
    refine lv_bipush (v := 8) hx hb dX5_put_6 (by decide) ?_
    refine lv_icmp_gt (tgt := 23) hx hb dX5_put_8 (by decide) (fun c_2 => ?_) (fun c_2 => ?_)
    · skip
      refine lv_iconst (v := 0) hx hb dX5_put_23 (by decide) ?_
      have hq : (sX5_put I f0 a0 a1) = ((0 : Int32), I, f0) := (by rw [sX5_put, if_neg c_1, if_pos c_2])
      exact jx_zret () hx hb hr hlocks hK hP hD hS (by rw [hq]) (by rw [hq]) (Or.inl rfl) dX5_put_24
    · skip
      refine lv_aload_n hx hb dX5_put_11 rfl (lv_at hl 0 rfl) ?_
      refine jx_get (v := .int (I 1)) hx hb hts iX5_put_5 hown hK hP 0 rfl rfl 1 (by decide) hk15 rfl rfl dX5_put_12 ?_
      refine lv_iload_n hx hb dX5_put_15 rfl (lv_at hl 2 rfl) ?_
      refine lv_iadd hx hb dX5_put_16 ?_
      refine lv_sipush (v := 160) hx hb dX5_put_17 (by decide) ?_
      refine lv_icmp_le (tgt := 25) hx hb dX5_put_20 (by decide) (fun c_3 => ?_) (fun c_3 => ?_)
      · skip
        obtain ⟨nn, hn1, hn2, hn⟩ : ∃ n : Nat, 1 ≤ n ∧ n ≤ 8 ∧ a1 = nI n := jx_natR (by have z := c_1; rw [Int32.lt_iff_toInt_lt] at z; have : (1 : Int32).toInt = 1 := rfl; omega) (by have z := c_2; rw [Int32.lt_iff_toInt_lt] at z; have : (8 : Int32).toInt = 8 := rfl; omega)
        refine lv_iconst (v := 0) hx hb dX5_put_25 (by decide) ?_
        refine lv_istore (lv' := [(4, .int (0 : Int32)), (0, .ref h), (1, .long a0), (3, .int a1)]) hx hb dX5_put_26 hl (by decide) rfl (fun ls hl => ?_)
        refine jx_loop (σ := (Int32) × (Nat) × (Unit)) (fun x H locs ls => va_P D vwCl [(h, .inr (5, (oX5 R I L))), ((R 0), .inl (cI, 160, .inl f0))] H ∧ va_D A [(h, .inr (5, (oX5 R I L))), ((R 0), .inl (cI, 160, .inl f0))] ∧ va_S A s.heap H locs ∧ lv_has ls 6 [(0, .ref h), (1, .long a0), (3, .int a1), (4, .int x.1)] ∧ (pcI a0 a1 x.2.1 x.1)) (fun x => 9 - x.2.1) ((0 : Int32), 0, ()) ⟨hP, hD, hS, lv_sub hl [1, 2, 3, 0] rfl, (show pcI a0 a1 0 (0 : Int32) from ⟨rfl, by omega, rfl⟩)⟩ ?_
        intro x H locs ls hI ih
        obtain ⟨ii, kk, ux⟩ := x
        obtain ⟨hP, hD, hS, hl, hp⟩ := hI
        have hP : va_P D vwCl [(h, .inr (5, (oX5 R I L))), ((R 0), .inl (cI, 160, .inl f0))] H := hP
        have hD : va_D A [(h, .inr (5, (oX5 R I L))), ((R 0), .inl (cI, 160, .inl f0))] := hD
        have hl : lv_has ls 6 [(0, .ref h), (1, .long a0), (3, .int a1), (4, .int ii)] := hl
        have hp : pcI a0 a1 kk ii := hp
        refine lv_iload hx hb dX5_put_28 (lv_at hl 3 rfl) ?_
        refine lv_iload_n hx hb dX5_put_30 rfl (lv_at hl 2 rfl) ?_
        refine lv_icmp_ge (tgt := 64) hx hb dX5_put_31 (by decide) (fun c_4 => ?_) (fun c_4 => ?_)
        · skip
          have hok : pcF a0 a1 9 0 = 1 := pcI_end hp c_4
          refine lv_iload_n hx hb dX5_put_64 rfl (lv_at hl 2 rfl) ?_
          refine lv_iconst (v := 1) hx hb dX5_put_65 (by decide) ?_
          refine lv_isub hx hb dX5_put_66 ?_
          refine lv_topi (fun v_5 ev_5 => ?_)
          refine lv_istore (lv' := [(4, .int v_5), (0, .ref h), (1, .long a0), (3, .int a1)]) hx hb dX5_put_67 hl (by decide) rfl (fun ls hl => ?_)
          refine jx_loop (σ := (Int32) × ((Nat → Int32)) × ((Nat → Int32)) × (Nat) × (Unit)) (fun x H locs ls => va_P D vwCl [(h, .inr (5, (oX5 R x.2.1 L))), ((R 0), .inl (cI, 160, .inl x.2.2.1))] H ∧ va_D A [(h, .inr (5, (oX5 R x.2.1 L))), ((R 0), .inl (cI, 160, .inl x.2.2.1))] ∧ va_S A s.heap H locs ∧ lv_has ls 6 [(0, .ref h), (1, .long a0), (3, .int a1), (4, .int x.1)] ∧ (paI a0 a1 I f0 x.2.2.2.1 x.1 x.2.1 x.2.2.1)) (fun x => x.2.2.2.1) (v_5, I, f0, nn, ()) ⟨hP, hD, hS, lv_sub hl [1, 2, 3, 0] rfl, (show paI a0 a1 I f0 nn v_5 I f0 from (by clear hP hD hl; have z_ := ev_5.symm; clear ev_5; subst z_; exact ⟨by rw [hn], hn2, by rw [hn, nI_clamp (by omega)]⟩))⟩ ?_
          intro x H locs ls hI ih
          obtain ⟨jj, J, g, mm, ux⟩ := x
          obtain ⟨hP, hD, hS, hl, hp⟩ := hI
          have hP : va_P D vwCl [(h, .inr (5, (oX5 R J L))), ((R 0), .inl (cI, 160, .inl g))] H := hP
          have hD : va_D A [(h, .inr (5, (oX5 R J L))), ((R 0), .inl (cI, 160, .inl g))] := hD
          have hl : lv_has ls 6 [(0, .ref h), (1, .long a0), (3, .int a1), (4, .int jj)] := hl
          have hp : paI a0 a1 I f0 mm jj J g := hp
          refine lv_iload hx hb dX5_put_69 (lv_at hl 3 rfl) ?_
          refine lv_if_lt (tgt := 90) hx hb dX5_put_71 (by decide) (fun c_6 => ?_) (fun c_6 => ?_)
          · skip
            refine lv_iconst (v := 1) hx hb dX5_put_90 (by decide) ?_
            have hq : (sX5_put I f0 a0 a1) = ((1 : Int32), J, g) := (by rw [sX5_put, if_neg c_1, if_neg c_2, if_pos c_3]; rw [hok, if_neg (by decide), paI_end hp c_6])
            exact jx_zret () hx hb hr hlocks hK hP hD hS (by rw [hq]) (by rw [hq]) (Or.inr rfl) dX5_put_91
          · skip
            refine lv_aload_n hx hb dX5_put_74 rfl (lv_at hl 0 rfl) ?_
            refine lv_lload_n hx hb dX5_put_75 rfl (lv_at hl 1 rfl) ?_
            refine lv_iload hx hb dX5_put_76 (lv_at hl 3 rfl) ?_
            refine jx_pcalli (wc := []) hP hD hS hA [] rfl (by decide) (fun hPc hDc hF => jx_runSs (As := [.long a0, .int jj]) (rest := [.ref h]) (n := 2) hx hb hml hown hts hK hX hS hl.1 (kX5_byteOf l D cI cJ cZ cD tA a0 jj) gX5_put_X5_byteOf rfl rfl rfl (by decide +kernel) ⟨Nat.le_of_ble_eq_true rfl, Nat.le_of_ble_eq_true rfl⟩ rfl rfl (Nat.le_of_ble_eq_true rfl) dX5_put_78 ⟨Nat.zero_le _, Nat.zero_le _⟩ hPc hDc hF) (fun r_7 er_7 => ?_)
            have er_7 : r_7 = (sX5_byteOf a0 jj) := er_7
            refine jx_callv (wc := [(h, .inr (5, (oX5 R J L))), ((R 0), .inl (cI, 160, .inl g))]) (wr := []) hP hD hS hA hK [0, 1] [] rfl rfl (by decide) (by decide) (by decide) (fun hPc hDc hF => jx_runV (As := [.int r_7]) (rest := []) (n := 1) (ci := 5) (q0 := 0) hx hb hml hown hts hK hX hS hl.1 (kX5_add l D cI cJ cZ cD tA h R J L g r_7) gX5_put_X5_add rfl rfl rfl (by decide +kernel) ⟨Nat.le_of_ble_eq_true rfl, Nat.le_of_ble_eq_true rfl⟩ rfl rfl rfl rfl rfl (Nat.le_of_ble_eq_true rfl) dX5_put_81 ⟨Nat.zero_le _, Nat.zero_le _⟩ hPc hDc hF) (fun u H locs hw hP hD hS => ?_)
            obtain ⟨I_9, eI_9⟩ : ∃ x : (Nat → Int32), x = (sX5_add J g r_7).1 := ⟨_, rfl⟩
            obtain ⟨f_10, ef_10⟩ : ∃ x : (Nat → Int32), x = (sX5_add J g r_7).2 := ⟨_, rfl⟩
            have hP : va_P D vwCl [(h, .inr (5, (oX5 R I_9 L))), ((R 0), .inl (cI, 160, .inl f_10))] H := by rw [eI_9, ef_10]; exact hP
            have hD : va_D A [(h, .inr (5, (oX5 R I_9 L))), ((R 0), .inl (cI, 160, .inl f_10))] := by rw [eI_9, ef_10]; exact hD
            obtain ⟨v_11, ev_11⟩ : ∃ y : Int32, y = jj + (-1 : Int32) := ⟨_, rfl⟩
            refine lv_iinc (v := v_11) (lv' := [(4, .int v_11), (0, .ref h), (1, .long a0), (3, .int a1)]) hx hb dX5_put_84 hl (k := 3) rfl (by rw [ev_11]; rfl) (by decide) rfl (fun ls hl => ?_)
            refine lv_goto (tgt := 69) hx hb dX5_put_87 (by decide) ?_
            exact ih (v_11, I_9, f_10, mm - 1, ()) _ _ _ ⟨hP, hD, hS, lv_sub hl [1, 2, 3, 0] rfl, (show paI a0 a1 I f0 (mm - 1) v_11 I_9 f_10 from (by clear hP hD hl; have z_ := ev_11.symm; clear ev_11; subst z_; have z_ := ef_10.symm; clear ef_10; subst z_; have z_ := eI_9.symm; clear eI_9; subst z_; have z_ := er_7.symm; clear er_7; subst z_; have z_ := ev_5.symm; clear ev_5; subst z_; exact (paI_step hp c_6).1))⟩ (show (mm - 1) < mm from (by clear hP hD hl; have z_ := ev_11.symm; clear ev_11; subst z_; have z_ := ef_10.symm; clear ef_10; subst z_; have z_ := eI_9.symm; clear eI_9; subst z_; have z_ := er_7.symm; clear er_7; subst z_; have z_ := ev_5.symm; clear ev_5; subst z_; exact (paI_step hp c_6).2))
        · skip
          refine lv_lload_n hx hb dX5_put_34 rfl (lv_at hl 1 rfl) ?_
          refine lv_iload hx hb dX5_put_35 (lv_at hl 3 rfl) ?_
          refine jx_pcalli (wc := []) hP hD hS hA [] rfl (by decide) (fun hPc hDc hF => jx_runSs (As := [.long a0, .int ii]) (rest := []) (n := 2) hx hb hml hown hts hK hX hS hl.1 (kX5_byteOf l D cI cJ cZ cD tA a0 ii) gX5_put_X5_byteOf rfl rfl rfl (by decide +kernel) ⟨Nat.le_of_ble_eq_true rfl, Nat.le_of_ble_eq_true rfl⟩ rfl rfl (Nat.le_of_ble_eq_true rfl) dX5_put_37 ⟨Nat.zero_le _, Nat.zero_le _⟩ hPc hDc hF) (fun r_12 er_12 => ?_)
          have er_12 : r_12 = (sX5_byteOf a0 ii) := er_12
          refine lv_istore (lv' := [(5, .int r_12), (0, .ref h), (1, .long a0), (3, .int a1), (4, .int ii)]) hx hb dX5_put_40 hl (by decide) rfl (fun ls hl => ?_)
          refine lv_iload hx hb dX5_put_42 (lv_at hl 0 rfl) ?_
          refine lv_bipush (v := 32) hx hb dX5_put_44 (by decide) ?_
          refine lv_icmp_lt (tgt := 56) hx hb dX5_put_46 (by decide) (fun c_13 => ?_) (fun c_13 => ?_)
          · skip
            refine lv_iconst (v := 0) hx hb dX5_put_56 (by decide) ?_
            have hq : (sX5_put I f0 a0 a1) = ((0 : Int32), I, f0) := (by clear hP hD hl; have z_ := er_12.symm; clear er_12; subst z_; have h9 := pcI_bad1 hp c_4 c_13; rw [sX5_put, if_neg c_1, if_neg c_2, if_pos c_3]; rw [if_pos h9])
            exact jx_zret () hx hb hr hlocks hK hP hD hS (by rw [hq]) (by rw [hq]) (Or.inl rfl) dX5_put_57
          · skip
            refine lv_iload hx hb dX5_put_49 (lv_at hl 0 rfl) ?_
            refine lv_bipush (v := 126) hx hb dX5_put_51 (by decide) ?_
            refine lv_icmp_le (tgt := 58) hx hb dX5_put_53 (by decide) (fun c_14 => ?_) (fun c_14 => ?_)
            · skip
              obtain ⟨v_15, ev_15⟩ : ∃ y : Int32, y = ii + (1 : Int32) := ⟨_, rfl⟩
              refine lv_iinc (v := v_15) (lv' := [(4, .int v_15), (5, .int r_12), (0, .ref h), (1, .long a0), (3, .int a1)]) hx hb dX5_put_58 hl (k := 4) rfl (by rw [ev_15]; rfl) (by decide) rfl (fun ls hl => ?_)
              refine lv_goto (tgt := 28) hx hb dX5_put_61 (by decide) ?_
              exact ih (v_15, kk + 1, ()) _ _ _ ⟨hP, hD, hS, lv_sub hl [2, 3, 4, 0] rfl, (show pcI a0 a1 (kk + 1) v_15 from (by clear hP hD hl; have z_ := ev_15.symm; clear ev_15; subst z_; have z_ := er_12.symm; clear er_12; subst z_; exact (pcI_step hn hn2 hp c_4 c_13 c_14).1))⟩ (show 9 - (kk + 1) < 9 - kk from (by clear hP hD hl; have z_ := ev_15.symm; clear ev_15; subst z_; have z_ := er_12.symm; clear er_12; subst z_; exact (pcI_step hn hn2 hp c_4 c_13 c_14).2))
            · skip
              refine lv_iconst (v := 0) hx hb dX5_put_56 (by decide) ?_
              have hq : (sX5_put I f0 a0 a1) = ((0 : Int32), I, f0) := (by clear hP hD hl; have z_ := er_12.symm; clear er_12; subst z_; have h9 := pcI_bad2 hp c_4 c_13 c_14; rw [sX5_put, if_neg c_1, if_neg c_2, if_pos c_3]; rw [if_pos h9])
              exact jx_zret () hx hb hr hlocks hK hP hD hS (by rw [hq]) (by rw [hq]) (Or.inl rfl) dX5_put_57
      · skip
        refine lv_iconst (v := 0) hx hb dX5_put_23 (by decide) ?_
        have hq : (sX5_put I f0 a0 a1) = ((0 : Int32), I, f0) := (by rw [sX5_put, if_neg c_1, if_neg c_2, if_neg c_3])
        exact jx_zret () hx hb hr hlocks hK hP hD hS (by rw [hq]) (by rw [hq]) (Or.inl rfl) dX5_put_24

