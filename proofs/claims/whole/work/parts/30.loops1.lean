/-- the place behind the blanks, n of them at most -/
def bbF (I : Nat → Int32) (f0 : Nat → Int32) : Nat → Int32 → Int32
  | 0, p => p
  | n + 1, p => if sX5_charOf I f0 p = 32 then bbF I f0 n (p + 1) else p
def sX5_behindBlanks (I : Nat → Int32) (f0 : Nat → Int32) (a0 : Int32) : Int32 := bbF I f0 160 a0
theorem nI_lt160 {k : Nat} (hk : k ≤ 160) : (160 : Int32) ≤ nI k ↔ k = 160 := by
  rw [show (160 : Int32) = nI 160 from rfl, nI_leI (by omega) (by omega)]; omega
set_option maxHeartbeats 4000000 in
set_option maxRecDepth 100000 in
theorem kX5_behindBlanks (l : Launch) (D : va_G) (cI cJ cZ cD : ClassId) (tA : Nat) (h : Nat) (R : Nat → Nat) (I : Nat → Int32) (L : Nat → Int64) (f0 : Nat → Int32) (a0 : Int32) (hs : (I 1).toInt ≤ 160) : jx_Ms l yX5_behindBlanks wsX5_behindBlanks ({ frames := 1, cells := 0, slots := 0, locals := 21 }) D (jT cI cJ cZ cD) tA [.ref h, .int a0] [(h, .inr (5, (oX5 R I L))), ((R 0), .inl (cI, 160, .inl f0))] (vp_Si (fun r => r = (sX5_behindBlanks I f0 a0))) := by
  refine jx_ofs (cc := cX5_behindBlanks) (maxL := 4) (ret := (some .int)) (by decide +kernel) rfl (Nat.le_of_ble_eq_true rfl) ?_
  intro p e s m below meth c A ls hx hb hr hlocks hml hown hts hK hP hD hA hS hX hl
  have hl : lv_has ls 4 [(0, .ref h), (1, .int a0)] := hl
  have hown : s.vm.findClass RX5 = some m.cls := hown
  refine lv_iload_n hx hb dX5_behindBlanks_0 rfl (lv_at hl 1 rfl) ?_
  refine lv_istore_n (lv' := [(2, .int a0), (0, .ref h), (1, .int a0)]) hx hb dX5_behindBlanks_1 rfl hl (by decide) rfl (fun ls hl => ?_)
  refine lv_iconst (v := 0) hx hb dX5_behindBlanks_2 (by decide) ?_
  refine lv_istore_n (lv' := [(3, .int (0 : Int32)), (2, .int a0), (0, .ref h), (1, .int a0)]) hx hb dX5_behindBlanks_3 rfl hl (by decide) rfl (fun ls hl => ?_)
  refine jx_loop (σ := (Int32) × (Int32) × (Nat) × (Unit)) (fun x H locs ls => H = s.heap ∧ locs = [] ∧ lv_has ls 4 [(0, .ref h), (1, .int a0), (2, .int x.1), (3, .int x.2.1)] ∧ (x.2.1 = nI x.2.2.1 ∧ x.2.2.1 ≤ 160 ∧ bbF I f0 (160 - x.2.2.1) x.1 = sX5_behindBlanks I f0 a0)) (fun x => 160 - x.2.2.1) (a0, (0 : Int32), 0, ()) ⟨rfl, rfl, lv_sub hl [2, 3, 1, 0] rfl, (show (0 : Int32) = nI 0 ∧ 0 ≤ 160 ∧ bbF I f0 (160 - 0) a0 = sX5_behindBlanks I f0 a0 from ⟨rfl, by omega, rfl⟩)⟩ ?_
  intro x H locs ls hI ih
  obtain ⟨pp, ii, kk, ux⟩ := x
  obtain ⟨rfl, rfl, hl, hp⟩ := hI
  have hl : lv_has ls 4 [(0, .ref h), (1, .int a0), (2, .int pp), (3, .int ii)] := hl
  have hp : ii = nI kk ∧ kk ≤ 160 ∧ bbF I f0 (160 - kk) pp = sX5_behindBlanks I f0 a0 := hp
  refine lv_iload_n hx hb dX5_behindBlanks_4 rfl (lv_at hl 3 rfl) ?_
  refine lv_sipush (v := 160) hx hb dX5_behindBlanks_5 (by decide) ?_
  refine lv_icmp_ge (tgt := 30) hx hb dX5_behindBlanks_8 (by decide) (fun c_1 => ?_) (fun c_1 => ?_)
  · skip
    refine lv_iload_n hx hb dX5_behindBlanks_30 rfl (lv_at hl 2 rfl) ?_
    have hq : (sX5_behindBlanks I f0 a0) = pp := (by obtain ⟨h1, h2, h3⟩ := hp; have h4 := (nI_lt160 h2).mp (h1 ▸ c_1); rw [← h3, h4]; rfl)
    exact jx_siret hx hb hr hlocks hq.symm dX5_behindBlanks_31
  · skip
    refine lv_aload_n hx hb dX5_behindBlanks_11 rfl (lv_at hl 0 rfl) ?_
    refine lv_iload_n hx hb dX5_behindBlanks_12 rfl (lv_at hl 2 rfl) ?_
    refine jx_pcalli (wc := [(h, .inr (5, (oX5 R I L))), ((R 0), .inl (cI, 160, .inl f0))]) hP hD hS hA [0, 1] rfl (by decide) (fun hPc hDc hF => jx_runVs (As := [.int pp]) (rest := []) (n := 1) (ci := 5) (q0 := 0) hx hb hml hown hts hK hX hS hl.1 (kX5_charOf l D cI cJ cZ cD tA h R I L f0 pp hs) gX5_behindBlanks_X5_charOf rfl rfl rfl (by decide +kernel) ⟨Nat.le_of_ble_eq_true rfl, Nat.le_of_ble_eq_true rfl⟩ rfl rfl rfl rfl rfl (Nat.le_of_ble_eq_true rfl) dX5_behindBlanks_13 ⟨Nat.zero_le _, Nat.zero_le _⟩ hPc hDc hF) (fun r_2 er_2 => ?_)
    have er_2 : r_2 = (sX5_charOf I f0 pp) := er_2
    refine lv_bipush (v := 32) hx hb dX5_behindBlanks_16 (by decide) ?_
    refine lv_icmp_ne (tgt := 30) hx hb dX5_behindBlanks_18 (by decide) (fun c_3 => ?_) (fun c_3 => ?_)
    · skip
      refine lv_iload_n hx hb dX5_behindBlanks_30 rfl (lv_at hl 2 rfl) ?_
      have hq : (sX5_behindBlanks I f0 a0) = pp := (by obtain ⟨h1, h2, h3⟩ := hp; have h4 : kk ≠ 160 := fun z => c_1 (by rw [h1]; exact (nI_lt160 h2).mpr z); rw [← h3, show 160 - kk = (160 - (kk + 1)) + 1 from by omega, bbF, ← er_2, if_neg c_3])
      exact jx_siret hx hb hr hlocks hq.symm dX5_behindBlanks_31
    · skip
      obtain ⟨v_4, ev_4⟩ : ∃ y : Int32, y = pp + (1 : Int32) := ⟨_, rfl⟩
      refine lv_iinc (v := v_4) (lv' := [(2, .int v_4), (0, .ref h), (1, .int a0), (3, .int ii)]) hx hb dX5_behindBlanks_21 hl (k := 2) rfl (by rw [ev_4]; rfl) (by decide) rfl (fun ls hl => ?_)
      obtain ⟨v_5, ev_5⟩ : ∃ y : Int32, y = ii + (1 : Int32) := ⟨_, rfl⟩
      refine lv_iinc (v := v_5) (lv' := [(3, .int v_5), (2, .int v_4), (0, .ref h), (1, .int a0)]) hx hb dX5_behindBlanks_24 hl (k := 3) rfl (by rw [ev_5]; rfl) (by decide) rfl (fun ls hl => ?_)
      refine lv_goto (tgt := 4) hx hb dX5_behindBlanks_27 (by decide) ?_
      exact ih (v_4, v_5, kk + 1, ()) _ _ _ ⟨rfl, rfl, lv_sub hl [2, 3, 1, 0] rfl, (show v_5 = nI (kk + 1) ∧ (kk + 1) ≤ 160 ∧ bbF I f0 (160 - (kk + 1)) v_4 = sX5_behindBlanks I f0 a0 from (by obtain ⟨h1, h2, h3⟩ := hp; have h4 : kk ≠ 160 := fun z => c_1 (by rw [h1]; exact (nI_lt160 h2).mpr z); refine ⟨by rw [ev_5, h1]; exact nI_1 kk, by omega, ?_⟩; rw [← h3, show 160 - kk = (160 - (kk + 1)) + 1 from by omega, bbF, ← er_2, if_pos c_3, ev_4]))⟩ (show 160 - (kk + 1) < 160 - kk from (by obtain ⟨h1, h2, h3⟩ := hp; have h4 : kk ≠ 160 := fun z => c_1 (by rw [h1]; exact (nI_lt160 h2).mpr z); show 160 - (kk + 1) < 160 - kk; omega))

