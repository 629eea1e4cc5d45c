/-! ===== forwards: one stretch, the whole way ===== -/
theorem ldk_eB0_at {I1 J : Nat → Int32} {L1 M : Nat → Int64} (v : Int32) (h : ldk_eB0 I1 L1 J M) : ldk_eB0 (upd I1 0 v) L1 J M := by
  obtain ⟨b1, b2, b3, b4, b5, b6, b7, b8⟩ := h
  refine ⟨?_, ?_, b3, ?_, ?_, ?_, b7, b8⟩
  · rw [pk_un (by decide)]; exact b1
  · rw [pk_un (by decide)]; exact b2
  · rw [pk_un (by decide)]; exact b4
  · rw [pk_un (by decide)]; exact b5
  · rw [pk_un (by decide)]; exact b6
theorem ldk_eA_of {I J J' : Nat → Int32} (h : ldk_eA I J) (e26 : J' 26 = J 26) (e27 : J' 27 = J 27) (e28 : J' 28 = J 28) (e30 : J' 30 = J 30) (e29 : J' 29 = J 29) (e20 : J' 20 = J 20) : ldk_eA I J' := by
  obtain ⟨a1, a2, a3, a4, a5, a6, a7, a8⟩ := h
  exact ⟨e26.trans a1, e27.trans a2, e28.trans a3, e30.trans a4, e29.trans a5, e20.trans a6, a7, a8⟩
section LDKH
variable {f4_0 f4_1 f4_2 : Nat → Int32} {f4_3 : Nat → Int64} {f4_4 f4_5 f3 f4 f5 f6 f7 : Nat → Int32} {f8 : Nat → Int64} {z6 : Int32} {len : Int64} {S0 : Int}
theorem ldk_ins_q (J : Nat → Int32) (M : Nat → Int64) (q35 q36 q37 q39 q40 : Nat → Int32) (q41 : Nat → Int64) : sX7_comes J M f3 f4 f5 f6 f7 f8 q35 q36 q37 q39 q40 q41 1440 = ((sX7_comes J M f3 f4 f5 f6 f7 f8 f3 f3 f3 f3 f3 f8 1440).1, M, q35, q36, q37, q39, q40, q41) := by
  unfold sX7_comes
  rw [if_neg (show ¬ (1440 : Int32) = 480 by decide), if_pos (show (1440 : Int32) = 1440 from rfl), if_neg (show ¬ (1440 : Int32) = 480 by decide), if_pos (show (1440 : Int32) = 1440 from rfl)]
  by_cases h : J 29 = 0
  · simp [h]
  · simp [h]
theorem ldk_comes22 (J : Nat → Int32) (M : Nat → Int64) (q35 q36 q37 q39 q40 : Nat → Int32) (q41 : Nat → Int64) (a : Int32) : (sX7_comes J M f3 f4 f5 f6 f7 f8 q35 q36 q37 q39 q40 q41 a).1 22 = J 22 := by
  have hb : ∀ K : Nat → Int32, sX7_brakes K 22 = K 22 := fun K => by
    unfold sX7_brakes; split
    · simp [upd]
    · rfl
  have hu : (sX7_beatUp J M f3 f4 f5 f6 f7 f8 q35 q36 q37).1 22 = J 22 := by
    unfold sX7_beatUp ldk_bu; split <;> simp [upd]
  unfold sX7_comes
  split
  · simp [upd]
  · split
    · split
      · simp [upd]
      · dsimp only
        rw [pk_un (by decide), hb, pk_un (by decide)]
    · split
      · unfold sX7_record; simp [upd]
      · split
        · unfold sX7_record; dsimp only
          rw [pk_un (by decide), pk_un (by decide), pk_un (by decide), hu]
        · unfold sX7_record; simp [upd]
theorem ldk_tS_21 {y : LdkT} {r : Int32} (h : ¬ ldk_ts y.1 r = 0) : (ldk_tS f3 f4 f5 f6 f7 f8 r y).1 21 = 0 := by
  have hA : (ldk_tA f3 f4 f5 f6 f7 f8 r y).1 21 = 0 := by unfold ldk_tA; dsimp only; rw [pk_us, if_neg h]
  have hB : (ldk_tB r y).1 21 = 0 := by unfold ldk_tB; dsimp only; rw [pk_un (by decide), pk_un (by decide), pk_us, if_neg h]
  unfold ldk_tS
  repeat (first | exact hA | exact hB | split)
theorem ldk_tS_22 {y : LdkT} {r : Int32} : (ldk_tS f3 f4 f5 f6 f7 f8 r y).1 22 = (if ldk_ta y.1 r = 5760 then 0 else ldk_ta y.1 r) := by
  have hA : (ldk_tA f3 f4 f5 f6 f7 f8 r y).1 22 = (if ldk_ta y.1 r = 5760 then 0 else ldk_ta y.1 r) := by unfold ldk_tA; dsimp only; rw [pk_un (by decide), ldk_comes22, pk_un (by decide), pk_us]
  have hB : (ldk_tB r y).1 22 = ldk_ta y.1 r := by unfold ldk_tB; dsimp only; rw [pk_un (by decide), pk_us]
  unfold ldk_tS
  split
  · exact hA
  · split
    · exact hA
    · split
      · exact hA
      · split
        · rename_i z; rw [if_pos z] at hA; exact hA
        · exact hB
theorem ldk_fstep (hp : ldk_pT f4_0 f4_1 f4_2 f4_3 f4_4 f4_5 f3 f4 f5 f6 f7 f8 z6 len) (hS : S0 ≤ 1000000000000) {x : GS} {y : LdkT} {r : Int32} (h : ldk_rel z6 len S0 x y) (hr : ¬ r ≤ 0) (hr2 : r.toInt ≤ 1000000) (hm : ¬ y.1 21 = 0) :
    (gStep f4_0 f4_1 f4_2 f4_3 f4_4 f4_5 r x).1 = r - ldk_t2 y.1 r ∧ ldk_rel z6 len (S0 + 200) (gStep f4_0 f4_1 f4_2 f4_3 f4_4 f4_5 r x).2 (ldk_tS f3 f4 f5 f6 f7 f8 r y) ∧ (ldk_tm (ldk_ta y.1 r) → ldk_tG f3 f4 f5 f6 f7 f8 y) ∧ (ldk_tS f3 f4 f5 f6 f7 f8 r y).1 22 = (if ldk_ta y.1 r = 5760 then 0 else ldk_ta y.1 r) ∧ ((ldk_ta y.1 r).toInt = (sX7_above (y.1 22)).toInt ∨ (ldk_t2 y.1 r).toInt = r.toInt ∨ (ldk_tS f3 f4 f5 f6 f7 f8 r y).1 21 = 0) := by
  obtain ⟨I, L, I1, L1, I2, L2, f20, f21, f22, I3, f30, f31, I4, L4⟩ := x
  obtain ⟨J, M, q35, q36, q37, q39, q40, q41⟩ := y
  obtain ⟨hA, hB, hC, hDr, hPl, h6, h7⟩ := h
  dsimp only at hA hB hC hDr hPl h6 h7 hm ⊢
  obtain ⟨g0, g1, g2, g3, g4, g5, g6⟩ := ldk_go (r := r) hB
  obtain ⟨n1, n2, n3, n4, n5, n6⟩ := ldk_num1 hB hr hr2
  have hmk := ldk_mk hB hr hr2
  have hPl0 := hPl
  obtain ⟨p1, p2, p3, p4, p5, p6, p7⟩ := hPl
  have hlen := p7 hm
  have pl1 := p4 hlen
  obtain ⟨t0, t1, t2, tk, tok, td1, td2⟩ := hp I4 L4 (L 5) h6 h7 p3 pl1
  have hG : ldk_tG f3 f4 f5 f6 f7 f8 (J, M, q35, q36, q37, q39, q40, q41) := by
    refine ⟨?_, ?_, ldk_eC_cl hC, ?_⟩
    · show ldkOK f3 f4 f5 f6 f7 f8 161 (0, 100, M 25, 0); rw [p1]; exact tok
    · show ¬ sX7_look f3 f4 f5 f6 f7 f8 (M 25) 2 = 0; rw [p1, ldk_ne, ldk_t0']; omega
    · show J 42 = 0 ∨ J 42 = 1; rw [hDr.2.1]; exact hDr.1
  have hc22 := hB.2.2.1
  refine ⟨by unfold gStep; dsimp only; rw [g1], ?_, fun _ => hG, ?_⟩
  · by_cases hk : ldk_tm (ldk_ta J r)
    · rw [ldk_tS_m (x := (J, M, q35, q36, q37, q39, q40, q41)) hk]
      have hat : ldk_ta J r = sX7_above (J 22) := hmk.mpr hk
      rw [ldk_gs_m (x := (I, L, I1, L1, I2, L2, f20, f21, f22, I3, f30, f31, I4, L4)) (by dsimp only; rw [g2, g0]; exact hat)]
      dsimp only
      rw [g0, ← hat]
      unfold ldk_tA
      dsimp only
      rw [g0, ← hat] at g2
      have hmv := fun (J' : Nat → Int32) => ldk_moved (J' := J') hB hr hr2
      rw [g0, ← hat] at hmv
      generalize hGe : (sX4_goTowards I1 (ldk_ta J r) r).2 = G at *
      rcases hk with e | e | e | e
      · -- 480
        rw [e]
        rw [if_neg (show ¬ (480 : Int32) = 5760 by decide)]
        generalize hJx : upd (upd J 22 480) 23 (ldk_tl J r) = Jx
        have kx : ∀ k, k ≠ 22 → k ≠ 23 → Jx k = J k := fun k k1 k2 => by rw [← hJx, pk_un k2, pk_un k1]
        have kx22 : Jx 22 = 480 := by rw [← hJx, pk_un (by decide), pk_us]
        have kx23 : Jx 23 = ldk_tl J r := by rw [← hJx, pk_us]
        unfold sX7_comes sX6_comeTo
        rw [if_pos (show (480 : Int32) = 480 from rfl), if_pos (show (480 : Int32) = 480 from rfl)]
        dsimp only
        obtain ⟨s1, s2, s3⟩ := ldk_stand (t := ldk_ts J r) (L1' := L1) (M' := M) (J' := upd (upd Jx 27 (sX7_look f3 f4 f5 f6 f7 f8 (M 25) 1)) 21 (if ldk_ts J r = 0 then upd Jx 27 (sX7_look f3 f4 f5 f6 f7 f8 (M 25) 1) 21 else 0)) (hmv (upd Jx 27 (sX7_look f3 f4 f5 f6 f7 f8 (M 25) 1)) (by rw [pk_un (by decide), kx 21 (by decide) (by decide)]) (by rw [pk_un (by decide), kx 31 (by decide) (by decide)]) (by rw [pk_un (by decide), kx 24 (by decide) (by decide)]) (by rw [pk_un (by decide), kx23]))
          (by rw [pk_un (by decide), kx 21 (by decide) (by decide)]; exact hm) (by rw [pk_un (by decide), pk_un (by decide), kx 21 (by decide) (by decide), kx23]; exact ldk_ts0) (by rw [pk_us]) (by simp [upd]) (by simp [upd]) (by simp [upd]) hB.1.2.2.1
        refine ⟨?_, ⟨s1, ?_, ?_, s2⟩, ?_, ?_, ?_, (tk 1).1, (tk 1).2⟩
        · obtain ⟨a1, a2, a3, a4, a5, a6, a7, a8⟩ := hA
          dsimp only
          refine ⟨?_, ?_, ?_, ?_, ?_, ?_, a7, a8⟩
          · rw [pk_un (by decide), pk_un (by decide), kx 26 (by decide) (by decide), pk_un (by decide)]; exact a1
          · rw [pk_un (by decide), pk_us, pk_us, t1, p1]
          · rw [pk_un (by decide), pk_un (by decide), kx 28 (by decide) (by decide), pk_un (by decide)]; exact a3
          · rw [pk_un (by decide), pk_un (by decide), kx 30 (by decide) (by decide), pk_un (by decide)]; exact a4
          · rw [pk_un (by decide), pk_un (by decide), kx 29 (by decide) (by decide), pk_un (by decide)]; exact a5
          · rw [pk_un (by decide), pk_un (by decide), kx 20 (by decide) (by decide), pk_un (by decide)]; exact a6
        · dsimp only
          rw [s3, g2, e, pk_un (by decide), pk_un (by decide), kx22]
        · dsimp only
          rw [pk_un (by decide), pk_un (by decide), kx22]; decide
        · exact ldk_eC_wider (by omega) (ldk_eC_of hC (by dsimp only; rw [pk_un (by decide), pk_un (by decide), kx 38 (by decide) (by decide)]) rfl rfl)
        · exact ldk_eD_of hDr (by dsimp only; rw [pk_un (by decide), pk_un (by decide), kx 42 (by decide) (by decide)])
        · exact ⟨p1, p2, p3, p4, p5, p6, fun _ => hlen⟩
      · -- 1440
        rw [e]
        rw [if_neg (show ¬ (1440 : Int32) = 5760 by decide)]
        generalize hJx : upd (upd J 22 1440) 23 (ldk_tl J r) = Jx
        have kx : ∀ k, k ≠ 22 → k ≠ 23 → Jx k = J k := fun k k1 k2 => by rw [← hJx, pk_un k2, pk_un k1]
        have kx22 : Jx 22 = 1440 := by rw [← hJx, pk_un (by decide), pk_us]
        have kx23 : Jx 23 = ldk_tl J r := by rw [← hJx, pk_us]
        have hAx : ldk_eA I Jx := ldk_eA_of hA (kx 26 (by decide) (by decide)) (kx 27 (by decide) (by decide)) (kx 28 (by decide) (by decide)) (kx 30 (by decide) (by decide)) (kx 29 (by decide) (by decide)) (kx 20 (by decide) (by decide))
        obtain ⟨i1, i2, i3, i4, i5, i6⟩ := ldk_ins (f3 := f3) (f4 := f4) (f5 := f5) (f6 := f6) (f7 := f7) (f8 := f8) hAx (hmv Jx (kx 21 (by decide) (by decide)) (kx 31 (by decide) (by decide)) (kx 24 (by decide) (by decide)) kx23) (by rw [kx 21 (by decide) (by decide)]; exact hm)
        rw [ldk_ins_q]
        generalize hCe : (sX7_comes Jx M f3 f4 f5 f6 f7 f8 f3 f3 f3 f3 f3 f8 1440).1 = C0 at *
        unfold sX6_comeTo
        rw [if_neg (show ¬ (1440 : Int32) = 480 by decide), if_pos (show (1440 : Int32) = 1440 from rfl)]
        dsimp only
        obtain ⟨s1, s2, s3⟩ := ldk_stand (t := ldk_ts J r) (L1' := L1) (M' := M) (J' := upd C0 21 (if ldk_ts J r = 0 then C0 21 else 0)) i2 i5 (by rw [i4, kx 21 (by decide) (by decide), kx23]; exact ldk_ts0) (by rw [pk_us]) (by simp [upd]) (by simp [upd]) (by simp [upd]) hB.1.2.2.1
        refine ⟨?_, ⟨s1, ?_, ?_, s2⟩, ?_, ?_, ?_, h6, h7⟩
        · exact ldk_eA_of i1 (by simp [upd]) (by simp [upd]) (by simp [upd]) (by simp [upd]) (by simp [upd]) (by simp [upd])
        · dsimp only
          rw [s3, i3, g2, e, pk_un (by decide), i6 22 (by decide) (by decide) (by decide) (by decide) (by decide), kx22]
        · dsimp only
          rw [pk_un (by decide), i6 22 (by decide) (by decide) (by decide) (by decide) (by decide), kx22]; decide
        · exact ldk_eC_wider (by omega) (ldk_eC_of hC (by dsimp only; rw [pk_un (by decide), i6 38 (by decide) (by decide) (by decide) (by decide) (by decide), kx 38 (by decide) (by decide)]) rfl rfl)
        · exact ldk_eD_of hDr (by dsimp only; rw [pk_un (by decide), i6 42 (by decide) (by decide) (by decide) (by decide) (by decide), kx 42 (by decide) (by decide)])
        · exact ⟨p1, p2, p3, p4, p5, p6, fun _ => hlen⟩
      · -- 4800
        rw [e]
        rw [if_neg (show ¬ (4800 : Int32) = 5760 by decide)]
        generalize hJx : upd (upd J 22 4800) 23 (ldk_tl J r) = Jx
        have kx : ∀ k, k ≠ 22 → k ≠ 23 → Jx k = J k := fun k k1 k2 => by rw [← hJx, pk_un k2, pk_un k1]
        have kx22 : Jx 22 = 4800 := by rw [← hJx, pk_un (by decide), pk_us]
        have kx23 : Jx 23 = ldk_tl J r := by rw [← hJx, pk_us]
        unfold sX7_comes sX6_comeTo
        rw [if_neg (show ¬ (4800 : Int32) = 480 by decide), if_neg (show ¬ (4800 : Int32) = 1440 by decide), if_pos (show (4800 : Int32) = 4800 from rfl), if_neg (show ¬ (4800 : Int32) = 480 by decide), if_neg (show ¬ (4800 : Int32) = 1440 by decide), if_pos (show (4800 : Int32) = 4800 from rfl)]
        unfold sX7_record
        dsimp only
        have k42 : upd Jx 26 (sX7_look f3 f4 f5 f6 f7 f8 (M 25) 0) 42 = J 42 := by rw [pk_un (by decide), kx 42 (by decide) (by decide)]
        rw [k42]
        generalize hCe : upd (upd Jx 26 (sX7_look f3 f4 f5 f6 f7 f8 (M 25) 0)) 42 (1 - J 42) = C0
        have kc : ∀ k, k ≠ 26 → k ≠ 42 → C0 k = Jx k := fun k k1 k2 => by rw [← hCe, pk_un k2, pk_un k1]
        have kc26 : C0 26 = sX7_look f3 f4 f5 f6 f7 f8 (M 25) 0 := by rw [← hCe, pk_un (by decide), pk_us]
        have kc42 : C0 42 = 1 - J 42 := by rw [← hCe, pk_us]
        obtain ⟨s1, s2, s3⟩ := ldk_stand (t := ldk_ts J r) (L1' := L1) (M' := M) (J' := upd C0 21 (if ldk_ts J r = 0 then C0 21 else 0)) (hmv C0 (by rw [kc 21 (by decide) (by decide), kx 21 (by decide) (by decide)]) (by rw [kc 31 (by decide) (by decide), kx 31 (by decide) (by decide)]) (by rw [kc 24 (by decide) (by decide), kx 24 (by decide) (by decide)]) (by rw [kc 23 (by decide) (by decide), kx23]))
          (by rw [kc 21 (by decide) (by decide), kx 21 (by decide) (by decide)]; exact hm) (by rw [kc 21 (by decide) (by decide), kc 23 (by decide) (by decide), kx 21 (by decide) (by decide), kx23]; exact ldk_ts0) (by rw [pk_us]) (by simp [upd]) (by simp [upd]) (by simp [upd]) hB.1.2.2.1
        refine ⟨?_, ⟨s1, ?_, ?_, s2⟩, ?_, ?_, ?_, (tk 0).1, (tk 0).2⟩
        · obtain ⟨a1, a2, a3, a4, a5, a6, a7, a8⟩ := hA
          dsimp only
          refine ⟨?_, ?_, ?_, ?_, ?_, ?_, a7, a8⟩
          · rw [pk_un (by decide), kc26, pk_us, t0, p1]
          · rw [pk_un (by decide), kc 27 (by decide) (by decide), kx 27 (by decide) (by decide), pk_un (by decide)]; exact a2
          · rw [pk_un (by decide), kc 28 (by decide) (by decide), kx 28 (by decide) (by decide), pk_un (by decide)]; exact a3
          · rw [pk_un (by decide), kc 30 (by decide) (by decide), kx 30 (by decide) (by decide), pk_un (by decide)]; exact a4
          · rw [pk_un (by decide), kc 29 (by decide) (by decide), kx 29 (by decide) (by decide), pk_un (by decide)]; exact a5
          · rw [pk_un (by decide), kc 20 (by decide) (by decide), kx 20 (by decide) (by decide), pk_un (by decide)]; exact a6
        · dsimp only
          rw [s3, g2, e, pk_un (by decide), kc 22 (by decide) (by decide), kx22]
        · dsimp only
          rw [pk_un (by decide), kc 22 (by decide) (by decide), kx22]; decide
        · exact ldk_eC_wider (by omega) (ldk_eC_of hC (by dsimp only; rw [pk_un (by decide), kc 38 (by decide) (by decide), kx 38 (by decide) (by decide)]) rfl rfl)
        · dsimp only
          rw [p1]
          exact ldk_eD_write hDr (Or.inl ⟨rfl, rfl⟩) p3 pl1 (by rw [pk_un (by decide), kc42])
        · exact ⟨p1, p2, p3, p4, p5, p6, fun _ => hlen⟩
      · -- 5760
        rw [e]
        rw [if_pos (show (5760 : Int32) = 5760 from rfl)]
        generalize hJx : upd (upd J 22 0) 23 (ldk_tl J r) = Jx
        have kx : ∀ k, k ≠ 22 → k ≠ 23 → Jx k = J k := fun k k1 k2 => by rw [← hJx, pk_un k2, pk_un k1]
        have kx22 : Jx 22 = 0 := by rw [← hJx, pk_un (by decide), pk_us]
        have kx23 : Jx 23 = ldk_tl J r := by rw [← hJx, pk_us]
        have hAx : ldk_eA I Jx := ldk_eA_of hA (kx 26 (by decide) (by decide)) (kx 27 (by decide) (by decide)) (kx 28 (by decide) (by decide)) (kx 30 (by decide) (by decide)) (kx 29 (by decide) (by decide)) (kx 20 (by decide) (by decide))
        have kx21 : Jx 21 = J 21 := kx 21 (by decide) (by decide)
        obtain ⟨e1, e2, e3, e4, e5, e6, e7, e8, e9⟩ := ldk_end (I1 := G) (L1 := L1) hp hS hAx (ldk_eC_of hC (kx 38 (by decide) (by decide)) rfl rfl) (ldk_eD_of hDr (kx 42 (by decide) (by decide))) (by rw [kx21]; exact hPl0) (by rw [kx21]; exact hm) hB.1.2.2.1 h6 h7 rfl rfl
        generalize sX7_comes Jx M f3 f4 f5 f6 f7 f8 q35 q36 q37 q39 q40 q41 5760 = Y at *
        generalize sX6_comeTo I L G L1 I2 L2 f20 f21 f22 I3 f30 f31 I4 L4 f4_0 f4_1 f4_2 f4_3 f4_4 f4_5 5760 = X at *
        have kc : ∀ k, k ≠ 28 → k ≠ 30 → k ≠ 38 → k ≠ 42 → k ≠ 22 → k ≠ 23 → Y.1 k = J k := fun k k1 k2 k3 k4 k5 k6 => (e9 k k1 k2 k3 k4).trans (kx k k5 k6)
        have kc21 : Y.1 21 = J 21 := kc 21 (by decide) (by decide) (by decide) (by decide) (by decide) (by decide)
        have kc22 : Y.1 22 = 0 := (e9 22 (by decide) (by decide) (by decide) (by decide)).trans kx22
        have kc23 : Y.1 23 = ldk_tl J r := (e9 23 (by decide) (by decide) (by decide) (by decide)).trans kx23
        obtain ⟨s1, s2, s3⟩ := ldk_stand (t := ldk_ts J r) (L1' := X.2.2.2.1) (M' := Y.2.1) (J' := upd Y.1 21 (if ldk_ts J r = 0 then Y.1 21 else 0)) (ldk_eB0_at 0 (hmv Y.1 kc21 (kc 31 (by decide) (by decide) (by decide) (by decide) (by decide) (by decide)) (kc 24 (by decide) (by decide) (by decide) (by decide) (by decide) (by decide)) kc23))
          (by rw [kc21]; exact hm) (by rw [kc21, kc23]; exact ldk_ts0) (by rw [pk_us]) (by simp [upd]) (by simp [upd]) (by simp [upd]) e3
        unfold ldk_rel
        dsimp only
        rw [e2]
        refine ⟨?_, ⟨s1, ?_, ?_, s2⟩, ?_, ?_, ?_, e7, e8⟩
        · exact ldk_eA_of e1 (by simp [upd]) (by simp [upd]) (by simp [upd]) (by simp [upd]) (by simp [upd]) (by simp [upd])
        · rw [s3, pk_us, pk_un (by decide), kc22]
        · rw [pk_un (by decide), kc22]; decide
        · exact ldk_eC_of e4 (by simp [upd]) rfl rfl
        · exact ldk_eD_of e5 (by simp [upd])
        · obtain ⟨u1, u2, u3, u4, u5, u6, u7⟩ := e6
          exact ⟨u1, u2, u3, u4, u5, u6, fun _ => hlen⟩
    · -- between marks
      have hat : ¬ ldk_ta J r = sX7_above (J 22) := fun z => hk (hmk.mp z)
      rw [ldk_gs_n (x := (I, L, I1, L1, I2, L2, f20, f21, f22, I3, f30, f31, I4, L4)) (by dsimp only; rw [g2, g0]; exact hat)]
      have hk' : ¬ ldk_ta J r = 480 ∧ ¬ ldk_ta J r = 1440 ∧ ¬ ldk_ta J r = 4800 ∧ ¬ ldk_ta J r = 5760 := ⟨fun z => hk (Or.inl z), fun z => hk (Or.inr (Or.inl z)), fun z => hk (Or.inr (Or.inr (Or.inl z))), fun z => hk (Or.inr (Or.inr (Or.inr z)))⟩
      have hB' : ldk_tS f3 f4 f5 f6 f7 f8 r (J, M, q35, q36, q37, q39, q40, q41) = ldk_tB r (J, M, q35, q36, q37, q39, q40, q41) := by
        unfold ldk_tS
        rw [if_neg hk'.1, if_neg hk'.2.1, if_neg hk'.2.2.1, if_neg hk'.2.2.2]
      rw [hB']
      unfold ldk_tB
      dsimp only
      generalize hCe : upd (upd (upd J 21 (if ldk_ts J r = 0 then J 21 else 0)) 22 (ldk_ta J r)) 23 (ldk_tl J r) = C0
      have kc : ∀ k, k ≠ 21 → k ≠ 22 → k ≠ 23 → C0 k = J k := fun k k1 k2 k3 => by rw [← hCe, pk_un k3, pk_un k2, pk_un k1]
      have kc21 : C0 21 = if ldk_ts J r = 0 then J 21 else 0 := by rw [← hCe, pk_un (by decide), pk_un (by decide), pk_us]
      have kc22 : C0 22 = ldk_ta J r := by rw [← hCe, pk_un (by decide), pk_us]
      have kc23 : C0 23 = ldk_tl J r := by rw [← hCe, pk_us]
      obtain ⟨s1, s2, s3⟩ := ldk_stand (t := ldk_ts J r) (L1' := L1) (M' := M) (J' := C0) (ldk_moved (J' := upd J 23 (ldk_tl J r)) hB hr hr2 (pk_un (by decide)) (pk_un (by decide)) (pk_un (by decide)) (by rw [pk_us]))
        (by rw [pk_un (by decide)]; exact hm) (by rw [pk_un (by decide), pk_us]; exact ldk_ts0) (by rw [kc21, pk_un (by decide)]) (by rw [kc 31 (by decide) (by decide) (by decide), pk_un (by decide)]) (by rw [kc 24 (by decide) (by decide) (by decide), pk_un (by decide)]) (by rw [kc23, pk_us]) hB.1.2.2.1
      refine ⟨?_, ⟨s1, ?_, ?_, s2⟩, ?_, ?_, ?_, h6, h7⟩
      · exact ldk_eA_of hA (kc 26 (by decide) (by decide) (by decide)) (kc 27 (by decide) (by decide) (by decide)) (kc 28 (by decide) (by decide) (by decide)) (kc 30 (by decide) (by decide) (by decide)) (kc 29 (by decide) (by decide) (by decide)) (kc 20 (by decide) (by decide) (by decide))
      · dsimp only
        rw [s3, g2, kc22]
      · dsimp only
        rw [kc22]
        have hab := ldk_ab (J 22)
        have h57 : (ldk_ta J r).toInt ≠ (sX7_above (J 22)).toInt := fun z => hat (ldk_eq.mpr z)
        split at hab
        · omega
        · split at hab
          · omega
          · split at hab <;> omega
      · exact ldk_eC_wider (by omega) (ldk_eC_of hC (kc 38 (by decide) (by decide) (by decide)) rfl rfl)
      · exact ldk_eD_of hDr (kc 42 (by decide) (by decide) (by decide))
      · exact ⟨p1, p2, p3, p4, p5, p6, fun _ => hlen⟩
  · refine ⟨ldk_tS_22 (y := (J, M, q35, q36, q37, q39, q40, q41)), ?_⟩
    rcases n6 with z | z | ⟨z1, z2⟩
    · exact Or.inl z
    · exact Or.inr (Or.inl z)
    · exact Or.inr (Or.inr (ldk_tS_21 (y := (J, M, q35, q36, q37, q39, q40, q41)) (fun q => ldk_ts0.mp q ⟨z1, by rw [ldk_eq, ldk_t0']; exact z2⟩)))
end LDKH
