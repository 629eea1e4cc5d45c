/-! ===== methods that may throw: the frame of their contracts ===== -/
def jx_Y (tA : Nat) (sa : Nat → Nat) (A : Nat → Prop) (U : State) (H : Heap) : Prop := jx_X tA A U H ∧ vx_Zq Bundle.tN "UNASSIGNED_STACK" Bundle.steD A U H ∧ vx_Zq Bundle.tN "SUPPRESSED_SENTINEL" Bundle.listD A U H ∧ vk_R RX6 108 "the shaft stands, or there is no power" (sa 0) U ∧ vk_R RX6 117 "the degrees are not 0 to 3600" (sa 1) U ∧ vk_R RX6 132 "the shaft does not stand, or there is no pattern or no power" (sa 2) U ∧ vk_R RX6 136 "the degrees are not 0 to 1080" (sa 3) U ∧ va_Nc "java/lang/IllegalArgumentException" "java/lang/IllegalStateException" U ∧ va_Nw (.castable "java/lang/IllegalStateException" "java/lang/IllegalStateException") U ∧ va_Nw (.castable "java/lang/IllegalArgumentException" "java/lang/IllegalArgumentException") U ∧ va_Nw (.declares (Bundle.initS "java/lang/RuntimeException")) U ∧ va_Nw (.declares (Bundle.initS "java/lang/Exception")) U ∧ va_Nw (.declares (Bundle.initS Bundle.tN)) U
theorem jx_Y.down {tA : Nat} {sa : Nat → Nat} {A B : Nat → Prop} {s U : State} {H0 H : Heap} {locs : List Loc} (h : jx_Y tA sa A s H0) (hW : s.WarmedH U.vm) (hS : va_S A H0 H locs) (hAB : ∀ q, B q → A q) : jx_Y tA sa B U H := by
  obtain ⟨h1, h2, h3, h4, h5, h6, h7, h8, h9, h10, h11, h12, h13⟩ := h
  have hk : ∀ a : Nat, a < H0.size → ¬ A a → H[a]? = H0[a]? := fun a h5 h6 => hS.2.1 a h5 h6
  exact ⟨h1.down hW hS hAB, ((h2.kept hk).moved hW.alike).narrow hAB, ((h3.kept hk).moved hW.alike).narrow hAB, h4.warm hW, h5.warm hW, h6.warm hW, h7.warm hW, h8.moved hW.alike, va_Nw.warmC hW h9, va_Nw.warmC hW h10, va_Nw.warmD hW h11, va_Nw.warmD hW h12, va_Nw.warmD hW h13⟩
theorem jx_Y.calls {tA : Nat} {sa : Nat → Nat} {A : Nat → Prop} {U : State} {H : Heap} {g : JFrame} {mk : MethodId} {a : Array Value} (h : jx_Y tA sa A U H) : jx_Y tA sa A (U.calling g mk a) H := by
  obtain ⟨h1, h2, h3, h4, h5, h6, h7, h8, h9, h10, h11, h12, h13⟩ := h
  exact ⟨h1.calls, h2.moved (Vm.Alike.refl U.vm), h3.moved (Vm.Alike.refl U.vm), h4.same rfl, h5.same rfl, h6.same rfl, h7.same rfl, h8.moved (Vm.Alike.refl U.vm), va_Nw.same rfl rfl h9, va_Nw.same rfl rfl h10, va_Nw.same rfl rfl h11, va_Nw.same rfl rfl h12, va_Nw.same rfl rfl h13⟩
def jx_PcY (D : va_G) (tys : List (ClassId × FieldType)) (tA : Nat) (sa : Nat → Nat) (av : List Value) (w0 : va_W) (sz : Nat) : Array Value → State → Prop :=
  va_Pc av (fun U => U.heap.size = sz ∧ va_P D vwCl w0 U.heap ∧ va_K D vwCl tys U ∧ va_D (fun _ => True) w0 ∧ jx_Y tA sa (va_A w0 sz) U U.heap)
/-- a contract: returns or throws; one cell may be new -/
def jx_MX (l : Launch) (y : MethodName) (ws : List Cond) (rm : Room) (D : va_G) (tys : List (ClassId × FieldType)) (tA : Nat) (sa : Nat → Nat) (av : List Value) (w0 : va_W) (Qc : (Nat → Prop) → Array Value → State → Outcome → State → Prop) (XC : (Nat → Prop) → String → State → State → Prop) : Prop :=
  ∀ sz : Nat, vx_Met l y ws rm (jx_PcY D tys tA sa av w0 sz) (Qc (va_A w0 sz)) (XC (va_A w0 sz)) 1 6 (va_A w0 sz)
/-- what is thrown, and the world unchanged -/
def jx_XC (D : va_G) (tys : List (ClassId × FieldType)) (px : String → Prop) (w0 : va_W) (A : Nat → Prop) : String → State → State → Prop := vx_X (S := Unit) (fun _ => True) (fun E _ t => px E ∧ va_P D vwCl w0 t.heap ∧ va_K D vwCl tys t ∧ va_D A w0) A
theorem jx_ofX {l : Launch} {y : MethodName} {ws ws' : List Cond} {rm : Room} {D : va_G} {tys : List (ClassId × FieldType)} {tA : Nat} {sa : Nat → Nat} {av : List Value} {w0 : va_W} {Qc : (Nat → Prop) → Array Value → State → Outcome → State → Prop} {XC : (Nat → Prop) → String → State → State → Prop} {cc : ByteArray} {maxL : Nat} {ret : Option FieldType}
    (hy : plainName y.cls = true) (hw : ws = Cond.code y cc maxL ret :: ws') (hent : (lg_sl av).length ≤ maxL)
    (body : ∀ (p : Program) (e : Env) (s : State) (m : MethodId) (below : List Frame) (meth : Method) (c : Code) (A : Nat → Prop) (ls : Array Slot), p.tables.exec = Jvm.exec → c.code = cc → meth.sig.returnType = ret → meth.locks = false → c.maxLocals = maxL → s.vm.findClass y.cls = some m.cls → (∀ x ∈ c.exceptionTable.toList, False) → (∀ w ∈ ws, w.before av.toArray s = true) → va_K D vwCl tys s → va_P D vwCl w0 s.heap → va_D A w0 → (∀ q : Nat, s.heap.size ≤ q → A q) → va_S A s.heap s.heap [] → jx_Y tA sa A s s.heap → lv_has ls maxL (lv_args 0 av) →
      W p l e (headSpec ws rm).room s m av.toArray below meth c s.heap [] 0 0 (vx_MQ below (Qc A) (XC A) av.toArray s 1 6 A) (F0 m 0 ls [])) : jx_MX l y ws rm D tys tA sa av w0 Qc XC := by
  intro sz
  refine vx_ofW (cc := cc) (maxL := maxL) (ret := ret) hy hw ?_
  intro p e s m args below meth c s₁ B hml ht hv
  obtain ⟨rfl, hsz, hP, hK, hD0, hX⟩ := hv
  subst hsz
  have hl := lv_entry av (n := maxL) hent
  rw [lg_entry_eq]
  exact body p e s m below meth c _ _ B.exec B.bytes B.returns B.notSynchronized hml (findClass_of_methodNamed B.named) ht (atoms_spec (ws := ws) B.pre) hK hP (hD0.self (sz := s.heap.size)) (fun q h => Or.inr h) va_S.rf hX hl
theorem jx_ofXH {l : Launch} {y : MethodName} {ws ws' : List Cond} {rm : Room} {D : va_G} {tys : List (ClassId × FieldType)} {tA : Nat} {sa : Nat → Nat} {av : List Value} {w0 : va_W} {Qc : (Nat → Prop) → Array Value → State → Outcome → State → Prop} {XC : (Nat → Prop) → String → State → State → Prop} {cc : ByteArray} {maxL : Nat} {ret : Option FieldType} {hh : List (Nat × Nat × Nat × Nat)}
    (hy : plainName y.cls = true) (hw : ws = Cond.codeWith y cc maxL ret hh :: ws') (hent : (lg_sl av).length ≤ maxL)
    (body : ∀ (p : Program) (e : Env) (s : State) (m : MethodId) (below : List Frame) (meth : Method) (c : Code) (A : Nat → Prop) (ls : Array Slot), p.tables.exec = Jvm.exec → c.code = cc → meth.sig.returnType = ret → meth.locks = false → c.maxLocals = maxL → s.vm.findClass y.cls = some m.cls → c.exceptionTable.toList = tableOf hh → (∀ w ∈ ws, w.before av.toArray s = true) → va_K D vwCl tys s → va_P D vwCl w0 s.heap → va_D A w0 → (∀ q : Nat, s.heap.size ≤ q → A q) → va_S A s.heap s.heap [] → jx_Y tA sa A s s.heap → lv_has ls maxL (lv_args 0 av) →
      W p l e (headSpec ws rm).room s m av.toArray below meth c s.heap [] 0 0 (vx_MQ below (Qc A) (XC A) av.toArray s 1 6 A) (F0 m 0 ls [])) : jx_MX l y ws rm D tys tA sa av w0 Qc XC := by
  intro sz
  refine vx_ofWH (cc := cc) (maxL := maxL) (ret := ret) (hh := hh) hy hw ?_
  intro p e s m args below meth c s₁ B hml hv
  obtain ⟨rfl, hsz, hP, hK, hD0, hX⟩ := hv
  subst hsz
  have hl := lv_entry av (n := maxL) hent
  have ht := vx_table (x := y) B (atoms_spec (ws := ws) B.pre _ (by rw [hw]; exact List.mem_cons_self))
  rw [lg_entry_eq]
  exact body p e s m below meth c _ _ B.exec B.bytes B.returns B.notSynchronized hml (findClass_of_methodNamed B.named) ht (atoms_spec (ws := ws) B.pre) hK hP (hD0.self (sz := s.heap.size)) (fun q h => Or.inr h) va_S.rf hX hl
section JXX
variable {p : Program} {l : Launch} {e : Env} {R : Room} {s : State} {m : MethodId} {args : Array Value} {below : List Frame} {meth : Method} {c : Code} {H : Heap} {locs : List Loc} {cells slots : Nat} {Q : State → Prop}
variable {D : va_G} {tys : List (ClassId × FieldType)} {A : Nat → Prop} {cc : ByteArray} {pc : Nat} {ls : Array Slot} {w : va_W}
theorem jx_dretX {S : Type} {post : UInt64 → S → Prop} {w1 : S → va_W} {XC : String → State → State → Prop} {v : UInt64} (u : S) (hx : p.tables.exec = Jvm.exec) (hb : c.code = cc) (hr : meth.sig.returnType = some .double) (hlocks : meth.locks = false) (hK : va_K D vwCl tys s) (hP : va_P D vwCl w H) (hD : va_D A w) (hS : va_S A s.heap H locs) (hw : w = w1 u) (hpost : post v u) (hdg : decode cc pc = .ok (.dreturn, 1)) (hc : cells ≤ 1) (hs : slots ≤ 6) :
    W p l e R s m args below meth c H locs cells slots (vx_MQ below (jx_Qd D tys post w1 A) XC args s 1 6 A) (F0 m pc ls [.double v]) := by
  subst hw
  exact vx_ret (W.widen hc hs (W.dret hx hb hr (fun t ht hW => ⟨⟨v, u, rfl, hpost, by rw [ht]; exact hP, va_K.moved hW.alike hK, hD⟩, hS.F ht⟩) hS.2.2 hdg))
theorem jx_iretX {S : Type} {post : Int32 → S → Prop} {w1 : S → va_W} {XC : String → State → State → Prop} {v : Int32} (u : S) (hx : p.tables.exec = Jvm.exec) (hb : c.code = cc) (hr : meth.sig.returnType = some .int) (hlocks : meth.locks = false) (hK : va_K D vwCl tys s) (hP : va_P D vwCl w H) (hD : va_D A w) (hS : va_S A s.heap H locs) (hw : w = w1 u) (hpost : post v u) (hdg : decode cc pc = .ok (.ireturn, 1)) (hc : cells ≤ 1) (hs : slots ≤ 6) :
    W p l e R s m args below meth c H locs cells slots (vx_MQ below (jx_Qi D tys post w1 A) XC args s 1 6 A) (F0 m pc ls [.int v]) := by
  subst hw
  exact vx_ret (W.widen hc hs (W.iret hx hb hr (fun t ht hW => ⟨⟨v, u, rfl, hpost, by rw [ht]; exact hP, va_K.moved hW.alike hK, hD⟩, hS.F ht⟩) hS.2.2 hdg hlocks))
variable {H0 : Heap} {ws wc wr : va_W} {rest st0 : List Value} {a : Array Value} {tA : Nat} {sa : Nat → Nat}
theorem jx_preY {av : List Value} (hP : va_P D vwCl wc H) (hD : va_D (fun _ => True) wc) (hK : va_K D vwCl tys s) (hX : jx_Y tA sa A s H0) (hS : va_S A H0 H locs) (hF : ∀ q, va_A wc H.size q → A q) : FrameBlind (jx_PcY D tys tA sa av wc H.size) ∧ ∀ U : State, U.heap = H → s.WarmedH U.vm → jx_PcY D tys tA sa av wc H.size av.toArray U := by
  refine ⟨fun a U g mk q => ?_, fun U hU hW => ⟨rfl, by rw [hU], by rw [hU]; exact hP, va_K.moved hW.alike hK, hD, ?_⟩⟩
  · obtain ⟨q0, q1, qP, qK, qD, qX⟩ := q
    exact ⟨q0, q1, qP, va_K.moved (u := U) (U := U.calling g mk a) (Vm.Alike.refl U.vm) qK, qD, qX.calls⟩
  · rw [hU]
    exact hX.down hW hS hF
theorem jx_runVX {Ts wsY ws' : List Cond} {own C : String} {index maxL nL n ci q0 : Nat} {y : MethodName} {bytes : ByteArray} {ret : Option FieldType} {rm : Room} {Qc : (Nat → Prop) → Array Value → State → Outcome → State → Prop} {XC : (Nat → Prop) → String → State → State → Prop} {b : Addr} {As : List Value} {q : vw_C} {fs : List Value}
    (hx : p.tables.exec = Jvm.exec) (hb : c.code = cc) (hml : c.maxLocals = nL) (hown : s.vm.findClass own = some m.cls) (hts : ∀ w ∈ Ts, w.before args s = true) (hK : va_K D vwCl tys s) (hX : jx_Y tA sa A s H0) (hS : va_S A H0 H locs) (hls : ls.size = nL)
    (hM : jx_MX l y wsY rm D tys tA sa (.ref b :: As) wc Qc XC) (hT : GoodIn Ts (wsV own index C y wsY)) (hw : wsY = Cond.code y bytes maxL ret :: ws') (hrc : rm.cells = 1) (hrs : rm.slots = 6)
    (hd : y.cls = C ∧ y.cls ≠ "java/lang/invoke/MethodHandle" ∧ y.cls ≠ "java/lang/invoke/VarHandle" ∧ (parseMethodDescriptor y.desc).map (fun d => d.parameters.length) = some n) (hRm : rm.frames + 1 ≤ R.frames ∧ 8 + (maxL + 11) + rm.locals ≤ R.locals)
    (hc : vwCl[ci]? = some q) (hqC : q.1 = C) (he : wc[q0]? = some (b, .inr (ci, fs))) (hn : As.length = n) (hst : st0 = As.reverse ++ .ref b :: rest) (hW : (rest.map fun v => v.category).sum ≤ 8) (hdg : decode cc pc = .ok (.invokevirtual index, 3)) (hf : cells + 1 ≤ R.cells ∧ slots + 6 ≤ R.slots)
    (hPc : va_P D vwCl wc H) (hDc : va_D (fun _ => True) wc) (hF : ∀ q, va_A wc H.size q → A q) :
    vx_Run p l e R s m args below meth c H locs cells slots 1 6 (F0 m pc ls st0) rest (Qc (va_A wc H.size) (Value.ref b :: As).toArray) (XC (va_A wc H.size)) (va_A wc H.size) := by
  have hp := jx_preY (av := .ref b :: As) hPc hDc hK hX hS hF
  subst hqC
  exact vx_runV (As := As) (rest := rest) ⟨hx, hb, hml, hown, hts⟩ (hM H.size) (cwV n hts hT hw hrc hrs hd hRm) ⟨hp.1, va_recv hK hPc hc he, hp.2⟩ rfl hn hls hst (lv_room hW) hdg hf
theorem jx_runSX {Ts wsY ws' : List Cond} {own : String} {index maxL nL n : Nat} {y : MethodName} {bytes : ByteArray} {ret : Option FieldType} {rm : Room} {Qc : (Nat → Prop) → Array Value → State → Outcome → State → Prop} {XC : (Nat → Prop) → String → State → State → Prop} {hh : List (Nat × Nat × Nat × Nat)} {As : List Value}
    (hx : p.tables.exec = Jvm.exec) (hb : c.code = cc) (hml : c.maxLocals = nL) (hown : s.vm.findClass own = some m.cls) (hts : ∀ w ∈ Ts, w.before args s = true) (hK : va_K D vwCl tys s) (hX : jx_Y tA sa A s H0) (hS : va_S A H0 H locs) (hls : ls.size = nL)
    (hM : jx_MX l y wsY rm D tys tA sa As wc Qc XC) (hT : GoodIn Ts (va_wsS own index y wsY)) (hw : wsY = Cond.codeWith y bytes maxL ret hh :: ws') (hrc : rm.cells = 1) (hrs : rm.slots = 6)
    (hd : y.cls ≠ "java/lang/invoke/MethodHandle" ∧ y.cls ≠ "java/lang/invoke/VarHandle" ∧ (parseMethodDescriptor y.desc).map (fun d => d.parameters.length) = some n) (hRm : rm.frames + 1 ≤ R.frames ∧ 8 + (maxL + 11) + rm.locals ≤ R.locals)
    (hn : As.length = n) (hst : st0 = As.reverse ++ rest) (hW : (rest.map fun v => v.category).sum ≤ 8) (hdg : decode cc pc = .ok (.invokestatic index, 3)) (hf : cells + 1 ≤ R.cells ∧ slots + 6 ≤ R.slots)
    (hPc : va_P D vwCl wc H) (hDc : va_D (fun _ => True) wc) (hF : ∀ q, va_A wc H.size q → A q) :
    vx_Run p l e R s m args below meth c H locs cells slots 1 6 (F0 m pc ls st0) rest (Qc (va_A wc H.size) As.toArray) (XC (va_A wc H.size)) (va_A wc H.size) := by
  have hp := jx_preY (av := As) hPc hDc hK hX hS hF
  exact vx_runSX (As := As) (rest := rest) (hh := hh) ⟨hx, hb, hml, hown, hts⟩ (hM H.size) (vx_cwSW n hts hT hw hrc hrs hd hRm) hp rfl hn hls hst (lv_room hW) hdg hf
/-- a call that gives a double or throws -/
theorem jx_calldX {S : Type} {post : UInt64 → S → Prop} {px : String → Prop} {w1 : S → va_W} (hP : va_P D vwCl ws H) (hD : va_D A ws) (hS : va_S A H0 H locs) (hA : ∀ q : Nat, H0.size ≤ q → A q) (hK : va_K D vwCl tys s) (isC isR : List Nat) (hC : isC.map (fun i => ws[i]?) = wc.map some) (hR : isR.map (fun i => ws[i]?) = wr.map some) (hnC : va_nd isC = true) (hn : va_nd isR = true) (hdis : ∀ i ∈ isR, i ∉ isC)
    (hr : va_P D vwCl wc H → va_D (fun _ => True) wc → (∀ q, va_A wc H.size q → A q) → vx_Run p l e R s m args below meth c H locs cells slots 1 6 (F0 m pc ls st0) rest (jx_Qd D tys post w1 (va_A wc H.size) a) (jx_XC D tys px wc (va_A wc H.size)) (va_A wc H.size))
    (kx : ∀ (E : String) (ce : Cell) (q9 : Addr) (H1 : Heap) (locs1 : List Loc), px E → va_P D vwCl (wr ++ wc) H1 → va_D A (wr ++ wc) → va_S A H0 H1 locs1 → H1[q9]? = some ce → ce.vm = .none → s.vm.findClass E = some ce.cls → vx_W p l e R s m args below meth c H1 locs1 (cells + 1) (slots + 6) Q (F0 m pc ls rest) q9)
    (kk : ∀ (r : UInt64) (u : S) (H1 : Heap) (locs1 : List Loc), post r u → va_P D vwCl (wr ++ w1 u) H1 → va_D A (wr ++ w1 u) → va_S A H0 H1 locs1 → W p l e R s m args below meth c H1 locs1 (cells + 1) (slots + 6) Q (F0 m (pc + 3) ls (.double r :: rest))) : W p l e R s m args below meth c H locs cells slots Q (F0 m pc ls st0) := by
  obtain ⟨hPc, hDc, hFc⟩ := jx_cut1 hP hD hS hA isC hC hnC
  refine vx_calld (hr hPc hDc hFc) hS (fun q _ h => hFc q h) hFc (fun q _ h => hFc q h) (fun E ce q9 u t H1 locs1 ht hvm hpx hB hz1 hk1 hS1 hce hcv hcl => ?_) (fun r u t H1 locs1 ht hvm hw hB hz1 hk1 hS1 => ?_)
  · obtain ⟨hE, hP1, hK1, hD1⟩ := hB
    rw [ht] at hP1
    obtain ⟨hP2, hD2⟩ := va_join (wr := wr) hP hD isC isR hC hR hn hdis hk1 hFc hP1 hD1
    exact kx E ce q9 H1 locs1 hE hP2 hD2 hS1 hce hcv hcl
  · obtain ⟨hP1, hK1, hD1⟩ := hB
    rw [ht] at hP1
    obtain ⟨hP2, hD2⟩ := va_join (wr := wr) hP hD isC isR hC hR hn hdis hk1 hFc hP1 hD1
    exact kk r u H1 locs1 hw hP2 hD2 hS1
/-- a call that gives an int; it may throw only what can't be -/
theorem jx_calliX {S : Type} {post : Int32 → S → Prop} {px : String → Prop} {w1 : S → va_W} (hpx : ∀ E, ¬ px E) (hP : va_P D vwCl ws H) (hD : va_D A ws) (hS : va_S A H0 H locs) (hA : ∀ q : Nat, H0.size ≤ q → A q) (hK : va_K D vwCl tys s) (isC isR : List Nat) (hC : isC.map (fun i => ws[i]?) = wc.map some) (hR : isR.map (fun i => ws[i]?) = wr.map some) (hnC : va_nd isC = true) (hn : va_nd isR = true) (hdis : ∀ i ∈ isR, i ∉ isC)
    (hr : va_P D vwCl wc H → va_D (fun _ => True) wc → (∀ q, va_A wc H.size q → A q) → vx_Run p l e R s m args below meth c H locs cells slots 1 6 (F0 m pc ls st0) rest (jx_Qi D tys post w1 (va_A wc H.size) a) (jx_XC D tys px wc (va_A wc H.size)) (va_A wc H.size))
    (kk : ∀ (r : Int32) (u : S) (H1 : Heap) (locs1 : List Loc), post r u → va_P D vwCl (wr ++ w1 u) H1 → va_D A (wr ++ w1 u) → va_S A H0 H1 locs1 → W p l e R s m args below meth c H1 locs1 (cells + 1) (slots + 6) Q (F0 m (pc + 3) ls (.int r :: rest))) : W p l e R s m args below meth c H locs cells slots Q (F0 m pc ls st0) := by
  obtain ⟨hPc, hDc, hFc⟩ := jx_cut1 hP hD hS hA isC hC hnC
  refine vx_calli (hr hPc hDc hFc) hS (fun q _ h => hFc q h) hFc (fun q _ h => hFc q h) (fun E ce q9 u t H1 locs1 ht hvm hpx' hB hz1 hk1 hS1 hce hcv hcl => absurd hB.1 (hpx E)) (fun r u t H1 locs1 ht hvm hw hB hz1 hk1 hS1 => ?_)
  obtain ⟨hP1, hK1, hD1⟩ := hB
  rw [ht] at hP1
  obtain ⟨hP2, hD2⟩ := va_join (wr := wr) hP hD isC isR hC hR hn hdis hk1 hFc hP1 hD1
  exact kk r u H1 locs1 hw hP2 hD2 hS1
end JXX
set_option maxRecDepth 20000 in
theorem ldk_ng1 : ∀ w ∈ (vx_atS RX6 110 "java/lang/IllegalStateException" ["java/lang/RuntimeException", "java/lang/Exception"]).filter (fun w => !goodWord w), w ∈ [Cond.castable "java/lang/IllegalStateException" "java/lang/IllegalStateException", Cond.declares (Bundle.initS "java/lang/RuntimeException"), Cond.declares (Bundle.initS "java/lang/Exception"), Cond.declares (Bundle.initS Bundle.tN)] := by decide +kernel
set_option maxRecDepth 20000 in
theorem ldk_ng2 : ∀ w ∈ (vx_atS RX6 119 "java/lang/IllegalArgumentException" ["java/lang/RuntimeException", "java/lang/Exception"]).filter (fun w => !goodWord w), w ∈ [Cond.castable "java/lang/IllegalArgumentException" "java/lang/IllegalArgumentException", Cond.declares (Bundle.initS "java/lang/RuntimeException"), Cond.declares (Bundle.initS "java/lang/Exception"), Cond.declares (Bundle.initS Bundle.tN)] := by decide +kernel
set_option maxRecDepth 20000 in
theorem ldk_gd1 : ∀ w ∈ Cond.classLink RX6 106 "java/lang/IllegalStateException" :: Cond.initialized "java/lang/IllegalStateException" :: vx_atS RX6 110 "java/lang/IllegalStateException" ["java/lang/RuntimeException", "java/lang/Exception"], vx_ot w = true := by decide +kernel
set_option maxRecDepth 20000 in
theorem ldk_gd2 : ∀ w ∈ Cond.classLink RX6 115 "java/lang/IllegalArgumentException" :: Cond.initialized "java/lang/IllegalArgumentException" :: vx_atS RX6 119 "java/lang/IllegalArgumentException" ["java/lang/RuntimeException", "java/lang/Exception"], vx_ot w = true := by decide +kernel
theorem ldk_hat1 {args : Array Value} {s : State} {Ts : List Cond} (hc : va_Nw (.castable "java/lang/IllegalStateException" "java/lang/IllegalStateException") s) (hd0 : va_Nw (.declares (Bundle.initS "java/lang/RuntimeException")) s) (hd1 : va_Nw (.declares (Bundle.initS "java/lang/Exception")) s) (hd2 : va_Nw (.declares (Bundle.initS Bundle.tN)) s) (hts : ∀ w ∈ Ts, w.before args s = true) (hin : ∀ w ∈ (vx_atS RX6 110 "java/lang/IllegalStateException" ["java/lang/RuntimeException", "java/lang/Exception"]).filter goodWord, w ∈ Ts) : ∀ w ∈ vx_atS RX6 110 "java/lang/IllegalStateException" ["java/lang/RuntimeException", "java/lang/Exception"], w.before args s = true :=
  vx_hat (fun w h => hts w (hin w h)) ldk_ng1 (vx_c (va_Nw.use rfl hc) (vx_c (va_Nw.use rfl hd0) (vx_c (va_Nw.use rfl hd1) (vx_c (va_Nw.use rfl hd2) vx_n))))
theorem ldk_hat2 {args : Array Value} {s : State} {Ts : List Cond} (hc : va_Nw (.castable "java/lang/IllegalArgumentException" "java/lang/IllegalArgumentException") s) (hd0 : va_Nw (.declares (Bundle.initS "java/lang/RuntimeException")) s) (hd1 : va_Nw (.declares (Bundle.initS "java/lang/Exception")) s) (hd2 : va_Nw (.declares (Bundle.initS Bundle.tN)) s) (hts : ∀ w ∈ Ts, w.before args s = true) (hin : ∀ w ∈ (vx_atS RX6 119 "java/lang/IllegalArgumentException" ["java/lang/RuntimeException", "java/lang/Exception"]).filter goodWord, w ∈ Ts) : ∀ w ∈ vx_atS RX6 119 "java/lang/IllegalArgumentException" ["java/lang/RuntimeException", "java/lang/Exception"], w.before args s = true :=
  vx_hat (fun w h => hts w (hin w h)) ldk_ng2 (vx_c (va_Nw.use rfl hc) (vx_c (va_Nw.use rfl hd0) (vx_c (va_Nw.use rfl hd1) (vx_c (va_Nw.use rfl hd2) vx_n))))
theorem jx_thrown {s : State} {H : Heap} {locs : List Loc} {D : va_G} {tys : List (ClassId × FieldType)} {A : Nat → Prop} {w : va_W} {px : String → Prop} {E : String} (hP : va_P D vwCl w H) (hK : va_K D vwCl tys s) (hD : va_D A w) (hS : va_S A s.heap H locs) (hE : px E) : ∀ t : State, s.vm.Alike t.vm → H.size ≤ t.heap.size → (∀ q : Nat, q < H.size → t.heap[q]? = H[q]?) → jx_XC D tys px w A E s t :=
  fun t ha hz hk => ⟨(), trivial, ⟨hE, hP.kept (fun k q h => hk _ (vx_lt hP h)), va_K.moved ha hK, hD⟩, ⟨Nat.le_trans hS.1 hz, fun q h1 h2 => by rw [hk q (Nat.lt_of_lt_of_le h1 hS.1)]; exact hS.2.1 q h1 h2⟩⟩
