/-! ===== a method that answers a reference: Reader.exchange ===== -/
section JXREF
variable {p : Program} {l : Launch} {e : Env} {R : Room} {s : State} {m : MethodId} {args : Array Value} {below : List Frame} {meth : Method} {c : Code} {H : Heap} {locs : List Loc} {cells slots : Nat} {Q : State → Prop}
variable {D : va_G} {tys : List (ClassId × FieldType)} {A : Nat → Prop} {cc : ByteArray} {pc : Nat} {ls : Array Slot} {w : va_W}
theorem jx_aret {S : Type} {post : S → Prop} {ra : S → Nat} {w1 : S → va_W} {n : String} (u : S) (hx : p.tables.exec = Jvm.exec) (hb : c.code = cc) (hr : meth.sig.returnType = some (.object n)) (hlocks : meth.locks = false) (hK : va_K D vwCl tys s) (hP : va_P D vwCl w H) (hD : va_D A w) (hS : va_S A s.heap H locs) (hw : w = w1 u) (hpost : post u) (hdg : decode cc pc = .ok (.areturn, 1)) :
    W p l e R s m args below meth c H locs 0 0 (MQ below (jx_Qr D tys post ra w1 A) args s 0 0 A) (F0 m pc ls [.ref (ra u)]) := by
  subst hw
  exact W.aret hx hb hr (Or.inl ⟨n, rfl⟩) (Or.inr ⟨_, rfl⟩) (fun t ht hW => ⟨⟨u, ra u, rfl, hpost, rfl, by rw [ht]; exact hP, va_K.moved hW.alike hK, hD⟩, hS.F ht⟩) hS.2.2 hdg hlocks
variable {H0 : Heap} {ws wc wr : va_W} {rest st0 : List Value} {a : Array Value} {tA : Nat}
theorem jx_callr {S : Type} {post : S → Prop} {ra : S → Nat} {w1 : S → va_W} (hP : va_P D vwCl ws H) (hD : va_D A ws) (hS : va_S A H0 H locs) (hA : ∀ q : Nat, H0.size ≤ q → A q) (hK : va_K D vwCl tys s) (isC isR : List Nat) (hC : isC.map (fun i => ws[i]?) = wc.map some) (hR : isR.map (fun i => ws[i]?) = wr.map some) (hnC : va_nd isC = true) (hn : va_nd isR = true) (hdis : ∀ i ∈ isR, i ∉ isC)
    (hr : va_P D vwCl wc H → va_D (fun _ => True) wc → (∀ q, va_A wc H.size q → A q) → va_Run p l e R s m args below meth c H locs cells slots 0 0 (F0 m pc ls st0) rest (jx_Qr D tys post ra w1 (va_A wc H.size) a) (va_A wc H.size))
    (kk : ∀ (u : S) (H1 : Heap) (locs1 : List Loc), post u → va_P D vwCl (wr ++ w1 u) H1 → va_D A (wr ++ w1 u) → va_S A H0 H1 locs1 → W p l e R s m args below meth c H1 locs1 cells slots Q (F0 m (pc + 3) ls (.ref (ra u) :: rest))) : W p l e R s m args below meth c H locs cells slots Q (F0 m pc ls st0) := by
  obtain ⟨hPc, hDc, hFc⟩ := jx_cut1 hP hD hS hA isC hC hnC
  refine va_callr (hr hPc hDc hFc) hS (fun q _ h => hFc q h) hFc (fun u r t H1 locs1 ht hvm hw hB hz1 hk1 hS1 => ?_)
  obtain ⟨rfl, hP1, hK1, hD1⟩ := hB
  rw [ht] at hP1
  obtain ⟨hP2, hD2⟩ := va_join (wr := wr) hP hD isC isR hC hR hn hdis hk1 hFc hP1 hD1
  exact kk u H1 locs1 hw hP2 hD2 hS1
end JXREF
set_option maxRecDepth 20000 in
theorem iX2_exchange_2 : ∀ w ∈ wsX20, w ∈ wsX2_exchange := by decide +kernel
set_option maxHeartbeats 4000000 in
set_option maxRecDepth 100000 in
/-- exchange(old): the goal is answered, old is the goal then -/
theorem kX2_exchange (l : Launch) (D : va_G) (cI cJ cZ cD : ClassId) (tA : Nat) (h : Nat) (R : Nat → Nat) (I : Nat → Int32) (L : Nat → Int64) (a0 : Nat) : jx_M l yX2_exchange wsX2_exchange ({ frames := 0, cells := 0, slots := 0, locals := 0 }) D (jT cI cJ cZ cD) tA [.ref h, .ref a0] [(h, .inr (2, (oX2 R I L)))] (jx_Qr D (jT cI cJ cZ cD) (fun (_ : Unit) => True) (fun _ => R 1) (fun _ => [(h, .inr (2, (oX2 (va_up R 1 a0) I L)))])) := by
  refine jx_of (cc := cX2_exchange) (maxL := 3) (ret := (some (.object "LoomDesk$Pattern"))) (by decide +kernel) rfl (Nat.le_of_ble_eq_true rfl) ?_
  intro p e s m below meth c A ls hx hb hr hlocks hml hown hts hK hP hD hA hS hX hl
  have hl : lv_has ls 3 [(0, .ref h), (1, .ref a0)] := hl
  have hown : s.vm.findClass RX2 = some m.cls := hown
  have hk21 := hts (.fieldLink RX2 21 "LoomDesk$Reader" "goal" "LLoomDesk$Pattern;") (by decide +kernel)
  refine lv_aload_n hx hb dX2_exchange_0 rfl (lv_at hl 0 rfl) ?_
  refine jx_get (v := .ref (R 1)) hx hb hts iX2_exchange_2 hown hK hP 0 rfl rfl 1 (by decide) hk21 rfl rfl dX2_exchange_1 ?_
  refine lv_astore_n (lv' := [(2, .ref (R 1)), (0, .ref h), (1, .ref a0)]) hx hb dX2_exchange_4 rfl hl (by decide) rfl (fun ls hl => ?_)
  refine lv_aload_n hx hb dX2_exchange_5 rfl (lv_at hl 1 rfl) ?_
  refine lv_aload_n hx hb dX2_exchange_6 rfl (lv_at hl 2 rfl) ?_
  refine jx_put (w2 := [(h, .inr (2, (oX2 (va_up R 1 a0) I L)))]) hx hb hts iX2_exchange_2 tyX2 tyX2_ok nmX2 hown hK hP hD hS 0 rfl rfl 1 (by decide) hk21 rfl rfl rfl rfl (Nat.le_of_ble_eq_true rfl) dX2_exchange_7 rfl (fun H locs hP hD hS => ?_)
  refine lv_aload_n hx hb dX2_exchange_10 rfl (lv_at hl 0 rfl) ?_
  exact jx_aret (ra := fun _ => R 1) () hx hb hr hlocks hK hP hD hS rfl trivial dX2_exchange_11
