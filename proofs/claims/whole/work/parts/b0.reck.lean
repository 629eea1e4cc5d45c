/-! ===== the reference's reckoning over chains of items ===== -/
/-- the last that is told -/
def ldk_lst (g : Nat → Int32) : Int32 → List Nat → Int32
  | s, [] => s
  | s, x :: xs => ldk_lst g (if g x = (-1 : Int32) then s else g x) xs
def ldk_fs (t : Nat → Int64) : Int64 → List Nat → Int64
  | s, [] => s
  | s, x :: xs => ldk_fs t (sX7_sum s (t x)) xs
theorem ldk_lst_ext {g h : Nat → Int32} : ∀ (xs : List Nat) (s : Int32), (∀ j, j ∈ xs → g j = h j) → ldk_lst g s xs = ldk_lst h s xs := by
  intro xs
  induction xs with
  | nil => intro s _; rfl
  | cons x xs ih =>
    intro s q
    show ldk_lst g (if g x = (-1 : Int32) then s else g x) xs = ldk_lst h (if h x = (-1 : Int32) then s else h x) xs
    rw [q x (List.mem_cons_self), ih _ (fun j hj => q j (List.mem_cons_of_mem _ hj))]
theorem ldk_fs_ext {g h : Nat → Int64} : ∀ (xs : List Nat) (s : Int64), (∀ j, j ∈ xs → g j = h j) → ldk_fs g s xs = ldk_fs h s xs := by
  intro xs
  induction xs with
  | nil => intro s _; rfl
  | cons x xs ih =>
    intro s q
    show ldk_fs g (sX7_sum s (g x)) xs = ldk_fs h (sX7_sum s (h x)) xs
    rw [q x (List.mem_cons_self), ih _ (fun j hj => q j (List.mem_cons_of_mem _ hj))]
theorem ldk_lst_app {g : Nat → Int32} (y : Nat) : ∀ (xs : List Nat) (s : Int32), ldk_lst g s (xs ++ [y]) = (if g y = (-1 : Int32) then ldk_lst g s xs else g y) := by
  intro xs
  induction xs with
  | nil => intro s; rfl
  | cons x xs ih => intro s; exact ih _
theorem ldk_ch_mem {f5 : Nat → Int32} : ∀ (xs : List Nat) (k e : Nat), ldk_ch f5 k xs e → ∀ j, j ∈ xs → k ≤ j ∧ j < e := by
  intro xs
  induction xs with
  | nil => intro k e _ j hj; exact absurd hj (List.not_mem_nil)
  | cons x xs ih =>
    intro k e h j hj
    obtain ⟨h1, y, h2, h3, h4, h5⟩ := h
    rcases List.mem_cons.mp hj with z | z
    · subst z; omega
    · have := ih y e h5 j z; omega
theorem ldk_ch_le {f5 : Nat → Int32} : ∀ (xs : List Nat) (k e : Nat), ldk_ch f5 k xs e → k ≤ e ∧ xs.length ≤ e - k := by
  intro xs
  induction xs with
  | nil => intro k e h; have h : k = e := h; subst h; exact ⟨Nat.le_refl _, Nat.zero_le _⟩
  | cons x xs ih =>
    intro k e h
    obtain ⟨h1, y, h2, h3, h4, h5⟩ := h
    have := ih y e h5
    rw [List.length_cons]; omega
theorem ldk_ch_ext {f5 g5 : Nat → Int32} : ∀ (xs : List Nat) (k e : Nat), ldk_ch f5 k xs e → (∀ j, j ∈ xs → g5 j = f5 j) → ldk_ch g5 k xs e := by
  intro xs
  induction xs with
  | nil => intro k e h _; exact h
  | cons x xs ih =>
    intro k e h q
    obtain ⟨h1, y, h2, h3, h4, h5⟩ := h
    exact ⟨h1, y, h2, h3, by rw [← h1, q x (List.mem_cons_self), h1]; exact h4, ih y e h5 (fun j hj => q j (List.mem_cons_of_mem _ hj))⟩
theorem ldk_ch_app {f5 : Nat → Int32} : ∀ (xs : List Nat) (k e b : Nat), ldk_ch f5 k xs b → b < e → f5 b = nI e → ldk_ch f5 k (xs ++ [b]) e := by
  intro xs
  induction xs with
  | nil =>
    intro k e b h h1 h2
    have h : k = b := h
    subst h
    exact ⟨rfl, e, h1, Nat.le_refl _, h2, rfl⟩
  | cons x xs ih =>
    intro k e b h h1 h2
    obtain ⟨g1, y, g2, g3, g4, g5⟩ := h
    exact ⟨g1, y, g2, by omega, g4, ih y e b g5 h1 h2⟩
/-- one bracket is reckoned -/
theorem ldk_kF_ch {f3 f4 f5 : Nat → Int32} {k E : Nat} (hk : k < 160) (hE : E ≤ 160) (hf : f5 k = nI E) : ∀ (xs : List Nat) (m i : Nat) (x : LdkR), ldk_ch f5 i xs E → k < i → xs.length < m →
    ldk_kF f3 f4 f5 (nI k) m (nI i) x = (upd x.1 k (ldk_lst x.1 (x.1 k) xs), upd x.2.1 k (ldk_lst x.2.1 (x.2.1 k) xs), vp_updL x.2.2 k (ldk_fs (fun j => ldk_cnt f3 f4 x.2.2 (nI j)) (x.2.2 k) xs)) := by
  have ck : (nI k).toNatClampNeg = k := nI_clamp (by omega)
  have self : ∀ (g : Nat → Int32), upd g k (g k) = g := fun g => by
    funext j; by_cases h : j = k
    · subst h; rw [pk_us]
    · rw [pk_un h]
  have selfL : ∀ (g : Nat → Int64), vp_updL g k (g k) = g := fun g => by
    funext j; by_cases h : j = k
    · subst h; rw [pk_uLs]
    · rw [pk_uLn h]
  have twice : ∀ (g : Nat → Int32) (a b : Int32), upd (upd g k a) k b = upd g k b := fun g a b => by
    funext j; by_cases h : j = k
    · subst h; rw [pk_us, pk_us]
    · rw [pk_un h, pk_un h, pk_un h]
  have twiceL : ∀ (g : Nat → Int64) (a b : Int64), vp_updL (vp_updL g k a) k b = vp_updL g k b := fun g a b => by
    funext j; by_cases h : j = k
    · subst h; rw [pk_uLs, pk_uLs]
    · rw [pk_uLn h, pk_uLn h, pk_uLn h]
  intro xs
  induction xs with
  | nil =>
    intro m i x hc hi hm
    have hc : i = E := hc
    subst hc
    obtain ⟨m', rfl⟩ : ∃ m', m = m' + 1 := ⟨m - 1, by omega⟩
    have e : ldk_kF f3 f4 f5 (nI k) (m' + 1) (nI i) x = x := if_pos (by rw [ck, hf]; exact Int32.le_refl _)
    rw [e]
    show x = (upd x.1 k (x.1 k), upd x.2.1 k (x.2.1 k), vp_updL x.2.2 k (x.2.2 k))
    rw [self, self, selfL]
  | cons y xs ih =>
    intro m i x hc hi hm
    obtain ⟨h1, j, h2, h3, h4, h5⟩ := hc
    subst h1
    rw [List.length_cons] at hm
    obtain ⟨m', rfl⟩ : ∃ m', m = m' + 1 := ⟨m - 1, by omega⟩
    have cy : (nI y).toNatClampNeg = y := nI_clamp (by omega)
    have e : ldk_kF f3 f4 f5 (nI k) (m' + 1) (nI y) x = ldk_kF f3 f4 f5 (nI k) m' (nI j) (ldk_kS f3 f4 (nI k) (nI y) x) := by
      have hstep : ldk_kF f3 f4 f5 (nI k) (m' + 1) (nI y) x = ldk_kF f3 f4 f5 (nI k) m' (f5 (nI y).toNatClampNeg) (ldk_kS f3 f4 (nI k) (nI y) x) := if_neg (by rw [ck, hf]; exact nI_ge (by omega) (by omega))
      rw [hstep, cy, h4]
    rw [e, ih m' j _ h5 (by omega) (by omega)]
    unfold ldk_kS
    rw [ck, cy]
    dsimp only
    have mem : ∀ z, z ∈ xs → z ≠ k := fun z hz => by have := (ldk_ch_mem xs j E h5 z hz).1; omega
    have c1 : ∀ (v : Int64), ldk_fs (fun z => ldk_cnt f3 f4 (vp_updL x.2.2 k v) (nI z)) v xs = ldk_fs (fun z => ldk_cnt f3 f4 x.2.2 (nI z)) v xs := fun v => by
      refine ldk_fs_ext xs v (fun z hz => ?_)
      have cz : (nI z).toNatClampNeg = z := nI_clamp (by have := (ldk_ch_mem xs j E h5 z hz).2; omega)
      unfold ldk_cnt sX7_times
      rw [cz, pk_uLn (mem z hz)]
    rw [pk_us, pk_us, pk_uLs, twice, twice, twiceL, c1, ldk_lst_ext xs _ (fun z hz => pk_un (mem z hz)), ldk_lst_ext xs _ (fun z hz => pk_un (mem z hz))]
    rfl
/-- what is known of item i once it is reckoned -/
def ldk_R (f3 f4 : Nat → Int32) (X : Nat → List Nat) (x : LdkR) (i : Nat) : Prop :=
  x.1 i = ldk_lst x.1 (if f3 i = (1 : Int32) then f4 i else (-1 : Int32)) (X i) ∧ x.2.1 i = ldk_lst x.2.1 (if f3 i = (2 : Int32) then f4 i else (-1 : Int32)) (X i) ∧ x.2.2 i = ldk_fs (fun j => ldk_cnt f3 f4 x.2.2 (nI j)) 0 (X i)
theorem ldk_R_of {f3 f4 : Nat → Int32} {X : Nat → List Nat} {x y : LdkR} {i k : Nat} (hm : ∀ z, z ∈ X i → z ≠ k ∧ z < 2 ^ 31) (e1 : ∀ z, z ≠ k → y.1 z = x.1 z) (e2 : ∀ z, z ≠ k → y.2.1 z = x.2.1 z) (e3 : ∀ z, z ≠ k → y.2.2 z = x.2.2 z)
    (h1 : y.1 i = ldk_lst x.1 (if f3 i = (1 : Int32) then f4 i else (-1 : Int32)) (X i)) (h2 : y.2.1 i = ldk_lst x.2.1 (if f3 i = (2 : Int32) then f4 i else (-1 : Int32)) (X i)) (h3 : y.2.2 i = ldk_fs (fun j => ldk_cnt f3 f4 x.2.2 (nI j)) 0 (X i)) : ldk_R f3 f4 X y i := by
  refine ⟨h1.trans (ldk_lst_ext _ _ (fun z hz => (e1 z (hm z hz).1).symm)), h2.trans (ldk_lst_ext _ _ (fun z hz => (e2 z (hm z hz).1).symm)), h3.trans (ldk_fs_ext _ _ (fun z hz => ?_))⟩
  have cz : (nI z).toNatClampNeg = z := nI_clamp (hm z hz).2
  unfold ldk_cnt sX7_times
  rw [cz, e3 z (hm z hz).1]
theorem ldk_m1 {k : Nat} (h : k < 2 ^ 31) : nI k + (-1) = nI k - 1 := by
  rw [ldk_eq, ldk_ia (by rw [nI_toInt h, show (-1 : Int32).toInt = -1 by decide]; omega) (by rw [nI_toInt h, show (-1 : Int32).toInt = -1 by decide]; omega), ldk_is (by rw [nI_toInt h, ldk_t1']; omega) (by rw [nI_toInt h, ldk_t1']; omega), ldk_t1', show (-1 : Int32).toInt = -1 by decide]; omega
theorem ldk_oF_R {f3 f4 f5 : Nat → Int32} {n : Nat} {X : Nat → List Nat} {E : Nat → Nat} (hn : n ≤ 80) (hX : ∀ i, i < n → E i ≤ n ∧ f5 i = nI (E i) ∧ ldk_ch f5 (i + 1) (X i) (E i)) : ∀ (k m : Nat) (x : LdkR), k ≤ n → k < m → (∀ i, k ≤ i → i < n → ldk_R f3 f4 X x i) → ∀ i, i < n → ldk_R f3 f4 X (ldk_oF f3 f4 f5 m (nI k - 1) x) i := by
  intro k
  induction k with
  | zero =>
    intro m x hk hm hR i hi
    obtain ⟨m', rfl⟩ : ∃ m', m = m' + 1 := ⟨m - 1, by omega⟩
    have e : ldk_oF f3 f4 f5 (m' + 1) (nI 0 - 1) x = x := if_pos (by decide)
    rw [e]; exact hR i (Nat.zero_le _) hi
  | succ k ih =>
    intro m x hk hm hR
    obtain ⟨m', rfl⟩ : ∃ m', m = m' + 1 := ⟨m - 1, by omega⟩
    have ck : (nI k).toNatClampNeg = k := nI_clamp (by omega)
    obtain ⟨x1, x2, x3⟩ := hX k (by omega)
    have hlen := ldk_ch_le _ _ _ x3
    have hkF := ldk_kF_ch (f3 := f3) (f4 := f4) (by omega) (show E k ≤ 160 by omega) x2 (X k) 161 (k + 1) (ldk_k0 f3 f4 (nI k) x) x3 (by omega) (by omega)
    have e : ldk_oF f3 f4 f5 (m' + 1) (nI (k + 1) - 1) x = ldk_oF f3 f4 f5 m' (nI k - 1) (ldk_kF f3 f4 f5 (nI k) 161 (nI (k + 1)) (ldk_k0 f3 f4 (nI k) x)) := by
      rw [nI_pred]
      refine (if_neg (nI_pos (by omega))).trans ?_
      rw [← nI_succ, ldk_m1 (by omega)]
    rw [e, hkF]
    refine ih m' _ (by omega) (by omega) (fun i h1 h2 => ?_)
    have hxm := fun z hz => ldk_ch_mem _ _ _ (hX i h2).2.2 z hz
    unfold ldk_k0
    rw [ck]
    dsimp only
    rw [pk_us, pk_us, pk_uLs]
    have hz : ∀ z, z ∈ X i → z ≠ k ∧ z < 2 ^ 31 := fun z hz => by
      have := hxm z hz
      have := (hX i h2).1
      omega
    have hzk : ∀ z, z ∈ X k → z ≠ k ∧ z < 2 ^ 31 := fun z hz => by
      have := ldk_ch_mem _ _ _ x3 z hz
      omega
    refine ldk_R_of (x := x) hz (fun z q => by dsimp only; rw [pk_un q, pk_un q]) (fun z q => by dsimp only; rw [pk_un q, pk_un q]) (fun z q => by dsimp only; rw [pk_uLn q, pk_uLn q]) ?_ ?_ ?_
    · dsimp only
      by_cases q : i = k
      · subst q; rw [pk_us]; exact ldk_lst_ext _ _ (fun z hz => pk_un (hzk z hz).1)
      · rw [pk_un q, pk_un q]; exact (hR i (by omega) h2).1
    · dsimp only
      by_cases q : i = k
      · subst q; rw [pk_us]; exact ldk_lst_ext _ _ (fun z hz => pk_un (hzk z hz).1)
      · rw [pk_un q, pk_un q]; exact (hR i (by omega) h2).2.1
    · dsimp only
      by_cases q : i = k
      · subst q; rw [pk_uLs]
        refine ldk_fs_ext _ _ (fun z hz => ?_)
        have cz : (nI z).toNatClampNeg = z := nI_clamp (hzk z hz).2
        unfold ldk_cnt sX7_times
        rw [cz, pk_uLn (hzk z hz).1]
      · rw [pk_uLn q, pk_uLn q]; exact (hR i (by omega) h2).2.2
theorem ldk_lF_ch {f3 f4 f5 : Nat → Int32} {f8 : Nat → Int64} {n : Nat} (hn : n ≤ 80) : ∀ (xs : List Nat) (m i : Nat) (a : Int64), ldk_ch f5 i xs n → xs.length < m → ldk_lF f3 f4 f5 f8 (nI n) m (nI i) a = ldk_fs (fun j => ldk_cnt f3 f4 f8 (nI j)) a xs := by
  intro xs
  induction xs with
  | nil =>
    intro m i a hc hm
    have hc : i = n := hc
    subst hc
    obtain ⟨m', rfl⟩ : ∃ m', m = m' + 1 := ⟨m - 1, by omega⟩
    exact if_pos (Int32.le_refl _)
  | cons y xs ih =>
    intro m i a hc hm
    obtain ⟨h1, j, h2, h3, h4, h5⟩ := hc
    subst h1
    rw [List.length_cons] at hm
    obtain ⟨m', rfl⟩ : ∃ m', m = m' + 1 := ⟨m - 1, by omega⟩
    have cy : (nI y).toNatClampNeg = y := nI_clamp (by omega)
    have hstep : ldk_lF f3 f4 f5 f8 (nI n) (m' + 1) (nI y) a = ldk_lF f3 f4 f5 f8 (nI n) m' (f5 (nI y).toNatClampNeg) (sX7_sum a (ldk_cnt f3 f4 f8 (nI y))) := if_neg (nI_ge (by omega) (by omega))
    rw [hstep, cy, h4, ih m' j _ h5 (by omega)]
    rfl
theorem ldk_cOK_ch {f5 : Nat → Int32} {e : Nat} (he : e ≤ 160) : ∀ (xs : List Nat) (m i : Nat), ldk_ch f5 i xs e → xs.length < m → ldk_cOK f5 (nI e) m (nI i) := by
  intro xs
  induction xs with
  | nil =>
    intro m i hc hm
    have hc : i = e := hc
    subst hc
    obtain ⟨m', rfl⟩ : ∃ m', m = m' + 1 := ⟨m - 1, by omega⟩
    exact fun q => absurd (Int32.le_refl _) q
  | cons y xs ih =>
    intro m i hc hm
    obtain ⟨h1, j, h2, h3, h4, h5⟩ := hc
    subst h1
    rw [List.length_cons] at hm
    obtain ⟨m', rfl⟩ : ∃ m', m = m' + 1 := ⟨m - 1, by omega⟩
    have cy : (nI y).toNatClampNeg = y := nI_clamp (by omega)
    exact fun _ => ⟨vp_in_nI (by omega) (by omega), by rw [cy, h4]; exact ih m' j h5 (by omega)⟩
