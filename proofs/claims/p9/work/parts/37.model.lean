def mA (a : Option Nat) : Nat := match a with
  | none => 0
  | some j => j + 1
def ahOk (es : List En) : Prop := ∀ (j i : Nat) (e : En), es[j]? = some e → e.2.2.2.1 = some i → i < j
theorem chn_none (es : List En) (n : Nat) : chn es n none = [] := by cases n <;> rfl
theorem chn_step {es : List En} (hA : ahOk es) {k K : Nat} {en : En} (h : es[k]? = some en) (hk : k < K) : chn es (K + 1) (some k) = en.2.2.2.2 :: chn es (K + 1) en.2.2.2.1 := by
  rw [chn, h]
  dsimp only
  cases ha : en.2.2.2.1 with
  | none => rw [chn_none, chn_none]
  | some i =>
    have := hA k i en h ha
    rw [chn_more hA (show i < K by omega) (show i < K + 1 by omega)]
theorem ah_neg {j : Nat} (hj : j < 2 ^ 31) : ¬ nI j = -1 := by
  intro h
  have h1 := congrArg Int32.toInt h
  rw [nI_toInt hj] at h1
  have e1 : (-1 : Int32).toInt = -1 := by decide +kernel
  omega
theorem nn_of {q : Int32} (h1 : (-1 : Int32) ≤ q) (h2 : ¬ q = -1) : ¬ q < 0 := by
  intro h
  rw [Int32.lt_iff_toInt_lt] at h
  rw [Int32.le_iff_toInt_le] at h1
  have e1 : (-1 : Int32).toInt = -1 := by decide +kernel
  have e0 : (0 : Int32).toInt = 0 := by decide +kernel
  exact h2 (Int32.toInt_inj.mp (by omega))
/-- the row array holds what has been read of the chain -/
def hR (pre : List Nat) (bR : Nat → Int32) : Prop := ∀ j y, pre[j]? = some y → bR j = nI y
theorem hR_snoc {pre : List Nat} {bR : Nat → Int32} (h : hR pre bR) (y : Nat) : hR (pre ++ [y]) (upd bR pre.length (nI y)) := by
  intro j z hz
  rcases Nat.lt_trichotomy j pre.length with q | q | q
  · rw [List.getElem?_append_left q] at hz
    rw [pk_un (by omega)]
    exact h j z hz
  · subst q
    rw [List.getElem?_append_right (Nat.le_refl _), Nat.sub_self] at hz
    cases hz
    exact pk_us
  · rw [List.getElem?_eq_none (by rw [List.length_append]; simp; omega)] at hz
    cases hz
set_option maxHeartbeats 4000000 in
set_option maxRecDepth 100000 in
theorem m_bad (l : Launch) (dC : Nat → ClassId) (dI : Nat → Nat → Nat) (cI cZ : ClassId) (h : Nat → Nat) (sz : Nat) (xt xg : Int32) (aP aK bF bL bB bA bY bR oT oO oR bS : Nat → Int32) (nF nC K : Nat) (cf ct : Nat → Nat) (f q : Int32) (hF : nF ≤ 10) (hC : nC ≤ 20) (hK8 : 801 ≤ K) (hS0 : ∀ c, c < nC → cf c < nF ∧ ct c < nF) : Met l y_M_bad w_M_bad ({ frames := 4, cells := 0, slots := 0, locals := 96 }) (va_Pc [.ref (h 0), .int f, .int q] (fun U => U.heap.size = sz ∧ va_P (dC, dI) kls (wM h cI cZ xt (nI nF) (nI nC) xg aP (fun c => nI (cf c)) (fun c => nI (ct c)) aK bF bL bB bA bY bR oT oO oR bS) U.heap ∧ va_K (dC, dI) kls (tyM cI cZ) U ∧ va_D (fun _ => True) (wM h cI cZ xt (nI nF) (nI nC) xg aP (fun c => nI (cf c)) (fun c => nI (ct c)) aK bF bL bB bA bY bR oT oO oR bS))) (va_Qi (fun (r : Int32) (u : Int32 × Int32 × (Nat → Int32) × (Nat → Int32) × (Nat → Int32) × (Nat → Int32) × (Nat → Int32) × (Nat → Int32)) => ((¬ ((∃ i, i < nF ∧ f = nI i) ∧ (-1 : Int32) ≤ q)) ∧ u.1 = nI 0 ∧ r = -1) ∨ ∃ i, i < nF ∧ f = nI i ∧ (-1 : Int32) ≤ q ∧ ((800 < (gA nC cf ct aK rj K).length ∧ u.1 = nI 1) ∨ ((gA nC cf ct aK rj K).length ≤ 800 ∧ u.1 = nI 0 ∧ (((∀ en ∈ gF nC cf ct aK rj K i, ¬ (en.2.1 = i ∧ badX en.2.2.1)) ∧ r = (if q = -1 then nI 0 else -1)) ∨ ∃ k en, (gF nC cf ct aK rj K i)[k]? = some en ∧ en.2.1 = i ∧ badX en.2.2.1 ∧ (∀ j x, j < k → (gF nC cf ct aK rj K i)[j]? = some x → ¬ (x.2.1 = i ∧ badX x.2.2.1)) ∧ ((q = -1 ∧ r = nI (chn (gF nC cf ct aK rj K i) (K + 1) (some k)).length) ∨ ∃ q1, q1 < 2 ^ 31 ∧ q = nI q1 ∧ ((q1 < (chn (gF nC cf ct aK rj K i) (K + 1) (some k)).length ∧ ∃ y, (chn (gF nC cf ct aK rj K i) (K + 1) (some k))[(chn (gF nC cf ct aK rj K i) (K + 1) (some k)).length - 1 - q1]? = some y ∧ r = nI y) ∨ ((chn (gF nC cf ct aK rj K i) (K + 1) (some k)).length ≤ q1 ∧ r = -1))))))) (fun (u : Int32 × Int32 × (Nat → Int32) × (Nat → Int32) × (Nat → Int32) × (Nat → Int32) × (Nat → Int32) × (Nat → Int32)) (t : State) => va_P (dC, dI) kls (wM h cI cZ u.1 (nI nF) (nI nC) u.2.1 aP (fun c => nI (cf c)) (fun c => nI (ct c)) aK u.2.2.1 u.2.2.2.1 u.2.2.2.2.1 u.2.2.2.2.2.1 u.2.2.2.2.2.2.1 u.2.2.2.2.2.2.2 oT oO oR bS) t.heap ∧ va_K (dC, dI) kls (tyM cI cZ) t ∧ va_D (va_A (wM h cI cZ xt (nI nF) (nI nC) xg aP (fun c => nI (cf c)) (fun c => nI (ct c)) aK bF bL bB bA bY bR oT oO oR bS) sz) (wM h cI cZ u.1 (nI nF) (nI nC) u.2.1 aP (fun c => nI (cf c)) (fun c => nI (ct c)) aK u.2.2.1 u.2.2.2.1 u.2.2.2.2.1 u.2.2.2.2.2.1 u.2.2.2.2.2.2.1 u.2.2.2.2.2.2.2 oT oO oR bS)) (va_A (wM h cI cZ xt (nI nF) (nI nC) xg aP (fun c => nI (cf c)) (fun c => nI (ct c)) aK bF bL bB bA bY bR oT oO oR bS) sz)) 0 0 (va_A (wM h cI cZ xt (nI nF) (nI nC) xg aP (fun c => nI (cf c)) (fun c => nI (ct c)) aK bF bL bB bA bY bR oT oO oR bS) sz) := by
  refine Met.ofW (cc := c_M_bad) (maxL := 7) (ret := (some .int)) (by decide) rfl ?_
  intro p e s m args below meth c s₁ B hml hv
  obtain ⟨rfl, hsz, hP, hK, hD0⟩ := hv
  have hx := B.exec
  have hb := B.bytes
  have hr := B.returns
  have hts := atoms_spec (ws := w_M_bad) B.pre
  have hk : ∀ w ∈ wMw, w.before _ s = true := fun w h => hts w (List.mem_cons_of_mem _ h)
  have hown : s.vm.findClass R_M = some m.cls := findClass_of_methodNamed B.named
  have hlocks := B.notSynchronized
  subst hsz
  have hD := hD0.self (sz := s.heap.size)
  generalize hAe : va_A (wM h cI cZ xt (nI nF) (nI nC) xg aP (fun c => nI (cf c)) (fun c => nI (ct c)) aK bF bL bB bA bY bR oT oO oR bS) s.heap.size = A at hD ⊢
  have hA : ∀ q : Nat, s.heap.size ≤ q → A q := fun q h => by rw [← hAe]; exact Or.inr h
  have hS : va_S A s.heap s.heap [] := va_S.rf
  have hl := lv_entry ([.ref (h 0), .int f, .int q]) (n := 7) (Nat.le_of_ble_eq_true rfl)
  rw [lg_entry_eq]
  generalize (lg_sl ([.ref (h 0), .int f, .int q]) ++ List.replicate (7 - (lg_sl ([.ref (h 0), .int f, .int q])).length) Slot.unset).toArray = ls at hl ⊢
  have hl : lv_has ls 7 [(0, .ref (h 0)), (1, .int f), (2, .int q)] := hl
  refine lv_aload_n hx hb d_M_bad_0 rfl (lv_at hl 0 rfl) ?_
  refine lv_iload_n hx hb d_M_bad_1 rfl (lv_at hl 1 rfl) ?_
  have hFc := va_free (wc := wM h cI cZ xt (nI nF) (nI nC) xg aP (fun c => nI (cf c)) (fun c => nI (ct c)) aK bF bL bB bA bY bR oT oO oR bS) hD hS hA [0, 1, 2, 3, 4, 5, 6, 7, 8, 9, 10, 11, 12, 13, 14] rfl
  refine va_calli (va_runV (As := [.int f]) (rest := []) ⟨hx, hb, hml, hown, hk⟩ (m_isFunction l dC dI cI cZ h s.heap.size xt (nI nC) xg aP (fun c => nI (cf c)) (fun c => nI (ct c)) aK bF bL bB bA bY bR oT oO oR bS nF f (by omega)) (cwV 1 hk g_M_isFunction rfl rfl rfl (by decide +kernel) ⟨Nat.le_of_ble_eq_true rfl, Nat.le_of_ble_eq_true rfl⟩) ⟨fun a U g mk q => by obtain ⟨q0, q1, qP, qK, qD⟩ := q; exact ⟨q0, q1, qP, va_K.moved (u := U) (U := U.calling g mk a) (Vm.Alike.refl U.vm) qK, qD⟩, va_recv hK hP (ci := 0) (q0 := 0) rfl rfl, fun U hU hW => ⟨rfl, by rw [hU], by rw [hU]; exact hP, va_K.moved hW.alike hK, hD.weaken (fun _ _ _ _ => trivial)⟩⟩ rfl rfl hl.1 rfl (lv_room (Nat.le_of_ble_eq_true rfl)) d_M_bad_2 ⟨Nat.le_of_ble_eq_true rfl, Nat.le_of_ble_eq_true rfl⟩) hS (fun q _ h => hFc q h) hFc (fun r1 u9 t H1 locs ht hvm hw hB hz1 hk1 hS => ?_)
  obtain ⟨hP1, hK1, hD1⟩ := hB
  rw [ht] at hP1
  try dsimp only at hw
  obtain ⟨hP, hD⟩ := va_join (wr := []) (w1 := wM h cI cZ xt (nI nF) (nI nC) xg aP (fun c => nI (cf c)) (fun c => nI (ct c)) aK bF bL bB bA bY bR oT oO oR bS) hP hD [0, 1, 2, 3, 4, 5, 6, 7, 8, 9, 10, 11, 12, 13, 14] [] rfl rfl (by decide) (by decide) hk1 hFc hP1 hD1
  generalize H1 = H at hP hS ⊢
  have hP : va_P (dC, dI) kls (wM h cI cZ xt (nI nF) (nI nC) xg aP (fun c => nI (cf c)) (fun c => nI (ct c)) aK bF bL bB bA bY bR oT oO oR bS) H := hP
  have hD : va_D A (wM h cI cZ xt (nI nF) (nI nC) xg aP (fun c => nI (cf c)) (fun c => nI (ct c)) aK bF bL bB bA bY bR oT oO oR bS) := hD
  rcases hw with ⟨hr9, i1, hi1, hfj⟩ | ⟨hr9, hno_f⟩
  · subst hr9
    subst hfj
    refine lv_if_eq (tgt := 13) hx hb d_M_bad_5 (by decide) (fun c9 => absurd c9 (by decide +kernel)) (fun _ => ?_)
    refine lv_iload_n hx hb d_M_bad_8 rfl (lv_at hl 2 rfl) ?_
    refine lv_iconst (v := (-1)) hx hb d_M_bad_9 (by decide +kernel) ?_
    refine lv_icmp_ge (tgt := 17) hx hb d_M_bad_10 (by decide) (fun c_10 => ?_) (fun c_10 => ?_)
    · refine lv_iconst (v := nI 0) hx hb d_M_bad_17 (by decide +kernel) ?_
      refine lv_istore_n (lv' := [(3, .int (nI 0)), (0, .ref (h 0)), (1, .int (nI i1)), (2, .int q)]) hx hb d_M_bad_18 rfl hl (by decide) rfl (fun ls hl => ?_)
      refine lv_aload_n hx hb d_M_bad_19 rfl (lv_at hl 1 rfl) ?_
      refine lv_iconst (v := nI 0) hx hb d_M_bad_20 (by decide +kernel) ?_
      refine lv_iload_n hx hb d_M_bad_21 rfl (lv_at hl 0 rfl) ?_
      have hFc := va_free (wc := wM h cI cZ xt (nI nF) (nI nC) xg aP (fun c => nI (cf c)) (fun c => nI (ct c)) aK bF bL bB bA bY bR oT oO oR bS) hD hS hA [0, 1, 2, 3, 4, 5, 6, 7, 8, 9, 10, 11, 12, 13, 14] rfl
      refine va_calli (va_runV (As := [.int (nI 0), .int (nI 0)]) (rest := []) ⟨hx, hb, hml, hown, hk⟩ (m_refused l dC dI cI cZ h H.size xt (nI nF) xg aP aK bF bL bB bA bY bR oT oO oR bS nC K cf ct (hC) (hK8) (fun c hc => ⟨by have := hS0 c hc; omega, by have := hS0 c hc; omega⟩)) (cwV 2 hk g_M_refused rfl rfl rfl (by decide +kernel) ⟨Nat.le_of_ble_eq_true rfl, Nat.le_of_ble_eq_true rfl⟩) ⟨fun a U g mk q => by obtain ⟨q0, q1, qP, qK, qD⟩ := q; exact ⟨q0, q1, qP, va_K.moved (u := U) (U := U.calling g mk a) (Vm.Alike.refl U.vm) qK, qD⟩, va_recv hK hP (ci := 0) (q0 := 0) rfl rfl, fun U hU hW => ⟨rfl, by rw [hU], by rw [hU]; exact hP, va_K.moved hW.alike hK, hD.weaken (fun _ _ _ _ => trivial)⟩⟩ rfl rfl hl.1 rfl (lv_room (Nat.le_of_ble_eq_true rfl)) d_M_bad_22 ⟨Nat.le_of_ble_eq_true rfl, Nat.le_of_ble_eq_true rfl⟩) hS (fun q _ h => hFc q h) hFc (fun r2 u9 t H1 locs ht hvm hw hB hz1 hk1 hS => ?_)
      obtain ⟨xt9, xg9, bF9, bL9, bB9, bA9, bY9⟩ := u9
      obtain ⟨hP1, hK1, hD1⟩ := hB
      rw [ht] at hP1
      try dsimp only at hw
      obtain ⟨hP, hD⟩ := va_join (wr := []) (w1 := wM h cI cZ xt9 (nI nF) (nI nC) xg9 aP (fun c => nI (cf c)) (fun c => nI (ct c)) aK bF9 bL9 bB9 bA9 bY9 bR oT oO oR bS) hP hD [0, 1, 2, 3, 4, 5, 6, 7, 8, 9, 10, 11, 12, 13, 14] [] rfl rfl (by decide) (by decide) hk1 hFc hP1 hD1
      generalize H1 = H at hP hS ⊢
      have hP : va_P (dC, dI) kls (wM h cI cZ xt9 (nI nF) (nI nC) xg9 aP (fun c => nI (cf c)) (fun c => nI (ct c)) aK bF9 bL9 bB9 bA9 bY9 bR oT oO oR bS) H := hP
      have hD : va_D A (wM h cI cZ xt9 (nI nF) (nI nC) xg9 aP (fun c => nI (cf c)) (fun c => nI (ct c)) aK bF9 bL9 bB9 bA9 bY9 bR oT oO oR bS) := hD
      rcases hw with ⟨hr9, hu9, hle, hg9, hE9⟩ | ⟨hr9, hu9, hgt⟩
      · subst hr9
        subst hu9
        subst hg9
        have hsm : smE (gA nC cf ct aK rj K) := sm_of (fun c hc => ⟨by have := hS0 c hc; omega, by have := hS0 c hc; omega⟩) (bsG_ok nC cf ct aK rj (fun _ => true) K)
        refine lv_if_eq (tgt := 51) hx hb d_M_bad_25 (by decide) (fun _ => ?_) (fun c9 => absurd c9 (by decide +kernel))
        refine lv_aload_n hx hb d_M_bad_51 rfl (lv_at hl 1 rfl) ?_
        refine lv_iload_n hx hb d_M_bad_52 rfl (lv_at hl 2 rfl) ?_
        have hFc := va_free (wc := wM h cI cZ (nI 0) (nI nF) (nI nC) (nI ((gA nC cf ct aK rj K).length)) aP (fun c => nI (cf c)) (fun c => nI (ct c)) aK bF9 bL9 bB9 bA9 bY9 bR oT oO oR bS) hD hS hA [0, 1, 2, 3, 4, 5, 6, 7, 8, 9, 10, 11, 12, 13, 14] rfl
        refine va_calli (va_runV (As := [.int (nI i1)]) (rest := []) ⟨hx, hb, hml, hown, hk⟩ (m_find l dC dI cI cZ h H.size (nI 0) (nI nF) (nI ((gA nC cf ct aK rj K).length)) aP aK bF9 bL9 bB9 bA9 bY9 bR oT oO oR bS nC K cf ct (fun x => x == i1) (nI i1) (hC) (hK8) (fun c hc => ⟨by have := hS0 c hc; omega, by have := hS0 c hc; omega⟩) (fun c hc => by have h9 := hS0 c hc; rw [beq_iff_eq]; exact ⟨fun z => Or.inr (by rw [z]), fun z => by rcases z with z | z; exact absurd z (ah_neg (by omega)); exact (nI_eq (by omega) (by omega)).mp z⟩)) (cwV 1 hk g_M_find rfl rfl rfl (by decide +kernel) ⟨Nat.le_of_ble_eq_true rfl, Nat.le_of_ble_eq_true rfl⟩) ⟨fun a U g mk q => by obtain ⟨q0, q1, qP, qK, qD⟩ := q; exact ⟨q0, q1, qP, va_K.moved (u := U) (U := U.calling g mk a) (Vm.Alike.refl U.vm) qK, qD⟩, va_recv hK hP (ci := 0) (q0 := 0) rfl rfl, fun U hU hW => ⟨rfl, by rw [hU], by rw [hU]; exact hP, va_K.moved hW.alike hK, hD.weaken (fun _ _ _ _ => trivial)⟩⟩ rfl rfl hl.1 rfl (lv_room (Nat.le_of_ble_eq_true rfl)) d_M_bad_53 ⟨Nat.le_of_ble_eq_true rfl, Nat.le_of_ble_eq_true rfl⟩) hS (fun q _ h => hFc q h) hFc (fun r3 u9 t H1 locs ht hvm hw hB hz1 hk1 hS => ?_)
        obtain ⟨xg8, bF8, bL8, bB8, bA8, bY8⟩ := u9
        obtain ⟨hP1, hK1, hD1⟩ := hB
        rw [ht] at hP1
        try dsimp only at hw
        obtain ⟨hP, hD⟩ := va_join (wr := []) (w1 := wM h cI cZ (nI 0) (nI nF) (nI nC) xg8 aP (fun c => nI (cf c)) (fun c => nI (ct c)) aK bF8 bL8 bB8 bA8 bY8 bR oT oO oR bS) hP hD [0, 1, 2, 3, 4, 5, 6, 7, 8, 9, 10, 11, 12, 13, 14] [] rfl rfl (by decide) (by decide) hk1 hFc hP1 hD1
        generalize H1 = H at hP hS ⊢
        have hP : va_P (dC, dI) kls (wM h cI cZ (nI 0) (nI nF) (nI nC) xg8 aP (fun c => nI (cf c)) (fun c => nI (ct c)) aK bF8 bL8 bB8 bA8 bY8 bR oT oO oR bS) H := hP
        have hD : va_D A (wM h cI cZ (nI 0) (nI nF) (nI nC) xg8 aP (fun c => nI (cf c)) (fun c => nI (ct c)) aK bF8 bL8 bB8 bA8 bY8 bR oT oO oR bS) := hD
        have hgf : (gF nC cf ct aK rj K i1).length ≤ 800 := Nat.le_trans (gN_ge nC cf ct aK rj K hi1) ((g_few nC cf ct aK rj K hK8 (fun c hc => (hS0 c hc).1)).mp hle)
        rcases hw with ⟨hr9, -, hg9, hE8⟩ | ⟨hr9, hgt⟩
        · subst hr9
          subst hg9
          have hE8 : hE (gF nC cf ct aK rj K i1) bF8 bL8 bB8 bA8 bY8 := hE8
          have hsf : smE (gF nC cf ct aK rj K i1) := sm_of (fun c hc => ⟨by have := hS0 c hc; omega, by have := hS0 c hc; omega⟩) (bsG_ok nC cf ct aK rj (fun x => x == i1) K)
          have hah : ahOk (gF nC cf ct aK rj K i1) := bsG_ahead nC cf ct aK rj (fun x => x == i1) K
          refine lv_pop hx hb d_M_bad_56 rfl ?_
          refine lv_iconst (v := nI 0) hx hb d_M_bad_57 (by decide +kernel) ?_
          refine lv_istore (lv' := [(4, .int (nI 0)), (3, .int (nI 0)), (0, .ref (h 0)), (1, .int (nI i1)), (2, .int q)]) hx hb d_M_bad_58 hl (by decide) rfl (fun ls hl => ?_)
          have lp1 : ∀ (n_lp1 : Nat) (k : Nat), (k ≤ (gF nC cf ct aK rj K i1).length) → (∀ j x, j < k → (gF nC cf ct aK rj K i1)[j]? = some x → ¬ (x.2.1 = i1 ∧ badX x.2.2.1)) → (gF nC cf ct aK rj K i1).length - k < n_lp1 → ∀ (H : Heap) (locs : List Loc) (ls : Array Slot), va_P (dC, dI) kls (wM h cI cZ (nI 0) (nI nF) (nI nC) (nI ((gF nC cf ct aK rj K i1).length)) aP (fun c => nI (cf c)) (fun c => nI (ct c)) aK bF8 bL8 bB8 bA8 bY8 bR oT oO oR bS) H → va_D A (wM h cI cZ (nI 0) (nI nF) (nI nC) (nI ((gF nC cf ct aK rj K i1).length)) aP (fun c => nI (cf c)) (fun c => nI (ct c)) aK bF8 bL8 bB8 bA8 bY8 bR oT oO oR bS) → va_S A s.heap H locs → lv_has ls 7 [(0, .ref (h 0)), (1, .int (nI i1)), (2, .int q), (4, .int (nI k))] → W p l e (headSpec w_M_bad ({ frames := 4, cells := 0, slots := 0, locals := 96 })).room s m ([.ref (h 0), .int (nI i1), .int q]).toArray below meth c H locs 0 0 (MQ below (va_Qi (fun (r : Int32) (u : Int32 × Int32 × (Nat → Int32) × (Nat → Int32) × (Nat → Int32) × (Nat → Int32) × (Nat → Int32) × (Nat → Int32)) => ((¬ ((∃ i, i < nF ∧ (nI i1) = nI i) ∧ (-1 : Int32) ≤ q)) ∧ u.1 = nI 0 ∧ r = -1) ∨ ∃ i, i < nF ∧ (nI i1) = nI i ∧ (-1 : Int32) ≤ q ∧ ((800 < (gA nC cf ct aK rj K).length ∧ u.1 = nI 1) ∨ ((gA nC cf ct aK rj K).length ≤ 800 ∧ u.1 = nI 0 ∧ (((∀ en ∈ gF nC cf ct aK rj K i, ¬ (en.2.1 = i ∧ badX en.2.2.1)) ∧ r = (if q = -1 then nI 0 else -1)) ∨ ∃ k en, (gF nC cf ct aK rj K i)[k]? = some en ∧ en.2.1 = i ∧ badX en.2.2.1 ∧ (∀ j x, j < k → (gF nC cf ct aK rj K i)[j]? = some x → ¬ (x.2.1 = i ∧ badX x.2.2.1)) ∧ ((q = -1 ∧ r = nI (chn (gF nC cf ct aK rj K i) (K + 1) (some k)).length) ∨ ∃ q1, q1 < 2 ^ 31 ∧ q = nI q1 ∧ ((q1 < (chn (gF nC cf ct aK rj K i) (K + 1) (some k)).length ∧ ∃ y, (chn (gF nC cf ct aK rj K i) (K + 1) (some k))[(chn (gF nC cf ct aK rj K i) (K + 1) (some k)).length - 1 - q1]? = some y ∧ r = nI y) ∨ ((chn (gF nC cf ct aK rj K i) (K + 1) (some k)).length ≤ q1 ∧ r = -1))))))) (fun (u : Int32 × Int32 × (Nat → Int32) × (Nat → Int32) × (Nat → Int32) × (Nat → Int32) × (Nat → Int32) × (Nat → Int32)) (t : State) => va_P (dC, dI) kls (wM h cI cZ u.1 (nI nF) (nI nC) u.2.1 aP (fun c => nI (cf c)) (fun c => nI (ct c)) aK u.2.2.1 u.2.2.2.1 u.2.2.2.2.1 u.2.2.2.2.2.1 u.2.2.2.2.2.2.1 u.2.2.2.2.2.2.2 oT oO oR bS) t.heap ∧ va_K (dC, dI) kls (tyM cI cZ) t ∧ va_D (A) (wM h cI cZ u.1 (nI nF) (nI nC) u.2.1 aP (fun c => nI (cf c)) (fun c => nI (ct c)) aK u.2.2.1 u.2.2.2.1 u.2.2.2.2.1 u.2.2.2.2.2.1 u.2.2.2.2.2.2.1 u.2.2.2.2.2.2.2 oT oO oR bS)) A) ([.ref (h 0), .int (nI i1), .int q]).toArray s 0 0 A) (F0 m 60 ls []) := by
            intro n_lp1
            induction n_lp1 with
            | zero => intro k hk0 hno hn; exact absurd hn (Nat.not_lt_zero _)
            | succ n_lp1 ih_lp1 =>
              intro k hk0 hno hn H locs ls hP hD hS hl
              refine lv_iload hx hb d_M_bad_60 (lv_at hl 3 rfl) ?_
              refine lv_aload_n hx hb d_M_bad_62 rfl (lv_at hl 0 rfl) ?_
              refine va_get (D := (dC, dI)) (ci := 0) (v := .int (nI ((gF nC cf ct aK rj K i1).length))) (C := R_M) (T := F_M) (N := 18) hx hb hk k_M_f hown hK hP 0 rfl rfl 7 (by decide) (hk _ k_M_15) (fun _ h9 => h9) rfl d_M_bad_63 ?_
              refine lv_icmp_ge (tgt := 99) hx hb d_M_bad_66 (by decide) (fun c_66 => ?_) (fun c_66 => ?_)
              · have c_66 : (gF nC cf ct aK rj K i1).length ≤ k := (nI_leI (a := (gF nC cf ct aK rj K i1).length) (b := k) (by omega) (by omega)).mp c_66
                have hke : k = (gF nC cf ct aK rj K i1).length := by omega
                subst hke
                refine lv_iload hx hb d_M_bad_99 (lv_at hl 3 rfl) ?_
                refine lv_aload_n hx hb d_M_bad_101 rfl (lv_at hl 0 rfl) ?_
                refine va_get (D := (dC, dI)) (ci := 0) (v := .int (nI ((gF nC cf ct aK rj K i1).length))) (C := R_M) (T := F_M) (N := 18) hx hb hk k_M_f hown hK hP 0 rfl rfl 7 (by decide) (hk _ k_M_15) (fun _ h9 => h9) rfl d_M_bad_102 ?_
                refine lv_icmp_ne (tgt := 119) hx hb d_M_bad_105 (by decide) (fun c_105 => ?_) (fun c_105 => ?_)
                · have c_105 : ¬ (gF nC cf ct aK rj K i1).length = (gF nC cf ct aK rj K i1).length := fun z9 => c_105 ((nI_eq (a := (gF nC cf ct aK rj K i1).length) (b := (gF nC cf ct aK rj K i1).length) (by omega) (by omega)).mpr z9)
                  exfalso; omega
                · have c_105 : (gF nC cf ct aK rj K i1).length = (gF nC cf ct aK rj K i1).length := (nI_eq (a := (gF nC cf ct aK rj K i1).length) (b := (gF nC cf ct aK rj K i1).length) (by omega) (by omega)).mp c_105
                  refine lv_iload_n hx hb d_M_bad_108 rfl (lv_at hl 2 rfl) ?_
                  refine lv_iconst (v := (-1)) hx hb d_M_bad_109 (by decide +kernel) ?_
                  refine lv_icmp_ne (tgt := 117) hx hb d_M_bad_110 (by decide) (fun c_110 => ?_) (fun c_110 => ?_)
                  · refine lv_iconst (v := (-1)) hx hb d_M_bad_117 (by decide +kernel) ?_
                    have hall : ∀ en ∈ gF nC cf ct aK rj K i1, ¬ (en.2.1 = i1 ∧ badX en.2.2.1) := by
                      intro en hm
                      obtain ⟨j, hj⟩ := List.getElem?_of_mem hm
                      exact hno j en (by have := (List.getElem?_eq_some_iff.mp hj).1; omega) hj
                    have hrq : (-1) = (if q = -1 then nI 0 else -1) := by first | rw [if_pos c_110] | rw [if_neg c_110]
                    exact W.iret (v := (-1)) hx hb hr (fun t ht hW => ⟨⟨(-1), (nI 0, nI (gF nC cf ct aK rj K i1).length, bF8, bL8, bB8, bA8, bY8, bR), rfl, Or.inr ⟨i1, hi1, rfl, c_10, Or.inr ⟨hle, rfl, Or.inl ⟨hall, hrq⟩⟩⟩, by rw [ht]; exact hP, va_K.moved hW.alike hK, hD⟩, hS.F ht⟩) hS.2.2 d_M_bad_118
                  · refine lv_iconst (v := nI 0) hx hb d_M_bad_113 (by decide +kernel) ?_
                    refine lv_goto (tgt := 118) hx hb d_M_bad_114 (by decide) ?_
                    have hall : ∀ en ∈ gF nC cf ct aK rj K i1, ¬ (en.2.1 = i1 ∧ badX en.2.2.1) := by
                      intro en hm
                      obtain ⟨j, hj⟩ := List.getElem?_of_mem hm
                      exact hno j en (by have := (List.getElem?_eq_some_iff.mp hj).1; omega) hj
                    have hrq : nI 0 = (if q = -1 then nI 0 else -1) := by first | rw [if_pos c_110] | rw [if_neg c_110]
                    exact W.iret (v := nI 0) hx hb hr (fun t ht hW => ⟨⟨nI 0, (nI 0, nI (gF nC cf ct aK rj K i1).length, bF8, bL8, bB8, bA8, bY8, bR), rfl, Or.inr ⟨i1, hi1, rfl, c_10, Or.inr ⟨hle, rfl, Or.inl ⟨hall, hrq⟩⟩⟩, by rw [ht]; exact hP, va_K.moved hW.alike hK, hD⟩, hS.F ht⟩) hS.2.2 d_M_bad_118
              · have c_66 : ¬ (gF nC cf ct aK rj K i1).length ≤ k := fun z9 => c_66 ((nI_leI (a := (gF nC cf ct aK rj K i1).length) (b := k) (by omega) (by omega)).mpr z9)
                obtain ⟨en, hen⟩ : ∃ en, (gF nC cf ct aK rj K i1)[k]? = some en := ⟨_, List.getElem?_eq_getElem (by omega)⟩
                obtain ⟨q1, q2, q3, -, -⟩ := hE8 k en hen
                have hsn := hsf en (List.mem_of_getElem? hen)
                refine lv_aload_n hx hb d_M_bad_69 rfl (lv_at hl 0 rfl) ?_
                refine va_get (D := (dC, dI)) (ci := 0) (v := .ref (h 6)) (C := R_M) (T := F_M) (N := 18) hx hb hk k_M_f hown hK hP 0 rfl rfl 9 (by decide) (hk _ k_M_17) (fun _ h9 => h9) rfl d_M_bad_70 ?_
                refine lv_iload hx hb d_M_bad_73 (lv_at hl 3 rfl) ?_
                refine va_iald hx hb hK hP 6 0 rfl rfl (pk_in k 801 (by omega)) d_M_bad_75 ?_
                refine lv_topi (fun z4 ez4 => ?_)
                obtain rfl : z4 = nI en.2.1 := ez4.trans ((rd (f := bL8) (k := k) (by omega)).trans q2)
                refine lv_iload_n hx hb d_M_bad_76 rfl (lv_at hl 1 rfl) ?_
                refine lv_icmp_ne (tgt := 93) hx hb d_M_bad_77 (by decide) (fun c_77 => ?_) (fun c_77 => ?_)
                · have c_77 : ¬ en.2.1 = i1 := fun z9 => c_77 ((nI_eq (a := en.2.1) (b := i1) (by omega) (by omega)).mpr z9)
                  refine lv_iinc (v := nI (k + 1)) (lv' := [(4, .int (nI (k + 1))), (0, .ref (h 0)), (1, .int (nI i1)), (2, .int q)]) hx hb d_M_bad_93 hl (k := 3) rfl (nI_add k 1) (by decide) rfl (fun ls hl => ?_)
                  refine lv_goto (tgt := 60) hx hb d_M_bad_96 (by decide) ?_
                  have hno2 : ∀ j x, j < k + 1 → (gF nC cf ct aK rj K i1)[j]? = some x → ¬ (x.2.1 = i1 ∧ badX x.2.2.1) := by
                    intro j x hj hx9
                    rcases Nat.lt_or_ge j k with z | z
                    · exact hno j x z hx9
                    · obtain rfl : j = k := by omega
                      rw [hen] at hx9
                      cases hx9
                      rintro ⟨z1, z2⟩
                      first
                        | exact c_77 z1
                        | exact hbad z2
                  exact ih_lp1 (k + 1) (by omega) (hno2) (by omega) _ _ _ hP hD hS (lv_sub hl [1, 2, 3, 0] rfl)
                · have c_77 : en.2.1 = i1 := (nI_eq (a := en.2.1) (b := i1) (by omega) (by omega)).mp c_77
                  refine lv_aload_n hx hb d_M_bad_80 rfl (lv_at hl 0 rfl) ?_
                  refine va_get (D := (dC, dI)) (ci := 0) (v := .ref (h 7)) (C := R_M) (T := F_M) (N := 18) hx hb hk k_M_f hown hK hP 0 rfl rfl 10 (by decide) (hk _ k_M_18) (fun _ h9 => h9) rfl d_M_bad_81 ?_
                  refine lv_iload hx hb d_M_bad_84 (lv_at hl 3 rfl) ?_
                  refine va_iald hx hb hK hP 7 0 rfl rfl (pk_in k 801 (by omega)) d_M_bad_86 ?_
                  refine lv_topi (fun z5 ez5 => ?_)
                  obtain rfl : z5 = en.2.2.1 := ez5.trans ((rd (f := bB8) (k := k) (by omega)).trans q3)
                  refine vp_callSi (W.runS (As := [.int en.2.2.1]) (rest := []) ⟨hx, hb, hml, hown, hk⟩ (m_isBad l en.2.2.1) (cwS 1 hk g_M_isBad rfl rfl rfl (by decide +kernel) ⟨Nat.le_of_ble_eq_true rfl, Nat.le_of_ble_eq_true rfl⟩) ⟨fun a U g mk q => q, fun U hU hW => ⟨rfl, trivial⟩⟩ rfl rfl hl.1 rfl (lv_room (Nat.le_of_ble_eq_true rfl)) d_M_bad_87 ⟨Nat.le_of_ble_eq_true rfl, Nat.le_of_ble_eq_true rfl⟩) (fun r6 hw => ?_)
                  rcases hw with ⟨hr9, hbad⟩ | ⟨hr9, hbad⟩
                  · subst hr9
                    refine lv_if_ne (tgt := 99) hx hb d_M_bad_90 (by decide) (fun _ => ?_) (fun c9 => absurd c9 (by decide +kernel))
                    refine lv_iload hx hb d_M_bad_99 (lv_at hl 3 rfl) ?_
                    refine lv_aload_n hx hb d_M_bad_101 rfl (lv_at hl 0 rfl) ?_
                    refine va_get (D := (dC, dI)) (ci := 0) (v := .int (nI ((gF nC cf ct aK rj K i1).length))) (C := R_M) (T := F_M) (N := 18) hx hb hk k_M_f hown hK hP 0 rfl rfl 7 (by decide) (hk _ k_M_15) (fun _ h9 => h9) rfl d_M_bad_102 ?_
                    refine lv_icmp_ne (tgt := 119) hx hb d_M_bad_105 (by decide) (fun c_105 => ?_) (fun c_105 => ?_)
                    · have c_105 : ¬ k = (gF nC cf ct aK rj K i1).length := fun z9 => c_105 ((nI_eq (a := k) (b := (gF nC cf ct aK rj K i1).length) (by omega) (by omega)).mpr z9)
                      refine lv_iconst (v := nI 0) hx hb d_M_bad_119 (by decide +kernel) ?_
                      refine lv_istore (lv' := [(5, .int (nI 0)), (0, .ref (h 0)), (1, .int (nI i1)), (2, .int q), (4, .int (nI k))]) hx hb d_M_bad_120 hl (by decide) rfl (fun ls hl => ?_)
                      refine lv_iload hx hb d_M_bad_122 (lv_at hl 4 rfl) ?_
                      refine lv_istore (lv' := [(6, .int (nI k)), (5, .int (nI 0)), (0, .ref (h 0)), (1, .int (nI i1)), (2, .int q), (4, .int (nI k))]) hx hb d_M_bad_124 hl (by decide) rfl (fun ls hl => ?_)
                      have lp2 : ∀ (n_lp2 : Nat) (pre : List Nat) (a : Option Nat) (bR : Nat → Int32), (pre ++ chn (gF nC cf ct aK rj K i1) (K + 1) a = chn (gF nC cf ct aK rj K i1) (K + 1) (some k)) → (hR pre bR) → (pre.length + mA a ≤ k + 1) → (∀ j, a = some j → j < (gF nC cf ct aK rj K i1).length) → mA a < n_lp2 → ∀ (H : Heap) (locs : List Loc) (ls : Array Slot), va_P (dC, dI) kls (wM h cI cZ (nI 0) (nI nF) (nI nC) (nI ((gF nC cf ct aK rj K i1).length)) aP (fun c => nI (cf c)) (fun c => nI (ct c)) aK bF8 bL8 bB8 bA8 bY8 bR oT oO oR bS) H → va_D A (wM h cI cZ (nI 0) (nI nF) (nI nC) (nI ((gF nC cf ct aK rj K i1).length)) aP (fun c => nI (cf c)) (fun c => nI (ct c)) aK bF8 bL8 bB8 bA8 bY8 bR oT oO oR bS) → va_S A s.heap H locs → lv_has ls 7 [(0, .ref (h 0)), (1, .int (nI i1)), (2, .int q), (4, .int (nI k)), (5, .int (nI pre.length)), (6, .int (ahI a))] → W p l e (headSpec w_M_bad ({ frames := 4, cells := 0, slots := 0, locals := 96 })).room s m ([.ref (h 0), .int (nI i1), .int q]).toArray below meth c H locs 0 0 (MQ below (va_Qi (fun (r : Int32) (u : Int32 × Int32 × (Nat → Int32) × (Nat → Int32) × (Nat → Int32) × (Nat → Int32) × (Nat → Int32) × (Nat → Int32)) => ((¬ ((∃ i, i < nF ∧ (nI i1) = nI i) ∧ (-1 : Int32) ≤ q)) ∧ u.1 = nI 0 ∧ r = -1) ∨ ∃ i, i < nF ∧ (nI i1) = nI i ∧ (-1 : Int32) ≤ q ∧ ((800 < (gA nC cf ct aK rj K).length ∧ u.1 = nI 1) ∨ ((gA nC cf ct aK rj K).length ≤ 800 ∧ u.1 = nI 0 ∧ (((∀ en ∈ gF nC cf ct aK rj K i, ¬ (en.2.1 = i ∧ badX en.2.2.1)) ∧ r = (if q = -1 then nI 0 else -1)) ∨ ∃ k en, (gF nC cf ct aK rj K i)[k]? = some en ∧ en.2.1 = i ∧ badX en.2.2.1 ∧ (∀ j x, j < k → (gF nC cf ct aK rj K i)[j]? = some x → ¬ (x.2.1 = i ∧ badX x.2.2.1)) ∧ ((q = -1 ∧ r = nI (chn (gF nC cf ct aK rj K i) (K + 1) (some k)).length) ∨ ∃ q1, q1 < 2 ^ 31 ∧ q = nI q1 ∧ ((q1 < (chn (gF nC cf ct aK rj K i) (K + 1) (some k)).length ∧ ∃ y, (chn (gF nC cf ct aK rj K i) (K + 1) (some k))[(chn (gF nC cf ct aK rj K i) (K + 1) (some k)).length - 1 - q1]? = some y ∧ r = nI y) ∨ ((chn (gF nC cf ct aK rj K i) (K + 1) (some k)).length ≤ q1 ∧ r = -1))))))) (fun (u : Int32 × Int32 × (Nat → Int32) × (Nat → Int32) × (Nat → Int32) × (Nat → Int32) × (Nat → Int32) × (Nat → Int32)) (t : State) => va_P (dC, dI) kls (wM h cI cZ u.1 (nI nF) (nI nC) u.2.1 aP (fun c => nI (cf c)) (fun c => nI (ct c)) aK u.2.2.1 u.2.2.2.1 u.2.2.2.2.1 u.2.2.2.2.2.1 u.2.2.2.2.2.2.1 u.2.2.2.2.2.2.2 oT oO oR bS) t.heap ∧ va_K (dC, dI) kls (tyM cI cZ) t ∧ va_D (A) (wM h cI cZ u.1 (nI nF) (nI nC) u.2.1 aP (fun c => nI (cf c)) (fun c => nI (ct c)) aK u.2.2.1 u.2.2.2.1 u.2.2.2.2.1 u.2.2.2.2.2.1 u.2.2.2.2.2.2.1 u.2.2.2.2.2.2.2 oT oO oR bS)) A) ([.ref (h 0), .int (nI i1), .int q]).toArray s 0 0 A) (F0 m 126 ls []) := by
                        intro n_lp2
                        induction n_lp2 with
                        | zero => intro pre a bR hch hpr hpl haj hn; exact absurd hn (Nat.not_lt_zero _)
                        | succ n_lp2 ih_lp2 =>
                          intro pre a bR hch hpr hpl haj hn H locs ls hP hD hS hl
                          refine lv_iload hx hb d_M_bad_126 (lv_at hl 5 rfl) ?_
                          refine lv_iconst (v := (-1)) hx hb d_M_bad_128 (by decide +kernel) ?_
                          refine lv_icmp_eq (tgt := 161) hx hb d_M_bad_129 (by decide) (fun c_129 => ?_) (fun c_129 => ?_)
                          · have han : a = none := by cases a; rfl; exact absurd c_129 (ah_neg (by have := haj _ rfl; omega))
                            subst han
                            rw [chn_none, List.append_nil] at hch
                            subst hch
                            have hpl9 : (chn (gF nC cf ct aK rj K i1) (K + 1) (some k)).length ≤ 801 := by have : mA none = 0 := rfl; omega
                            refine lv_iload_n hx hb d_M_bad_161 rfl (lv_at hl 2 rfl) ?_
                            refine lv_iconst (v := (-1)) hx hb d_M_bad_162 (by decide +kernel) ?_
                            refine lv_icmp_ne (tgt := 171) hx hb d_M_bad_163 (by decide) (fun c_163 => ?_) (fun c_163 => ?_)
                            · obtain ⟨q1, hq1, rfl⟩ := nI_of (nn_of c_10 c_163)
                              refine lv_iload_n hx hb d_M_bad_171 rfl (lv_at hl 2 rfl) ?_
                              refine lv_iload hx hb d_M_bad_172 (lv_at hl 4 rfl) ?_
                              refine lv_icmp_ge (tgt := 191) hx hb d_M_bad_174 (by decide) (fun c_174 => ?_) (fun c_174 => ?_)
                              · have c_174 : (chn (gF nC cf ct aK rj K i1) (K + 1) (some k)).length ≤ q1 := (nI_leI (a := (chn (gF nC cf ct aK rj K i1) (K + 1) (some k)).length) (b := q1) (by omega) (by omega)).mp c_174
                                refine lv_iconst (v := (-1)) hx hb d_M_bad_191 (by decide +kernel) ?_
                                exact W.iret (v := (-1)) hx hb hr (fun t ht hW => ⟨⟨(-1), (nI 0, nI (gF nC cf ct aK rj K i1).length, bF8, bL8, bB8, bA8, bY8, bR), rfl, Or.inr ⟨i1, hi1, rfl, c_10, Or.inr ⟨hle, rfl, Or.inr ⟨k, en, hen, c_77, hbad, hno, Or.inr ⟨q1, hq1, rfl, Or.inr ⟨c_174, rfl⟩⟩⟩⟩⟩, by rw [ht]; exact hP, va_K.moved hW.alike hK, hD⟩, hS.F ht⟩) hS.2.2 d_M_bad_192
                              · have c_174 : ¬ (chn (gF nC cf ct aK rj K i1) (K + 1) (some k)).length ≤ q1 := fun z9 => c_174 ((nI_leI (a := (chn (gF nC cf ct aK rj K i1) (K + 1) (some k)).length) (b := q1) (by omega) (by omega)).mpr z9)
                                refine lv_aload_n hx hb d_M_bad_177 rfl (lv_at hl 0 rfl) ?_
                                refine va_get (D := (dC, dI)) (ci := 0) (v := .ref (h 10)) (C := R_M) (T := F_M) (N := 18) hx hb hk k_M_f hown hK hP 0 rfl rfl 13 (by decide) (hk _ k_M_21) (fun _ h9 => h9) rfl d_M_bad_178 ?_
                                refine lv_iload hx hb d_M_bad_181 (lv_at hl 4 rfl) ?_
                                refine lv_iconst (v := nI 1) hx hb d_M_bad_183 (by decide +kernel) ?_
                                refine lv_isub hx hb d_M_bad_184 ?_
                                refine lv_topi (fun z7 ez7 => ?_)
                                obtain rfl : z7 = nI ((chn (gF nC cf ct aK rj K i1) (K + 1) (some k)).length - 1) := ez7.trans (pk_sub (by omega))
                                refine lv_iload_n hx hb d_M_bad_185 rfl (lv_at hl 2 rfl) ?_
                                refine lv_isub hx hb d_M_bad_186 ?_
                                refine lv_topi (fun z8 ez8 => ?_)
                                obtain rfl : z8 = nI ((chn (gF nC cf ct aK rj K i1) (K + 1) (some k)).length - 1 - q1) := ez8.trans (pk_sub (by omega))
                                refine va_iald hx hb hK hP 10 0 rfl rfl (pk_in ((chn (gF nC cf ct aK rj K i1) (K + 1) (some k)).length - 1 - q1) 801 (by omega)) d_M_bad_187 ?_
                                refine lv_topi (fun z9 ez9 => ?_)
                                obtain rfl : z9 = bR ((chn (gF nC cf ct aK rj K i1) (K + 1) (some k)).length - 1 - q1) := ez9.trans (rd (f := bR) (k := (chn (gF nC cf ct aK rj K i1) (K + 1) (some k)).length - 1 - q1) (by omega))
                                refine lv_goto (tgt := 192) hx hb d_M_bad_188 (by decide) ?_
                                obtain ⟨y9, hy9⟩ : ∃ y9, (chn (gF nC cf ct aK rj K i1) (K + 1) (some k))[(chn (gF nC cf ct aK rj K i1) (K + 1) (some k)).length - 1 - q1]? = some y9 := ⟨_, List.getElem?_eq_getElem (by omega)⟩
                                exact W.iret (v := bR ((chn (gF nC cf ct aK rj K i1) (K + 1) (some k)).length - 1 - q1)) hx hb hr (fun t ht hW => ⟨⟨bR ((chn (gF nC cf ct aK rj K i1) (K + 1) (some k)).length - 1 - q1), (nI 0, nI (gF nC cf ct aK rj K i1).length, bF8, bL8, bB8, bA8, bY8, bR), rfl, Or.inr ⟨i1, hi1, rfl, c_10, Or.inr ⟨hle, rfl, Or.inr ⟨k, en, hen, c_77, hbad, hno, Or.inr ⟨q1, hq1, rfl, Or.inl ⟨by omega, y9, hy9, hpr _ _ hy9⟩⟩⟩⟩⟩, by rw [ht]; exact hP, va_K.moved hW.alike hK, hD⟩, hS.F ht⟩) hS.2.2 d_M_bad_192
                            · refine lv_iload hx hb d_M_bad_166 (lv_at hl 4 rfl) ?_
                              refine lv_goto (tgt := 192) hx hb d_M_bad_168 (by decide) ?_
                              exact W.iret (v := nI ((chn (gF nC cf ct aK rj K i1) (K + 1) (some k)).length)) hx hb hr (fun t ht hW => ⟨⟨nI ((chn (gF nC cf ct aK rj K i1) (K + 1) (some k)).length), (nI 0, nI (gF nC cf ct aK rj K i1).length, bF8, bL8, bB8, bA8, bY8, bR), rfl, Or.inr ⟨i1, hi1, rfl, c_10, Or.inr ⟨hle, rfl, Or.inr ⟨k, en, hen, c_77, hbad, hno, Or.inl ⟨c_163, rfl⟩⟩⟩⟩, by rw [ht]; exact hP, va_K.moved hW.alike hK, hD⟩, hS.F ht⟩) hS.2.2 d_M_bad_192
                          · obtain ⟨j, rfl⟩ : ∃ j, a = some j := by cases a; exact absurd rfl c_129; exact ⟨_, rfl⟩
                            have hjl := haj j rfl
                            have hmj : mA (some j) = j + 1 := rfl
                            obtain ⟨eo, heo⟩ : ∃ eo, (gF nC cf ct aK rj K i1)[j]? = some eo := ⟨_, List.getElem?_eq_getElem hjl⟩
                            obtain ⟨-, -, -, q4, q5⟩ := hE8 j eo heo
                            have hl : lv_has ls 7 [(0, .ref (h 0)), (1, .int (nI i1)), (2, .int q), (4, .int (nI k)), (5, .int (nI pre.length)), (6, .int (nI j))] := hl
                            refine lv_aload_n hx hb d_M_bad_132 rfl (lv_at hl 0 rfl) ?_
                            refine va_get (D := (dC, dI)) (ci := 0) (v := .ref (h 10)) (C := R_M) (T := F_M) (N := 18) hx hb hk k_M_f hown hK hP 0 rfl rfl 13 (by decide) (hk _ k_M_21) (fun _ h9 => h9) rfl d_M_bad_133 ?_
                            refine lv_iload hx hb d_M_bad_136 (lv_at hl 4 rfl) ?_
                            refine lv_aload_n hx hb d_M_bad_138 rfl (lv_at hl 0 rfl) ?_
                            refine va_get (D := (dC, dI)) (ci := 0) (v := .ref (h 9)) (C := R_M) (T := F_M) (N := 18) hx hb hk k_M_f hown hK hP 0 rfl rfl 12 (by decide) (hk _ k_M_20) (fun _ h9 => h9) rfl d_M_bad_139 ?_
                            refine lv_iload hx hb d_M_bad_142 (lv_at hl 5 rfl) ?_
                            refine va_iald hx hb hK hP 9 0 rfl rfl (pk_in j 801 (by omega)) d_M_bad_144 ?_
                            refine lv_topi (fun z10 ez10 => ?_)
                            obtain rfl : z10 = nI eo.2.2.2.2 := ez10.trans ((rd (f := bY8) (k := j) (by omega)).trans q5)
                            refine va_iast hx hb hK hP hD hS 10 0 rfl rfl (pk_in pre.length 801 (by omega)) d_M_bad_145 (fun H locs hP hD hS => ?_)
                            rw [nI_clamp (n := pre.length) (by omega)] at hP hD
                            have hP : va_P (dC, dI) kls (wM h cI cZ (nI 0) (nI nF) (nI nC) (nI ((gF nC cf ct aK rj K i1).length)) aP (fun c => nI (cf c)) (fun c => nI (ct c)) aK bF8 bL8 bB8 bA8 bY8 (upd bR pre.length (nI eo.2.2.2.2)) oT oO oR bS) H := hP
                            have hD : va_D A (wM h cI cZ (nI 0) (nI nF) (nI nC) (nI ((gF nC cf ct aK rj K i1).length)) aP (fun c => nI (cf c)) (fun c => nI (ct c)) aK bF8 bL8 bB8 bA8 bY8 (upd bR pre.length (nI eo.2.2.2.2)) oT oO oR bS) := hD
                            refine lv_iinc (v := nI (pre.length + 1)) (lv' := [(5, .int (nI (pre.length + 1))), (0, .ref (h 0)), (1, .int (nI i1)), (2, .int q), (4, .int (nI k)), (6, .int (nI j))]) hx hb d_M_bad_146 hl (k := 4) rfl (nI_add pre.length 1) (by decide) rfl (fun ls hl => ?_)
                            refine lv_aload_n hx hb d_M_bad_149 rfl (lv_at hl 1 rfl) ?_
                            refine va_get (D := (dC, dI)) (ci := 0) (v := .ref (h 8)) (C := R_M) (T := F_M) (N := 18) hx hb hk k_M_f hown hK hP 0 rfl rfl 11 (by decide) (hk _ k_M_19) (fun _ h9 => h9) rfl d_M_bad_150 ?_
                            refine lv_iload hx hb d_M_bad_153 (lv_at hl 5 rfl) ?_
                            refine va_iald hx hb hK hP 8 0 rfl rfl (pk_in j 801 (by omega)) d_M_bad_155 ?_
                            refine lv_topi (fun z11 ez11 => ?_)
                            obtain rfl : z11 = ahI eo.2.2.2.1 := ez11.trans ((rd (f := bA8) (k := j) (by omega)).trans q4)
                            refine lv_istore (lv' := [(6, .int (ahI eo.2.2.2.1)), (5, .int (nI (pre.length + 1))), (0, .ref (h 0)), (1, .int (nI i1)), (2, .int q), (4, .int (nI k))]) hx hb d_M_bad_156 hl (by decide) rfl (fun ls hl => ?_)
                            refine lv_goto (tgt := 126) hx hb d_M_bad_158 (by decide) ?_
                            have hch2 : (pre ++ [eo.2.2.2.2]) ++ chn (gF nC cf ct aK rj K i1) (K + 1) eo.2.2.2.1 = chn (gF nC cf ct aK rj K i1) (K + 1) (some k) := by rw [← hch, chn_step hah heo (by omega), List.append_assoc]; rfl
                            have hln : (pre ++ [eo.2.2.2.2]).length = pre.length + 1 := by rw [List.length_append]; rfl
                            rw [← hln] at hl
                            have hmA : mA eo.2.2.2.1 ≤ j := by cases hz : eo.2.2.2.1 with
                              | none => exact Nat.zero_le _
                              | some i9 => exact hah j i9 eo heo hz
                            have hmj : mA (some j) = j + 1 := rfl
                            have haj2 : ∀ j9, eo.2.2.2.1 = some j9 → j9 < (gF nC cf ct aK rj K i1).length := fun j9 hj9 => by have := hah j j9 eo heo hj9; omega
                            exact ih_lp2 (pre ++ [eo.2.2.2.2]) eo.2.2.2.1 (upd bR pre.length (nI eo.2.2.2.2)) (hch2) (hR_snoc hpr _) (by omega) (haj2) (by omega) _ _ _ hP hD hS (lv_sub hl [2, 3, 4, 5, 1, 0] rfl)
                      exact lp2 _ ([]) (some k) bR (rfl) (fun j y hj => by simp at hj) (by show 0 + (k + 1) ≤ k + 1; omega) (fun j hj => by cases hj; omega) (Nat.lt_succ_self _) _ _ _ hP hD hS (lv_sub hl [2, 3, 4, 5, 1, 0] rfl)
                    · have c_105 : k = (gF nC cf ct aK rj K i1).length := (nI_eq (a := k) (b := (gF nC cf ct aK rj K i1).length) (by omega) (by omega)).mp c_105
                      exfalso; omega
                  · subst hr9
                    refine lv_if_ne (tgt := 99) hx hb d_M_bad_90 (by decide) (fun c9 => absurd c9 (by decide +kernel)) (fun _ => ?_)
                    refine lv_iinc (v := nI (k + 1)) (lv' := [(4, .int (nI (k + 1))), (0, .ref (h 0)), (1, .int (nI i1)), (2, .int q)]) hx hb d_M_bad_93 hl (k := 3) rfl (nI_add k 1) (by decide) rfl (fun ls hl => ?_)
                    refine lv_goto (tgt := 60) hx hb d_M_bad_96 (by decide) ?_
                    have hno2 : ∀ j x, j < k + 1 → (gF nC cf ct aK rj K i1)[j]? = some x → ¬ (x.2.1 = i1 ∧ badX x.2.2.1) := by
                      intro j x hj hx9
                      rcases Nat.lt_or_ge j k with z | z
                      · exact hno j x z hx9
                      · obtain rfl : j = k := by omega
                        rw [hen] at hx9
                        cases hx9
                        rintro ⟨z1, z2⟩
                        first
                          | exact c_77 z1
                          | exact hbad z2
                    exact ih_lp1 (k + 1) (by omega) (hno2) (by omega) _ _ _ hP hD hS (lv_sub hl [1, 2, 3, 0] rfl)
          exact lp1 _ 0 (Nat.zero_le _) (fun j x hj => absurd hj (Nat.not_lt_zero _)) (Nat.lt_succ_self _) _ _ _ hP hD hS (lv_sub hl [2, 3, 4, 0] rfl)
        · exact absurd (show 800 < (gF nC cf ct aK rj K i1).length from hgt) (by omega)
      · subst hr9
        subst hu9
        refine lv_if_eq (tgt := 51) hx hb d_M_bad_25 (by decide) (fun c9 => absurd c9 (by decide +kernel)) (fun _ => ?_)
        refine lv_aload_n hx hb d_M_bad_28 rfl (lv_at hl 1 rfl) ?_
        refine va_get (D := (dC, dI)) (ci := 0) (v := .int (nI 2)) (C := R_M) (T := F_M) (N := 18) hx hb hk k_M_f hown hK hP 0 rfl rfl 0 (by decide) (hk _ k_M_8) (fun _ h9 => h9) rfl d_M_bad_29 ?_
        refine lv_iconst (v := nI 2) hx hb d_M_bad_32 (by decide +kernel) ?_
        refine lv_icmp_ne (tgt := 41) hx hb d_M_bad_33 (by decide) (fun c9 => absurd c9 (by decide +kernel)) (fun _ => ?_)
        refine lv_aload_n hx hb d_M_bad_36 rfl (lv_at hl 1 rfl) ?_
        refine lv_iconst (v := nI 1) hx hb d_M_bad_37 (by decide +kernel) ?_
        refine va_put (D := (dC, dI)) (ci := 0) (v := .int (nI 1)) (ty := .int) (C := R_M) (T := F_M) (N := 18) hx hb hk k_M_f t_M t_M_ok n_M hown hK hP hD hS 0 rfl rfl 0 (by decide) (hk _ k_M_8) (fun _ h9 => h9) rfl (by decide +kernel) rfl rfl (Nat.le_of_ble_eq_true rfl) d_M_bad_38 (fun H locs hP hD hS => ?_)
        have hP : va_P (dC, dI) kls (wM h cI cZ (nI 1) (nI nF) (nI nC) xg9 aP (fun c => nI (cf c)) (fun c => nI (ct c)) aK bF9 bL9 bB9 bA9 bY9 bR oT oO oR bS) H := hP
        have hD : va_D A (wM h cI cZ (nI 1) (nI nF) (nI nC) xg9 aP (fun c => nI (cf c)) (fun c => nI (ct c)) aK bF9 bL9 bB9 bA9 bY9 bR oT oO oR bS) := hD
        refine lv_iload_n hx hb d_M_bad_41 rfl (lv_at hl 0 rfl) ?_
        refine lv_if_eq (tgt := 49) hx hb d_M_bad_42 (by decide) (fun _ => ?_) (fun c9 => absurd c9 (by decide +kernel))
        refine lv_iconst (v := nI 0) hx hb d_M_bad_49 (by decide +kernel) ?_
        exact W.iret (v := nI 0) hx hb hr (fun t ht hW => ⟨⟨nI 0, (nI 1, xg9, bF9, bL9, bB9, bA9, bY9, bR), rfl, Or.inr ⟨i1, hi1, rfl, c_10, Or.inl ⟨hgt, rfl⟩⟩, by rw [ht]; exact hP, va_K.moved hW.alike hK, hD⟩, hS.F ht⟩) hS.2.2 d_M_bad_50
    · refine lv_iconst (v := nI 1) hx hb d_M_bad_13 (by decide +kernel) ?_
      refine lv_goto (tgt := 18) hx hb d_M_bad_14 (by decide) ?_
      refine lv_istore_n (lv' := [(3, .int (nI 1)), (0, .ref (h 0)), (1, .int (nI i1)), (2, .int q)]) hx hb d_M_bad_18 rfl hl (by decide) rfl (fun ls hl => ?_)
      refine lv_aload_n hx hb d_M_bad_19 rfl (lv_at hl 1 rfl) ?_
      refine lv_iconst (v := nI 0) hx hb d_M_bad_20 (by decide +kernel) ?_
      refine lv_iload_n hx hb d_M_bad_21 rfl (lv_at hl 0 rfl) ?_
      have hFc := va_free (wc := wM h cI cZ xt (nI nF) (nI nC) xg aP (fun c => nI (cf c)) (fun c => nI (ct c)) aK bF bL bB bA bY bR oT oO oR bS) hD hS hA [0, 1, 2, 3, 4, 5, 6, 7, 8, 9, 10, 11, 12, 13, 14] rfl
      refine va_calli (va_runV (As := [.int (nI 0), .int (nI 1)]) (rest := []) ⟨hx, hb, hml, hown, hk⟩ (m_refused_n l dC dI cI cZ h H.size xt (nI nF) (nI nC) xg aP (fun c => nI (cf c)) (fun c => nI (ct c)) aK bF bL bB bA bY bR oT oO oR bS  ) (cwV 2 hk g_M_refused rfl rfl rfl (by decide +kernel) ⟨Nat.le_of_ble_eq_true rfl, Nat.le_of_ble_eq_true rfl⟩) ⟨fun a U g mk q => by obtain ⟨q0, q1, qP, qK, qD⟩ := q; exact ⟨q0, q1, qP, va_K.moved (u := U) (U := U.calling g mk a) (Vm.Alike.refl U.vm) qK, qD⟩, va_recv hK hP (ci := 0) (q0 := 0) rfl rfl, fun U hU hW => ⟨rfl, by rw [hU], by rw [hU]; exact hP, va_K.moved hW.alike hK, hD.weaken (fun _ _ _ _ => trivial)⟩⟩ rfl rfl hl.1 rfl (lv_room (Nat.le_of_ble_eq_true rfl)) d_M_bad_22 ⟨Nat.le_of_ble_eq_true rfl, Nat.le_of_ble_eq_true rfl⟩) hS (fun q _ h => hFc q h) hFc (fun r12 u9 t H1 locs ht hvm hw hB hz1 hk1 hS => ?_)
      obtain ⟨xt9, rfl⟩ : ∃ z, z = u9 := ⟨_, rfl⟩
      obtain ⟨hP1, hK1, hD1⟩ := hB
      rw [ht] at hP1
      try dsimp only at hw
      obtain ⟨hP, hD⟩ := va_join (wr := []) (w1 := wM h cI cZ xt9 (nI nF) (nI nC) xg aP (fun c => nI (cf c)) (fun c => nI (ct c)) aK bF bL bB bA bY bR oT oO oR bS) hP hD [0, 1, 2, 3, 4, 5, 6, 7, 8, 9, 10, 11, 12, 13, 14] [] rfl rfl (by decide) (by decide) hk1 hFc hP1 hD1
      generalize H1 = H at hP hS ⊢
      have hP : va_P (dC, dI) kls (wM h cI cZ xt9 (nI nF) (nI nC) xg aP (fun c => nI (cf c)) (fun c => nI (ct c)) aK bF bL bB bA bY bR oT oO oR bS) H := hP
      have hD : va_D A (wM h cI cZ xt9 (nI nF) (nI nC) xg aP (fun c => nI (cf c)) (fun c => nI (ct c)) aK bF bL bB bA bY bR oT oO oR bS) := hD
      obtain ⟨hr9, hu9⟩ := hw
      subst hr9
      subst hu9
      refine lv_if_eq (tgt := 51) hx hb d_M_bad_25 (by decide) (fun c9 => absurd c9 (by decide +kernel)) (fun _ => ?_)
      refine lv_aload_n hx hb d_M_bad_28 rfl (lv_at hl 1 rfl) ?_
      refine va_get (D := (dC, dI)) (ci := 0) (v := .int (nI 0)) (C := R_M) (T := F_M) (N := 18) hx hb hk k_M_f hown hK hP 0 rfl rfl 0 (by decide) (hk _ k_M_8) (fun _ h9 => h9) rfl d_M_bad_29 ?_
      refine lv_iconst (v := nI 2) hx hb d_M_bad_32 (by decide +kernel) ?_
      refine lv_icmp_ne (tgt := 41) hx hb d_M_bad_33 (by decide) (fun _ => ?_) (fun c9 => absurd c9 (by decide +kernel))
      refine lv_iload_n hx hb d_M_bad_41 rfl (lv_at hl 0 rfl) ?_
      refine lv_if_eq (tgt := 49) hx hb d_M_bad_42 (by decide) (fun c9 => absurd c9 (by decide +kernel)) (fun _ => ?_)
      refine lv_iconst (v := (-1)) hx hb d_M_bad_45 (by decide +kernel) ?_
      refine lv_goto (tgt := 50) hx hb d_M_bad_46 (by decide) ?_
      have hq9 : ¬ ((∃ i, i < nF ∧ nI i1 = nI i) ∧ (-1 : Int32) ≤ q) := by
        rintro ⟨z1, z2⟩
        first
          | exact hno_f z1
          | exact c_10 z2
      exact W.iret (v := (-1)) hx hb hr (fun t ht hW => ⟨⟨(-1), (nI 0, xg, bF, bL, bB, bA, bY, bR), rfl, Or.inl ⟨hq9, rfl, rfl⟩, by rw [ht]; exact hP, va_K.moved hW.alike hK, hD⟩, hS.F ht⟩) hS.2.2 d_M_bad_50
  · subst hr9
    refine lv_if_eq (tgt := 13) hx hb d_M_bad_5 (by decide) (fun _ => ?_) (fun c9 => absurd c9 (by decide +kernel))
    refine lv_iconst (v := nI 1) hx hb d_M_bad_13 (by decide +kernel) ?_
    refine lv_goto (tgt := 18) hx hb d_M_bad_14 (by decide) ?_
    refine lv_istore_n (lv' := [(3, .int (nI 1)), (0, .ref (h 0)), (1, .int f), (2, .int q)]) hx hb d_M_bad_18 rfl hl (by decide) rfl (fun ls hl => ?_)
    refine lv_aload_n hx hb d_M_bad_19 rfl (lv_at hl 1 rfl) ?_
    refine lv_iconst (v := nI 0) hx hb d_M_bad_20 (by decide +kernel) ?_
    refine lv_iload_n hx hb d_M_bad_21 rfl (lv_at hl 0 rfl) ?_
    have hFc := va_free (wc := wM h cI cZ xt (nI nF) (nI nC) xg aP (fun c => nI (cf c)) (fun c => nI (ct c)) aK bF bL bB bA bY bR oT oO oR bS) hD hS hA [0, 1, 2, 3, 4, 5, 6, 7, 8, 9, 10, 11, 12, 13, 14] rfl
    refine va_calli (va_runV (As := [.int (nI 0), .int (nI 1)]) (rest := []) ⟨hx, hb, hml, hown, hk⟩ (m_refused_n l dC dI cI cZ h H.size xt (nI nF) (nI nC) xg aP (fun c => nI (cf c)) (fun c => nI (ct c)) aK bF bL bB bA bY bR oT oO oR bS  ) (cwV 2 hk g_M_refused rfl rfl rfl (by decide +kernel) ⟨Nat.le_of_ble_eq_true rfl, Nat.le_of_ble_eq_true rfl⟩) ⟨fun a U g mk q => by obtain ⟨q0, q1, qP, qK, qD⟩ := q; exact ⟨q0, q1, qP, va_K.moved (u := U) (U := U.calling g mk a) (Vm.Alike.refl U.vm) qK, qD⟩, va_recv hK hP (ci := 0) (q0 := 0) rfl rfl, fun U hU hW => ⟨rfl, by rw [hU], by rw [hU]; exact hP, va_K.moved hW.alike hK, hD.weaken (fun _ _ _ _ => trivial)⟩⟩ rfl rfl hl.1 rfl (lv_room (Nat.le_of_ble_eq_true rfl)) d_M_bad_22 ⟨Nat.le_of_ble_eq_true rfl, Nat.le_of_ble_eq_true rfl⟩) hS (fun q _ h => hFc q h) hFc (fun r13 u9 t H1 locs ht hvm hw hB hz1 hk1 hS => ?_)
    obtain ⟨xt9, rfl⟩ : ∃ z, z = u9 := ⟨_, rfl⟩
    obtain ⟨hP1, hK1, hD1⟩ := hB
    rw [ht] at hP1
    try dsimp only at hw
    obtain ⟨hP, hD⟩ := va_join (wr := []) (w1 := wM h cI cZ xt9 (nI nF) (nI nC) xg aP (fun c => nI (cf c)) (fun c => nI (ct c)) aK bF bL bB bA bY bR oT oO oR bS) hP hD [0, 1, 2, 3, 4, 5, 6, 7, 8, 9, 10, 11, 12, 13, 14] [] rfl rfl (by decide) (by decide) hk1 hFc hP1 hD1
    generalize H1 = H at hP hS ⊢
    have hP : va_P (dC, dI) kls (wM h cI cZ xt9 (nI nF) (nI nC) xg aP (fun c => nI (cf c)) (fun c => nI (ct c)) aK bF bL bB bA bY bR oT oO oR bS) H := hP
    have hD : va_D A (wM h cI cZ xt9 (nI nF) (nI nC) xg aP (fun c => nI (cf c)) (fun c => nI (ct c)) aK bF bL bB bA bY bR oT oO oR bS) := hD
    obtain ⟨hr9, hu9⟩ := hw
    subst hr9
    subst hu9
    refine lv_if_eq (tgt := 51) hx hb d_M_bad_25 (by decide) (fun c9 => absurd c9 (by decide +kernel)) (fun _ => ?_)
    refine lv_aload_n hx hb d_M_bad_28 rfl (lv_at hl 1 rfl) ?_
    refine va_get (D := (dC, dI)) (ci := 0) (v := .int (nI 0)) (C := R_M) (T := F_M) (N := 18) hx hb hk k_M_f hown hK hP 0 rfl rfl 0 (by decide) (hk _ k_M_8) (fun _ h9 => h9) rfl d_M_bad_29 ?_
    refine lv_iconst (v := nI 2) hx hb d_M_bad_32 (by decide +kernel) ?_
    refine lv_icmp_ne (tgt := 41) hx hb d_M_bad_33 (by decide) (fun _ => ?_) (fun c9 => absurd c9 (by decide +kernel))
    refine lv_iload_n hx hb d_M_bad_41 rfl (lv_at hl 0 rfl) ?_
    refine lv_if_eq (tgt := 49) hx hb d_M_bad_42 (by decide) (fun c9 => absurd c9 (by decide +kernel)) (fun _ => ?_)
    refine lv_iconst (v := (-1)) hx hb d_M_bad_45 (by decide +kernel) ?_
    refine lv_goto (tgt := 50) hx hb d_M_bad_46 (by decide) ?_
    have hq9 : ¬ ((∃ i, i < nF ∧ f = nI i) ∧ (-1 : Int32) ≤ q) := by
      rintro ⟨z1, z2⟩
      first
        | exact hno_f z1
        | exact c_10 z2
    exact W.iret (v := (-1)) hx hb hr (fun t ht hW => ⟨⟨(-1), (nI 0, xg, bF, bL, bB, bA, bY, bR), rfl, Or.inl ⟨hq9, rfl, rfl⟩, by rw [ht]; exact hP, va_K.moved hW.alike hK, hD⟩, hS.F ht⟩) hS.2.2 d_M_bad_50
