theorem nx_and (a b : Nat) : nI a &&& nI b = nI (a &&& b) := by
  apply Int32.toBitVec_inj.1
  show BitVec.ofNat 32 a &&& BitVec.ofNat 32 b = BitVec.ofNat 32 (a &&& b)
  apply BitVec.eq_of_getLsbD_eq
  intro i hi
  simp [hi]
theorem nx_or (a b : Nat) : nI a ||| nI b = nI (a ||| b) := by
  apply Int32.toBitVec_inj.1
  show BitVec.ofNat 32 a ||| BitVec.ofNat 32 b = BitVec.ofNat 32 (a ||| b)
  apply BitVec.eq_of_getLsbD_eq
  intro i hi
  simp [hi]
theorem bit_nat (a k : Nat) : a / 2 ^ k &&& 1 = (a.testBit k).toNat := by
  rw [Nat.and_one_is_mod, Nat.testBit_eq_decide_div_mod_eq]
  rcases Nat.mod_two_eq_zero_or_one (a / 2 ^ k) with h | h <;> rw [h] <;> rfl
theorem sar_bit {a k : Nat} (ha : a < 65536) (hk : k < 16) : sar (nI a) k &&& nI 1 = nI (a.testBit k).toNat := by
  unfold sar
  rw [pk_shrN (by omega) _ k (s_l k (by omega)), nx_and, bit_nat]
theorem ush_bit {a k : Nat} (ha : a < 65536) (hk : k < 16) : ush (nI a) k &&& nI 1 = nI (a.testBit k).toNat := by
  unfold ush
  rw [pk_ushrN (by omega) _ k (s_u k (by omega)), nx_and, bit_nat]
theorem shl_1 : ∀ k, k < 16 → shl (nI 1) k = nI (2 ^ k) := by decide +kernel
theorem or_bit {a k : Nat} (h : a.testBit k = true) : a ||| 2 ^ k = a := by
  apply Nat.eq_of_testBit_eq
  intro i
  rw [Nat.testBit_or, Nat.testBit_two_pow]
  by_cases hik : k = i
  · subst hik; rw [h]; rfl
  · rw [decide_eq_false hik]; simp
theorem or_new {a k : Nat} (h : a.testBit k = false) : a ||| 2 ^ k ≠ a := by
  intro e
  have h2 : (a ||| 2 ^ k).testBit k = true := by rw [Nat.testBit_or, Nat.testBit_two_pow, decide_eq_true rfl]; simp
  rw [e, h] at h2
  cases h2
theorem p2_lt {n : Nat} (h : n ≤ 10) : 2 ^ n ≤ 1024 := Nat.pow_le_pow_right (n := 2) (by omega) h
set_option maxHeartbeats 4000000 in
set_option maxRecDepth 100000 in
theorem m_graphs (l : Launch) (dC : Nat → ClassId) (dI : Nat → Nat → Nat) (cI cZ : ClassId) (h : Nat → Nat) (sz : Nat) (xt xg : Int32) (aP aK bF bL bB bA bY bR oT oO oR bS : Nat → Int32) (nF nC K : Nat) (cf ct : Nat → Nat) (f g : Int32) (hF : nF ≤ 10) (hC : nC ≤ 20) (hK8 : 801 ≤ K) (hS0 : ∀ c, c < nC → cf c < nF ∧ ct c < nF) : Met l y_M_graphs w_M_graphs ({ frames := 4, cells := 0, slots := 0, locals := 96 }) (va_Pc [.ref (h 0), .int f, .int g] (fun U => U.heap.size = sz ∧ va_P (dC, dI) kls (wM h cI cZ xt (nI nF) (nI nC) xg aP (fun c => nI (cf c)) (fun c => nI (ct c)) aK bF bL bB bA bY bR oT oO oR bS) U.heap ∧ va_K (dC, dI) kls (tyM cI cZ) U ∧ va_D (fun _ => True) (wM h cI cZ xt (nI nF) (nI nC) xg aP (fun c => nI (cf c)) (fun c => nI (ct c)) aK bF bL bB bA bY bR oT oO oR bS))) (va_Qi (fun (r : Int32) (u : Int32 × Int32 × (Nat → Int32) × (Nat → Int32) × (Nat → Int32) × (Nat → Int32) × (Nat → Int32)) => ((¬ ((∃ i, i < nF ∧ f = nI i) ∧ (∃ j, j < nF ∧ g = nI j))) ∧ u.1 = nI 0 ∧ r = -1) ∨ ∃ i j, i < nF ∧ j < nF ∧ f = nI i ∧ g = nI j ∧ ((800 < (gA nC cf ct aK rj K).length ∧ u.1 = nI 1) ∨ ((gA nC cf ct aK rj K).length ≤ 800 ∧ u.1 = nI 0 ∧ r = nI ((gA nC cf ct aK rj K).countP (qFG i j))))) (fun (u : Int32 × Int32 × (Nat → Int32) × (Nat → Int32) × (Nat → Int32) × (Nat → Int32) × (Nat → Int32)) (t : State) => va_P (dC, dI) kls (wM h cI cZ u.1 (nI nF) (nI nC) u.2.1 aP (fun c => nI (cf c)) (fun c => nI (ct c)) aK u.2.2.1 u.2.2.2.1 u.2.2.2.2.1 u.2.2.2.2.2.1 u.2.2.2.2.2.2 bR oT oO oR bS) t.heap ∧ va_K (dC, dI) kls (tyM cI cZ) t ∧ va_D (va_A (wM h cI cZ xt (nI nF) (nI nC) xg aP (fun c => nI (cf c)) (fun c => nI (ct c)) aK bF bL bB bA bY bR oT oO oR bS) sz) (wM h cI cZ u.1 (nI nF) (nI nC) u.2.1 aP (fun c => nI (cf c)) (fun c => nI (ct c)) aK u.2.2.1 u.2.2.2.1 u.2.2.2.2.1 u.2.2.2.2.2.1 u.2.2.2.2.2.2 bR oT oO oR bS)) (va_A (wM h cI cZ xt (nI nF) (nI nC) xg aP (fun c => nI (cf c)) (fun c => nI (ct c)) aK bF bL bB bA bY bR oT oO oR bS) sz)) 0 0 (va_A (wM h cI cZ xt (nI nF) (nI nC) xg aP (fun c => nI (cf c)) (fun c => nI (ct c)) aK bF bL bB bA bY bR oT oO oR bS) sz) := by
  refine Met.ofW (cc := c_M_graphs) (maxL := 4) (ret := (some .int)) (by decide) rfl ?_
  intro p e s m args below meth c s₁ B hml hv
  obtain ⟨rfl, hsz, hP, hK, hD0⟩ := hv
  have hx := B.exec
  have hb := B.bytes
  have hr := B.returns
  have hts := atoms_spec (ws := w_M_graphs) B.pre
  have hk : ∀ w ∈ wMw, w.before _ s = true := fun w h => hts w (List.mem_cons_of_mem _ h)
  have hown : s.vm.findClass R_M = some m.cls := findClass_of_methodNamed B.named
  have hlocks := B.notSynchronized
  subst hsz
  have hD := hD0.self (sz := s.heap.size)
  generalize hAe : va_A (wM h cI cZ xt (nI nF) (nI nC) xg aP (fun c => nI (cf c)) (fun c => nI (ct c)) aK bF bL bB bA bY bR oT oO oR bS) s.heap.size = A at hD ⊢
  have hA : ∀ q : Nat, s.heap.size ≤ q → A q := fun q h => by rw [← hAe]; exact Or.inr h
  have hS : va_S A s.heap s.heap [] := va_S.rf
  have hl := lv_entry ([.ref (h 0), .int f, .int g]) (n := 4) (Nat.le_of_ble_eq_true rfl)
  rw [lg_entry_eq]
  generalize (lg_sl ([.ref (h 0), .int f, .int g]) ++ List.replicate (4 - (lg_sl ([.ref (h 0), .int f, .int g])).length) Slot.unset).toArray = ls at hl ⊢
  have hl : lv_has ls 4 [(0, .ref (h 0)), (1, .int f), (2, .int g)] := hl
  refine lv_aload_n hx hb d_M_graphs_0 rfl (lv_at hl 0 rfl) ?_
  refine lv_iload_n hx hb d_M_graphs_1 rfl (lv_at hl 1 rfl) ?_
  have hFc := va_free (wc := wM h cI cZ xt (nI nF) (nI nC) xg aP (fun c => nI (cf c)) (fun c => nI (ct c)) aK bF bL bB bA bY bR oT oO oR bS) hD hS hA [0, 1, 2, 3, 4, 5, 6, 7, 8, 9, 10, 11, 12, 13, 14] rfl
  refine va_calli (va_runV (As := [.int f]) (rest := []) ⟨hx, hb, hml, hown, hk⟩ (m_isFunction l dC dI cI cZ h s.heap.size xt (nI nC) xg aP (fun c => nI (cf c)) (fun c => nI (ct c)) aK bF bL bB bA bY bR oT oO oR bS nF f (by omega)) (cwV 1 hk g_M_isFunction rfl rfl rfl (by decide +kernel) ⟨Nat.le_of_ble_eq_true rfl, Nat.le_of_ble_eq_true rfl⟩) ⟨fun a U g mk q => by obtain ⟨q0, q1, qP, qK, qD⟩ := q; exact ⟨q0, q1, qP, va_K.moved (u := U) (U := U.calling g mk a) (Vm.Alike.refl U.vm) qK, qD⟩, va_recv hK hP (ci := 0) (q0 := 0) rfl rfl, fun U hU hW => ⟨rfl, by rw [hU], by rw [hU]; exact hP, va_K.moved hW.alike hK, hD.weaken (fun _ _ _ _ => trivial)⟩⟩ rfl rfl hl.1 rfl (lv_room (Nat.le_of_ble_eq_true rfl)) d_M_graphs_2 ⟨Nat.le_of_ble_eq_true rfl, Nat.le_of_ble_eq_true rfl⟩) hS (fun q _ h => hFc q h) hFc (fun r1 u9 t H1 locs ht hvm hw hB hz1 hk1 hS => ?_)
  obtain ⟨hP1, hK1, hD1⟩ := hB
  rw [ht] at hP1
  try dsimp only at hw
  obtain ⟨hP, hD⟩ := va_join (wr := []) (w1 := wM h cI cZ xt (nI nF) (nI nC) xg aP (fun c => nI (cf c)) (fun c => nI (ct c)) aK bF bL bB bA bY bR oT oO oR bS) hP hD [0, 1, 2, 3, 4, 5, 6, 7, 8, 9, 10, 11, 12, 13, 14] [] rfl rfl (by decide) (by decide) hk1 hFc hP1 hD1
  generalize H1 = H at hP hS ⊢
  have hP : va_P (dC, dI) kls (wM h cI cZ xt (nI nF) (nI nC) xg aP (fun c => nI (cf c)) (fun c => nI (ct c)) aK bF bL bB bA bY bR oT oO oR bS) H := hP
  have hD : va_D A (wM h cI cZ xt (nI nF) (nI nC) xg aP (fun c => nI (cf c)) (fun c => nI (ct c)) aK bF bL bB bA bY bR oT oO oR bS) := hD
  rcases hw with ⟨hr9, i1, hi1, hfj⟩ | ⟨hr9, hno_f⟩
  · subst hr9
    subst hfj
    refine lv_if_eq (tgt := 16) hx hb d_M_graphs_5 (by decide) (fun c9 => absurd c9 (by decide +kernel)) (fun _ => ?_)
    refine lv_aload_n hx hb d_M_graphs_8 rfl (lv_at hl 0 rfl) ?_
    refine lv_iload_n hx hb d_M_graphs_9 rfl (lv_at hl 2 rfl) ?_
    have hFc := va_free (wc := wM h cI cZ xt (nI nF) (nI nC) xg aP (fun c => nI (cf c)) (fun c => nI (ct c)) aK bF bL bB bA bY bR oT oO oR bS) hD hS hA [0, 1, 2, 3, 4, 5, 6, 7, 8, 9, 10, 11, 12, 13, 14] rfl
    refine va_calli (va_runV (As := [.int g]) (rest := []) ⟨hx, hb, hml, hown, hk⟩ (m_isFunction l dC dI cI cZ h H.size xt (nI nC) xg aP (fun c => nI (cf c)) (fun c => nI (ct c)) aK bF bL bB bA bY bR oT oO oR bS nF g (by omega)) (cwV 1 hk g_M_isFunction rfl rfl rfl (by decide +kernel) ⟨Nat.le_of_ble_eq_true rfl, Nat.le_of_ble_eq_true rfl⟩) ⟨fun a U g mk q => by obtain ⟨q0, q1, qP, qK, qD⟩ := q; exact ⟨q0, q1, qP, va_K.moved (u := U) (U := U.calling g mk a) (Vm.Alike.refl U.vm) qK, qD⟩, va_recv hK hP (ci := 0) (q0 := 0) rfl rfl, fun U hU hW => ⟨rfl, by rw [hU], by rw [hU]; exact hP, va_K.moved hW.alike hK, hD.weaken (fun _ _ _ _ => trivial)⟩⟩ rfl rfl hl.1 rfl (lv_room (Nat.le_of_ble_eq_true rfl)) d_M_graphs_10 ⟨Nat.le_of_ble_eq_true rfl, Nat.le_of_ble_eq_true rfl⟩) hS (fun q _ h => hFc q h) hFc (fun r2 u9 t H1 locs ht hvm hw hB hz1 hk1 hS => ?_)
    obtain ⟨hP1, hK1, hD1⟩ := hB
    rw [ht] at hP1
    try dsimp only at hw
    obtain ⟨hP, hD⟩ := va_join (wr := []) (w1 := wM h cI cZ xt (nI nF) (nI nC) xg aP (fun c => nI (cf c)) (fun c => nI (ct c)) aK bF bL bB bA bY bR oT oO oR bS) hP hD [0, 1, 2, 3, 4, 5, 6, 7, 8, 9, 10, 11, 12, 13, 14] [] rfl rfl (by decide) (by decide) hk1 hFc hP1 hD1
    generalize H1 = H at hP hS ⊢
    have hP : va_P (dC, dI) kls (wM h cI cZ xt (nI nF) (nI nC) xg aP (fun c => nI (cf c)) (fun c => nI (ct c)) aK bF bL bB bA bY bR oT oO oR bS) H := hP
    have hD : va_D A (wM h cI cZ xt (nI nF) (nI nC) xg aP (fun c => nI (cf c)) (fun c => nI (ct c)) aK bF bL bB bA bY bR oT oO oR bS) := hD
    rcases hw with ⟨hr9, j1, hj1, hfj⟩ | ⟨hr9, hno_g⟩
    · subst hr9
      subst hfj
      refine lv_if_ne (tgt := 20) hx hb d_M_graphs_13 (by decide) (fun _ => ?_) (fun c9 => absurd c9 (by decide +kernel))
      refine lv_iconst (v := nI 0) hx hb d_M_graphs_20 (by decide +kernel) ?_
      refine lv_istore_n (lv' := [(3, .int (nI 0)), (0, .ref (h 0)), (1, .int (nI i1)), (2, .int (nI j1))]) hx hb d_M_graphs_21 rfl hl (by decide) rfl (fun ls hl => ?_)
      refine lv_aload_n hx hb d_M_graphs_22 rfl (lv_at hl 1 rfl) ?_
      refine lv_iconst (v := nI 0) hx hb d_M_graphs_23 (by decide +kernel) ?_
      refine lv_iload_n hx hb d_M_graphs_24 rfl (lv_at hl 0 rfl) ?_
      have hFc := va_free (wc := wM h cI cZ xt (nI nF) (nI nC) xg aP (fun c => nI (cf c)) (fun c => nI (ct c)) aK bF bL bB bA bY bR oT oO oR bS) hD hS hA [0, 1, 2, 3, 4, 5, 6, 7, 8, 9, 10, 11, 12, 13, 14] rfl
      refine va_calli (va_runV (As := [.int (nI 0), .int (nI 0)]) (rest := []) ⟨hx, hb, hml, hown, hk⟩ (m_refused l dC dI cI cZ h H.size xt (nI nF) xg aP aK bF bL bB bA bY bR oT oO oR bS nC K cf ct (hC) (hK8) (fun c hc => ⟨by have := hS0 c hc; omega, by have := hS0 c hc; omega⟩)) (cwV 2 hk g_M_refused rfl rfl rfl (by decide +kernel) ⟨Nat.le_of_ble_eq_true rfl, Nat.le_of_ble_eq_true rfl⟩) ⟨fun a U g mk q => by obtain ⟨q0, q1, qP, qK, qD⟩ := q; exact ⟨q0, q1, qP, va_K.moved (u := U) (U := U.calling g mk a) (Vm.Alike.refl U.vm) qK, qD⟩, va_recv hK hP (ci := 0) (q0 := 0) rfl rfl, fun U hU hW => ⟨rfl, by rw [hU], by rw [hU]; exact hP, va_K.moved hW.alike hK, hD.weaken (fun _ _ _ _ => trivial)⟩⟩ rfl rfl hl.1 rfl (lv_room (Nat.le_of_ble_eq_true rfl)) d_M_graphs_25 ⟨Nat.le_of_ble_eq_true rfl, Nat.le_of_ble_eq_true rfl⟩) hS (fun q _ h => hFc q h) hFc (fun r3 u9 t H1 locs ht hvm hw hB hz1 hk1 hS => ?_)
      obtain ⟨xt9, xg9, bF9, bL9, bB9, bA9, bY9⟩ := u9
      obtain ⟨hP1, hK1, hD1⟩ := hB
      rw [ht] at hP1
      try dsimp only at hw
      obtain ⟨hP, hD⟩ := va_join (wr := []) (w1 := wM h cI cZ xt9 (nI nF) (nI nC) xg9 aP (fun c => nI (cf c)) (fun c => nI (ct c)) aK bF9 bL9 bB9 bA9 bY9 bR oT oO oR bS) hP hD [0, 1, 2, 3, 4, 5, 6, 7, 8, 9, 10, 11, 12, 13, 14] [] rfl rfl (by decide) (by decide) hk1 hFc hP1 hD1
      generalize H1 = H at hP hS ⊢
      have hP : va_P (dC, dI) kls (wM h cI cZ xt9 (nI nF) (nI nC) xg9 aP (fun c => nI (cf c)) (fun c => nI (ct c)) aK bF9 bL9 bB9 bA9 bY9 bR oT oO oR bS) H := hP
      have hD : va_D A (wM h cI cZ xt9 (nI nF) (nI nC) xg9 aP (fun c => nI (cf c)) (fun c => nI (ct c)) aK bF9 bL9 bB9 bA9 bY9 bR oT oO oR bS) := hD
      rcases hw with ⟨hr9, hu9, hle, hg9, hE9⟩ | ⟨hr9, hu9, hgt⟩
      · subst hr9
        subst hu9
        subst hg9
        have hsm : smE (gA nC cf ct aK rj K) := sm_of (fun c hc => ⟨by have := hS0 c hc; omega, by have := hS0 c hc; omega⟩) (bsG_ok nC cf ct aK rj (fun _ => true) K)
        refine lv_if_eq (tgt := 54) hx hb d_M_graphs_28 (by decide) (fun _ => ?_) (fun c9 => absurd c9 (by decide +kernel))
        refine lv_aload_n hx hb d_M_graphs_54 rfl (lv_at hl 1 rfl) ?_
        refine lv_iload_n hx hb d_M_graphs_55 rfl (lv_at hl 2 rfl) ?_
        refine lv_iload_n hx hb d_M_graphs_56 rfl (lv_at hl 3 rfl) ?_
        have hFc := va_free (wc := wM h cI cZ (nI 0) (nI nF) (nI nC) (nI ((gA nC cf ct aK rj K).length)) aP (fun c => nI (cf c)) (fun c => nI (ct c)) aK bF9 bL9 bB9 bA9 bY9 bR oT oO oR bS) hD hS hA [0, 1, 2, 3, 4, 5, 6, 7, 8, 9, 10, 11, 12, 13, 14] rfl
        refine va_calli (va_runV (As := [.int (nI i1), .int (nI j1)]) (rest := []) ⟨hx, hb, hml, hown, hk⟩ (m_between l dC dI cI cZ h H.size (nI 0) (nI nF) (nI nC) aP (fun c => nI (cf c)) (fun c => nI (ct c)) aK bF9 bL9 bB9 bA9 bY9 bR oT oO oR bS (gA nC cf ct aK rj K) i1 j1 (by omega) (hE9) (hsm) (by omega) (by omega)) (cwV 2 hk g_M_between rfl rfl rfl (by decide +kernel) ⟨Nat.le_of_ble_eq_true rfl, Nat.le_of_ble_eq_true rfl⟩) ⟨fun a U g mk q => by obtain ⟨q0, q1, qP, qK, qD⟩ := q; exact ⟨q0, q1, qP, va_K.moved (u := U) (U := U.calling g mk a) (Vm.Alike.refl U.vm) qK, qD⟩, va_recv hK hP (ci := 0) (q0 := 0) rfl rfl, fun U hU hW => ⟨rfl, by rw [hU], by rw [hU]; exact hP, va_K.moved hW.alike hK, hD.weaken (fun _ _ _ _ => trivial)⟩⟩ rfl rfl hl.1 rfl (lv_room (Nat.le_of_ble_eq_true rfl)) d_M_graphs_57 ⟨Nat.le_of_ble_eq_true rfl, Nat.le_of_ble_eq_true rfl⟩) hS (fun q _ h => hFc q h) hFc (fun r4 u9 t H1 locs ht hvm hw hB hz1 hk1 hS => ?_)
        obtain ⟨hP1, hK1, hD1⟩ := hB
        rw [ht] at hP1
        try dsimp only at hw
        obtain ⟨hP, hD⟩ := va_join (wr := []) (w1 := wM h cI cZ (nI 0) (nI nF) (nI nC) (nI ((gA nC cf ct aK rj K).length)) aP (fun c => nI (cf c)) (fun c => nI (ct c)) aK bF9 bL9 bB9 bA9 bY9 bR oT oO oR bS) hP hD [0, 1, 2, 3, 4, 5, 6, 7, 8, 9, 10, 11, 12, 13, 14] [] rfl rfl (by decide) (by decide) hk1 hFc hP1 hD1
        generalize H1 = H at hP hS ⊢
        have hP : va_P (dC, dI) kls (wM h cI cZ (nI 0) (nI nF) (nI nC) (nI ((gA nC cf ct aK rj K).length)) aP (fun c => nI (cf c)) (fun c => nI (ct c)) aK bF9 bL9 bB9 bA9 bY9 bR oT oO oR bS) H := hP
        have hD : va_D A (wM h cI cZ (nI 0) (nI nF) (nI nC) (nI ((gA nC cf ct aK rj K).length)) aP (fun c => nI (cf c)) (fun c => nI (ct c)) aK bF9 bL9 bB9 bA9 bY9 bR oT oO oR bS) := hD
        subst hw
        exact W.iret (v := nI ((gA nC cf ct aK rj K).countP (qFG i1 j1))) hx hb hr (fun t ht hW => ⟨⟨nI ((gA nC cf ct aK rj K).countP (qFG i1 j1)), (nI 0, nI (gA nC cf ct aK rj K).length, bF9, bL9, bB9, bA9, bY9), rfl, Or.inr ⟨i1, j1, hi1, hj1, rfl, rfl, Or.inr ⟨hle, rfl, rfl⟩⟩, by rw [ht]; exact hP, va_K.moved hW.alike hK, hD⟩, hS.F ht⟩) hS.2.2 d_M_graphs_60
      · subst hr9
        subst hu9
        refine lv_if_eq (tgt := 54) hx hb d_M_graphs_28 (by decide) (fun c9 => absurd c9 (by decide +kernel)) (fun _ => ?_)
        refine lv_aload_n hx hb d_M_graphs_31 rfl (lv_at hl 1 rfl) ?_
        refine va_get (D := (dC, dI)) (ci := 0) (v := .int (nI 2)) (C := R_M) (T := F_M) (N := 18) hx hb hk k_M_f hown hK hP 0 rfl rfl 0 (by decide) (hk _ k_M_8) (fun _ h9 => h9) rfl d_M_graphs_32 ?_
        refine lv_iconst (v := nI 2) hx hb d_M_graphs_35 (by decide +kernel) ?_
        refine lv_icmp_ne (tgt := 44) hx hb d_M_graphs_36 (by decide) (fun c9 => absurd c9 (by decide +kernel)) (fun _ => ?_)
        refine lv_aload_n hx hb d_M_graphs_39 rfl (lv_at hl 1 rfl) ?_
        refine lv_iconst (v := nI 1) hx hb d_M_graphs_40 (by decide +kernel) ?_
        refine va_put (D := (dC, dI)) (ci := 0) (v := .int (nI 1)) (ty := .int) (C := R_M) (T := F_M) (N := 18) hx hb hk k_M_f t_M t_M_ok n_M hown hK hP hD hS 0 rfl rfl 0 (by decide) (hk _ k_M_8) (fun _ h9 => h9) rfl (by decide +kernel) rfl rfl (Nat.le_of_ble_eq_true rfl) d_M_graphs_41 (fun H locs hP hD hS => ?_)
        have hP : va_P (dC, dI) kls (wM h cI cZ (nI 1) (nI nF) (nI nC) xg9 aP (fun c => nI (cf c)) (fun c => nI (ct c)) aK bF9 bL9 bB9 bA9 bY9 bR oT oO oR bS) H := hP
        have hD : va_D A (wM h cI cZ (nI 1) (nI nF) (nI nC) xg9 aP (fun c => nI (cf c)) (fun c => nI (ct c)) aK bF9 bL9 bB9 bA9 bY9 bR oT oO oR bS) := hD
        refine lv_iload_n hx hb d_M_graphs_44 rfl (lv_at hl 0 rfl) ?_
        refine lv_if_eq (tgt := 52) hx hb d_M_graphs_45 (by decide) (fun _ => ?_) (fun c9 => absurd c9 (by decide +kernel))
        refine lv_iconst (v := nI 0) hx hb d_M_graphs_52 (by decide +kernel) ?_
        exact W.iret (v := nI 0) hx hb hr (fun t ht hW => ⟨⟨nI 0, (nI 1, xg9, bF9, bL9, bB9, bA9, bY9), rfl, Or.inr ⟨i1, j1, hi1, hj1, rfl, rfl, Or.inl ⟨hgt, rfl⟩⟩, by rw [ht]; exact hP, va_K.moved hW.alike hK, hD⟩, hS.F ht⟩) hS.2.2 d_M_graphs_53
    · subst hr9
      refine lv_if_ne (tgt := 20) hx hb d_M_graphs_13 (by decide) (fun c9 => absurd c9 (by decide +kernel)) (fun _ => ?_)
      refine lv_iconst (v := nI 1) hx hb d_M_graphs_16 (by decide +kernel) ?_
      refine lv_goto (tgt := 21) hx hb d_M_graphs_17 (by decide) ?_
      refine lv_istore_n (lv' := [(3, .int (nI 1)), (0, .ref (h 0)), (1, .int (nI i1)), (2, .int g)]) hx hb d_M_graphs_21 rfl hl (by decide) rfl (fun ls hl => ?_)
      refine lv_aload_n hx hb d_M_graphs_22 rfl (lv_at hl 1 rfl) ?_
      refine lv_iconst (v := nI 0) hx hb d_M_graphs_23 (by decide +kernel) ?_
      refine lv_iload_n hx hb d_M_graphs_24 rfl (lv_at hl 0 rfl) ?_
      have hFc := va_free (wc := wM h cI cZ xt (nI nF) (nI nC) xg aP (fun c => nI (cf c)) (fun c => nI (ct c)) aK bF bL bB bA bY bR oT oO oR bS) hD hS hA [0, 1, 2, 3, 4, 5, 6, 7, 8, 9, 10, 11, 12, 13, 14] rfl
      refine va_calli (va_runV (As := [.int (nI 0), .int (nI 1)]) (rest := []) ⟨hx, hb, hml, hown, hk⟩ (m_refused_n l dC dI cI cZ h H.size xt (nI nF) (nI nC) xg aP (fun c => nI (cf c)) (fun c => nI (ct c)) aK bF bL bB bA bY bR oT oO oR bS  ) (cwV 2 hk g_M_refused rfl rfl rfl (by decide +kernel) ⟨Nat.le_of_ble_eq_true rfl, Nat.le_of_ble_eq_true rfl⟩) ⟨fun a U g mk q => by obtain ⟨q0, q1, qP, qK, qD⟩ := q; exact ⟨q0, q1, qP, va_K.moved (u := U) (U := U.calling g mk a) (Vm.Alike.refl U.vm) qK, qD⟩, va_recv hK hP (ci := 0) (q0 := 0) rfl rfl, fun U hU hW => ⟨rfl, by rw [hU], by rw [hU]; exact hP, va_K.moved hW.alike hK, hD.weaken (fun _ _ _ _ => trivial)⟩⟩ rfl rfl hl.1 rfl (lv_room (Nat.le_of_ble_eq_true rfl)) d_M_graphs_25 ⟨Nat.le_of_ble_eq_true rfl, Nat.le_of_ble_eq_true rfl⟩) hS (fun q _ h => hFc q h) hFc (fun r5 u9 t H1 locs ht hvm hw hB hz1 hk1 hS => ?_)
      obtain ⟨xt9, rfl⟩ : ∃ z, z = u9 := ⟨_, rfl⟩
      obtain ⟨hP1, hK1, hD1⟩ := hB
      rw [ht] at hP1
      try dsimp only at hw
      obtain ⟨hP, hD⟩ := va_join (wr := []) (w1 := wM h cI cZ xt9 (nI nF) (nI nC) xg aP (fun c => nI (cf c)) (fun c => nI (ct c)) aK bF bL bB bA bY bR oT oO oR bS) hP hD [0, 1, 2, 3, 4, 5, 6, 7, 8, 9, 10, 11, 12, 13, 14] [] rfl rfl (by decide) (by decide) hk1 hFc hP1 hD1
      generalize H1 = H at hP hS ⊢
      have hP : va_P (dC, dI) kls (wM h cI cZ xt9 (nI nF) (nI nC) xg aP (fun c => nI (cf c)) (fun c => nI (ct c)) aK bF bL bB bA bY bR oT oO oR bS) H := hP
      have hD : va_D A (wM h cI cZ xt9 (nI nF) (nI nC) xg aP (fun c => nI (cf c)) (fun c => nI (ct c)) aK bF bL bB bA bY bR oT oO oR bS) := hD
      obtain ⟨hr9, hu9⟩ := hw
      subst hr9
      subst hu9
      refine lv_if_eq (tgt := 54) hx hb d_M_graphs_28 (by decide) (fun c9 => absurd c9 (by decide +kernel)) (fun _ => ?_)
      refine lv_aload_n hx hb d_M_graphs_31 rfl (lv_at hl 1 rfl) ?_
      refine va_get (D := (dC, dI)) (ci := 0) (v := .int (nI 0)) (C := R_M) (T := F_M) (N := 18) hx hb hk k_M_f hown hK hP 0 rfl rfl 0 (by decide) (hk _ k_M_8) (fun _ h9 => h9) rfl d_M_graphs_32 ?_
      refine lv_iconst (v := nI 2) hx hb d_M_graphs_35 (by decide +kernel) ?_
      refine lv_icmp_ne (tgt := 44) hx hb d_M_graphs_36 (by decide) (fun _ => ?_) (fun c9 => absurd c9 (by decide +kernel))
      refine lv_iload_n hx hb d_M_graphs_44 rfl (lv_at hl 0 rfl) ?_
      refine lv_if_eq (tgt := 52) hx hb d_M_graphs_45 (by decide) (fun c9 => absurd c9 (by decide +kernel)) (fun _ => ?_)
      refine lv_iconst (v := (-1)) hx hb d_M_graphs_48 (by decide +kernel) ?_
      refine lv_goto (tgt := 53) hx hb d_M_graphs_49 (by decide) ?_
      have hq : ¬ ((∃ i, i < nF ∧ nI i1 = nI i) ∧ (∃ j, j < nF ∧ g = nI j)) := by
        rintro ⟨z1, z2⟩
        first
          | exact hno_f z1
          | exact hno_g z2
      exact W.iret (v := (-1)) hx hb hr (fun t ht hW => ⟨⟨(-1), (nI 0, xg, bF, bL, bB, bA, bY), rfl, Or.inl ⟨hq, rfl, rfl⟩, by rw [ht]; exact hP, va_K.moved hW.alike hK, hD⟩, hS.F ht⟩) hS.2.2 d_M_graphs_53
  · subst hr9
    refine lv_if_eq (tgt := 16) hx hb d_M_graphs_5 (by decide) (fun _ => ?_) (fun c9 => absurd c9 (by decide +kernel))
    refine lv_iconst (v := nI 1) hx hb d_M_graphs_16 (by decide +kernel) ?_
    refine lv_goto (tgt := 21) hx hb d_M_graphs_17 (by decide) ?_
    refine lv_istore_n (lv' := [(3, .int (nI 1)), (0, .ref (h 0)), (1, .int f), (2, .int g)]) hx hb d_M_graphs_21 rfl hl (by decide) rfl (fun ls hl => ?_)
    refine lv_aload_n hx hb d_M_graphs_22 rfl (lv_at hl 1 rfl) ?_
    refine lv_iconst (v := nI 0) hx hb d_M_graphs_23 (by decide +kernel) ?_
    refine lv_iload_n hx hb d_M_graphs_24 rfl (lv_at hl 0 rfl) ?_
    have hFc := va_free (wc := wM h cI cZ xt (nI nF) (nI nC) xg aP (fun c => nI (cf c)) (fun c => nI (ct c)) aK bF bL bB bA bY bR oT oO oR bS) hD hS hA [0, 1, 2, 3, 4, 5, 6, 7, 8, 9, 10, 11, 12, 13, 14] rfl
    refine va_calli (va_runV (As := [.int (nI 0), .int (nI 1)]) (rest := []) ⟨hx, hb, hml, hown, hk⟩ (m_refused_n l dC dI cI cZ h H.size xt (nI nF) (nI nC) xg aP (fun c => nI (cf c)) (fun c => nI (ct c)) aK bF bL bB bA bY bR oT oO oR bS  ) (cwV 2 hk g_M_refused rfl rfl rfl (by decide +kernel) ⟨Nat.le_of_ble_eq_true rfl, Nat.le_of_ble_eq_true rfl⟩) ⟨fun a U g mk q => by obtain ⟨q0, q1, qP, qK, qD⟩ := q; exact ⟨q0, q1, qP, va_K.moved (u := U) (U := U.calling g mk a) (Vm.Alike.refl U.vm) qK, qD⟩, va_recv hK hP (ci := 0) (q0 := 0) rfl rfl, fun U hU hW => ⟨rfl, by rw [hU], by rw [hU]; exact hP, va_K.moved hW.alike hK, hD.weaken (fun _ _ _ _ => trivial)⟩⟩ rfl rfl hl.1 rfl (lv_room (Nat.le_of_ble_eq_true rfl)) d_M_graphs_25 ⟨Nat.le_of_ble_eq_true rfl, Nat.le_of_ble_eq_true rfl⟩) hS (fun q _ h => hFc q h) hFc (fun r6 u9 t H1 locs ht hvm hw hB hz1 hk1 hS => ?_)
    obtain ⟨xt9, rfl⟩ : ∃ z, z = u9 := ⟨_, rfl⟩
    obtain ⟨hP1, hK1, hD1⟩ := hB
    rw [ht] at hP1
    try dsimp only at hw
    obtain ⟨hP, hD⟩ := va_join (wr := []) (w1 := wM h cI cZ xt9 (nI nF) (nI nC) xg aP (fun c => nI (cf c)) (fun c => nI (ct c)) aK bF bL bB bA bY bR oT oO oR bS) hP hD [0, 1, 2, 3, 4, 5, 6, 7, 8, 9, 10, 11, 12, 13, 14] [] rfl rfl (by decide) (by decide) hk1 hFc hP1 hD1
    generalize H1 = H at hP hS ⊢
    have hP : va_P (dC, dI) kls (wM h cI cZ xt9 (nI nF) (nI nC) xg aP (fun c => nI (cf c)) (fun c => nI (ct c)) aK bF bL bB bA bY bR oT oO oR bS) H := hP
    have hD : va_D A (wM h cI cZ xt9 (nI nF) (nI nC) xg aP (fun c => nI (cf c)) (fun c => nI (ct c)) aK bF bL bB bA bY bR oT oO oR bS) := hD
    obtain ⟨hr9, hu9⟩ := hw
    subst hr9
    subst hu9
    refine lv_if_eq (tgt := 54) hx hb d_M_graphs_28 (by decide) (fun c9 => absurd c9 (by decide +kernel)) (fun _ => ?_)
    refine lv_aload_n hx hb d_M_graphs_31 rfl (lv_at hl 1 rfl) ?_
    refine va_get (D := (dC, dI)) (ci := 0) (v := .int (nI 0)) (C := R_M) (T := F_M) (N := 18) hx hb hk k_M_f hown hK hP 0 rfl rfl 0 (by decide) (hk _ k_M_8) (fun _ h9 => h9) rfl d_M_graphs_32 ?_
    refine lv_iconst (v := nI 2) hx hb d_M_graphs_35 (by decide +kernel) ?_
    refine lv_icmp_ne (tgt := 44) hx hb d_M_graphs_36 (by decide) (fun _ => ?_) (fun c9 => absurd c9 (by decide +kernel))
    refine lv_iload_n hx hb d_M_graphs_44 rfl (lv_at hl 0 rfl) ?_
    refine lv_if_eq (tgt := 52) hx hb d_M_graphs_45 (by decide) (fun c9 => absurd c9 (by decide +kernel)) (fun _ => ?_)
    refine lv_iconst (v := (-1)) hx hb d_M_graphs_48 (by decide +kernel) ?_
    refine lv_goto (tgt := 53) hx hb d_M_graphs_49 (by decide) ?_
    have hq : ¬ ((∃ i, i < nF ∧ f = nI i) ∧ (∃ j, j < nF ∧ g = nI j)) := by
      rintro ⟨z1, z2⟩
      first
        | exact hno_f z1
        | exact hno_g z2
    exact W.iret (v := (-1)) hx hb hr (fun t ht hW => ⟨⟨(-1), (nI 0, xg, bF, bL, bB, bA, bY), rfl, Or.inl ⟨hq, rfl, rfl⟩, by rw [ht]; exact hP, va_K.moved hW.alike hK, hD⟩, hS.F ht⟩) hS.2.2 d_M_graphs_53
set_option maxHeartbeats 4000000 in
set_option maxRecDepth 100000 in
theorem m_falls (l : Launch) (dC : Nat → ClassId) (dI : Nat → Nat → Nat) (cI cZ : ClassId) (h : Nat → Nat) (sz : Nat) (xt xg : Int32) (aP aK bF bL bB bA bY bR oT oO oR bS : Nat → Int32) (nF nC K : Nat) (cf ct : Nat → Nat) (f : Int32) (hF : nF ≤ 10) (hC : nC ≤ 20) (hK8 : 801 ≤ K) (hS0 : ∀ c, c < nC → cf c < nF ∧ ct c < nF) : Met l y_M_falls w_M_falls ({ frames := 4, cells := 0, slots := 0, locals := 96 }) (va_Pc [.ref (h 0), .int f] (fun U => U.heap.size = sz ∧ va_P (dC, dI) kls (wM h cI cZ xt (nI nF) (nI nC) xg aP (fun c => nI (cf c)) (fun c => nI (ct c)) aK bF bL bB bA bY bR oT oO oR bS) U.heap ∧ va_K (dC, dI) kls (tyM cI cZ) U ∧ va_D (fun _ => True) (wM h cI cZ xt (nI nF) (nI nC) xg aP (fun c => nI (cf c)) (fun c => nI (ct c)) aK bF bL bB bA bY bR oT oO oR bS))) (va_Qi (fun (r : Int32) (u : Int32 × Int32 × (Nat → Int32) × (Nat → Int32) × (Nat → Int32) × (Nat → Int32) × (Nat → Int32)) => ((¬ ∃ i, i < nF ∧ f = nI i) ∧ u.1 = nI 1) ∨ ∃ i, i < nF ∧ f = nI i ∧ ((800 < (gA nC cf ct aK rj K).length ∧ u.1 = nI 2) ∨ ((gA nC cf ct aK rj K).length ≤ 800 ∧ u.1 = nI 0 ∧ ((r = nI 1 ∧ ∀ en ∈ gA nC cf ct aK rj K, ¬ (en.1 = i ∧ en.2.1 = i ∧ badX en.2.2.1)) ∨ (r = nI 0 ∧ ∃ en ∈ gA nC cf ct aK rj K, en.1 = i ∧ en.2.1 = i ∧ badX en.2.2.1))))) (fun (u : Int32 × Int32 × (Nat → Int32) × (Nat → Int32) × (Nat → Int32) × (Nat → Int32) × (Nat → Int32)) (t : State) => va_P (dC, dI) kls (wM h cI cZ u.1 (nI nF) (nI nC) u.2.1 aP (fun c => nI (cf c)) (fun c => nI (ct c)) aK u.2.2.1 u.2.2.2.1 u.2.2.2.2.1 u.2.2.2.2.2.1 u.2.2.2.2.2.2 bR oT oO oR bS) t.heap ∧ va_K (dC, dI) kls (tyM cI cZ) t ∧ va_D (va_A (wM h cI cZ xt (nI nF) (nI nC) xg aP (fun c => nI (cf c)) (fun c => nI (ct c)) aK bF bL bB bA bY bR oT oO oR bS) sz) (wM h cI cZ u.1 (nI nF) (nI nC) u.2.1 aP (fun c => nI (cf c)) (fun c => nI (ct c)) aK u.2.2.1 u.2.2.2.1 u.2.2.2.2.1 u.2.2.2.2.2.1 u.2.2.2.2.2.2 bR oT oO oR bS)) (va_A (wM h cI cZ xt (nI nF) (nI nC) xg aP (fun c => nI (cf c)) (fun c => nI (ct c)) aK bF bL bB bA bY bR oT oO oR bS) sz)) 0 0 (va_A (wM h cI cZ xt (nI nF) (nI nC) xg aP (fun c => nI (cf c)) (fun c => nI (ct c)) aK bF bL bB bA bY bR oT oO oR bS) sz) := by
  refine Met.ofW (cc := c_M_falls) (maxL := 2) (ret := (some .boolean)) (by decide) rfl ?_
  intro p e s m args below meth c s₁ B hml hv
  obtain ⟨rfl, hsz, hP, hK, hD0⟩ := hv
  have hx := B.exec
  have hb := B.bytes
  have hr := B.returns
  have hts := atoms_spec (ws := w_M_falls) B.pre
  have hk : ∀ w ∈ wMw, w.before _ s = true := fun w h => hts w (List.mem_cons_of_mem _ h)
  have hown : s.vm.findClass R_M = some m.cls := findClass_of_methodNamed B.named
  have hlocks := B.notSynchronized
  subst hsz
  have hD := hD0.self (sz := s.heap.size)
  generalize hAe : va_A (wM h cI cZ xt (nI nF) (nI nC) xg aP (fun c => nI (cf c)) (fun c => nI (ct c)) aK bF bL bB bA bY bR oT oO oR bS) s.heap.size = A at hD ⊢
  have hA : ∀ q : Nat, s.heap.size ≤ q → A q := fun q h => by rw [← hAe]; exact Or.inr h
  have hS : va_S A s.heap s.heap [] := va_S.rf
  have hl := lv_entry ([.ref (h 0), .int f]) (n := 2) (Nat.le_of_ble_eq_true rfl)
  rw [lg_entry_eq]
  generalize (lg_sl ([.ref (h 0), .int f]) ++ List.replicate (2 - (lg_sl ([.ref (h 0), .int f])).length) Slot.unset).toArray = ls at hl ⊢
  have hl : lv_has ls 2 [(0, .ref (h 0)), (1, .int f)] := hl
  refine lv_aload_n hx hb d_M_falls_0 rfl (lv_at hl 0 rfl) ?_
  refine lv_aload_n hx hb d_M_falls_1 rfl (lv_at hl 0 rfl) ?_
  refine lv_iload_n hx hb d_M_falls_2 rfl (lv_at hl 1 rfl) ?_
  have hFc := va_free (wc := wM h cI cZ xt (nI nF) (nI nC) xg aP (fun c => nI (cf c)) (fun c => nI (ct c)) aK bF bL bB bA bY bR oT oO oR bS) hD hS hA [0, 1, 2, 3, 4, 5, 6, 7, 8, 9, 10, 11, 12, 13, 14] rfl
  refine va_calli (va_runV (As := [.int f]) (rest := [.ref (h 0)]) ⟨hx, hb, hml, hown, hk⟩ (m_isFunction l dC dI cI cZ h s.heap.size xt (nI nC) xg aP (fun c => nI (cf c)) (fun c => nI (ct c)) aK bF bL bB bA bY bR oT oO oR bS nF f (by omega)) (cwV 1 hk g_M_isFunction rfl rfl rfl (by decide +kernel) ⟨Nat.le_of_ble_eq_true rfl, Nat.le_of_ble_eq_true rfl⟩) ⟨fun a U g mk q => by obtain ⟨q0, q1, qP, qK, qD⟩ := q; exact ⟨q0, q1, qP, va_K.moved (u := U) (U := U.calling g mk a) (Vm.Alike.refl U.vm) qK, qD⟩, va_recv hK hP (ci := 0) (q0 := 0) rfl rfl, fun U hU hW => ⟨rfl, by rw [hU], by rw [hU]; exact hP, va_K.moved hW.alike hK, hD.weaken (fun _ _ _ _ => trivial)⟩⟩ rfl rfl hl.1 rfl (lv_room (Nat.le_of_ble_eq_true rfl)) d_M_falls_3 ⟨Nat.le_of_ble_eq_true rfl, Nat.le_of_ble_eq_true rfl⟩) hS (fun q _ h => hFc q h) hFc (fun r1 u9 t H1 locs ht hvm hw hB hz1 hk1 hS => ?_)
  obtain ⟨hP1, hK1, hD1⟩ := hB
  rw [ht] at hP1
  try dsimp only at hw
  obtain ⟨hP, hD⟩ := va_join (wr := []) (w1 := wM h cI cZ xt (nI nF) (nI nC) xg aP (fun c => nI (cf c)) (fun c => nI (ct c)) aK bF bL bB bA bY bR oT oO oR bS) hP hD [0, 1, 2, 3, 4, 5, 6, 7, 8, 9, 10, 11, 12, 13, 14] [] rfl rfl (by decide) (by decide) hk1 hFc hP1 hD1
  generalize H1 = H at hP hS ⊢
  have hP : va_P (dC, dI) kls (wM h cI cZ xt (nI nF) (nI nC) xg aP (fun c => nI (cf c)) (fun c => nI (ct c)) aK bF bL bB bA bY bR oT oO oR bS) H := hP
  have hD : va_D A (wM h cI cZ xt (nI nF) (nI nC) xg aP (fun c => nI (cf c)) (fun c => nI (ct c)) aK bF bL bB bA bY bR oT oO oR bS) := hD
  rcases hw with ⟨hr9, i1, hi1, hfj⟩ | ⟨hr9, hno_f⟩
  · subst hr9
    subst hfj
    refine lv_if_ne (tgt := 13) hx hb d_M_falls_6 (by decide) (fun _ => ?_) (fun c9 => absurd c9 (by decide +kernel))
    refine lv_iconst (v := nI 0) hx hb d_M_falls_13 (by decide +kernel) ?_
    refine lv_iconst (v := nI 0) hx hb d_M_falls_14 (by decide +kernel) ?_
    have hFc := va_free (wc := wM h cI cZ xt (nI nF) (nI nC) xg aP (fun c => nI (cf c)) (fun c => nI (ct c)) aK bF bL bB bA bY bR oT oO oR bS) hD hS hA [0, 1, 2, 3, 4, 5, 6, 7, 8, 9, 10, 11, 12, 13, 14] rfl
    refine va_calli (va_runV (As := [.int (nI 0), .int (nI 0)]) (rest := []) ⟨hx, hb, hml, hown, hk⟩ (m_refused l dC dI cI cZ h H.size xt (nI nF) xg aP aK bF bL bB bA bY bR oT oO oR bS nC K cf ct (hC) (hK8) (fun c hc => ⟨by have := hS0 c hc; omega, by have := hS0 c hc; omega⟩)) (cwV 2 hk g_M_refused rfl rfl rfl (by decide +kernel) ⟨Nat.le_of_ble_eq_true rfl, Nat.le_of_ble_eq_true rfl⟩) ⟨fun a U g mk q => by obtain ⟨q0, q1, qP, qK, qD⟩ := q; exact ⟨q0, q1, qP, va_K.moved (u := U) (U := U.calling g mk a) (Vm.Alike.refl U.vm) qK, qD⟩, va_recv hK hP (ci := 0) (q0 := 0) rfl rfl, fun U hU hW => ⟨rfl, by rw [hU], by rw [hU]; exact hP, va_K.moved hW.alike hK, hD.weaken (fun _ _ _ _ => trivial)⟩⟩ rfl rfl hl.1 rfl (lv_room (Nat.le_of_ble_eq_true rfl)) d_M_falls_15 ⟨Nat.le_of_ble_eq_true rfl, Nat.le_of_ble_eq_true rfl⟩) hS (fun q _ h => hFc q h) hFc (fun r2 u9 t H1 locs ht hvm hw hB hz1 hk1 hS => ?_)
    obtain ⟨xt9, xg9, bF9, bL9, bB9, bA9, bY9⟩ := u9
    obtain ⟨hP1, hK1, hD1⟩ := hB
    rw [ht] at hP1
    try dsimp only at hw
    obtain ⟨hP, hD⟩ := va_join (wr := []) (w1 := wM h cI cZ xt9 (nI nF) (nI nC) xg9 aP (fun c => nI (cf c)) (fun c => nI (ct c)) aK bF9 bL9 bB9 bA9 bY9 bR oT oO oR bS) hP hD [0, 1, 2, 3, 4, 5, 6, 7, 8, 9, 10, 11, 12, 13, 14] [] rfl rfl (by decide) (by decide) hk1 hFc hP1 hD1
    generalize H1 = H at hP hS ⊢
    have hP : va_P (dC, dI) kls (wM h cI cZ xt9 (nI nF) (nI nC) xg9 aP (fun c => nI (cf c)) (fun c => nI (ct c)) aK bF9 bL9 bB9 bA9 bY9 bR oT oO oR bS) H := hP
    have hD : va_D A (wM h cI cZ xt9 (nI nF) (nI nC) xg9 aP (fun c => nI (cf c)) (fun c => nI (ct c)) aK bF9 bL9 bB9 bA9 bY9 bR oT oO oR bS) := hD
    rcases hw with ⟨hr9, hu9, hle, hg9, hE9⟩ | ⟨hr9, hu9, hgt⟩
    · subst hr9
      subst hu9
      subst hg9
      have hsm : smE (gA nC cf ct aK rj K) := sm_of (fun c hc => ⟨by have := hS0 c hc; omega, by have := hS0 c hc; omega⟩) (bsG_ok nC cf ct aK rj (fun _ => true) K)
      refine lv_if_ne (tgt := 33) hx hb d_M_falls_18 (by decide) (fun c9 => absurd c9 (by decide +kernel)) (fun _ => ?_)
      refine lv_aload_n hx hb d_M_falls_21 rfl (lv_at hl 0 rfl) ?_
      refine lv_iload_n hx hb d_M_falls_22 rfl (lv_at hl 1 rfl) ?_
      have hFc := va_free (wc := wM h cI cZ (nI 0) (nI nF) (nI nC) (nI ((gA nC cf ct aK rj K).length)) aP (fun c => nI (cf c)) (fun c => nI (ct c)) aK bF9 bL9 bB9 bA9 bY9 bR oT oO oR bS) hD hS hA [0, 1, 2, 3, 4, 5, 6, 7, 8, 9, 10, 11, 12, 13, 14] rfl
      refine va_calli (va_runV (As := [.int (nI i1)]) (rest := []) ⟨hx, hb, hml, hown, hk⟩ (m_fallsAt l dC dI cI cZ h H.size (nI 0) (nI nF) (nI nC) aP (fun c => nI (cf c)) (fun c => nI (ct c)) aK bF9 bL9 bB9 bA9 bY9 bR oT oO oR bS (gA nC cf ct aK rj K) i1 (by omega) (hE9) (hsm) (by omega)) (cwV 1 hk g_M_fallsAt rfl rfl rfl (by decide +kernel) ⟨Nat.le_of_ble_eq_true rfl, Nat.le_of_ble_eq_true rfl⟩) ⟨fun a U g mk q => by obtain ⟨q0, q1, qP, qK, qD⟩ := q; exact ⟨q0, q1, qP, va_K.moved (u := U) (U := U.calling g mk a) (Vm.Alike.refl U.vm) qK, qD⟩, va_recv hK hP (ci := 0) (q0 := 0) rfl rfl, fun U hU hW => ⟨rfl, by rw [hU], by rw [hU]; exact hP, va_K.moved hW.alike hK, hD.weaken (fun _ _ _ _ => trivial)⟩⟩ rfl rfl hl.1 rfl (lv_room (Nat.le_of_ble_eq_true rfl)) d_M_falls_23 ⟨Nat.le_of_ble_eq_true rfl, Nat.le_of_ble_eq_true rfl⟩) hS (fun q _ h => hFc q h) hFc (fun r3 u9 t H1 locs ht hvm hw hB hz1 hk1 hS => ?_)
      obtain ⟨hP1, hK1, hD1⟩ := hB
      rw [ht] at hP1
      try dsimp only at hw
      obtain ⟨hP, hD⟩ := va_join (wr := []) (w1 := wM h cI cZ (nI 0) (nI nF) (nI nC) (nI ((gA nC cf ct aK rj K).length)) aP (fun c => nI (cf c)) (fun c => nI (ct c)) aK bF9 bL9 bB9 bA9 bY9 bR oT oO oR bS) hP hD [0, 1, 2, 3, 4, 5, 6, 7, 8, 9, 10, 11, 12, 13, 14] [] rfl rfl (by decide) (by decide) hk1 hFc hP1 hD1
      generalize H1 = H at hP hS ⊢
      have hP : va_P (dC, dI) kls (wM h cI cZ (nI 0) (nI nF) (nI nC) (nI ((gA nC cf ct aK rj K).length)) aP (fun c => nI (cf c)) (fun c => nI (ct c)) aK bF9 bL9 bB9 bA9 bY9 bR oT oO oR bS) H := hP
      have hD : va_D A (wM h cI cZ (nI 0) (nI nF) (nI nC) (nI ((gA nC cf ct aK rj K).length)) aP (fun c => nI (cf c)) (fun c => nI (ct c)) aK bF9 bL9 bB9 bA9 bY9 bR oT oO oR bS) := hD
      rcases hw with ⟨hr9, hfall⟩ | ⟨hr9, hfall⟩
      · subst hr9
        refine lv_if_eq (tgt := 33) hx hb d_M_falls_26 (by decide) (fun c9 => absurd c9 (by decide +kernel)) (fun _ => ?_)
        refine lv_iconst (v := nI 1) hx hb d_M_falls_29 (by decide +kernel) ?_
        refine lv_goto (tgt := 34) hx hb d_M_falls_30 (by decide) ?_
        exact W.zret (v := nI 1) (ty := .boolean) hx hb hr rfl (fun t ht hW => ⟨⟨nI 1, (nI 0, nI (gA nC cf ct aK rj K).length, bF9, bL9, bB9, bA9, bY9), rfl, Or.inr ⟨i1, hi1, rfl, Or.inr ⟨hle, rfl, Or.inl ⟨rfl, hfall⟩⟩⟩, by rw [ht]; exact hP, va_K.moved hW.alike hK, hD⟩, hS.F ht⟩) hS.2.2 d_M_falls_34
      · subst hr9
        refine lv_if_eq (tgt := 33) hx hb d_M_falls_26 (by decide) (fun _ => ?_) (fun c9 => absurd c9 (by decide +kernel))
        refine lv_iconst (v := nI 0) hx hb d_M_falls_33 (by decide +kernel) ?_
        exact W.zret (v := nI 0) (ty := .boolean) hx hb hr rfl (fun t ht hW => ⟨⟨nI 0, (nI 0, nI (gA nC cf ct aK rj K).length, bF9, bL9, bB9, bA9, bY9), rfl, Or.inr ⟨i1, hi1, rfl, Or.inr ⟨hle, rfl, Or.inr ⟨rfl, hfall⟩⟩⟩, by rw [ht]; exact hP, va_K.moved hW.alike hK, hD⟩, hS.F ht⟩) hS.2.2 d_M_falls_34
    · subst hr9
      subst hu9
      refine lv_if_ne (tgt := 33) hx hb d_M_falls_18 (by decide) (fun _ => ?_) (fun c9 => absurd c9 (by decide +kernel))
      refine lv_iconst (v := nI 0) hx hb d_M_falls_33 (by decide +kernel) ?_
      exact W.zret (v := nI 0) (ty := .boolean) hx hb hr rfl (fun t ht hW => ⟨⟨nI 0, (nI 2, xg9, bF9, bL9, bB9, bA9, bY9), rfl, Or.inr ⟨i1, hi1, rfl, Or.inl ⟨hgt, rfl⟩⟩, by rw [ht]; exact hP, va_K.moved hW.alike hK, hD⟩, hS.F ht⟩) hS.2.2 d_M_falls_34
  · subst hr9
    refine lv_if_ne (tgt := 13) hx hb d_M_falls_6 (by decide) (fun c9 => absurd c9 (by decide +kernel)) (fun _ => ?_)
    refine lv_iconst (v := nI 1) hx hb d_M_falls_9 (by decide +kernel) ?_
    refine lv_goto (tgt := 14) hx hb d_M_falls_10 (by decide) ?_
    refine lv_iconst (v := nI 0) hx hb d_M_falls_14 (by decide +kernel) ?_
    have hFc := va_free (wc := wM h cI cZ xt (nI nF) (nI nC) xg aP (fun c => nI (cf c)) (fun c => nI (ct c)) aK bF bL bB bA bY bR oT oO oR bS) hD hS hA [0, 1, 2, 3, 4, 5, 6, 7, 8, 9, 10, 11, 12, 13, 14] rfl
    refine va_calli (va_runV (As := [.int (nI 1), .int (nI 0)]) (rest := []) ⟨hx, hb, hml, hown, hk⟩ (m_refused_o l dC dI cI cZ h H.size xt (nI nF) (nI nC) xg aP (fun c => nI (cf c)) (fun c => nI (ct c)) aK bF bL bB bA bY bR oT oO oR bS  ) (cwV 2 hk g_M_refused rfl rfl rfl (by decide +kernel) ⟨Nat.le_of_ble_eq_true rfl, Nat.le_of_ble_eq_true rfl⟩) ⟨fun a U g mk q => by obtain ⟨q0, q1, qP, qK, qD⟩ := q; exact ⟨q0, q1, qP, va_K.moved (u := U) (U := U.calling g mk a) (Vm.Alike.refl U.vm) qK, qD⟩, va_recv hK hP (ci := 0) (q0 := 0) rfl rfl, fun U hU hW => ⟨rfl, by rw [hU], by rw [hU]; exact hP, va_K.moved hW.alike hK, hD.weaken (fun _ _ _ _ => trivial)⟩⟩ rfl rfl hl.1 rfl (lv_room (Nat.le_of_ble_eq_true rfl)) d_M_falls_15 ⟨Nat.le_of_ble_eq_true rfl, Nat.le_of_ble_eq_true rfl⟩) hS (fun q _ h => hFc q h) hFc (fun r4 u9 t H1 locs ht hvm hw hB hz1 hk1 hS => ?_)
    obtain ⟨xt9, rfl⟩ : ∃ z, z = u9 := ⟨_, rfl⟩
    obtain ⟨hP1, hK1, hD1⟩ := hB
    rw [ht] at hP1
    try dsimp only at hw
    obtain ⟨hP, hD⟩ := va_join (wr := []) (w1 := wM h cI cZ xt9 (nI nF) (nI nC) xg aP (fun c => nI (cf c)) (fun c => nI (ct c)) aK bF bL bB bA bY bR oT oO oR bS) hP hD [0, 1, 2, 3, 4, 5, 6, 7, 8, 9, 10, 11, 12, 13, 14] [] rfl rfl (by decide) (by decide) hk1 hFc hP1 hD1
    generalize H1 = H at hP hS ⊢
    have hP : va_P (dC, dI) kls (wM h cI cZ xt9 (nI nF) (nI nC) xg aP (fun c => nI (cf c)) (fun c => nI (ct c)) aK bF bL bB bA bY bR oT oO oR bS) H := hP
    have hD : va_D A (wM h cI cZ xt9 (nI nF) (nI nC) xg aP (fun c => nI (cf c)) (fun c => nI (ct c)) aK bF bL bB bA bY bR oT oO oR bS) := hD
    obtain ⟨hr9, hu9⟩ := hw
    subst hr9
    subst hu9
    refine lv_if_ne (tgt := 33) hx hb d_M_falls_18 (by decide) (fun _ => ?_) (fun c9 => absurd c9 (by decide +kernel))
    refine lv_iconst (v := nI 0) hx hb d_M_falls_33 (by decide +kernel) ?_
    exact W.zret (v := nI 0) (ty := .boolean) hx hb hr rfl (fun t ht hW => ⟨⟨nI 0, (nI 1, xg, bF, bL, bB, bA, bY), rfl, Or.inl ⟨hno_f, rfl⟩, by rw [ht]; exact hP, va_K.moved hW.alike hK, hD⟩, hS.F ht⟩) hS.2.2 d_M_falls_34
set_option maxHeartbeats 4000000 in
set_option maxRecDepth 100000 in
theorem m_reachedFrom (l : Launch) (dC : Nat → ClassId) (dI : Nat → Nat → Nat) (cI cZ : ClassId) (h : Nat → Nat) (sz : Nat) (xt xg : Int32) (aP aK bF bL bB bA bY bR oT oO oR bS : Nat → Int32) (nF nC f : Nat) (cf ct : Nat → Nat) (hF : nF ≤ 10) (hC : nC ≤ 20) (hS0 : ∀ c, c < nC → cf c < nF ∧ ct c < nF) (hf : f < nF) : Met l y_M_reachedFrom w_M_reachedFrom ({ frames := 0, cells := 0, slots := 0, locals := 0 }) (va_Pc [.ref (h 0), .int (nI f)] (fun U => U.heap.size = sz ∧ va_P (dC, dI) kls (wM h cI cZ xt (nI nF) (nI nC) xg aP (fun c => nI (cf c)) (fun c => nI (ct c)) aK bF bL bB bA bY bR oT oO oR bS) U.heap ∧ va_K (dC, dI) kls (tyM cI cZ) U ∧ va_D (fun _ => True) (wM h cI cZ xt (nI nF) (nI nC) xg aP (fun c => nI (cf c)) (fun c => nI (ct c)) aK bF bL bB bA bY bR oT oO oR bS))) (va_Qi (fun (r : Int32) (u : Unit) => r = nI (rcN nC cf ct f nF)) (fun (u : Unit) (t : State) => va_P (dC, dI) kls (wM h cI cZ xt (nI nF) (nI nC) xg aP (fun c => nI (cf c)) (fun c => nI (ct c)) aK bF bL bB bA bY bR oT oO oR bS) t.heap ∧ va_K (dC, dI) kls (tyM cI cZ) t ∧ va_D (va_A (wM h cI cZ xt (nI nF) (nI nC) xg aP (fun c => nI (cf c)) (fun c => nI (ct c)) aK bF bL bB bA bY bR oT oO oR bS) sz) (wM h cI cZ xt (nI nF) (nI nC) xg aP (fun c => nI (cf c)) (fun c => nI (ct c)) aK bF bL bB bA bY bR oT oO oR bS)) (va_A (wM h cI cZ xt (nI nF) (nI nC) xg aP (fun c => nI (cf c)) (fun c => nI (ct c)) aK bF bL bB bA bY bR oT oO oR bS) sz)) 0 0 (va_A (wM h cI cZ xt (nI nF) (nI nC) xg aP (fun c => nI (cf c)) (fun c => nI (ct c)) aK bF bL bB bA bY bR oT oO oR bS) sz) := by
  refine Met.ofW (cc := c_M_reachedFrom) (maxL := 5) (ret := (some .int)) (by decide) rfl ?_
  intro p e s m args below meth c s₁ B hml hv
  obtain ⟨rfl, hsz, hP, hK, hD0⟩ := hv
  have hx := B.exec
  have hb := B.bytes
  have hr := B.returns
  have hts := atoms_spec (ws := w_M_reachedFrom) B.pre
  have hk : ∀ w ∈ wMw, w.before _ s = true := fun w h => hts w (List.mem_cons_of_mem _ h)
  have hown : s.vm.findClass R_M = some m.cls := findClass_of_methodNamed B.named
  have hlocks := B.notSynchronized
  subst hsz
  have hD := hD0.self (sz := s.heap.size)
  generalize hAe : va_A (wM h cI cZ xt (nI nF) (nI nC) xg aP (fun c => nI (cf c)) (fun c => nI (ct c)) aK bF bL bB bA bY bR oT oO oR bS) s.heap.size = A at hD ⊢
  have hA : ∀ q : Nat, s.heap.size ≤ q → A q := fun q h => by rw [← hAe]; exact Or.inr h
  have hS : va_S A s.heap s.heap [] := va_S.rf
  have hl := lv_entry ([.ref (h 0), .int (nI f)]) (n := 5) (Nat.le_of_ble_eq_true rfl)
  rw [lg_entry_eq]
  generalize (lg_sl ([.ref (h 0), .int (nI f)]) ++ List.replicate (5 - (lg_sl ([.ref (h 0), .int (nI f)])).length) Slot.unset).toArray = ls at hl ⊢
  have hl : lv_has ls 5 [(0, .ref (h 0)), (1, .int (nI f))] := hl
  refine lv_iconst (v := nI 0) hx hb d_M_reachedFrom_0 (by decide +kernel) ?_
  refine lv_istore_n (lv' := [(2, .int (nI 0)), (0, .ref (h 0)), (1, .int (nI f))]) hx hb d_M_reachedFrom_1 rfl hl (by decide) rfl (fun ls hl => ?_)
  refine lv_iconst (v := nI 1) hx hb d_M_reachedFrom_2 (by decide +kernel) ?_
  refine lv_istore_n (lv' := [(3, .int (nI 1)), (2, .int (nI 0)), (0, .ref (h 0)), (1, .int (nI f))]) hx hb d_M_reachedFrom_3 rfl hl (by decide) rfl (fun ls hl => ?_)
  have lp1 : ∀ (n_lp1 : Nat) (t9 : Nat) (b : Nat), (t9 ≤ nF + 1) → ((b = 1 ∧ t9 ≤ bitsN nF (rcN nC cf ct f t9)) ∨ (b = 0 ∧ rcN nC cf ct f t9 = rcN nC cf ct f nF)) → nF + 2 - t9 < n_lp1 → ∀ (H : Heap) (locs : List Loc) (ls : Array Slot), va_P (dC, dI) kls (wM h cI cZ xt (nI nF) (nI nC) xg aP (fun c => nI (cf c)) (fun c => nI (ct c)) aK bF bL bB bA bY bR oT oO oR bS) H → va_D A (wM h cI cZ xt (nI nF) (nI nC) xg aP (fun c => nI (cf c)) (fun c => nI (ct c)) aK bF bL bB bA bY bR oT oO oR bS) → va_S A s.heap H locs → lv_has ls 5 [(0, .ref (h 0)), (1, .int (nI f)), (2, .int (nI (rcN nC cf ct f t9))), (3, .int (nI b))] → W p l e (headSpec w_M_reachedFrom ({ frames := 0, cells := 0, slots := 0, locals := 0 })).room s m ([.ref (h 0), .int (nI f)]).toArray below meth c H locs 0 0 (MQ below (va_Qi (fun (r : Int32) (u : Unit) => r = nI (rcN nC cf ct f nF)) (fun (u : Unit) (t : State) => va_P (dC, dI) kls (wM h cI cZ xt (nI nF) (nI nC) xg aP (fun c => nI (cf c)) (fun c => nI (ct c)) aK bF bL bB bA bY bR oT oO oR bS) t.heap ∧ va_K (dC, dI) kls (tyM cI cZ) t ∧ va_D (A) (wM h cI cZ xt (nI nF) (nI nC) xg aP (fun c => nI (cf c)) (fun c => nI (ct c)) aK bF bL bB bA bY bR oT oO oR bS)) A) ([.ref (h 0), .int (nI f)]).toArray s 0 0 A) (F0 m 4 ls []) := by
    intro n_lp1
    induction n_lp1 with
    | zero => intro t9 b ht hb2 hn; exact absurd hn (Nat.not_lt_zero _)
    | succ n_lp1 ih_lp1 =>
      intro t9 b ht hb2 hn H locs ls hP hD hS hl
      have hb9 : b < 2 := by rcases hb2 with ⟨h1, -⟩ | ⟨h0, -⟩ <;> omega
      refine lv_iload_n hx hb d_M_reachedFrom_4 rfl (lv_at hl 3 rfl) ?_
      refine lv_if_eq (tgt := 88) hx hb d_M_reachedFrom_5 (by decide) (fun c_5 => ?_) (fun c_5 => ?_)
      · have c_5 : b = 0 := (nI_eq (a := b) (b := 0) (by omega) (by omega)).mp c_5
        refine lv_iload_n hx hb d_M_reachedFrom_88 rfl (lv_at hl 2 rfl) ?_
        have hq : nI (rcN nC cf ct f t9) = nI (rcN nC cf ct f nF) := by
          rcases hb2 with ⟨h9, -⟩ | ⟨-, h9⟩
          · omega
          · rw [h9]
        exact W.iret (v := nI (rcN nC cf ct f t9)) hx hb hr (fun t ht hW => ⟨⟨nI (rcN nC cf ct f t9), (), rfl, hq, by rw [ht]; exact hP, va_K.moved hW.alike hK, hD⟩, hS.F ht⟩) hS.2.2 d_M_reachedFrom_89
      · have c_5 : ¬ b = 0 := fun z9 => c_5 ((nI_eq (a := b) (b := 0) (by omega) (by omega)).mpr z9)
        refine lv_iconst (v := nI 0) hx hb d_M_reachedFrom_8 (by decide +kernel) ?_
        refine lv_istore_n (lv' := [(3, .int (nI 0)), (0, .ref (h 0)), (1, .int (nI f)), (2, .int (nI (rcN nC cf ct f t9)))]) hx hb d_M_reachedFrom_9 rfl hl (by decide) rfl (fun ls hl => ?_)
        refine lv_iconst (v := nI 0) hx hb d_M_reachedFrom_10 (by decide +kernel) ?_
        refine lv_istore (lv' := [(4, .int (nI 0)), (3, .int (nI 0)), (0, .ref (h 0)), (1, .int (nI f)), (2, .int (nI (rcN nC cf ct f t9)))]) hx hb d_M_reachedFrom_11 hl (by decide) rfl (fun ls hl => ?_)
        have htf : t9 ≤ nF := by rcases hb2 with ⟨-, h9⟩ | ⟨h9, -⟩; exact Nat.le_trans h9 (bits_le _ _); exact absurd h9 c_5
        have lp2 : ∀ (n_lp2 : Nat) (i : Nat) (b2 : Nat), (i ≤ nC) → ((b2 = 0 ∧ rcP cf ct f (rcN nC cf ct f t9) i = rcN nC cf ct f t9) ∨ (b2 = 1 ∧ rcP cf ct f (rcN nC cf ct f t9) i ≠ rcN nC cf ct f t9)) → nC - i < n_lp2 → ∀ (H : Heap) (locs : List Loc) (ls : Array Slot), va_P (dC, dI) kls (wM h cI cZ xt (nI nF) (nI nC) xg aP (fun c => nI (cf c)) (fun c => nI (ct c)) aK bF bL bB bA bY bR oT oO oR bS) H → va_D A (wM h cI cZ xt (nI nF) (nI nC) xg aP (fun c => nI (cf c)) (fun c => nI (ct c)) aK bF bL bB bA bY bR oT oO oR bS) → va_S A s.heap H locs → lv_has ls 5 [(0, .ref (h 0)), (1, .int (nI f)), (2, .int (nI (rcP cf ct f (rcN nC cf ct f t9) i))), (3, .int (nI b2)), (4, .int (nI i))] → W p l e (headSpec w_M_reachedFrom ({ frames := 0, cells := 0, slots := 0, locals := 0 })).room s m ([.ref (h 0), .int (nI f)]).toArray below meth c H locs 0 0 (MQ below (va_Qi (fun (r : Int32) (u : Unit) => r = nI (rcN nC cf ct f nF)) (fun (u : Unit) (t : State) => va_P (dC, dI) kls (wM h cI cZ xt (nI nF) (nI nC) xg aP (fun c => nI (cf c)) (fun c => nI (ct c)) aK bF bL bB bA bY bR oT oO oR bS) t.heap ∧ va_K (dC, dI) kls (tyM cI cZ) t ∧ va_D (A) (wM h cI cZ xt (nI nF) (nI nC) xg aP (fun c => nI (cf c)) (fun c => nI (ct c)) aK bF bL bB bA bY bR oT oO oR bS)) A) ([.ref (h 0), .int (nI f)]).toArray s 0 0 A) (F0 m 13 ls []) := by
          intro n_lp2
          induction n_lp2 with
          | zero => intro i b2 hi hb3 hn; exact absurd hn (Nat.not_lt_zero _)
          | succ n_lp2 ih_lp2 =>
            intro i b2 hi hb3 hn H locs ls hP hD hS hl
            refine lv_iload hx hb d_M_reachedFrom_13 (lv_at hl 4 rfl) ?_
            refine lv_aload_n hx hb d_M_reachedFrom_15 rfl (lv_at hl 0 rfl) ?_
            refine va_get (D := (dC, dI)) (ci := 0) (v := .int (nI nC)) (C := R_M) (T := F_M) (N := 18) hx hb hk k_M_f hown hK hP 0 rfl rfl 2 (by decide) (hk _ k_M_10) (fun _ h9 => h9) rfl d_M_reachedFrom_16 ?_
            refine lv_icmp_ge (tgt := 85) hx hb d_M_reachedFrom_19 (by decide) (fun c_19 => ?_) (fun c_19 => ?_)
            · have c_19 : nC ≤ i := (nI_leI (a := nC) (b := i) (by omega) (by omega)).mp c_19
              refine lv_goto (tgt := 4) hx hb d_M_reachedFrom_85 (by decide) ?_
              have hin : i = nC := by omega
              subst hin
              have hre : rcP cf ct f (rcN i cf ct f t9) i = rcN i cf ct f (t9 + 1) := rfl
              rw [hre] at hl hb3
              have hb4 : (b2 = 1 ∧ t9 + 1 ≤ bitsN nF (rcN i cf ct f (t9 + 1))) ∨ (b2 = 0 ∧ rcN i cf ct f (t9 + 1) = rcN i cf ct f nF) := by
                rcases hb3 with ⟨hb0, hsame⟩ | ⟨hb1, hdiff⟩
                · exact Or.inr ⟨hb0, by rw [hsame]; exact rcN_same i cf ct f (fun c hc => (hS0 c hc).2) hsame⟩
                · refine Or.inl ⟨hb1, ?_⟩
                  have := bits_more (nF := nF) (rcN_lt i cf ct f (fun c hc => (hS0 c hc).2) t9) (rcN_lt i cf ct f (fun c hc => (hS0 c hc).2) (t9 + 1)) (fun q hq => by rw [rcN]; exact rcP_keep cf ct f _ i q hq) hdiff
                  rcases hb2 with ⟨-, h9⟩ | ⟨h9, -⟩
                  · omega
                  · exact absurd h9 c_5
              exact ih_lp1 (t9 + 1) b2 (by omega) (hb4) (by omega) _ _ _ hP hD hS (lv_sub hl [0, 1, 2, 3] rfl)
            · have c_19 : ¬ nC ≤ i := fun z9 => c_19 ((nI_leI (a := nC) (b := i) (by omega) (by omega)).mpr z9)
              have hci := hS0 i (by omega)
              have hml : rcP cf ct f (rcN nC cf ct f t9) i < 2 ^ nF := rcP_lt nC cf ct f (fun c hc => (hS0 c hc).2) (rcN_lt nC cf ct f (fun c hc => (hS0 c hc).2) t9) i (by omega)
              have hp2 := p2_lt hF
              refine lv_aload_n hx hb d_M_reachedFrom_22 rfl (lv_at hl 0 rfl) ?_
              refine va_get (D := (dC, dI)) (ci := 0) (v := .ref (h 2)) (C := R_M) (T := F_M) (N := 18) hx hb hk k_M_f hown hK hP 0 rfl rfl 4 (by decide) (hk _ k_M_12) (fun _ h9 => h9) rfl d_M_reachedFrom_23 ?_
              refine lv_iload hx hb d_M_reachedFrom_26 (lv_at hl 4 rfl) ?_
              refine va_iald hx hb hK hP 2 0 rfl rfl (pk_in i 20 (by omega)) d_M_reachedFrom_28 ?_
              refine lv_topi (fun z1 ez1 => ?_)
              obtain rfl : z1 = nI (cf i) := ez1.trans (rd (f := fun c => nI (cf c)) (k := i) (by omega))
              refine lv_iload_n hx hb d_M_reachedFrom_29 rfl (lv_at hl 1 rfl) ?_
              refine lv_icmp_eq (tgt := 47) hx hb d_M_reachedFrom_30 (by decide) (fun c_30 => ?_) (fun c_30 => ?_)
              · have c_30 : cf i = f := (nI_eq (a := cf i) (b := f) (by omega) (by omega)).mp c_30
                refine lv_iload_n hx hb d_M_reachedFrom_47 rfl (lv_at hl 2 rfl) ?_
                refine lv_aload_n hx hb d_M_reachedFrom_48 rfl (lv_at hl 0 rfl) ?_
                refine va_get (D := (dC, dI)) (ci := 0) (v := .ref (h 3)) (C := R_M) (T := F_M) (N := 18) hx hb hk k_M_f hown hK hP 0 rfl rfl 5 (by decide) (hk _ k_M_13) (fun _ h9 => h9) rfl d_M_reachedFrom_49 ?_
                refine lv_iload hx hb d_M_reachedFrom_52 (lv_at hl 4 rfl) ?_
                refine va_iald hx hb hK hP 3 0 rfl rfl (pk_in i 20 (by omega)) d_M_reachedFrom_54 ?_
                refine lv_topi (fun z2 ez2 => ?_)
                obtain rfl : z2 = nI (ct i) := ez2.trans (rd (f := fun c => nI (ct c)) (k := i) (by omega))
                refine lv_ishr hx hb d_M_reachedFrom_55 ?_
                refine lv_topi (fun z3 ez3 => ?_)
                obtain rfl : z3 = sar (nI (rcP cf ct f (rcN nC cf ct f t9) i)) (ct i) := ez3.trans (rfl)
                refine lv_iconst (v := nI 1) hx hb d_M_reachedFrom_56 (by decide +kernel) ?_
                refine lv_iand hx hb d_M_reachedFrom_57 ?_
                refine lv_topi (fun z4 ez4 => ?_)
                obtain rfl : z4 = nI (((rcP cf ct f (rcN nC cf ct f t9) i).testBit (ct i)).toNat) := ez4.trans (sar_bit (by omega) (by omega))
                have hbl2 : ((rcP cf ct f (rcN nC cf ct f t9) i).testBit (ct i)).toNat < 2 := by cases (rcP cf ct f (rcN nC cf ct f t9) i).testBit (ct i) <;> decide
                refine lv_iconst (v := nI 1) hx hb d_M_reachedFrom_58 (by decide +kernel) ?_
                refine lv_icmp_ne (tgt := 65) hx hb d_M_reachedFrom_59 (by decide) (fun c_59 => ?_) (fun c_59 => ?_)
                · have c_59 : ¬ ((rcP cf ct f (rcN nC cf ct f t9) i).testBit (ct i)).toNat = 1 := fun z9 => c_59 ((nI_eq (a := ((rcP cf ct f (rcN nC cf ct f t9) i).testBit (ct i)).toNat) (b := 1) (by omega) (by omega)).mpr z9)
                  refine lv_iload_n hx hb d_M_reachedFrom_65 rfl (lv_at hl 2 rfl) ?_
                  refine lv_iconst (v := nI 1) hx hb d_M_reachedFrom_66 (by decide +kernel) ?_
                  refine lv_aload_n hx hb d_M_reachedFrom_67 rfl (lv_at hl 0 rfl) ?_
                  refine va_get (D := (dC, dI)) (ci := 0) (v := .ref (h 3)) (C := R_M) (T := F_M) (N := 18) hx hb hk k_M_f hown hK hP 0 rfl rfl 5 (by decide) (hk _ k_M_13) (fun _ h9 => h9) rfl d_M_reachedFrom_68 ?_
                  refine lv_iload hx hb d_M_reachedFrom_71 (lv_at hl 4 rfl) ?_
                  refine va_iald hx hb hK hP 3 0 rfl rfl (pk_in i 20 (by omega)) d_M_reachedFrom_73 ?_
                  refine lv_topi (fun z5 ez5 => ?_)
                  obtain rfl : z5 = nI (ct i) := ez5.trans (rd (f := fun c => nI (ct c)) (k := i) (by omega))
                  refine lv_ishl hx hb d_M_reachedFrom_74 ?_
                  refine lv_topi (fun z6 ez6 => ?_)
                  obtain rfl : z6 = shl (nI 1) (ct i) := ez6.trans (rfl)
                  refine lv_ior hx hb d_M_reachedFrom_75 ?_
                  have hbt : (rcP cf ct f (rcN nC cf ct f t9) i).testBit (ct i) = false := by cases hb9 : (rcP cf ct f (rcN nC cf ct f t9) i).testBit (ct i); rfl; rw [hb9] at c_59; exact absurd rfl c_59
                  have hst : rcP cf ct f (rcN nC cf ct f t9) (i + 1) = rcP cf ct f (rcN nC cf ct f t9) i ||| 2 ^ ct i := by
                    rw [rcP]
                    first
                      | rw [if_pos (Or.inl c_30)]
                      | (rw [if_pos (Or.inr (by cases hb9 : (rcP cf ct f (rcN nC cf ct f t9) i).testBit (cf i); rw [hb9] at c_44; exact absurd rfl c_44; rfl))])
                  refine lv_topi (fun z7 ez7 => ?_)
                  obtain rfl : z7 = nI (rcP cf ct f (rcN nC cf ct f t9) (i + 1)) := ez7.trans (by rw [shl_1 _ (by omega), nx_or, hst])
                  refine lv_istore_n (lv' := [(2, .int (nI (rcP cf ct f (rcN nC cf ct f t9) (i + 1)))), (0, .ref (h 0)), (1, .int (nI f)), (3, .int (nI b2)), (4, .int (nI i))]) hx hb d_M_reachedFrom_76 rfl hl (by decide) rfl (fun ls hl => ?_)
                  refine lv_iconst (v := nI 1) hx hb d_M_reachedFrom_77 (by decide +kernel) ?_
                  refine lv_istore_n (lv' := [(3, .int (nI 1)), (2, .int (nI (rcP cf ct f (rcN nC cf ct f t9) (i + 1)))), (0, .ref (h 0)), (1, .int (nI f)), (4, .int (nI i))]) hx hb d_M_reachedFrom_78 rfl hl (by decide) rfl (fun ls hl => ?_)
                  refine lv_iinc (v := nI (i + 1)) (lv' := [(4, .int (nI (i + 1))), (3, .int (nI 1)), (2, .int (nI (rcP cf ct f (rcN nC cf ct f t9) (i + 1)))), (0, .ref (h 0)), (1, .int (nI f))]) hx hb d_M_reachedFrom_79 hl (k := 4) rfl (nI_add i 1) (by decide) rfl (fun ls hl => ?_)
                  refine lv_goto (tgt := 13) hx hb d_M_reachedFrom_82 (by decide) ?_
                  have hb4 : (1 = 0 ∧ rcP cf ct f (rcN nC cf ct f t9) (i + 1) = rcN nC cf ct f t9) ∨ (1 = 1 ∧ rcP cf ct f (rcN nC cf ct f t9) (i + 1) ≠ rcN nC cf ct f t9) := by
                    refine Or.inr ⟨rfl, fun z => ?_⟩
                    have h1 := or_new hbt
                    rw [← hst] at h1
                    have h2 : (rcP cf ct f (rcN nC cf ct f t9) (i + 1)).testBit (ct i) = true := by rw [hst, Nat.testBit_or, Nat.testBit_two_pow, decide_eq_true rfl]; simp
                    rw [z] at h2
                    have h3 := rcP_keep cf ct f (rcN nC cf ct f t9) i (ct i) h2
                    rw [hbt] at h3
                    cases h3
                  exact ih_lp2 (i + 1) 1 (by omega) (hb4) (by omega) _ _ _ hP hD hS (lv_sub hl [3, 4, 2, 1, 0] rfl)
                · have c_59 : ((rcP cf ct f (rcN nC cf ct f t9) i).testBit (ct i)).toNat = 1 := (nI_eq (a := ((rcP cf ct f (rcN nC cf ct f t9) i).testBit (ct i)).toNat) (b := 1) (by omega) (by omega)).mp c_59
                  refine lv_goto (tgt := 79) hx hb d_M_reachedFrom_62 (by decide) ?_
                  refine lv_iinc (v := nI (i + 1)) (lv' := [(4, .int (nI (i + 1))), (0, .ref (h 0)), (1, .int (nI f)), (2, .int (nI (rcP cf ct f (rcN nC cf ct f t9) i))), (3, .int (nI b2))]) hx hb d_M_reachedFrom_79 hl (k := 4) rfl (nI_add i 1) (by decide) rfl (fun ls hl => ?_)
                  refine lv_goto (tgt := 13) hx hb d_M_reachedFrom_82 (by decide) ?_
                  have hst : rcP cf ct f (rcN nC cf ct f t9) (i + 1) = rcP cf ct f (rcN nC cf ct f t9) i := by
                    rw [rcP]
                    first
                      | (rw [if_neg (by intro z; rcases z with z | z; exact c_30 z; rw [z] at c_44; exact absurd c_44 (by decide))])
                      | (split
                         · exact or_bit (by cases hb9 : (rcP cf ct f (rcN nC cf ct f t9) i).testBit (ct i); rw [hb9] at c_59; exact absurd c_59 (by decide); rfl)
                         · rfl)
                  rw [← hst] at hl hb3
                  exact ih_lp2 (i + 1) b2 (by omega) (hb3) (by omega) _ _ _ hP hD hS (lv_sub hl [1, 2, 3, 4, 0] rfl)
              · have c_30 : ¬ cf i = f := fun z9 => c_30 ((nI_eq (a := cf i) (b := f) (by omega) (by omega)).mpr z9)
                refine lv_iload_n hx hb d_M_reachedFrom_33 rfl (lv_at hl 2 rfl) ?_
                refine lv_aload_n hx hb d_M_reachedFrom_34 rfl (lv_at hl 0 rfl) ?_
                refine va_get (D := (dC, dI)) (ci := 0) (v := .ref (h 2)) (C := R_M) (T := F_M) (N := 18) hx hb hk k_M_f hown hK hP 0 rfl rfl 4 (by decide) (hk _ k_M_12) (fun _ h9 => h9) rfl d_M_reachedFrom_35 ?_
                refine lv_iload hx hb d_M_reachedFrom_38 (lv_at hl 4 rfl) ?_
                refine va_iald hx hb hK hP 2 0 rfl rfl (pk_in i 20 (by omega)) d_M_reachedFrom_40 ?_
                refine lv_topi (fun z8 ez8 => ?_)
                obtain rfl : z8 = nI (cf i) := ez8.trans (rd (f := fun c => nI (cf c)) (k := i) (by omega))
                refine lv_ishr hx hb d_M_reachedFrom_41 ?_
                refine lv_topi (fun z9 ez9 => ?_)
                obtain rfl : z9 = sar (nI (rcP cf ct f (rcN nC cf ct f t9) i)) (cf i) := ez9.trans (rfl)
                refine lv_iconst (v := nI 1) hx hb d_M_reachedFrom_42 (by decide +kernel) ?_
                refine lv_iand hx hb d_M_reachedFrom_43 ?_
                refine lv_topi (fun z10 ez10 => ?_)
                obtain rfl : z10 = nI (((rcP cf ct f (rcN nC cf ct f t9) i).testBit (cf i)).toNat) := ez10.trans (sar_bit (by omega) (by omega))
                have hbl : ((rcP cf ct f (rcN nC cf ct f t9) i).testBit (cf i)).toNat < 2 := by cases (rcP cf ct f (rcN nC cf ct f t9) i).testBit (cf i) <;> decide
                refine lv_if_eq (tgt := 79) hx hb d_M_reachedFrom_44 (by decide) (fun c_44 => ?_) (fun c_44 => ?_)
                · have c_44 : ((rcP cf ct f (rcN nC cf ct f t9) i).testBit (cf i)).toNat = 0 := (nI_eq (a := ((rcP cf ct f (rcN nC cf ct f t9) i).testBit (cf i)).toNat) (b := 0) (by omega) (by omega)).mp c_44
                  refine lv_iinc (v := nI (i + 1)) (lv' := [(4, .int (nI (i + 1))), (0, .ref (h 0)), (1, .int (nI f)), (2, .int (nI (rcP cf ct f (rcN nC cf ct f t9) i))), (3, .int (nI b2))]) hx hb d_M_reachedFrom_79 hl (k := 4) rfl (nI_add i 1) (by decide) rfl (fun ls hl => ?_)
                  refine lv_goto (tgt := 13) hx hb d_M_reachedFrom_82 (by decide) ?_
                  have hst : rcP cf ct f (rcN nC cf ct f t9) (i + 1) = rcP cf ct f (rcN nC cf ct f t9) i := by
                    rw [rcP]
                    first
                      | (rw [if_neg (by intro z; rcases z with z | z; exact c_30 z; rw [z] at c_44; exact absurd c_44 (by decide))])
                      | (split
                         · exact or_bit (by cases hb9 : (rcP cf ct f (rcN nC cf ct f t9) i).testBit (ct i); rw [hb9] at c_59; exact absurd c_59 (by decide); rfl)
                         · rfl)
                  rw [← hst] at hl hb3
                  exact ih_lp2 (i + 1) b2 (by omega) (hb3) (by omega) _ _ _ hP hD hS (lv_sub hl [1, 2, 3, 4, 0] rfl)
                · have c_44 : ¬ ((rcP cf ct f (rcN nC cf ct f t9) i).testBit (cf i)).toNat = 0 := fun z9 => c_44 ((nI_eq (a := ((rcP cf ct f (rcN nC cf ct f t9) i).testBit (cf i)).toNat) (b := 0) (by omega) (by omega)).mpr z9)
                  refine lv_iload_n hx hb d_M_reachedFrom_47 rfl (lv_at hl 2 rfl) ?_
                  refine lv_aload_n hx hb d_M_reachedFrom_48 rfl (lv_at hl 0 rfl) ?_
                  refine va_get (D := (dC, dI)) (ci := 0) (v := .ref (h 3)) (C := R_M) (T := F_M) (N := 18) hx hb hk k_M_f hown hK hP 0 rfl rfl 5 (by decide) (hk _ k_M_13) (fun _ h9 => h9) rfl d_M_reachedFrom_49 ?_
                  refine lv_iload hx hb d_M_reachedFrom_52 (lv_at hl 4 rfl) ?_
                  refine va_iald hx hb hK hP 3 0 rfl rfl (pk_in i 20 (by omega)) d_M_reachedFrom_54 ?_
                  refine lv_topi (fun z11 ez11 => ?_)
                  obtain rfl : z11 = nI (ct i) := ez11.trans (rd (f := fun c => nI (ct c)) (k := i) (by omega))
                  refine lv_ishr hx hb d_M_reachedFrom_55 ?_
                  refine lv_topi (fun z12 ez12 => ?_)
                  obtain rfl : z12 = sar (nI (rcP cf ct f (rcN nC cf ct f t9) i)) (ct i) := ez12.trans (rfl)
                  refine lv_iconst (v := nI 1) hx hb d_M_reachedFrom_56 (by decide +kernel) ?_
                  refine lv_iand hx hb d_M_reachedFrom_57 ?_
                  refine lv_topi (fun z13 ez13 => ?_)
                  obtain rfl : z13 = nI (((rcP cf ct f (rcN nC cf ct f t9) i).testBit (ct i)).toNat) := ez13.trans (sar_bit (by omega) (by omega))
                  have hbl2 : ((rcP cf ct f (rcN nC cf ct f t9) i).testBit (ct i)).toNat < 2 := by cases (rcP cf ct f (rcN nC cf ct f t9) i).testBit (ct i) <;> decide
                  refine lv_iconst (v := nI 1) hx hb d_M_reachedFrom_58 (by decide +kernel) ?_
                  refine lv_icmp_ne (tgt := 65) hx hb d_M_reachedFrom_59 (by decide) (fun c_59 => ?_) (fun c_59 => ?_)
                  · have c_59 : ¬ ((rcP cf ct f (rcN nC cf ct f t9) i).testBit (ct i)).toNat = 1 := fun z9 => c_59 ((nI_eq (a := ((rcP cf ct f (rcN nC cf ct f t9) i).testBit (ct i)).toNat) (b := 1) (by omega) (by omega)).mpr z9)
                    refine lv_iload_n hx hb d_M_reachedFrom_65 rfl (lv_at hl 2 rfl) ?_
                    refine lv_iconst (v := nI 1) hx hb d_M_reachedFrom_66 (by decide +kernel) ?_
                    refine lv_aload_n hx hb d_M_reachedFrom_67 rfl (lv_at hl 0 rfl) ?_
                    refine va_get (D := (dC, dI)) (ci := 0) (v := .ref (h 3)) (C := R_M) (T := F_M) (N := 18) hx hb hk k_M_f hown hK hP 0 rfl rfl 5 (by decide) (hk _ k_M_13) (fun _ h9 => h9) rfl d_M_reachedFrom_68 ?_
                    refine lv_iload hx hb d_M_reachedFrom_71 (lv_at hl 4 rfl) ?_
                    refine va_iald hx hb hK hP 3 0 rfl rfl (pk_in i 20 (by omega)) d_M_reachedFrom_73 ?_
                    refine lv_topi (fun z14 ez14 => ?_)
                    obtain rfl : z14 = nI (ct i) := ez14.trans (rd (f := fun c => nI (ct c)) (k := i) (by omega))
                    refine lv_ishl hx hb d_M_reachedFrom_74 ?_
                    refine lv_topi (fun z15 ez15 => ?_)
                    obtain rfl : z15 = shl (nI 1) (ct i) := ez15.trans (rfl)
                    refine lv_ior hx hb d_M_reachedFrom_75 ?_
                    have hbt : (rcP cf ct f (rcN nC cf ct f t9) i).testBit (ct i) = false := by cases hb9 : (rcP cf ct f (rcN nC cf ct f t9) i).testBit (ct i); rfl; rw [hb9] at c_59; exact absurd rfl c_59
                    have hst : rcP cf ct f (rcN nC cf ct f t9) (i + 1) = rcP cf ct f (rcN nC cf ct f t9) i ||| 2 ^ ct i := by
                      rw [rcP]
                      first
                        | rw [if_pos (Or.inl c_30)]
                        | (rw [if_pos (Or.inr (by cases hb9 : (rcP cf ct f (rcN nC cf ct f t9) i).testBit (cf i); rw [hb9] at c_44; exact absurd rfl c_44; rfl))])
                    refine lv_topi (fun z16 ez16 => ?_)
                    obtain rfl : z16 = nI (rcP cf ct f (rcN nC cf ct f t9) (i + 1)) := ez16.trans (by rw [shl_1 _ (by omega), nx_or, hst])
                    refine lv_istore_n (lv' := [(2, .int (nI (rcP cf ct f (rcN nC cf ct f t9) (i + 1)))), (0, .ref (h 0)), (1, .int (nI f)), (3, .int (nI b2)), (4, .int (nI i))]) hx hb d_M_reachedFrom_76 rfl hl (by decide) rfl (fun ls hl => ?_)
                    refine lv_iconst (v := nI 1) hx hb d_M_reachedFrom_77 (by decide +kernel) ?_
                    refine lv_istore_n (lv' := [(3, .int (nI 1)), (2, .int (nI (rcP cf ct f (rcN nC cf ct f t9) (i + 1)))), (0, .ref (h 0)), (1, .int (nI f)), (4, .int (nI i))]) hx hb d_M_reachedFrom_78 rfl hl (by decide) rfl (fun ls hl => ?_)
                    refine lv_iinc (v := nI (i + 1)) (lv' := [(4, .int (nI (i + 1))), (3, .int (nI 1)), (2, .int (nI (rcP cf ct f (rcN nC cf ct f t9) (i + 1)))), (0, .ref (h 0)), (1, .int (nI f))]) hx hb d_M_reachedFrom_79 hl (k := 4) rfl (nI_add i 1) (by decide) rfl (fun ls hl => ?_)
                    refine lv_goto (tgt := 13) hx hb d_M_reachedFrom_82 (by decide) ?_
                    have hb4 : (1 = 0 ∧ rcP cf ct f (rcN nC cf ct f t9) (i + 1) = rcN nC cf ct f t9) ∨ (1 = 1 ∧ rcP cf ct f (rcN nC cf ct f t9) (i + 1) ≠ rcN nC cf ct f t9) := by
                      refine Or.inr ⟨rfl, fun z => ?_⟩
                      have h1 := or_new hbt
                      rw [← hst] at h1
                      have h2 : (rcP cf ct f (rcN nC cf ct f t9) (i + 1)).testBit (ct i) = true := by rw [hst, Nat.testBit_or, Nat.testBit_two_pow, decide_eq_true rfl]; simp
                      rw [z] at h2
                      have h3 := rcP_keep cf ct f (rcN nC cf ct f t9) i (ct i) h2
                      rw [hbt] at h3
                      cases h3
                    exact ih_lp2 (i + 1) 1 (by omega) (hb4) (by omega) _ _ _ hP hD hS (lv_sub hl [3, 4, 2, 1, 0] rfl)
                  · have c_59 : ((rcP cf ct f (rcN nC cf ct f t9) i).testBit (ct i)).toNat = 1 := (nI_eq (a := ((rcP cf ct f (rcN nC cf ct f t9) i).testBit (ct i)).toNat) (b := 1) (by omega) (by omega)).mp c_59
                    refine lv_goto (tgt := 79) hx hb d_M_reachedFrom_62 (by decide) ?_
                    refine lv_iinc (v := nI (i + 1)) (lv' := [(4, .int (nI (i + 1))), (0, .ref (h 0)), (1, .int (nI f)), (2, .int (nI (rcP cf ct f (rcN nC cf ct f t9) i))), (3, .int (nI b2))]) hx hb d_M_reachedFrom_79 hl (k := 4) rfl (nI_add i 1) (by decide) rfl (fun ls hl => ?_)
                    refine lv_goto (tgt := 13) hx hb d_M_reachedFrom_82 (by decide) ?_
                    have hst : rcP cf ct f (rcN nC cf ct f t9) (i + 1) = rcP cf ct f (rcN nC cf ct f t9) i := by
                      rw [rcP]
                      first
                        | (rw [if_neg (by intro z; rcases z with z | z; exact c_30 z; rw [z] at c_44; exact absurd c_44 (by decide))])
                        | (split
                           · exact or_bit (by cases hb9 : (rcP cf ct f (rcN nC cf ct f t9) i).testBit (ct i); rw [hb9] at c_59; exact absurd c_59 (by decide); rfl)
                           · rfl)
                    rw [← hst] at hl hb3
                    exact ih_lp2 (i + 1) b2 (by omega) (hb3) (by omega) _ _ _ hP hD hS (lv_sub hl [1, 2, 3, 4, 0] rfl)
        exact lp2 _ 0 0 (Nat.zero_le _) (Or.inl ⟨rfl, rfl⟩) (Nat.lt_succ_self _) _ _ _ hP hD hS (lv_sub hl [2, 3, 4, 1, 0] rfl)
  exact lp1 _ 0 1 (Nat.zero_le _) (Or.inl ⟨rfl, Nat.zero_le _⟩) (Nat.lt_succ_self _) _ _ _ hP hD hS (lv_sub hl [2, 3, 1, 0] rfl)
