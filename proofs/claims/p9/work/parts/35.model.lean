set_option maxHeartbeats 4000000 in
set_option maxRecDepth 100000 in
theorem m_reached (l : Launch) (dC : Nat → ClassId) (dI : Nat → Nat → Nat) (cI cZ : ClassId) (h : Nat → Nat) (sz : Nat) (xt xg : Int32) (aP aK bF bL bB bA bY bR oT oO oR bS : Nat → Int32) (nF nC : Nat) (cf ct : Nat → Nat) (f : Int32) (hF : nF ≤ 10) (hC : nC ≤ 20) (hS0 : ∀ c, c < nC → cf c < nF ∧ ct c < nF) : Met l y_M_reached w_M_reached ({ frames := 1, cells := 0, slots := 0, locals := 24 }) (va_Pc [.ref (h 0), .int f] (fun U => U.heap.size = sz ∧ va_P (dC, dI) kls (wM h cI cZ xt (nI nF) (nI nC) xg aP (fun c => nI (cf c)) (fun c => nI (ct c)) aK bF bL bB bA bY bR oT oO oR bS) U.heap ∧ va_K (dC, dI) kls (tyM cI cZ) U ∧ va_D (fun _ => True) (wM h cI cZ xt (nI nF) (nI nC) xg aP (fun c => nI (cf c)) (fun c => nI (ct c)) aK bF bL bB bA bY bR oT oO oR bS))) (va_Qi (fun (r : Int32) (u : Int32) => u = nI 0 ∧ (((¬ ∃ i, i < nF ∧ f = nI i) ∧ r = -1) ∨ ∃ i, i < nF ∧ f = nI i ∧ r = nI (rcN nC cf ct i nF))) (fun (u : Int32) (t : State) => va_P (dC, dI) kls (wM h cI cZ u (nI nF) (nI nC) xg aP (fun c => nI (cf c)) (fun c => nI (ct c)) aK bF bL bB bA bY bR oT oO oR bS) t.heap ∧ va_K (dC, dI) kls (tyM cI cZ) t ∧ va_D (va_A (wM h cI cZ xt (nI nF) (nI nC) xg aP (fun c => nI (cf c)) (fun c => nI (ct c)) aK bF bL bB bA bY bR oT oO oR bS) sz) (wM h cI cZ u (nI nF) (nI nC) xg aP (fun c => nI (cf c)) (fun c => nI (ct c)) aK bF bL bB bA bY bR oT oO oR bS)) (va_A (wM h cI cZ xt (nI nF) (nI nC) xg aP (fun c => nI (cf c)) (fun c => nI (ct c)) aK bF bL bB bA bY bR oT oO oR bS) sz)) 0 0 (va_A (wM h cI cZ xt (nI nF) (nI nC) xg aP (fun c => nI (cf c)) (fun c => nI (ct c)) aK bF bL bB bA bY bR oT oO oR bS) sz) := by
  refine Met.ofW (cc := c_M_reached) (maxL := 2) (ret := (some .int)) (by decide) rfl ?_
  intro p e s m args below meth c s₁ B hml hv
  obtain ⟨rfl, hsz, hP, hK, hD0⟩ := hv
  have hx := B.exec
  have hb := B.bytes
  have hr := B.returns
  have hts := atoms_spec (ws := w_M_reached) B.pre
  have hk : ∀ w ∈ wMw, w.before _ s = true := fun w h => hts w (List.mem_cons_of_mem _ h)
  have hown : s.vm.findClass R_M = some m.cls := findClass_of_methodNamed B.named
  have hlocks := B.notSynchronized
  subst hsz
  have hD := hD0.self (sz := s.heap.size)
  generalize hAe : va_A (wM h cI cZ xt (nI nF) (nI nC) xg aP (fun c => nI (cf c)) (fun c => nI (ct c)) aK bF bL bB bA bY bR oT oO oR bS) s.heap.size = A at hD ⊢
  have hA : ∀ q : Nat, s.heap.size ≤ q → A q := fun q h => by rw [← hAe]; exact Or.inr h
  have hS : va_S A s.heap s.heap [] := va_S.rf
  have hl := lv_entry ([.ref (h 0), .int f]) (n := 2) (Nat.le_of_ble_eq_true rfl)
  rw [lg_entry_eq]
  generalize (lg_sl ([.ref (h 0), .int f]) ++ List.replicate (2 - (lg_sl ([.ref (h 0), .int f])).length) Slot.unset).toArray = ls at hl ⊢
  have hl : lv_has ls 2 [(0, .ref (h 0)), (1, .int f)] := hl
  refine lv_aload_n hx hb d_M_reached_0 rfl (lv_at hl 0 rfl) ?_
  refine lv_iconst (v := nI 0) hx hb d_M_reached_1 (by decide +kernel) ?_
  refine va_put (D := (dC, dI)) (ci := 0) (v := .int (nI 0)) (ty := .int) (C := R_M) (T := F_M) (N := 18) hx hb hk k_M_f t_M t_M_ok n_M hown hK hP hD hS 0 rfl rfl 0 (by decide) (hk _ k_M_8) (fun _ h9 => h9) rfl (by decide +kernel) rfl rfl (Nat.le_of_ble_eq_true rfl) d_M_reached_2 (fun H locs hP hD hS => ?_)
  have hP : va_P (dC, dI) kls (wM h cI cZ (nI 0) (nI nF) (nI nC) xg aP (fun c => nI (cf c)) (fun c => nI (ct c)) aK bF bL bB bA bY bR oT oO oR bS) H := hP
  have hD : va_D A (wM h cI cZ (nI 0) (nI nF) (nI nC) xg aP (fun c => nI (cf c)) (fun c => nI (ct c)) aK bF bL bB bA bY bR oT oO oR bS) := hD
  refine lv_aload_n hx hb d_M_reached_5 rfl (lv_at hl 0 rfl) ?_
  refine lv_iload_n hx hb d_M_reached_6 rfl (lv_at hl 1 rfl) ?_
  have hFc := va_free (wc := wM h cI cZ (nI 0) (nI nF) (nI nC) xg aP (fun c => nI (cf c)) (fun c => nI (ct c)) aK bF bL bB bA bY bR oT oO oR bS) hD hS hA [0, 1, 2, 3, 4, 5, 6, 7, 8, 9, 10, 11, 12, 13, 14] rfl
  refine va_calli (va_runV (As := [.int f]) (rest := []) ⟨hx, hb, hml, hown, hk⟩ (m_isFunction l dC dI cI cZ h H.size (nI 0) (nI nC) xg aP (fun c => nI (cf c)) (fun c => nI (ct c)) aK bF bL bB bA bY bR oT oO oR bS nF f (by omega)) (cwV 1 hk g_M_isFunction rfl rfl rfl (by decide +kernel) ⟨Nat.le_of_ble_eq_true rfl, Nat.le_of_ble_eq_true rfl⟩) ⟨fun a U g mk q => by obtain ⟨q0, q1, qP, qK, qD⟩ := q; exact ⟨q0, q1, qP, va_K.moved (u := U) (U := U.calling g mk a) (Vm.Alike.refl U.vm) qK, qD⟩, va_recv hK hP (ci := 0) (q0 := 0) rfl rfl, fun U hU hW => ⟨rfl, by rw [hU], by rw [hU]; exact hP, va_K.moved hW.alike hK, hD.weaken (fun _ _ _ _ => trivial)⟩⟩ rfl rfl hl.1 rfl (lv_room (Nat.le_of_ble_eq_true rfl)) d_M_reached_7 ⟨Nat.le_of_ble_eq_true rfl, Nat.le_of_ble_eq_true rfl⟩) hS (fun q _ h => hFc q h) hFc (fun r1 u9 t H1 locs ht hvm hw hB hz1 hk1 hS => ?_)
  obtain ⟨hP1, hK1, hD1⟩ := hB
  rw [ht] at hP1
  try dsimp only at hw
  obtain ⟨hP, hD⟩ := va_join (wr := []) (w1 := wM h cI cZ (nI 0) (nI nF) (nI nC) xg aP (fun c => nI (cf c)) (fun c => nI (ct c)) aK bF bL bB bA bY bR oT oO oR bS) hP hD [0, 1, 2, 3, 4, 5, 6, 7, 8, 9, 10, 11, 12, 13, 14] [] rfl rfl (by decide) (by decide) hk1 hFc hP1 hD1
  generalize H1 = H at hP hS ⊢
  have hP : va_P (dC, dI) kls (wM h cI cZ (nI 0) (nI nF) (nI nC) xg aP (fun c => nI (cf c)) (fun c => nI (ct c)) aK bF bL bB bA bY bR oT oO oR bS) H := hP
  have hD : va_D A (wM h cI cZ (nI 0) (nI nF) (nI nC) xg aP (fun c => nI (cf c)) (fun c => nI (ct c)) aK bF bL bB bA bY bR oT oO oR bS) := hD
  rcases hw with ⟨hr9, i1, hi1, hfj⟩ | ⟨hr9, hno_f⟩
  · subst hr9
    subst hfj
    refine lv_if_eq (tgt := 21) hx hb d_M_reached_10 (by decide) (fun c9 => absurd c9 (by decide +kernel)) (fun _ => ?_)
    refine lv_aload_n hx hb d_M_reached_13 rfl (lv_at hl 0 rfl) ?_
    refine lv_iload_n hx hb d_M_reached_14 rfl (lv_at hl 1 rfl) ?_
    have hFc := va_free (wc := wM h cI cZ (nI 0) (nI nF) (nI nC) xg aP (fun c => nI (cf c)) (fun c => nI (ct c)) aK bF bL bB bA bY bR oT oO oR bS) hD hS hA [0, 1, 2, 3, 4, 5, 6, 7, 8, 9, 10, 11, 12, 13, 14] rfl
    refine va_calli (va_runV (As := [.int (nI i1)]) (rest := []) ⟨hx, hb, hml, hown, hk⟩ (m_reachedFrom l dC dI cI cZ h H.size (nI 0) xg aP aK bF bL bB bA bY bR oT oO oR bS nF nC i1 cf ct (hF) (hC) (hS0) (hi1)) (cwV 1 hk g_M_reachedFrom rfl rfl rfl (by decide +kernel) ⟨Nat.le_of_ble_eq_true rfl, Nat.le_of_ble_eq_true rfl⟩) ⟨fun a U g mk q => by obtain ⟨q0, q1, qP, qK, qD⟩ := q; exact ⟨q0, q1, qP, va_K.moved (u := U) (U := U.calling g mk a) (Vm.Alike.refl U.vm) qK, qD⟩, va_recv hK hP (ci := 0) (q0 := 0) rfl rfl, fun U hU hW => ⟨rfl, by rw [hU], by rw [hU]; exact hP, va_K.moved hW.alike hK, hD.weaken (fun _ _ _ _ => trivial)⟩⟩ rfl rfl hl.1 rfl (lv_room (Nat.le_of_ble_eq_true rfl)) d_M_reached_15 ⟨Nat.le_of_ble_eq_true rfl, Nat.le_of_ble_eq_true rfl⟩) hS (fun q _ h => hFc q h) hFc (fun r2 u9 t H1 locs ht hvm hw hB hz1 hk1 hS => ?_)
    obtain ⟨hP1, hK1, hD1⟩ := hB
    rw [ht] at hP1
    try dsimp only at hw
    obtain ⟨hP, hD⟩ := va_join (wr := []) (w1 := wM h cI cZ (nI 0) (nI nF) (nI nC) xg aP (fun c => nI (cf c)) (fun c => nI (ct c)) aK bF bL bB bA bY bR oT oO oR bS) hP hD [0, 1, 2, 3, 4, 5, 6, 7, 8, 9, 10, 11, 12, 13, 14] [] rfl rfl (by decide) (by decide) hk1 hFc hP1 hD1
    generalize H1 = H at hP hS ⊢
    have hP : va_P (dC, dI) kls (wM h cI cZ (nI 0) (nI nF) (nI nC) xg aP (fun c => nI (cf c)) (fun c => nI (ct c)) aK bF bL bB bA bY bR oT oO oR bS) H := hP
    have hD : va_D A (wM h cI cZ (nI 0) (nI nF) (nI nC) xg aP (fun c => nI (cf c)) (fun c => nI (ct c)) aK bF bL bB bA bY bR oT oO oR bS) := hD
    subst hw
    refine lv_goto (tgt := 22) hx hb d_M_reached_18 (by decide) ?_
    exact W.iret (v := nI (rcN nC cf ct i1 nF)) hx hb hr (fun t ht hW => ⟨⟨nI (rcN nC cf ct i1 nF), nI 0, rfl, ⟨rfl, Or.inr ⟨i1, hi1, rfl, rfl⟩⟩, by rw [ht]; exact hP, va_K.moved hW.alike hK, hD⟩, hS.F ht⟩) hS.2.2 d_M_reached_22
  · subst hr9
    refine lv_if_eq (tgt := 21) hx hb d_M_reached_10 (by decide) (fun _ => ?_) (fun c9 => absurd c9 (by decide +kernel))
    refine lv_iconst (v := (-1)) hx hb d_M_reached_21 (by decide +kernel) ?_
    exact W.iret (v := (-1)) hx hb hr (fun t ht hW => ⟨⟨(-1), nI 0, rfl, ⟨rfl, Or.inl ⟨hno_f, rfl⟩⟩, by rw [ht]; exact hP, va_K.moved hW.alike hK, hD⟩, hS.F ht⟩) hS.2.2 d_M_reached_22
set_option maxHeartbeats 4000000 in
set_option maxRecDepth 100000 in
theorem m_isSafe (l : Launch) (dC : Nat → ClassId) (dI : Nat → Nat → Nat) (cI cZ : ClassId) (h : Nat → Nat) (sz : Nat) (xt xg : Int32) (aP aK bF bL bB bA bY bR oT oO oR bS : Nat → Int32) (nF nC K : Nat) (cf ct : Nat → Nat) (f : Int32) (hF : nF ≤ 10) (hC : nC ≤ 20) (hK8 : 801 ≤ K) (hS0 : ∀ c, c < nC → cf c < nF ∧ ct c < nF) : Met l y_M_isSafe w_M_isSafe ({ frames := 4, cells := 0, slots := 0, locals := 96 }) (va_Pc [.ref (h 0), .int f] (fun U => U.heap.size = sz ∧ va_P (dC, dI) kls (wM h cI cZ xt (nI nF) (nI nC) xg aP (fun c => nI (cf c)) (fun c => nI (ct c)) aK bF bL bB bA bY bR oT oO oR bS) U.heap ∧ va_K (dC, dI) kls (tyM cI cZ) U ∧ va_D (fun _ => True) (wM h cI cZ xt (nI nF) (nI nC) xg aP (fun c => nI (cf c)) (fun c => nI (ct c)) aK bF bL bB bA bY bR oT oO oR bS))) (va_Qi (fun (r : Int32) (u : Int32 × Int32 × (Nat → Int32) × (Nat → Int32) × (Nat → Int32) × (Nat → Int32) × (Nat → Int32)) => ((¬ ∃ i, i < nF ∧ f = nI i) ∧ u.1 = nI 1) ∨ ∃ i, i < nF ∧ f = nI i ∧ ((800 < (gA nC cf ct aK rj K).length ∧ u.1 = nI 2) ∨ ((gA nC cf ct aK rj K).length ≤ 800 ∧ u.1 = nI 0 ∧ ((r = nI 1 ∧ ∀ g, g < nF → (rcN nC cf ct i nF ||| 2 ^ i).testBit g = true → ∀ en ∈ gA nC cf ct aK rj K, ¬ (en.1 = g ∧ en.2.1 = g ∧ badX en.2.2.1)) ∨ (r = nI 0 ∧ ∃ g, g < nF ∧ (rcN nC cf ct i nF ||| 2 ^ i).testBit g = true ∧ ∃ en ∈ gA nC cf ct aK rj K, en.1 = g ∧ en.2.1 = g ∧ badX en.2.2.1))))) (fun (u : Int32 × Int32 × (Nat → Int32) × (Nat → Int32) × (Nat → Int32) × (Nat → Int32) × (Nat → Int32)) (t : State) => va_P (dC, dI) kls (wM h cI cZ u.1 (nI nF) (nI nC) u.2.1 aP (fun c => nI (cf c)) (fun c => nI (ct c)) aK u.2.2.1 u.2.2.2.1 u.2.2.2.2.1 u.2.2.2.2.2.1 u.2.2.2.2.2.2 bR oT oO oR bS) t.heap ∧ va_K (dC, dI) kls (tyM cI cZ) t ∧ va_D (va_A (wM h cI cZ xt (nI nF) (nI nC) xg aP (fun c => nI (cf c)) (fun c => nI (ct c)) aK bF bL bB bA bY bR oT oO oR bS) sz) (wM h cI cZ u.1 (nI nF) (nI nC) u.2.1 aP (fun c => nI (cf c)) (fun c => nI (ct c)) aK u.2.2.1 u.2.2.2.1 u.2.2.2.2.1 u.2.2.2.2.2.1 u.2.2.2.2.2.2 bR oT oO oR bS)) (va_A (wM h cI cZ xt (nI nF) (nI nC) xg aP (fun c => nI (cf c)) (fun c => nI (ct c)) aK bF bL bB bA bY bR oT oO oR bS) sz)) 0 0 (va_A (wM h cI cZ xt (nI nF) (nI nC) xg aP (fun c => nI (cf c)) (fun c => nI (ct c)) aK bF bL bB bA bY bR oT oO oR bS) sz) := by
  refine Met.ofW (cc := c_M_isSafe) (maxL := 5) (ret := (some .boolean)) (by decide) rfl ?_
  intro p e s m args below meth c s₁ B hml hv
  obtain ⟨rfl, hsz, hP, hK, hD0⟩ := hv
  have hx := B.exec
  have hb := B.bytes
  have hr := B.returns
  have hts := atoms_spec (ws := w_M_isSafe) B.pre
  have hk : ∀ w ∈ wMw, w.before _ s = true := fun w h => hts w (List.mem_cons_of_mem _ h)
  have hown : s.vm.findClass R_M = some m.cls := findClass_of_methodNamed B.named
  have hlocks := B.notSynchronized
  subst hsz
  have hD := hD0.self (sz := s.heap.size)
  generalize hAe : va_A (wM h cI cZ xt (nI nF) (nI nC) xg aP (fun c => nI (cf c)) (fun c => nI (ct c)) aK bF bL bB bA bY bR oT oO oR bS) s.heap.size = A at hD ⊢
  have hA : ∀ q : Nat, s.heap.size ≤ q → A q := fun q h => by rw [← hAe]; exact Or.inr h
  have hS : va_S A s.heap s.heap [] := va_S.rf
  have hl := lv_entry ([.ref (h 0), .int f]) (n := 5) (Nat.le_of_ble_eq_true rfl)
  rw [lg_entry_eq]
  generalize (lg_sl ([.ref (h 0), .int f]) ++ List.replicate (5 - (lg_sl ([.ref (h 0), .int f])).length) Slot.unset).toArray = ls at hl ⊢
  have hl : lv_has ls 5 [(0, .ref (h 0)), (1, .int f)] := hl
  refine lv_aload_n hx hb d_M_isSafe_0 rfl (lv_at hl 0 rfl) ?_
  refine lv_aload_n hx hb d_M_isSafe_1 rfl (lv_at hl 0 rfl) ?_
  refine lv_iload_n hx hb d_M_isSafe_2 rfl (lv_at hl 1 rfl) ?_
  have hFc := va_free (wc := wM h cI cZ xt (nI nF) (nI nC) xg aP (fun c => nI (cf c)) (fun c => nI (ct c)) aK bF bL bB bA bY bR oT oO oR bS) hD hS hA [0, 1, 2, 3, 4, 5, 6, 7, 8, 9, 10, 11, 12, 13, 14] rfl
  refine va_calli (va_runV (As := [.int f]) (rest := [.ref (h 0)]) ⟨hx, hb, hml, hown, hk⟩ (m_isFunction l dC dI cI cZ h s.heap.size xt (nI nC) xg aP (fun c => nI (cf c)) (fun c => nI (ct c)) aK bF bL bB bA bY bR oT oO oR bS nF f (by omega)) (cwV 1 hk g_M_isFunction rfl rfl rfl (by decide +kernel) ⟨Nat.le_of_ble_eq_true rfl, Nat.le_of_ble_eq_true rfl⟩) ⟨fun a U g mk q => by obtain ⟨q0, q1, qP, qK, qD⟩ := q; exact ⟨q0, q1, qP, va_K.moved (u := U) (U := U.calling g mk a) (Vm.Alike.refl U.vm) qK, qD⟩, va_recv hK hP (ci := 0) (q0 := 0) rfl rfl, fun U hU hW => ⟨rfl, by rw [hU], by rw [hU]; exact hP, va_K.moved hW.alike hK, hD.weaken (fun _ _ _ _ => trivial)⟩⟩ rfl rfl hl.1 rfl (lv_room (Nat.le_of_ble_eq_true rfl)) d_M_isSafe_3 ⟨Nat.le_of_ble_eq_true rfl, Nat.le_of_ble_eq_true rfl⟩) hS (fun q _ h => hFc q h) hFc (fun r1 u9 t H1 locs ht hvm hw hB hz1 hk1 hS => ?_)
  obtain ⟨hP1, hK1, hD1⟩ := hB
  rw [ht] at hP1
  try dsimp only at hw
  obtain ⟨hP, hD⟩ := va_join (wr := []) (w1 := wM h cI cZ xt (nI nF) (nI nC) xg aP (fun c => nI (cf c)) (fun c => nI (ct c)) aK bF bL bB bA bY bR oT oO oR bS) hP hD [0, 1, 2, 3, 4, 5, 6, 7, 8, 9, 10, 11, 12, 13, 14] [] rfl rfl (by decide) (by decide) hk1 hFc hP1 hD1
  generalize H1 = H at hP hS ⊢
  have hP : va_P (dC, dI) kls (wM h cI cZ xt (nI nF) (nI nC) xg aP (fun c => nI (cf c)) (fun c => nI (ct c)) aK bF bL bB bA bY bR oT oO oR bS) H := hP
  have hD : va_D A (wM h cI cZ xt (nI nF) (nI nC) xg aP (fun c => nI (cf c)) (fun c => nI (ct c)) aK bF bL bB bA bY bR oT oO oR bS) := hD
  rcases hw with ⟨hr9, i1, hi1, hfj⟩ | ⟨hr9, hno_f⟩
  · subst hr9
    subst hfj
    refine lv_if_ne (tgt := 13) hx hb d_M_isSafe_6 (by decide) (fun _ => ?_) (fun c9 => absurd c9 (by decide +kernel))
    refine lv_iconst (v := nI 0) hx hb d_M_isSafe_13 (by decide +kernel) ?_
    refine lv_iconst (v := nI 0) hx hb d_M_isSafe_14 (by decide +kernel) ?_
    have hFc := va_free (wc := wM h cI cZ xt (nI nF) (nI nC) xg aP (fun c => nI (cf c)) (fun c => nI (ct c)) aK bF bL bB bA bY bR oT oO oR bS) hD hS hA [0, 1, 2, 3, 4, 5, 6, 7, 8, 9, 10, 11, 12, 13, 14] rfl
    refine va_calli (va_runV (As := [.int (nI 0), .int (nI 0)]) (rest := []) ⟨hx, hb, hml, hown, hk⟩ (m_refused l dC dI cI cZ h H.size xt (nI nF) xg aP aK bF bL bB bA bY bR oT oO oR bS nC K cf ct (hC) (hK8) (fun c hc => ⟨by have := hS0 c hc; omega, by have := hS0 c hc; omega⟩)) (cwV 2 hk g_M_refused rfl rfl rfl (by decide +kernel) ⟨Nat.le_of_ble_eq_true rfl, Nat.le_of_ble_eq_true rfl⟩) ⟨fun a U g mk q => by obtain ⟨q0, q1, qP, qK, qD⟩ := q; exact ⟨q0, q1, qP, va_K.moved (u := U) (U := U.calling g mk a) (Vm.Alike.refl U.vm) qK, qD⟩, va_recv hK hP (ci := 0) (q0 := 0) rfl rfl, fun U hU hW => ⟨rfl, by rw [hU], by rw [hU]; exact hP, va_K.moved hW.alike hK, hD.weaken (fun _ _ _ _ => trivial)⟩⟩ rfl rfl hl.1 rfl (lv_room (Nat.le_of_ble_eq_true rfl)) d_M_isSafe_15 ⟨Nat.le_of_ble_eq_true rfl, Nat.le_of_ble_eq_true rfl⟩) hS (fun q _ h => hFc q h) hFc (fun r2 u9 t H1 locs ht hvm hw hB hz1 hk1 hS => ?_)
    obtain ⟨xt9, xg9, bF9, bL9, bB9, bA9, bY9⟩ := u9
    obtain ⟨hP1, hK1, hD1⟩ := hB
    rw [ht] at hP1
    try dsimp only at hw
    obtain ⟨hP, hD⟩ := va_join (wr := []) (w1 := wM h cI cZ xt9 (nI nF) (nI nC) xg9 aP (fun c => nI (cf c)) (fun c => nI (ct c)) aK bF9 bL9 bB9 bA9 bY9 bR oT oO oR bS) hP hD [0, 1, 2, 3, 4, 5, 6, 7, 8, 9, 10, 11, 12, 13, 14] [] rfl rfl (by decide) (by decide) hk1 hFc hP1 hD1
    generalize H1 = H at hP hS ⊢
    have hP : va_P (dC, dI) kls (wM h cI cZ xt9 (nI nF) (nI nC) xg9 aP (fun c => nI (cf c)) (fun c => nI (ct c)) aK bF9 bL9 bB9 bA9 bY9 bR oT oO oR bS) H := hP
    have hD : va_D A (wM h cI cZ xt9 (nI nF) (nI nC) xg9 aP (fun c => nI (cf c)) (fun c => nI (ct c)) aK bF9 bL9 bB9 bA9 bY9 bR oT oO oR bS) := hD
    rcases hw with ⟨hr9, hu9, hle, hg9, hE9⟩ | ⟨hr9, hu9, hgt⟩
    · subst hr9
      subst hu9
      subst hg9
      have hsm : smE (gA nC cf ct aK rj K) := sm_of (fun c hc => ⟨by have := hS0 c hc; omega, by have := hS0 c hc; omega⟩) (bsG_ok nC cf ct aK rj (fun _ => true) K)
      refine lv_if_eq (tgt := 23) hx hb d_M_isSafe_18 (by decide) (fun _ => ?_) (fun c9 => absurd c9 (by decide +kernel))
      refine lv_aload_n hx hb d_M_isSafe_23 rfl (lv_at hl 0 rfl) ?_
      refine lv_iload_n hx hb d_M_isSafe_24 rfl (lv_at hl 1 rfl) ?_
      have hFc := va_free (wc := wM h cI cZ (nI 0) (nI nF) (nI nC) (nI ((gA nC cf ct aK rj K).length)) aP (fun c => nI (cf c)) (fun c => nI (ct c)) aK bF9 bL9 bB9 bA9 bY9 bR oT oO oR bS) hD hS hA [0, 1, 2, 3, 4, 5, 6, 7, 8, 9, 10, 11, 12, 13, 14] rfl
      refine va_calli (va_runV (As := [.int (nI i1)]) (rest := []) ⟨hx, hb, hml, hown, hk⟩ (m_reachedFrom l dC dI cI cZ h H.size (nI 0) (nI ((gA nC cf ct aK rj K).length)) aP aK bF9 bL9 bB9 bA9 bY9 bR oT oO oR bS nF nC i1 cf ct (hF) (hC) (hS0) (hi1)) (cwV 1 hk g_M_reachedFrom rfl rfl rfl (by decide +kernel) ⟨Nat.le_of_ble_eq_true rfl, Nat.le_of_ble_eq_true rfl⟩) ⟨fun a U g mk q => by obtain ⟨q0, q1, qP, qK, qD⟩ := q; exact ⟨q0, q1, qP, va_K.moved (u := U) (U := U.calling g mk a) (Vm.Alike.refl U.vm) qK, qD⟩, va_recv hK hP (ci := 0) (q0 := 0) rfl rfl, fun U hU hW => ⟨rfl, by rw [hU], by rw [hU]; exact hP, va_K.moved hW.alike hK, hD.weaken (fun _ _ _ _ => trivial)⟩⟩ rfl rfl hl.1 rfl (lv_room (Nat.le_of_ble_eq_true rfl)) d_M_isSafe_25 ⟨Nat.le_of_ble_eq_true rfl, Nat.le_of_ble_eq_true rfl⟩) hS (fun q _ h => hFc q h) hFc (fun r3 u9 t H1 locs ht hvm hw hB hz1 hk1 hS => ?_)
      obtain ⟨hP1, hK1, hD1⟩ := hB
      rw [ht] at hP1
      try dsimp only at hw
      obtain ⟨hP, hD⟩ := va_join (wr := []) (w1 := wM h cI cZ (nI 0) (nI nF) (nI nC) (nI ((gA nC cf ct aK rj K).length)) aP (fun c => nI (cf c)) (fun c => nI (ct c)) aK bF9 bL9 bB9 bA9 bY9 bR oT oO oR bS) hP hD [0, 1, 2, 3, 4, 5, 6, 7, 8, 9, 10, 11, 12, 13, 14] [] rfl rfl (by decide) (by decide) hk1 hFc hP1 hD1
      generalize H1 = H at hP hS ⊢
      have hP : va_P (dC, dI) kls (wM h cI cZ (nI 0) (nI nF) (nI nC) (nI ((gA nC cf ct aK rj K).length)) aP (fun c => nI (cf c)) (fun c => nI (ct c)) aK bF9 bL9 bB9 bA9 bY9 bR oT oO oR bS) H := hP
      have hD : va_D A (wM h cI cZ (nI 0) (nI nF) (nI nC) (nI ((gA nC cf ct aK rj K).length)) aP (fun c => nI (cf c)) (fun c => nI (ct c)) aK bF9 bL9 bB9 bA9 bY9 bR oT oO oR bS) := hD
      subst hw
      refine lv_iconst (v := nI 1) hx hb d_M_isSafe_28 (by decide +kernel) ?_
      refine lv_iload_n hx hb d_M_isSafe_29 rfl (lv_at hl 1 rfl) ?_
      refine lv_ishl hx hb d_M_isSafe_30 ?_
      refine lv_topi (fun z4 ez4 => ?_)
      obtain rfl : z4 = shl (nI 1) i1 := ez4.trans (rfl)
      refine lv_ior hx hb d_M_isSafe_31 ?_
      refine lv_topi (fun z5 ez5 => ?_)
      obtain rfl : z5 = nI (rcN nC cf ct i1 nF ||| 2 ^ i1) := ez5.trans (by rw [shl_1 _ (by omega), nx_or])
      have hAl : rcN nC cf ct i1 nF ||| 2 ^ i1 < 2 ^ nF := Nat.or_lt_two_pow (rcN_lt nC cf ct i1 (fun c hc => (hS0 c hc).2) nF) (Nat.pow_lt_pow_right (by omega) hi1)
      have hp2 := p2_lt hF
      refine lv_istore_n (lv' := [(2, .int (nI (rcN nC cf ct i1 nF ||| 2 ^ i1))), (0, .ref (h 0)), (1, .int (nI i1))]) hx hb d_M_isSafe_32 rfl hl (by decide) rfl (fun ls hl => ?_)
      refine lv_iconst (v := nI 1) hx hb d_M_isSafe_33 (by decide +kernel) ?_
      refine lv_istore_n (lv' := [(3, .int (nI 1)), (2, .int (nI (rcN nC cf ct i1 nF ||| 2 ^ i1))), (0, .ref (h 0)), (1, .int (nI i1))]) hx hb d_M_isSafe_34 rfl hl (by decide) rfl (fun ls hl => ?_)
      refine lv_iconst (v := nI 0) hx hb d_M_isSafe_35 (by decide +kernel) ?_
      refine lv_istore (lv' := [(4, .int (nI 0)), (3, .int (nI 1)), (2, .int (nI (rcN nC cf ct i1 nF ||| 2 ^ i1))), (0, .ref (h 0)), (1, .int (nI i1))]) hx hb d_M_isSafe_36 hl (by decide) rfl (fun ls hl => ?_)
      have lp : ∀ (n_lp : Nat) (k : Nat) (b : Nat), (k ≤ nF) → ((b = 1 ∧ ∀ g, g < k → (rcN nC cf ct i1 nF ||| 2 ^ i1).testBit g = true → ∀ en ∈ gA nC cf ct aK rj K, ¬ (en.1 = g ∧ en.2.1 = g ∧ badX en.2.2.1)) ∨ (b = 0 ∧ ∃ g, g < nF ∧ (rcN nC cf ct i1 nF ||| 2 ^ i1).testBit g = true ∧ ∃ en ∈ gA nC cf ct aK rj K, en.1 = g ∧ en.2.1 = g ∧ badX en.2.2.1)) → nF - k < n_lp → ∀ (H : Heap) (locs : List Loc) (ls : Array Slot), va_P (dC, dI) kls (wM h cI cZ (nI 0) (nI nF) (nI nC) (nI ((gA nC cf ct aK rj K).length)) aP (fun c => nI (cf c)) (fun c => nI (ct c)) aK bF9 bL9 bB9 bA9 bY9 bR oT oO oR bS) H → va_D A (wM h cI cZ (nI 0) (nI nF) (nI nC) (nI ((gA nC cf ct aK rj K).length)) aP (fun c => nI (cf c)) (fun c => nI (ct c)) aK bF9 bL9 bB9 bA9 bY9 bR oT oO oR bS) → va_S A s.heap H locs → lv_has ls 5 [(0, .ref (h 0)), (1, .int (nI i1)), (2, .int (nI (rcN nC cf ct i1 nF ||| 2 ^ i1))), (3, .int (nI b)), (4, .int (nI k))] → W p l e (headSpec w_M_isSafe ({ frames := 4, cells := 0, slots := 0, locals := 96 })).room s m ([.ref (h 0), .int (nI i1)]).toArray below meth c H locs 0 0 (MQ below (va_Qi (fun (r : Int32) (u : Int32 × Int32 × (Nat → Int32) × (Nat → Int32) × (Nat → Int32) × (Nat → Int32) × (Nat → Int32)) => ((¬ ∃ i, i < nF ∧ (nI i1) = nI i) ∧ u.1 = nI 1) ∨ ∃ i, i < nF ∧ (nI i1) = nI i ∧ ((800 < (gA nC cf ct aK rj K).length ∧ u.1 = nI 2) ∨ ((gA nC cf ct aK rj K).length ≤ 800 ∧ u.1 = nI 0 ∧ ((r = nI 1 ∧ ∀ g, g < nF → (rcN nC cf ct i nF ||| 2 ^ i).testBit g = true → ∀ en ∈ gA nC cf ct aK rj K, ¬ (en.1 = g ∧ en.2.1 = g ∧ badX en.2.2.1)) ∨ (r = nI 0 ∧ ∃ g, g < nF ∧ (rcN nC cf ct i nF ||| 2 ^ i).testBit g = true ∧ ∃ en ∈ gA nC cf ct aK rj K, en.1 = g ∧ en.2.1 = g ∧ badX en.2.2.1))))) (fun (u : Int32 × Int32 × (Nat → Int32) × (Nat → Int32) × (Nat → Int32) × (Nat → Int32) × (Nat → Int32)) (t : State) => va_P (dC, dI) kls (wM h cI cZ u.1 (nI nF) (nI nC) u.2.1 aP (fun c => nI (cf c)) (fun c => nI (ct c)) aK u.2.2.1 u.2.2.2.1 u.2.2.2.2.1 u.2.2.2.2.2.1 u.2.2.2.2.2.2 bR oT oO oR bS) t.heap ∧ va_K (dC, dI) kls (tyM cI cZ) t ∧ va_D (A) (wM h cI cZ u.1 (nI nF) (nI nC) u.2.1 aP (fun c => nI (cf c)) (fun c => nI (ct c)) aK u.2.2.1 u.2.2.2.1 u.2.2.2.2.1 u.2.2.2.2.2.1 u.2.2.2.2.2.2 bR oT oO oR bS)) A) ([.ref (h 0), .int (nI i1)]).toArray s 0 0 A) (F0 m 38 ls []) := by
        intro n_lp
        induction n_lp with
        | zero => intro k b hk0 hb2 hn; exact absurd hn (Nat.not_lt_zero _)
        | succ n_lp ih_lp =>
          intro k b hk0 hb2 hn H locs ls hP hD hS hl
          have hb9 : b < 2 := by rcases hb2 with ⟨h1, -⟩ | ⟨h0, -⟩ <;> omega
          have hnb : narrow .boolean (.int (nI b)) = .int (nI b) := by rcases hb2 with ⟨rfl, -⟩ | ⟨rfl, -⟩ <;> rfl
          refine lv_iload hx hb d_M_isSafe_38 (lv_at hl 4 rfl) ?_
          refine lv_aload_n hx hb d_M_isSafe_40 rfl (lv_at hl 0 rfl) ?_
          refine va_get (D := (dC, dI)) (ci := 0) (v := .int (nI nF)) (C := R_M) (T := F_M) (N := 18) hx hb hk k_M_f hown hK hP 0 rfl rfl 1 (by decide) (hk _ k_M_9) (fun _ h9 => h9) rfl d_M_isSafe_41 ?_
          refine lv_icmp_ge (tgt := 82) hx hb d_M_isSafe_44 (by decide) (fun c_44 => ?_) (fun c_44 => ?_)
          · have c_44 : nF ≤ k := (nI_leI (a := nF) (b := k) (by omega) (by omega)).mp c_44
            refine lv_iload_n hx hb d_M_isSafe_82 rfl (lv_at hl 3 rfl) ?_
            have hkF : k = nF := by omega
            have hq : (nI b = nI 1 ∧ ∀ g, g < nF → (rcN nC cf ct i1 nF ||| 2 ^ i1).testBit g = true → ∀ en ∈ gA nC cf ct aK rj K, ¬ (en.1 = g ∧ en.2.1 = g ∧ badX en.2.2.1)) ∨ (nI b = nI 0 ∧ ∃ g, g < nF ∧ (rcN nC cf ct i1 nF ||| 2 ^ i1).testBit g = true ∧ ∃ en ∈ gA nC cf ct aK rj K, en.1 = g ∧ en.2.1 = g ∧ badX en.2.2.1) := by
              rcases hb2 with ⟨rfl, h1⟩ | ⟨rfl, h0⟩
              · exact Or.inl ⟨rfl, fun g hg => h1 g (by omega)⟩
              · exact Or.inr ⟨rfl, h0⟩
            exact W.zret (v := nI b) (ty := .boolean) hx hb hr hnb (fun t ht hW => ⟨⟨nI b, (nI 0, nI (gA nC cf ct aK rj K).length, bF9, bL9, bB9, bA9, bY9), rfl, Or.inr ⟨i1, hi1, rfl, Or.inr ⟨hle, rfl, hq⟩⟩, by rw [ht]; exact hP, va_K.moved hW.alike hK, hD⟩, hS.F ht⟩) hS.2.2 d_M_isSafe_83
          · have c_44 : ¬ nF ≤ k := fun z9 => c_44 ((nI_leI (a := nF) (b := k) (by omega) (by omega)).mpr z9)
            refine lv_iload_n hx hb d_M_isSafe_47 rfl (lv_at hl 2 rfl) ?_
            refine lv_iload hx hb d_M_isSafe_48 (lv_at hl 4 rfl) ?_
            refine lv_ishr hx hb d_M_isSafe_50 ?_
            refine lv_topi (fun z6 ez6 => ?_)
            obtain rfl : z6 = sar (nI (rcN nC cf ct i1 nF ||| 2 ^ i1)) k := ez6.trans (rfl)
            refine lv_iconst (v := nI 1) hx hb d_M_isSafe_51 (by decide +kernel) ?_
            refine lv_iand hx hb d_M_isSafe_52 ?_
            refine lv_topi (fun z7 ez7 => ?_)
            obtain rfl : z7 = nI (((rcN nC cf ct i1 nF ||| 2 ^ i1).testBit k).toNat) := ez7.trans (sar_bit (by omega) (by omega))
            have hbl : ((rcN nC cf ct i1 nF ||| 2 ^ i1).testBit k).toNat < 2 := by cases (rcN nC cf ct i1 nF ||| 2 ^ i1).testBit k <;> decide
            refine lv_iconst (v := nI 1) hx hb d_M_isSafe_53 (by decide +kernel) ?_
            refine lv_icmp_ne (tgt := 76) hx hb d_M_isSafe_54 (by decide) (fun c_54 => ?_) (fun c_54 => ?_)
            · have c_54 : ¬ ((rcN nC cf ct i1 nF ||| 2 ^ i1).testBit k).toNat = 1 := fun z9 => c_54 ((nI_eq (a := ((rcN nC cf ct i1 nF ||| 2 ^ i1).testBit k).toNat) (b := 1) (by omega) (by omega)).mpr z9)
              refine lv_iinc (v := nI (k + 1)) (lv' := [(4, .int (nI (k + 1))), (0, .ref (h 0)), (1, .int (nI i1)), (2, .int (nI (rcN nC cf ct i1 nF ||| 2 ^ i1))), (3, .int (nI b))]) hx hb d_M_isSafe_76 hl (k := 4) rfl (nI_add k 1) (by decide) rfl (fun ls hl => ?_)
              refine lv_goto (tgt := 38) hx hb d_M_isSafe_79 (by decide) ?_
              have hb3 : (b = 1 ∧ ∀ g, g < k + 1 → (rcN nC cf ct i1 nF ||| 2 ^ i1).testBit g = true → ∀ en ∈ gA nC cf ct aK rj K, ¬ (en.1 = g ∧ en.2.1 = g ∧ badX en.2.2.1)) ∨ (b = 0 ∧ ∃ g, g < nF ∧ (rcN nC cf ct i1 nF ||| 2 ^ i1).testBit g = true ∧ ∃ en ∈ gA nC cf ct aK rj K, en.1 = g ∧ en.2.1 = g ∧ badX en.2.2.1) := by
                rcases hb2 with ⟨h1, h2⟩ | h0
                · refine Or.inl ⟨h1, fun g hg ht => ?_⟩
                  rcases Nat.lt_or_ge g k with q | q
                  · exact h2 g q ht
                  · obtain rfl : g = k := by omega
                    rw [ht] at c_54
                    exact absurd rfl c_54
                · exact Or.inr h0
              exact ih_lp (k + 1) b (by omega) (hb3) (by omega) _ _ _ hP hD hS (lv_sub hl [1, 2, 3, 4, 0] rfl)
            · have c_54 : ((rcN nC cf ct i1 nF ||| 2 ^ i1).testBit k).toNat = 1 := (nI_eq (a := ((rcN nC cf ct i1 nF ||| 2 ^ i1).testBit k).toNat) (b := 1) (by omega) (by omega)).mp c_54
              refine lv_iload_n hx hb d_M_isSafe_57 rfl (lv_at hl 3 rfl) ?_
              refine lv_if_eq (tgt := 74) hx hb d_M_isSafe_58 (by decide) (fun c_58 => ?_) (fun c_58 => ?_)
              · have c_58 : b = 0 := (nI_eq (a := b) (b := 0) (by omega) (by omega)).mp c_58
                refine lv_iconst (v := nI 0) hx hb d_M_isSafe_74 (by decide +kernel) ?_
                refine lv_istore_n (lv' := [(3, .int (nI 0)), (0, .ref (h 0)), (1, .int (nI i1)), (2, .int (nI (rcN nC cf ct i1 nF ||| 2 ^ i1))), (4, .int (nI k))]) hx hb d_M_isSafe_75 rfl hl (by decide) rfl (fun ls hl => ?_)
                refine lv_iinc (v := nI (k + 1)) (lv' := [(4, .int (nI (k + 1))), (3, .int (nI 0)), (0, .ref (h 0)), (1, .int (nI i1)), (2, .int (nI (rcN nC cf ct i1 nF ||| 2 ^ i1)))]) hx hb d_M_isSafe_76 hl (k := 4) rfl (nI_add k 1) (by decide) rfl (fun ls hl => ?_)
                refine lv_goto (tgt := 38) hx hb d_M_isSafe_79 (by decide) ?_
                have htk : (rcN nC cf ct i1 nF ||| 2 ^ i1).testBit k = true := by cases hb9 : (rcN nC cf ct i1 nF ||| 2 ^ i1).testBit k; rw [hb9] at c_54; exact absurd c_54 (by decide); rfl
                have hb3 : (0 = 1 ∧ ∀ g, g < k + 1 → (rcN nC cf ct i1 nF ||| 2 ^ i1).testBit g = true → ∀ en ∈ gA nC cf ct aK rj K, ¬ (en.1 = g ∧ en.2.1 = g ∧ badX en.2.2.1)) ∨ (0 = 0 ∧ ∃ g, g < nF ∧ (rcN nC cf ct i1 nF ||| 2 ^ i1).testBit g = true ∧ ∃ en ∈ gA nC cf ct aK rj K, en.1 = g ∧ en.2.1 = g ∧ badX en.2.2.1) := by
                  refine Or.inr ⟨rfl, ?_⟩
                  first
                    | exact ⟨k, by omega, htk, hfall⟩
                    | (rcases hb2 with ⟨h1, -⟩ | ⟨-, h0⟩
                       · omega
                       · exact h0)
                exact ih_lp (k + 1) 0 (by omega) (hb3) (by omega) _ _ _ hP hD hS (lv_sub hl [2, 3, 4, 1, 0] rfl)
              · have c_58 : ¬ b = 0 := fun z9 => c_58 ((nI_eq (a := b) (b := 0) (by omega) (by omega)).mpr z9)
                refine lv_aload_n hx hb d_M_isSafe_61 rfl (lv_at hl 0 rfl) ?_
                refine lv_iload hx hb d_M_isSafe_62 (lv_at hl 4 rfl) ?_
                have hFc := va_free (wc := wM h cI cZ (nI 0) (nI nF) (nI nC) (nI ((gA nC cf ct aK rj K).length)) aP (fun c => nI (cf c)) (fun c => nI (ct c)) aK bF9 bL9 bB9 bA9 bY9 bR oT oO oR bS) hD hS hA [0, 1, 2, 3, 4, 5, 6, 7, 8, 9, 10, 11, 12, 13, 14] rfl
                refine va_calli (va_runV (As := [.int (nI k)]) (rest := []) ⟨hx, hb, hml, hown, hk⟩ (m_fallsAt l dC dI cI cZ h H.size (nI 0) (nI nF) (nI nC) aP (fun c => nI (cf c)) (fun c => nI (ct c)) aK bF9 bL9 bB9 bA9 bY9 bR oT oO oR bS (gA nC cf ct aK rj K) k (by omega) (hE9) (hsm) (by omega)) (cwV 1 hk g_M_fallsAt rfl rfl rfl (by decide +kernel) ⟨Nat.le_of_ble_eq_true rfl, Nat.le_of_ble_eq_true rfl⟩) ⟨fun a U g mk q => by obtain ⟨q0, q1, qP, qK, qD⟩ := q; exact ⟨q0, q1, qP, va_K.moved (u := U) (U := U.calling g mk a) (Vm.Alike.refl U.vm) qK, qD⟩, va_recv hK hP (ci := 0) (q0 := 0) rfl rfl, fun U hU hW => ⟨rfl, by rw [hU], by rw [hU]; exact hP, va_K.moved hW.alike hK, hD.weaken (fun _ _ _ _ => trivial)⟩⟩ rfl rfl hl.1 rfl (lv_room (Nat.le_of_ble_eq_true rfl)) d_M_isSafe_64 ⟨Nat.le_of_ble_eq_true rfl, Nat.le_of_ble_eq_true rfl⟩) hS (fun q _ h => hFc q h) hFc (fun r8 u9 t H1 locs ht hvm hw hB hz1 hk1 hS => ?_)
                obtain ⟨hP1, hK1, hD1⟩ := hB
                rw [ht] at hP1
                try dsimp only at hw
                obtain ⟨hP, hD⟩ := va_join (wr := []) (w1 := wM h cI cZ (nI 0) (nI nF) (nI nC) (nI ((gA nC cf ct aK rj K).length)) aP (fun c => nI (cf c)) (fun c => nI (ct c)) aK bF9 bL9 bB9 bA9 bY9 bR oT oO oR bS) hP hD [0, 1, 2, 3, 4, 5, 6, 7, 8, 9, 10, 11, 12, 13, 14] [] rfl rfl (by decide) (by decide) hk1 hFc hP1 hD1
                generalize H1 = H at hP hS ⊢
                have hP : va_P (dC, dI) kls (wM h cI cZ (nI 0) (nI nF) (nI nC) (nI ((gA nC cf ct aK rj K).length)) aP (fun c => nI (cf c)) (fun c => nI (ct c)) aK bF9 bL9 bB9 bA9 bY9 bR oT oO oR bS) H := hP
                have hD : va_D A (wM h cI cZ (nI 0) (nI nF) (nI nC) (nI ((gA nC cf ct aK rj K).length)) aP (fun c => nI (cf c)) (fun c => nI (ct c)) aK bF9 bL9 bB9 bA9 bY9 bR oT oO oR bS) := hD
                rcases hw with ⟨hr9, hfall⟩ | ⟨hr9, hfall⟩
                · subst hr9
                  refine lv_if_eq (tgt := 74) hx hb d_M_isSafe_67 (by decide) (fun c9 => absurd c9 (by decide +kernel)) (fun _ => ?_)
                  refine lv_iconst (v := nI 1) hx hb d_M_isSafe_70 (by decide +kernel) ?_
                  refine lv_goto (tgt := 75) hx hb d_M_isSafe_71 (by decide) ?_
                  refine lv_istore_n (lv' := [(3, .int (nI 1)), (0, .ref (h 0)), (1, .int (nI i1)), (2, .int (nI (rcN nC cf ct i1 nF ||| 2 ^ i1))), (4, .int (nI k))]) hx hb d_M_isSafe_75 rfl hl (by decide) rfl (fun ls hl => ?_)
                  refine lv_iinc (v := nI (k + 1)) (lv' := [(4, .int (nI (k + 1))), (3, .int (nI 1)), (0, .ref (h 0)), (1, .int (nI i1)), (2, .int (nI (rcN nC cf ct i1 nF ||| 2 ^ i1)))]) hx hb d_M_isSafe_76 hl (k := 4) rfl (nI_add k 1) (by decide) rfl (fun ls hl => ?_)
                  refine lv_goto (tgt := 38) hx hb d_M_isSafe_79 (by decide) ?_
                  have htk : (rcN nC cf ct i1 nF ||| 2 ^ i1).testBit k = true := by cases hb9 : (rcN nC cf ct i1 nF ||| 2 ^ i1).testBit k; rw [hb9] at c_54; exact absurd c_54 (by decide); rfl
                  have hb3 : (1 = 1 ∧ ∀ g, g < k + 1 → (rcN nC cf ct i1 nF ||| 2 ^ i1).testBit g = true → ∀ en ∈ gA nC cf ct aK rj K, ¬ (en.1 = g ∧ en.2.1 = g ∧ badX en.2.2.1)) ∨ (1 = 0 ∧ ∃ g, g < nF ∧ (rcN nC cf ct i1 nF ||| 2 ^ i1).testBit g = true ∧ ∃ en ∈ gA nC cf ct aK rj K, en.1 = g ∧ en.2.1 = g ∧ badX en.2.2.1) := by
                    refine Or.inl ⟨rfl, fun g hg ht => ?_⟩
                    rcases hb2 with ⟨-, h2⟩ | ⟨h0, -⟩
                    · rcases Nat.lt_or_ge g k with q | q
                      · exact h2 g q ht
                      · obtain rfl : g = k := by omega
                        exact hfall
                    · exact absurd h0 c_58
                  exact ih_lp (k + 1) 1 (by omega) (hb3) (by omega) _ _ _ hP hD hS (lv_sub hl [2, 3, 4, 1, 0] rfl)
                · subst hr9
                  refine lv_if_eq (tgt := 74) hx hb d_M_isSafe_67 (by decide) (fun _ => ?_) (fun c9 => absurd c9 (by decide +kernel))
                  refine lv_iconst (v := nI 0) hx hb d_M_isSafe_74 (by decide +kernel) ?_
                  refine lv_istore_n (lv' := [(3, .int (nI 0)), (0, .ref (h 0)), (1, .int (nI i1)), (2, .int (nI (rcN nC cf ct i1 nF ||| 2 ^ i1))), (4, .int (nI k))]) hx hb d_M_isSafe_75 rfl hl (by decide) rfl (fun ls hl => ?_)
                  refine lv_iinc (v := nI (k + 1)) (lv' := [(4, .int (nI (k + 1))), (3, .int (nI 0)), (0, .ref (h 0)), (1, .int (nI i1)), (2, .int (nI (rcN nC cf ct i1 nF ||| 2 ^ i1)))]) hx hb d_M_isSafe_76 hl (k := 4) rfl (nI_add k 1) (by decide) rfl (fun ls hl => ?_)
                  refine lv_goto (tgt := 38) hx hb d_M_isSafe_79 (by decide) ?_
                  have htk : (rcN nC cf ct i1 nF ||| 2 ^ i1).testBit k = true := by cases hb9 : (rcN nC cf ct i1 nF ||| 2 ^ i1).testBit k; rw [hb9] at c_54; exact absurd c_54 (by decide); rfl
                  have hb3 : (0 = 1 ∧ ∀ g, g < k + 1 → (rcN nC cf ct i1 nF ||| 2 ^ i1).testBit g = true → ∀ en ∈ gA nC cf ct aK rj K, ¬ (en.1 = g ∧ en.2.1 = g ∧ badX en.2.2.1)) ∨ (0 = 0 ∧ ∃ g, g < nF ∧ (rcN nC cf ct i1 nF ||| 2 ^ i1).testBit g = true ∧ ∃ en ∈ gA nC cf ct aK rj K, en.1 = g ∧ en.2.1 = g ∧ badX en.2.2.1) := by
                    refine Or.inr ⟨rfl, ?_⟩
                    first
                      | exact ⟨k, by omega, htk, hfall⟩
                      | (rcases hb2 with ⟨h1, -⟩ | ⟨-, h0⟩
                         · omega
                         · exact h0)
                  exact ih_lp (k + 1) 0 (by omega) (hb3) (by omega) _ _ _ hP hD hS (lv_sub hl [2, 3, 4, 1, 0] rfl)
      exact lp _ 0 1 (Nat.zero_le _) (Or.inl ⟨rfl, fun g hg => absurd hg (Nat.not_lt_zero _)⟩) (Nat.lt_succ_self _) _ _ _ hP hD hS (lv_sub hl [3, 4, 2, 1, 0] rfl)
    · subst hr9
      subst hu9
      refine lv_if_eq (tgt := 23) hx hb d_M_isSafe_18 (by decide) (fun c9 => absurd c9 (by decide +kernel)) (fun _ => ?_)
      refine lv_iconst (v := nI 0) hx hb d_M_isSafe_21 (by decide +kernel) ?_
      exact W.zret (v := nI 0) (ty := .boolean) hx hb hr rfl (fun t ht hW => ⟨⟨nI 0, (nI 2, xg9, bF9, bL9, bB9, bA9, bY9), rfl, Or.inr ⟨i1, hi1, rfl, Or.inl ⟨hgt, rfl⟩⟩, by rw [ht]; exact hP, va_K.moved hW.alike hK, hD⟩, hS.F ht⟩) hS.2.2 d_M_isSafe_22
  · subst hr9
    refine lv_if_ne (tgt := 13) hx hb d_M_isSafe_6 (by decide) (fun c9 => absurd c9 (by decide +kernel)) (fun _ => ?_)
    refine lv_iconst (v := nI 1) hx hb d_M_isSafe_9 (by decide +kernel) ?_
    refine lv_goto (tgt := 14) hx hb d_M_isSafe_10 (by decide) ?_
    refine lv_iconst (v := nI 0) hx hb d_M_isSafe_14 (by decide +kernel) ?_
    have hFc := va_free (wc := wM h cI cZ xt (nI nF) (nI nC) xg aP (fun c => nI (cf c)) (fun c => nI (ct c)) aK bF bL bB bA bY bR oT oO oR bS) hD hS hA [0, 1, 2, 3, 4, 5, 6, 7, 8, 9, 10, 11, 12, 13, 14] rfl
    refine va_calli (va_runV (As := [.int (nI 1), .int (nI 0)]) (rest := []) ⟨hx, hb, hml, hown, hk⟩ (m_refused_o l dC dI cI cZ h H.size xt (nI nF) (nI nC) xg aP (fun c => nI (cf c)) (fun c => nI (ct c)) aK bF bL bB bA bY bR oT oO oR bS  ) (cwV 2 hk g_M_refused rfl rfl rfl (by decide +kernel) ⟨Nat.le_of_ble_eq_true rfl, Nat.le_of_ble_eq_true rfl⟩) ⟨fun a U g mk q => by obtain ⟨q0, q1, qP, qK, qD⟩ := q; exact ⟨q0, q1, qP, va_K.moved (u := U) (U := U.calling g mk a) (Vm.Alike.refl U.vm) qK, qD⟩, va_recv hK hP (ci := 0) (q0 := 0) rfl rfl, fun U hU hW => ⟨rfl, by rw [hU], by rw [hU]; exact hP, va_K.moved hW.alike hK, hD.weaken (fun _ _ _ _ => trivial)⟩⟩ rfl rfl hl.1 rfl (lv_room (Nat.le_of_ble_eq_true rfl)) d_M_isSafe_15 ⟨Nat.le_of_ble_eq_true rfl, Nat.le_of_ble_eq_true rfl⟩) hS (fun q _ h => hFc q h) hFc (fun r9 u9 t H1 locs ht hvm hw hB hz1 hk1 hS => ?_)
    obtain ⟨xt9, rfl⟩ : ∃ z, z = u9 := ⟨_, rfl⟩
    obtain ⟨hP1, hK1, hD1⟩ := hB
    rw [ht] at hP1
    try dsimp only at hw
    obtain ⟨hP, hD⟩ := va_join (wr := []) (w1 := wM h cI cZ xt9 (nI nF) (nI nC) xg aP (fun c => nI (cf c)) (fun c => nI (ct c)) aK bF bL bB bA bY bR oT oO oR bS) hP hD [0, 1, 2, 3, 4, 5, 6, 7, 8, 9, 10, 11, 12, 13, 14] [] rfl rfl (by decide) (by decide) hk1 hFc hP1 hD1
    generalize H1 = H at hP hS ⊢
    have hP : va_P (dC, dI) kls (wM h cI cZ xt9 (nI nF) (nI nC) xg aP (fun c => nI (cf c)) (fun c => nI (ct c)) aK bF bL bB bA bY bR oT oO oR bS) H := hP
    have hD : va_D A (wM h cI cZ xt9 (nI nF) (nI nC) xg aP (fun c => nI (cf c)) (fun c => nI (ct c)) aK bF bL bB bA bY bR oT oO oR bS) := hD
    obtain ⟨hr9, hu9⟩ := hw
    subst hr9
    subst hu9
    refine lv_if_eq (tgt := 23) hx hb d_M_isSafe_18 (by decide) (fun c9 => absurd c9 (by decide +kernel)) (fun _ => ?_)
    refine lv_iconst (v := nI 0) hx hb d_M_isSafe_21 (by decide +kernel) ?_
    exact W.zret (v := nI 0) (ty := .boolean) hx hb hr rfl (fun t ht hW => ⟨⟨nI 0, (nI 1, xg, bF, bL, bB, bA, bY), rfl, Or.inl ⟨hno_f, rfl⟩, by rw [ht]; exact hP, va_K.moved hW.alike hK, hD⟩, hS.F ht⟩) hS.2.2 d_M_isSafe_22
