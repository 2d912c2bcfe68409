def qFG (f g : Nat) : En → Bool := fun z => z.1 == f && z.2.1 == g
set_option maxHeartbeats 4000000 in
set_option maxRecDepth 100000 in
theorem m_refused_o (l : Launch) (dC : Nat → ClassId) (dI : Nat → Nat → Nat) (cI cZ : ClassId) (h : Nat → Nat) (sz : Nat) (xt xf xc xg : Int32) (aP aF aT aK bF bL bB bA bY bR oT oO oR bS : Nat → Int32) : Met l y_M_refused w_M_refused ({ frames := 3, cells := 0, slots := 0, locals := 74 }) (va_Pc [.ref (h 0), .int (nI 1), .int (nI 0)] (fun U => U.heap.size = sz ∧ va_P (dC, dI) kls (wM h cI cZ xt xf xc xg aP aF aT aK bF bL bB bA bY bR oT oO oR bS) U.heap ∧ va_K (dC, dI) kls (tyM cI cZ) U ∧ va_D (fun _ => True) (wM h cI cZ xt xf xc xg aP aF aT aK bF bL bB bA bY bR oT oO oR bS))) (va_Qi (fun (r : Int32) (u : Int32) => r = nI 1 ∧ u = nI 1) (fun (u : Int32) (t : State) => va_P (dC, dI) kls (wM h cI cZ u xf xc xg aP aF aT aK bF bL bB bA bY bR oT oO oR bS) t.heap ∧ va_K (dC, dI) kls (tyM cI cZ) t ∧ va_D (va_A (wM h cI cZ xt xf xc xg aP aF aT aK bF bL bB bA bY bR oT oO oR bS) sz) (wM h cI cZ u xf xc xg aP aF aT aK bF bL bB bA bY bR oT oO oR bS)) (va_A (wM h cI cZ xt xf xc xg aP aF aT aK bF bL bB bA bY bR oT oO oR bS) sz)) 0 0 (va_A (wM h cI cZ xt xf xc xg aP aF aT aK bF bL bB bA bY bR oT oO oR bS) sz) := by
  refine Met.ofW (cc := c_M_refused) (maxL := 3) (ret := (some .boolean)) (by decide) rfl ?_
  intro p e s m args below meth c s₁ B hml hv
  obtain ⟨rfl, hsz, hP, hK, hD0⟩ := hv
  have hx := B.exec
  have hb := B.bytes
  have hr := B.returns
  have hts := atoms_spec (ws := w_M_refused) B.pre
  have hk : ∀ w ∈ wMw, w.before _ s = true := fun w h => hts w (List.mem_cons_of_mem _ h)
  have hown : s.vm.findClass R_M = some m.cls := findClass_of_methodNamed B.named
  have hlocks := B.notSynchronized
  subst hsz
  have hD := hD0.self (sz := s.heap.size)
  generalize hAe : va_A (wM h cI cZ xt xf xc xg aP aF aT aK bF bL bB bA bY bR oT oO oR bS) s.heap.size = A at hD ⊢
  have hA : ∀ q : Nat, s.heap.size ≤ q → A q := fun q h => by rw [← hAe]; exact Or.inr h
  have hS : va_S A s.heap s.heap [] := va_S.rf
  have hl := lv_entry ([.ref (h 0), .int (nI 1), .int (nI 0)]) (n := 3) (Nat.le_of_ble_eq_true rfl)
  rw [lg_entry_eq]
  generalize (lg_sl ([.ref (h 0), .int (nI 1), .int (nI 0)]) ++ List.replicate (3 - (lg_sl ([.ref (h 0), .int (nI 1), .int (nI 0)])).length) Slot.unset).toArray = ls at hl ⊢
  have hl : lv_has ls 3 [(0, .ref (h 0)), (1, .int (nI 1)), (2, .int (nI 0))] := hl
  refine lv_aload_n hx hb d_M_refused_0 rfl (lv_at hl 0 rfl) ?_
  refine lv_iload_n hx hb d_M_refused_1 rfl (lv_at hl 1 rfl) ?_
  refine lv_if_eq (tgt := 9) hx hb d_M_refused_2 (by decide) (fun c9 => absurd c9 (by decide +kernel)) (fun _ => ?_)
  refine lv_iconst (v := nI 1) hx hb d_M_refused_5 (by decide +kernel) ?_
  refine lv_goto (tgt := 10) hx hb d_M_refused_6 (by decide) ?_
  refine va_put (D := (dC, dI)) (ci := 0) (v := .int (nI 1)) (ty := .int) (C := R_M) (T := F_M) (N := 18) hx hb hk k_M_f t_M t_M_ok n_M hown hK hP hD hS 0 rfl rfl 0 (by decide) (hk _ k_M_8) (fun _ h9 => h9) rfl (by decide +kernel) rfl rfl (Nat.le_of_ble_eq_true rfl) d_M_refused_10 (fun H locs hP hD hS => ?_)
  have hP : va_P (dC, dI) kls (wM h cI cZ (nI 1) xf xc xg aP aF aT aK bF bL bB bA bY bR oT oO oR bS) H := hP
  have hD : va_D A (wM h cI cZ (nI 1) xf xc xg aP aF aT aK bF bL bB bA bY bR oT oO oR bS) := hD
  refine lv_iload_n hx hb d_M_refused_13 rfl (lv_at hl 1 rfl) ?_
  refine lv_if_ne (tgt := 21) hx hb d_M_refused_14 (by decide) (fun _ => ?_) (fun c9 => absurd c9 (by decide +kernel))
  refine lv_iconst (v := nI 1) hx hb d_M_refused_21 (by decide +kernel) ?_
  exact W.zret (v := nI 1) (ty := .boolean) hx hb hr rfl (fun t ht hW => ⟨⟨nI 1, nI 1, rfl, ⟨rfl, rfl⟩, by rw [ht]; exact hP, va_K.moved hW.alike hK, hD⟩, hS.F ht⟩) hS.2.2 d_M_refused_22
set_option maxHeartbeats 4000000 in
set_option maxRecDepth 100000 in
theorem m_refused_n (l : Launch) (dC : Nat → ClassId) (dI : Nat → Nat → Nat) (cI cZ : ClassId) (h : Nat → Nat) (sz : Nat) (xt xf xc xg : Int32) (aP aF aT aK bF bL bB bA bY bR oT oO oR bS : Nat → Int32) : Met l y_M_refused w_M_refused ({ frames := 3, cells := 0, slots := 0, locals := 74 }) (va_Pc [.ref (h 0), .int (nI 0), .int (nI 1)] (fun U => U.heap.size = sz ∧ va_P (dC, dI) kls (wM h cI cZ xt xf xc xg aP aF aT aK bF bL bB bA bY bR oT oO oR bS) U.heap ∧ va_K (dC, dI) kls (tyM cI cZ) U ∧ va_D (fun _ => True) (wM h cI cZ xt xf xc xg aP aF aT aK bF bL bB bA bY bR oT oO oR bS))) (va_Qi (fun (r : Int32) (u : Int32) => r = nI 1 ∧ u = nI 0) (fun (u : Int32) (t : State) => va_P (dC, dI) kls (wM h cI cZ u xf xc xg aP aF aT aK bF bL bB bA bY bR oT oO oR bS) t.heap ∧ va_K (dC, dI) kls (tyM cI cZ) t ∧ va_D (va_A (wM h cI cZ xt xf xc xg aP aF aT aK bF bL bB bA bY bR oT oO oR bS) sz) (wM h cI cZ u xf xc xg aP aF aT aK bF bL bB bA bY bR oT oO oR bS)) (va_A (wM h cI cZ xt xf xc xg aP aF aT aK bF bL bB bA bY bR oT oO oR bS) sz)) 0 0 (va_A (wM h cI cZ xt xf xc xg aP aF aT aK bF bL bB bA bY bR oT oO oR bS) sz) := by
  refine Met.ofW (cc := c_M_refused) (maxL := 3) (ret := (some .boolean)) (by decide) rfl ?_
  intro p e s m args below meth c s₁ B hml hv
  obtain ⟨rfl, hsz, hP, hK, hD0⟩ := hv
  have hx := B.exec
  have hb := B.bytes
  have hr := B.returns
  have hts := atoms_spec (ws := w_M_refused) B.pre
  have hk : ∀ w ∈ wMw, w.before _ s = true := fun w h => hts w (List.mem_cons_of_mem _ h)
  have hown : s.vm.findClass R_M = some m.cls := findClass_of_methodNamed B.named
  have hlocks := B.notSynchronized
  subst hsz
  have hD := hD0.self (sz := s.heap.size)
  generalize hAe : va_A (wM h cI cZ xt xf xc xg aP aF aT aK bF bL bB bA bY bR oT oO oR bS) s.heap.size = A at hD ⊢
  have hA : ∀ q : Nat, s.heap.size ≤ q → A q := fun q h => by rw [← hAe]; exact Or.inr h
  have hS : va_S A s.heap s.heap [] := va_S.rf
  have hl := lv_entry ([.ref (h 0), .int (nI 0), .int (nI 1)]) (n := 3) (Nat.le_of_ble_eq_true rfl)
  rw [lg_entry_eq]
  generalize (lg_sl ([.ref (h 0), .int (nI 0), .int (nI 1)]) ++ List.replicate (3 - (lg_sl ([.ref (h 0), .int (nI 0), .int (nI 1)])).length) Slot.unset).toArray = ls at hl ⊢
  have hl : lv_has ls 3 [(0, .ref (h 0)), (1, .int (nI 0)), (2, .int (nI 1))] := hl
  refine lv_aload_n hx hb d_M_refused_0 rfl (lv_at hl 0 rfl) ?_
  refine lv_iload_n hx hb d_M_refused_1 rfl (lv_at hl 1 rfl) ?_
  refine lv_if_eq (tgt := 9) hx hb d_M_refused_2 (by decide) (fun _ => ?_) (fun c9 => absurd c9 (by decide +kernel))
  refine lv_iconst (v := nI 0) hx hb d_M_refused_9 (by decide +kernel) ?_
  refine va_put (D := (dC, dI)) (ci := 0) (v := .int (nI 0)) (ty := .int) (C := R_M) (T := F_M) (N := 18) hx hb hk k_M_f t_M t_M_ok n_M hown hK hP hD hS 0 rfl rfl 0 (by decide) (hk _ k_M_8) (fun _ h9 => h9) rfl (by decide +kernel) rfl rfl (Nat.le_of_ble_eq_true rfl) d_M_refused_10 (fun H locs hP hD hS => ?_)
  have hP : va_P (dC, dI) kls (wM h cI cZ (nI 0) xf xc xg aP aF aT aK bF bL bB bA bY bR oT oO oR bS) H := hP
  have hD : va_D A (wM h cI cZ (nI 0) xf xc xg aP aF aT aK bF bL bB bA bY bR oT oO oR bS) := hD
  refine lv_iload_n hx hb d_M_refused_13 rfl (lv_at hl 1 rfl) ?_
  refine lv_if_ne (tgt := 21) hx hb d_M_refused_14 (by decide) (fun c9 => absurd c9 (by decide +kernel)) (fun _ => ?_)
  refine lv_iload_n hx hb d_M_refused_17 rfl (lv_at hl 2 rfl) ?_
  refine lv_if_eq (tgt := 23) hx hb d_M_refused_18 (by decide) (fun c9 => absurd c9 (by decide +kernel)) (fun _ => ?_)
  refine lv_iconst (v := nI 1) hx hb d_M_refused_21 (by decide +kernel) ?_
  exact W.zret (v := nI 1) (ty := .boolean) hx hb hr rfl (fun t ht hW => ⟨⟨nI 1, nI 0, rfl, ⟨rfl, rfl⟩, by rw [ht]; exact hP, va_K.moved hW.alike hK, hD⟩, hS.F ht⟩) hS.2.2 d_M_refused_22
set_option maxHeartbeats 4000000 in
set_option maxRecDepth 100000 in
theorem m_refused (l : Launch) (dC : Nat → ClassId) (dI : Nat → Nat → Nat) (cI cZ : ClassId) (h : Nat → Nat) (sz : Nat) (xt xf xg : Int32) (aP aK bF bL bB bA bY bR oT oO oR bS : Nat → Int32) (nC K : Nat) (cf ct : Nat → Nat) (hC : nC ≤ 20) (hK8 : 801 ≤ K) (hS0 : ∀ c, c < nC → cf c < 16 ∧ ct c < 16) : Met l y_M_refused w_M_refused ({ frames := 3, cells := 0, slots := 0, locals := 74 }) (va_Pc [.ref (h 0), .int (nI 0), .int (nI 0)] (fun U => U.heap.size = sz ∧ va_P (dC, dI) kls (wM h cI cZ xt xf (nI nC) xg aP (fun c => nI (cf c)) (fun c => nI (ct c)) aK bF bL bB bA bY bR oT oO oR bS) U.heap ∧ va_K (dC, dI) kls (tyM cI cZ) U ∧ va_D (fun _ => True) (wM h cI cZ xt xf (nI nC) xg aP (fun c => nI (cf c)) (fun c => nI (ct c)) aK bF bL bB bA bY bR oT oO oR bS))) (va_Qi (fun (r : Int32) (u : Int32 × Int32 × (Nat → Int32) × (Nat → Int32) × (Nat → Int32) × (Nat → Int32) × (Nat → Int32)) => (r = nI 0 ∧ u.1 = nI 0 ∧ (gA nC cf ct aK rj K).length ≤ 800 ∧ u.2.1 = nI (gA nC cf ct aK rj K).length ∧ hE (gA nC cf ct aK rj K) u.2.2.1 u.2.2.2.1 u.2.2.2.2.1 u.2.2.2.2.2.1 u.2.2.2.2.2.2) ∨ (r = nI 1 ∧ u.1 = nI 2 ∧ 800 < (gA nC cf ct aK rj K).length)) (fun (u : Int32 × Int32 × (Nat → Int32) × (Nat → Int32) × (Nat → Int32) × (Nat → Int32) × (Nat → Int32)) (t : State) => va_P (dC, dI) kls (wM h cI cZ u.1 xf (nI nC) u.2.1 aP (fun c => nI (cf c)) (fun c => nI (ct c)) aK u.2.2.1 u.2.2.2.1 u.2.2.2.2.1 u.2.2.2.2.2.1 u.2.2.2.2.2.2 bR oT oO oR bS) t.heap ∧ va_K (dC, dI) kls (tyM cI cZ) t ∧ va_D (va_A (wM h cI cZ xt xf (nI nC) xg aP (fun c => nI (cf c)) (fun c => nI (ct c)) aK bF bL bB bA bY bR oT oO oR bS) sz) (wM h cI cZ u.1 xf (nI nC) u.2.1 aP (fun c => nI (cf c)) (fun c => nI (ct c)) aK u.2.2.1 u.2.2.2.1 u.2.2.2.2.1 u.2.2.2.2.2.1 u.2.2.2.2.2.2 bR oT oO oR bS)) (va_A (wM h cI cZ xt xf (nI nC) xg aP (fun c => nI (cf c)) (fun c => nI (ct c)) aK bF bL bB bA bY bR oT oO oR bS) sz)) 0 0 (va_A (wM h cI cZ xt xf (nI nC) xg aP (fun c => nI (cf c)) (fun c => nI (ct c)) aK bF bL bB bA bY bR oT oO oR bS) sz) := by
  refine Met.ofW (cc := c_M_refused) (maxL := 3) (ret := (some .boolean)) (by decide) rfl ?_
  intro p e s m args below meth c s₁ B hml hv
  obtain ⟨rfl, hsz, hP, hK, hD0⟩ := hv
  have hx := B.exec
  have hb := B.bytes
  have hr := B.returns
  have hts := atoms_spec (ws := w_M_refused) B.pre
  have hk : ∀ w ∈ wMw, w.before _ s = true := fun w h => hts w (List.mem_cons_of_mem _ h)
  have hown : s.vm.findClass R_M = some m.cls := findClass_of_methodNamed B.named
  have hlocks := B.notSynchronized
  subst hsz
  have hD := hD0.self (sz := s.heap.size)
  generalize hAe : va_A (wM h cI cZ xt xf (nI nC) xg aP (fun c => nI (cf c)) (fun c => nI (ct c)) aK bF bL bB bA bY bR oT oO oR bS) s.heap.size = A at hD ⊢
  have hA : ∀ q : Nat, s.heap.size ≤ q → A q := fun q h => by rw [← hAe]; exact Or.inr h
  have hS : va_S A s.heap s.heap [] := va_S.rf
  have hl := lv_entry ([.ref (h 0), .int (nI 0), .int (nI 0)]) (n := 3) (Nat.le_of_ble_eq_true rfl)
  rw [lg_entry_eq]
  generalize (lg_sl ([.ref (h 0), .int (nI 0), .int (nI 0)]) ++ List.replicate (3 - (lg_sl ([.ref (h 0), .int (nI 0), .int (nI 0)])).length) Slot.unset).toArray = ls at hl ⊢
  have hl : lv_has ls 3 [(0, .ref (h 0)), (1, .int (nI 0)), (2, .int (nI 0))] := hl
  refine lv_aload_n hx hb d_M_refused_0 rfl (lv_at hl 0 rfl) ?_
  refine lv_iload_n hx hb d_M_refused_1 rfl (lv_at hl 1 rfl) ?_
  refine lv_if_eq (tgt := 9) hx hb d_M_refused_2 (by decide) (fun _ => ?_) (fun c9 => absurd c9 (by decide +kernel))
  refine lv_iconst (v := nI 0) hx hb d_M_refused_9 (by decide +kernel) ?_
  refine va_put (D := (dC, dI)) (ci := 0) (v := .int (nI 0)) (ty := .int) (C := R_M) (T := F_M) (N := 18) hx hb hk k_M_f t_M t_M_ok n_M hown hK hP hD hS 0 rfl rfl 0 (by decide) (hk _ k_M_8) (fun _ h9 => h9) rfl (by decide +kernel) rfl rfl (Nat.le_of_ble_eq_true rfl) d_M_refused_10 (fun H locs hP hD hS => ?_)
  have hP : va_P (dC, dI) kls (wM h cI cZ (nI 0) xf (nI nC) xg aP (fun c => nI (cf c)) (fun c => nI (ct c)) aK bF bL bB bA bY bR oT oO oR bS) H := hP
  have hD : va_D A (wM h cI cZ (nI 0) xf (nI nC) xg aP (fun c => nI (cf c)) (fun c => nI (ct c)) aK bF bL bB bA bY bR oT oO oR bS) := hD
  refine lv_iload_n hx hb d_M_refused_13 rfl (lv_at hl 1 rfl) ?_
  refine lv_if_ne (tgt := 21) hx hb d_M_refused_14 (by decide) (fun c9 => absurd c9 (by decide +kernel)) (fun _ => ?_)
  refine lv_iload_n hx hb d_M_refused_17 rfl (lv_at hl 2 rfl) ?_
  refine lv_if_eq (tgt := 23) hx hb d_M_refused_18 (by decide) (fun _ => ?_) (fun c9 => absurd c9 (by decide +kernel))
  refine lv_aload_n hx hb d_M_refused_23 rfl (lv_at hl 0 rfl) ?_
  refine lv_iconst (v := (-1)) hx hb d_M_refused_24 (by decide +kernel) ?_
  have hFc := va_free (wc := wM h cI cZ (nI 0) xf (nI nC) xg aP (fun c => nI (cf c)) (fun c => nI (ct c)) aK bF bL bB bA bY bR oT oO oR bS) hD hS hA [0, 1, 2, 3, 4, 5, 6, 7, 8, 9, 10, 11, 12, 13, 14] rfl
  refine va_calli (va_runV (As := [.int (-1)]) (rest := []) ⟨hx, hb, hml, hown, hk⟩ (m_find l dC dI cI cZ h H.size (nI 0) xf xg aP aK bF bL bB bA bY bR oT oO oR bS nC K cf ct (fun _ => true) (-1) (hC) (hK8) (hS0) (fun _ _ => ⟨fun _ => Or.inl rfl, fun _ => rfl⟩)) (cwV 1 hk g_M_find rfl rfl rfl (by decide +kernel) ⟨Nat.le_of_ble_eq_true rfl, Nat.le_of_ble_eq_true rfl⟩) ⟨fun a U g mk q => by obtain ⟨q0, q1, qP, qK, qD⟩ := q; exact ⟨q0, q1, qP, va_K.moved (u := U) (U := U.calling g mk a) (Vm.Alike.refl U.vm) qK, qD⟩, va_recv hK hP (ci := 0) (q0 := 0) rfl rfl, fun U hU hW => ⟨rfl, by rw [hU], by rw [hU]; exact hP, va_K.moved hW.alike hK, hD.weaken (fun _ _ _ _ => trivial)⟩⟩ rfl rfl hl.1 rfl (lv_room (Nat.le_of_ble_eq_true rfl)) d_M_refused_25 ⟨Nat.le_of_ble_eq_true rfl, Nat.le_of_ble_eq_true rfl⟩) hS (fun q _ h => hFc q h) hFc (fun r1 u9 t H1 locs ht hvm hw hB hz1 hk1 hS => ?_)
  obtain ⟨xg9, bF9, bL9, bB9, bA9, bY9⟩ := u9
  obtain ⟨hP1, hK1, hD1⟩ := hB
  rw [ht] at hP1
  try dsimp only at hw
  obtain ⟨hP, hD⟩ := va_join (wr := []) (w1 := wM h cI cZ (nI 0) xf (nI nC) xg9 aP (fun c => nI (cf c)) (fun c => nI (ct c)) aK bF9 bL9 bB9 bA9 bY9 bR oT oO oR bS) hP hD [0, 1, 2, 3, 4, 5, 6, 7, 8, 9, 10, 11, 12, 13, 14] [] rfl rfl (by decide) (by decide) hk1 hFc hP1 hD1
  generalize H1 = H at hP hS ⊢
  have hP : va_P (dC, dI) kls (wM h cI cZ (nI 0) xf (nI nC) xg9 aP (fun c => nI (cf c)) (fun c => nI (ct c)) aK bF9 bL9 bB9 bA9 bY9 bR oT oO oR bS) H := hP
  have hD : va_D A (wM h cI cZ (nI 0) xf (nI nC) xg9 aP (fun c => nI (cf c)) (fun c => nI (ct c)) aK bF9 bL9 bB9 bA9 bY9 bR oT oO oR bS) := hD
  rcases hw with ⟨hr9, hle, hg9, hE9⟩ | ⟨hr9, hgt⟩
  · subst hr9
    subst hg9
    have hle : (gA nC cf ct aK rj K).length ≤ 800 := hle
    have hE9 : hE (gA nC cf ct aK rj K) bF9 bL9 bB9 bA9 bY9 := hE9
    refine lv_if_ne (tgt := 36) hx hb d_M_refused_28 (by decide) (fun _ => ?_) (fun c9 => absurd c9 (by decide +kernel))
    refine lv_aload_n hx hb d_M_refused_36 rfl (lv_at hl 0 rfl) ?_
    refine va_get (D := (dC, dI)) (ci := 0) (v := .int (nI 0)) (C := R_M) (T := F_M) (N := 18) hx hb hk k_M_f hown hK hP 0 rfl rfl 0 (by decide) (hk _ k_M_8) (fun _ h9 => h9) rfl d_M_refused_37 ?_
    refine lv_if_le (tgt := 47) hx hb d_M_refused_40 (by decide) (fun _ => ?_) (fun c9 => absurd c9 (by decide +kernel))
    refine lv_iconst (v := nI 0) hx hb d_M_refused_47 (by decide +kernel) ?_
    exact W.zret (v := nI 0) (ty := .boolean) hx hb hr rfl (fun t ht hW => ⟨⟨nI 0, (nI 0, nI (gA nC cf ct aK rj K).length, bF9, bL9, bB9, bA9, bY9), rfl, Or.inl ⟨rfl, rfl, hle, rfl, hE9⟩, by rw [ht]; exact hP, va_K.moved hW.alike hK, hD⟩, hS.F ht⟩) hS.2.2 d_M_refused_48
  · subst hr9
    have hgt : 800 < (gA nC cf ct aK rj K).length := hgt
    refine lv_if_ne (tgt := 36) hx hb d_M_refused_28 (by decide) (fun c9 => absurd c9 (by decide +kernel)) (fun _ => ?_)
    refine lv_aload_n hx hb d_M_refused_31 rfl (lv_at hl 0 rfl) ?_
    refine lv_iconst (v := nI 2) hx hb d_M_refused_32 (by decide +kernel) ?_
    refine va_put (D := (dC, dI)) (ci := 0) (v := .int (nI 2)) (ty := .int) (C := R_M) (T := F_M) (N := 18) hx hb hk k_M_f t_M t_M_ok n_M hown hK hP hD hS 0 rfl rfl 0 (by decide) (hk _ k_M_8) (fun _ h9 => h9) rfl (by decide +kernel) rfl rfl (Nat.le_of_ble_eq_true rfl) d_M_refused_33 (fun H locs hP hD hS => ?_)
    have hP : va_P (dC, dI) kls (wM h cI cZ (nI 2) xf (nI nC) xg9 aP (fun c => nI (cf c)) (fun c => nI (ct c)) aK bF9 bL9 bB9 bA9 bY9 bR oT oO oR bS) H := hP
    have hD : va_D A (wM h cI cZ (nI 2) xf (nI nC) xg9 aP (fun c => nI (cf c)) (fun c => nI (ct c)) aK bF9 bL9 bB9 bA9 bY9 bR oT oO oR bS) := hD
    refine lv_aload_n hx hb d_M_refused_36 rfl (lv_at hl 0 rfl) ?_
    refine va_get (D := (dC, dI)) (ci := 0) (v := .int (nI 2)) (C := R_M) (T := F_M) (N := 18) hx hb hk k_M_f hown hK hP 0 rfl rfl 0 (by decide) (hk _ k_M_8) (fun _ h9 => h9) rfl d_M_refused_37 ?_
    refine lv_if_le (tgt := 47) hx hb d_M_refused_40 (by decide) (fun c9 => absurd c9 (by decide +kernel)) (fun _ => ?_)
    refine lv_iconst (v := nI 1) hx hb d_M_refused_43 (by decide +kernel) ?_
    refine lv_goto (tgt := 48) hx hb d_M_refused_44 (by decide) ?_
    exact W.zret (v := nI 1) (ty := .boolean) hx hb hr rfl (fun t ht hW => ⟨⟨nI 1, (nI 2, xg9, bF9, bL9, bB9, bA9, bY9), rfl, Or.inr ⟨rfl, rfl, hgt⟩, by rw [ht]; exact hP, va_K.moved hW.alike hK, hD⟩, hS.F ht⟩) hS.2.2 d_M_refused_48
set_option maxHeartbeats 4000000 in
set_option maxRecDepth 100000 in
theorem m_between (l : Launch) (dC : Nat → ClassId) (dI : Nat → Nat → Nat) (cI cZ : ClassId) (h : Nat → Nat) (sz : Nat) (xt xf xc : Int32) (aP aF aT aK bF bL bB bA bY bR oT oO oR bS : Nat → Int32) (es : List En) (f g : Nat) (hL : es.length ≤ 801) (hE0 : hE es bF bL bB bA bY) (hs : smE es) (hf : f < 16) (hg : g < 16) : Met l y_M_between w_M_between ({ frames := 0, cells := 0, slots := 0, locals := 0 }) (va_Pc [.ref (h 0), .int (nI f), .int (nI g)] (fun U => U.heap.size = sz ∧ va_P (dC, dI) kls (wM h cI cZ xt xf xc (nI es.length) aP aF aT aK bF bL bB bA bY bR oT oO oR bS) U.heap ∧ va_K (dC, dI) kls (tyM cI cZ) U ∧ va_D (fun _ => True) (wM h cI cZ xt xf xc (nI es.length) aP aF aT aK bF bL bB bA bY bR oT oO oR bS))) (va_Qi (fun (r : Int32) (u : Unit) => r = nI (es.countP (qFG f g))) (fun (u : Unit) (t : State) => va_P (dC, dI) kls (wM h cI cZ xt xf xc (nI es.length) aP aF aT aK bF bL bB bA bY bR oT oO oR bS) t.heap ∧ va_K (dC, dI) kls (tyM cI cZ) t ∧ va_D (va_A (wM h cI cZ xt xf xc (nI es.length) aP aF aT aK bF bL bB bA bY bR oT oO oR bS) sz) (wM h cI cZ xt xf xc (nI es.length) aP aF aT aK bF bL bB bA bY bR oT oO oR bS)) (va_A (wM h cI cZ xt xf xc (nI es.length) aP aF aT aK bF bL bB bA bY bR oT oO oR bS) sz)) 0 0 (va_A (wM h cI cZ xt xf xc (nI es.length) aP aF aT aK bF bL bB bA bY bR oT oO oR bS) sz) := by
  refine Met.ofW (cc := c_M_between) (maxL := 5) (ret := (some .int)) (by decide) rfl ?_
  intro p e s m args below meth c s₁ B hml hv
  obtain ⟨rfl, hsz, hP, hK, hD0⟩ := hv
  have hx := B.exec
  have hb := B.bytes
  have hr := B.returns
  have hts := atoms_spec (ws := w_M_between) B.pre
  have hk : ∀ w ∈ wMw, w.before _ s = true := fun w h => hts w (List.mem_cons_of_mem _ h)
  have hown : s.vm.findClass R_M = some m.cls := findClass_of_methodNamed B.named
  have hlocks := B.notSynchronized
  subst hsz
  have hD := hD0.self (sz := s.heap.size)
  generalize hAe : va_A (wM h cI cZ xt xf xc (nI es.length) aP aF aT aK bF bL bB bA bY bR oT oO oR bS) s.heap.size = A at hD ⊢
  have hA : ∀ q : Nat, s.heap.size ≤ q → A q := fun q h => by rw [← hAe]; exact Or.inr h
  have hS : va_S A s.heap s.heap [] := va_S.rf
  have hl := lv_entry ([.ref (h 0), .int (nI f), .int (nI g)]) (n := 5) (Nat.le_of_ble_eq_true rfl)
  rw [lg_entry_eq]
  generalize (lg_sl ([.ref (h 0), .int (nI f), .int (nI g)]) ++ List.replicate (5 - (lg_sl ([.ref (h 0), .int (nI f), .int (nI g)])).length) Slot.unset).toArray = ls at hl ⊢
  have hl : lv_has ls 5 [(0, .ref (h 0)), (1, .int (nI f)), (2, .int (nI g))] := hl
  refine lv_iconst (v := nI 0) hx hb d_M_between_0 (by decide +kernel) ?_
  refine lv_istore_n (lv' := [(3, .int (nI 0)), (0, .ref (h 0)), (1, .int (nI f)), (2, .int (nI g))]) hx hb d_M_between_1 rfl hl (by decide) rfl (fun ls hl => ?_)
  refine lv_iconst (v := nI 0) hx hb d_M_between_2 (by decide +kernel) ?_
  refine lv_istore (lv' := [(4, .int (nI 0)), (3, .int (nI 0)), (0, .ref (h 0)), (1, .int (nI f)), (2, .int (nI g))]) hx hb d_M_between_3 hl (by decide) rfl (fun ls hl => ?_)
  have lp : ∀ (n_lp : Nat) (k : Nat), (k ≤ es.length) → es.length - k < n_lp → ∀ (H : Heap) (locs : List Loc) (ls : Array Slot), va_P (dC, dI) kls (wM h cI cZ xt xf xc (nI es.length) aP aF aT aK bF bL bB bA bY bR oT oO oR bS) H → va_D A (wM h cI cZ xt xf xc (nI es.length) aP aF aT aK bF bL bB bA bY bR oT oO oR bS) → va_S A s.heap H locs → lv_has ls 5 [(0, .ref (h 0)), (1, .int (nI f)), (2, .int (nI g)), (3, .int (nI ((es.take k).countP (qFG f g)))), (4, .int (nI k))] → W p l e (headSpec w_M_between ({ frames := 0, cells := 0, slots := 0, locals := 0 })).room s m ([.ref (h 0), .int (nI f), .int (nI g)]).toArray below meth c H locs 0 0 (MQ below (va_Qi (fun (r : Int32) (u : Unit) => r = nI (es.countP (qFG f g))) (fun (u : Unit) (t : State) => va_P (dC, dI) kls (wM h cI cZ xt xf xc (nI es.length) aP aF aT aK bF bL bB bA bY bR oT oO oR bS) t.heap ∧ va_K (dC, dI) kls (tyM cI cZ) t ∧ va_D (A) (wM h cI cZ xt xf xc (nI es.length) aP aF aT aK bF bL bB bA bY bR oT oO oR bS)) A) ([.ref (h 0), .int (nI f), .int (nI g)]).toArray s 0 0 A) (F0 m 5 ls []) := by
    intro n_lp
    induction n_lp with
    | zero => intro k hk0 hn; exact absurd hn (Nat.not_lt_zero _)
    | succ n_lp ih_lp =>
      intro k hk0 hn H locs ls hP hD hS hl
      refine lv_iload hx hb d_M_between_5 (lv_at hl 4 rfl) ?_
      refine lv_aload_n hx hb d_M_between_7 rfl (lv_at hl 0 rfl) ?_
      refine va_get (D := (dC, dI)) (ci := 0) (v := .int (nI es.length)) (C := R_M) (T := F_M) (N := 18) hx hb hk k_M_f hown hK hP 0 rfl rfl 7 (by decide) (hk _ k_M_15) (fun _ h9 => h9) rfl d_M_between_8 ?_
      refine lv_icmp_ge (tgt := 50) hx hb d_M_between_11 (by decide) (fun c_11 => ?_) (fun c_11 => ?_)
      · have c_11 : es.length ≤ k := (nI_leI (a := es.length) (b := k) (by omega) (by omega)).mp c_11
        have hke : es.take k = es := List.take_of_length_le (by omega)
        rw [hke] at hl
        refine lv_iload_n hx hb d_M_between_50 rfl (lv_at hl 3 rfl) ?_
        exact W.iret (v := nI (es.countP (qFG f g))) hx hb hr (fun t ht hW => ⟨⟨nI (es.countP (qFG f g)), (), rfl, rfl, by rw [ht]; exact hP, va_K.moved hW.alike hK, hD⟩, hS.F ht⟩) hS.2.2 d_M_between_51
      · have c_11 : ¬ es.length ≤ k := fun z9 => c_11 ((nI_leI (a := es.length) (b := k) (by omega) (by omega)).mpr z9)
        obtain ⟨en, hen⟩ : ∃ en, es[k]? = some en := ⟨_, List.getElem?_eq_getElem (by omega)⟩
        obtain ⟨q1, q2, -, -, -⟩ := hE0 k en hen
        have hsn := hs en (List.mem_of_getElem? hen)
        have hcn := cnt_next (qFG f g) hen
        refine lv_iload_n hx hb d_M_between_14 rfl (lv_at hl 3 rfl) ?_
        refine lv_aload_n hx hb d_M_between_15 rfl (lv_at hl 0 rfl) ?_
        refine va_get (D := (dC, dI)) (ci := 0) (v := .ref (h 5)) (C := R_M) (T := F_M) (N := 18) hx hb hk k_M_f hown hK hP 0 rfl rfl 8 (by decide) (hk _ k_M_16) (fun _ h9 => h9) rfl d_M_between_16 ?_
        refine lv_iload hx hb d_M_between_19 (lv_at hl 4 rfl) ?_
        refine va_iald hx hb hK hP 5 0 rfl rfl (pk_in k 801 (by omega)) d_M_between_21 ?_
        refine lv_topi (fun z1 ez1 => ?_)
        obtain rfl : z1 = nI en.1 := ez1.trans ((rd (f := bF) (k := k) (by omega)).trans q1)
        refine lv_iload_n hx hb d_M_between_22 rfl (lv_at hl 1 rfl) ?_
        refine lv_icmp_ne (tgt := 41) hx hb d_M_between_23 (by decide) (fun c_23 => ?_) (fun c_23 => ?_)
        · have c_23 : ¬ en.1 = f := fun z9 => c_23 ((nI_eq (a := en.1) (b := f) (by omega) (by omega)).mpr z9)
          refine lv_iconst (v := nI 0) hx hb d_M_between_41 (by decide +kernel) ?_
          refine lv_iadd hx hb d_M_between_42 ?_
          refine lv_topi (fun z2 ez2 => ?_)
          obtain rfl : z2 = nI ((es.take k).countP (qFG f g)) := ez2.trans (nI_add _ _)
          refine lv_topi (fun z3 ez3 => ?_)
          obtain rfl : z3 = nI ((es.take (k + 1)).countP (qFG f g)) := ez3.trans (congrArg nI (by rw [hcn]; split <;> rename_i z9 <;> simp only [qFG, Bool.and_eq_true, beq_iff_eq] at z9 <;> omega))
          refine lv_istore_n (lv' := [(3, .int (nI ((es.take (k + 1)).countP (qFG f g)))), (0, .ref (h 0)), (1, .int (nI f)), (2, .int (nI g)), (4, .int (nI k))]) hx hb d_M_between_43 rfl hl (by decide) rfl (fun ls hl => ?_)
          refine lv_iinc (v := nI (k + 1)) (lv' := [(4, .int (nI (k + 1))), (3, .int (nI ((es.take (k + 1)).countP (qFG f g)))), (0, .ref (h 0)), (1, .int (nI f)), (2, .int (nI g))]) hx hb d_M_between_44 hl (k := 4) rfl (nI_add k 1) (by decide) rfl (fun ls hl => ?_)
          refine lv_goto (tgt := 5) hx hb d_M_between_47 (by decide) ?_
          exact ih_lp (k + 1) (by omega) (by omega) _ _ _ hP hD hS (lv_sub hl [2, 3, 4, 1, 0] rfl)
        · have c_23 : en.1 = f := (nI_eq (a := en.1) (b := f) (by omega) (by omega)).mp c_23
          refine lv_aload_n hx hb d_M_between_26 rfl (lv_at hl 0 rfl) ?_
          refine va_get (D := (dC, dI)) (ci := 0) (v := .ref (h 6)) (C := R_M) (T := F_M) (N := 18) hx hb hk k_M_f hown hK hP 0 rfl rfl 9 (by decide) (hk _ k_M_17) (fun _ h9 => h9) rfl d_M_between_27 ?_
          refine lv_iload hx hb d_M_between_30 (lv_at hl 4 rfl) ?_
          refine va_iald hx hb hK hP 6 0 rfl rfl (pk_in k 801 (by omega)) d_M_between_32 ?_
          refine lv_topi (fun z4 ez4 => ?_)
          obtain rfl : z4 = nI en.2.1 := ez4.trans ((rd (f := bL) (k := k) (by omega)).trans q2)
          refine lv_iload_n hx hb d_M_between_33 rfl (lv_at hl 2 rfl) ?_
          refine lv_icmp_ne (tgt := 41) hx hb d_M_between_34 (by decide) (fun c_34 => ?_) (fun c_34 => ?_)
          · have c_34 : ¬ en.2.1 = g := fun z9 => c_34 ((nI_eq (a := en.2.1) (b := g) (by omega) (by omega)).mpr z9)
            refine lv_iconst (v := nI 0) hx hb d_M_between_41 (by decide +kernel) ?_
            refine lv_iadd hx hb d_M_between_42 ?_
            refine lv_topi (fun z5 ez5 => ?_)
            obtain rfl : z5 = nI ((es.take k).countP (qFG f g)) := ez5.trans (nI_add _ _)
            refine lv_topi (fun z6 ez6 => ?_)
            obtain rfl : z6 = nI ((es.take (k + 1)).countP (qFG f g)) := ez6.trans (congrArg nI (by rw [hcn]; split <;> rename_i z9 <;> simp only [qFG, Bool.and_eq_true, beq_iff_eq] at z9 <;> omega))
            refine lv_istore_n (lv' := [(3, .int (nI ((es.take (k + 1)).countP (qFG f g)))), (0, .ref (h 0)), (1, .int (nI f)), (2, .int (nI g)), (4, .int (nI k))]) hx hb d_M_between_43 rfl hl (by decide) rfl (fun ls hl => ?_)
            refine lv_iinc (v := nI (k + 1)) (lv' := [(4, .int (nI (k + 1))), (3, .int (nI ((es.take (k + 1)).countP (qFG f g)))), (0, .ref (h 0)), (1, .int (nI f)), (2, .int (nI g))]) hx hb d_M_between_44 hl (k := 4) rfl (nI_add k 1) (by decide) rfl (fun ls hl => ?_)
            refine lv_goto (tgt := 5) hx hb d_M_between_47 (by decide) ?_
            exact ih_lp (k + 1) (by omega) (by omega) _ _ _ hP hD hS (lv_sub hl [2, 3, 4, 1, 0] rfl)
          · have c_34 : en.2.1 = g := (nI_eq (a := en.2.1) (b := g) (by omega) (by omega)).mp c_34
            refine lv_iconst (v := nI 1) hx hb d_M_between_37 (by decide +kernel) ?_
            refine lv_goto (tgt := 42) hx hb d_M_between_38 (by decide) ?_
            refine lv_iadd hx hb d_M_between_42 ?_
            refine lv_topi (fun z7 ez7 => ?_)
            obtain rfl : z7 = nI ((es.take k).countP (qFG f g) + 1) := ez7.trans (nI_add _ _)
            refine lv_topi (fun z8 ez8 => ?_)
            obtain rfl : z8 = nI ((es.take (k + 1)).countP (qFG f g)) := ez8.trans (congrArg nI (by rw [hcn]; split <;> rename_i z9 <;> simp only [qFG, Bool.and_eq_true, beq_iff_eq] at z9 <;> omega))
            refine lv_istore_n (lv' := [(3, .int (nI ((es.take (k + 1)).countP (qFG f g)))), (0, .ref (h 0)), (1, .int (nI f)), (2, .int (nI g)), (4, .int (nI k))]) hx hb d_M_between_43 rfl hl (by decide) rfl (fun ls hl => ?_)
            refine lv_iinc (v := nI (k + 1)) (lv' := [(4, .int (nI (k + 1))), (3, .int (nI ((es.take (k + 1)).countP (qFG f g)))), (0, .ref (h 0)), (1, .int (nI f)), (2, .int (nI g))]) hx hb d_M_between_44 hl (k := 4) rfl (nI_add k 1) (by decide) rfl (fun ls hl => ?_)
            refine lv_goto (tgt := 5) hx hb d_M_between_47 (by decide) ?_
            exact ih_lp (k + 1) (by omega) (by omega) _ _ _ hP hD hS (lv_sub hl [2, 3, 4, 1, 0] rfl)
  exact lp _ 0 (Nat.zero_le _) (Nat.lt_succ_self _) _ _ _ hP hD hS (lv_sub hl [2, 3, 4, 1, 0] rfl)
set_option maxHeartbeats 4000000 in
set_option maxRecDepth 100000 in
theorem m_isBad (l : Launch) (x : Int32) : Met l y_M_isBad w_M_isBad ({ frames := 2, cells := 0, slots := 0, locals := 51 }) (va_Pc [.int x] (fun _ => True)) (vp_Si (fun r => (r = nI 1 ∧ badX x) ∨ (r = nI 0 ∧ ¬ badX x))) 0 0 (fun _ => False) := by
  refine Met.ofW (cc := c_M_isBad) (maxL := 3) (ret := (some .boolean)) (by decide) rfl ?_
  intro p e s m args below meth c s₁ B hml hv
  obtain ⟨rfl, -⟩ := hv
  have hx := B.exec
  have hb := B.bytes
  have hr := B.returns
  have hts := atoms_spec (ws := w_M_isBad) B.pre
  have hk : ∀ w ∈ wMw, w.before _ s = true := fun w h => hts w (List.mem_cons_of_mem _ h)
  have hown : s.vm.findClass R_M = some m.cls := findClass_of_methodNamed B.named
  have hlocks := B.notSynchronized
  have hl := lv_entry ([.int x]) (n := 3) (Nat.le_of_ble_eq_true rfl)
  rw [lg_entry_eq]
  generalize (lg_sl ([.int x]) ++ List.replicate (3 - (lg_sl ([.int x])).length) Slot.unset).toArray = ls at hl ⊢
  have hl : lv_has ls 3 [(0, .int x)] := hl
  refine lv_iload_n hx hb d_M_isBad_0 rfl (lv_at hl 0 rfl) ?_
  refine lv_iload_n hx hb d_M_isBad_1 rfl (lv_at hl 0 rfl) ?_
  refine vp_callSi (W.runS (As := [.int x, .int x]) (rest := []) ⟨hx, hb, hml, hown, hk⟩ (m_joined l x x) (cwS 2 hk g_M_joined rfl rfl rfl (by decide +kernel) ⟨Nat.le_of_ble_eq_true rfl, Nat.le_of_ble_eq_true rfl⟩) ⟨fun a U g mk q => q, fun U hU hW => ⟨rfl, trivial⟩⟩ rfl rfl hl.1 rfl (lv_room (Nat.le_of_ble_eq_true rfl)) d_M_isBad_2 ⟨Nat.le_of_ble_eq_true rfl, Nat.le_of_ble_eq_true rfl⟩) (fun r1 hw => ?_)
  subst hw
  refine lv_iload_n hx hb d_M_isBad_5 rfl (lv_at hl 0 rfl) ?_
  refine lv_icmp_eq (tgt := 11) hx hb d_M_isBad_6 (by decide) (fun c_6 => ?_) (fun c_6 => ?_)
  · refine lv_iconst (v := nI 0) hx hb d_M_isBad_11 (by decide +kernel) ?_
    refine lv_istore_n (lv' := [(1, .int (nI 0)), (0, .int x)]) hx hb d_M_isBad_12 rfl hl (by decide) rfl (fun ls hl => ?_)
    refine lv_iconst (v := nI 0) hx hb d_M_isBad_13 (by decide +kernel) ?_
    refine lv_istore_n (lv' := [(2, .int (nI 0)), (1, .int (nI 0)), (0, .int x)]) hx hb d_M_isBad_14 rfl hl (by decide) rfl (fun ls hl => ?_)
    have lp : ∀ (n_lp : Nat) (i : Nat) (b : Nat), (i ≤ 4) → ((b = 1 ∧ ∃ j, j < i ∧ atN x j j = 2) ∨ (b = 0 ∧ ∀ j, j < i → atN x j j ≠ 2)) → 4 - i < n_lp → ∀ (ls : Array Slot), lv_has ls 3 [(0, .int x), (1, .int (nI b)), (2, .int (nI i))] → W p l e (headSpec w_M_isBad ({ frames := 2, cells := 0, slots := 0, locals := 51 })).room s m ([.int x]).toArray below meth c s.heap [] 0 0 (MQ below (vp_Si (fun r => (r = nI 1 ∧ badX x) ∨ (r = nI 0 ∧ ¬ badX x))) ([.int x]).toArray s 0 0 (fun _ => False)) (F0 m 15 ls []) := by
      intro n_lp
      induction n_lp with
      | zero => intro i b hi hb2 hn; exact absurd hn (Nat.not_lt_zero _)
      | succ n_lp ih_lp =>
        intro i b hi hb2 hn ls hl
        have hb9 : b < 2 := by rcases hb2 with ⟨h1, -⟩ | ⟨h0, -⟩ <;> omega
        refine lv_iload_n hx hb d_M_isBad_15 rfl (lv_at hl 2 rfl) ?_
        refine lv_iconst (v := nI 4) hx hb d_M_isBad_16 (by decide +kernel) ?_
        refine lv_icmp_ge (tgt := 46) hx hb d_M_isBad_17 (by decide) (fun c_17 => ?_) (fun c_17 => ?_)
        · have c_17 : 4 ≤ i := (nI_leI (a := 4) (b := i) (by omega) (by omega)).mp c_17
          refine lv_iload_n hx hb d_M_isBad_46 rfl (lv_at hl 1 rfl) ?_
          refine lv_if_ne (tgt := 54) hx hb d_M_isBad_47 (by decide) (fun c_47 => ?_) (fun c_47 => ?_)
          · have c_47 : ¬ b = 0 := fun z9 => c_47 ((nI_eq (a := b) (b := 0) (by omega) (by omega)).mpr z9)
            refine lv_iconst (v := nI 0) hx hb d_M_isBad_54 (by decide +kernel) ?_
            have hq : ¬ badX x := by
              rintro ⟨h1, h2⟩
              first
                | exact c_6 h1
                | (rcases hb2 with ⟨-, j, hj, h3⟩ | ⟨h0, -⟩
                   · exact h2 j (by omega) h3
                   · exact absurd h0 c_47)
            exact W.zret (v := nI 0) (ty := .boolean) hx hb hr rfl (fun t ht hW => ⟨nI 0, rfl, Or.inr ⟨rfl, hq⟩, ht⟩) (fun q h9 => absurd h9 List.not_mem_nil) d_M_isBad_55
          · have c_47 : b = 0 := (nI_eq (a := b) (b := 0) (by omega) (by omega)).mp c_47
            refine lv_iconst (v := nI 1) hx hb d_M_isBad_50 (by decide +kernel) ?_
            refine lv_goto (tgt := 55) hx hb d_M_isBad_51 (by decide) ?_
            have hq : ∀ j, j < 4 → atN x j j ≠ 2 := by
              rcases hb2 with ⟨h1, -⟩ | ⟨-, h0⟩
              · omega
              · exact fun j hj => h0 j (by omega)
            exact W.zret (v := nI 1) (ty := .boolean) hx hb hr rfl (fun t ht hW => ⟨nI 1, rfl, Or.inl ⟨rfl, c_6, hq⟩, ht⟩) (fun q h9 => absurd h9 List.not_mem_nil) d_M_isBad_55
        · have c_17 : ¬ 4 ≤ i := fun z9 => c_17 ((nI_leI (a := 4) (b := i) (by omega) (by omega)).mpr z9)
          refine lv_iload_n hx hb d_M_isBad_20 rfl (lv_at hl 1 rfl) ?_
          refine lv_if_ne (tgt := 34) hx hb d_M_isBad_21 (by decide) (fun c_21 => ?_) (fun c_21 => ?_)
          · have c_21 : ¬ b = 0 := fun z9 => c_21 ((nI_eq (a := b) (b := 0) (by omega) (by omega)).mpr z9)
            refine lv_iconst (v := nI 1) hx hb d_M_isBad_34 (by decide +kernel) ?_
            refine lv_goto (tgt := 39) hx hb d_M_isBad_35 (by decide) ?_
            refine lv_istore_n (lv' := [(1, .int (nI 1)), (0, .int x), (2, .int (nI i))]) hx hb d_M_isBad_39 rfl hl (by decide) rfl (fun ls hl => ?_)
            refine lv_iinc (v := nI (i + 1)) (lv' := [(2, .int (nI (i + 1))), (1, .int (nI 1)), (0, .int x)]) hx hb d_M_isBad_40 hl (k := 2) rfl (nI_add i 1) (by decide) rfl (fun ls hl => ?_)
            refine lv_goto (tgt := 15) hx hb d_M_isBad_43 (by decide) ?_
            have hb3 : (1 = 1 ∧ ∃ j, j < i + 1 ∧ atN x j j = 2) ∨ (1 = 0 ∧ ∀ j, j < i + 1 → atN x j j ≠ 2) := by
              refine Or.inl ⟨rfl, ?_⟩
              first
                | exact ⟨i, by omega, c_31⟩
                | (rcases hb2 with ⟨-, j, hj, h2⟩ | ⟨h0, -⟩
                   · exact ⟨j, by omega, h2⟩
                   · exact absurd h0 c_21)
            exact ih_lp (i + 1) 1 (by omega) (hb3) (by omega) _ (lv_sub hl [2, 1, 0] rfl)
          · have c_21 : b = 0 := (nI_eq (a := b) (b := 0) (by omega) (by omega)).mp c_21
            refine lv_iload_n hx hb d_M_isBad_24 rfl (lv_at hl 0 rfl) ?_
            refine lv_iload_n hx hb d_M_isBad_25 rfl (lv_at hl 2 rfl) ?_
            refine lv_iload_n hx hb d_M_isBad_26 rfl (lv_at hl 2 rfl) ?_
            have hat := atN_lt x i i
            refine vp_callSi (W.runS (As := [.int x, .int (nI i), .int (nI i)]) (rest := []) ⟨hx, hb, hml, hown, hk⟩ (m_at l x i i (by omega) (by omega)) (cwS 3 hk g_M_at rfl rfl rfl (by decide +kernel) ⟨Nat.le_of_ble_eq_true rfl, Nat.le_of_ble_eq_true rfl⟩) ⟨fun a U g mk q => q, fun U hU hW => ⟨rfl, trivial⟩⟩ rfl rfl hl.1 rfl (lv_room (Nat.le_of_ble_eq_true rfl)) d_M_isBad_27 ⟨Nat.le_of_ble_eq_true rfl, Nat.le_of_ble_eq_true rfl⟩) (fun r2 hw => ?_)
            subst hw
            refine lv_iconst (v := nI 2) hx hb d_M_isBad_30 (by decide +kernel) ?_
            refine lv_icmp_ne (tgt := 38) hx hb d_M_isBad_31 (by decide) (fun c_31 => ?_) (fun c_31 => ?_)
            · have c_31 : ¬ atN x i i = 2 := fun z9 => c_31 ((nI_eq (a := atN x i i) (b := 2) (by omega) (by omega)).mpr z9)
              refine lv_iconst (v := nI 0) hx hb d_M_isBad_38 (by decide +kernel) ?_
              refine lv_istore_n (lv' := [(1, .int (nI 0)), (0, .int x), (2, .int (nI i))]) hx hb d_M_isBad_39 rfl hl (by decide) rfl (fun ls hl => ?_)
              refine lv_iinc (v := nI (i + 1)) (lv' := [(2, .int (nI (i + 1))), (1, .int (nI 0)), (0, .int x)]) hx hb d_M_isBad_40 hl (k := 2) rfl (nI_add i 1) (by decide) rfl (fun ls hl => ?_)
              refine lv_goto (tgt := 15) hx hb d_M_isBad_43 (by decide) ?_
              have hb3 : (0 = 1 ∧ ∃ j, j < i + 1 ∧ atN x j j = 2) ∨ (0 = 0 ∧ ∀ j, j < i + 1 → atN x j j ≠ 2) := by
                refine Or.inr ⟨rfl, fun j hj => ?_⟩
                rcases hb2 with ⟨h1, -⟩ | ⟨-, h0⟩
                · omega
                · rcases Nat.lt_or_ge j i with q | q
                  · exact h0 j q
                  · obtain rfl : j = i := by omega
                    exact c_31
              exact ih_lp (i + 1) 0 (by omega) (hb3) (by omega) _ (lv_sub hl [2, 1, 0] rfl)
            · have c_31 : atN x i i = 2 := (nI_eq (a := atN x i i) (b := 2) (by omega) (by omega)).mp c_31
              refine lv_iconst (v := nI 1) hx hb d_M_isBad_34 (by decide +kernel) ?_
              refine lv_goto (tgt := 39) hx hb d_M_isBad_35 (by decide) ?_
              refine lv_istore_n (lv' := [(1, .int (nI 1)), (0, .int x), (2, .int (nI i))]) hx hb d_M_isBad_39 rfl hl (by decide) rfl (fun ls hl => ?_)
              refine lv_iinc (v := nI (i + 1)) (lv' := [(2, .int (nI (i + 1))), (1, .int (nI 1)), (0, .int x)]) hx hb d_M_isBad_40 hl (k := 2) rfl (nI_add i 1) (by decide) rfl (fun ls hl => ?_)
              refine lv_goto (tgt := 15) hx hb d_M_isBad_43 (by decide) ?_
              have hb3 : (1 = 1 ∧ ∃ j, j < i + 1 ∧ atN x j j = 2) ∨ (1 = 0 ∧ ∀ j, j < i + 1 → atN x j j ≠ 2) := by
                refine Or.inl ⟨rfl, ?_⟩
                first
                  | exact ⟨i, by omega, c_31⟩
                  | (rcases hb2 with ⟨-, j, hj, h2⟩ | ⟨h0, -⟩
                     · exact ⟨j, by omega, h2⟩
                     · exact absurd h0 c_21)
              exact ih_lp (i + 1) 1 (by omega) (hb3) (by omega) _ (lv_sub hl [2, 1, 0] rfl)
    exact lp _ 0 0 (Nat.zero_le _) (Or.inr ⟨rfl, fun j hj => absurd hj (Nat.not_lt_zero _)⟩) (Nat.lt_succ_self _) _ (lv_sub hl [2, 1, 0] rfl)
  · refine lv_iconst (v := nI 0) hx hb d_M_isBad_9 (by decide +kernel) ?_
    have hq : ¬ badX x := by
      rintro ⟨h1, h2⟩
      first
        | exact c_6 h1
        | (rcases hb2 with ⟨-, j, hj, h3⟩ | ⟨h0, -⟩
           · exact h2 j (by omega) h3
           · exact absurd h0 c_47)
    exact W.zret (v := nI 0) (ty := .boolean) hx hb hr rfl (fun t ht hW => ⟨nI 0, rfl, Or.inr ⟨rfl, hq⟩, ht⟩) (fun q h9 => absurd h9 List.not_mem_nil) d_M_isBad_10
set_option maxHeartbeats 4000000 in
set_option maxRecDepth 100000 in
theorem m_fallsAt (l : Launch) (dC : Nat → ClassId) (dI : Nat → Nat → Nat) (cI cZ : ClassId) (h : Nat → Nat) (sz : Nat) (xt xf xc : Int32) (aP aF aT aK bF bL bB bA bY bR oT oO oR bS : Nat → Int32) (es : List En) (f : Nat) (hL : es.length ≤ 801) (hE0 : hE es bF bL bB bA bY) (hs : smE es) (hf : f < 16) : Met l y_M_fallsAt w_M_fallsAt ({ frames := 3, cells := 0, slots := 0, locals := 73 }) (va_Pc [.ref (h 0), .int (nI f)] (fun U => U.heap.size = sz ∧ va_P (dC, dI) kls (wM h cI cZ xt xf xc (nI es.length) aP aF aT aK bF bL bB bA bY bR oT oO oR bS) U.heap ∧ va_K (dC, dI) kls (tyM cI cZ) U ∧ va_D (fun _ => True) (wM h cI cZ xt xf xc (nI es.length) aP aF aT aK bF bL bB bA bY bR oT oO oR bS))) (va_Qi (fun (r : Int32) (u : Unit) => (r = nI 1 ∧ ∀ en ∈ es, ¬ (en.1 = f ∧ en.2.1 = f ∧ badX en.2.2.1)) ∨ (r = nI 0 ∧ ∃ en ∈ es, en.1 = f ∧ en.2.1 = f ∧ badX en.2.2.1)) (fun (u : Unit) (t : State) => va_P (dC, dI) kls (wM h cI cZ xt xf xc (nI es.length) aP aF aT aK bF bL bB bA bY bR oT oO oR bS) t.heap ∧ va_K (dC, dI) kls (tyM cI cZ) t ∧ va_D (va_A (wM h cI cZ xt xf xc (nI es.length) aP aF aT aK bF bL bB bA bY bR oT oO oR bS) sz) (wM h cI cZ xt xf xc (nI es.length) aP aF aT aK bF bL bB bA bY bR oT oO oR bS)) (va_A (wM h cI cZ xt xf xc (nI es.length) aP aF aT aK bF bL bB bA bY bR oT oO oR bS) sz)) 0 0 (va_A (wM h cI cZ xt xf xc (nI es.length) aP aF aT aK bF bL bB bA bY bR oT oO oR bS) sz) := by
  refine Met.ofW (cc := c_M_fallsAt) (maxL := 4) (ret := (some .boolean)) (by decide) rfl ?_
  intro p e s m args below meth c s₁ B hml hv
  obtain ⟨rfl, hsz, hP, hK, hD0⟩ := hv
  have hx := B.exec
  have hb := B.bytes
  have hr := B.returns
  have hts := atoms_spec (ws := w_M_fallsAt) B.pre
  have hk : ∀ w ∈ wMw, w.before _ s = true := fun w h => hts w (List.mem_cons_of_mem _ h)
  have hown : s.vm.findClass R_M = some m.cls := findClass_of_methodNamed B.named
  have hlocks := B.notSynchronized
  subst hsz
  have hD := hD0.self (sz := s.heap.size)
  generalize hAe : va_A (wM h cI cZ xt xf xc (nI es.length) aP aF aT aK bF bL bB bA bY bR oT oO oR bS) s.heap.size = A at hD ⊢
  have hA : ∀ q : Nat, s.heap.size ≤ q → A q := fun q h => by rw [← hAe]; exact Or.inr h
  have hS : va_S A s.heap s.heap [] := va_S.rf
  have hl := lv_entry ([.ref (h 0), .int (nI f)]) (n := 4) (Nat.le_of_ble_eq_true rfl)
  rw [lg_entry_eq]
  generalize (lg_sl ([.ref (h 0), .int (nI f)]) ++ List.replicate (4 - (lg_sl ([.ref (h 0), .int (nI f)])).length) Slot.unset).toArray = ls at hl ⊢
  have hl : lv_has ls 4 [(0, .ref (h 0)), (1, .int (nI f))] := hl
  refine lv_iconst (v := nI 1) hx hb d_M_fallsAt_0 (by decide +kernel) ?_
  refine lv_istore_n (lv' := [(2, .int (nI 1)), (0, .ref (h 0)), (1, .int (nI f))]) hx hb d_M_fallsAt_1 rfl hl (by decide) rfl (fun ls hl => ?_)
  refine lv_iconst (v := nI 0) hx hb d_M_fallsAt_2 (by decide +kernel) ?_
  refine lv_istore_n (lv' := [(3, .int (nI 0)), (2, .int (nI 1)), (0, .ref (h 0)), (1, .int (nI f))]) hx hb d_M_fallsAt_3 rfl hl (by decide) rfl (fun ls hl => ?_)
  have lp : ∀ (n_lp : Nat) (k : Nat) (b : Nat), (k ≤ es.length) → ((b = 1 ∧ ∀ j en, j < k → es[j]? = some en → ¬ (en.1 = f ∧ en.2.1 = f ∧ badX en.2.2.1)) ∨ (b = 0 ∧ ∃ en ∈ es, en.1 = f ∧ en.2.1 = f ∧ badX en.2.2.1)) → es.length - k < n_lp → ∀ (H : Heap) (locs : List Loc) (ls : Array Slot), va_P (dC, dI) kls (wM h cI cZ xt xf xc (nI es.length) aP aF aT aK bF bL bB bA bY bR oT oO oR bS) H → va_D A (wM h cI cZ xt xf xc (nI es.length) aP aF aT aK bF bL bB bA bY bR oT oO oR bS) → va_S A s.heap H locs → lv_has ls 4 [(0, .ref (h 0)), (1, .int (nI f)), (2, .int (nI b)), (3, .int (nI k))] → W p l e (headSpec w_M_fallsAt ({ frames := 3, cells := 0, slots := 0, locals := 73 })).room s m ([.ref (h 0), .int (nI f)]).toArray below meth c H locs 0 0 (MQ below (va_Qi (fun (r : Int32) (u : Unit) => (r = nI 1 ∧ ∀ en ∈ es, ¬ (en.1 = f ∧ en.2.1 = f ∧ badX en.2.2.1)) ∨ (r = nI 0 ∧ ∃ en ∈ es, en.1 = f ∧ en.2.1 = f ∧ badX en.2.2.1)) (fun (u : Unit) (t : State) => va_P (dC, dI) kls (wM h cI cZ xt xf xc (nI es.length) aP aF aT aK bF bL bB bA bY bR oT oO oR bS) t.heap ∧ va_K (dC, dI) kls (tyM cI cZ) t ∧ va_D (A) (wM h cI cZ xt xf xc (nI es.length) aP aF aT aK bF bL bB bA bY bR oT oO oR bS)) A) ([.ref (h 0), .int (nI f)]).toArray s 0 0 A) (F0 m 4 ls []) := by
    intro n_lp
    induction n_lp with
    | zero => intro k b hk0 hb2 hn; exact absurd hn (Nat.not_lt_zero _)
    | succ n_lp ih_lp =>
      intro k b hk0 hb2 hn H locs ls hP hD hS hl
      have hb9 : b < 2 := by rcases hb2 with ⟨h1, -⟩ | ⟨h0, -⟩ <;> omega
      have hnb : narrow .boolean (.int (nI b)) = .int (nI b) := by rcases hb2 with ⟨rfl, -⟩ | ⟨rfl, -⟩ <;> rfl
      refine lv_iload_n hx hb d_M_fallsAt_4 rfl (lv_at hl 3 rfl) ?_
      refine lv_aload_n hx hb d_M_fallsAt_5 rfl (lv_at hl 0 rfl) ?_
      refine va_get (D := (dC, dI)) (ci := 0) (v := .int (nI es.length)) (C := R_M) (T := F_M) (N := 18) hx hb hk k_M_f hown hK hP 0 rfl rfl 7 (by decide) (hk _ k_M_15) (fun _ h9 => h9) rfl d_M_fallsAt_6 ?_
      refine lv_icmp_ge (tgt := 60) hx hb d_M_fallsAt_9 (by decide) (fun c_9 => ?_) (fun c_9 => ?_)
      · have c_9 : es.length ≤ k := (nI_leI (a := es.length) (b := k) (by omega) (by omega)).mp c_9
        refine lv_iload_n hx hb d_M_fallsAt_60 rfl (lv_at hl 2 rfl) ?_
        have hq : (nI b = nI 1 ∧ ∀ en ∈ es, ¬ (en.1 = f ∧ en.2.1 = f ∧ badX en.2.2.1)) ∨ (nI b = nI 0 ∧ ∃ en ∈ es, en.1 = f ∧ en.2.1 = f ∧ badX en.2.2.1) := by
          rcases hb2 with ⟨rfl, h1⟩ | ⟨rfl, h0⟩
          · refine Or.inl ⟨rfl, fun en hm => ?_⟩
            obtain ⟨j, hj⟩ := List.getElem?_of_mem hm
            exact h1 j en (by have := (List.getElem?_eq_some_iff.mp hj).1; omega) hj
          · exact Or.inr ⟨rfl, h0⟩
        exact W.zret (v := nI b) (ty := .boolean) hx hb hr hnb (fun t ht hW => ⟨⟨nI b, (), rfl, hq, by rw [ht]; exact hP, va_K.moved hW.alike hK, hD⟩, hS.F ht⟩) hS.2.2 d_M_fallsAt_61
      · have c_9 : ¬ es.length ≤ k := fun z9 => c_9 ((nI_leI (a := es.length) (b := k) (by omega) (by omega)).mpr z9)
        obtain ⟨en, hen⟩ : ∃ en, es[k]? = some en := ⟨_, List.getElem?_eq_getElem (by omega)⟩
        obtain ⟨q1, q2, q3, -, -⟩ := hE0 k en hen
        have hsn := hs en (List.mem_of_getElem? hen)
        refine lv_iload_n hx hb d_M_fallsAt_12 rfl (lv_at hl 2 rfl) ?_
        refine lv_if_eq (tgt := 52) hx hb d_M_fallsAt_13 (by decide) (fun c_13 => ?_) (fun c_13 => ?_)
        · have c_13 : b = 0 := (nI_eq (a := b) (b := 0) (by omega) (by omega)).mp c_13
          refine lv_iconst (v := nI 0) hx hb d_M_fallsAt_52 (by decide +kernel) ?_
          refine lv_istore_n (lv' := [(2, .int (nI 0)), (0, .ref (h 0)), (1, .int (nI f)), (3, .int (nI k))]) hx hb d_M_fallsAt_53 rfl hl (by decide) rfl (fun ls hl => ?_)
          refine lv_iinc (v := nI (k + 1)) (lv' := [(3, .int (nI (k + 1))), (2, .int (nI 0)), (0, .ref (h 0)), (1, .int (nI f))]) hx hb d_M_fallsAt_54 hl (k := 3) rfl (nI_add k 1) (by decide) rfl (fun ls hl => ?_)
          refine lv_goto (tgt := 4) hx hb d_M_fallsAt_57 (by decide) ?_
          have hb3 : (0 = 1 ∧ ∀ j en, j < k + 1 → es[j]? = some en → ¬ (en.1 = f ∧ en.2.1 = f ∧ badX en.2.2.1)) ∨ (0 = 0 ∧ ∃ en ∈ es, en.1 = f ∧ en.2.1 = f ∧ badX en.2.2.1) := by
            refine Or.inr ⟨rfl, ?_⟩
            first
              | exact ⟨en, List.mem_of_getElem? hen, c_23, c_33, hbad⟩
              | (rcases hb2 with ⟨h1, -⟩ | ⟨-, h0⟩
                 · omega
                 · exact h0)
          exact ih_lp (k + 1) 0 (by omega) (hb3) (by omega) _ _ _ hP hD hS (lv_sub hl [2, 3, 1, 0] rfl)
        · have c_13 : ¬ b = 0 := fun z9 => c_13 ((nI_eq (a := b) (b := 0) (by omega) (by omega)).mpr z9)
          refine lv_aload_n hx hb d_M_fallsAt_16 rfl (lv_at hl 0 rfl) ?_
          refine va_get (D := (dC, dI)) (ci := 0) (v := .ref (h 5)) (C := R_M) (T := F_M) (N := 18) hx hb hk k_M_f hown hK hP 0 rfl rfl 8 (by decide) (hk _ k_M_16) (fun _ h9 => h9) rfl d_M_fallsAt_17 ?_
          refine lv_iload_n hx hb d_M_fallsAt_20 rfl (lv_at hl 3 rfl) ?_
          refine va_iald hx hb hK hP 5 0 rfl rfl (pk_in k 801 (by omega)) d_M_fallsAt_21 ?_
          refine lv_topi (fun z1 ez1 => ?_)
          obtain rfl : z1 = nI en.1 := ez1.trans ((rd (f := bF) (k := k) (by omega)).trans q1)
          refine lv_iload_n hx hb d_M_fallsAt_22 rfl (lv_at hl 1 rfl) ?_
          refine lv_icmp_ne (tgt := 48) hx hb d_M_fallsAt_23 (by decide) (fun c_23 => ?_) (fun c_23 => ?_)
          · have c_23 : ¬ en.1 = f := fun z9 => c_23 ((nI_eq (a := en.1) (b := f) (by omega) (by omega)).mpr z9)
            refine lv_iconst (v := nI 1) hx hb d_M_fallsAt_48 (by decide +kernel) ?_
            refine lv_goto (tgt := 53) hx hb d_M_fallsAt_49 (by decide) ?_
            refine lv_istore_n (lv' := [(2, .int (nI 1)), (0, .ref (h 0)), (1, .int (nI f)), (3, .int (nI k))]) hx hb d_M_fallsAt_53 rfl hl (by decide) rfl (fun ls hl => ?_)
            refine lv_iinc (v := nI (k + 1)) (lv' := [(3, .int (nI (k + 1))), (2, .int (nI 1)), (0, .ref (h 0)), (1, .int (nI f))]) hx hb d_M_fallsAt_54 hl (k := 3) rfl (nI_add k 1) (by decide) rfl (fun ls hl => ?_)
            refine lv_goto (tgt := 4) hx hb d_M_fallsAt_57 (by decide) ?_
            have hb3 : (1 = 1 ∧ ∀ j en, j < k + 1 → es[j]? = some en → ¬ (en.1 = f ∧ en.2.1 = f ∧ badX en.2.2.1)) ∨ (1 = 0 ∧ ∃ en ∈ es, en.1 = f ∧ en.2.1 = f ∧ badX en.2.2.1) := by
              refine Or.inl ⟨rfl, fun j x hj hx9 => ?_⟩
              rcases hb2 with ⟨-, h1⟩ | ⟨h0, -⟩
              · rcases Nat.lt_or_ge j k with q | q
                · exact h1 j x q hx9
                · obtain rfl : j = k := by omega
                  rw [hen] at hx9
                  cases hx9
                  rintro ⟨z1, z2, z3⟩
                  first
                    | exact c_23 z1
                    | exact c_33 z2
                    | exact hbad z3
              · exact absurd h0 c_13
            exact ih_lp (k + 1) 1 (by omega) (hb3) (by omega) _ _ _ hP hD hS (lv_sub hl [2, 3, 1, 0] rfl)
          · have c_23 : en.1 = f := (nI_eq (a := en.1) (b := f) (by omega) (by omega)).mp c_23
            refine lv_aload_n hx hb d_M_fallsAt_26 rfl (lv_at hl 0 rfl) ?_
            refine va_get (D := (dC, dI)) (ci := 0) (v := .ref (h 6)) (C := R_M) (T := F_M) (N := 18) hx hb hk k_M_f hown hK hP 0 rfl rfl 9 (by decide) (hk _ k_M_17) (fun _ h9 => h9) rfl d_M_fallsAt_27 ?_
            refine lv_iload_n hx hb d_M_fallsAt_30 rfl (lv_at hl 3 rfl) ?_
            refine va_iald hx hb hK hP 6 0 rfl rfl (pk_in k 801 (by omega)) d_M_fallsAt_31 ?_
            refine lv_topi (fun z2 ez2 => ?_)
            obtain rfl : z2 = nI en.2.1 := ez2.trans ((rd (f := bL) (k := k) (by omega)).trans q2)
            refine lv_iload_n hx hb d_M_fallsAt_32 rfl (lv_at hl 1 rfl) ?_
            refine lv_icmp_ne (tgt := 48) hx hb d_M_fallsAt_33 (by decide) (fun c_33 => ?_) (fun c_33 => ?_)
            · have c_33 : ¬ en.2.1 = f := fun z9 => c_33 ((nI_eq (a := en.2.1) (b := f) (by omega) (by omega)).mpr z9)
              refine lv_iconst (v := nI 1) hx hb d_M_fallsAt_48 (by decide +kernel) ?_
              refine lv_goto (tgt := 53) hx hb d_M_fallsAt_49 (by decide) ?_
              refine lv_istore_n (lv' := [(2, .int (nI 1)), (0, .ref (h 0)), (1, .int (nI f)), (3, .int (nI k))]) hx hb d_M_fallsAt_53 rfl hl (by decide) rfl (fun ls hl => ?_)
              refine lv_iinc (v := nI (k + 1)) (lv' := [(3, .int (nI (k + 1))), (2, .int (nI 1)), (0, .ref (h 0)), (1, .int (nI f))]) hx hb d_M_fallsAt_54 hl (k := 3) rfl (nI_add k 1) (by decide) rfl (fun ls hl => ?_)
              refine lv_goto (tgt := 4) hx hb d_M_fallsAt_57 (by decide) ?_
              have hb3 : (1 = 1 ∧ ∀ j en, j < k + 1 → es[j]? = some en → ¬ (en.1 = f ∧ en.2.1 = f ∧ badX en.2.2.1)) ∨ (1 = 0 ∧ ∃ en ∈ es, en.1 = f ∧ en.2.1 = f ∧ badX en.2.2.1) := by
                refine Or.inl ⟨rfl, fun j x hj hx9 => ?_⟩
                rcases hb2 with ⟨-, h1⟩ | ⟨h0, -⟩
                · rcases Nat.lt_or_ge j k with q | q
                  · exact h1 j x q hx9
                  · obtain rfl : j = k := by omega
                    rw [hen] at hx9
                    cases hx9
                    rintro ⟨z1, z2, z3⟩
                    first
                      | exact c_23 z1
                      | exact c_33 z2
                      | exact hbad z3
                · exact absurd h0 c_13
              exact ih_lp (k + 1) 1 (by omega) (hb3) (by omega) _ _ _ hP hD hS (lv_sub hl [2, 3, 1, 0] rfl)
            · have c_33 : en.2.1 = f := (nI_eq (a := en.2.1) (b := f) (by omega) (by omega)).mp c_33
              refine lv_aload_n hx hb d_M_fallsAt_36 rfl (lv_at hl 0 rfl) ?_
              refine va_get (D := (dC, dI)) (ci := 0) (v := .ref (h 7)) (C := R_M) (T := F_M) (N := 18) hx hb hk k_M_f hown hK hP 0 rfl rfl 10 (by decide) (hk _ k_M_18) (fun _ h9 => h9) rfl d_M_fallsAt_37 ?_
              refine lv_iload_n hx hb d_M_fallsAt_40 rfl (lv_at hl 3 rfl) ?_
              refine va_iald hx hb hK hP 7 0 rfl rfl (pk_in k 801 (by omega)) d_M_fallsAt_41 ?_
              refine lv_topi (fun z3 ez3 => ?_)
              obtain rfl : z3 = en.2.2.1 := ez3.trans ((rd (f := bB) (k := k) (by omega)).trans q3)
              refine vp_callSi (W.runS (As := [.int en.2.2.1]) (rest := []) ⟨hx, hb, hml, hown, hk⟩ (m_isBad l en.2.2.1) (cwS 1 hk g_M_isBad rfl rfl rfl (by decide +kernel) ⟨Nat.le_of_ble_eq_true rfl, Nat.le_of_ble_eq_true rfl⟩) ⟨fun a U g mk q => q, fun U hU hW => ⟨rfl, trivial⟩⟩ rfl rfl hl.1 rfl (lv_room (Nat.le_of_ble_eq_true rfl)) d_M_fallsAt_42 ⟨Nat.le_of_ble_eq_true rfl, Nat.le_of_ble_eq_true rfl⟩) (fun r4 hw => ?_)
              rcases hw with ⟨hr9, hbad⟩ | ⟨hr9, hbad⟩
              · subst hr9
                refine lv_if_ne (tgt := 52) hx hb d_M_fallsAt_45 (by decide) (fun _ => ?_) (fun c9 => absurd c9 (by decide +kernel))
                refine lv_iconst (v := nI 0) hx hb d_M_fallsAt_52 (by decide +kernel) ?_
                refine lv_istore_n (lv' := [(2, .int (nI 0)), (0, .ref (h 0)), (1, .int (nI f)), (3, .int (nI k))]) hx hb d_M_fallsAt_53 rfl hl (by decide) rfl (fun ls hl => ?_)
                refine lv_iinc (v := nI (k + 1)) (lv' := [(3, .int (nI (k + 1))), (2, .int (nI 0)), (0, .ref (h 0)), (1, .int (nI f))]) hx hb d_M_fallsAt_54 hl (k := 3) rfl (nI_add k 1) (by decide) rfl (fun ls hl => ?_)
                refine lv_goto (tgt := 4) hx hb d_M_fallsAt_57 (by decide) ?_
                have hb3 : (0 = 1 ∧ ∀ j en, j < k + 1 → es[j]? = some en → ¬ (en.1 = f ∧ en.2.1 = f ∧ badX en.2.2.1)) ∨ (0 = 0 ∧ ∃ en ∈ es, en.1 = f ∧ en.2.1 = f ∧ badX en.2.2.1) := by
                  refine Or.inr ⟨rfl, ?_⟩
                  first
                    | exact ⟨en, List.mem_of_getElem? hen, c_23, c_33, hbad⟩
                    | (rcases hb2 with ⟨h1, -⟩ | ⟨-, h0⟩
                       · omega
                       · exact h0)
                exact ih_lp (k + 1) 0 (by omega) (hb3) (by omega) _ _ _ hP hD hS (lv_sub hl [2, 3, 1, 0] rfl)
              · subst hr9
                refine lv_if_ne (tgt := 52) hx hb d_M_fallsAt_45 (by decide) (fun c9 => absurd c9 (by decide +kernel)) (fun _ => ?_)
                refine lv_iconst (v := nI 1) hx hb d_M_fallsAt_48 (by decide +kernel) ?_
                refine lv_goto (tgt := 53) hx hb d_M_fallsAt_49 (by decide) ?_
                refine lv_istore_n (lv' := [(2, .int (nI 1)), (0, .ref (h 0)), (1, .int (nI f)), (3, .int (nI k))]) hx hb d_M_fallsAt_53 rfl hl (by decide) rfl (fun ls hl => ?_)
                refine lv_iinc (v := nI (k + 1)) (lv' := [(3, .int (nI (k + 1))), (2, .int (nI 1)), (0, .ref (h 0)), (1, .int (nI f))]) hx hb d_M_fallsAt_54 hl (k := 3) rfl (nI_add k 1) (by decide) rfl (fun ls hl => ?_)
                refine lv_goto (tgt := 4) hx hb d_M_fallsAt_57 (by decide) ?_
                have hb3 : (1 = 1 ∧ ∀ j en, j < k + 1 → es[j]? = some en → ¬ (en.1 = f ∧ en.2.1 = f ∧ badX en.2.2.1)) ∨ (1 = 0 ∧ ∃ en ∈ es, en.1 = f ∧ en.2.1 = f ∧ badX en.2.2.1) := by
                  refine Or.inl ⟨rfl, fun j x hj hx9 => ?_⟩
                  rcases hb2 with ⟨-, h1⟩ | ⟨h0, -⟩
                  · rcases Nat.lt_or_ge j k with q | q
                    · exact h1 j x q hx9
                    · obtain rfl : j = k := by omega
                      rw [hen] at hx9
                      cases hx9
                      rintro ⟨z1, z2, z3⟩
                      first
                        | exact c_23 z1
                        | exact c_33 z2
                        | exact hbad z3
                  · exact absurd h0 c_13
                exact ih_lp (k + 1) 1 (by omega) (hb3) (by omega) _ _ _ hP hD hS (lv_sub hl [2, 3, 1, 0] rfl)
  exact lp _ 0 1 (Nat.zero_le _) (Or.inl ⟨rfl, fun j en hj => absurd hj (Nat.not_lt_zero _)⟩) (Nat.lt_succ_self _) _ _ _ hP hD hS (lv_sub hl [2, 3, 1, 0] rfl)
