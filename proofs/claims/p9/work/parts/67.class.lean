set_option maxHeartbeats 4000000 in
set_option maxRecDepth 100000 in
theorem c_X_numberInRow_ok (l : Launch) (x : Int64) (k : Nat) (hk12 : k < 12) : Met l y_X_numberInRow w_X_numberInRow ({ frames := 0, cells := 0, slots := 0, locals := 0 }) (va_Pc [.long x, .int (nI k)] (fun _ => True)) (vp_Si (fun r => r = nI (numR x k))) 0 0 (fun _ => False) := by
  refine Met.ofW (cc := c_X_numberInRow) (maxL := 3) (ret := (some .int)) (by decide) rfl ?_
  intro p e s m args below meth c s₁ B hml hv
  obtain ⟨rfl, -⟩ := hv
  have hx := B.exec
  have hb := B.bytes
  have hr := B.returns
  have hts := atoms_spec (ws := w_X_numberInRow) B.pre
  have hk : ∀ w ∈ wCw, w.before _ s = true := fun w h => hts w (List.mem_cons_of_mem _ h)
  have hown : s.vm.findClass R_X = some m.cls := findClass_of_methodNamed B.named
  have hlocks := B.notSynchronized
  have hl := lv_entry ([.long x, .int (nI k)]) (n := 3) (Nat.le_of_ble_eq_true rfl)
  rw [lg_entry_eq]
  generalize (lg_sl ([.long x, .int (nI k)]) ++ List.replicate (3 - (lg_sl ([.long x, .int (nI k)])).length) Slot.unset).toArray = ls at hl ⊢
  have hl : lv_has ls 3 [(0, .long x), (2, .int (nI k))] := hl
  refine lv_lload_n hx hb d_X_numberInRow_0 rfl (lv_at hl 0 rfl) ?_
  refine lv_iconst (v := nI 5) hx hb d_X_numberInRow_1 (by decide +kernel) ?_
  refine lv_iload_n hx hb d_X_numberInRow_2 rfl (lv_at hl 1 rfl) ?_
  refine lv_imul hx hb d_X_numberInRow_3 ?_
  refine lv_topi (fun z1 ez1 => ?_)
  obtain rfl : z1 = nI (5 * k) := ez1.trans (pk_mul _ _)
  refine lv_lushr (v := (x.toUInt64 >>> ((nI (5 * k)).toInt64.toUInt64 &&& Int64.toUInt64 63)).toInt64) hx hb d_X_numberInRow_4 rfl ?_
  refine lv_l2i (v := ((x.toUInt64 >>> ((nI (5 * k)).toInt64.toUInt64 &&& Int64.toUInt64 63)).toInt64).toInt32) hx hb d_X_numberInRow_5 rfl ?_
  refine lv_bipush (v := nI 31) hx hb d_X_numberInRow_6 (by decide +kernel) ?_
  refine lv_iand hx hb d_X_numberInRow_8 ?_
  exact W.iret (v := (((x.toUInt64 >>> ((nI (5 * k)).toInt64.toUInt64 &&& Int64.toUInt64 63)).toInt64).toInt32) &&& (nI 31)) hx hb hr (fun t ht hW => ⟨(((x.toUInt64 >>> ((nI (5 * k)).toInt64.toUInt64 &&& Int64.toUInt64 63)).toInt64).toInt32) &&& (nI 31), rfl, (num_ush x hk12), ht⟩) (fun q h9 => absurd h9 List.not_mem_nil) d_X_numberInRow_9
set_option maxHeartbeats 4000000 in
set_option maxRecDepth 100000 in
theorem c_X_undo_ok (l : Launch) (dC : Nat → ClassId) (dI : Nat → Nat → Nat) (cI : ClassId) (h : Nat → Nat) (sz : Nat) (yn yt yg ym : Int32) (aK eB eE eA eL eN eC eS eW eT : Nat → Int32) (nF nC : Nat) (pl cf ct : Nat → Nat) (hC : nC ≤ 20) : Met l y_X_undo w_X_undo ({ frames := 1, cells := 0, slots := 0, locals := 20 }) (va_Pc [.ref (h 0)] (fun U => U.heap.size = sz ∧ va_P (dC, dI) kls (wC h cI (nI nF) (nI nC) yn yt yg ym (fun c => nI (pl c)) (fun c => nI (cf c)) (fun c => nI (ct c)) aK eB eE eA eL eN eC eS eW eT) U.heap ∧ va_K (dC, dI) kls (tyC cI) U ∧ va_D (fun _ => True) (wC h cI (nI nF) (nI nC) yn yt yg ym (fun c => nI (pl c)) (fun c => nI (cf c)) (fun c => nI (ct c)) aK eB eE eA eL eN eC eS eW eT))) (va_Qi (fun (r : Int32) (u : Int32 × Int32) => u.1 = nI (nC - 1) ∧ ((r = nI 1 ∧ 0 < nC ∧ u.2 = nI 0) ∨ (r = nI 0 ∧ nC = 0 ∧ u.2 = yg))) (fun (u : Int32 × Int32) (t : State) => va_P (dC, dI) kls (wC h cI (nI nF) u.1 yn yt u.2 ym (fun c => nI (pl c)) (fun c => nI (cf c)) (fun c => nI (ct c)) aK eB eE eA eL eN eC eS eW eT) t.heap ∧ va_K (dC, dI) kls (tyC cI) t ∧ va_D (va_A (wC h cI (nI nF) (nI nC) yn yt yg ym (fun c => nI (pl c)) (fun c => nI (cf c)) (fun c => nI (ct c)) aK eB eE eA eL eN eC eS eW eT) sz) (wC h cI (nI nF) u.1 yn yt u.2 ym (fun c => nI (pl c)) (fun c => nI (cf c)) (fun c => nI (ct c)) aK eB eE eA eL eN eC eS eW eT)) (va_A (wC h cI (nI nF) (nI nC) yn yt yg ym (fun c => nI (pl c)) (fun c => nI (cf c)) (fun c => nI (ct c)) aK eB eE eA eL eN eC eS eW eT) sz)) 0 0 (va_A (wC h cI (nI nF) (nI nC) yn yt yg ym (fun c => nI (pl c)) (fun c => nI (cf c)) (fun c => nI (ct c)) aK eB eE eA eL eN eC eS eW eT) sz) := by
  refine Met.ofW (cc := c_X_undo) (maxL := 1) (ret := (some .boolean)) (by decide) rfl ?_
  intro p e s m args below meth c s₁ B hml hv
  obtain ⟨rfl, hsz, hP, hK, hD0⟩ := hv
  have hx := B.exec
  have hb := B.bytes
  have hr := B.returns
  have hts := atoms_spec (ws := w_X_undo) B.pre
  have hk : ∀ w ∈ wCw, w.before _ s = true := fun w h => hts w (List.mem_cons_of_mem _ h)
  have hown : s.vm.findClass R_X = some m.cls := findClass_of_methodNamed B.named
  have hlocks := B.notSynchronized
  subst hsz
  have hD := hD0.self (sz := s.heap.size)
  generalize hAe : va_A (wC h cI (nI nF) (nI nC) yn yt yg ym (fun c => nI (pl c)) (fun c => nI (cf c)) (fun c => nI (ct c)) aK eB eE eA eL eN eC eS eW eT) s.heap.size = A at hD ⊢
  have hA : ∀ q : Nat, s.heap.size ≤ q → A q := fun q h => by rw [← hAe]; exact Or.inr h
  have hS : va_S A s.heap s.heap [] := va_S.rf
  have hl := lv_entry ([.ref (h 0)]) (n := 1) (Nat.le_of_ble_eq_true rfl)
  rw [lg_entry_eq]
  generalize (lg_sl ([.ref (h 0)]) ++ List.replicate (1 - (lg_sl ([.ref (h 0)])).length) Slot.unset).toArray = ls at hl ⊢
  have hl : lv_has ls 1 [(0, .ref (h 0))] := hl
  refine lv_aload_n hx hb d_X_undo_0 rfl (lv_at hl 0 rfl) ?_
  refine va_get (D := (dC, dI)) (ci := 4) (v := .ref (h 1)) (C := R_X) (T := F_X) (N := 3) hx hb hk k_f_X hown hK hP 0 rfl rfl 0 (by decide) (hk _ k_C_67) (fun _ h9 => h9) rfl d_X_undo_1 ?_
  refine va_get (D := (dC, dI)) (ci := 1) (v := .int (nI nC)) (C := R_P) (T := F_P) (N := 6) hx hb hk k_f_P hown hK hP 1 rfl rfl 5 (by decide) (hk _ k_C_37) (fun _ h9 => h9) rfl d_X_undo_4 ?_
  refine lv_if_gt (tgt := 12) hx hb d_X_undo_7 (by decide) (fun c_7 => ?_) (fun c_7 => ?_)
  · have c_7 : 0 < nC := (nI_ltI (a := 0) (b := nC) (by omega) (by omega)).mp c_7
    refine lv_aload_n hx hb d_X_undo_12 rfl (lv_at hl 0 rfl) ?_
    refine va_get (D := (dC, dI)) (ci := 4) (v := .ref (h 6)) (C := R_X) (T := F_X) (N := 3) hx hb hk k_f_X hown hK hP 0 rfl rfl 1 (by decide) (hk _ k_C_68) (fun _ h9 => h9) rfl d_X_undo_13 ?_
    have hFc := va_free (wc := wC h cI (nI nF) (nI nC) yn yt yg ym (fun c => nI (pl c)) (fun c => nI (cf c)) (fun c => nI (ct c)) aK eB eE eA eL eN eC eS eW eT) hD hS hA [0, 1, 2, 3, 4, 5, 6, 7, 8, 9, 10, 11, 12, 13, 14, 15, 16] rfl
    refine va_callv (va_runV (As := []) (rest := []) ⟨hx, hb, hml, hown, hk⟩ (c_C_forget_ok l dC dI cI h s.heap.size (nI nF) (nI nC) yn yt yg ym (fun c => nI (pl c)) (fun c => nI (cf c)) (fun c => nI (ct c)) aK eB eE eA eL eN eC eS eW eT  ) (cwV 0 hk g_X_46 rfl rfl rfl (by decide +kernel) ⟨Nat.le_of_ble_eq_true rfl, Nat.le_of_ble_eq_true rfl⟩) ⟨fun a U g mk q => by obtain ⟨q0, q1, qP, qK, qD⟩ := q; exact ⟨q0, q1, qP, va_K.moved (u := U) (U := U.calling g mk a) (Vm.Alike.refl U.vm) qK, qD⟩, va_recv hK hP (ci := 2) (q0 := 6) rfl rfl, fun U hU hW => ⟨rfl, by rw [hU], by rw [hU]; exact hP, va_K.moved hW.alike hK, hD.weaken (fun _ _ _ _ => trivial)⟩⟩ rfl rfl hl.1 rfl (lv_room (Nat.le_of_ble_eq_true rfl)) d_X_undo_16 ⟨Nat.le_of_ble_eq_true rfl, Nat.le_of_ble_eq_true rfl⟩) hS (fun q _ h => hFc q h) hFc (fun u9 t H1 locs ht hvm hw hB hz1 hk1 hS => ?_)
    obtain ⟨yg9, rfl⟩ : ∃ z, z = u9 := ⟨_, rfl⟩
    obtain ⟨hP1, hK1, hD1⟩ := hB
    rw [ht] at hP1
    try dsimp only at hw
    obtain ⟨hP, hD⟩ := va_join (wr := []) (w1 := wC h cI (nI nF) (nI nC) yn yt yg9 ym (fun c => nI (pl c)) (fun c => nI (cf c)) (fun c => nI (ct c)) aK eB eE eA eL eN eC eS eW eT) hP hD [0, 1, 2, 3, 4, 5, 6, 7, 8, 9, 10, 11, 12, 13, 14, 15, 16] [] rfl rfl (by decide) (by decide) hk1 hFc hP1 hD1
    generalize H1 = H at hP hS ⊢
    have hP : va_P (dC, dI) kls (wC h cI (nI nF) (nI nC) yn yt yg9 ym (fun c => nI (pl c)) (fun c => nI (cf c)) (fun c => nI (ct c)) aK eB eE eA eL eN eC eS eW eT) H := hP
    have hD : va_D A (wC h cI (nI nF) (nI nC) yn yt yg9 ym (fun c => nI (pl c)) (fun c => nI (cf c)) (fun c => nI (ct c)) aK eB eE eA eL eN eC eS eW eT) := hD
    subst hw
    refine lv_aload_n hx hb d_X_undo_19 rfl (lv_at hl 0 rfl) ?_
    refine va_get (D := (dC, dI)) (ci := 4) (v := .ref (h 1)) (C := R_X) (T := F_X) (N := 3) hx hb hk k_f_X hown hK hP 0 rfl rfl 0 (by decide) (hk _ k_C_67) (fun _ h9 => h9) rfl d_X_undo_20 ?_
    refine lv_dup hx hb d_X_undo_23 rfl ?_
    refine va_get (D := (dC, dI)) (ci := 1) (v := .int (nI nC)) (C := R_P) (T := F_P) (N := 6) hx hb hk k_f_P hown hK hP 1 rfl rfl 5 (by decide) (hk _ k_C_37) (fun _ h9 => h9) rfl d_X_undo_24 ?_
    refine lv_iconst (v := nI 1) hx hb d_X_undo_27 (by decide +kernel) ?_
    refine lv_isub hx hb d_X_undo_28 ?_
    refine lv_topi (fun z2 ez2 => ?_)
    obtain rfl : z2 = nI (nC - 1) := ez2.trans (pk_sub (by omega))
    refine va_put (D := (dC, dI)) (ci := 1) (v := .int (nI (nC - 1))) (ty := .int) (C := R_P) (T := F_P) (N := 6) hx hb hk k_f_P t_P t_P_ok n_P hown hK hP hD hS 1 rfl rfl 5 (by decide) (hk _ k_C_37) (fun _ h9 => h9) rfl (by decide +kernel) rfl rfl (Nat.le_of_ble_eq_true rfl) d_X_undo_29 (fun H locs hP hD hS => ?_)
    have hP : va_P (dC, dI) kls (wC h cI (nI nF) (nI (nC - 1)) yn yt (nI 0) ym (fun c => nI (pl c)) (fun c => nI (cf c)) (fun c => nI (ct c)) aK eB eE eA eL eN eC eS eW eT) H := hP
    have hD : va_D A (wC h cI (nI nF) (nI (nC - 1)) yn yt (nI 0) ym (fun c => nI (pl c)) (fun c => nI (cf c)) (fun c => nI (ct c)) aK eB eE eA eL eN eC eS eW eT) := hD
    refine lv_iconst (v := nI 1) hx hb d_X_undo_32 (by decide +kernel) ?_
    exact W.zret (v := nI 1) (ty := .boolean) hx hb hr rfl (fun t ht hW => ⟨⟨nI 1, (nI (nC - 1), nI 0), rfl, ⟨rfl, Or.inl ⟨rfl, by omega, rfl⟩⟩, by rw [ht]; exact hP, va_K.moved hW.alike hK, hD⟩, hS.F ht⟩) hS.2.2 d_X_undo_33
  · have c_7 : ¬ 0 < nC := fun z9 => c_7 ((nI_ltI (a := 0) (b := nC) (by omega) (by omega)).mpr z9)
    refine lv_iconst (v := nI 0) hx hb d_X_undo_10 (by decide +kernel) ?_
    have hz9 : nI nC = nI (nC - 1) := by rw [show nC = 0 by omega]
    exact W.zret (v := nI 0) (ty := .boolean) hx hb hr rfl (fun t ht hW => ⟨⟨nI 0, (nI nC, yg), rfl, ⟨hz9, Or.inr ⟨rfl, by omega, rfl⟩⟩, by rw [ht]; exact hP, va_K.moved hW.alike hK, hD⟩, hS.F ht⟩) hS.2.2 d_X_undo_11
set_option maxHeartbeats 4000000 in
set_option maxRecDepth 100000 in
theorem c_X_told_ok (l : Launch) (dC : Nat → ClassId) (dI : Nat → Nat → Nat) (cI : ClassId) (h : Nat → Nat) (sz : Nat) (yn yt yg ym : Int32) (aK eB eE eA eL eN eC eS eW eT : Nat → Int32) (nF nC : Nat) (pl cf ct : Nat → Nat) (q w : Int32) (hC : nC ≤ 20) : Met l y_X_told w_X_told ({ frames := 1, cells := 0, slots := 0, locals := 21 }) (va_Pc [.ref (h 0), .int q, .int w] (fun U => U.heap.size = sz ∧ va_P (dC, dI) kls (wC h cI (nI nF) (nI nC) yn yt yg ym (fun c => nI (pl c)) (fun c => nI (cf c)) (fun c => nI (ct c)) aK eB eE eA eL eN eC eS eW eT) U.heap ∧ va_K (dC, dI) kls (tyC cI) U ∧ va_D (fun _ => True) (wC h cI (nI nF) (nI nC) yn yt yg ym (fun c => nI (pl c)) (fun c => nI (cf c)) (fun c => nI (ct c)) aK eB eE eA eL eN eC eS eW eT))) (va_Qi (fun (r : Int32) (u : Unit) => ((¬ ∃ j, j < nC ∧ q = nI j) ∧ r = -1) ∨ ∃ j, j < nC ∧ q = nI j ∧ r = (if w = 0 then nI (cf j) else if w = nI 1 then nI (ct j) else if w = nI 2 then aK j else -1)) (fun (u : Unit) (t : State) => va_P (dC, dI) kls (wC h cI (nI nF) (nI nC) yn yt yg ym (fun c => nI (pl c)) (fun c => nI (cf c)) (fun c => nI (ct c)) aK eB eE eA eL eN eC eS eW eT) t.heap ∧ va_K (dC, dI) kls (tyC cI) t ∧ va_D (va_A (wC h cI (nI nF) (nI nC) yn yt yg ym (fun c => nI (pl c)) (fun c => nI (cf c)) (fun c => nI (ct c)) aK eB eE eA eL eN eC eS eW eT) sz) (wC h cI (nI nF) (nI nC) yn yt yg ym (fun c => nI (pl c)) (fun c => nI (cf c)) (fun c => nI (ct c)) aK eB eE eA eL eN eC eS eW eT)) (va_A (wC h cI (nI nF) (nI nC) yn yt yg ym (fun c => nI (pl c)) (fun c => nI (cf c)) (fun c => nI (ct c)) aK eB eE eA eL eN eC eS eW eT) sz)) 0 0 (va_A (wC h cI (nI nF) (nI nC) yn yt yg ym (fun c => nI (pl c)) (fun c => nI (cf c)) (fun c => nI (ct c)) aK eB eE eA eL eN eC eS eW eT) sz) := by
  refine Met.ofW (cc := c_X_told) (maxL := 3) (ret := (some .int)) (by decide) rfl ?_
  intro p e s m args below meth c s₁ B hml hv
  obtain ⟨rfl, hsz, hP, hK, hD0⟩ := hv
  have hx := B.exec
  have hb := B.bytes
  have hr := B.returns
  have hts := atoms_spec (ws := w_X_told) B.pre
  have hk : ∀ w ∈ wCw, w.before _ s = true := fun w h => hts w (List.mem_cons_of_mem _ h)
  have hown : s.vm.findClass R_X = some m.cls := findClass_of_methodNamed B.named
  have hlocks := B.notSynchronized
  subst hsz
  have hD := hD0.self (sz := s.heap.size)
  generalize hAe : va_A (wC h cI (nI nF) (nI nC) yn yt yg ym (fun c => nI (pl c)) (fun c => nI (cf c)) (fun c => nI (ct c)) aK eB eE eA eL eN eC eS eW eT) s.heap.size = A at hD ⊢
  have hA : ∀ q : Nat, s.heap.size ≤ q → A q := fun q h => by rw [← hAe]; exact Or.inr h
  have hS : va_S A s.heap s.heap [] := va_S.rf
  have hl := lv_entry ([.ref (h 0), .int q, .int w]) (n := 3) (Nat.le_of_ble_eq_true rfl)
  rw [lg_entry_eq]
  generalize (lg_sl ([.ref (h 0), .int q, .int w]) ++ List.replicate (3 - (lg_sl ([.ref (h 0), .int q, .int w])).length) Slot.unset).toArray = ls at hl ⊢
  have hl : lv_has ls 3 [(0, .ref (h 0)), (1, .int q), (2, .int w)] := hl
  refine lv_aload_n hx hb d_X_told_0 rfl (lv_at hl 0 rfl) ?_
  refine va_get (D := (dC, dI)) (ci := 4) (v := .ref (h 1)) (C := R_X) (T := F_X) (N := 3) hx hb hk k_f_X hown hK hP 0 rfl rfl 0 (by decide) (hk _ k_C_67) (fun _ h9 => h9) rfl d_X_told_1 ?_
  refine lv_iload_n hx hb d_X_told_4 rfl (lv_at hl 1 rfl) ?_
  have hFc := va_free (wc := wC h cI (nI nF) (nI nC) yn yt yg ym (fun c => nI (pl c)) (fun c => nI (cf c)) (fun c => nI (ct c)) aK eB eE eA eL eN eC eS eW eT) hD hS hA [0, 1, 2, 3, 4, 5, 6, 7, 8, 9, 10, 11, 12, 13, 14, 15, 16] rfl
  refine va_calli (va_runV (As := [.int q]) (rest := []) ⟨hx, hb, hml, hown, hk⟩ (c_P_hasCall_ok l dC dI cI h s.heap.size yn yt yg ym aK eB eE eA eL eN eC eS eW eT nC nF pl cf ct q (by omega)) (cwV 1 hk g_X_71 rfl rfl rfl (by decide +kernel) ⟨Nat.le_of_ble_eq_true rfl, Nat.le_of_ble_eq_true rfl⟩) ⟨fun a U g mk q => by obtain ⟨q0, q1, qP, qK, qD⟩ := q; exact ⟨q0, q1, qP, va_K.moved (u := U) (U := U.calling g mk a) (Vm.Alike.refl U.vm) qK, qD⟩, va_recv hK hP (ci := 1) (q0 := 1) rfl rfl, fun U hU hW => ⟨rfl, by rw [hU], by rw [hU]; exact hP, va_K.moved hW.alike hK, hD.weaken (fun _ _ _ _ => trivial)⟩⟩ rfl rfl hl.1 rfl (lv_room (Nat.le_of_ble_eq_true rfl)) d_X_told_5 ⟨Nat.le_of_ble_eq_true rfl, Nat.le_of_ble_eq_true rfl⟩) hS (fun q _ h => hFc q h) hFc (fun r1 u9 t H1 locs ht hvm hw hB hz1 hk1 hS => ?_)
  obtain ⟨hP1, hK1, hD1⟩ := hB
  rw [ht] at hP1
  try dsimp only at hw
  obtain ⟨hP, hD⟩ := va_join (wr := []) (w1 := wC h cI (nI nF) (nI nC) yn yt yg ym (fun c => nI (pl c)) (fun c => nI (cf c)) (fun c => nI (ct c)) aK eB eE eA eL eN eC eS eW eT) hP hD [0, 1, 2, 3, 4, 5, 6, 7, 8, 9, 10, 11, 12, 13, 14, 15, 16] [] rfl rfl (by decide) (by decide) hk1 hFc hP1 hD1
  generalize H1 = H at hP hS ⊢
  have hP : va_P (dC, dI) kls (wC h cI (nI nF) (nI nC) yn yt yg ym (fun c => nI (pl c)) (fun c => nI (cf c)) (fun c => nI (ct c)) aK eB eE eA eL eN eC eS eW eT) H := hP
  have hD : va_D A (wC h cI (nI nF) (nI nC) yn yt yg ym (fun c => nI (pl c)) (fun c => nI (cf c)) (fun c => nI (ct c)) aK eB eE eA eL eN eC eS eW eT) := hD
  rcases hw with ⟨hr9, k1, hk1, hfj⟩ | ⟨hr9, hno_q⟩
  · subst hr9
    subst hfj
    refine lv_if_ne (tgt := 13) hx hb d_X_told_8 (by decide) (fun _ => ?_) (fun c9 => absurd c9 (by decide +kernel))
    refine lv_iload_n hx hb d_X_told_13 rfl (lv_at hl 2 rfl) ?_
    refine lv_topi (fun w2 ew2 => ?_)
    rcases (show w2 = nI 0 ∨ w2 = nI 1 ∨ w2 = nI 2 ∨ (¬ w2 = nI 0 ∧ ¬ w2 = nI 1 ∧ ¬ w2 = nI 2) from (Classical.em (w2 = nI 0)).elim Or.inl (fun z0 => Or.inr ((Classical.em (w2 = nI 1)).elim Or.inl (fun z1 => Or.inr ((Classical.em (w2 = nI 2)).elim Or.inl (fun z2 => Or.inr (⟨z0, z1, z2⟩))))))) with hs9 | hs9 | hs9 | hs9
    · subst hs9
      refine lv_tableIn (tgt := 40) (off := 26) hx hb d_X_told_14 (by decide +kernel) (by decide +kernel) (by decide +kernel) (by decide) ?_
      refine lv_aload_n hx hb d_X_told_40 rfl (lv_at hl 0 rfl) ?_
      refine va_get (D := (dC, dI)) (ci := 4) (v := .ref (h 1)) (C := R_X) (T := F_X) (N := 3) hx hb hk k_f_X hown hK hP 0 rfl rfl 0 (by decide) (hk _ k_C_67) (fun _ h9 => h9) rfl d_X_told_41 ?_
      refine va_get (D := (dC, dI)) (ci := 1) (v := .ref (h 3)) (C := R_P) (T := F_P) (N := 6) hx hb hk k_f_P hown hK hP 1 rfl rfl 1 (by decide) (hk _ k_C_23) (fun _ h9 => h9) rfl d_X_told_44 ?_
      refine lv_iload_n hx hb d_X_told_47 rfl (lv_at hl 1 rfl) ?_
      refine va_iald hx hb hK hP 3 0 rfl rfl (pk_in k1 20 (by omega)) d_X_told_48 ?_
      refine lv_topi (fun z3 ez3 => ?_)
      obtain rfl : z3 = nI (cf k1) := ez3.trans (rd (f := fun c => nI (cf c)) (k := k1) (by omega))
      have hq9 : nI (cf k1) = (if w = 0 then nI (cf k1) else if w = nI 1 then nI (ct k1) else if w = nI 2 then aK k1 else -1) := by
        first
          | (have hw0 : w = nI 0 := ew2.symm; subst hw0; rfl)
          | (have hw0 : w = nI 1 := ew2.symm; subst hw0; rfl)
          | (have hw0 : w = nI 2 := ew2.symm; subst hw0; rfl)
          | (rw [ew2] at n0 n1 n2; rw [if_neg (show ¬ w = 0 from n0), if_neg n1, if_neg n2])
      exact W.iret (v := nI (cf k1)) hx hb hr (fun t ht hW => ⟨⟨nI (cf k1), (), rfl, Or.inr ⟨k1, hk1, rfl, hq9⟩, by rw [ht]; exact hP, va_K.moved hW.alike hK, hD⟩, hS.F ht⟩) hS.2.2 d_X_told_49
    · subst hs9
      refine lv_tableIn (tgt := 50) (off := 36) hx hb d_X_told_14 (by decide +kernel) (by decide +kernel) (by decide +kernel) (by decide) ?_
      refine lv_aload_n hx hb d_X_told_50 rfl (lv_at hl 0 rfl) ?_
      refine va_get (D := (dC, dI)) (ci := 4) (v := .ref (h 1)) (C := R_X) (T := F_X) (N := 3) hx hb hk k_f_X hown hK hP 0 rfl rfl 0 (by decide) (hk _ k_C_67) (fun _ h9 => h9) rfl d_X_told_51 ?_
      refine va_get (D := (dC, dI)) (ci := 1) (v := .ref (h 4)) (C := R_P) (T := F_P) (N := 6) hx hb hk k_f_P hown hK hP 1 rfl rfl 2 (by decide) (hk _ k_C_27) (fun _ h9 => h9) rfl d_X_told_54 ?_
      refine lv_iload_n hx hb d_X_told_57 rfl (lv_at hl 1 rfl) ?_
      refine va_iald hx hb hK hP 4 0 rfl rfl (pk_in k1 20 (by omega)) d_X_told_58 ?_
      refine lv_topi (fun z4 ez4 => ?_)
      obtain rfl : z4 = nI (ct k1) := ez4.trans (rd (f := fun c => nI (ct c)) (k := k1) (by omega))
      have hq9 : nI (ct k1) = (if w = 0 then nI (cf k1) else if w = nI 1 then nI (ct k1) else if w = nI 2 then aK k1 else -1) := by
        first
          | (have hw0 : w = nI 0 := ew2.symm; subst hw0; rfl)
          | (have hw0 : w = nI 1 := ew2.symm; subst hw0; rfl)
          | (have hw0 : w = nI 2 := ew2.symm; subst hw0; rfl)
          | (rw [ew2] at n0 n1 n2; rw [if_neg (show ¬ w = 0 from n0), if_neg n1, if_neg n2])
      exact W.iret (v := nI (ct k1)) hx hb hr (fun t ht hW => ⟨⟨nI (ct k1), (), rfl, Or.inr ⟨k1, hk1, rfl, hq9⟩, by rw [ht]; exact hP, va_K.moved hW.alike hK, hD⟩, hS.F ht⟩) hS.2.2 d_X_told_59
    · subst hs9
      refine lv_tableIn (tgt := 60) (off := 46) hx hb d_X_told_14 (by decide +kernel) (by decide +kernel) (by decide +kernel) (by decide) ?_
      refine lv_aload_n hx hb d_X_told_60 rfl (lv_at hl 0 rfl) ?_
      refine va_get (D := (dC, dI)) (ci := 4) (v := .ref (h 1)) (C := R_X) (T := F_X) (N := 3) hx hb hk k_f_X hown hK hP 0 rfl rfl 0 (by decide) (hk _ k_C_67) (fun _ h9 => h9) rfl d_X_told_61 ?_
      refine va_get (D := (dC, dI)) (ci := 1) (v := .ref (h 5)) (C := R_P) (T := F_P) (N := 6) hx hb hk k_f_P hown hK hP 1 rfl rfl 3 (by decide) (hk _ k_C_31) (fun _ h9 => h9) rfl d_X_told_64 ?_
      refine lv_iload_n hx hb d_X_told_67 rfl (lv_at hl 1 rfl) ?_
      refine va_iald hx hb hK hP 5 0 rfl rfl (pk_in k1 20 (by omega)) d_X_told_68 ?_
      refine lv_topi (fun z5 ez5 => ?_)
      obtain rfl : z5 = aK k1 := ez5.trans (rd (f := aK) (k := k1) (by omega))
      have hq9 : aK k1 = (if w = 0 then nI (cf k1) else if w = nI 1 then nI (ct k1) else if w = nI 2 then aK k1 else -1) := by
        first
          | (have hw0 : w = nI 0 := ew2.symm; subst hw0; rfl)
          | (have hw0 : w = nI 1 := ew2.symm; subst hw0; rfl)
          | (have hw0 : w = nI 2 := ew2.symm; subst hw0; rfl)
          | (rw [ew2] at n0 n1 n2; rw [if_neg (show ¬ w = 0 from n0), if_neg n1, if_neg n2])
      exact W.iret (v := aK k1) hx hb hr (fun t ht hW => ⟨⟨aK k1, (), rfl, Or.inr ⟨k1, hk1, rfl, hq9⟩, by rw [ht]; exact hP, va_K.moved hW.alike hK, hD⟩, hS.F ht⟩) hS.2.2 d_X_told_69
    · obtain ⟨n0, n1, n2⟩ := hs9
      have i0 := lv_neT n0 (show (nI 0).toInt = 0 by decide +kernel)
      have i1 := lv_neT n1 (show (nI 1).toInt = 1 by decide +kernel)
      have i2 := lv_neT n2 (show (nI 2).toInt = 2 by decide +kernel)
      refine lv_tableOut (tgt := 70) hx hb d_X_told_14 (by omega) (by decide) ?_
      refine lv_iconst (v := (-1)) hx hb d_X_told_70 (by decide +kernel) ?_
      have hq9 : (-1) = (if w = 0 then nI (cf k1) else if w = nI 1 then nI (ct k1) else if w = nI 2 then aK k1 else -1) := by
        first
          | (have hw0 : w = nI 0 := ew2.symm; subst hw0; rfl)
          | (have hw0 : w = nI 1 := ew2.symm; subst hw0; rfl)
          | (have hw0 : w = nI 2 := ew2.symm; subst hw0; rfl)
          | (rw [ew2] at n0 n1 n2; rw [if_neg (show ¬ w = 0 from n0), if_neg n1, if_neg n2])
      exact W.iret (v := (-1)) hx hb hr (fun t ht hW => ⟨⟨(-1), (), rfl, Or.inr ⟨k1, hk1, rfl, hq9⟩, by rw [ht]; exact hP, va_K.moved hW.alike hK, hD⟩, hS.F ht⟩) hS.2.2 d_X_told_71
  · subst hr9
    refine lv_if_ne (tgt := 13) hx hb d_X_told_8 (by decide) (fun c9 => absurd c9 (by decide +kernel)) (fun _ => ?_)
    refine lv_iconst (v := (-1)) hx hb d_X_told_11 (by decide +kernel) ?_
    exact W.iret (v := (-1)) hx hb hr (fun t ht hW => ⟨⟨(-1), (), rfl, Or.inl ⟨hno_q, rfl⟩, by rw [ht]; exact hP, va_K.moved hW.alike hK, hD⟩, hS.F ht⟩) hS.2.2 d_X_told_12
set_option maxHeartbeats 4000000 in
set_option maxRecDepth 100000 in
theorem c_X_about_ok (l : Launch) (dC : Nat → ClassId) (dI : Nat → Nat → Nat) (cI : ClassId) (h : Nat → Nat) (sz : Nat) (yn yt yg ym : Int32) (aK eB eE eA eL eN eC eS eW eT : Nat → Int32) (nF nC : Nat) (pl cf ct : Nat → Nat) (q : Int32) : Met l y_X_about w_X_about ({ frames := 0, cells := 0, slots := 0, locals := 0 }) (va_Pc [.ref (h 0), .int q] (fun U => U.heap.size = sz ∧ va_P (dC, dI) kls (wC h cI (nI nF) (nI nC) yn yt yg ym (fun c => nI (pl c)) (fun c => nI (cf c)) (fun c => nI (ct c)) aK eB eE eA eL eN eC eS eW eT) U.heap ∧ va_K (dC, dI) kls (tyC cI) U ∧ va_D (fun _ => True) (wC h cI (nI nF) (nI nC) yn yt yg ym (fun c => nI (pl c)) (fun c => nI (cf c)) (fun c => nI (ct c)) aK eB eE eA eL eN eC eS eW eT))) (va_Qi (fun (r : Int32) (u : Unit) => r = (if q = 0 then nI nF else if q = nI 1 then nI nC else -1)) (fun (u : Unit) (t : State) => va_P (dC, dI) kls (wC h cI (nI nF) (nI nC) yn yt yg ym (fun c => nI (pl c)) (fun c => nI (cf c)) (fun c => nI (ct c)) aK eB eE eA eL eN eC eS eW eT) t.heap ∧ va_K (dC, dI) kls (tyC cI) t ∧ va_D (va_A (wC h cI (nI nF) (nI nC) yn yt yg ym (fun c => nI (pl c)) (fun c => nI (cf c)) (fun c => nI (ct c)) aK eB eE eA eL eN eC eS eW eT) sz) (wC h cI (nI nF) (nI nC) yn yt yg ym (fun c => nI (pl c)) (fun c => nI (cf c)) (fun c => nI (ct c)) aK eB eE eA eL eN eC eS eW eT)) (va_A (wC h cI (nI nF) (nI nC) yn yt yg ym (fun c => nI (pl c)) (fun c => nI (cf c)) (fun c => nI (ct c)) aK eB eE eA eL eN eC eS eW eT) sz)) 0 0 (va_A (wC h cI (nI nF) (nI nC) yn yt yg ym (fun c => nI (pl c)) (fun c => nI (cf c)) (fun c => nI (ct c)) aK eB eE eA eL eN eC eS eW eT) sz) := by
  refine Met.ofW (cc := c_X_about) (maxL := 2) (ret := (some .int)) (by decide) rfl ?_
  intro p e s m args below meth c s₁ B hml hv
  obtain ⟨rfl, hsz, hP, hK, hD0⟩ := hv
  have hx := B.exec
  have hb := B.bytes
  have hr := B.returns
  have hts := atoms_spec (ws := w_X_about) B.pre
  have hk : ∀ w ∈ wCw, w.before _ s = true := fun w h => hts w (List.mem_cons_of_mem _ h)
  have hown : s.vm.findClass R_X = some m.cls := findClass_of_methodNamed B.named
  have hlocks := B.notSynchronized
  subst hsz
  have hD := hD0.self (sz := s.heap.size)
  generalize hAe : va_A (wC h cI (nI nF) (nI nC) yn yt yg ym (fun c => nI (pl c)) (fun c => nI (cf c)) (fun c => nI (ct c)) aK eB eE eA eL eN eC eS eW eT) s.heap.size = A at hD ⊢
  have hA : ∀ q : Nat, s.heap.size ≤ q → A q := fun q h => by rw [← hAe]; exact Or.inr h
  have hS : va_S A s.heap s.heap [] := va_S.rf
  have hl := lv_entry ([.ref (h 0), .int q]) (n := 2) (Nat.le_of_ble_eq_true rfl)
  rw [lg_entry_eq]
  generalize (lg_sl ([.ref (h 0), .int q]) ++ List.replicate (2 - (lg_sl ([.ref (h 0), .int q])).length) Slot.unset).toArray = ls at hl ⊢
  have hl : lv_has ls 2 [(0, .ref (h 0)), (1, .int q)] := hl
  refine lv_iload_n hx hb d_X_about_0 rfl (lv_at hl 1 rfl) ?_
  refine lv_topi (fun w1 ew1 => ?_)
  rcases (show w1 = nI 0 ∨ w1 = nI 1 ∨ (¬ w1 = nI 0 ∧ ¬ w1 = nI 1) from (Classical.em (w1 = nI 0)).elim Or.inl (fun z0 => Or.inr ((Classical.em (w1 = nI 1)).elim Or.inl (fun z1 => Or.inr (⟨z0, z1⟩))))) with hs9 | hs9 | hs9
  · subst hs9
    refine lv_lookup (tgt := 28) (off := 27) hx hb d_X_about_1 (by decide +kernel) (by decide +kernel) (by decide) ?_
    refine lv_aload_n hx hb d_X_about_28 rfl (lv_at hl 0 rfl) ?_
    refine va_get (D := (dC, dI)) (ci := 4) (v := .ref (h 1)) (C := R_X) (T := F_X) (N := 3) hx hb hk k_f_X hown hK hP 0 rfl rfl 0 (by decide) (hk _ k_C_67) (fun _ h9 => h9) rfl d_X_about_29 ?_
    refine va_get (D := (dC, dI)) (ci := 1) (v := .int (nI nF)) (C := R_P) (T := F_P) (N := 6) hx hb hk k_f_P hown hK hP 1 rfl rfl 4 (by decide) (hk _ k_C_33) (fun _ h9 => h9) rfl d_X_about_32 ?_
    have hq9 : nI nF = (if q = 0 then nI nF else if q = nI 1 then nI nC else -1) := by
      first
        | (have hw0 : q = nI 0 := ew1.symm; subst hw0; rfl)
        | (have hw0 : q = nI 1 := ew1.symm; subst hw0; rfl)
        | (rw [ew1] at n0 n1; rw [if_neg (show ¬ q = 0 from n0), if_neg n1])
    exact W.iret (v := nI nF) hx hb hr (fun t ht hW => ⟨⟨nI nF, (), rfl, hq9, by rw [ht]; exact hP, va_K.moved hW.alike hK, hD⟩, hS.F ht⟩) hS.2.2 d_X_about_35
  · subst hs9
    refine lv_lookup (tgt := 36) (off := 35) hx hb d_X_about_1 (by decide +kernel) (by decide +kernel) (by decide) ?_
    refine lv_aload_n hx hb d_X_about_36 rfl (lv_at hl 0 rfl) ?_
    refine va_get (D := (dC, dI)) (ci := 4) (v := .ref (h 1)) (C := R_X) (T := F_X) (N := 3) hx hb hk k_f_X hown hK hP 0 rfl rfl 0 (by decide) (hk _ k_C_67) (fun _ h9 => h9) rfl d_X_about_37 ?_
    refine va_get (D := (dC, dI)) (ci := 1) (v := .int (nI nC)) (C := R_P) (T := F_P) (N := 6) hx hb hk k_f_P hown hK hP 1 rfl rfl 5 (by decide) (hk _ k_C_37) (fun _ h9 => h9) rfl d_X_about_40 ?_
    have hq9 : nI nC = (if q = 0 then nI nF else if q = nI 1 then nI nC else -1) := by
      first
        | (have hw0 : q = nI 0 := ew1.symm; subst hw0; rfl)
        | (have hw0 : q = nI 1 := ew1.symm; subst hw0; rfl)
        | (rw [ew1] at n0 n1; rw [if_neg (show ¬ q = 0 from n0), if_neg n1])
    exact W.iret (v := nI nC) hx hb hr (fun t ht hW => ⟨⟨nI nC, (), rfl, hq9, by rw [ht]; exact hP, va_K.moved hW.alike hK, hD⟩, hS.F ht⟩) hS.2.2 d_X_about_43
  · obtain ⟨n0, n1⟩ := hs9
    refine lv_lookup (tgt := 44) (off := 43) hx hb d_X_about_1 (by decide +kernel) ((lv_osw n0 (show (nI 0).toInt = 0 by decide +kernel)).trans ((lv_osw n1 (show (nI 1).toInt = 1 by decide +kernel)).trans (rfl))) (by decide) ?_
    refine lv_iconst (v := (-1)) hx hb d_X_about_44 (by decide +kernel) ?_
    have hq9 : (-1) = (if q = 0 then nI nF else if q = nI 1 then nI nC else -1) := by
      first
        | (have hw0 : q = nI 0 := ew1.symm; subst hw0; rfl)
        | (have hw0 : q = nI 1 := ew1.symm; subst hw0; rfl)
        | (rw [ew1] at n0 n1; rw [if_neg (show ¬ q = 0 from n0), if_neg n1])
    exact W.iret (v := (-1)) hx hb hr (fun t ht hW => ⟨⟨(-1), (), rfl, hq9, by rw [ht]; exact hP, va_K.moved hW.alike hK, hD⟩, hS.F ht⟩) hS.2.2 d_X_about_45
set_option maxHeartbeats 4000000 in
set_option maxRecDepth 100000 in
theorem c_X_reached_ok (l : Launch) (dC : Nat → ClassId) (dI : Nat → Nat → Nat) (cI : ClassId) (h : Nat → Nat) (sz : Nat) (yn yt yg ym : Int32) (aK eB eE eA eL eN eC eS eW eT : Nat → Int32) (nF nC : Nat) (pl cf ct : Nat → Nat) (f : Int32) (hF : nF ≤ 10) (hC : nC ≤ 20) (hS0 : ∀ c, c < nC → cf c < nF ∧ ct c < nF) (hpl : ∀ i, i < nF → 1 ≤ pl i ∧ pl i ≤ 4) : Met l y_X_reached w_X_reached ({ frames := 1, cells := 0, slots := 0, locals := 24 }) (va_Pc [.ref (h 0), .int f] (fun U => U.heap.size = sz ∧ va_P (dC, dI) kls (wC h cI (nI nF) (nI nC) yn yt yg ym (fun c => nI (pl c)) (fun c => nI (cf c)) (fun c => nI (ct c)) aK eB eE eA eL eN eC eS eW eT) U.heap ∧ va_K (dC, dI) kls (tyC cI) U ∧ va_D (fun _ => True) (wC h cI (nI nF) (nI nC) yn yt yg ym (fun c => nI (pl c)) (fun c => nI (cf c)) (fun c => nI (ct c)) aK eB eE eA eL eN eC eS eW eT))) (va_Qi (fun (r : Int32) (u : Unit) => ((¬ ∃ i, i < nF ∧ f = nI i) ∧ r = -1) ∨ ∃ i, i < nF ∧ f = nI i ∧ r = nI (rcN nC cf ct i nF)) (fun (u : Unit) (t : State) => va_P (dC, dI) kls (wC h cI (nI nF) (nI nC) yn yt yg ym (fun c => nI (pl c)) (fun c => nI (cf c)) (fun c => nI (ct c)) aK eB eE eA eL eN eC eS eW eT) t.heap ∧ va_K (dC, dI) kls (tyC cI) t ∧ va_D (va_A (wC h cI (nI nF) (nI nC) yn yt yg ym (fun c => nI (pl c)) (fun c => nI (cf c)) (fun c => nI (ct c)) aK eB eE eA eL eN eC eS eW eT) sz) (wC h cI (nI nF) (nI nC) yn yt yg ym (fun c => nI (pl c)) (fun c => nI (cf c)) (fun c => nI (ct c)) aK eB eE eA eL eN eC eS eW eT)) (va_A (wC h cI (nI nF) (nI nC) yn yt yg ym (fun c => nI (pl c)) (fun c => nI (cf c)) (fun c => nI (ct c)) aK eB eE eA eL eN eC eS eW eT) sz)) 0 0 (va_A (wC h cI (nI nF) (nI nC) yn yt yg ym (fun c => nI (pl c)) (fun c => nI (cf c)) (fun c => nI (ct c)) aK eB eE eA eL eN eC eS eW eT) sz) := by
  refine Met.ofW (cc := c_X_reached) (maxL := 2) (ret := (some .int)) (by decide) rfl ?_
  intro p e s m args below meth c s₁ B hml hv
  obtain ⟨rfl, hsz, hP, hK, hD0⟩ := hv
  have hx := B.exec
  have hb := B.bytes
  have hr := B.returns
  have hts := atoms_spec (ws := w_X_reached) B.pre
  have hk : ∀ w ∈ wCw, w.before _ s = true := fun w h => hts w (List.mem_cons_of_mem _ h)
  have hown : s.vm.findClass R_X = some m.cls := findClass_of_methodNamed B.named
  have hlocks := B.notSynchronized
  subst hsz
  have hD := hD0.self (sz := s.heap.size)
  generalize hAe : va_A (wC h cI (nI nF) (nI nC) yn yt yg ym (fun c => nI (pl c)) (fun c => nI (cf c)) (fun c => nI (ct c)) aK eB eE eA eL eN eC eS eW eT) s.heap.size = A at hD ⊢
  have hA : ∀ q : Nat, s.heap.size ≤ q → A q := fun q h => by rw [← hAe]; exact Or.inr h
  have hS : va_S A s.heap s.heap [] := va_S.rf
  have hl := lv_entry ([.ref (h 0), .int f]) (n := 2) (Nat.le_of_ble_eq_true rfl)
  rw [lg_entry_eq]
  generalize (lg_sl ([.ref (h 0), .int f]) ++ List.replicate (2 - (lg_sl ([.ref (h 0), .int f])).length) Slot.unset).toArray = ls at hl ⊢
  have hl : lv_has ls 2 [(0, .ref (h 0)), (1, .int f)] := hl
  refine lv_aload_n hx hb d_X_reached_0 rfl (lv_at hl 0 rfl) ?_
  refine va_get (D := (dC, dI)) (ci := 4) (v := .ref (h 1)) (C := R_X) (T := F_X) (N := 3) hx hb hk k_f_X hown hK hP 0 rfl rfl 0 (by decide) (hk _ k_C_67) (fun _ h9 => h9) rfl d_X_reached_1 ?_
  refine lv_iload_n hx hb d_X_reached_4 rfl (lv_at hl 1 rfl) ?_
  have hFc := va_free (wc := wC h cI (nI nF) (nI nC) yn yt yg ym (fun c => nI (pl c)) (fun c => nI (cf c)) (fun c => nI (ct c)) aK eB eE eA eL eN eC eS eW eT) hD hS hA [0, 1, 2, 3, 4, 5, 6, 7, 8, 9, 10, 11, 12, 13, 14, 15, 16] rfl
  refine va_calli (va_runV (As := [.int f]) (rest := []) ⟨hx, hb, hml, hown, hk⟩ (c_P_hasFunction_ok l dC dI cI h s.heap.size yn yt yg ym aK eB eE eA eL eN eC eS eW eT nF nC pl cf ct f (by omega)) (cwV 1 hk g_X_53 rfl rfl rfl (by decide +kernel) ⟨Nat.le_of_ble_eq_true rfl, Nat.le_of_ble_eq_true rfl⟩) ⟨fun a U g mk q => by obtain ⟨q0, q1, qP, qK, qD⟩ := q; exact ⟨q0, q1, qP, va_K.moved (u := U) (U := U.calling g mk a) (Vm.Alike.refl U.vm) qK, qD⟩, va_recv hK hP (ci := 1) (q0 := 1) rfl rfl, fun U hU hW => ⟨rfl, by rw [hU], by rw [hU]; exact hP, va_K.moved hW.alike hK, hD.weaken (fun _ _ _ _ => trivial)⟩⟩ rfl rfl hl.1 rfl (lv_room (Nat.le_of_ble_eq_true rfl)) d_X_reached_5 ⟨Nat.le_of_ble_eq_true rfl, Nat.le_of_ble_eq_true rfl⟩) hS (fun q _ h => hFc q h) hFc (fun r1 u9 t H1 locs ht hvm hw hB hz1 hk1 hS => ?_)
  obtain ⟨hP1, hK1, hD1⟩ := hB
  rw [ht] at hP1
  try dsimp only at hw
  obtain ⟨hP, hD⟩ := va_join (wr := []) (w1 := wC h cI (nI nF) (nI nC) yn yt yg ym (fun c => nI (pl c)) (fun c => nI (cf c)) (fun c => nI (ct c)) aK eB eE eA eL eN eC eS eW eT) hP hD [0, 1, 2, 3, 4, 5, 6, 7, 8, 9, 10, 11, 12, 13, 14, 15, 16] [] rfl rfl (by decide) (by decide) hk1 hFc hP1 hD1
  generalize H1 = H at hP hS ⊢
  have hP : va_P (dC, dI) kls (wC h cI (nI nF) (nI nC) yn yt yg ym (fun c => nI (pl c)) (fun c => nI (cf c)) (fun c => nI (ct c)) aK eB eE eA eL eN eC eS eW eT) H := hP
  have hD : va_D A (wC h cI (nI nF) (nI nC) yn yt yg ym (fun c => nI (pl c)) (fun c => nI (cf c)) (fun c => nI (ct c)) aK eB eE eA eL eN eC eS eW eT) := hD
  rcases hw with ⟨hr9, i1, hi1, hfj⟩ | ⟨hr9, hno_f⟩
  · subst hr9
    subst hfj
    refine lv_if_eq (tgt := 22) hx hb d_X_reached_8 (by decide) (fun c9 => absurd c9 (by decide +kernel)) (fun _ => ?_)
    refine lv_aload_n hx hb d_X_reached_11 rfl (lv_at hl 0 rfl) ?_
    refine va_get (D := (dC, dI)) (ci := 4) (v := .ref (h 1)) (C := R_X) (T := F_X) (N := 3) hx hb hk k_f_X hown hK hP 0 rfl rfl 0 (by decide) (hk _ k_C_67) (fun _ h9 => h9) rfl d_X_reached_12 ?_
    refine lv_iload_n hx hb d_X_reached_15 rfl (lv_at hl 1 rfl) ?_
    have hFc := va_free (wc := wC h cI (nI nF) (nI nC) yn yt yg ym (fun c => nI (pl c)) (fun c => nI (cf c)) (fun c => nI (ct c)) aK eB eE eA eL eN eC eS eW eT) hD hS hA [0, 1, 2, 3, 4, 5, 6, 7, 8, 9, 10, 11, 12, 13, 14, 15, 16] rfl
    refine va_calli (va_runV (As := [.int (nI i1)]) (rest := []) ⟨hx, hb, hml, hown, hk⟩ (c_P_reachedFrom_ok l dC dI cI h H.size yn yt yg ym aK eB eE eA eL eN eC eS eW eT nF nC pl cf ct i1 (hF) (hC) (hS0) (hpl) (by omega)) (cwV 1 hk g_X_99 rfl rfl rfl (by decide +kernel) ⟨Nat.le_of_ble_eq_true rfl, Nat.le_of_ble_eq_true rfl⟩) ⟨fun a U g mk q => by obtain ⟨q0, q1, qP, qK, qD⟩ := q; exact ⟨q0, q1, qP, va_K.moved (u := U) (U := U.calling g mk a) (Vm.Alike.refl U.vm) qK, qD⟩, va_recv hK hP (ci := 1) (q0 := 1) rfl rfl, fun U hU hW => ⟨rfl, by rw [hU], by rw [hU]; exact hP, va_K.moved hW.alike hK, hD.weaken (fun _ _ _ _ => trivial)⟩⟩ rfl rfl hl.1 rfl (lv_room (Nat.le_of_ble_eq_true rfl)) d_X_reached_16 ⟨Nat.le_of_ble_eq_true rfl, Nat.le_of_ble_eq_true rfl⟩) hS (fun q _ h => hFc q h) hFc (fun r2 u9 t H1 locs ht hvm hw hB hz1 hk1 hS => ?_)
    obtain ⟨hP1, hK1, hD1⟩ := hB
    rw [ht] at hP1
    try dsimp only at hw
    obtain ⟨hP, hD⟩ := va_join (wr := []) (w1 := wC h cI (nI nF) (nI nC) yn yt yg ym (fun c => nI (pl c)) (fun c => nI (cf c)) (fun c => nI (ct c)) aK eB eE eA eL eN eC eS eW eT) hP hD [0, 1, 2, 3, 4, 5, 6, 7, 8, 9, 10, 11, 12, 13, 14, 15, 16] [] rfl rfl (by decide) (by decide) hk1 hFc hP1 hD1
    generalize H1 = H at hP hS ⊢
    have hP : va_P (dC, dI) kls (wC h cI (nI nF) (nI nC) yn yt yg ym (fun c => nI (pl c)) (fun c => nI (cf c)) (fun c => nI (ct c)) aK eB eE eA eL eN eC eS eW eT) H := hP
    have hD : va_D A (wC h cI (nI nF) (nI nC) yn yt yg ym (fun c => nI (pl c)) (fun c => nI (cf c)) (fun c => nI (ct c)) aK eB eE eA eL eN eC eS eW eT) := hD
    subst hw
    refine lv_goto (tgt := 23) hx hb d_X_reached_19 (by decide) ?_
    exact W.iret (v := nI (rcN nC cf ct i1 nF)) hx hb hr (fun t ht hW => ⟨⟨nI (rcN nC cf ct i1 nF), (), rfl, Or.inr ⟨i1, hi1, rfl, rfl⟩, by rw [ht]; exact hP, va_K.moved hW.alike hK, hD⟩, hS.F ht⟩) hS.2.2 d_X_reached_23
  · subst hr9
    refine lv_if_eq (tgt := 22) hx hb d_X_reached_8 (by decide) (fun _ => ?_) (fun c9 => absurd c9 (by decide +kernel))
    refine lv_iconst (v := (-1)) hx hb d_X_reached_22 (by decide +kernel) ?_
    exact W.iret (v := (-1)) hx hb hr (fun t ht hW => ⟨⟨(-1), (), rfl, Or.inl ⟨hno_f, rfl⟩, by rw [ht]; exact hP, va_K.moved hW.alike hK, hD⟩, hS.F ht⟩) hS.2.2 d_X_reached_23
theorem neg1_nlt {n : Nat} (h : n < 2 ^ 31) : ¬ nI n < (-1 : Int32) := by
  intro z
  rw [Int32.lt_iff_toInt_lt, nI_toInt h] at z
  have e1 : (-1 : Int32).toInt = -1 := by decide +kernel
  omega
set_option maxHeartbeats 4000000 in
set_option maxRecDepth 100000 in
theorem c_X_order_ok (l : Launch) (dC : Nat → ClassId) (dI : Nat → Nat → Nat) (cI : ClassId) (h : Nat → Nat) (sz : Nat) (yn yt yg ym : Int32) (aK eB eE eA eL eN eC eS eW eT : Nat → Int32) (nF nC : Nat) (pl cf ct : Nat → Nat) (f q : Int32) (hF : nF ≤ 10) (hC : nC ≤ 20) (hS0 : ∀ c, c < nC → cf c < nF ∧ ct c < nF) (hpl : ∀ i, i < nF → 1 ≤ pl i ∧ pl i ≤ 4) (hcl : ∀ c, c < nC → clN (aK c)) : Met l y_X_order w_X_order ({ frames := 3, cells := 0, slots := 0, locals := 73 }) (va_Pc [.ref (h 0), .int f, .int q] (fun U => U.heap.size = sz ∧ va_P (dC, dI) kls (wC h cI (nI nF) (nI nC) yn yt yg ym (fun c => nI (pl c)) (fun c => nI (cf c)) (fun c => nI (ct c)) aK eB eE eA eL eN eC eS eW eT) U.heap ∧ va_K (dC, dI) kls (tyC cI) U ∧ va_D (fun _ => True) (wC h cI (nI nF) (nI nC) yn yt yg ym (fun c => nI (pl c)) (fun c => nI (cf c)) (fun c => nI (ct c)) aK eB eE eA eL eN eC eS eW eT))) (va_Qi (fun (r : Int32) (u : Int32 × (Nat → Int32)) => ((¬ ∃ i, i < nF ∧ f = nI i) ∧ r = -1) ∨ ∃ i, i < nF ∧ f = nI i ∧ ∃ tl op, oWay nC (at2 aK) (pl i) tl (op0 cf ct i) op ∧ tl.length ≤ 4 ∧ ((¬ oOpen nC op ∧ ((q = -1 ∧ r = nI tl.length) ∨ ((¬ q = -1) ∧ q < 0 ∧ r = -1) ∨ ∃ q1, q1 < 2 ^ 31 ∧ q = nI q1 ∧ ((∃ y, tl[q1]? = some y ∧ r = nI y) ∨ (tl.length ≤ q1 ∧ r = -1)))) ∨ (oOpen nC op ∧ oNone nC (at2 aK) (pl i) op ∧ r = -1))) (fun (u : Int32 × (Nat → Int32)) (t : State) => va_P (dC, dI) kls (wC h cI (nI nF) (nI nC) yn yt yg u.1 (fun c => nI (pl c)) (fun c => nI (cf c)) (fun c => nI (ct c)) aK eB eE eA eL eN eC eS eW u.2) t.heap ∧ va_K (dC, dI) kls (tyC cI) t ∧ va_D (va_A (wC h cI (nI nF) (nI nC) yn yt yg ym (fun c => nI (pl c)) (fun c => nI (cf c)) (fun c => nI (ct c)) aK eB eE eA eL eN eC eS eW eT) sz) (wC h cI (nI nF) (nI nC) yn yt yg u.1 (fun c => nI (pl c)) (fun c => nI (cf c)) (fun c => nI (ct c)) aK eB eE eA eL eN eC eS eW u.2)) (va_A (wC h cI (nI nF) (nI nC) yn yt yg ym (fun c => nI (pl c)) (fun c => nI (cf c)) (fun c => nI (ct c)) aK eB eE eA eL eN eC eS eW eT) sz)) 0 0 (va_A (wC h cI (nI nF) (nI nC) yn yt yg ym (fun c => nI (pl c)) (fun c => nI (cf c)) (fun c => nI (ct c)) aK eB eE eA eL eN eC eS eW eT) sz) := by
  refine Met.ofW (cc := c_X_order) (maxL := 3) (ret := (some .int)) (by decide) rfl ?_
  intro p e s m args below meth c s₁ B hml hv
  obtain ⟨rfl, hsz, hP, hK, hD0⟩ := hv
  have hx := B.exec
  have hb := B.bytes
  have hr := B.returns
  have hts := atoms_spec (ws := w_X_order) B.pre
  have hk : ∀ w ∈ wCw, w.before _ s = true := fun w h => hts w (List.mem_cons_of_mem _ h)
  have hown : s.vm.findClass R_X = some m.cls := findClass_of_methodNamed B.named
  have hlocks := B.notSynchronized
  subst hsz
  have hD := hD0.self (sz := s.heap.size)
  generalize hAe : va_A (wC h cI (nI nF) (nI nC) yn yt yg ym (fun c => nI (pl c)) (fun c => nI (cf c)) (fun c => nI (ct c)) aK eB eE eA eL eN eC eS eW eT) s.heap.size = A at hD ⊢
  have hA : ∀ q : Nat, s.heap.size ≤ q → A q := fun q h => by rw [← hAe]; exact Or.inr h
  have hS : va_S A s.heap s.heap [] := va_S.rf
  have hl := lv_entry ([.ref (h 0), .int f, .int q]) (n := 3) (Nat.le_of_ble_eq_true rfl)
  rw [lg_entry_eq]
  generalize (lg_sl ([.ref (h 0), .int f, .int q]) ++ List.replicate (3 - (lg_sl ([.ref (h 0), .int f, .int q])).length) Slot.unset).toArray = ls at hl ⊢
  have hl : lv_has ls 3 [(0, .ref (h 0)), (1, .int f), (2, .int q)] := hl
  refine lv_aload_n hx hb d_X_order_0 rfl (lv_at hl 0 rfl) ?_
  refine va_get (D := (dC, dI)) (ci := 4) (v := .ref (h 1)) (C := R_X) (T := F_X) (N := 3) hx hb hk k_f_X hown hK hP 0 rfl rfl 0 (by decide) (hk _ k_C_67) (fun _ h9 => h9) rfl d_X_order_1 ?_
  refine lv_iload_n hx hb d_X_order_4 rfl (lv_at hl 1 rfl) ?_
  have hFc := va_free (wc := wC h cI (nI nF) (nI nC) yn yt yg ym (fun c => nI (pl c)) (fun c => nI (cf c)) (fun c => nI (ct c)) aK eB eE eA eL eN eC eS eW eT) hD hS hA [0, 1, 2, 3, 4, 5, 6, 7, 8, 9, 10, 11, 12, 13, 14, 15, 16] rfl
  refine va_calli (va_runV (As := [.int f]) (rest := []) ⟨hx, hb, hml, hown, hk⟩ (c_P_hasFunction_ok l dC dI cI h s.heap.size yn yt yg ym aK eB eE eA eL eN eC eS eW eT nF nC pl cf ct f (by omega)) (cwV 1 hk g_X_53 rfl rfl rfl (by decide +kernel) ⟨Nat.le_of_ble_eq_true rfl, Nat.le_of_ble_eq_true rfl⟩) ⟨fun a U g mk q => by obtain ⟨q0, q1, qP, qK, qD⟩ := q; exact ⟨q0, q1, qP, va_K.moved (u := U) (U := U.calling g mk a) (Vm.Alike.refl U.vm) qK, qD⟩, va_recv hK hP (ci := 1) (q0 := 1) rfl rfl, fun U hU hW => ⟨rfl, by rw [hU], by rw [hU]; exact hP, va_K.moved hW.alike hK, hD.weaken (fun _ _ _ _ => trivial)⟩⟩ rfl rfl hl.1 rfl (lv_room (Nat.le_of_ble_eq_true rfl)) d_X_order_5 ⟨Nat.le_of_ble_eq_true rfl, Nat.le_of_ble_eq_true rfl⟩) hS (fun q _ h => hFc q h) hFc (fun r1 u9 t H1 locs ht hvm hw hB hz1 hk1 hS => ?_)
  obtain ⟨hP1, hK1, hD1⟩ := hB
  rw [ht] at hP1
  try dsimp only at hw
  obtain ⟨hP, hD⟩ := va_join (wr := []) (w1 := wC h cI (nI nF) (nI nC) yn yt yg ym (fun c => nI (pl c)) (fun c => nI (cf c)) (fun c => nI (ct c)) aK eB eE eA eL eN eC eS eW eT) hP hD [0, 1, 2, 3, 4, 5, 6, 7, 8, 9, 10, 11, 12, 13, 14, 15, 16] [] rfl rfl (by decide) (by decide) hk1 hFc hP1 hD1
  generalize H1 = H at hP hS ⊢
  have hP : va_P (dC, dI) kls (wC h cI (nI nF) (nI nC) yn yt yg ym (fun c => nI (pl c)) (fun c => nI (cf c)) (fun c => nI (ct c)) aK eB eE eA eL eN eC eS eW eT) H := hP
  have hD : va_D A (wC h cI (nI nF) (nI nC) yn yt yg ym (fun c => nI (pl c)) (fun c => nI (cf c)) (fun c => nI (ct c)) aK eB eE eA eL eN eC eS eW eT) := hD
  rcases hw with ⟨hr9, i1, hi1, hfj⟩ | ⟨hr9, hno_f⟩
  · subst hr9
    subst hfj
    refine lv_if_ne (tgt := 13) hx hb d_X_order_8 (by decide) (fun _ => ?_) (fun c9 => absurd c9 (by decide +kernel))
    refine lv_aload_n hx hb d_X_order_13 rfl (lv_at hl 0 rfl) ?_
    refine va_get (D := (dC, dI)) (ci := 4) (v := .ref (h 15)) (C := R_X) (T := F_X) (N := 3) hx hb hk k_f_X hown hK hP 0 rfl rfl 2 (by decide) (hk _ k_C_69) (fun _ h9 => h9) rfl d_X_order_14 ?_
    refine lv_aload_n hx hb d_X_order_17 rfl (lv_at hl 0 rfl) ?_
    refine va_get (D := (dC, dI)) (ci := 4) (v := .ref (h 1)) (C := R_X) (T := F_X) (N := 3) hx hb hk k_f_X hown hK hP 0 rfl rfl 0 (by decide) (hk _ k_C_67) (fun _ h9 => h9) rfl d_X_order_18 ?_
    refine lv_iload_n hx hb d_X_order_21 rfl (lv_at hl 1 rfl) ?_
    have hFc := va_free (wc := wC h cI (nI nF) (nI nC) yn yt yg ym (fun c => nI (pl c)) (fun c => nI (cf c)) (fun c => nI (ct c)) aK eB eE eA eL eN eC eS eW eT) hD hS hA [0, 1, 2, 3, 4, 5, 6, 7, 8, 9, 10, 11, 12, 13, 14, 15, 16] rfl
    refine va_callv (va_runV (As := [.ref (h 1), .int (nI i1)]) (rest := []) ⟨hx, hb, hml, hown, hk⟩ (c_O_find_ok l dC dI cI h H.size yn yt yg ym aK eB eE eA eL eN eC eS eW eT nF nC pl cf ct i1 (hF) (hC) (hS0) (hpl) (hi1) (hcl)) (cwV 2 hk g_X_108 rfl rfl rfl (by decide +kernel) ⟨Nat.le_of_ble_eq_true rfl, Nat.le_of_ble_eq_true rfl⟩) ⟨fun a U g mk q => by obtain ⟨q0, q1, qP, qK, qD⟩ := q; exact ⟨q0, q1, qP, va_K.moved (u := U) (U := U.calling g mk a) (Vm.Alike.refl U.vm) qK, qD⟩, va_recv hK hP (ci := 3) (q0 := 15) rfl rfl, fun U hU hW => ⟨rfl, by rw [hU], by rw [hU]; exact hP, va_K.moved hW.alike hK, hD.weaken (fun _ _ _ _ => trivial)⟩⟩ rfl rfl hl.1 rfl (lv_room (Nat.le_of_ble_eq_true rfl)) d_X_order_22 ⟨Nat.le_of_ble_eq_true rfl, Nat.le_of_ble_eq_true rfl⟩) hS (fun q _ h => hFc q h) hFc (fun u9 t H1 locs ht hvm hw hB hz1 hk1 hS => ?_)
    obtain ⟨ym9, eT9⟩ := u9
    obtain ⟨hP1, hK1, hD1⟩ := hB
    rw [ht] at hP1
    try dsimp only at hw
    obtain ⟨hP, hD⟩ := va_join (wr := []) (w1 := wC h cI (nI nF) (nI nC) yn yt yg ym9 (fun c => nI (pl c)) (fun c => nI (cf c)) (fun c => nI (ct c)) aK eB eE eA eL eN eC eS eW eT9) hP hD [0, 1, 2, 3, 4, 5, 6, 7, 8, 9, 10, 11, 12, 13, 14, 15, 16] [] rfl rfl (by decide) (by decide) hk1 hFc hP1 hD1
    generalize H1 = H at hP hS ⊢
    have hP : va_P (dC, dI) kls (wC h cI (nI nF) (nI nC) yn yt yg ym9 (fun c => nI (pl c)) (fun c => nI (cf c)) (fun c => nI (ct c)) aK eB eE eA eL eN eC eS eW eT9) H := hP
    have hD : va_D A (wC h cI (nI nF) (nI nC) yn yt yg ym9 (fun c => nI (pl c)) (fun c => nI (cf c)) (fun c => nI (ct c)) aK eB eE eA eL eN eC eS eW eT9) := hD
    obtain ⟨tl, op, hway, htl4, hw⟩ := hw
    rcases hw with ⟨hopn, hu9, hR9⟩ | ⟨hopn, hnon, hu9⟩
    · subst hu9
      refine lv_iload_n hx hb d_X_order_25 rfl (lv_at hl 2 rfl) ?_
      refine lv_iconst (v := (-1)) hx hb d_X_order_26 (by decide +kernel) ?_
      refine lv_icmp_ne (tgt := 38) hx hb d_X_order_27 (by decide) (fun c_27 => ?_) (fun c_27 => ?_)
      · refine lv_iload_n hx hb d_X_order_38 rfl (lv_at hl 2 rfl) ?_
        refine lv_if_lt (tgt := 53) hx hb d_X_order_39 (by decide) (fun c_39 => ?_) (fun c_39 => ?_)
        · refine lv_iconst (v := (-1)) hx hb d_X_order_53 (by decide +kernel) ?_
          exact W.iret (v := (-1)) hx hb hr (fun t ht hW => ⟨⟨(-1), (nI tl.length, eT9), rfl, Or.inr ⟨i1, hi1, rfl, tl, op, hway, htl4, Or.inl ⟨hopn, Or.inr (Or.inl ⟨c_27, c_39, rfl⟩)⟩⟩, by rw [ht]; exact hP, va_K.moved hW.alike hK, hD⟩, hS.F ht⟩) hS.2.2 d_X_order_54
        · obtain ⟨q1, hq1, rfl⟩ := nI_of c_39
          refine lv_iload_n hx hb d_X_order_42 rfl (lv_at hl 2 rfl) ?_
          refine lv_aload_n hx hb d_X_order_43 rfl (lv_at hl 0 rfl) ?_
          refine va_get (D := (dC, dI)) (ci := 4) (v := .ref (h 15)) (C := R_X) (T := F_X) (N := 3) hx hb hk k_f_X hown hK hP 0 rfl rfl 2 (by decide) (hk _ k_C_69) (fun _ h9 => h9) rfl d_X_order_44 ?_
          refine va_get (D := (dC, dI)) (ci := 3) (v := .int (nI tl.length)) (C := R_O) (T := F_O) (N := 2) hx hb hk k_f_O hown hK hP 15 rfl rfl 1 (by decide) (hk _ k_C_66) (fun _ h9 => h9) rfl d_X_order_47 ?_
          refine lv_icmp_lt (tgt := 55) hx hb d_X_order_50 (by decide) (fun c_50 => ?_) (fun c_50 => ?_)
          · have c_50 : q1 < tl.length := (nI_ltI (a := q1) (b := tl.length) (by omega) (by omega)).mp c_50
            refine lv_aload_n hx hb d_X_order_55 rfl (lv_at hl 0 rfl) ?_
            refine va_get (D := (dC, dI)) (ci := 4) (v := .ref (h 15)) (C := R_X) (T := F_X) (N := 3) hx hb hk k_f_X hown hK hP 0 rfl rfl 2 (by decide) (hk _ k_C_69) (fun _ h9 => h9) rfl d_X_order_56 ?_
            refine va_get (D := (dC, dI)) (ci := 3) (v := .ref (h 16)) (C := R_O) (T := F_O) (N := 2) hx hb hk k_f_O hown hK hP 15 rfl rfl 0 (by decide) (hk _ k_C_64) (fun _ h9 => h9) rfl d_X_order_59 ?_
            refine lv_iload_n hx hb d_X_order_62 rfl (lv_at hl 2 rfl) ?_
            refine va_iald hx hb hK hP 16 0 rfl rfl (pk_in q1 4 (by omega)) d_X_order_63 ?_
            refine lv_topi (fun z3 ez3 => ?_)
            obtain rfl : z3 = eT9 q1 := ez3.trans (rd (f := eT9) (k := q1) (by omega))
            obtain ⟨y9, hy9⟩ : ∃ y9, tl[q1]? = some y9 := ⟨_, List.getElem?_eq_getElem (by omega)⟩
            exact W.iret (v := eT9 q1) hx hb hr (fun t ht hW => ⟨⟨eT9 q1, (nI tl.length, eT9), rfl, Or.inr ⟨i1, hi1, rfl, tl, op, hway, htl4, Or.inl ⟨hopn, Or.inr (Or.inr ⟨q1, hq1, rfl, Or.inl ⟨y9, hy9, hR9 q1 y9 hy9⟩⟩)⟩⟩, by rw [ht]; exact hP, va_K.moved hW.alike hK, hD⟩, hS.F ht⟩) hS.2.2 d_X_order_64
          · have c_50 : ¬ q1 < tl.length := fun z9 => c_50 ((nI_ltI (a := q1) (b := tl.length) (by omega) (by omega)).mpr z9)
            refine lv_iconst (v := (-1)) hx hb d_X_order_53 (by decide +kernel) ?_
            exact W.iret (v := (-1)) hx hb hr (fun t ht hW => ⟨⟨(-1), (nI tl.length, eT9), rfl, Or.inr ⟨i1, hi1, rfl, tl, op, hway, htl4, Or.inl ⟨hopn, Or.inr (Or.inr ⟨q1, hq1, rfl, Or.inr ⟨by omega, rfl⟩⟩)⟩⟩, by rw [ht]; exact hP, va_K.moved hW.alike hK, hD⟩, hS.F ht⟩) hS.2.2 d_X_order_54
      · refine lv_aload_n hx hb d_X_order_30 rfl (lv_at hl 0 rfl) ?_
        refine va_get (D := (dC, dI)) (ci := 4) (v := .ref (h 15)) (C := R_X) (T := F_X) (N := 3) hx hb hk k_f_X hown hK hP 0 rfl rfl 2 (by decide) (hk _ k_C_69) (fun _ h9 => h9) rfl d_X_order_31 ?_
        refine va_get (D := (dC, dI)) (ci := 3) (v := .int (nI tl.length)) (C := R_O) (T := F_O) (N := 2) hx hb hk k_f_O hown hK hP 15 rfl rfl 1 (by decide) (hk _ k_C_66) (fun _ h9 => h9) rfl d_X_order_34 ?_
        exact W.iret (v := nI tl.length) hx hb hr (fun t ht hW => ⟨⟨nI tl.length, (nI tl.length, eT9), rfl, Or.inr ⟨i1, hi1, rfl, tl, op, hway, htl4, Or.inl ⟨hopn, Or.inl ⟨c_27, rfl⟩⟩⟩, by rw [ht]; exact hP, va_K.moved hW.alike hK, hD⟩, hS.F ht⟩) hS.2.2 d_X_order_37
    · subst hu9
      refine lv_iload_n hx hb d_X_order_25 rfl (lv_at hl 2 rfl) ?_
      refine lv_iconst (v := (-1)) hx hb d_X_order_26 (by decide +kernel) ?_
      refine lv_icmp_ne (tgt := 38) hx hb d_X_order_27 (by decide) (fun c_27 => ?_) (fun c_27 => ?_)
      · refine lv_iload_n hx hb d_X_order_38 rfl (lv_at hl 2 rfl) ?_
        refine lv_if_lt (tgt := 53) hx hb d_X_order_39 (by decide) (fun c_39 => ?_) (fun c_39 => ?_)
        · refine lv_iconst (v := (-1)) hx hb d_X_order_53 (by decide +kernel) ?_
          exact W.iret (v := (-1)) hx hb hr (fun t ht hW => ⟨⟨(-1), ((-1), eT9), rfl, Or.inr ⟨i1, hi1, rfl, tl, op, hway, htl4, Or.inr ⟨hopn, hnon, rfl⟩⟩, by rw [ht]; exact hP, va_K.moved hW.alike hK, hD⟩, hS.F ht⟩) hS.2.2 d_X_order_54
        · obtain ⟨q1, hq1, rfl⟩ := nI_of c_39
          refine lv_iload_n hx hb d_X_order_42 rfl (lv_at hl 2 rfl) ?_
          refine lv_aload_n hx hb d_X_order_43 rfl (lv_at hl 0 rfl) ?_
          refine va_get (D := (dC, dI)) (ci := 4) (v := .ref (h 15)) (C := R_X) (T := F_X) (N := 3) hx hb hk k_f_X hown hK hP 0 rfl rfl 2 (by decide) (hk _ k_C_69) (fun _ h9 => h9) rfl d_X_order_44 ?_
          refine va_get (D := (dC, dI)) (ci := 3) (v := .int (-1)) (C := R_O) (T := F_O) (N := 2) hx hb hk k_f_O hown hK hP 15 rfl rfl 1 (by decide) (hk _ k_C_66) (fun _ h9 => h9) rfl d_X_order_47 ?_
          refine lv_icmp_lt (tgt := 55) hx hb d_X_order_50 (by decide) (fun c_50 => ?_) (fun c_50 => ?_)
          · exact absurd c_50 (neg1_nlt (by omega))
          · refine lv_iconst (v := (-1)) hx hb d_X_order_53 (by decide +kernel) ?_
            exact W.iret (v := (-1)) hx hb hr (fun t ht hW => ⟨⟨(-1), ((-1), eT9), rfl, Or.inr ⟨i1, hi1, rfl, tl, op, hway, htl4, Or.inr ⟨hopn, hnon, rfl⟩⟩, by rw [ht]; exact hP, va_K.moved hW.alike hK, hD⟩, hS.F ht⟩) hS.2.2 d_X_order_54
      · refine lv_aload_n hx hb d_X_order_30 rfl (lv_at hl 0 rfl) ?_
        refine va_get (D := (dC, dI)) (ci := 4) (v := .ref (h 15)) (C := R_X) (T := F_X) (N := 3) hx hb hk k_f_X hown hK hP 0 rfl rfl 2 (by decide) (hk _ k_C_69) (fun _ h9 => h9) rfl d_X_order_31 ?_
        refine va_get (D := (dC, dI)) (ci := 3) (v := .int (-1)) (C := R_O) (T := F_O) (N := 2) hx hb hk k_f_O hown hK hP 15 rfl rfl 1 (by decide) (hk _ k_C_66) (fun _ h9 => h9) rfl d_X_order_34 ?_
        exact W.iret (v := (-1)) hx hb hr (fun t ht hW => ⟨⟨(-1), ((-1), eT9), rfl, Or.inr ⟨i1, hi1, rfl, tl, op, hway, htl4, Or.inr ⟨hopn, hnon, rfl⟩⟩, by rw [ht]; exact hP, va_K.moved hW.alike hK, hD⟩, hS.F ht⟩) hS.2.2 d_X_order_37
  · subst hr9
    refine lv_if_ne (tgt := 13) hx hb d_X_order_8 (by decide) (fun c9 => absurd c9 (by decide +kernel)) (fun _ => ?_)
    refine lv_iconst (v := (-1)) hx hb d_X_order_11 (by decide +kernel) ?_
    exact W.iret (v := (-1)) hx hb hr (fun t ht hW => ⟨⟨(-1), (ym, eT), rfl, Or.inl ⟨hno_f, rfl⟩, by rw [ht]; exact hP, va_K.moved hW.alike hK, hD⟩, hS.F ht⟩) hS.2.2 d_X_order_12
set_option maxHeartbeats 4000000 in
set_option maxRecDepth 100000 in
theorem c_X_product_ok (l : Launch) (dC : Nat → ClassId) (dI : Nat → Nat → Nat) (cI : ClassId) (h : Nat → Nat) (sz : Nat) (yn yt yg ym : Int32) (aK eB eE eA eL eN eC eS eW eT : Nat → Int32) (nF nC : Nat) (pl cf ct : Nat → Nat) (x : Int64) (q : Int32) (hF : nF ≤ 10) (hC : nC ≤ 20) (hS0 : ∀ c, c < nC → cf c < nF ∧ ct c < nF) (hpl : ∀ i, i < nF → 1 ≤ pl i ∧ pl i ≤ 4) : Met l y_X_product w_X_product ({ frames := 2, cells := 0, slots := 0, locals := 47 }) (va_Pc [.ref (h 0), .long x, .int q] (fun U => U.heap.size = sz ∧ va_P (dC, dI) kls (wC h cI (nI nF) (nI nC) yn yt yg ym (fun c => nI (pl c)) (fun c => nI (cf c)) (fun c => nI (ct c)) aK eB eE eA eL eN eC eS eW eT) U.heap ∧ va_K (dC, dI) kls (tyC cI) U ∧ va_D (fun _ => True) (wC h cI (nI nF) (nI nC) yn yt yg ym (fun c => nI (pl c)) (fun c => nI (cf c)) (fun c => nI (ct c)) aK eB eE eA eL eN eC eS eW eT))) (va_Qi (fun (r : Int32) (u : Unit) => ((¬ ∃ j, 1 ≤ j ∧ j ≤ 12 ∧ q = nI j) ∧ r = -2) ∨ ∃ j, 1 ≤ j ∧ j ≤ 12 ∧ q = nI j ∧ ((∃ z, prN nC cf ct aK cj x j = some z ∧ r = z.1) ∨ (prN nC cf ct aK cj x j = none ∧ r = -2))) (fun (u : Unit) (t : State) => va_P (dC, dI) kls (wC h cI (nI nF) (nI nC) yn yt yg ym (fun c => nI (pl c)) (fun c => nI (cf c)) (fun c => nI (ct c)) aK eB eE eA eL eN eC eS eW eT) t.heap ∧ va_K (dC, dI) kls (tyC cI) t ∧ va_D (va_A (wC h cI (nI nF) (nI nC) yn yt yg ym (fun c => nI (pl c)) (fun c => nI (cf c)) (fun c => nI (ct c)) aK eB eE eA eL eN eC eS eW eT) sz) (wC h cI (nI nF) (nI nC) yn yt yg ym (fun c => nI (pl c)) (fun c => nI (cf c)) (fun c => nI (ct c)) aK eB eE eA eL eN eC eS eW eT)) (va_A (wC h cI (nI nF) (nI nC) yn yt yg ym (fun c => nI (pl c)) (fun c => nI (cf c)) (fun c => nI (ct c)) aK eB eE eA eL eN eC eS eW eT) sz)) 0 0 (va_A (wC h cI (nI nF) (nI nC) yn yt yg ym (fun c => nI (pl c)) (fun c => nI (cf c)) (fun c => nI (ct c)) aK eB eE eA eL eN eC eS eW eT) sz) := by
  refine Met.ofW (cc := c_X_product) (maxL := 8) (ret := (some .int)) (by decide) rfl ?_
  intro p e s m args below meth c s₁ B hml hv
  obtain ⟨rfl, hsz, hP, hK, hD0⟩ := hv
  have hx := B.exec
  have hb := B.bytes
  have hr := B.returns
  have hts := atoms_spec (ws := w_X_product) B.pre
  have hk : ∀ w ∈ wCw, w.before _ s = true := fun w h => hts w (List.mem_cons_of_mem _ h)
  have hown : s.vm.findClass R_X = some m.cls := findClass_of_methodNamed B.named
  have hlocks := B.notSynchronized
  subst hsz
  have hD := hD0.self (sz := s.heap.size)
  generalize hAe : va_A (wC h cI (nI nF) (nI nC) yn yt yg ym (fun c => nI (pl c)) (fun c => nI (cf c)) (fun c => nI (ct c)) aK eB eE eA eL eN eC eS eW eT) s.heap.size = A at hD ⊢
  have hA : ∀ q : Nat, s.heap.size ≤ q → A q := fun q h => by rw [← hAe]; exact Or.inr h
  have hS : va_S A s.heap s.heap [] := va_S.rf
  have hl := lv_entry ([.ref (h 0), .long x, .int q]) (n := 8) (Nat.le_of_ble_eq_true rfl)
  rw [lg_entry_eq]
  generalize (lg_sl ([.ref (h 0), .long x, .int q]) ++ List.replicate (8 - (lg_sl ([.ref (h 0), .long x, .int q])).length) Slot.unset).toArray = ls at hl ⊢
  have hl : lv_has ls 8 [(0, .ref (h 0)), (1, .long x), (3, .int q)] := hl
  refine lv_iload_n hx hb d_X_product_0 rfl (lv_at hl 2 rfl) ?_
  refine lv_iconst (v := nI 1) hx hb d_X_product_1 (by decide +kernel) ?_
  refine lv_icmp_lt (tgt := 11) hx hb d_X_product_2 (by decide) (fun c_2 => ?_) (fun c_2 => ?_)
  · refine lv_bipush (v := (-2)) hx hb d_X_product_11 (by decide +kernel) ?_
    exact W.iret (v := (-2)) hx hb hr (fun t ht hW => ⟨⟨(-2), (), rfl, Or.inl ⟨no12 (by first | exact Or.inl c_2 | exact Or.inr c_8), rfl⟩, by rw [ht]; exact hP, va_K.moved hW.alike hK, hD⟩, hS.F ht⟩) hS.2.2 d_X_product_13
  · refine lv_iload_n hx hb d_X_product_5 rfl (lv_at hl 2 rfl) ?_
    refine lv_bipush (v := nI 12) hx hb d_X_product_6 (by decide +kernel) ?_
    refine lv_icmp_le (tgt := 14) hx hb d_X_product_8 (by decide) (fun c_8 => ?_) (fun c_8 => ?_)
    · obtain ⟨n1, hn1, hn2, rfl⟩ := in12 c_2 c_8
      refine lv_lload_n hx hb d_X_product_14 rfl (lv_at hl 1 rfl) ?_
      refine lv_iconst (v := nI 0) hx hb d_X_product_15 (by decide +kernel) ?_
      refine vp_callSi (W.runS (As := [.long x, .int (nI 0)]) (rest := []) ⟨hx, hb, hml, hown, hk⟩ (c_X_numberInRow_ok l x 0 (by omega)) (va_cwS 2 hk g_X_118 rfl rfl rfl (by decide +kernel) ⟨Nat.le_of_ble_eq_true rfl, Nat.le_of_ble_eq_true rfl⟩) ⟨fun a U g mk q => q, fun U hU hW => ⟨rfl, trivial⟩⟩ rfl rfl hl.1 rfl (lv_room (Nat.le_of_ble_eq_true rfl)) d_X_product_16 ⟨Nat.le_of_ble_eq_true rfl, Nat.le_of_ble_eq_true rfl⟩) (fun r1 hw => ?_)
      subst hw
      have hnl0 := numR_lt x 0
      refine lv_istore (lv' := [(4, .int (nI (numR x 0))), (0, .ref (h 0)), (1, .long x), (3, .int (nI n1))]) hx hb d_X_product_19 hl (by decide) rfl (fun ls hl => ?_)
      refine lv_aload_n hx hb d_X_product_21 rfl (lv_at hl 1 rfl) ?_
      refine va_get (D := (dC, dI)) (ci := 4) (v := .ref (h 1)) (C := R_X) (T := F_X) (N := 3) hx hb hk k_f_X hown hK hP 0 rfl rfl 0 (by decide) (hk _ k_C_67) (fun _ h9 => h9) rfl d_X_product_22 ?_
      refine lv_iload hx hb d_X_product_25 (lv_at hl 0 rfl) ?_
      have hFc := va_free (wc := wC h cI (nI nF) (nI nC) yn yt yg ym (fun c => nI (pl c)) (fun c => nI (cf c)) (fun c => nI (ct c)) aK eB eE eA eL eN eC eS eW eT) hD hS hA [0, 1, 2, 3, 4, 5, 6, 7, 8, 9, 10, 11, 12, 13, 14, 15, 16] rfl
      refine va_calli (va_runV (As := [.int (nI (numR x 0))]) (rest := []) ⟨hx, hb, hml, hown, hk⟩ (c_P_hasCall_ok l dC dI cI h s.heap.size yn yt yg ym aK eB eE eA eL eN eC eS eW eT nC nF pl cf ct (nI (numR x 0)) (by omega)) (cwV 1 hk g_X_71 rfl rfl rfl (by decide +kernel) ⟨Nat.le_of_ble_eq_true rfl, Nat.le_of_ble_eq_true rfl⟩) ⟨fun a U g mk q => by obtain ⟨q0, q1, qP, qK, qD⟩ := q; exact ⟨q0, q1, qP, va_K.moved (u := U) (U := U.calling g mk a) (Vm.Alike.refl U.vm) qK, qD⟩, va_recv hK hP (ci := 1) (q0 := 1) rfl rfl, fun U hU hW => ⟨rfl, by rw [hU], by rw [hU]; exact hP, va_K.moved hW.alike hK, hD.weaken (fun _ _ _ _ => trivial)⟩⟩ rfl rfl hl.1 rfl (lv_room (Nat.le_of_ble_eq_true rfl)) d_X_product_27 ⟨Nat.le_of_ble_eq_true rfl, Nat.le_of_ble_eq_true rfl⟩) hS (fun q _ h => hFc q h) hFc (fun r2 u9 t H1 locs ht hvm hw hB hz1 hk1 hS => ?_)
      obtain ⟨hP1, hK1, hD1⟩ := hB
      rw [ht] at hP1
      try dsimp only at hw
      obtain ⟨hP, hD⟩ := va_join (wr := []) (w1 := wC h cI (nI nF) (nI nC) yn yt yg ym (fun c => nI (pl c)) (fun c => nI (cf c)) (fun c => nI (ct c)) aK eB eE eA eL eN eC eS eW eT) hP hD [0, 1, 2, 3, 4, 5, 6, 7, 8, 9, 10, 11, 12, 13, 14, 15, 16] [] rfl rfl (by decide) (by decide) hk1 hFc hP1 hD1
      generalize H1 = H at hP hS ⊢
      have hP : va_P (dC, dI) kls (wC h cI (nI nF) (nI nC) yn yt yg ym (fun c => nI (pl c)) (fun c => nI (cf c)) (fun c => nI (ct c)) aK eB eE eA eL eN eC eS eW eT) H := hP
      have hD : va_D A (wC h cI (nI nF) (nI nC) yn yt yg ym (fun c => nI (pl c)) (fun c => nI (cf c)) (fun c => nI (ct c)) aK eB eE eA eL eN eC eS eW eT) := hD
      rcases hw with ⟨hr9, jj, hjj, hfj⟩ | ⟨hr9, hno9⟩
      · subst hr9
        have h_hc : numR x 0 < nC := by have := (nI_eq (by omega) (by omega)).mp hfj; omega
        clear hfj hjj
        refine lv_if_ne (tgt := 36) hx hb d_X_product_30 (by decide) (fun _ => ?_) (fun c9 => absurd c9 (by decide +kernel))
        refine lv_aload_n hx hb d_X_product_36 rfl (lv_at hl 1 rfl) ?_
        refine va_get (D := (dC, dI)) (ci := 4) (v := .ref (h 1)) (C := R_X) (T := F_X) (N := 3) hx hb hk k_f_X hown hK hP 0 rfl rfl 0 (by decide) (hk _ k_C_67) (fun _ h9 => h9) rfl d_X_product_37 ?_
        refine va_get (D := (dC, dI)) (ci := 1) (v := .ref (h 5)) (C := R_P) (T := F_P) (N := 6) hx hb hk k_f_P hown hK hP 1 rfl rfl 3 (by decide) (hk _ k_C_31) (fun _ h9 => h9) rfl d_X_product_40 ?_
        refine lv_iload hx hb d_X_product_43 (lv_at hl 0 rfl) ?_
        refine va_iald hx hb hK hP 5 0 rfl rfl (pk_in (numR x 0) 20 (by omega)) d_X_product_45 ?_
        refine lv_topi (fun z3 ez3 => ?_)
        obtain rfl : z3 = aK (numR x 0) := ez3.trans (rd (f := aK) (k := numR x 0) (by omega))
        refine lv_istore (lv' := [(5, .int (aK (numR x 0))), (4, .int (nI (numR x 0))), (0, .ref (h 0)), (1, .long x), (3, .int (nI n1))]) hx hb d_X_product_46 hl (by decide) rfl (fun ls hl => ?_)
        refine lv_iconst (v := nI 1) hx hb d_X_product_48 (by decide +kernel) ?_
        refine lv_istore (lv' := [(6, .int (nI 1)), (5, .int (aK (numR x 0))), (4, .int (nI (numR x 0))), (0, .ref (h 0)), (1, .long x), (3, .int (nI n1))]) hx hb d_X_product_49 hl (by decide) rfl (fun ls hl => ?_)
        have hp1 : prN nC cf ct aK cj x 1 = some (aK (numR x 0), ct (numR x 0)) := by rw [prN, if_pos h_hc]
        have lp : ∀ (n_lp : Nat) (k : Nat) (y9 : Nat) (bb : Int32), (1 ≤ k ∧ k ≤ n1) → (y9 < nC) → (prN nC cf ct aK cj x k = some (bb, ct y9)) → n1 - k < n_lp → ∀ (H : Heap) (locs : List Loc) (ls : Array Slot), va_P (dC, dI) kls (wC h cI (nI nF) (nI nC) yn yt yg ym (fun c => nI (pl c)) (fun c => nI (cf c)) (fun c => nI (ct c)) aK eB eE eA eL eN eC eS eW eT) H → va_D A (wC h cI (nI nF) (nI nC) yn yt yg ym (fun c => nI (pl c)) (fun c => nI (cf c)) (fun c => nI (ct c)) aK eB eE eA eL eN eC eS eW eT) → va_S A s.heap H locs → lv_has ls 8 [(0, .ref (h 0)), (1, .long x), (3, .int (nI n1)), (4, .int (nI y9)), (5, .int bb), (6, .int (nI k))] → W p l e (headSpec w_X_product ({ frames := 2, cells := 0, slots := 0, locals := 47 })).room s m ([.ref (h 0), .long x, .int (nI n1)]).toArray below meth c H locs 0 0 (MQ below (va_Qi (fun (r : Int32) (u : Unit) => ((¬ ∃ j, 1 ≤ j ∧ j ≤ 12 ∧ (nI n1) = nI j) ∧ r = -2) ∨ ∃ j, 1 ≤ j ∧ j ≤ 12 ∧ (nI n1) = nI j ∧ ((∃ z, prN nC cf ct aK cj x j = some z ∧ r = z.1) ∨ (prN nC cf ct aK cj x j = none ∧ r = -2))) (fun (u : Unit) (t : State) => va_P (dC, dI) kls (wC h cI (nI nF) (nI nC) yn yt yg ym (fun c => nI (pl c)) (fun c => nI (cf c)) (fun c => nI (ct c)) aK eB eE eA eL eN eC eS eW eT) t.heap ∧ va_K (dC, dI) kls (tyC cI) t ∧ va_D (A) (wC h cI (nI nF) (nI nC) yn yt yg ym (fun c => nI (pl c)) (fun c => nI (cf c)) (fun c => nI (ct c)) aK eB eE eA eL eN eC eS eW eT)) A) ([.ref (h 0), .long x, .int (nI n1)]).toArray s 0 0 A) (F0 m 51 ls []) := by
          intro n_lp
          induction n_lp with
          | zero => intro k y9 bb hk0 hy hst hn; exact absurd hn (Nat.not_lt_zero _)
          | succ n_lp ih_lp =>
            intro k y9 bb hk0 hy hst hn H locs ls hP hD hS hl
            refine lv_iload hx hb d_X_product_51 (lv_at hl 5 rfl) ?_
            refine lv_iload_n hx hb d_X_product_53 rfl (lv_at hl 2 rfl) ?_
            refine lv_icmp_ge (tgt := 130) hx hb d_X_product_54 (by decide) (fun c_54 => ?_) (fun c_54 => ?_)
            · have c_54 : n1 ≤ k := (nI_leI (a := n1) (b := k) (by omega) (by omega)).mp c_54
              refine lv_iload hx hb d_X_product_130 (lv_at hl 4 rfl) ?_
              have hke : k = n1 := by omega
              exact W.iret (v := bb) hx hb hr (fun t ht hW => ⟨⟨bb, (), rfl, Or.inr ⟨n1, hn1, hn2, rfl, Or.inl ⟨(bb, ct y9), by rw [← hke]; exact hst, rfl⟩⟩, by rw [ht]; exact hP, va_K.moved hW.alike hK, hD⟩, hS.F ht⟩) hS.2.2 d_X_product_132
            · have c_54 : ¬ n1 ≤ k := fun z9 => c_54 ((nI_leI (a := n1) (b := k) (by omega) (by omega)).mpr z9)
              refine lv_lload_n hx hb d_X_product_57 rfl (lv_at hl 1 rfl) ?_
              refine lv_iload hx hb d_X_product_58 (lv_at hl 5 rfl) ?_
              refine vp_callSi (W.runS (As := [.long x, .int (nI k)]) (rest := []) ⟨hx, hb, hml, hown, hk⟩ (c_X_numberInRow_ok l x k (by omega)) (va_cwS 2 hk g_X_118 rfl rfl rfl (by decide +kernel) ⟨Nat.le_of_ble_eq_true rfl, Nat.le_of_ble_eq_true rfl⟩) ⟨fun a U g mk q => q, fun U hU hW => ⟨rfl, trivial⟩⟩ rfl rfl hl.1 rfl (lv_room (Nat.le_of_ble_eq_true rfl)) d_X_product_60 ⟨Nat.le_of_ble_eq_true rfl, Nat.le_of_ble_eq_true rfl⟩) (fun r4 hw => ?_)
              subst hw
              have hnlk := numR_lt x k
              refine lv_istore (lv' := [(7, .int (nI (numR x k))), (0, .ref (h 0)), (1, .long x), (3, .int (nI n1)), (4, .int (nI y9)), (5, .int bb), (6, .int (nI k))]) hx hb d_X_product_63 hl (by decide) rfl (fun ls hl => ?_)
              refine lv_aload_n hx hb d_X_product_65 rfl (lv_at hl 1 rfl) ?_
              refine va_get (D := (dC, dI)) (ci := 4) (v := .ref (h 1)) (C := R_X) (T := F_X) (N := 3) hx hb hk k_f_X hown hK hP 0 rfl rfl 0 (by decide) (hk _ k_C_67) (fun _ h9 => h9) rfl d_X_product_66 ?_
              refine lv_iload hx hb d_X_product_69 (lv_at hl 0 rfl) ?_
              have hFc := va_free (wc := wC h cI (nI nF) (nI nC) yn yt yg ym (fun c => nI (pl c)) (fun c => nI (cf c)) (fun c => nI (ct c)) aK eB eE eA eL eN eC eS eW eT) hD hS hA [0, 1, 2, 3, 4, 5, 6, 7, 8, 9, 10, 11, 12, 13, 14, 15, 16] rfl
              refine va_calli (va_runV (As := [.int (nI (numR x k))]) (rest := []) ⟨hx, hb, hml, hown, hk⟩ (c_P_hasCall_ok l dC dI cI h H.size yn yt yg ym aK eB eE eA eL eN eC eS eW eT nC nF pl cf ct (nI (numR x k)) (by omega)) (cwV 1 hk g_X_71 rfl rfl rfl (by decide +kernel) ⟨Nat.le_of_ble_eq_true rfl, Nat.le_of_ble_eq_true rfl⟩) ⟨fun a U g mk q => by obtain ⟨q0, q1, qP, qK, qD⟩ := q; exact ⟨q0, q1, qP, va_K.moved (u := U) (U := U.calling g mk a) (Vm.Alike.refl U.vm) qK, qD⟩, va_recv hK hP (ci := 1) (q0 := 1) rfl rfl, fun U hU hW => ⟨rfl, by rw [hU], by rw [hU]; exact hP, va_K.moved hW.alike hK, hD.weaken (fun _ _ _ _ => trivial)⟩⟩ rfl rfl hl.1 rfl (lv_room (Nat.le_of_ble_eq_true rfl)) d_X_product_71 ⟨Nat.le_of_ble_eq_true rfl, Nat.le_of_ble_eq_true rfl⟩) hS (fun q _ h => hFc q h) hFc (fun r5 u9 t H1 locs ht hvm hw hB hz1 hk1 hS => ?_)
              obtain ⟨hP1, hK1, hD1⟩ := hB
              rw [ht] at hP1
              try dsimp only at hw
              obtain ⟨hP, hD⟩ := va_join (wr := []) (w1 := wC h cI (nI nF) (nI nC) yn yt yg ym (fun c => nI (pl c)) (fun c => nI (cf c)) (fun c => nI (ct c)) aK eB eE eA eL eN eC eS eW eT) hP hD [0, 1, 2, 3, 4, 5, 6, 7, 8, 9, 10, 11, 12, 13, 14, 15, 16] [] rfl rfl (by decide) (by decide) hk1 hFc hP1 hD1
              generalize H1 = H at hP hS ⊢
              have hP : va_P (dC, dI) kls (wC h cI (nI nF) (nI nC) yn yt yg ym (fun c => nI (pl c)) (fun c => nI (cf c)) (fun c => nI (ct c)) aK eB eE eA eL eN eC eS eW eT) H := hP
              have hD : va_D A (wC h cI (nI nF) (nI nC) yn yt yg ym (fun c => nI (pl c)) (fun c => nI (cf c)) (fun c => nI (ct c)) aK eB eE eA eL eN eC eS eW eT) := hD
              rcases hw with ⟨hr9, jj, hjj, hfj⟩ | ⟨hr9, hno9⟩
              · subst hr9
                have h_hc : numR x k < nC := by have := (nI_eq (by omega) (by omega)).mp hfj; omega
                clear hfj hjj
                refine lv_if_eq (tgt := 100) hx hb d_X_product_74 (by decide) (fun c9 => absurd c9 (by decide +kernel)) (fun _ => ?_)
                have hcn := hS0 (numR x k) h_hc
                have hcy := hS0 y9 hy
                refine lv_aload_n hx hb d_X_product_77 rfl (lv_at hl 1 rfl) ?_
                refine va_get (D := (dC, dI)) (ci := 4) (v := .ref (h 1)) (C := R_X) (T := F_X) (N := 3) hx hb hk k_f_X hown hK hP 0 rfl rfl 0 (by decide) (hk _ k_C_67) (fun _ h9 => h9) rfl d_X_product_78 ?_
                refine va_get (D := (dC, dI)) (ci := 1) (v := .ref (h 3)) (C := R_P) (T := F_P) (N := 6) hx hb hk k_f_P hown hK hP 1 rfl rfl 1 (by decide) (hk _ k_C_23) (fun _ h9 => h9) rfl d_X_product_81 ?_
                refine lv_iload hx hb d_X_product_84 (lv_at hl 0 rfl) ?_
                refine va_iald hx hb hK hP 3 0 rfl rfl (pk_in (numR x k) 20 (by omega)) d_X_product_86 ?_
                refine lv_topi (fun z6 ez6 => ?_)
                obtain rfl : z6 = nI (cf (numR x k)) := ez6.trans (rd (f := fun c => nI (cf c)) (k := numR x k) (by omega))
                refine lv_aload_n hx hb d_X_product_87 rfl (lv_at hl 1 rfl) ?_
                refine va_get (D := (dC, dI)) (ci := 4) (v := .ref (h 1)) (C := R_X) (T := F_X) (N := 3) hx hb hk k_f_X hown hK hP 0 rfl rfl 0 (by decide) (hk _ k_C_67) (fun _ h9 => h9) rfl d_X_product_88 ?_
                refine va_get (D := (dC, dI)) (ci := 1) (v := .ref (h 4)) (C := R_P) (T := F_P) (N := 6) hx hb hk k_f_P hown hK hP 1 rfl rfl 2 (by decide) (hk _ k_C_27) (fun _ h9 => h9) rfl d_X_product_91 ?_
                refine lv_iload hx hb d_X_product_94 (lv_at hl 4 rfl) ?_
                refine va_iald hx hb hK hP 4 0 rfl rfl (pk_in y9 20 (by omega)) d_X_product_96 ?_
                refine lv_topi (fun z7 ez7 => ?_)
                obtain rfl : z7 = nI (ct y9) := ez7.trans (rd (f := fun c => nI (ct c)) (k := y9) (by omega))
                refine lv_icmp_eq (tgt := 103) hx hb d_X_product_97 (by decide) (fun c_97 => ?_) (fun c_97 => ?_)
                · have c_97 : cf (numR x k) = ct y9 := (nI_eq (a := cf (numR x k)) (b := ct y9) (by omega) (by omega)).mp c_97
                  refine lv_iload hx hb d_X_product_103 (lv_at hl 5 rfl) ?_
                  refine lv_aload_n hx hb d_X_product_105 rfl (lv_at hl 1 rfl) ?_
                  refine va_get (D := (dC, dI)) (ci := 4) (v := .ref (h 1)) (C := R_X) (T := F_X) (N := 3) hx hb hk k_f_X hown hK hP 0 rfl rfl 0 (by decide) (hk _ k_C_67) (fun _ h9 => h9) rfl d_X_product_106 ?_
                  refine va_get (D := (dC, dI)) (ci := 1) (v := .ref (h 5)) (C := R_P) (T := F_P) (N := 6) hx hb hk k_f_P hown hK hP 1 rfl rfl 3 (by decide) (hk _ k_C_31) (fun _ h9 => h9) rfl d_X_product_109 ?_
                  refine lv_iload hx hb d_X_product_112 (lv_at hl 0 rfl) ?_
                  refine va_iald hx hb hK hP 5 0 rfl rfl (pk_in (numR x k) 20 (by omega)) d_X_product_114 ?_
                  refine lv_topi (fun z8 ez8 => ?_)
                  obtain rfl : z8 = aK (numR x k) := ez8.trans (rd (f := aK) (k := numR x k) (by omega))
                  refine vp_callSi (W.runS (As := [.int bb, .int (aK (numR x k))]) (rest := []) ⟨hx, hb, hml, hown, hk⟩ (c_G_join_ok l bb (aK (numR x k))) (va_cwS 2 hk g_X_122 rfl rfl rfl (by decide +kernel) ⟨Nat.le_of_ble_eq_true rfl, Nat.le_of_ble_eq_true rfl⟩) ⟨fun a U g mk q => q, fun U hU hW => ⟨rfl, trivial⟩⟩ rfl rfl hl.1 rfl (lv_room (Nat.le_of_ble_eq_true rfl)) d_X_product_115 ⟨Nat.le_of_ble_eq_true rfl, Nat.le_of_ble_eq_true rfl⟩) (fun r9 hw => ?_)
                  subst hw
                  refine lv_istore (lv' := [(5, .int (cj bb (aK (numR x k)))), (7, .int (nI (numR x k))), (0, .ref (h 0)), (1, .long x), (3, .int (nI n1)), (4, .int (nI y9)), (6, .int (nI k))]) hx hb d_X_product_118 hl (by decide) rfl (fun ls hl => ?_)
                  refine lv_iload hx hb d_X_product_120 (lv_at hl 1 rfl) ?_
                  refine lv_istore (lv' := [(4, .int (nI (numR x k))), (5, .int (cj bb (aK (numR x k)))), (7, .int (nI (numR x k))), (0, .ref (h 0)), (1, .long x), (3, .int (nI n1)), (6, .int (nI k))]) hx hb d_X_product_122 hl (by decide) rfl (fun ls hl => ?_)
                  refine lv_iinc (v := nI (k + 1)) (lv' := [(6, .int (nI (k + 1))), (4, .int (nI (numR x k))), (5, .int (cj bb (aK (numR x k)))), (7, .int (nI (numR x k))), (0, .ref (h 0)), (1, .long x), (3, .int (nI n1))]) hx hb d_X_product_124 hl (k := 6) rfl (nI_add k 1) (by decide) rfl (fun ls hl => ?_)
                  refine lv_goto (tgt := 51) hx hb d_X_product_127 (by decide) ?_
                  have hp1 : prN nC cf ct aK cj x (k + 1) = some (cj bb (aK (numR x k)), ct (numR x k)) := by rw [prN_s nC cf ct aK cj x hk0.1 hst, if_pos ⟨h_hc, c_97⟩]
                  exact ih_lp (k + 1) (numR x k) (cj bb (aK (numR x k))) (by omega) (h_hc) (hp1) (by omega) _ _ _ hP hD hS (lv_sub hl [4, 5, 6, 1, 2, 0] rfl)
                · have c_97 : ¬ cf (numR x k) = ct y9 := fun z9 => c_97 ((nI_eq (a := cf (numR x k)) (b := ct y9) (by omega) (by omega)).mpr z9)
                  refine lv_bipush (v := (-2)) hx hb d_X_product_100 (by decide +kernel) ?_
                  have hb9 : prN nC cf ct aK cj x (k + 1) = none := by
                    rw [prN_s nC cf ct aK cj x hk0.1 hst, if_neg]
                    rintro ⟨z1, z2⟩
                    first
                      | exact hn_hc z1
                      | exact c_97 z2
                  exact W.iret (v := (-2)) hx hb hr (fun t ht hW => ⟨⟨(-2), (), rfl, Or.inr ⟨n1, hn1, hn2, rfl, Or.inr ⟨prN_none nC cf ct aK cj x (show 1 ≤ k + 1 by omega) hb9 (by omega), rfl⟩⟩, by rw [ht]; exact hP, va_K.moved hW.alike hK, hD⟩, hS.F ht⟩) hS.2.2 d_X_product_102
              · subst hr9
                have hn_hc : ¬ numR x k < nC := fun z9 => hno9 ⟨_, z9, rfl⟩
                refine lv_if_eq (tgt := 100) hx hb d_X_product_74 (by decide) (fun _ => ?_) (fun c9 => absurd c9 (by decide +kernel))
                refine lv_bipush (v := (-2)) hx hb d_X_product_100 (by decide +kernel) ?_
                have hb9 : prN nC cf ct aK cj x (k + 1) = none := by
                  rw [prN_s nC cf ct aK cj x hk0.1 hst, if_neg]
                  rintro ⟨z1, z2⟩
                  first
                    | exact hn_hc z1
                    | exact c_97 z2
                exact W.iret (v := (-2)) hx hb hr (fun t ht hW => ⟨⟨(-2), (), rfl, Or.inr ⟨n1, hn1, hn2, rfl, Or.inr ⟨prN_none nC cf ct aK cj x (show 1 ≤ k + 1 by omega) hb9 (by omega), rfl⟩⟩, by rw [ht]; exact hP, va_K.moved hW.alike hK, hD⟩, hS.F ht⟩) hS.2.2 d_X_product_102
        exact lp _ 1 (numR x 0) (aK (numR x 0)) (by omega) (h_hc) (hp1) (Nat.lt_succ_self _) _ _ _ hP hD hS (lv_sub hl [3, 4, 5, 2, 1, 0] rfl)
      · subst hr9
        have hn_hc : ¬ numR x 0 < nC := fun z9 => hno9 ⟨_, z9, rfl⟩
        refine lv_if_ne (tgt := 36) hx hb d_X_product_30 (by decide) (fun c9 => absurd c9 (by decide +kernel)) (fun _ => ?_)
        refine lv_bipush (v := (-2)) hx hb d_X_product_33 (by decide +kernel) ?_
        exact W.iret (v := (-2)) hx hb hr (fun t ht hW => ⟨⟨(-2), (), rfl, Or.inr ⟨n1, hn1, hn2, rfl, Or.inr ⟨prN_none nC cf ct aK cj x (Nat.le_refl 1) (by rw [prN, if_neg hn_hc]) hn1, rfl⟩⟩, by rw [ht]; exact hP, va_K.moved hW.alike hK, hD⟩, hS.F ht⟩) hS.2.2 d_X_product_35
    · refine lv_bipush (v := (-2)) hx hb d_X_product_11 (by decide +kernel) ?_
      exact W.iret (v := (-2)) hx hb hr (fun t ht hW => ⟨⟨(-2), (), rfl, Or.inl ⟨no12 (by first | exact Or.inl c_2 | exact Or.inr c_8), rfl⟩, by rw [ht]; exact hP, va_K.moved hW.alike hK, hD⟩, hS.F ht⟩) hS.2.2 d_X_product_13
