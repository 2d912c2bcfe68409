set_option maxHeartbeats 4000000 in
set_option maxRecDepth 100000 in
theorem c_P_hasFunction_ok (l : Launch) (dC : Nat → ClassId) (dI : Nat → Nat → Nat) (cI : ClassId) (h : Nat → Nat) (sz : Nat) (yn yt yg ym : Int32) (aK eB eE eA eL eN eC eS eW eT : Nat → Int32) (nF nC : Nat) (pl cf ct : Nat → Nat) (f : Int32) (hN : nF < 2 ^ 31) : Met l y_P_hasFunction w_P_hasFunction ({ frames := 0, cells := 0, slots := 0, locals := 0 }) (va_Pc [.ref (h 1), .int f] (fun U => U.heap.size = sz ∧ va_P (dC, dI) kls (wC h cI (nI nF) (nI nC) yn yt yg ym (fun c => nI (pl c)) (fun c => nI (cf c)) (fun c => nI (ct c)) aK eB eE eA eL eN eC eS eW eT) U.heap ∧ va_K (dC, dI) kls (tyC cI) U ∧ va_D (fun _ => True) (wC h cI (nI nF) (nI nC) yn yt yg ym (fun c => nI (pl c)) (fun c => nI (cf c)) (fun c => nI (ct c)) aK eB eE eA eL eN eC eS eW eT))) (va_Qi (fun (r : Int32) (u : Unit) => (r = nI 1 ∧ ∃ j, j < nF ∧ f = nI j) ∨ (r = nI 0 ∧ ¬ ∃ j, j < nF ∧ f = nI j)) (fun (u : Unit) (t : State) => va_P (dC, dI) kls (wC h cI (nI nF) (nI nC) yn yt yg ym (fun c => nI (pl c)) (fun c => nI (cf c)) (fun c => nI (ct c)) aK eB eE eA eL eN eC eS eW eT) t.heap ∧ va_K (dC, dI) kls (tyC cI) t ∧ va_D (va_A (wC h cI (nI nF) (nI nC) yn yt yg ym (fun c => nI (pl c)) (fun c => nI (cf c)) (fun c => nI (ct c)) aK eB eE eA eL eN eC eS eW eT) sz) (wC h cI (nI nF) (nI nC) yn yt yg ym (fun c => nI (pl c)) (fun c => nI (cf c)) (fun c => nI (ct c)) aK eB eE eA eL eN eC eS eW eT)) (va_A (wC h cI (nI nF) (nI nC) yn yt yg ym (fun c => nI (pl c)) (fun c => nI (cf c)) (fun c => nI (ct c)) aK eB eE eA eL eN eC eS eW eT) sz)) 0 0 (va_A (wC h cI (nI nF) (nI nC) yn yt yg ym (fun c => nI (pl c)) (fun c => nI (cf c)) (fun c => nI (ct c)) aK eB eE eA eL eN eC eS eW eT) sz) := by
  refine Met.ofW (cc := c_P_hasFunction) (maxL := 2) (ret := (some .boolean)) (by decide) rfl ?_
  intro p e s m args below meth c s₁ B hml hv
  obtain ⟨rfl, hsz, hP, hK, hD0⟩ := hv
  have hx := B.exec
  have hb := B.bytes
  have hr := B.returns
  have hts := atoms_spec (ws := w_P_hasFunction) B.pre
  have hk : ∀ w ∈ wCw, w.before _ s = true := fun w h => hts w (List.mem_cons_of_mem _ h)
  have hown : s.vm.findClass R_P = some m.cls := findClass_of_methodNamed B.named
  have hlocks := B.notSynchronized
  subst hsz
  have hD := hD0.self (sz := s.heap.size)
  generalize hAe : va_A (wC h cI (nI nF) (nI nC) yn yt yg ym (fun c => nI (pl c)) (fun c => nI (cf c)) (fun c => nI (ct c)) aK eB eE eA eL eN eC eS eW eT) s.heap.size = A at hD ⊢
  have hA : ∀ q : Nat, s.heap.size ≤ q → A q := fun q h => by rw [← hAe]; exact Or.inr h
  have hS : va_S A s.heap s.heap [] := va_S.rf
  have hl := lv_entry ([.ref (h 1), .int f]) (n := 2) (Nat.le_of_ble_eq_true rfl)
  rw [lg_entry_eq]
  generalize (lg_sl ([.ref (h 1), .int f]) ++ List.replicate (2 - (lg_sl ([.ref (h 1), .int f])).length) Slot.unset).toArray = ls at hl ⊢
  have hl : lv_has ls 2 [(0, .ref (h 1)), (1, .int f)] := hl
  refine lv_iload_n hx hb d_P_hasFunction_0 rfl (lv_at hl 1 rfl) ?_
  refine lv_if_lt (tgt := 16) hx hb d_P_hasFunction_1 (by decide) (fun c_1 => ?_) (fun c_1 => ?_)
  · refine lv_iconst (v := nI 0) hx hb d_P_hasFunction_16 (by decide +kernel) ?_
    have hj : ¬ ∃ j, j < nF ∧ f = nI j := by
      rintro ⟨j, hj, rfl⟩
      first
        | exact nI_pos (by omega) c_1
        | exact absurd c_9 (Int32.not_le.mpr (nI_lt hj hN))
    exact W.zret (v := nI 0) (ty := .boolean) hx hb hr rfl (fun t ht hW => ⟨⟨nI 0, (), rfl, Or.inr ⟨rfl, hj⟩, by rw [ht]; exact hP, va_K.moved hW.alike hK, hD⟩, hS.F ht⟩) hS.2.2 d_P_hasFunction_17
  · refine lv_iload_n hx hb d_P_hasFunction_4 rfl (lv_at hl 1 rfl) ?_
    refine lv_aload_n hx hb d_P_hasFunction_5 rfl (lv_at hl 0 rfl) ?_
    refine va_get (D := (dC, dI)) (ci := 1) (v := .int (nI nF)) (C := R_P) (T := F_P) (N := 6) hx hb hk k_f_P hown hK hP 1 rfl rfl 4 (by decide) (hk _ k_C_32) (fun _ h9 => h9) rfl d_P_hasFunction_6 ?_
    refine lv_icmp_ge (tgt := 16) hx hb d_P_hasFunction_9 (by decide) (fun c_9 => ?_) (fun c_9 => ?_)
    · refine lv_iconst (v := nI 0) hx hb d_P_hasFunction_16 (by decide +kernel) ?_
      have hj : ¬ ∃ j, j < nF ∧ f = nI j := by
        rintro ⟨j, hj, rfl⟩
        first
          | exact nI_pos (by omega) c_1
          | exact absurd c_9 (Int32.not_le.mpr (nI_lt hj hN))
      exact W.zret (v := nI 0) (ty := .boolean) hx hb hr rfl (fun t ht hW => ⟨⟨nI 0, (), rfl, Or.inr ⟨rfl, hj⟩, by rw [ht]; exact hP, va_K.moved hW.alike hK, hD⟩, hS.F ht⟩) hS.2.2 d_P_hasFunction_17
    · refine lv_iconst (v := nI 1) hx hb d_P_hasFunction_12 (by decide +kernel) ?_
      refine lv_goto (tgt := 17) hx hb d_P_hasFunction_13 (by decide) ?_
      have hj : ∃ j, j < nF ∧ f = nI j := by
        obtain ⟨j, hj, rfl⟩ := nI_of c_1
        exact ⟨j, (nI_ltI hj hN).mp (Int32.not_le.mp c_9), rfl⟩
      exact W.zret (v := nI 1) (ty := .boolean) hx hb hr rfl (fun t ht hW => ⟨⟨nI 1, (), rfl, Or.inl ⟨rfl, hj⟩, by rw [ht]; exact hP, va_K.moved hW.alike hK, hD⟩, hS.F ht⟩) hS.2.2 d_P_hasFunction_17
set_option maxHeartbeats 4000000 in
set_option maxRecDepth 100000 in
theorem c_P_hasCall_ok (l : Launch) (dC : Nat → ClassId) (dI : Nat → Nat → Nat) (cI : ClassId) (h : Nat → Nat) (sz : Nat) (yn yt yg ym : Int32) (aK eB eE eA eL eN eC eS eW eT : Nat → Int32) (nC nF : Nat) (pl cf ct : Nat → Nat) (f : Int32) (hN : nC < 2 ^ 31) : Met l y_P_hasCall w_P_hasCall ({ frames := 0, cells := 0, slots := 0, locals := 0 }) (va_Pc [.ref (h 1), .int f] (fun U => U.heap.size = sz ∧ va_P (dC, dI) kls (wC h cI (nI nF) (nI nC) yn yt yg ym (fun c => nI (pl c)) (fun c => nI (cf c)) (fun c => nI (ct c)) aK eB eE eA eL eN eC eS eW eT) U.heap ∧ va_K (dC, dI) kls (tyC cI) U ∧ va_D (fun _ => True) (wC h cI (nI nF) (nI nC) yn yt yg ym (fun c => nI (pl c)) (fun c => nI (cf c)) (fun c => nI (ct c)) aK eB eE eA eL eN eC eS eW eT))) (va_Qi (fun (r : Int32) (u : Unit) => (r = nI 1 ∧ ∃ j, j < nC ∧ f = nI j) ∨ (r = nI 0 ∧ ¬ ∃ j, j < nC ∧ f = nI j)) (fun (u : Unit) (t : State) => va_P (dC, dI) kls (wC h cI (nI nF) (nI nC) yn yt yg ym (fun c => nI (pl c)) (fun c => nI (cf c)) (fun c => nI (ct c)) aK eB eE eA eL eN eC eS eW eT) t.heap ∧ va_K (dC, dI) kls (tyC cI) t ∧ va_D (va_A (wC h cI (nI nF) (nI nC) yn yt yg ym (fun c => nI (pl c)) (fun c => nI (cf c)) (fun c => nI (ct c)) aK eB eE eA eL eN eC eS eW eT) sz) (wC h cI (nI nF) (nI nC) yn yt yg ym (fun c => nI (pl c)) (fun c => nI (cf c)) (fun c => nI (ct c)) aK eB eE eA eL eN eC eS eW eT)) (va_A (wC h cI (nI nF) (nI nC) yn yt yg ym (fun c => nI (pl c)) (fun c => nI (cf c)) (fun c => nI (ct c)) aK eB eE eA eL eN eC eS eW eT) sz)) 0 0 (va_A (wC h cI (nI nF) (nI nC) yn yt yg ym (fun c => nI (pl c)) (fun c => nI (cf c)) (fun c => nI (ct c)) aK eB eE eA eL eN eC eS eW eT) sz) := by
  refine Met.ofW (cc := c_P_hasCall) (maxL := 2) (ret := (some .boolean)) (by decide) rfl ?_
  intro p e s m args below meth c s₁ B hml hv
  obtain ⟨rfl, hsz, hP, hK, hD0⟩ := hv
  have hx := B.exec
  have hb := B.bytes
  have hr := B.returns
  have hts := atoms_spec (ws := w_P_hasCall) B.pre
  have hk : ∀ w ∈ wCw, w.before _ s = true := fun w h => hts w (List.mem_cons_of_mem _ h)
  have hown : s.vm.findClass R_P = some m.cls := findClass_of_methodNamed B.named
  have hlocks := B.notSynchronized
  subst hsz
  have hD := hD0.self (sz := s.heap.size)
  generalize hAe : va_A (wC h cI (nI nF) (nI nC) yn yt yg ym (fun c => nI (pl c)) (fun c => nI (cf c)) (fun c => nI (ct c)) aK eB eE eA eL eN eC eS eW eT) s.heap.size = A at hD ⊢
  have hA : ∀ q : Nat, s.heap.size ≤ q → A q := fun q h => by rw [← hAe]; exact Or.inr h
  have hS : va_S A s.heap s.heap [] := va_S.rf
  have hl := lv_entry ([.ref (h 1), .int f]) (n := 2) (Nat.le_of_ble_eq_true rfl)
  rw [lg_entry_eq]
  generalize (lg_sl ([.ref (h 1), .int f]) ++ List.replicate (2 - (lg_sl ([.ref (h 1), .int f])).length) Slot.unset).toArray = ls at hl ⊢
  have hl : lv_has ls 2 [(0, .ref (h 1)), (1, .int f)] := hl
  refine lv_iload_n hx hb d_P_hasCall_0 rfl (lv_at hl 1 rfl) ?_
  refine lv_if_lt (tgt := 16) hx hb d_P_hasCall_1 (by decide) (fun c_1 => ?_) (fun c_1 => ?_)
  · refine lv_iconst (v := nI 0) hx hb d_P_hasCall_16 (by decide +kernel) ?_
    have hj : ¬ ∃ j, j < nC ∧ f = nI j := by
      rintro ⟨j, hj, rfl⟩
      first
        | exact nI_pos (by omega) c_1
        | exact absurd c_9 (Int32.not_le.mpr (nI_lt hj hN))
    exact W.zret (v := nI 0) (ty := .boolean) hx hb hr rfl (fun t ht hW => ⟨⟨nI 0, (), rfl, Or.inr ⟨rfl, hj⟩, by rw [ht]; exact hP, va_K.moved hW.alike hK, hD⟩, hS.F ht⟩) hS.2.2 d_P_hasCall_17
  · refine lv_iload_n hx hb d_P_hasCall_4 rfl (lv_at hl 1 rfl) ?_
    refine lv_aload_n hx hb d_P_hasCall_5 rfl (lv_at hl 0 rfl) ?_
    refine va_get (D := (dC, dI)) (ci := 1) (v := .int (nI nC)) (C := R_P) (T := F_P) (N := 6) hx hb hk k_f_P hown hK hP 1 rfl rfl 5 (by decide) (hk _ k_C_35) (fun _ h9 => h9) rfl d_P_hasCall_6 ?_
    refine lv_icmp_ge (tgt := 16) hx hb d_P_hasCall_9 (by decide) (fun c_9 => ?_) (fun c_9 => ?_)
    · refine lv_iconst (v := nI 0) hx hb d_P_hasCall_16 (by decide +kernel) ?_
      have hj : ¬ ∃ j, j < nC ∧ f = nI j := by
        rintro ⟨j, hj, rfl⟩
        first
          | exact nI_pos (by omega) c_1
          | exact absurd c_9 (Int32.not_le.mpr (nI_lt hj hN))
      exact W.zret (v := nI 0) (ty := .boolean) hx hb hr rfl (fun t ht hW => ⟨⟨nI 0, (), rfl, Or.inr ⟨rfl, hj⟩, by rw [ht]; exact hP, va_K.moved hW.alike hK, hD⟩, hS.F ht⟩) hS.2.2 d_P_hasCall_17
    · refine lv_iconst (v := nI 1) hx hb d_P_hasCall_12 (by decide +kernel) ?_
      refine lv_goto (tgt := 17) hx hb d_P_hasCall_13 (by decide) ?_
      have hj : ∃ j, j < nC ∧ f = nI j := by
        obtain ⟨j, hj, rfl⟩ := nI_of c_1
        exact ⟨j, (nI_ltI hj hN).mp (Int32.not_le.mp c_9), rfl⟩
      exact W.zret (v := nI 1) (ty := .boolean) hx hb hr rfl (fun t ht hW => ⟨⟨nI 1, (), rfl, Or.inl ⟨rfl, hj⟩, by rw [ht]; exact hP, va_K.moved hW.alike hK, hD⟩, hS.F ht⟩) hS.2.2 d_P_hasCall_17
set_option maxHeartbeats 4000000 in
set_option maxRecDepth 100000 in
theorem c_C_forget_ok (l : Launch) (dC : Nat → ClassId) (dI : Nat → Nat → Nat) (cI : ClassId) (h : Nat → Nat) (sz : Nat) (yf yc yn yt yg ym : Int32) (aP aF aT aK eB eE eA eL eN eC eS eW eT : Nat → Int32) : Met l y_C_forget w_C_forget ({ frames := 0, cells := 0, slots := 0, locals := 0 }) (va_Pc [.ref (h 6)] (fun U => U.heap.size = sz ∧ va_P (dC, dI) kls (wC h cI yf yc yn yt yg ym aP aF aT aK eB eE eA eL eN eC eS eW eT) U.heap ∧ va_K (dC, dI) kls (tyC cI) U ∧ va_D (fun _ => True) (wC h cI yf yc yn yt yg ym aP aF aT aK eB eE eA eL eN eC eS eW eT))) (va_Qv (fun (u : Int32) => u = nI 0) (fun (u : Int32) (t : State) => va_P (dC, dI) kls (wC h cI yf yc yn yt u ym aP aF aT aK eB eE eA eL eN eC eS eW eT) t.heap ∧ va_K (dC, dI) kls (tyC cI) t ∧ va_D (va_A (wC h cI yf yc yn yt yg ym aP aF aT aK eB eE eA eL eN eC eS eW eT) sz) (wC h cI yf yc yn yt u ym aP aF aT aK eB eE eA eL eN eC eS eW eT)) (va_A (wC h cI yf yc yn yt yg ym aP aF aT aK eB eE eA eL eN eC eS eW eT) sz)) 0 0 (va_A (wC h cI yf yc yn yt yg ym aP aF aT aK eB eE eA eL eN eC eS eW eT) sz) := by
  refine Met.ofW (cc := c_C_forget) (maxL := 1) (ret := none) (by decide) rfl ?_
  intro p e s m args below meth c s₁ B hml hv
  obtain ⟨rfl, hsz, hP, hK, hD0⟩ := hv
  have hx := B.exec
  have hb := B.bytes
  have hr := B.returns
  have hts := atoms_spec (ws := w_C_forget) B.pre
  have hk : ∀ w ∈ wCw, w.before _ s = true := fun w h => hts w (List.mem_cons_of_mem _ h)
  have hown : s.vm.findClass R_C = some m.cls := findClass_of_methodNamed B.named
  have hlocks := B.notSynchronized
  subst hsz
  have hD := hD0.self (sz := s.heap.size)
  generalize hAe : va_A (wC h cI yf yc yn yt yg ym aP aF aT aK eB eE eA eL eN eC eS eW eT) s.heap.size = A at hD ⊢
  have hA : ∀ q : Nat, s.heap.size ≤ q → A q := fun q h => by rw [← hAe]; exact Or.inr h
  have hS : va_S A s.heap s.heap [] := va_S.rf
  have hl := lv_entry ([.ref (h 6)]) (n := 1) (Nat.le_of_ble_eq_true rfl)
  rw [lg_entry_eq]
  generalize (lg_sl ([.ref (h 6)]) ++ List.replicate (1 - (lg_sl ([.ref (h 6)])).length) Slot.unset).toArray = ls at hl ⊢
  have hl : lv_has ls 1 [(0, .ref (h 6))] := hl
  refine lv_aload_n hx hb d_C_forget_0 rfl (lv_at hl 0 rfl) ?_
  refine lv_iconst (v := nI 0) hx hb d_C_forget_1 (by decide +kernel) ?_
  refine va_put (D := (dC, dI)) (ci := 2) (v := .int (nI 0)) (ty := .boolean) (C := R_C) (T := F_C) (N := 11) hx hb hk k_f_C t_C t_C_ok n_C hown hK hP hD hS 6 rfl rfl 10 (by decide) (hk _ k_C_57) (fun _ h9 => h9) rfl (by decide +kernel) rfl rfl (Nat.le_of_ble_eq_true rfl) d_C_forget_2 (fun H locs hP hD hS => ?_)
  have hP : va_P (dC, dI) kls (wC h cI yf yc yn yt (nI 0) ym aP aF aT aK eB eE eA eL eN eC eS eW eT) H := hP
  have hD : va_D A (wC h cI yf yc yn yt (nI 0) ym aP aF aT aK eB eE eA eL eN eC eS eW eT) := hD
  exact W.vret hx hb hr (fun t ht hW => ⟨⟨nI 0, rfl, rfl, by rw [ht]; exact hP, va_K.moved hW.alike hK, hD⟩, hS.F ht⟩) hS.2.2 d_C_forget_5
set_option maxHeartbeats 4000000 in
set_option maxRecDepth 100000 in
theorem c_C_hasRow_ok (l : Launch) (dC : Nat → ClassId) (dI : Nat → Nat → Nat) (cI : ClassId) (h : Nat → Nat) (sz : Nat) (yf yc yt yg ym : Int32) (aP aF aT aK eB eE eA eL eN eC eS eW eT : Nat → Int32) (cn : Nat) (f : Int32) (hN : cn < 2 ^ 31) : Met l y_C_hasRow w_C_hasRow ({ frames := 0, cells := 0, slots := 0, locals := 0 }) (va_Pc [.ref (h 6), .int f] (fun U => U.heap.size = sz ∧ va_P (dC, dI) kls (wC h cI yf yc (nI cn) yt yg ym aP aF aT aK eB eE eA eL eN eC eS eW eT) U.heap ∧ va_K (dC, dI) kls (tyC cI) U ∧ va_D (fun _ => True) (wC h cI yf yc (nI cn) yt yg ym aP aF aT aK eB eE eA eL eN eC eS eW eT))) (va_Qi (fun (r : Int32) (u : Unit) => (r = nI 1 ∧ ∃ j, j < cn ∧ f = nI j) ∨ (r = nI 0 ∧ ¬ ∃ j, j < cn ∧ f = nI j)) (fun (u : Unit) (t : State) => va_P (dC, dI) kls (wC h cI yf yc (nI cn) yt yg ym aP aF aT aK eB eE eA eL eN eC eS eW eT) t.heap ∧ va_K (dC, dI) kls (tyC cI) t ∧ va_D (va_A (wC h cI yf yc (nI cn) yt yg ym aP aF aT aK eB eE eA eL eN eC eS eW eT) sz) (wC h cI yf yc (nI cn) yt yg ym aP aF aT aK eB eE eA eL eN eC eS eW eT)) (va_A (wC h cI yf yc (nI cn) yt yg ym aP aF aT aK eB eE eA eL eN eC eS eW eT) sz)) 0 0 (va_A (wC h cI yf yc (nI cn) yt yg ym aP aF aT aK eB eE eA eL eN eC eS eW eT) sz) := by
  refine Met.ofW (cc := c_C_hasRow) (maxL := 2) (ret := (some .boolean)) (by decide) rfl ?_
  intro p e s m args below meth c s₁ B hml hv
  obtain ⟨rfl, hsz, hP, hK, hD0⟩ := hv
  have hx := B.exec
  have hb := B.bytes
  have hr := B.returns
  have hts := atoms_spec (ws := w_C_hasRow) B.pre
  have hk : ∀ w ∈ wCw, w.before _ s = true := fun w h => hts w (List.mem_cons_of_mem _ h)
  have hown : s.vm.findClass R_C = some m.cls := findClass_of_methodNamed B.named
  have hlocks := B.notSynchronized
  subst hsz
  have hD := hD0.self (sz := s.heap.size)
  generalize hAe : va_A (wC h cI yf yc (nI cn) yt yg ym aP aF aT aK eB eE eA eL eN eC eS eW eT) s.heap.size = A at hD ⊢
  have hA : ∀ q : Nat, s.heap.size ≤ q → A q := fun q h => by rw [← hAe]; exact Or.inr h
  have hS : va_S A s.heap s.heap [] := va_S.rf
  have hl := lv_entry ([.ref (h 6), .int f]) (n := 2) (Nat.le_of_ble_eq_true rfl)
  rw [lg_entry_eq]
  generalize (lg_sl ([.ref (h 6), .int f]) ++ List.replicate (2 - (lg_sl ([.ref (h 6), .int f])).length) Slot.unset).toArray = ls at hl ⊢
  have hl : lv_has ls 2 [(0, .ref (h 6)), (1, .int f)] := hl
  refine lv_iload_n hx hb d_C_hasRow_0 rfl (lv_at hl 1 rfl) ?_
  refine lv_if_lt (tgt := 16) hx hb d_C_hasRow_1 (by decide) (fun c_1 => ?_) (fun c_1 => ?_)
  · refine lv_iconst (v := nI 0) hx hb d_C_hasRow_16 (by decide +kernel) ?_
    have hj : ¬ ∃ j, j < cn ∧ f = nI j := by
      rintro ⟨j, hj, rfl⟩
      first
        | exact nI_pos (by omega) c_1
        | exact absurd c_9 (Int32.not_le.mpr (nI_lt hj hN))
    exact W.zret (v := nI 0) (ty := .boolean) hx hb hr rfl (fun t ht hW => ⟨⟨nI 0, (), rfl, Or.inr ⟨rfl, hj⟩, by rw [ht]; exact hP, va_K.moved hW.alike hK, hD⟩, hS.F ht⟩) hS.2.2 d_C_hasRow_17
  · refine lv_iload_n hx hb d_C_hasRow_4 rfl (lv_at hl 1 rfl) ?_
    refine lv_aload_n hx hb d_C_hasRow_5 rfl (lv_at hl 0 rfl) ?_
    refine va_get (D := (dC, dI)) (ci := 2) (v := .int (nI cn)) (C := R_C) (T := F_C) (N := 11) hx hb hk k_f_C hown hK hP 6 rfl rfl 8 (by decide) (hk _ k_C_54) (fun _ h9 => h9) rfl d_C_hasRow_6 ?_
    refine lv_icmp_ge (tgt := 16) hx hb d_C_hasRow_9 (by decide) (fun c_9 => ?_) (fun c_9 => ?_)
    · refine lv_iconst (v := nI 0) hx hb d_C_hasRow_16 (by decide +kernel) ?_
      have hj : ¬ ∃ j, j < cn ∧ f = nI j := by
        rintro ⟨j, hj, rfl⟩
        first
          | exact nI_pos (by omega) c_1
          | exact absurd c_9 (Int32.not_le.mpr (nI_lt hj hN))
      exact W.zret (v := nI 0) (ty := .boolean) hx hb hr rfl (fun t ht hW => ⟨⟨nI 0, (), rfl, Or.inr ⟨rfl, hj⟩, by rw [ht]; exact hP, va_K.moved hW.alike hK, hD⟩, hS.F ht⟩) hS.2.2 d_C_hasRow_17
    · refine lv_iconst (v := nI 1) hx hb d_C_hasRow_12 (by decide +kernel) ?_
      refine lv_goto (tgt := 17) hx hb d_C_hasRow_13 (by decide) ?_
      have hj : ∃ j, j < cn ∧ f = nI j := by
        obtain ⟨j, hj, rfl⟩ := nI_of c_1
        exact ⟨j, (nI_ltI hj hN).mp (Int32.not_le.mp c_9), rfl⟩
      exact W.zret (v := nI 1) (ty := .boolean) hx hb hr rfl (fun t ht hW => ⟨⟨nI 1, (), rfl, Or.inl ⟨rfl, hj⟩, by rw [ht]; exact hP, va_K.moved hW.alike hK, hD⟩, hS.F ht⟩) hS.2.2 d_C_hasRow_17
set_option maxHeartbeats 4000000 in
set_option maxRecDepth 100000 in
theorem c_P_addFunction_ok (l : Launch) (dC : Nat → ClassId) (dI : Nat → Nat → Nat) (cI : ClassId) (h : Nat → Nat) (sz : Nat) (yn yt yg ym : Int32) (aK eB eE eA eL eN eC eS eW eT : Nat → Int32) (nF nC : Nat) (pl cf ct : Nat → Nat) (q : Nat) (hF : nF < 10) : Met l y_P_addFunction w_P_addFunction ({ frames := 0, cells := 0, slots := 0, locals := 0 }) (va_Pc [.ref (h 1), .int (nI q)] (fun U => U.heap.size = sz ∧ va_P (dC, dI) kls (wC h cI (nI nF) (nI nC) yn yt yg ym (fun c => nI (pl c)) (fun c => nI (cf c)) (fun c => nI (ct c)) aK eB eE eA eL eN eC eS eW eT) U.heap ∧ va_K (dC, dI) kls (tyC cI) U ∧ va_D (fun _ => True) (wC h cI (nI nF) (nI nC) yn yt yg ym (fun c => nI (pl c)) (fun c => nI (cf c)) (fun c => nI (ct c)) aK eB eE eA eL eN eC eS eW eT))) (va_Qi (fun (r : Int32) (u : Int32 × (Nat → Int32)) => u.1 = nI (nF + 1) ∧ u.2 = (fun c => nI (updN pl nF q c)) ∧ r = nI nF) (fun (u : Int32 × (Nat → Int32)) (t : State) => va_P (dC, dI) kls (wC h cI u.1 (nI nC) yn yt yg ym u.2 (fun c => nI (cf c)) (fun c => nI (ct c)) aK eB eE eA eL eN eC eS eW eT) t.heap ∧ va_K (dC, dI) kls (tyC cI) t ∧ va_D (va_A (wC h cI (nI nF) (nI nC) yn yt yg ym (fun c => nI (pl c)) (fun c => nI (cf c)) (fun c => nI (ct c)) aK eB eE eA eL eN eC eS eW eT) sz) (wC h cI u.1 (nI nC) yn yt yg ym u.2 (fun c => nI (cf c)) (fun c => nI (ct c)) aK eB eE eA eL eN eC eS eW eT)) (va_A (wC h cI (nI nF) (nI nC) yn yt yg ym (fun c => nI (pl c)) (fun c => nI (cf c)) (fun c => nI (ct c)) aK eB eE eA eL eN eC eS eW eT) sz)) 0 0 (va_A (wC h cI (nI nF) (nI nC) yn yt yg ym (fun c => nI (pl c)) (fun c => nI (cf c)) (fun c => nI (ct c)) aK eB eE eA eL eN eC eS eW eT) sz) := by
  refine Met.ofW (cc := c_P_addFunction) (maxL := 2) (ret := (some .int)) (by decide) rfl ?_
  intro p e s m args below meth c s₁ B hml hv
  obtain ⟨rfl, hsz, hP, hK, hD0⟩ := hv
  have hx := B.exec
  have hb := B.bytes
  have hr := B.returns
  have hts := atoms_spec (ws := w_P_addFunction) B.pre
  have hk : ∀ w ∈ wCw, w.before _ s = true := fun w h => hts w (List.mem_cons_of_mem _ h)
  have hown : s.vm.findClass R_P = some m.cls := findClass_of_methodNamed B.named
  have hlocks := B.notSynchronized
  subst hsz
  have hD := hD0.self (sz := s.heap.size)
  generalize hAe : va_A (wC h cI (nI nF) (nI nC) yn yt yg ym (fun c => nI (pl c)) (fun c => nI (cf c)) (fun c => nI (ct c)) aK eB eE eA eL eN eC eS eW eT) s.heap.size = A at hD ⊢
  have hA : ∀ q : Nat, s.heap.size ≤ q → A q := fun q h => by rw [← hAe]; exact Or.inr h
  have hS : va_S A s.heap s.heap [] := va_S.rf
  have hl := lv_entry ([.ref (h 1), .int (nI q)]) (n := 2) (Nat.le_of_ble_eq_true rfl)
  rw [lg_entry_eq]
  generalize (lg_sl ([.ref (h 1), .int (nI q)]) ++ List.replicate (2 - (lg_sl ([.ref (h 1), .int (nI q)])).length) Slot.unset).toArray = ls at hl ⊢
  have hl : lv_has ls 2 [(0, .ref (h 1)), (1, .int (nI q))] := hl
  refine lv_aload_n hx hb d_P_addFunction_0 rfl (lv_at hl 0 rfl) ?_
  refine va_get (D := (dC, dI)) (ci := 1) (v := .int (nI nF)) (C := R_P) (T := F_P) (N := 6) hx hb hk k_f_P hown hK hP 1 rfl rfl 4 (by decide) (hk _ k_C_32) (fun _ h9 => h9) rfl d_P_addFunction_1 ?_
  refine lv_bipush (v := nI 10) hx hb d_P_addFunction_4 (by decide +kernel) ?_
  refine lv_icmp_lt (tgt := 11) hx hb d_P_addFunction_6 (by decide) (fun c_6 => ?_) (fun c_6 => ?_)
  · have c_6 : nF < 10 := (nI_ltI (a := nF) (b := 10) (by omega) (by omega)).mp c_6
    refine lv_aload_n hx hb d_P_addFunction_11 rfl (lv_at hl 0 rfl) ?_
    refine va_get (D := (dC, dI)) (ci := 1) (v := .ref (h 2)) (C := R_P) (T := F_P) (N := 6) hx hb hk k_f_P hown hK hP 1 rfl rfl 0 (by decide) (hk _ k_C_18) (fun _ h9 => h9) rfl d_P_addFunction_12 ?_
    refine lv_aload_n hx hb d_P_addFunction_15 rfl (lv_at hl 0 rfl) ?_
    refine va_get (D := (dC, dI)) (ci := 1) (v := .int (nI nF)) (C := R_P) (T := F_P) (N := 6) hx hb hk k_f_P hown hK hP 1 rfl rfl 4 (by decide) (hk _ k_C_32) (fun _ h9 => h9) rfl d_P_addFunction_16 ?_
    refine lv_iload_n hx hb d_P_addFunction_19 rfl (lv_at hl 1 rfl) ?_
    refine va_iast hx hb hK hP hD hS 2 0 rfl rfl (pk_in nF 10 (by omega)) d_P_addFunction_20 (fun H locs hP hD hS => ?_)
    rw [nI_clamp (n := nF) (by omega)] at hP hD
    rw [updN_eq] at hP hD
    have hP : va_P (dC, dI) kls (wC h cI (nI nF) (nI nC) yn yt yg ym (fun c => nI (updN pl nF q c)) (fun c => nI (cf c)) (fun c => nI (ct c)) aK eB eE eA eL eN eC eS eW eT) H := hP
    have hD : va_D A (wC h cI (nI nF) (nI nC) yn yt yg ym (fun c => nI (updN pl nF q c)) (fun c => nI (cf c)) (fun c => nI (ct c)) aK eB eE eA eL eN eC eS eW eT) := hD
    refine lv_aload_n hx hb d_P_addFunction_21 rfl (lv_at hl 0 rfl) ?_
    refine lv_dup hx hb d_P_addFunction_22 rfl ?_
    refine va_get (D := (dC, dI)) (ci := 1) (v := .int (nI nF)) (C := R_P) (T := F_P) (N := 6) hx hb hk k_f_P hown hK hP 1 rfl rfl 4 (by decide) (hk _ k_C_32) (fun _ h9 => h9) rfl d_P_addFunction_23 ?_
    refine lv_iconst (v := nI 1) hx hb d_P_addFunction_26 (by decide +kernel) ?_
    refine lv_iadd hx hb d_P_addFunction_27 ?_
    refine lv_topi (fun z1 ez1 => ?_)
    obtain rfl : z1 = nI (nF + 1) := ez1.trans (nI_add _ _)
    refine va_put (D := (dC, dI)) (ci := 1) (v := .int (nI (nF + 1))) (ty := .int) (C := R_P) (T := F_P) (N := 6) hx hb hk k_f_P t_P t_P_ok n_P hown hK hP hD hS 1 rfl rfl 4 (by decide) (hk _ k_C_32) (fun _ h9 => h9) rfl (by decide +kernel) rfl rfl (Nat.le_of_ble_eq_true rfl) d_P_addFunction_28 (fun H locs hP hD hS => ?_)
    have hP : va_P (dC, dI) kls (wC h cI (nI (nF + 1)) (nI nC) yn yt yg ym (fun c => nI (updN pl nF q c)) (fun c => nI (cf c)) (fun c => nI (ct c)) aK eB eE eA eL eN eC eS eW eT) H := hP
    have hD : va_D A (wC h cI (nI (nF + 1)) (nI nC) yn yt yg ym (fun c => nI (updN pl nF q c)) (fun c => nI (cf c)) (fun c => nI (ct c)) aK eB eE eA eL eN eC eS eW eT) := hD
    refine lv_aload_n hx hb d_P_addFunction_31 rfl (lv_at hl 0 rfl) ?_
    refine va_get (D := (dC, dI)) (ci := 1) (v := .int (nI (nF + 1))) (C := R_P) (T := F_P) (N := 6) hx hb hk k_f_P hown hK hP 1 rfl rfl 4 (by decide) (hk _ k_C_32) (fun _ h9 => h9) rfl d_P_addFunction_32 ?_
    refine lv_iconst (v := nI 1) hx hb d_P_addFunction_35 (by decide +kernel) ?_
    refine lv_isub hx hb d_P_addFunction_36 ?_
    refine lv_topi (fun z2 ez2 => ?_)
    obtain rfl : z2 = nI nF := ez2.trans (pk_sub (by omega))
    exact W.iret (v := nI nF) hx hb hr (fun t ht hW => ⟨⟨nI nF, (nI (nF + 1), fun c => nI (updN pl nF q c)), rfl, ⟨rfl, rfl, rfl⟩, by rw [ht]; exact hP, va_K.moved hW.alike hK, hD⟩, hS.F ht⟩) hS.2.2 d_P_addFunction_37
  · have c_6 : ¬ nF < 10 := fun z9 => c_6 ((nI_ltI (a := nF) (b := 10) (by omega) (by omega)).mpr z9)
    exfalso; omega
set_option maxHeartbeats 4000000 in
set_option maxRecDepth 100000 in
theorem c_P_addCall_ok (l : Launch) (dC : Nat → ClassId) (dI : Nat → Nat → Nat) (cI : ClassId) (h : Nat → Nat) (sz : Nat) (yn yt yg ym : Int32) (aK eB eE eA eL eN eC eS eW eT : Nat → Int32) (nF nC : Nat) (pl cf ct : Nat → Nat) (i1 j1 : Nat) (q : Int32) (hF : nF ≤ 10) (hC : nC < 20) (hi1 : i1 < nF) (hj1 : j1 < nF) (hpl : ∀ i, i < nF → 1 ≤ pl i ∧ pl i ≤ 4) : Met l y_P_addCall w_P_addCall ({ frames := 2, cells := 0, slots := 0, locals := 45 }) (va_Pc [.ref (h 1), .int (nI i1), .int (nI j1), .int q] (fun U => U.heap.size = sz ∧ va_P (dC, dI) kls (wC h cI (nI nF) (nI nC) yn yt yg ym (fun c => nI (pl c)) (fun c => nI (cf c)) (fun c => nI (ct c)) aK eB eE eA eL eN eC eS eW eT) U.heap ∧ va_K (dC, dI) kls (tyC cI) U ∧ va_D (fun _ => True) (wC h cI (nI nF) (nI nC) yn yt yg ym (fun c => nI (pl c)) (fun c => nI (cf c)) (fun c => nI (ct c)) aK eB eE eA eL eN eC eS eW eT))) (va_Qi (fun (r : Int32) (u : Int32 × (Nat → Int32) × (Nat → Int32) × (Nat → Int32)) => u.1 = nI (nC + 1) ∧ u.2.1 = (fun c => nI (updN cf nC i1 c)) ∧ u.2.2.1 = (fun c => nI (updN ct nC j1 c)) ∧ u.2.2.2 = upd aK nC (clC q (pl i1) (pl j1)) ∧ r = nI nC) (fun (u : Int32 × (Nat → Int32) × (Nat → Int32) × (Nat → Int32)) (t : State) => va_P (dC, dI) kls (wC h cI (nI nF) u.1 yn yt yg ym (fun c => nI (pl c)) u.2.1 u.2.2.1 u.2.2.2 eB eE eA eL eN eC eS eW eT) t.heap ∧ va_K (dC, dI) kls (tyC cI) t ∧ va_D (va_A (wC h cI (nI nF) (nI nC) yn yt yg ym (fun c => nI (pl c)) (fun c => nI (cf c)) (fun c => nI (ct c)) aK eB eE eA eL eN eC eS eW eT) sz) (wC h cI (nI nF) u.1 yn yt yg ym (fun c => nI (pl c)) u.2.1 u.2.2.1 u.2.2.2 eB eE eA eL eN eC eS eW eT)) (va_A (wC h cI (nI nF) (nI nC) yn yt yg ym (fun c => nI (pl c)) (fun c => nI (cf c)) (fun c => nI (ct c)) aK eB eE eA eL eN eC eS eW eT) sz)) 0 0 (va_A (wC h cI (nI nF) (nI nC) yn yt yg ym (fun c => nI (pl c)) (fun c => nI (cf c)) (fun c => nI (ct c)) aK eB eE eA eL eN eC eS eW eT) sz) := by
  refine Met.ofW (cc := c_P_addCall) (maxL := 4) (ret := (some .int)) (by decide) rfl ?_
  intro p e s m args below meth c s₁ B hml hv
  obtain ⟨rfl, hsz, hP, hK, hD0⟩ := hv
  have hx := B.exec
  have hb := B.bytes
  have hr := B.returns
  have hts := atoms_spec (ws := w_P_addCall) B.pre
  have hk : ∀ w ∈ wCw, w.before _ s = true := fun w h => hts w (List.mem_cons_of_mem _ h)
  have hown : s.vm.findClass R_P = some m.cls := findClass_of_methodNamed B.named
  have hlocks := B.notSynchronized
  subst hsz
  have hD := hD0.self (sz := s.heap.size)
  generalize hAe : va_A (wC h cI (nI nF) (nI nC) yn yt yg ym (fun c => nI (pl c)) (fun c => nI (cf c)) (fun c => nI (ct c)) aK eB eE eA eL eN eC eS eW eT) s.heap.size = A at hD ⊢
  have hA : ∀ q : Nat, s.heap.size ≤ q → A q := fun q h => by rw [← hAe]; exact Or.inr h
  have hS : va_S A s.heap s.heap [] := va_S.rf
  have hl := lv_entry ([.ref (h 1), .int (nI i1), .int (nI j1), .int q]) (n := 4) (Nat.le_of_ble_eq_true rfl)
  rw [lg_entry_eq]
  generalize (lg_sl ([.ref (h 1), .int (nI i1), .int (nI j1), .int q]) ++ List.replicate (4 - (lg_sl ([.ref (h 1), .int (nI i1), .int (nI j1), .int q])).length) Slot.unset).toArray = ls at hl ⊢
  have hl : lv_has ls 4 [(0, .ref (h 1)), (1, .int (nI i1)), (2, .int (nI j1)), (3, .int q)] := hl
  refine lv_aload_n hx hb d_P_addCall_0 rfl (lv_at hl 0 rfl) ?_
  refine va_get (D := (dC, dI)) (ci := 1) (v := .int (nI nC)) (C := R_P) (T := F_P) (N := 6) hx hb hk k_f_P hown hK hP 1 rfl rfl 5 (by decide) (hk _ k_C_35) (fun _ h9 => h9) rfl d_P_addCall_1 ?_
  refine lv_bipush (v := nI 20) hx hb d_P_addCall_4 (by decide +kernel) ?_
  refine lv_icmp_ge (tgt := 25) hx hb d_P_addCall_6 (by decide) (fun c_6 => ?_) (fun c_6 => ?_)
  · have c_6 : 20 ≤ nC := (nI_leI (a := 20) (b := nC) (by omega) (by omega)).mp c_6
    exfalso; omega
  · have c_6 : ¬ 20 ≤ nC := fun z9 => c_6 ((nI_leI (a := 20) (b := nC) (by omega) (by omega)).mpr z9)
    refine lv_aload_n hx hb d_P_addCall_9 rfl (lv_at hl 0 rfl) ?_
    refine lv_iload_n hx hb d_P_addCall_10 rfl (lv_at hl 1 rfl) ?_
    have hFc := va_free (wc := wC h cI (nI nF) (nI nC) yn yt yg ym (fun c => nI (pl c)) (fun c => nI (cf c)) (fun c => nI (ct c)) aK eB eE eA eL eN eC eS eW eT) hD hS hA [0, 1, 2, 3, 4, 5, 6, 7, 8, 9, 10, 11, 12, 13, 14, 15, 16] rfl
    refine va_calli (va_runV (As := [.int (nI i1)]) (rest := []) ⟨hx, hb, hml, hown, hk⟩ (c_P_hasFunction_ok l dC dI cI h s.heap.size yn yt yg ym aK eB eE eA eL eN eC eS eW eT nF nC pl cf ct (nI i1) (by omega)) (cwV 1 hk g_P_31 rfl rfl rfl (by decide +kernel) ⟨Nat.le_of_ble_eq_true rfl, Nat.le_of_ble_eq_true rfl⟩) ⟨fun a U g mk q => by obtain ⟨q0, q1, qP, qK, qD⟩ := q; exact ⟨q0, q1, qP, va_K.moved (u := U) (U := U.calling g mk a) (Vm.Alike.refl U.vm) qK, qD⟩, va_recv hK hP (ci := 1) (q0 := 1) rfl rfl, fun U hU hW => ⟨rfl, by rw [hU], by rw [hU]; exact hP, va_K.moved hW.alike hK, hD.weaken (fun _ _ _ _ => trivial)⟩⟩ rfl rfl hl.1 rfl (lv_room (Nat.le_of_ble_eq_true rfl)) d_P_addCall_11 ⟨Nat.le_of_ble_eq_true rfl, Nat.le_of_ble_eq_true rfl⟩) hS (fun q _ h => hFc q h) hFc (fun r1 u9 t H1 locs ht hvm hw hB hz1 hk1 hS => ?_)
    obtain ⟨hP1, hK1, hD1⟩ := hB
    rw [ht] at hP1
    try dsimp only at hw
    obtain ⟨hP, hD⟩ := va_join (wr := []) (w1 := wC h cI (nI nF) (nI nC) yn yt yg ym (fun c => nI (pl c)) (fun c => nI (cf c)) (fun c => nI (ct c)) aK eB eE eA eL eN eC eS eW eT) hP hD [0, 1, 2, 3, 4, 5, 6, 7, 8, 9, 10, 11, 12, 13, 14, 15, 16] [] rfl rfl (by decide) (by decide) hk1 hFc hP1 hD1
    generalize H1 = H at hP hS ⊢
    have hP : va_P (dC, dI) kls (wC h cI (nI nF) (nI nC) yn yt yg ym (fun c => nI (pl c)) (fun c => nI (cf c)) (fun c => nI (ct c)) aK eB eE eA eL eN eC eS eW eT) H := hP
    have hD : va_D A (wC h cI (nI nF) (nI nC) yn yt yg ym (fun c => nI (pl c)) (fun c => nI (cf c)) (fun c => nI (ct c)) aK eB eE eA eL eN eC eS eW eT) := hD
    rcases hw with ⟨hr9, -⟩ | ⟨hr9, hno9⟩
    · subst hr9
      refine lv_if_eq (tgt := 25) hx hb d_P_addCall_14 (by decide) (fun c9 => absurd c9 (by decide +kernel)) (fun _ => ?_)
      refine lv_aload_n hx hb d_P_addCall_17 rfl (lv_at hl 0 rfl) ?_
      refine lv_iload_n hx hb d_P_addCall_18 rfl (lv_at hl 2 rfl) ?_
      have hFc := va_free (wc := wC h cI (nI nF) (nI nC) yn yt yg ym (fun c => nI (pl c)) (fun c => nI (cf c)) (fun c => nI (ct c)) aK eB eE eA eL eN eC eS eW eT) hD hS hA [0, 1, 2, 3, 4, 5, 6, 7, 8, 9, 10, 11, 12, 13, 14, 15, 16] rfl
      refine va_calli (va_runV (As := [.int (nI j1)]) (rest := []) ⟨hx, hb, hml, hown, hk⟩ (c_P_hasFunction_ok l dC dI cI h H.size yn yt yg ym aK eB eE eA eL eN eC eS eW eT nF nC pl cf ct (nI j1) (by omega)) (cwV 1 hk g_P_31 rfl rfl rfl (by decide +kernel) ⟨Nat.le_of_ble_eq_true rfl, Nat.le_of_ble_eq_true rfl⟩) ⟨fun a U g mk q => by obtain ⟨q0, q1, qP, qK, qD⟩ := q; exact ⟨q0, q1, qP, va_K.moved (u := U) (U := U.calling g mk a) (Vm.Alike.refl U.vm) qK, qD⟩, va_recv hK hP (ci := 1) (q0 := 1) rfl rfl, fun U hU hW => ⟨rfl, by rw [hU], by rw [hU]; exact hP, va_K.moved hW.alike hK, hD.weaken (fun _ _ _ _ => trivial)⟩⟩ rfl rfl hl.1 rfl (lv_room (Nat.le_of_ble_eq_true rfl)) d_P_addCall_19 ⟨Nat.le_of_ble_eq_true rfl, Nat.le_of_ble_eq_true rfl⟩) hS (fun q _ h => hFc q h) hFc (fun r2 u9 t H1 locs ht hvm hw hB hz1 hk1 hS => ?_)
      obtain ⟨hP1, hK1, hD1⟩ := hB
      rw [ht] at hP1
      try dsimp only at hw
      obtain ⟨hP, hD⟩ := va_join (wr := []) (w1 := wC h cI (nI nF) (nI nC) yn yt yg ym (fun c => nI (pl c)) (fun c => nI (cf c)) (fun c => nI (ct c)) aK eB eE eA eL eN eC eS eW eT) hP hD [0, 1, 2, 3, 4, 5, 6, 7, 8, 9, 10, 11, 12, 13, 14, 15, 16] [] rfl rfl (by decide) (by decide) hk1 hFc hP1 hD1
      generalize H1 = H at hP hS ⊢
      have hP : va_P (dC, dI) kls (wC h cI (nI nF) (nI nC) yn yt yg ym (fun c => nI (pl c)) (fun c => nI (cf c)) (fun c => nI (ct c)) aK eB eE eA eL eN eC eS eW eT) H := hP
      have hD : va_D A (wC h cI (nI nF) (nI nC) yn yt yg ym (fun c => nI (pl c)) (fun c => nI (cf c)) (fun c => nI (ct c)) aK eB eE eA eL eN eC eS eW eT) := hD
      rcases hw with ⟨hr9, -⟩ | ⟨hr9, hno9⟩
      · subst hr9
        refine lv_if_ne (tgt := 27) hx hb d_P_addCall_22 (by decide) (fun _ => ?_) (fun c9 => absurd c9 (by decide +kernel))
        have hp1 := hpl i1 hi1
        have hp2 := hpl j1 hj1
        refine lv_aload_n hx hb d_P_addCall_27 rfl (lv_at hl 0 rfl) ?_
        refine va_get (D := (dC, dI)) (ci := 1) (v := .ref (h 3)) (C := R_P) (T := F_P) (N := 6) hx hb hk k_f_P hown hK hP 1 rfl rfl 1 (by decide) (hk _ k_C_20) (fun _ h9 => h9) rfl d_P_addCall_28 ?_
        refine lv_aload_n hx hb d_P_addCall_31 rfl (lv_at hl 0 rfl) ?_
        refine va_get (D := (dC, dI)) (ci := 1) (v := .int (nI nC)) (C := R_P) (T := F_P) (N := 6) hx hb hk k_f_P hown hK hP 1 rfl rfl 5 (by decide) (hk _ k_C_35) (fun _ h9 => h9) rfl d_P_addCall_32 ?_
        refine lv_iload_n hx hb d_P_addCall_35 rfl (lv_at hl 1 rfl) ?_
        refine va_iast hx hb hK hP hD hS 3 0 rfl rfl (pk_in nC 20 (by omega)) d_P_addCall_36 (fun H locs hP hD hS => ?_)
        rw [nI_clamp (n := nC) (by omega)] at hP hD
        rw [updN_eq] at hP hD
        have hP : va_P (dC, dI) kls (wC h cI (nI nF) (nI nC) yn yt yg ym (fun c => nI (pl c)) (fun c => nI (updN cf nC i1 c)) (fun c => nI (ct c)) aK eB eE eA eL eN eC eS eW eT) H := hP
        have hD : va_D A (wC h cI (nI nF) (nI nC) yn yt yg ym (fun c => nI (pl c)) (fun c => nI (updN cf nC i1 c)) (fun c => nI (ct c)) aK eB eE eA eL eN eC eS eW eT) := hD
        refine lv_aload_n hx hb d_P_addCall_37 rfl (lv_at hl 0 rfl) ?_
        refine va_get (D := (dC, dI)) (ci := 1) (v := .ref (h 4)) (C := R_P) (T := F_P) (N := 6) hx hb hk k_f_P hown hK hP 1 rfl rfl 2 (by decide) (hk _ k_C_24) (fun _ h9 => h9) rfl d_P_addCall_38 ?_
        refine lv_aload_n hx hb d_P_addCall_41 rfl (lv_at hl 0 rfl) ?_
        refine va_get (D := (dC, dI)) (ci := 1) (v := .int (nI nC)) (C := R_P) (T := F_P) (N := 6) hx hb hk k_f_P hown hK hP 1 rfl rfl 5 (by decide) (hk _ k_C_35) (fun _ h9 => h9) rfl d_P_addCall_42 ?_
        refine lv_iload_n hx hb d_P_addCall_45 rfl (lv_at hl 2 rfl) ?_
        refine va_iast hx hb hK hP hD hS 4 0 rfl rfl (pk_in nC 20 (by omega)) d_P_addCall_46 (fun H locs hP hD hS => ?_)
        rw [nI_clamp (n := nC) (by omega)] at hP hD
        rw [updN_eq] at hP hD
        have hP : va_P (dC, dI) kls (wC h cI (nI nF) (nI nC) yn yt yg ym (fun c => nI (pl c)) (fun c => nI (updN cf nC i1 c)) (fun c => nI (updN ct nC j1 c)) aK eB eE eA eL eN eC eS eW eT) H := hP
        have hD : va_D A (wC h cI (nI nF) (nI nC) yn yt yg ym (fun c => nI (pl c)) (fun c => nI (updN cf nC i1 c)) (fun c => nI (updN ct nC j1 c)) aK eB eE eA eL eN eC eS eW eT) := hD
        refine lv_aload_n hx hb d_P_addCall_47 rfl (lv_at hl 0 rfl) ?_
        refine va_get (D := (dC, dI)) (ci := 1) (v := .ref (h 5)) (C := R_P) (T := F_P) (N := 6) hx hb hk k_f_P hown hK hP 1 rfl rfl 3 (by decide) (hk _ k_C_28) (fun _ h9 => h9) rfl d_P_addCall_48 ?_
        refine lv_aload_n hx hb d_P_addCall_51 rfl (lv_at hl 0 rfl) ?_
        refine va_get (D := (dC, dI)) (ci := 1) (v := .int (nI nC)) (C := R_P) (T := F_P) (N := 6) hx hb hk k_f_P hown hK hP 1 rfl rfl 5 (by decide) (hk _ k_C_35) (fun _ h9 => h9) rfl d_P_addCall_52 ?_
        refine lv_iload_n hx hb d_P_addCall_55 rfl (lv_at hl 3 rfl) ?_
        refine lv_aload_n hx hb d_P_addCall_56 rfl (lv_at hl 0 rfl) ?_
        refine va_get (D := (dC, dI)) (ci := 1) (v := .ref (h 2)) (C := R_P) (T := F_P) (N := 6) hx hb hk k_f_P hown hK hP 1 rfl rfl 0 (by decide) (hk _ k_C_18) (fun _ h9 => h9) rfl d_P_addCall_57 ?_
        refine lv_iload_n hx hb d_P_addCall_60 rfl (lv_at hl 1 rfl) ?_
        refine va_iald hx hb hK hP 2 0 rfl rfl (pk_in i1 10 (by omega)) d_P_addCall_61 ?_
        refine lv_topi (fun z3 ez3 => ?_)
        obtain rfl : z3 = nI (pl i1) := ez3.trans (rd (f := fun c => nI (pl c)) (k := i1) (by omega))
        refine lv_aload_n hx hb d_P_addCall_62 rfl (lv_at hl 0 rfl) ?_
        refine va_get (D := (dC, dI)) (ci := 1) (v := .ref (h 2)) (C := R_P) (T := F_P) (N := 6) hx hb hk k_f_P hown hK hP 1 rfl rfl 0 (by decide) (hk _ k_C_18) (fun _ h9 => h9) rfl d_P_addCall_63 ?_
        refine lv_iload_n hx hb d_P_addCall_66 rfl (lv_at hl 2 rfl) ?_
        refine va_iald hx hb hK hP 2 0 rfl rfl (pk_in j1 10 (by omega)) d_P_addCall_67 ?_
        refine lv_topi (fun z4 ez4 => ?_)
        obtain rfl : z4 = nI (pl j1) := ez4.trans (rd (f := fun c => nI (pl c)) (k := j1) (by omega))
        refine vp_callSi (W.runS (As := [.int q, .int (nI (pl i1)), .int (nI (pl j1))]) (rest := [.int (nI nC), .ref (h 5)]) ⟨hx, hb, hml, hown, hk⟩ (c_G_clean_ok l q (pl i1) (pl j1) (by omega) (by omega)) (va_cwS 3 hk g_P_35 rfl rfl rfl (by decide +kernel) ⟨Nat.le_of_ble_eq_true rfl, Nat.le_of_ble_eq_true rfl⟩) ⟨fun a U g mk q => q, fun U hU hW => ⟨rfl, trivial⟩⟩ rfl rfl hl.1 rfl (lv_room (Nat.le_of_ble_eq_true rfl)) d_P_addCall_68 ⟨Nat.le_of_ble_eq_true rfl, Nat.le_of_ble_eq_true rfl⟩) (fun r5 hw => ?_)
        subst hw
        refine va_iast hx hb hK hP hD hS 5 0 rfl rfl (pk_in nC 20 (by omega)) d_P_addCall_71 (fun H locs hP hD hS => ?_)
        rw [nI_clamp (n := nC) (by omega)] at hP hD
        have hP : va_P (dC, dI) kls (wC h cI (nI nF) (nI nC) yn yt yg ym (fun c => nI (pl c)) (fun c => nI (updN cf nC i1 c)) (fun c => nI (updN ct nC j1 c)) (upd aK nC (clC q (pl i1) (pl j1))) eB eE eA eL eN eC eS eW eT) H := hP
        have hD : va_D A (wC h cI (nI nF) (nI nC) yn yt yg ym (fun c => nI (pl c)) (fun c => nI (updN cf nC i1 c)) (fun c => nI (updN ct nC j1 c)) (upd aK nC (clC q (pl i1) (pl j1))) eB eE eA eL eN eC eS eW eT) := hD
        refine lv_aload_n hx hb d_P_addCall_72 rfl (lv_at hl 0 rfl) ?_
        refine lv_dup hx hb d_P_addCall_73 rfl ?_
        refine va_get (D := (dC, dI)) (ci := 1) (v := .int (nI nC)) (C := R_P) (T := F_P) (N := 6) hx hb hk k_f_P hown hK hP 1 rfl rfl 5 (by decide) (hk _ k_C_35) (fun _ h9 => h9) rfl d_P_addCall_74 ?_
        refine lv_iconst (v := nI 1) hx hb d_P_addCall_77 (by decide +kernel) ?_
        refine lv_iadd hx hb d_P_addCall_78 ?_
        refine lv_topi (fun z6 ez6 => ?_)
        obtain rfl : z6 = nI (nC + 1) := ez6.trans (nI_add _ _)
        refine va_put (D := (dC, dI)) (ci := 1) (v := .int (nI (nC + 1))) (ty := .int) (C := R_P) (T := F_P) (N := 6) hx hb hk k_f_P t_P t_P_ok n_P hown hK hP hD hS 1 rfl rfl 5 (by decide) (hk _ k_C_35) (fun _ h9 => h9) rfl (by decide +kernel) rfl rfl (Nat.le_of_ble_eq_true rfl) d_P_addCall_79 (fun H locs hP hD hS => ?_)
        have hP : va_P (dC, dI) kls (wC h cI (nI nF) (nI (nC + 1)) yn yt yg ym (fun c => nI (pl c)) (fun c => nI (updN cf nC i1 c)) (fun c => nI (updN ct nC j1 c)) (upd aK nC (clC q (pl i1) (pl j1))) eB eE eA eL eN eC eS eW eT) H := hP
        have hD : va_D A (wC h cI (nI nF) (nI (nC + 1)) yn yt yg ym (fun c => nI (pl c)) (fun c => nI (updN cf nC i1 c)) (fun c => nI (updN ct nC j1 c)) (upd aK nC (clC q (pl i1) (pl j1))) eB eE eA eL eN eC eS eW eT) := hD
        refine lv_aload_n hx hb d_P_addCall_82 rfl (lv_at hl 0 rfl) ?_
        refine va_get (D := (dC, dI)) (ci := 1) (v := .int (nI (nC + 1))) (C := R_P) (T := F_P) (N := 6) hx hb hk k_f_P hown hK hP 1 rfl rfl 5 (by decide) (hk _ k_C_35) (fun _ h9 => h9) rfl d_P_addCall_83 ?_
        refine lv_iconst (v := nI 1) hx hb d_P_addCall_86 (by decide +kernel) ?_
        refine lv_isub hx hb d_P_addCall_87 ?_
        refine lv_topi (fun z7 ez7 => ?_)
        obtain rfl : z7 = nI nC := ez7.trans (pk_sub (by omega))
        exact W.iret (v := nI nC) hx hb hr (fun t ht hW => ⟨⟨nI nC, (nI (nC + 1), fun c => nI (updN cf nC i1 c), fun c => nI (updN ct nC j1 c), upd aK nC (clC q (pl i1) (pl j1))), rfl, ⟨rfl, rfl, rfl, rfl, rfl⟩, by rw [ht]; exact hP, va_K.moved hW.alike hK, hD⟩, hS.F ht⟩) hS.2.2 d_P_addCall_88
      · exact absurd ⟨j1, by omega, rfl⟩ hno9
    · exact absurd ⟨i1, by omega, rfl⟩ hno9
set_option maxHeartbeats 4000000 in
set_option maxRecDepth 100000 in
theorem c_P_reachedFrom_ok (l : Launch) (dC : Nat → ClassId) (dI : Nat → Nat → Nat) (cI : ClassId) (h : Nat → Nat) (sz : Nat) (yn yt yg ym : Int32) (aK eB eE eA eL eN eC eS eW eT : Nat → Int32) (nF nC : Nat) (pl cf ct : Nat → Nat) (f : Nat) (hF : nF ≤ 10) (hC : nC ≤ 20) (hS0 : ∀ c, c < nC → cf c < nF ∧ ct c < nF) (hpl : ∀ i, i < nF → 1 ≤ pl i ∧ pl i ≤ 4) (hf : f < nF) : Met l y_P_reachedFrom w_P_reachedFrom ({ frames := 0, cells := 0, slots := 0, locals := 0 }) (va_Pc [.ref (h 1), .int (nI f)] (fun U => U.heap.size = sz ∧ va_P (dC, dI) kls (wC h cI (nI nF) (nI nC) yn yt yg ym (fun c => nI (pl c)) (fun c => nI (cf c)) (fun c => nI (ct c)) aK eB eE eA eL eN eC eS eW eT) U.heap ∧ va_K (dC, dI) kls (tyC cI) U ∧ va_D (fun _ => True) (wC h cI (nI nF) (nI nC) yn yt yg ym (fun c => nI (pl c)) (fun c => nI (cf c)) (fun c => nI (ct c)) aK eB eE eA eL eN eC eS eW eT))) (va_Qi (fun (r : Int32) (u : Unit) => r = nI (rcN nC cf ct f nF)) (fun (u : Unit) (t : State) => va_P (dC, dI) kls (wC h cI (nI nF) (nI nC) yn yt yg ym (fun c => nI (pl c)) (fun c => nI (cf c)) (fun c => nI (ct c)) aK eB eE eA eL eN eC eS eW eT) t.heap ∧ va_K (dC, dI) kls (tyC cI) t ∧ va_D (va_A (wC h cI (nI nF) (nI nC) yn yt yg ym (fun c => nI (pl c)) (fun c => nI (cf c)) (fun c => nI (ct c)) aK eB eE eA eL eN eC eS eW eT) sz) (wC h cI (nI nF) (nI nC) yn yt yg ym (fun c => nI (pl c)) (fun c => nI (cf c)) (fun c => nI (ct c)) aK eB eE eA eL eN eC eS eW eT)) (va_A (wC h cI (nI nF) (nI nC) yn yt yg ym (fun c => nI (pl c)) (fun c => nI (cf c)) (fun c => nI (ct c)) aK eB eE eA eL eN eC eS eW eT) sz)) 0 0 (va_A (wC h cI (nI nF) (nI nC) yn yt yg ym (fun c => nI (pl c)) (fun c => nI (cf c)) (fun c => nI (ct c)) aK eB eE eA eL eN eC eS eW eT) sz) := by
  refine Met.ofW (cc := c_P_reachedFrom) (maxL := 5) (ret := (some .int)) (by decide) rfl ?_
  intro p e s m args below meth c s₁ B hml hv
  obtain ⟨rfl, hsz, hP, hK, hD0⟩ := hv
  have hx := B.exec
  have hb := B.bytes
  have hr := B.returns
  have hts := atoms_spec (ws := w_P_reachedFrom) B.pre
  have hk : ∀ w ∈ wCw, w.before _ s = true := fun w h => hts w (List.mem_cons_of_mem _ h)
  have hown : s.vm.findClass R_P = some m.cls := findClass_of_methodNamed B.named
  have hlocks := B.notSynchronized
  subst hsz
  have hD := hD0.self (sz := s.heap.size)
  generalize hAe : va_A (wC h cI (nI nF) (nI nC) yn yt yg ym (fun c => nI (pl c)) (fun c => nI (cf c)) (fun c => nI (ct c)) aK eB eE eA eL eN eC eS eW eT) s.heap.size = A at hD ⊢
  have hA : ∀ q : Nat, s.heap.size ≤ q → A q := fun q h => by rw [← hAe]; exact Or.inr h
  have hS : va_S A s.heap s.heap [] := va_S.rf
  have hl := lv_entry ([.ref (h 1), .int (nI f)]) (n := 5) (Nat.le_of_ble_eq_true rfl)
  rw [lg_entry_eq]
  generalize (lg_sl ([.ref (h 1), .int (nI f)]) ++ List.replicate (5 - (lg_sl ([.ref (h 1), .int (nI f)])).length) Slot.unset).toArray = ls at hl ⊢
  have hl : lv_has ls 5 [(0, .ref (h 1)), (1, .int (nI f))] := hl
  refine lv_iconst (v := nI 0) hx hb d_P_reachedFrom_0 (by decide +kernel) ?_
  refine lv_istore_n (lv' := [(2, .int (nI 0)), (0, .ref (h 1)), (1, .int (nI f))]) hx hb d_P_reachedFrom_1 rfl hl (by decide) rfl (fun ls hl => ?_)
  refine lv_iconst (v := nI 1) hx hb d_P_reachedFrom_2 (by decide +kernel) ?_
  refine lv_istore_n (lv' := [(3, .int (nI 1)), (2, .int (nI 0)), (0, .ref (h 1)), (1, .int (nI f))]) hx hb d_P_reachedFrom_3 rfl hl (by decide) rfl (fun ls hl => ?_)
  have lp1 : ∀ (n_lp1 : Nat) (t9 : Nat), (t9 ≤ nF) → nF - t9 < n_lp1 → ∀ (H : Heap) (locs : List Loc) (ls : Array Slot), va_P (dC, dI) kls (wC h cI (nI nF) (nI nC) yn yt yg ym (fun c => nI (pl c)) (fun c => nI (cf c)) (fun c => nI (ct c)) aK eB eE eA eL eN eC eS eW eT) H → va_D A (wC h cI (nI nF) (nI nC) yn yt yg ym (fun c => nI (pl c)) (fun c => nI (cf c)) (fun c => nI (ct c)) aK eB eE eA eL eN eC eS eW eT) → va_S A s.heap H locs → lv_has ls 5 [(0, .ref (h 1)), (1, .int (nI f)), (2, .int (nI (rcN nC cf ct f t9))), (3, .int (nI (t9 + 1)))] → W p l e (headSpec w_P_reachedFrom ({ frames := 0, cells := 0, slots := 0, locals := 0 })).room s m ([.ref (h 1), .int (nI f)]).toArray below meth c H locs 0 0 (MQ below (va_Qi (fun (r : Int32) (u : Unit) => r = nI (rcN nC cf ct f nF)) (fun (u : Unit) (t : State) => va_P (dC, dI) kls (wC h cI (nI nF) (nI nC) yn yt yg ym (fun c => nI (pl c)) (fun c => nI (cf c)) (fun c => nI (ct c)) aK eB eE eA eL eN eC eS eW eT) t.heap ∧ va_K (dC, dI) kls (tyC cI) t ∧ va_D (A) (wC h cI (nI nF) (nI nC) yn yt yg ym (fun c => nI (pl c)) (fun c => nI (cf c)) (fun c => nI (ct c)) aK eB eE eA eL eN eC eS eW eT)) A) ([.ref (h 1), .int (nI f)]).toArray s 0 0 A) (F0 m 4 ls []) := by
    intro n_lp1
    induction n_lp1 with
    | zero => intro t9 ht hn; exact absurd hn (Nat.not_lt_zero _)
    | succ n_lp1 ih_lp1 =>
      intro t9 ht hn H locs ls hP hD hS hl
      refine lv_iload_n hx hb d_P_reachedFrom_4 rfl (lv_at hl 3 rfl) ?_
      refine lv_aload_n hx hb d_P_reachedFrom_5 rfl (lv_at hl 0 rfl) ?_
      refine va_get (D := (dC, dI)) (ci := 1) (v := .int (nI nF)) (C := R_P) (T := F_P) (N := 6) hx hb hk k_f_P hown hK hP 1 rfl rfl 4 (by decide) (hk _ k_C_32) (fun _ h9 => h9) rfl d_P_reachedFrom_6 ?_
      refine lv_icmp_gt (tgt := 73) hx hb d_P_reachedFrom_9 (by decide) (fun c_9 => ?_) (fun c_9 => ?_)
      · have c_9 : nF < t9 + 1 := (nI_ltI (a := nF) (b := t9 + 1) (by omega) (by omega)).mp c_9
        refine lv_iload_n hx hb d_P_reachedFrom_73 rfl (lv_at hl 2 rfl) ?_
        have hte : t9 = nF := by omega
        have hq9 : nI (rcN nC cf ct f t9) = nI (rcN nC cf ct f nF) := by rw [hte]
        exact W.iret (v := nI (rcN nC cf ct f t9)) hx hb hr (fun t ht hW => ⟨⟨nI (rcN nC cf ct f t9), (), rfl, hq9, by rw [ht]; exact hP, va_K.moved hW.alike hK, hD⟩, hS.F ht⟩) hS.2.2 d_P_reachedFrom_74
      · have c_9 : ¬ nF < t9 + 1 := fun z9 => c_9 ((nI_ltI (a := nF) (b := t9 + 1) (by omega) (by omega)).mpr z9)
        refine lv_iconst (v := nI 0) hx hb d_P_reachedFrom_12 (by decide +kernel) ?_
        refine lv_istore (lv' := [(4, .int (nI 0)), (0, .ref (h 1)), (1, .int (nI f)), (2, .int (nI (rcN nC cf ct f t9))), (3, .int (nI (t9 + 1)))]) hx hb d_P_reachedFrom_13 hl (by decide) rfl (fun ls hl => ?_)
        have lp2 : ∀ (n_lp2 : Nat) (i : Nat), (i ≤ nC) → nC - i < n_lp2 → ∀ (H : Heap) (locs : List Loc) (ls : Array Slot), va_P (dC, dI) kls (wC h cI (nI nF) (nI nC) yn yt yg ym (fun c => nI (pl c)) (fun c => nI (cf c)) (fun c => nI (ct c)) aK eB eE eA eL eN eC eS eW eT) H → va_D A (wC h cI (nI nF) (nI nC) yn yt yg ym (fun c => nI (pl c)) (fun c => nI (cf c)) (fun c => nI (ct c)) aK eB eE eA eL eN eC eS eW eT) → va_S A s.heap H locs → lv_has ls 5 [(0, .ref (h 1)), (1, .int (nI f)), (2, .int (nI (rcP cf ct f (rcN nC cf ct f t9) i))), (3, .int (nI (t9 + 1))), (4, .int (nI i))] → W p l e (headSpec w_P_reachedFrom ({ frames := 0, cells := 0, slots := 0, locals := 0 })).room s m ([.ref (h 1), .int (nI f)]).toArray below meth c H locs 0 0 (MQ below (va_Qi (fun (r : Int32) (u : Unit) => r = nI (rcN nC cf ct f nF)) (fun (u : Unit) (t : State) => va_P (dC, dI) kls (wC h cI (nI nF) (nI nC) yn yt yg ym (fun c => nI (pl c)) (fun c => nI (cf c)) (fun c => nI (ct c)) aK eB eE eA eL eN eC eS eW eT) t.heap ∧ va_K (dC, dI) kls (tyC cI) t ∧ va_D (A) (wC h cI (nI nF) (nI nC) yn yt yg ym (fun c => nI (pl c)) (fun c => nI (cf c)) (fun c => nI (ct c)) aK eB eE eA eL eN eC eS eW eT)) A) ([.ref (h 1), .int (nI f)]).toArray s 0 0 A) (F0 m 15 ls []) := by
          intro n_lp2
          induction n_lp2 with
          | zero => intro i hi hn; exact absurd hn (Nat.not_lt_zero _)
          | succ n_lp2 ih_lp2 =>
            intro i hi hn H locs ls hP hD hS hl
            refine lv_iload hx hb d_P_reachedFrom_15 (lv_at hl 4 rfl) ?_
            refine lv_aload_n hx hb d_P_reachedFrom_17 rfl (lv_at hl 0 rfl) ?_
            refine va_get (D := (dC, dI)) (ci := 1) (v := .int (nI nC)) (C := R_P) (T := F_P) (N := 6) hx hb hk k_f_P hown hK hP 1 rfl rfl 5 (by decide) (hk _ k_C_35) (fun _ h9 => h9) rfl d_P_reachedFrom_18 ?_
            refine lv_icmp_ge (tgt := 67) hx hb d_P_reachedFrom_21 (by decide) (fun c_21 => ?_) (fun c_21 => ?_)
            · have c_21 : nC ≤ i := (nI_leI (a := nC) (b := i) (by omega) (by omega)).mp c_21
              refine lv_iinc (v := nI (t9 + 2)) (lv' := [(3, .int (nI (t9 + 2))), (0, .ref (h 1)), (1, .int (nI f)), (2, .int (nI (rcP cf ct f (rcN nC cf ct f t9) i))), (4, .int (nI i))]) hx hb d_P_reachedFrom_67 hl (k := 3) rfl (nI_add (t9 + 1) 1) (by decide) rfl (fun ls hl => ?_)
              refine lv_goto (tgt := 4) hx hb d_P_reachedFrom_70 (by decide) ?_
              have hin : i = nC := by omega
              subst hin
              have hre : rcP cf ct f (rcN i cf ct f t9) i = rcN i cf ct f (t9 + 1) := rfl
              rw [hre] at hl
              exact ih_lp1 (t9 + 1) (by omega) (by omega) _ _ _ hP hD hS (lv_sub hl [1, 2, 3, 0] rfl)
            · have c_21 : ¬ nC ≤ i := fun z9 => c_21 ((nI_leI (a := nC) (b := i) (by omega) (by omega)).mpr z9)
              have hci := hS0 i (by omega)
              have hml : rcP cf ct f (rcN nC cf ct f t9) i < 2 ^ nF := rcP_lt nC cf ct f (fun c hc => (hS0 c hc).2) (rcN_lt nC cf ct f (fun c hc => (hS0 c hc).2) t9) i (by omega)
              have hp2 := p2_lt hF
              refine lv_aload_n hx hb d_P_reachedFrom_24 rfl (lv_at hl 0 rfl) ?_
              refine va_get (D := (dC, dI)) (ci := 1) (v := .ref (h 3)) (C := R_P) (T := F_P) (N := 6) hx hb hk k_f_P hown hK hP 1 rfl rfl 1 (by decide) (hk _ k_C_20) (fun _ h9 => h9) rfl d_P_reachedFrom_25 ?_
              refine lv_iload hx hb d_P_reachedFrom_28 (lv_at hl 4 rfl) ?_
              refine va_iald hx hb hK hP 3 0 rfl rfl (pk_in i 20 (by omega)) d_P_reachedFrom_30 ?_
              refine lv_topi (fun z1 ez1 => ?_)
              obtain rfl : z1 = nI (cf i) := ez1.trans (rd (f := fun c => nI (cf c)) (k := i) (by omega))
              refine lv_iload_n hx hb d_P_reachedFrom_31 rfl (lv_at hl 1 rfl) ?_
              refine lv_icmp_eq (tgt := 49) hx hb d_P_reachedFrom_32 (by decide) (fun c_32 => ?_) (fun c_32 => ?_)
              · have c_32 : cf i = f := (nI_eq (a := cf i) (b := f) (by omega) (by omega)).mp c_32
                refine lv_iload_n hx hb d_P_reachedFrom_49 rfl (lv_at hl 2 rfl) ?_
                refine lv_iconst (v := nI 1) hx hb d_P_reachedFrom_50 (by decide +kernel) ?_
                refine lv_aload_n hx hb d_P_reachedFrom_51 rfl (lv_at hl 0 rfl) ?_
                refine va_get (D := (dC, dI)) (ci := 1) (v := .ref (h 4)) (C := R_P) (T := F_P) (N := 6) hx hb hk k_f_P hown hK hP 1 rfl rfl 2 (by decide) (hk _ k_C_24) (fun _ h9 => h9) rfl d_P_reachedFrom_52 ?_
                refine lv_iload hx hb d_P_reachedFrom_55 (lv_at hl 4 rfl) ?_
                refine va_iald hx hb hK hP 4 0 rfl rfl (pk_in i 20 (by omega)) d_P_reachedFrom_57 ?_
                refine lv_topi (fun z2 ez2 => ?_)
                obtain rfl : z2 = nI (ct i) := ez2.trans (rd (f := fun c => nI (ct c)) (k := i) (by omega))
                refine lv_ishl hx hb d_P_reachedFrom_58 ?_
                refine lv_topi (fun z3 ez3 => ?_)
                obtain rfl : z3 = shl (nI 1) (ct i) := ez3.trans (rfl)
                refine lv_ior hx hb d_P_reachedFrom_59 ?_
                have hst : rcP cf ct f (rcN nC cf ct f t9) (i + 1) = rcP cf ct f (rcN nC cf ct f t9) i ||| 2 ^ ct i := by
                  rw [rcP]
                  first
                    | rw [if_pos (Or.inl c_32)]
                    | (rw [if_pos (Or.inr (by cases hb9 : (rcP cf ct f (rcN nC cf ct f t9) i).testBit (cf i); rw [hb9] at c_46; exact absurd rfl c_46; rfl))])
                refine lv_topi (fun z4 ez4 => ?_)
                obtain rfl : z4 = nI (rcP cf ct f (rcN nC cf ct f t9) (i + 1)) := ez4.trans (by rw [shl_1 _ (by omega), nx_or, hst])
                refine lv_istore_n (lv' := [(2, .int (nI (rcP cf ct f (rcN nC cf ct f t9) (i + 1)))), (0, .ref (h 1)), (1, .int (nI f)), (3, .int (nI (t9 + 1))), (4, .int (nI i))]) hx hb d_P_reachedFrom_60 rfl hl (by decide) rfl (fun ls hl => ?_)
                refine lv_iinc (v := nI (i + 1)) (lv' := [(4, .int (nI (i + 1))), (2, .int (nI (rcP cf ct f (rcN nC cf ct f t9) (i + 1)))), (0, .ref (h 1)), (1, .int (nI f)), (3, .int (nI (t9 + 1)))]) hx hb d_P_reachedFrom_61 hl (k := 4) rfl (nI_add i 1) (by decide) rfl (fun ls hl => ?_)
                refine lv_goto (tgt := 15) hx hb d_P_reachedFrom_64 (by decide) ?_
                exact ih_lp2 (i + 1) (by omega) (by omega) _ _ _ hP hD hS (lv_sub hl [2, 3, 1, 4, 0] rfl)
              · have c_32 : ¬ cf i = f := fun z9 => c_32 ((nI_eq (a := cf i) (b := f) (by omega) (by omega)).mpr z9)
                refine lv_iload_n hx hb d_P_reachedFrom_35 rfl (lv_at hl 2 rfl) ?_
                refine lv_aload_n hx hb d_P_reachedFrom_36 rfl (lv_at hl 0 rfl) ?_
                refine va_get (D := (dC, dI)) (ci := 1) (v := .ref (h 3)) (C := R_P) (T := F_P) (N := 6) hx hb hk k_f_P hown hK hP 1 rfl rfl 1 (by decide) (hk _ k_C_20) (fun _ h9 => h9) rfl d_P_reachedFrom_37 ?_
                refine lv_iload hx hb d_P_reachedFrom_40 (lv_at hl 4 rfl) ?_
                refine va_iald hx hb hK hP 3 0 rfl rfl (pk_in i 20 (by omega)) d_P_reachedFrom_42 ?_
                refine lv_topi (fun z5 ez5 => ?_)
                obtain rfl : z5 = nI (cf i) := ez5.trans (rd (f := fun c => nI (cf c)) (k := i) (by omega))
                refine lv_iushr (v := ush (nI (rcP cf ct f (rcN nC cf ct f t9) i)) (cf i)) hx hb d_P_reachedFrom_43 rfl ?_
                refine lv_iconst (v := nI 1) hx hb d_P_reachedFrom_44 (by decide +kernel) ?_
                refine lv_iand hx hb d_P_reachedFrom_45 ?_
                refine lv_topi (fun z6 ez6 => ?_)
                obtain rfl : z6 = nI (((rcP cf ct f (rcN nC cf ct f t9) i).testBit (cf i)).toNat) := ez6.trans (ush_bit (by omega) (by omega))
                have hbl : ((rcP cf ct f (rcN nC cf ct f t9) i).testBit (cf i)).toNat < 2 := by cases (rcP cf ct f (rcN nC cf ct f t9) i).testBit (cf i) <;> decide
                refine lv_if_eq (tgt := 61) hx hb d_P_reachedFrom_46 (by decide) (fun c_46 => ?_) (fun c_46 => ?_)
                · have c_46 : ((rcP cf ct f (rcN nC cf ct f t9) i).testBit (cf i)).toNat = 0 := (nI_eq (a := ((rcP cf ct f (rcN nC cf ct f t9) i).testBit (cf i)).toNat) (b := 0) (by omega) (by omega)).mp c_46
                  refine lv_iinc (v := nI (i + 1)) (lv' := [(4, .int (nI (i + 1))), (0, .ref (h 1)), (1, .int (nI f)), (2, .int (nI (rcP cf ct f (rcN nC cf ct f t9) i))), (3, .int (nI (t9 + 1)))]) hx hb d_P_reachedFrom_61 hl (k := 4) rfl (nI_add i 1) (by decide) rfl (fun ls hl => ?_)
                  refine lv_goto (tgt := 15) hx hb d_P_reachedFrom_64 (by decide) ?_
                  have hst : rcP cf ct f (rcN nC cf ct f t9) (i + 1) = rcP cf ct f (rcN nC cf ct f t9) i := by rw [rcP, if_neg (by intro z; rcases z with z | z; exact c_32 z; rw [z] at c_46; exact absurd c_46 (by decide))]
                  rw [← hst] at hl
                  exact ih_lp2 (i + 1) (by omega) (by omega) _ _ _ hP hD hS (lv_sub hl [1, 2, 3, 4, 0] rfl)
                · have c_46 : ¬ ((rcP cf ct f (rcN nC cf ct f t9) i).testBit (cf i)).toNat = 0 := fun z9 => c_46 ((nI_eq (a := ((rcP cf ct f (rcN nC cf ct f t9) i).testBit (cf i)).toNat) (b := 0) (by omega) (by omega)).mpr z9)
                  refine lv_iload_n hx hb d_P_reachedFrom_49 rfl (lv_at hl 2 rfl) ?_
                  refine lv_iconst (v := nI 1) hx hb d_P_reachedFrom_50 (by decide +kernel) ?_
                  refine lv_aload_n hx hb d_P_reachedFrom_51 rfl (lv_at hl 0 rfl) ?_
                  refine va_get (D := (dC, dI)) (ci := 1) (v := .ref (h 4)) (C := R_P) (T := F_P) (N := 6) hx hb hk k_f_P hown hK hP 1 rfl rfl 2 (by decide) (hk _ k_C_24) (fun _ h9 => h9) rfl d_P_reachedFrom_52 ?_
                  refine lv_iload hx hb d_P_reachedFrom_55 (lv_at hl 4 rfl) ?_
                  refine va_iald hx hb hK hP 4 0 rfl rfl (pk_in i 20 (by omega)) d_P_reachedFrom_57 ?_
                  refine lv_topi (fun z7 ez7 => ?_)
                  obtain rfl : z7 = nI (ct i) := ez7.trans (rd (f := fun c => nI (ct c)) (k := i) (by omega))
                  refine lv_ishl hx hb d_P_reachedFrom_58 ?_
                  refine lv_topi (fun z8 ez8 => ?_)
                  obtain rfl : z8 = shl (nI 1) (ct i) := ez8.trans (rfl)
                  refine lv_ior hx hb d_P_reachedFrom_59 ?_
                  have hst : rcP cf ct f (rcN nC cf ct f t9) (i + 1) = rcP cf ct f (rcN nC cf ct f t9) i ||| 2 ^ ct i := by
                    rw [rcP]
                    first
                      | rw [if_pos (Or.inl c_32)]
                      | (rw [if_pos (Or.inr (by cases hb9 : (rcP cf ct f (rcN nC cf ct f t9) i).testBit (cf i); rw [hb9] at c_46; exact absurd rfl c_46; rfl))])
                  refine lv_topi (fun z9 ez9 => ?_)
                  obtain rfl : z9 = nI (rcP cf ct f (rcN nC cf ct f t9) (i + 1)) := ez9.trans (by rw [shl_1 _ (by omega), nx_or, hst])
                  refine lv_istore_n (lv' := [(2, .int (nI (rcP cf ct f (rcN nC cf ct f t9) (i + 1)))), (0, .ref (h 1)), (1, .int (nI f)), (3, .int (nI (t9 + 1))), (4, .int (nI i))]) hx hb d_P_reachedFrom_60 rfl hl (by decide) rfl (fun ls hl => ?_)
                  refine lv_iinc (v := nI (i + 1)) (lv' := [(4, .int (nI (i + 1))), (2, .int (nI (rcP cf ct f (rcN nC cf ct f t9) (i + 1)))), (0, .ref (h 1)), (1, .int (nI f)), (3, .int (nI (t9 + 1)))]) hx hb d_P_reachedFrom_61 hl (k := 4) rfl (nI_add i 1) (by decide) rfl (fun ls hl => ?_)
                  refine lv_goto (tgt := 15) hx hb d_P_reachedFrom_64 (by decide) ?_
                  exact ih_lp2 (i + 1) (by omega) (by omega) _ _ _ hP hD hS (lv_sub hl [2, 3, 1, 4, 0] rfl)
        exact lp2 _ 0 (Nat.zero_le _) (Nat.lt_succ_self _) _ _ _ hP hD hS (lv_sub hl [1, 2, 3, 4, 0] rfl)
  exact lp1 _ 0 (Nat.zero_le _) (Nat.lt_succ_self _) _ _ _ hP hD hS (lv_sub hl [2, 3, 1, 0] rfl)
