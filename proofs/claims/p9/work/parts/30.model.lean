abbrev wM (h : Nat → Nat) (cI cZ : ClassId) (xt xf xc xg : Int32) (aP aF aT aK bF bL bB bA bY bR oT oO oR bS : Nat → Int32) : va_W :=
  [(h 0, .inr (0, [.int xt, .int xf, .int xc, .ref (h 1), .ref (h 2), .ref (h 3), .ref (h 4), .int xg, .ref (h 5), .ref (h 6), .ref (h 7), .ref (h 8), .ref (h 9), .ref (h 10), .ref (h 11), .ref (h 12), .ref (h 13), .ref (h 14)])), (h 1, .inl (cI, 10, .inl aP)), (h 2, .inl (cI, 20, .inl aF)), (h 3, .inl (cI, 20, .inl aT)), (h 4, .inl (cI, 20, .inl aK)), (h 5, .inl (cI, 801, .inl bF)), (h 6, .inl (cI, 801, .inl bL)), (h 7, .inl (cI, 801, .inl bB)), (h 8, .inl (cI, 801, .inl bA)), (h 9, .inl (cI, 801, .inl bY)), (h 10, .inl (cI, 801, .inl bR)), (h 11, .inl (cZ, 4, .inl oT)), (h 12, .inl (cZ, 20, .inl oO)), (h 13, .inl (cI, 4, .inl oR)), (h 14, .inl (cI, 801, .inl bS))]
abbrev tyM (cI cZ : ClassId) : List (ClassId × FieldType) := [(cI, .int), (cZ, .boolean)]
def sar (x : Int32) (n : Nat) : Int32 := x >>> (nI n &&& 31)
theorem rd {f : Nat → Int32} {k : Nat} (h : k < 2 ^ 31) : f (nI k).toNatClampNeg = f k := by rw [nI_clamp h]
theorem gm_V {idx : Nat} {y : MethodName} {cb : Cond} (h1 : Cond.methodLink R_M idx y ∈ wMw) (h2 : Cond.instanceMethod y ∈ wMw) (h3 : Cond.selects R_M y y ∈ wMw) (h5 : Cond.initialized R_M ∈ wMw) (h4 : cb ∈ wMw) : GoodIn wMw (wsV R_M idx R_M y (cb :: wMw)) := by
  intro w hw
  have hm : w ∈ wMw := by
    rcases List.mem_append.mp hw with h | h
    · rcases List.mem_cons.mp h with rfl | h
      · exact h1
      · rcases List.mem_cons.mp h with rfl | h
        · exact h2
        · rcases List.mem_cons.mp h with rfl | h
          · exact h3
          · rcases List.mem_cons.mp h with rfl | h
            · exact h5
            · cases h
    · rcases List.mem_cons.mp h with rfl | h
      · exact h4
      · exact h
  exact ⟨hm, good_of_word (List.all_eq_true.mp wMw_good w hm)⟩
theorem gm_S {idx : Nat} {y : MethodName} {cb : Cond} (h1 : Cond.methodLink R_M idx y ∈ wMw) (h2 : Cond.static y ∈ wMw) (h5 : Cond.initialized R_M ∈ wMw) (h4 : cb ∈ wMw) : GoodIn wMw (wsS R_M idx y (cb :: wMw)) := by
  intro w hw
  have hm : w ∈ wMw := by
    rcases List.mem_append.mp hw with h | h
    · rcases List.mem_cons.mp h with rfl | h
      · exact h1
      · rcases List.mem_cons.mp h with rfl | h
        · exact h2
        · rcases List.mem_cons.mp h with rfl | h
          · exact h5
          · cases h
    · rcases List.mem_cons.mp h with rfl | h
      · exact h4
      · exact h
  exact ⟨hm, good_of_word (List.all_eq_true.mp wMw_good w hm)⟩
theorem g_M_isFunction : GoodIn wMw (wsV R_M 60 R_M y_M_isFunction w_M_isFunction) := gm_V k_M_36 k_M_37 k_M_109 k_M_0 k_M_38
theorem g_M_at : GoodIn wMw (wsS R_M 67 y_M_at w_M_at) := gm_S k_M_39 k_M_40 k_M_0 k_M_41
theorem g_M_refused : GoodIn wMw (wsV R_M 85 R_M y_M_refused w_M_refused) := gm_V k_M_51 k_M_52 k_M_110 k_M_0 k_M_53
theorem g_M_find : GoodIn wMw (wsV R_M 82 R_M y_M_find w_M_find) := gm_V k_M_54 k_M_55 k_M_111 k_M_0 k_M_56
theorem g_M_add : GoodIn wMw (wsV R_M 74 R_M y_M_add w_M_add) := gm_V k_M_57 k_M_58 k_M_112 k_M_0 k_M_59
theorem g_M_joined : GoodIn wMw (wsS R_M 78 y_M_joined w_M_joined) := gm_S k_M_60 k_M_61 k_M_0 k_M_62
theorem g_M_between : GoodIn wMw (wsV R_M 89 R_M y_M_between w_M_between) := gm_V k_M_63 k_M_64 k_M_113 k_M_0 k_M_65
theorem g_M_isLess : GoodIn wMw (wsS R_M 92 y_M_isLess w_M_isLess) := gm_S k_M_69 k_M_70 k_M_0 k_M_71
theorem g_M_fallsAt : GoodIn wMw (wsV R_M 99 R_M y_M_fallsAt w_M_fallsAt) := gm_V k_M_75 k_M_76 k_M_114 k_M_0 k_M_77
theorem g_M_isBad : GoodIn wMw (wsS R_M 96 y_M_isBad w_M_isBad) := gm_S k_M_78 k_M_79 k_M_0 k_M_80
theorem g_M_reachedFrom : GoodIn wMw (wsV R_M 102 R_M y_M_reachedFrom w_M_reachedFrom) := gm_V k_M_84 k_M_85 k_M_115 k_M_0 k_M_86
theorem g_M_findOrder : GoodIn wMw (wsV R_M 109 R_M y_M_findOrder w_M_findOrder) := gm_V k_M_93 k_M_94 k_M_116 k_M_0 k_M_95
theorem g_M_mayTake : GoodIn wMw (wsV R_M 106 R_M y_M_mayTake w_M_mayTake) := gm_V k_M_96 k_M_97 k_M_117 k_M_0 k_M_98
set_option maxHeartbeats 4000000 in
set_option maxRecDepth 100000 in
theorem m_thrown (l : Launch) (dC : Nat → ClassId) (dI : Nat → Nat → Nat) (cI cZ : ClassId) (h : Nat → Nat) (sz : Nat) (xt xf xc xg : Int32) (aP aF aT aK bF bL bB bA bY bR oT oO oR bS : Nat → Int32) : Met l y_M_thrown w_M_thrown ({ frames := 0, cells := 0, slots := 0, locals := 0 }) (va_Pc [.ref (h 0)] (fun U => U.heap.size = sz ∧ va_P (dC, dI) kls (wM h cI cZ xt xf xc xg aP aF aT aK bF bL bB bA bY bR oT oO oR bS) U.heap ∧ va_K (dC, dI) kls (tyM cI cZ) U ∧ va_D (fun _ => True) (wM h cI cZ xt xf xc xg aP aF aT aK bF bL bB bA bY bR oT oO oR bS))) (va_Qi (fun (r : Int32) (u : Unit) => r = xt) (fun (u : Unit) (t : State) => va_P (dC, dI) kls (wM h cI cZ xt xf xc xg aP aF aT aK bF bL bB bA bY bR oT oO oR bS) t.heap ∧ va_K (dC, dI) kls (tyM cI cZ) t ∧ va_D (va_A (wM h cI cZ xt xf xc xg aP aF aT aK bF bL bB bA bY bR oT oO oR bS) sz) (wM h cI cZ xt xf xc xg aP aF aT aK bF bL bB bA bY bR oT oO oR bS)) (va_A (wM h cI cZ xt xf xc xg aP aF aT aK bF bL bB bA bY bR oT oO oR bS) sz)) 0 0 (va_A (wM h cI cZ xt xf xc xg aP aF aT aK bF bL bB bA bY bR oT oO oR bS) sz) := by
  refine Met.ofW (cc := c_M_thrown) (maxL := 1) (ret := (some .int)) (by decide) rfl ?_
  intro p e s m args below meth c s₁ B hml hv
  obtain ⟨rfl, hsz, hP, hK, hD0⟩ := hv
  have hx := B.exec
  have hb := B.bytes
  have hr := B.returns
  have hts := atoms_spec (ws := w_M_thrown) B.pre
  have hk : ∀ w ∈ wMw, w.before _ s = true := fun w h => hts w (List.mem_cons_of_mem _ h)
  have hown : s.vm.findClass R_M = some m.cls := findClass_of_methodNamed B.named
  have hlocks := B.notSynchronized
  subst hsz
  have hD := hD0.self (sz := s.heap.size)
  generalize hAe : va_A (wM h cI cZ xt xf xc xg aP aF aT aK bF bL bB bA bY bR oT oO oR bS) s.heap.size = A at hD ⊢
  have hA : ∀ q : Nat, s.heap.size ≤ q → A q := fun q h => by rw [← hAe]; exact Or.inr h
  have hS : va_S A s.heap s.heap [] := va_S.rf
  have hl := lv_entry ([.ref (h 0)]) (n := 1) (Nat.le_of_ble_eq_true rfl)
  rw [lg_entry_eq]
  generalize (lg_sl ([.ref (h 0)]) ++ List.replicate (1 - (lg_sl ([.ref (h 0)])).length) Slot.unset).toArray = ls at hl ⊢
  have hl : lv_has ls 1 [(0, .ref (h 0))] := hl
  refine lv_aload_n hx hb d_M_thrown_0 rfl (lv_at hl 0 rfl) ?_
  refine va_get (D := (dC, dI)) (ci := 0) (v := .int xt) (C := R_M) (T := F_M) (N := 18) hx hb hk k_M_f hown hK hP 0 rfl rfl 0 (by decide) (hk _ k_M_8) (fun _ h9 => h9) rfl d_M_thrown_1 ?_
  exact W.iret (v := xt) hx hb hr (fun t ht hW => ⟨⟨xt, (), rfl, rfl, by rw [ht]; exact hP, va_K.moved hW.alike hK, hD⟩, hS.F ht⟩) hS.2.2 d_M_thrown_4
set_option maxHeartbeats 4000000 in
set_option maxRecDepth 100000 in
theorem m_isFunction (l : Launch) (dC : Nat → ClassId) (dI : Nat → Nat → Nat) (cI cZ : ClassId) (h : Nat → Nat) (sz : Nat) (xt xc xg : Int32) (aP aF aT aK bF bL bB bA bY bR oT oO oR bS : Nat → Int32) (nF : Nat) (f : Int32) (hF : nF < 2 ^ 31) : Met l y_M_isFunction w_M_isFunction ({ frames := 0, cells := 0, slots := 0, locals := 0 }) (va_Pc [.ref (h 0), .int f] (fun U => U.heap.size = sz ∧ va_P (dC, dI) kls (wM h cI cZ xt (nI nF) xc xg aP aF aT aK bF bL bB bA bY bR oT oO oR bS) U.heap ∧ va_K (dC, dI) kls (tyM cI cZ) U ∧ va_D (fun _ => True) (wM h cI cZ xt (nI nF) xc xg aP aF aT aK bF bL bB bA bY bR oT oO oR bS))) (va_Qi (fun (r : Int32) (u : Unit) => (r = nI 1 ∧ ∃ j, j < nF ∧ f = nI j) ∨ (r = nI 0 ∧ ¬ ∃ j, j < nF ∧ f = nI j)) (fun (u : Unit) (t : State) => va_P (dC, dI) kls (wM h cI cZ xt (nI nF) xc xg aP aF aT aK bF bL bB bA bY bR oT oO oR bS) t.heap ∧ va_K (dC, dI) kls (tyM cI cZ) t ∧ va_D (va_A (wM h cI cZ xt (nI nF) xc xg aP aF aT aK bF bL bB bA bY bR oT oO oR bS) sz) (wM h cI cZ xt (nI nF) xc xg aP aF aT aK bF bL bB bA bY bR oT oO oR bS)) (va_A (wM h cI cZ xt (nI nF) xc xg aP aF aT aK bF bL bB bA bY bR oT oO oR bS) sz)) 0 0 (va_A (wM h cI cZ xt (nI nF) xc xg aP aF aT aK bF bL bB bA bY bR oT oO oR bS) sz) := by
  refine Met.ofW (cc := c_M_isFunction) (maxL := 2) (ret := (some .boolean)) (by decide) rfl ?_
  intro p e s m args below meth c s₁ B hml hv
  obtain ⟨rfl, hsz, hP, hK, hD0⟩ := hv
  have hx := B.exec
  have hb := B.bytes
  have hr := B.returns
  have hts := atoms_spec (ws := w_M_isFunction) B.pre
  have hk : ∀ w ∈ wMw, w.before _ s = true := fun w h => hts w (List.mem_cons_of_mem _ h)
  have hown : s.vm.findClass R_M = some m.cls := findClass_of_methodNamed B.named
  have hlocks := B.notSynchronized
  subst hsz
  have hD := hD0.self (sz := s.heap.size)
  generalize hAe : va_A (wM h cI cZ xt (nI nF) xc xg aP aF aT aK bF bL bB bA bY bR oT oO oR bS) s.heap.size = A at hD ⊢
  have hA : ∀ q : Nat, s.heap.size ≤ q → A q := fun q h => by rw [← hAe]; exact Or.inr h
  have hS : va_S A s.heap s.heap [] := va_S.rf
  have hl := lv_entry ([.ref (h 0), .int f]) (n := 2) (Nat.le_of_ble_eq_true rfl)
  rw [lg_entry_eq]
  generalize (lg_sl ([.ref (h 0), .int f]) ++ List.replicate (2 - (lg_sl ([.ref (h 0), .int f])).length) Slot.unset).toArray = ls at hl ⊢
  have hl : lv_has ls 2 [(0, .ref (h 0)), (1, .int f)] := hl
  refine lv_iload_n hx hb d_M_isFunction_0 rfl (lv_at hl 1 rfl) ?_
  refine lv_if_lt (tgt := 16) hx hb d_M_isFunction_1 (by decide) (fun c_1 => ?_) (fun c_1 => ?_)
  · refine lv_iconst (v := nI 0) hx hb d_M_isFunction_16 (by decide +kernel) ?_
    have hj : ¬ ∃ j, j < nF ∧ f = nI j := by
      rintro ⟨j, hj, rfl⟩
      first
        | exact nI_pos (by omega) c_1
        | exact absurd c_9 (Int32.not_le.mpr (nI_lt hj hF))
    exact W.zret (v := nI 0) (ty := .boolean) hx hb hr rfl (fun t ht hW => ⟨⟨nI 0, (), rfl, Or.inr ⟨rfl, hj⟩, by rw [ht]; exact hP, va_K.moved hW.alike hK, hD⟩, hS.F ht⟩) hS.2.2 d_M_isFunction_17
  · refine lv_iload_n hx hb d_M_isFunction_4 rfl (lv_at hl 1 rfl) ?_
    refine lv_aload_n hx hb d_M_isFunction_5 rfl (lv_at hl 0 rfl) ?_
    refine va_get (D := (dC, dI)) (ci := 0) (v := .int (nI nF)) (C := R_M) (T := F_M) (N := 18) hx hb hk k_M_f hown hK hP 0 rfl rfl 1 (by decide) (hk _ k_M_9) (fun _ h9 => h9) rfl d_M_isFunction_6 ?_
    refine lv_icmp_ge (tgt := 16) hx hb d_M_isFunction_9 (by decide) (fun c_9 => ?_) (fun c_9 => ?_)
    · refine lv_iconst (v := nI 0) hx hb d_M_isFunction_16 (by decide +kernel) ?_
      have hj : ¬ ∃ j, j < nF ∧ f = nI j := by
        rintro ⟨j, hj, rfl⟩
        first
          | exact nI_pos (by omega) c_1
          | exact absurd c_9 (Int32.not_le.mpr (nI_lt hj hF))
      exact W.zret (v := nI 0) (ty := .boolean) hx hb hr rfl (fun t ht hW => ⟨⟨nI 0, (), rfl, Or.inr ⟨rfl, hj⟩, by rw [ht]; exact hP, va_K.moved hW.alike hK, hD⟩, hS.F ht⟩) hS.2.2 d_M_isFunction_17
    · refine lv_iconst (v := nI 1) hx hb d_M_isFunction_12 (by decide +kernel) ?_
      refine lv_goto (tgt := 17) hx hb d_M_isFunction_13 (by decide) ?_
      have hj : ∃ j, j < nF ∧ f = nI j := by
        obtain ⟨j, hj, rfl⟩ := nI_of c_1
        exact ⟨j, (nI_ltI hj hF).mp (Int32.not_le.mp c_9), rfl⟩
      exact W.zret (v := nI 1) (ty := .boolean) hx hb hr rfl (fun t ht hW => ⟨⟨nI 1, (), rfl, Or.inl ⟨rfl, hj⟩, by rw [ht]; exact hP, va_K.moved hW.alike hK, hD⟩, hS.F ht⟩) hS.2.2 d_M_isFunction_17
set_option maxHeartbeats 4000000 in
set_option maxRecDepth 100000 in
theorem m_at (l : Launch) (x : Int32) (i j : Nat) (hi : i < 4) (hj : j < 4) : Met l y_M_at w_M_at ({ frames := 0, cells := 0, slots := 0, locals := 0 }) (va_Pc [.int x, .int (nI i), .int (nI j)] (fun _ => True)) (vp_Si (fun r => r = nI (atN x i j))) 0 0 (fun _ => False) := by
  refine Met.ofW (cc := c_M_at) (maxL := 3) (ret := (some .int)) (by decide) rfl ?_
  intro p e s m args below meth c s₁ B hml hv
  obtain ⟨rfl, -⟩ := hv
  have hx := B.exec
  have hb := B.bytes
  have hr := B.returns
  have hts := atoms_spec (ws := w_M_at) B.pre
  have hk : ∀ w ∈ wMw, w.before _ s = true := fun w h => hts w (List.mem_cons_of_mem _ h)
  have hown : s.vm.findClass R_M = some m.cls := findClass_of_methodNamed B.named
  have hlocks := B.notSynchronized
  have hl := lv_entry ([.int x, .int (nI i), .int (nI j)]) (n := 3) (Nat.le_of_ble_eq_true rfl)
  rw [lg_entry_eq]
  generalize (lg_sl ([.int x, .int (nI i), .int (nI j)]) ++ List.replicate (3 - (lg_sl ([.int x, .int (nI i), .int (nI j)])).length) Slot.unset).toArray = ls at hl ⊢
  have hl : lv_has ls 3 [(0, .int x), (1, .int (nI i)), (2, .int (nI j))] := hl
  refine lv_iload_n hx hb d_M_at_0 rfl (lv_at hl 0 rfl) ?_
  refine lv_bipush (v := nI 8) hx hb d_M_at_1 (by decide +kernel) ?_
  refine lv_iload_n hx hb d_M_at_3 rfl (lv_at hl 1 rfl) ?_
  refine lv_imul hx hb d_M_at_4 ?_
  refine lv_topi (fun z1 ez1 => ?_)
  obtain rfl : z1 = nI (8 * i) := ez1.trans (pk_mul _ _)
  refine lv_iconst (v := nI 2) hx hb d_M_at_5 (by decide +kernel) ?_
  refine lv_iload_n hx hb d_M_at_6 rfl (lv_at hl 2 rfl) ?_
  refine lv_imul hx hb d_M_at_7 ?_
  refine lv_topi (fun z2 ez2 => ?_)
  obtain rfl : z2 = nI (2 * j) := ez2.trans (pk_mul _ _)
  refine lv_iadd hx hb d_M_at_8 ?_
  refine lv_topi (fun z3 ez3 => ?_)
  obtain rfl : z3 = nI (8 * i + (2 * j)) := ez3.trans (nI_add _ _)
  refine lv_iushr (v := ush x (8 * i + (2 * j))) hx hb d_M_at_9 rfl ?_
  refine lv_iconst (v := nI 3) hx hb d_M_at_10 (by decide +kernel) ?_
  refine lv_iand hx hb d_M_at_11 ?_
  exact W.iret (v := (ush x (8 * i + (2 * j))) &&& (nI 3)) hx hb hr (fun t ht hW => ⟨(ush x (8 * i + (2 * j))) &&& (nI 3), rfl, (at_nI x hi hj), ht⟩) (fun q h9 => absurd h9 List.not_mem_nil) d_M_at_12
set_option maxHeartbeats 4000000 in
set_option maxRecDepth 100000 in
theorem m_undo (l : Launch) (dC : Nat → ClassId) (dI : Nat → Nat → Nat) (cI cZ : ClassId) (h : Nat → Nat) (sz : Nat) (xt xf xg : Int32) (aP aF aT aK bF bL bB bA bY bR oT oO oR bS : Nat → Int32) (nC : Nat) (hC : nC < 2 ^ 31) : Met l y_M_undo w_M_undo ({ frames := 0, cells := 0, slots := 0, locals := 0 }) (va_Pc [.ref (h 0)] (fun U => U.heap.size = sz ∧ va_P (dC, dI) kls (wM h cI cZ xt xf (nI nC) xg aP aF aT aK bF bL bB bA bY bR oT oO oR bS) U.heap ∧ va_K (dC, dI) kls (tyM cI cZ) U ∧ va_D (fun _ => True) (wM h cI cZ xt xf (nI nC) xg aP aF aT aK bF bL bB bA bY bR oT oO oR bS))) (va_Qi (fun (r : Int32) (u : Int32 × Int32) => u.1 = nI 0 ∧ u.2 = nI (nC - 1) ∧ ((r = nI 1 ∧ 0 < nC) ∨ (r = nI 0 ∧ nC = 0))) (fun (u : Int32 × Int32) (t : State) => va_P (dC, dI) kls (wM h cI cZ u.1 xf u.2 xg aP aF aT aK bF bL bB bA bY bR oT oO oR bS) t.heap ∧ va_K (dC, dI) kls (tyM cI cZ) t ∧ va_D (va_A (wM h cI cZ xt xf (nI nC) xg aP aF aT aK bF bL bB bA bY bR oT oO oR bS) sz) (wM h cI cZ u.1 xf u.2 xg aP aF aT aK bF bL bB bA bY bR oT oO oR bS)) (va_A (wM h cI cZ xt xf (nI nC) xg aP aF aT aK bF bL bB bA bY bR oT oO oR bS) sz)) 0 0 (va_A (wM h cI cZ xt xf (nI nC) xg aP aF aT aK bF bL bB bA bY bR oT oO oR bS) sz) := by
  refine Met.ofW (cc := c_M_undo) (maxL := 1) (ret := (some .boolean)) (by decide) rfl ?_
  intro p e s m args below meth c s₁ B hml hv
  obtain ⟨rfl, hsz, hP, hK, hD0⟩ := hv
  have hx := B.exec
  have hb := B.bytes
  have hr := B.returns
  have hts := atoms_spec (ws := w_M_undo) B.pre
  have hk : ∀ w ∈ wMw, w.before _ s = true := fun w h => hts w (List.mem_cons_of_mem _ h)
  have hown : s.vm.findClass R_M = some m.cls := findClass_of_methodNamed B.named
  have hlocks := B.notSynchronized
  subst hsz
  have hD := hD0.self (sz := s.heap.size)
  generalize hAe : va_A (wM h cI cZ xt xf (nI nC) xg aP aF aT aK bF bL bB bA bY bR oT oO oR bS) s.heap.size = A at hD ⊢
  have hA : ∀ q : Nat, s.heap.size ≤ q → A q := fun q h => by rw [← hAe]; exact Or.inr h
  have hS : va_S A s.heap s.heap [] := va_S.rf
  have hl := lv_entry ([.ref (h 0)]) (n := 1) (Nat.le_of_ble_eq_true rfl)
  rw [lg_entry_eq]
  generalize (lg_sl ([.ref (h 0)]) ++ List.replicate (1 - (lg_sl ([.ref (h 0)])).length) Slot.unset).toArray = ls at hl ⊢
  have hl : lv_has ls 1 [(0, .ref (h 0))] := hl
  refine lv_aload_n hx hb d_M_undo_0 rfl (lv_at hl 0 rfl) ?_
  refine lv_iconst (v := nI 0) hx hb d_M_undo_1 (by decide +kernel) ?_
  refine va_put (D := (dC, dI)) (ci := 0) (v := .int (nI 0)) (ty := .int) (C := R_M) (T := F_M) (N := 18) hx hb hk k_M_f t_M t_M_ok n_M hown hK hP hD hS 0 rfl rfl 0 (by decide) (hk _ k_M_8) (fun _ h9 => h9) rfl (by decide +kernel) rfl rfl (Nat.le_of_ble_eq_true rfl) d_M_undo_2 (fun H locs hP hD hS => ?_)
  have hP : va_P (dC, dI) kls (wM h cI cZ (nI 0) xf (nI nC) xg aP aF aT aK bF bL bB bA bY bR oT oO oR bS) H := hP
  have hD : va_D A (wM h cI cZ (nI 0) xf (nI nC) xg aP aF aT aK bF bL bB bA bY bR oT oO oR bS) := hD
  refine lv_aload_n hx hb d_M_undo_5 rfl (lv_at hl 0 rfl) ?_
  refine va_get (D := (dC, dI)) (ci := 0) (v := .int (nI nC)) (C := R_M) (T := F_M) (N := 18) hx hb hk k_M_f hown hK hP 0 rfl rfl 2 (by decide) (hk _ k_M_10) (fun _ h9 => h9) rfl d_M_undo_6 ?_
  refine lv_if_ne (tgt := 14) hx hb d_M_undo_9 (by decide) (fun c_9 => ?_) (fun c_9 => ?_)
  · have c_9 : ¬ nC = 0 := fun z9 => c_9 ((nI_eq (a := nC) (b := 0) (by omega) (by omega)).mpr z9)
    refine lv_aload_n hx hb d_M_undo_14 rfl (lv_at hl 0 rfl) ?_
    refine lv_dup hx hb d_M_undo_15 rfl ?_
    refine va_get (D := (dC, dI)) (ci := 0) (v := .int (nI nC)) (C := R_M) (T := F_M) (N := 18) hx hb hk k_M_f hown hK hP 0 rfl rfl 2 (by decide) (hk _ k_M_10) (fun _ h9 => h9) rfl d_M_undo_16 ?_
    refine lv_iconst (v := nI 1) hx hb d_M_undo_19 (by decide +kernel) ?_
    refine lv_isub hx hb d_M_undo_20 ?_
    refine lv_topi (fun z1 ez1 => ?_)
    obtain rfl : z1 = nI (nC - 1) := ez1.trans (pk_sub (by omega))
    refine va_put (D := (dC, dI)) (ci := 0) (v := .int (nI (nC - 1))) (ty := .int) (C := R_M) (T := F_M) (N := 18) hx hb hk k_M_f t_M t_M_ok n_M hown hK hP hD hS 0 rfl rfl 2 (by decide) (hk _ k_M_10) (fun _ h9 => h9) rfl (by decide +kernel) rfl rfl (Nat.le_of_ble_eq_true rfl) d_M_undo_21 (fun H locs hP hD hS => ?_)
    have hP : va_P (dC, dI) kls (wM h cI cZ (nI 0) xf (nI (nC - 1)) xg aP aF aT aK bF bL bB bA bY bR oT oO oR bS) H := hP
    have hD : va_D A (wM h cI cZ (nI 0) xf (nI (nC - 1)) xg aP aF aT aK bF bL bB bA bY bR oT oO oR bS) := hD
    refine lv_iconst (v := nI 1) hx hb d_M_undo_24 (by decide +kernel) ?_
    exact W.zret (v := nI 1) (ty := .boolean) hx hb hr rfl (fun t ht hW => ⟨⟨nI 1, (nI 0, nI (nC - 1)), rfl, ⟨rfl, rfl, Or.inl ⟨rfl, by omega⟩⟩, by rw [ht]; exact hP, va_K.moved hW.alike hK, hD⟩, hS.F ht⟩) hS.2.2 d_M_undo_25
  · have c_9 : nC = 0 := (nI_eq (a := nC) (b := 0) (by omega) (by omega)).mp c_9
    refine lv_iconst (v := nI 0) hx hb d_M_undo_12 (by decide +kernel) ?_
    exact W.zret (v := nI 0) (ty := .boolean) hx hb hr rfl (fun t ht hW => ⟨⟨nI 0, (nI 0, nI nC), rfl, ⟨rfl, by subst c_9; rfl, Or.inr ⟨rfl, c_9⟩⟩, by rw [ht]; exact hP, va_K.moved hW.alike hK, hD⟩, hS.F ht⟩) hS.2.2 d_M_undo_13
set_option maxHeartbeats 4000000 in
set_option maxRecDepth 100000 in
theorem m_about (l : Launch) (dC : Nat → ClassId) (dI : Nat → Nat → Nat) (cI cZ : ClassId) (h : Nat → Nat) (sz : Nat) (xt xg : Int32) (aP aF aT aK bF bL bB bA bY bR oT oO oR bS : Nat → Int32) (nF nC : Nat) (q : Int32) : Met l y_M_about w_M_about ({ frames := 0, cells := 0, slots := 0, locals := 0 }) (va_Pc [.ref (h 0), .int q] (fun U => U.heap.size = sz ∧ va_P (dC, dI) kls (wM h cI cZ xt (nI nF) (nI nC) xg aP aF aT aK bF bL bB bA bY bR oT oO oR bS) U.heap ∧ va_K (dC, dI) kls (tyM cI cZ) U ∧ va_D (fun _ => True) (wM h cI cZ xt (nI nF) (nI nC) xg aP aF aT aK bF bL bB bA bY bR oT oO oR bS))) (va_Qi (fun (r : Int32) (u : Int32) => u = nI 0 ∧ r = (if q = 0 then nI nF else if q = nI 1 then nI nC else -1)) (fun (u : Int32) (t : State) => va_P (dC, dI) kls (wM h cI cZ u (nI nF) (nI nC) xg aP aF aT aK bF bL bB bA bY bR oT oO oR bS) t.heap ∧ va_K (dC, dI) kls (tyM cI cZ) t ∧ va_D (va_A (wM h cI cZ xt (nI nF) (nI nC) xg aP aF aT aK bF bL bB bA bY bR oT oO oR bS) sz) (wM h cI cZ u (nI nF) (nI nC) xg aP aF aT aK bF bL bB bA bY bR oT oO oR bS)) (va_A (wM h cI cZ xt (nI nF) (nI nC) xg aP aF aT aK bF bL bB bA bY bR oT oO oR bS) sz)) 0 0 (va_A (wM h cI cZ xt (nI nF) (nI nC) xg aP aF aT aK bF bL bB bA bY bR oT oO oR bS) sz) := by
  refine Met.ofW (cc := c_M_about) (maxL := 2) (ret := (some .int)) (by decide) rfl ?_
  intro p e s m args below meth c s₁ B hml hv
  obtain ⟨rfl, hsz, hP, hK, hD0⟩ := hv
  have hx := B.exec
  have hb := B.bytes
  have hr := B.returns
  have hts := atoms_spec (ws := w_M_about) B.pre
  have hk : ∀ w ∈ wMw, w.before _ s = true := fun w h => hts w (List.mem_cons_of_mem _ h)
  have hown : s.vm.findClass R_M = some m.cls := findClass_of_methodNamed B.named
  have hlocks := B.notSynchronized
  subst hsz
  have hD := hD0.self (sz := s.heap.size)
  generalize hAe : va_A (wM h cI cZ xt (nI nF) (nI nC) xg aP aF aT aK bF bL bB bA bY bR oT oO oR bS) s.heap.size = A at hD ⊢
  have hA : ∀ q : Nat, s.heap.size ≤ q → A q := fun q h => by rw [← hAe]; exact Or.inr h
  have hS : va_S A s.heap s.heap [] := va_S.rf
  have hl := lv_entry ([.ref (h 0), .int q]) (n := 2) (Nat.le_of_ble_eq_true rfl)
  rw [lg_entry_eq]
  generalize (lg_sl ([.ref (h 0), .int q]) ++ List.replicate (2 - (lg_sl ([.ref (h 0), .int q])).length) Slot.unset).toArray = ls at hl ⊢
  have hl : lv_has ls 2 [(0, .ref (h 0)), (1, .int q)] := hl
  refine lv_aload_n hx hb d_M_about_0 rfl (lv_at hl 0 rfl) ?_
  refine lv_iconst (v := nI 0) hx hb d_M_about_1 (by decide +kernel) ?_
  refine va_put (D := (dC, dI)) (ci := 0) (v := .int (nI 0)) (ty := .int) (C := R_M) (T := F_M) (N := 18) hx hb hk k_M_f t_M t_M_ok n_M hown hK hP hD hS 0 rfl rfl 0 (by decide) (hk _ k_M_8) (fun _ h9 => h9) rfl (by decide +kernel) rfl rfl (Nat.le_of_ble_eq_true rfl) d_M_about_2 (fun H locs hP hD hS => ?_)
  have hP : va_P (dC, dI) kls (wM h cI cZ (nI 0) (nI nF) (nI nC) xg aP aF aT aK bF bL bB bA bY bR oT oO oR bS) H := hP
  have hD : va_D A (wM h cI cZ (nI 0) (nI nF) (nI nC) xg aP aF aT aK bF bL bB bA bY bR oT oO oR bS) := hD
  refine lv_iload_n hx hb d_M_about_5 rfl (lv_at hl 1 rfl) ?_
  refine lv_if_ne (tgt := 16) hx hb d_M_about_6 (by decide) (fun c_6 => ?_) (fun c_6 => ?_)
  · refine lv_iload_n hx hb d_M_about_16 rfl (lv_at hl 1 rfl) ?_
    refine lv_iconst (v := nI 1) hx hb d_M_about_17 (by decide +kernel) ?_
    refine lv_icmp_ne (tgt := 28) hx hb d_M_about_18 (by decide) (fun c_18 => ?_) (fun c_18 => ?_)
    · refine lv_iconst (v := (-1)) hx hb d_M_about_28 (by decide +kernel) ?_
      have hq : (-1) = (if q = 0 then nI nF else if q = nI 1 then nI nC else -1) := by
        first
          | rw [if_pos c_6]
          | rw [if_neg c_6, if_pos c_18]
          | rw [if_neg c_6, if_neg c_18]
      exact W.iret (v := (-1)) hx hb hr (fun t ht hW => ⟨⟨(-1), nI 0, rfl, ⟨rfl, hq⟩, by rw [ht]; exact hP, va_K.moved hW.alike hK, hD⟩, hS.F ht⟩) hS.2.2 d_M_about_29
    · refine lv_aload_n hx hb d_M_about_21 rfl (lv_at hl 0 rfl) ?_
      refine va_get (D := (dC, dI)) (ci := 0) (v := .int (nI nC)) (C := R_M) (T := F_M) (N := 18) hx hb hk k_M_f hown hK hP 0 rfl rfl 2 (by decide) (hk _ k_M_10) (fun _ h9 => h9) rfl d_M_about_22 ?_
      refine lv_goto (tgt := 29) hx hb d_M_about_25 (by decide) ?_
      have hq : nI nC = (if q = 0 then nI nF else if q = nI 1 then nI nC else -1) := by
        first
          | rw [if_pos c_6]
          | rw [if_neg c_6, if_pos c_18]
          | rw [if_neg c_6, if_neg c_18]
      exact W.iret (v := nI nC) hx hb hr (fun t ht hW => ⟨⟨nI nC, nI 0, rfl, ⟨rfl, hq⟩, by rw [ht]; exact hP, va_K.moved hW.alike hK, hD⟩, hS.F ht⟩) hS.2.2 d_M_about_29
  · refine lv_aload_n hx hb d_M_about_9 rfl (lv_at hl 0 rfl) ?_
    refine va_get (D := (dC, dI)) (ci := 0) (v := .int (nI nF)) (C := R_M) (T := F_M) (N := 18) hx hb hk k_M_f hown hK hP 0 rfl rfl 1 (by decide) (hk _ k_M_9) (fun _ h9 => h9) rfl d_M_about_10 ?_
    refine lv_goto (tgt := 29) hx hb d_M_about_13 (by decide) ?_
    have hq : nI nF = (if q = 0 then nI nF else if q = nI 1 then nI nC else -1) := by
      first
        | rw [if_pos c_6]
        | rw [if_neg c_6, if_pos c_18]
        | rw [if_neg c_6, if_neg c_18]
    exact W.iret (v := nI nF) hx hb hr (fun t ht hW => ⟨⟨nI nF, nI 0, rfl, ⟨rfl, hq⟩, by rw [ht]; exact hP, va_K.moved hW.alike hK, hD⟩, hS.F ht⟩) hS.2.2 d_M_about_29
