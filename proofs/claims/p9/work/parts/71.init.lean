abbrev n_P_init (q0 : Nat) : va_W := [(q0, .inr (1, [.null, .null, .null, .null, .int 0, .int 0]))]
abbrev e_P_init (q0 : Nat) (cI : ClassId) (u : Nat → Nat) : va_W := [(q0, .inr (1, [.ref (u 1), .ref (u 2), .ref (u 3), .ref (u 4), .int 0, .int 0])), (u 1, .inl (cI, 10, .inl (fun _ => 0))), (u 2, .inl (cI, 20, .inl (fun _ => 0))), (u 3, .inl (cI, 20, .inl (fun _ => 0))), (u 4, .inl (cI, 20, .inl (fun _ => 0)))]
set_option maxHeartbeats 4000000 in
set_option maxRecDepth 100000 in
theorem c_P_init_ok (l : Launch) (dC : Nat → ClassId) (dI : Nat → Nat → Nat) (cI : ClassId) (q0 sz : Nat) : Met l y_P_init w_P_init ({ frames := 1, cells := 4, slots := 70, locals := 12 }) (va_Pc [.ref q0] (fun U => U.heap.size = sz ∧ va_P (dC, dI) kls (n_P_init q0) U.heap ∧ va_K (dC, dI) kls (tyC cI) U ∧ va_D (fun _ => True) (n_P_init q0))) (va_Qv (fun (u : Nat → Nat) => True) (fun (u : Nat → Nat) (t : State) => va_P (dC, dI) kls (e_P_init q0 cI u) t.heap ∧ va_K (dC, dI) kls (tyC cI) t ∧ va_D (va_A (n_P_init q0) sz) (e_P_init q0 cI u)) (va_A (n_P_init q0) sz)) 4 70 (va_A (n_P_init q0) sz) := by
  refine Met.ofW (cc := c_P_init) (maxL := 1) (ret := none) (by decide) rfl ?_
  intro p e s m args below meth c s₁ B hml hv
  obtain ⟨rfl, hsz, hP, hK, hD0⟩ := hv
  have hx := B.exec
  have hb := B.bytes
  have hr := B.returns
  have hts := atoms_spec (ws := w_P_init) B.pre
  have hk : ∀ w ∈ wCw, w.before _ s = true := fun w h => hts w (List.mem_cons_of_mem _ h)
  have hown : s.vm.findClass R_P = some m.cls := findClass_of_methodNamed B.named
  have hin : meth.name = "<init>" := (name_of_methodNamed B.named B.method).1
  subst hsz
  have hD := hD0.self (sz := s.heap.size)
  generalize hAe : va_A (n_P_init q0) s.heap.size = A at hD ⊢
  have hA : ∀ q : Nat, s.heap.size ≤ q → A q := fun q h => by rw [← hAe]; exact Or.inr h
  have hS : va_S A s.heap s.heap [] := va_S.rf
  have hl := lv_entry ([.ref q0]) (n := 1) (Nat.le_of_ble_eq_true rfl)
  rw [lg_entry_eq]
  generalize (lg_sl ([.ref q0]) ++ List.replicate (1 - (lg_sl ([.ref q0])).length) Slot.unset).toArray = ls at hl ⊢
  have hl : lv_has ls 1 [(0, .ref q0)] := hl
  refine lv_aload_n hx hb d_P_init_0 rfl (lv_at hl 0 rfl) ?_
  refine W.objInit hx hb hown (hk _ k_C_17) (hk _ k_C_11) (hk _ k_C_12) rfl (by rw [hml]; exact hl.1) rfl d_P_init_1 (Nat.le_of_ble_eq_true rfl) (Nat.le_of_ble_eq_true rfl) ?_
  refine W.eq (g2 := F0 m 4 ls []) rfl ?_
  refine lv_aload_n hx hb d_P_init_4 rfl (lv_at hl 0 rfl) ?_
  refine lv_bipush (v := nI 10) hx hb d_P_init_5 (by decide +kernel) ?_
  refine va_newa (atype := .int) (ty := .int) (N' := 10) (a0 := (10, .inl (fun _ => 0))) hx hb (hk _ k_C_39) rfl hK hP hD hS hA (fun cA => rfl) (by decide +kernel) (by decide +kernel) (Nat.le_of_ble_eq_true rfl) (Nat.le_of_ble_eq_true rfl) (Nat.le_of_ble_eq_true rfl) d_P_init_7 (fun q1 cA H hKa hP hD hS => ?_)
  have e9 : cI = cA := Option.some.inj ((show s.vm.findClass _ = some cI from (hK.2 0 _ rfl).2).symm.trans (hKa.2 1 _ rfl).2)
  subst e9
  have hP : va_P (dC, dI) kls ([(q0, .inr (1, [.null, .null, .null, .null, .int 0, .int 0])), (q1, .inl (cI, 10, .inl (fun _ => 0)))]) H := hP
  have hD : va_D A ([(q0, .inr (1, [.null, .null, .null, .null, .int 0, .int 0])), (q1, .inl (cI, 10, .inl (fun _ => 0)))]) := hD
  refine W.widen (k := 1) (n := 10) (Nat.le_of_ble_eq_true rfl) (Nat.le_of_ble_eq_true rfl) ?_
  refine va_putF (D := (dC, dI)) (ci := 1) (v := .ref q1) (ty := .array .int) (C := R_P) (T := F_P) (N := 6) hx hb hk k_f_P t_P t_P_ok n_P hown hK hP hD hS 0 rfl rfl 0 (by decide) (hk _ k_C_18) (fun _ h9 => h9) rfl hin rfl (by decide +kernel) rfl rfl (Nat.le_of_ble_eq_true rfl) d_P_init_9 (fun H locs hP hD hS => ?_)
  have hP : va_P (dC, dI) kls ([(q0, .inr (1, [.ref q1, .null, .null, .null, .int 0, .int 0])), (q1, .inl (cI, 10, .inl (fun _ => 0)))]) H := hP
  have hD : va_D A ([(q0, .inr (1, [.ref q1, .null, .null, .null, .int 0, .int 0])), (q1, .inl (cI, 10, .inl (fun _ => 0)))]) := hD
  refine lv_aload_n hx hb d_P_init_12 rfl (lv_at hl 0 rfl) ?_
  refine lv_bipush (v := nI 20) hx hb d_P_init_13 (by decide +kernel) ?_
  refine va_newa (atype := .int) (ty := .int) (N' := 20) (a0 := (20, .inl (fun _ => 0))) hx hb (hk _ k_C_39) rfl hK hP hD hS hA (fun cA => rfl) (by decide +kernel) (by decide +kernel) (Nat.le_of_ble_eq_true rfl) (Nat.le_of_ble_eq_true rfl) (Nat.le_of_ble_eq_true rfl) d_P_init_15 (fun q2 cA H hKa hP hD hS => ?_)
  have e9 : cI = cA := Option.some.inj ((show s.vm.findClass _ = some cI from (hK.2 0 _ rfl).2).symm.trans (hKa.2 1 _ rfl).2)
  subst e9
  have hP : va_P (dC, dI) kls ([(q0, .inr (1, [.ref q1, .null, .null, .null, .int 0, .int 0])), (q1, .inl (cI, 10, .inl (fun _ => 0))), (q2, .inl (cI, 20, .inl (fun _ => 0)))]) H := hP
  have hD : va_D A ([(q0, .inr (1, [.ref q1, .null, .null, .null, .int 0, .int 0])), (q1, .inl (cI, 10, .inl (fun _ => 0))), (q2, .inl (cI, 20, .inl (fun _ => 0)))]) := hD
  refine W.widen (k := 2) (n := 30) (Nat.le_of_ble_eq_true rfl) (Nat.le_of_ble_eq_true rfl) ?_
  refine va_putF (D := (dC, dI)) (ci := 1) (v := .ref q2) (ty := .array .int) (C := R_P) (T := F_P) (N := 6) hx hb hk k_f_P t_P t_P_ok n_P hown hK hP hD hS 0 rfl rfl 1 (by decide) (hk _ k_C_20) (fun _ h9 => h9) rfl hin rfl (by decide +kernel) rfl rfl (Nat.le_of_ble_eq_true rfl) d_P_init_17 (fun H locs hP hD hS => ?_)
  have hP : va_P (dC, dI) kls ([(q0, .inr (1, [.ref q1, .ref q2, .null, .null, .int 0, .int 0])), (q1, .inl (cI, 10, .inl (fun _ => 0))), (q2, .inl (cI, 20, .inl (fun _ => 0)))]) H := hP
  have hD : va_D A ([(q0, .inr (1, [.ref q1, .ref q2, .null, .null, .int 0, .int 0])), (q1, .inl (cI, 10, .inl (fun _ => 0))), (q2, .inl (cI, 20, .inl (fun _ => 0)))]) := hD
  refine lv_aload_n hx hb d_P_init_20 rfl (lv_at hl 0 rfl) ?_
  refine lv_bipush (v := nI 20) hx hb d_P_init_21 (by decide +kernel) ?_
  refine va_newa (atype := .int) (ty := .int) (N' := 20) (a0 := (20, .inl (fun _ => 0))) hx hb (hk _ k_C_39) rfl hK hP hD hS hA (fun cA => rfl) (by decide +kernel) (by decide +kernel) (Nat.le_of_ble_eq_true rfl) (Nat.le_of_ble_eq_true rfl) (Nat.le_of_ble_eq_true rfl) d_P_init_23 (fun q3 cA H hKa hP hD hS => ?_)
  have e9 : cI = cA := Option.some.inj ((show s.vm.findClass _ = some cI from (hK.2 0 _ rfl).2).symm.trans (hKa.2 1 _ rfl).2)
  subst e9
  have hP : va_P (dC, dI) kls ([(q0, .inr (1, [.ref q1, .ref q2, .null, .null, .int 0, .int 0])), (q1, .inl (cI, 10, .inl (fun _ => 0))), (q2, .inl (cI, 20, .inl (fun _ => 0))), (q3, .inl (cI, 20, .inl (fun _ => 0)))]) H := hP
  have hD : va_D A ([(q0, .inr (1, [.ref q1, .ref q2, .null, .null, .int 0, .int 0])), (q1, .inl (cI, 10, .inl (fun _ => 0))), (q2, .inl (cI, 20, .inl (fun _ => 0))), (q3, .inl (cI, 20, .inl (fun _ => 0)))]) := hD
  refine W.widen (k := 3) (n := 50) (Nat.le_of_ble_eq_true rfl) (Nat.le_of_ble_eq_true rfl) ?_
  refine va_putF (D := (dC, dI)) (ci := 1) (v := .ref q3) (ty := .array .int) (C := R_P) (T := F_P) (N := 6) hx hb hk k_f_P t_P t_P_ok n_P hown hK hP hD hS 0 rfl rfl 2 (by decide) (hk _ k_C_24) (fun _ h9 => h9) rfl hin rfl (by decide +kernel) rfl rfl (Nat.le_of_ble_eq_true rfl) d_P_init_25 (fun H locs hP hD hS => ?_)
  have hP : va_P (dC, dI) kls ([(q0, .inr (1, [.ref q1, .ref q2, .ref q3, .null, .int 0, .int 0])), (q1, .inl (cI, 10, .inl (fun _ => 0))), (q2, .inl (cI, 20, .inl (fun _ => 0))), (q3, .inl (cI, 20, .inl (fun _ => 0)))]) H := hP
  have hD : va_D A ([(q0, .inr (1, [.ref q1, .ref q2, .ref q3, .null, .int 0, .int 0])), (q1, .inl (cI, 10, .inl (fun _ => 0))), (q2, .inl (cI, 20, .inl (fun _ => 0))), (q3, .inl (cI, 20, .inl (fun _ => 0)))]) := hD
  refine lv_aload_n hx hb d_P_init_28 rfl (lv_at hl 0 rfl) ?_
  refine lv_bipush (v := nI 20) hx hb d_P_init_29 (by decide +kernel) ?_
  refine va_newa (atype := .int) (ty := .int) (N' := 20) (a0 := (20, .inl (fun _ => 0))) hx hb (hk _ k_C_39) rfl hK hP hD hS hA (fun cA => rfl) (by decide +kernel) (by decide +kernel) (Nat.le_of_ble_eq_true rfl) (Nat.le_of_ble_eq_true rfl) (Nat.le_of_ble_eq_true rfl) d_P_init_31 (fun q4 cA H hKa hP hD hS => ?_)
  have e9 : cI = cA := Option.some.inj ((show s.vm.findClass _ = some cI from (hK.2 0 _ rfl).2).symm.trans (hKa.2 1 _ rfl).2)
  subst e9
  have hP : va_P (dC, dI) kls ([(q0, .inr (1, [.ref q1, .ref q2, .ref q3, .null, .int 0, .int 0])), (q1, .inl (cI, 10, .inl (fun _ => 0))), (q2, .inl (cI, 20, .inl (fun _ => 0))), (q3, .inl (cI, 20, .inl (fun _ => 0))), (q4, .inl (cI, 20, .inl (fun _ => 0)))]) H := hP
  have hD : va_D A ([(q0, .inr (1, [.ref q1, .ref q2, .ref q3, .null, .int 0, .int 0])), (q1, .inl (cI, 10, .inl (fun _ => 0))), (q2, .inl (cI, 20, .inl (fun _ => 0))), (q3, .inl (cI, 20, .inl (fun _ => 0))), (q4, .inl (cI, 20, .inl (fun _ => 0)))]) := hD
  refine W.widen (k := 4) (n := 70) (Nat.le_of_ble_eq_true rfl) (Nat.le_of_ble_eq_true rfl) ?_
  refine va_putF (D := (dC, dI)) (ci := 1) (v := .ref q4) (ty := .array .int) (C := R_P) (T := F_P) (N := 6) hx hb hk k_f_P t_P t_P_ok n_P hown hK hP hD hS 0 rfl rfl 3 (by decide) (hk _ k_C_28) (fun _ h9 => h9) rfl hin rfl (by decide +kernel) rfl rfl (Nat.le_of_ble_eq_true rfl) d_P_init_33 (fun H locs hP hD hS => ?_)
  have hP : va_P (dC, dI) kls ([(q0, .inr (1, [.ref q1, .ref q2, .ref q3, .ref q4, .int 0, .int 0])), (q1, .inl (cI, 10, .inl (fun _ => 0))), (q2, .inl (cI, 20, .inl (fun _ => 0))), (q3, .inl (cI, 20, .inl (fun _ => 0))), (q4, .inl (cI, 20, .inl (fun _ => 0)))]) H := hP
  have hD : va_D A ([(q0, .inr (1, [.ref q1, .ref q2, .ref q3, .ref q4, .int 0, .int 0])), (q1, .inl (cI, 10, .inl (fun _ => 0))), (q2, .inl (cI, 20, .inl (fun _ => 0))), (q3, .inl (cI, 20, .inl (fun _ => 0))), (q4, .inl (cI, 20, .inl (fun _ => 0)))]) := hD
  exact W.vret hx hb hr (fun t ht hW => ⟨⟨(fun k => [q0, q1, q2, q3, q4].getD k 0), rfl, trivial, by rw [ht]; exact hP, va_K.moved hW.alike hK, hD⟩, hS.F ht⟩) hS.2.2 d_P_init_36
abbrev n_C_init (q0 : Nat) : va_W := [(q0, .inr (2, [.null, .null, .null, .null, .null, .null, .null, .null, .int 0, .int 0, .int 0]))]
abbrev e_C_init (q0 : Nat) (cI : ClassId) (u : Nat → Nat) : va_W := [(q0, .inr (2, [.ref (u 1), .ref (u 2), .ref (u 3), .ref (u 4), .ref (u 5), .ref (u 6), .ref (u 7), .ref (u 8), .int 0, .int 0, .int 0])), (u 1, .inl (cI, 800, .inl (fun _ => 0))), (u 2, .inl (cI, 800, .inl (fun _ => 0))), (u 3, .inl (cI, 800, .inl (fun _ => 0))), (u 4, .inl (cI, 800, .inl (fun _ => 0))), (u 5, .inl (cI, 800, .inl (fun _ => 0))), (u 6, .inl (cI, 256, .inl (fun _ => 0))), (u 7, .inl (cI, 11, .inl (fun _ => 0))), (u 8, .inl (cI, 10, .inl (fun _ => 0)))]
set_option maxHeartbeats 4000000 in
set_option maxRecDepth 100000 in
theorem c_C_init_ok (l : Launch) (dC : Nat → ClassId) (dI : Nat → Nat → Nat) (cI : ClassId) (q0 sz : Nat) : Met l y_C_init w_C_init ({ frames := 1, cells := 8, slots := 4277, locals := 12 }) (va_Pc [.ref q0] (fun U => U.heap.size = sz ∧ va_P (dC, dI) kls (n_C_init q0) U.heap ∧ va_K (dC, dI) kls (tyC cI) U ∧ va_D (fun _ => True) (n_C_init q0))) (va_Qv (fun (u : Nat → Nat) => True) (fun (u : Nat → Nat) (t : State) => va_P (dC, dI) kls (e_C_init q0 cI u) t.heap ∧ va_K (dC, dI) kls (tyC cI) t ∧ va_D (va_A (n_C_init q0) sz) (e_C_init q0 cI u)) (va_A (n_C_init q0) sz)) 8 4277 (va_A (n_C_init q0) sz) := by
  refine Met.ofW (cc := c_C_init) (maxL := 1) (ret := none) (by decide) rfl ?_
  intro p e s m args below meth c s₁ B hml hv
  obtain ⟨rfl, hsz, hP, hK, hD0⟩ := hv
  have hx := B.exec
  have hb := B.bytes
  have hr := B.returns
  have hts := atoms_spec (ws := w_C_init) B.pre
  have hk : ∀ w ∈ wCw, w.before _ s = true := fun w h => hts w (List.mem_cons_of_mem _ h)
  have hown : s.vm.findClass R_C = some m.cls := findClass_of_methodNamed B.named
  have hin : meth.name = "<init>" := (name_of_methodNamed B.named B.method).1
  subst hsz
  have hD := hD0.self (sz := s.heap.size)
  generalize hAe : va_A (n_C_init q0) s.heap.size = A at hD ⊢
  have hA : ∀ q : Nat, s.heap.size ≤ q → A q := fun q h => by rw [← hAe]; exact Or.inr h
  have hS : va_S A s.heap s.heap [] := va_S.rf
  have hl := lv_entry ([.ref q0]) (n := 1) (Nat.le_of_ble_eq_true rfl)
  rw [lg_entry_eq]
  generalize (lg_sl ([.ref q0]) ++ List.replicate (1 - (lg_sl ([.ref q0])).length) Slot.unset).toArray = ls at hl ⊢
  have hl : lv_has ls 1 [(0, .ref q0)] := hl
  refine lv_aload_n hx hb d_C_init_0 rfl (lv_at hl 0 rfl) ?_
  refine W.objInit hx hb hown (hk _ k_C_44) (hk _ k_C_11) (hk _ k_C_12) rfl (by rw [hml]; exact hl.1) rfl d_C_init_1 (Nat.le_of_ble_eq_true rfl) (Nat.le_of_ble_eq_true rfl) ?_
  refine W.eq (g2 := F0 m 4 ls []) rfl ?_
  refine lv_aload_n hx hb d_C_init_4 rfl (lv_at hl 0 rfl) ?_
  refine lv_sipush (v := nI 800) hx hb d_C_init_5 (by decide +kernel) ?_
  refine va_newa (atype := .int) (ty := .int) (N' := 800) (a0 := (800, .inl (fun _ => 0))) hx hb (hk _ k_C_39) rfl hK hP hD hS hA (fun cA => rfl) (by decide +kernel) (by decide +kernel) (Nat.le_of_ble_eq_true rfl) (Nat.le_of_ble_eq_true rfl) (Nat.le_of_ble_eq_true rfl) d_C_init_8 (fun q1 cA H hKa hP hD hS => ?_)
  have e9 : cI = cA := Option.some.inj ((show s.vm.findClass _ = some cI from (hK.2 0 _ rfl).2).symm.trans (hKa.2 1 _ rfl).2)
  subst e9
  have hP : va_P (dC, dI) kls ([(q0, .inr (2, [.null, .null, .null, .null, .null, .null, .null, .null, .int 0, .int 0, .int 0])), (q1, .inl (cI, 800, .inl (fun _ => 0)))]) H := hP
  have hD : va_D A ([(q0, .inr (2, [.null, .null, .null, .null, .null, .null, .null, .null, .int 0, .int 0, .int 0])), (q1, .inl (cI, 800, .inl (fun _ => 0)))]) := hD
  refine W.widen (k := 1) (n := 800) (Nat.le_of_ble_eq_true rfl) (Nat.le_of_ble_eq_true rfl) ?_
  refine va_putF (D := (dC, dI)) (ci := 2) (v := .ref q1) (ty := .array .int) (C := R_C) (T := F_C) (N := 11) hx hb hk k_f_C t_C t_C_ok n_C hown hK hP hD hS 0 rfl rfl 0 (by decide) (hk _ k_C_45) (fun _ h9 => h9) rfl hin rfl (by decide +kernel) rfl rfl (Nat.le_of_ble_eq_true rfl) d_C_init_10 (fun H locs hP hD hS => ?_)
  have hP : va_P (dC, dI) kls ([(q0, .inr (2, [.ref q1, .null, .null, .null, .null, .null, .null, .null, .int 0, .int 0, .int 0])), (q1, .inl (cI, 800, .inl (fun _ => 0)))]) H := hP
  have hD : va_D A ([(q0, .inr (2, [.ref q1, .null, .null, .null, .null, .null, .null, .null, .int 0, .int 0, .int 0])), (q1, .inl (cI, 800, .inl (fun _ => 0)))]) := hD
  refine lv_aload_n hx hb d_C_init_13 rfl (lv_at hl 0 rfl) ?_
  refine lv_sipush (v := nI 800) hx hb d_C_init_14 (by decide +kernel) ?_
  refine va_newa (atype := .int) (ty := .int) (N' := 800) (a0 := (800, .inl (fun _ => 0))) hx hb (hk _ k_C_39) rfl hK hP hD hS hA (fun cA => rfl) (by decide +kernel) (by decide +kernel) (Nat.le_of_ble_eq_true rfl) (Nat.le_of_ble_eq_true rfl) (Nat.le_of_ble_eq_true rfl) d_C_init_17 (fun q2 cA H hKa hP hD hS => ?_)
  have e9 : cI = cA := Option.some.inj ((show s.vm.findClass _ = some cI from (hK.2 0 _ rfl).2).symm.trans (hKa.2 1 _ rfl).2)
  subst e9
  have hP : va_P (dC, dI) kls ([(q0, .inr (2, [.ref q1, .null, .null, .null, .null, .null, .null, .null, .int 0, .int 0, .int 0])), (q1, .inl (cI, 800, .inl (fun _ => 0))), (q2, .inl (cI, 800, .inl (fun _ => 0)))]) H := hP
  have hD : va_D A ([(q0, .inr (2, [.ref q1, .null, .null, .null, .null, .null, .null, .null, .int 0, .int 0, .int 0])), (q1, .inl (cI, 800, .inl (fun _ => 0))), (q2, .inl (cI, 800, .inl (fun _ => 0)))]) := hD
  refine W.widen (k := 2) (n := 1600) (Nat.le_of_ble_eq_true rfl) (Nat.le_of_ble_eq_true rfl) ?_
  refine va_putF (D := (dC, dI)) (ci := 2) (v := .ref q2) (ty := .array .int) (C := R_C) (T := F_C) (N := 11) hx hb hk k_f_C t_C t_C_ok n_C hown hK hP hD hS 0 rfl rfl 1 (by decide) (hk _ k_C_46) (fun _ h9 => h9) rfl hin rfl (by decide +kernel) rfl rfl (Nat.le_of_ble_eq_true rfl) d_C_init_19 (fun H locs hP hD hS => ?_)
  have hP : va_P (dC, dI) kls ([(q0, .inr (2, [.ref q1, .ref q2, .null, .null, .null, .null, .null, .null, .int 0, .int 0, .int 0])), (q1, .inl (cI, 800, .inl (fun _ => 0))), (q2, .inl (cI, 800, .inl (fun _ => 0)))]) H := hP
  have hD : va_D A ([(q0, .inr (2, [.ref q1, .ref q2, .null, .null, .null, .null, .null, .null, .int 0, .int 0, .int 0])), (q1, .inl (cI, 800, .inl (fun _ => 0))), (q2, .inl (cI, 800, .inl (fun _ => 0)))]) := hD
  refine lv_aload_n hx hb d_C_init_22 rfl (lv_at hl 0 rfl) ?_
  refine lv_sipush (v := nI 800) hx hb d_C_init_23 (by decide +kernel) ?_
  refine va_newa (atype := .int) (ty := .int) (N' := 800) (a0 := (800, .inl (fun _ => 0))) hx hb (hk _ k_C_39) rfl hK hP hD hS hA (fun cA => rfl) (by decide +kernel) (by decide +kernel) (Nat.le_of_ble_eq_true rfl) (Nat.le_of_ble_eq_true rfl) (Nat.le_of_ble_eq_true rfl) d_C_init_26 (fun q3 cA H hKa hP hD hS => ?_)
  have e9 : cI = cA := Option.some.inj ((show s.vm.findClass _ = some cI from (hK.2 0 _ rfl).2).symm.trans (hKa.2 1 _ rfl).2)
  subst e9
  have hP : va_P (dC, dI) kls ([(q0, .inr (2, [.ref q1, .ref q2, .null, .null, .null, .null, .null, .null, .int 0, .int 0, .int 0])), (q1, .inl (cI, 800, .inl (fun _ => 0))), (q2, .inl (cI, 800, .inl (fun _ => 0))), (q3, .inl (cI, 800, .inl (fun _ => 0)))]) H := hP
  have hD : va_D A ([(q0, .inr (2, [.ref q1, .ref q2, .null, .null, .null, .null, .null, .null, .int 0, .int 0, .int 0])), (q1, .inl (cI, 800, .inl (fun _ => 0))), (q2, .inl (cI, 800, .inl (fun _ => 0))), (q3, .inl (cI, 800, .inl (fun _ => 0)))]) := hD
  refine W.widen (k := 3) (n := 2400) (Nat.le_of_ble_eq_true rfl) (Nat.le_of_ble_eq_true rfl) ?_
  refine va_putF (D := (dC, dI)) (ci := 2) (v := .ref q3) (ty := .array .int) (C := R_C) (T := F_C) (N := 11) hx hb hk k_f_C t_C t_C_ok n_C hown hK hP hD hS 0 rfl rfl 2 (by decide) (hk _ k_C_47) (fun _ h9 => h9) rfl hin rfl (by decide +kernel) rfl rfl (Nat.le_of_ble_eq_true rfl) d_C_init_28 (fun H locs hP hD hS => ?_)
  have hP : va_P (dC, dI) kls ([(q0, .inr (2, [.ref q1, .ref q2, .ref q3, .null, .null, .null, .null, .null, .int 0, .int 0, .int 0])), (q1, .inl (cI, 800, .inl (fun _ => 0))), (q2, .inl (cI, 800, .inl (fun _ => 0))), (q3, .inl (cI, 800, .inl (fun _ => 0)))]) H := hP
  have hD : va_D A ([(q0, .inr (2, [.ref q1, .ref q2, .ref q3, .null, .null, .null, .null, .null, .int 0, .int 0, .int 0])), (q1, .inl (cI, 800, .inl (fun _ => 0))), (q2, .inl (cI, 800, .inl (fun _ => 0))), (q3, .inl (cI, 800, .inl (fun _ => 0)))]) := hD
  refine lv_aload_n hx hb d_C_init_31 rfl (lv_at hl 0 rfl) ?_
  refine lv_sipush (v := nI 800) hx hb d_C_init_32 (by decide +kernel) ?_
  refine va_newa (atype := .int) (ty := .int) (N' := 800) (a0 := (800, .inl (fun _ => 0))) hx hb (hk _ k_C_39) rfl hK hP hD hS hA (fun cA => rfl) (by decide +kernel) (by decide +kernel) (Nat.le_of_ble_eq_true rfl) (Nat.le_of_ble_eq_true rfl) (Nat.le_of_ble_eq_true rfl) d_C_init_35 (fun q4 cA H hKa hP hD hS => ?_)
  have e9 : cI = cA := Option.some.inj ((show s.vm.findClass _ = some cI from (hK.2 0 _ rfl).2).symm.trans (hKa.2 1 _ rfl).2)
  subst e9
  have hP : va_P (dC, dI) kls ([(q0, .inr (2, [.ref q1, .ref q2, .ref q3, .null, .null, .null, .null, .null, .int 0, .int 0, .int 0])), (q1, .inl (cI, 800, .inl (fun _ => 0))), (q2, .inl (cI, 800, .inl (fun _ => 0))), (q3, .inl (cI, 800, .inl (fun _ => 0))), (q4, .inl (cI, 800, .inl (fun _ => 0)))]) H := hP
  have hD : va_D A ([(q0, .inr (2, [.ref q1, .ref q2, .ref q3, .null, .null, .null, .null, .null, .int 0, .int 0, .int 0])), (q1, .inl (cI, 800, .inl (fun _ => 0))), (q2, .inl (cI, 800, .inl (fun _ => 0))), (q3, .inl (cI, 800, .inl (fun _ => 0))), (q4, .inl (cI, 800, .inl (fun _ => 0)))]) := hD
  refine W.widen (k := 4) (n := 3200) (Nat.le_of_ble_eq_true rfl) (Nat.le_of_ble_eq_true rfl) ?_
  refine va_putF (D := (dC, dI)) (ci := 2) (v := .ref q4) (ty := .array .int) (C := R_C) (T := F_C) (N := 11) hx hb hk k_f_C t_C t_C_ok n_C hown hK hP hD hS 0 rfl rfl 3 (by decide) (hk _ k_C_48) (fun _ h9 => h9) rfl hin rfl (by decide +kernel) rfl rfl (Nat.le_of_ble_eq_true rfl) d_C_init_37 (fun H locs hP hD hS => ?_)
  have hP : va_P (dC, dI) kls ([(q0, .inr (2, [.ref q1, .ref q2, .ref q3, .ref q4, .null, .null, .null, .null, .int 0, .int 0, .int 0])), (q1, .inl (cI, 800, .inl (fun _ => 0))), (q2, .inl (cI, 800, .inl (fun _ => 0))), (q3, .inl (cI, 800, .inl (fun _ => 0))), (q4, .inl (cI, 800, .inl (fun _ => 0)))]) H := hP
  have hD : va_D A ([(q0, .inr (2, [.ref q1, .ref q2, .ref q3, .ref q4, .null, .null, .null, .null, .int 0, .int 0, .int 0])), (q1, .inl (cI, 800, .inl (fun _ => 0))), (q2, .inl (cI, 800, .inl (fun _ => 0))), (q3, .inl (cI, 800, .inl (fun _ => 0))), (q4, .inl (cI, 800, .inl (fun _ => 0)))]) := hD
  refine lv_aload_n hx hb d_C_init_40 rfl (lv_at hl 0 rfl) ?_
  refine lv_sipush (v := nI 800) hx hb d_C_init_41 (by decide +kernel) ?_
  refine va_newa (atype := .int) (ty := .int) (N' := 800) (a0 := (800, .inl (fun _ => 0))) hx hb (hk _ k_C_39) rfl hK hP hD hS hA (fun cA => rfl) (by decide +kernel) (by decide +kernel) (Nat.le_of_ble_eq_true rfl) (Nat.le_of_ble_eq_true rfl) (Nat.le_of_ble_eq_true rfl) d_C_init_44 (fun q5 cA H hKa hP hD hS => ?_)
  have e9 : cI = cA := Option.some.inj ((show s.vm.findClass _ = some cI from (hK.2 0 _ rfl).2).symm.trans (hKa.2 1 _ rfl).2)
  subst e9
  have hP : va_P (dC, dI) kls ([(q0, .inr (2, [.ref q1, .ref q2, .ref q3, .ref q4, .null, .null, .null, .null, .int 0, .int 0, .int 0])), (q1, .inl (cI, 800, .inl (fun _ => 0))), (q2, .inl (cI, 800, .inl (fun _ => 0))), (q3, .inl (cI, 800, .inl (fun _ => 0))), (q4, .inl (cI, 800, .inl (fun _ => 0))), (q5, .inl (cI, 800, .inl (fun _ => 0)))]) H := hP
  have hD : va_D A ([(q0, .inr (2, [.ref q1, .ref q2, .ref q3, .ref q4, .null, .null, .null, .null, .int 0, .int 0, .int 0])), (q1, .inl (cI, 800, .inl (fun _ => 0))), (q2, .inl (cI, 800, .inl (fun _ => 0))), (q3, .inl (cI, 800, .inl (fun _ => 0))), (q4, .inl (cI, 800, .inl (fun _ => 0))), (q5, .inl (cI, 800, .inl (fun _ => 0)))]) := hD
  refine W.widen (k := 5) (n := 4000) (Nat.le_of_ble_eq_true rfl) (Nat.le_of_ble_eq_true rfl) ?_
  refine va_putF (D := (dC, dI)) (ci := 2) (v := .ref q5) (ty := .array .int) (C := R_C) (T := F_C) (N := 11) hx hb hk k_f_C t_C t_C_ok n_C hown hK hP hD hS 0 rfl rfl 4 (by decide) (hk _ k_C_49) (fun _ h9 => h9) rfl hin rfl (by decide +kernel) rfl rfl (Nat.le_of_ble_eq_true rfl) d_C_init_46 (fun H locs hP hD hS => ?_)
  have hP : va_P (dC, dI) kls ([(q0, .inr (2, [.ref q1, .ref q2, .ref q3, .ref q4, .ref q5, .null, .null, .null, .int 0, .int 0, .int 0])), (q1, .inl (cI, 800, .inl (fun _ => 0))), (q2, .inl (cI, 800, .inl (fun _ => 0))), (q3, .inl (cI, 800, .inl (fun _ => 0))), (q4, .inl (cI, 800, .inl (fun _ => 0))), (q5, .inl (cI, 800, .inl (fun _ => 0)))]) H := hP
  have hD : va_D A ([(q0, .inr (2, [.ref q1, .ref q2, .ref q3, .ref q4, .ref q5, .null, .null, .null, .int 0, .int 0, .int 0])), (q1, .inl (cI, 800, .inl (fun _ => 0))), (q2, .inl (cI, 800, .inl (fun _ => 0))), (q3, .inl (cI, 800, .inl (fun _ => 0))), (q4, .inl (cI, 800, .inl (fun _ => 0))), (q5, .inl (cI, 800, .inl (fun _ => 0)))]) := hD
  refine lv_aload_n hx hb d_C_init_49 rfl (lv_at hl 0 rfl) ?_
  refine lv_sipush (v := nI 256) hx hb d_C_init_50 (by decide +kernel) ?_
  refine va_newa (atype := .int) (ty := .int) (N' := 256) (a0 := (256, .inl (fun _ => 0))) hx hb (hk _ k_C_39) rfl hK hP hD hS hA (fun cA => rfl) (by decide +kernel) (by decide +kernel) (Nat.le_of_ble_eq_true rfl) (Nat.le_of_ble_eq_true rfl) (Nat.le_of_ble_eq_true rfl) d_C_init_53 (fun q6 cA H hKa hP hD hS => ?_)
  have e9 : cI = cA := Option.some.inj ((show s.vm.findClass _ = some cI from (hK.2 0 _ rfl).2).symm.trans (hKa.2 1 _ rfl).2)
  subst e9
  have hP : va_P (dC, dI) kls ([(q0, .inr (2, [.ref q1, .ref q2, .ref q3, .ref q4, .ref q5, .null, .null, .null, .int 0, .int 0, .int 0])), (q1, .inl (cI, 800, .inl (fun _ => 0))), (q2, .inl (cI, 800, .inl (fun _ => 0))), (q3, .inl (cI, 800, .inl (fun _ => 0))), (q4, .inl (cI, 800, .inl (fun _ => 0))), (q5, .inl (cI, 800, .inl (fun _ => 0))), (q6, .inl (cI, 256, .inl (fun _ => 0)))]) H := hP
  have hD : va_D A ([(q0, .inr (2, [.ref q1, .ref q2, .ref q3, .ref q4, .ref q5, .null, .null, .null, .int 0, .int 0, .int 0])), (q1, .inl (cI, 800, .inl (fun _ => 0))), (q2, .inl (cI, 800, .inl (fun _ => 0))), (q3, .inl (cI, 800, .inl (fun _ => 0))), (q4, .inl (cI, 800, .inl (fun _ => 0))), (q5, .inl (cI, 800, .inl (fun _ => 0))), (q6, .inl (cI, 256, .inl (fun _ => 0)))]) := hD
  refine W.widen (k := 6) (n := 4256) (Nat.le_of_ble_eq_true rfl) (Nat.le_of_ble_eq_true rfl) ?_
  refine va_putF (D := (dC, dI)) (ci := 2) (v := .ref q6) (ty := .array .int) (C := R_C) (T := F_C) (N := 11) hx hb hk k_f_C t_C t_C_ok n_C hown hK hP hD hS 0 rfl rfl 5 (by decide) (hk _ k_C_50) (fun _ h9 => h9) rfl hin rfl (by decide +kernel) rfl rfl (Nat.le_of_ble_eq_true rfl) d_C_init_55 (fun H locs hP hD hS => ?_)
  have hP : va_P (dC, dI) kls ([(q0, .inr (2, [.ref q1, .ref q2, .ref q3, .ref q4, .ref q5, .ref q6, .null, .null, .int 0, .int 0, .int 0])), (q1, .inl (cI, 800, .inl (fun _ => 0))), (q2, .inl (cI, 800, .inl (fun _ => 0))), (q3, .inl (cI, 800, .inl (fun _ => 0))), (q4, .inl (cI, 800, .inl (fun _ => 0))), (q5, .inl (cI, 800, .inl (fun _ => 0))), (q6, .inl (cI, 256, .inl (fun _ => 0)))]) H := hP
  have hD : va_D A ([(q0, .inr (2, [.ref q1, .ref q2, .ref q3, .ref q4, .ref q5, .ref q6, .null, .null, .int 0, .int 0, .int 0])), (q1, .inl (cI, 800, .inl (fun _ => 0))), (q2, .inl (cI, 800, .inl (fun _ => 0))), (q3, .inl (cI, 800, .inl (fun _ => 0))), (q4, .inl (cI, 800, .inl (fun _ => 0))), (q5, .inl (cI, 800, .inl (fun _ => 0))), (q6, .inl (cI, 256, .inl (fun _ => 0)))]) := hD
  refine lv_aload_n hx hb d_C_init_58 rfl (lv_at hl 0 rfl) ?_
  refine lv_bipush (v := nI 11) hx hb d_C_init_59 (by decide +kernel) ?_
  refine va_newa (atype := .int) (ty := .int) (N' := 11) (a0 := (11, .inl (fun _ => 0))) hx hb (hk _ k_C_39) rfl hK hP hD hS hA (fun cA => rfl) (by decide +kernel) (by decide +kernel) (Nat.le_of_ble_eq_true rfl) (Nat.le_of_ble_eq_true rfl) (Nat.le_of_ble_eq_true rfl) d_C_init_61 (fun q7 cA H hKa hP hD hS => ?_)
  have e9 : cI = cA := Option.some.inj ((show s.vm.findClass _ = some cI from (hK.2 0 _ rfl).2).symm.trans (hKa.2 1 _ rfl).2)
  subst e9
  have hP : va_P (dC, dI) kls ([(q0, .inr (2, [.ref q1, .ref q2, .ref q3, .ref q4, .ref q5, .ref q6, .null, .null, .int 0, .int 0, .int 0])), (q1, .inl (cI, 800, .inl (fun _ => 0))), (q2, .inl (cI, 800, .inl (fun _ => 0))), (q3, .inl (cI, 800, .inl (fun _ => 0))), (q4, .inl (cI, 800, .inl (fun _ => 0))), (q5, .inl (cI, 800, .inl (fun _ => 0))), (q6, .inl (cI, 256, .inl (fun _ => 0))), (q7, .inl (cI, 11, .inl (fun _ => 0)))]) H := hP
  have hD : va_D A ([(q0, .inr (2, [.ref q1, .ref q2, .ref q3, .ref q4, .ref q5, .ref q6, .null, .null, .int 0, .int 0, .int 0])), (q1, .inl (cI, 800, .inl (fun _ => 0))), (q2, .inl (cI, 800, .inl (fun _ => 0))), (q3, .inl (cI, 800, .inl (fun _ => 0))), (q4, .inl (cI, 800, .inl (fun _ => 0))), (q5, .inl (cI, 800, .inl (fun _ => 0))), (q6, .inl (cI, 256, .inl (fun _ => 0))), (q7, .inl (cI, 11, .inl (fun _ => 0)))]) := hD
  refine W.widen (k := 7) (n := 4267) (Nat.le_of_ble_eq_true rfl) (Nat.le_of_ble_eq_true rfl) ?_
  refine va_putF (D := (dC, dI)) (ci := 2) (v := .ref q7) (ty := .array .int) (C := R_C) (T := F_C) (N := 11) hx hb hk k_f_C t_C t_C_ok n_C hown hK hP hD hS 0 rfl rfl 6 (by decide) (hk _ k_C_51) (fun _ h9 => h9) rfl hin rfl (by decide +kernel) rfl rfl (Nat.le_of_ble_eq_true rfl) d_C_init_63 (fun H locs hP hD hS => ?_)
  have hP : va_P (dC, dI) kls ([(q0, .inr (2, [.ref q1, .ref q2, .ref q3, .ref q4, .ref q5, .ref q6, .ref q7, .null, .int 0, .int 0, .int 0])), (q1, .inl (cI, 800, .inl (fun _ => 0))), (q2, .inl (cI, 800, .inl (fun _ => 0))), (q3, .inl (cI, 800, .inl (fun _ => 0))), (q4, .inl (cI, 800, .inl (fun _ => 0))), (q5, .inl (cI, 800, .inl (fun _ => 0))), (q6, .inl (cI, 256, .inl (fun _ => 0))), (q7, .inl (cI, 11, .inl (fun _ => 0)))]) H := hP
  have hD : va_D A ([(q0, .inr (2, [.ref q1, .ref q2, .ref q3, .ref q4, .ref q5, .ref q6, .ref q7, .null, .int 0, .int 0, .int 0])), (q1, .inl (cI, 800, .inl (fun _ => 0))), (q2, .inl (cI, 800, .inl (fun _ => 0))), (q3, .inl (cI, 800, .inl (fun _ => 0))), (q4, .inl (cI, 800, .inl (fun _ => 0))), (q5, .inl (cI, 800, .inl (fun _ => 0))), (q6, .inl (cI, 256, .inl (fun _ => 0))), (q7, .inl (cI, 11, .inl (fun _ => 0)))]) := hD
  refine lv_aload_n hx hb d_C_init_66 rfl (lv_at hl 0 rfl) ?_
  refine lv_bipush (v := nI 10) hx hb d_C_init_67 (by decide +kernel) ?_
  refine va_newa (atype := .int) (ty := .int) (N' := 10) (a0 := (10, .inl (fun _ => 0))) hx hb (hk _ k_C_39) rfl hK hP hD hS hA (fun cA => rfl) (by decide +kernel) (by decide +kernel) (Nat.le_of_ble_eq_true rfl) (Nat.le_of_ble_eq_true rfl) (Nat.le_of_ble_eq_true rfl) d_C_init_69 (fun q8 cA H hKa hP hD hS => ?_)
  have e9 : cI = cA := Option.some.inj ((show s.vm.findClass _ = some cI from (hK.2 0 _ rfl).2).symm.trans (hKa.2 1 _ rfl).2)
  subst e9
  have hP : va_P (dC, dI) kls ([(q0, .inr (2, [.ref q1, .ref q2, .ref q3, .ref q4, .ref q5, .ref q6, .ref q7, .null, .int 0, .int 0, .int 0])), (q1, .inl (cI, 800, .inl (fun _ => 0))), (q2, .inl (cI, 800, .inl (fun _ => 0))), (q3, .inl (cI, 800, .inl (fun _ => 0))), (q4, .inl (cI, 800, .inl (fun _ => 0))), (q5, .inl (cI, 800, .inl (fun _ => 0))), (q6, .inl (cI, 256, .inl (fun _ => 0))), (q7, .inl (cI, 11, .inl (fun _ => 0))), (q8, .inl (cI, 10, .inl (fun _ => 0)))]) H := hP
  have hD : va_D A ([(q0, .inr (2, [.ref q1, .ref q2, .ref q3, .ref q4, .ref q5, .ref q6, .ref q7, .null, .int 0, .int 0, .int 0])), (q1, .inl (cI, 800, .inl (fun _ => 0))), (q2, .inl (cI, 800, .inl (fun _ => 0))), (q3, .inl (cI, 800, .inl (fun _ => 0))), (q4, .inl (cI, 800, .inl (fun _ => 0))), (q5, .inl (cI, 800, .inl (fun _ => 0))), (q6, .inl (cI, 256, .inl (fun _ => 0))), (q7, .inl (cI, 11, .inl (fun _ => 0))), (q8, .inl (cI, 10, .inl (fun _ => 0)))]) := hD
  refine W.widen (k := 8) (n := 4277) (Nat.le_of_ble_eq_true rfl) (Nat.le_of_ble_eq_true rfl) ?_
  refine va_putF (D := (dC, dI)) (ci := 2) (v := .ref q8) (ty := .array .int) (C := R_C) (T := F_C) (N := 11) hx hb hk k_f_C t_C t_C_ok n_C hown hK hP hD hS 0 rfl rfl 7 (by decide) (hk _ k_C_52) (fun _ h9 => h9) rfl hin rfl (by decide +kernel) rfl rfl (Nat.le_of_ble_eq_true rfl) d_C_init_71 (fun H locs hP hD hS => ?_)
  have hP : va_P (dC, dI) kls ([(q0, .inr (2, [.ref q1, .ref q2, .ref q3, .ref q4, .ref q5, .ref q6, .ref q7, .ref q8, .int 0, .int 0, .int 0])), (q1, .inl (cI, 800, .inl (fun _ => 0))), (q2, .inl (cI, 800, .inl (fun _ => 0))), (q3, .inl (cI, 800, .inl (fun _ => 0))), (q4, .inl (cI, 800, .inl (fun _ => 0))), (q5, .inl (cI, 800, .inl (fun _ => 0))), (q6, .inl (cI, 256, .inl (fun _ => 0))), (q7, .inl (cI, 11, .inl (fun _ => 0))), (q8, .inl (cI, 10, .inl (fun _ => 0)))]) H := hP
  have hD : va_D A ([(q0, .inr (2, [.ref q1, .ref q2, .ref q3, .ref q4, .ref q5, .ref q6, .ref q7, .ref q8, .int 0, .int 0, .int 0])), (q1, .inl (cI, 800, .inl (fun _ => 0))), (q2, .inl (cI, 800, .inl (fun _ => 0))), (q3, .inl (cI, 800, .inl (fun _ => 0))), (q4, .inl (cI, 800, .inl (fun _ => 0))), (q5, .inl (cI, 800, .inl (fun _ => 0))), (q6, .inl (cI, 256, .inl (fun _ => 0))), (q7, .inl (cI, 11, .inl (fun _ => 0))), (q8, .inl (cI, 10, .inl (fun _ => 0)))]) := hD
  exact W.vret hx hb hr (fun t ht hW => ⟨⟨(fun k => [q0, q1, q2, q3, q4, q5, q6, q7, q8].getD k 0), rfl, trivial, by rw [ht]; exact hP, va_K.moved hW.alike hK, hD⟩, hS.F ht⟩) hS.2.2 d_C_init_74
abbrev n_O_init (q0 : Nat) : va_W := [(q0, .inr (3, [.null, .int 0]))]
abbrev e_O_init (q0 : Nat) (cI : ClassId) (u : Nat → Nat) : va_W := [(q0, .inr (3, [.ref (u 1), .int 0])), (u 1, .inl (cI, 4, .inl (fun _ => 0)))]
set_option maxHeartbeats 4000000 in
set_option maxRecDepth 100000 in
theorem c_O_init_ok (l : Launch) (dC : Nat → ClassId) (dI : Nat → Nat → Nat) (cI : ClassId) (q0 sz : Nat) : Met l y_O_init w_O_init ({ frames := 1, cells := 1, slots := 4, locals := 12 }) (va_Pc [.ref q0] (fun U => U.heap.size = sz ∧ va_P (dC, dI) kls (n_O_init q0) U.heap ∧ va_K (dC, dI) kls (tyC cI) U ∧ va_D (fun _ => True) (n_O_init q0))) (va_Qv (fun (u : Nat → Nat) => True) (fun (u : Nat → Nat) (t : State) => va_P (dC, dI) kls (e_O_init q0 cI u) t.heap ∧ va_K (dC, dI) kls (tyC cI) t ∧ va_D (va_A (n_O_init q0) sz) (e_O_init q0 cI u)) (va_A (n_O_init q0) sz)) 1 4 (va_A (n_O_init q0) sz) := by
  refine Met.ofW (cc := c_O_init) (maxL := 1) (ret := none) (by decide) rfl ?_
  intro p e s m args below meth c s₁ B hml hv
  obtain ⟨rfl, hsz, hP, hK, hD0⟩ := hv
  have hx := B.exec
  have hb := B.bytes
  have hr := B.returns
  have hts := atoms_spec (ws := w_O_init) B.pre
  have hk : ∀ w ∈ wCw, w.before _ s = true := fun w h => hts w (List.mem_cons_of_mem _ h)
  have hown : s.vm.findClass R_O = some m.cls := findClass_of_methodNamed B.named
  have hin : meth.name = "<init>" := (name_of_methodNamed B.named B.method).1
  subst hsz
  have hD := hD0.self (sz := s.heap.size)
  generalize hAe : va_A (n_O_init q0) s.heap.size = A at hD ⊢
  have hA : ∀ q : Nat, s.heap.size ≤ q → A q := fun q h => by rw [← hAe]; exact Or.inr h
  have hS : va_S A s.heap s.heap [] := va_S.rf
  have hl := lv_entry ([.ref q0]) (n := 1) (Nat.le_of_ble_eq_true rfl)
  rw [lg_entry_eq]
  generalize (lg_sl ([.ref q0]) ++ List.replicate (1 - (lg_sl ([.ref q0])).length) Slot.unset).toArray = ls at hl ⊢
  have hl : lv_has ls 1 [(0, .ref q0)] := hl
  refine lv_aload_n hx hb d_O_init_0 rfl (lv_at hl 0 rfl) ?_
  refine W.objInit hx hb hown (hk _ k_C_62) (hk _ k_C_11) (hk _ k_C_12) rfl (by rw [hml]; exact hl.1) rfl d_O_init_1 (Nat.le_of_ble_eq_true rfl) (Nat.le_of_ble_eq_true rfl) ?_
  refine W.eq (g2 := F0 m 4 ls []) rfl ?_
  refine lv_aload_n hx hb d_O_init_4 rfl (lv_at hl 0 rfl) ?_
  refine lv_iconst (v := nI 4) hx hb d_O_init_5 (by decide +kernel) ?_
  refine va_newa (atype := .int) (ty := .int) (N' := 4) (a0 := (4, .inl (fun _ => 0))) hx hb (hk _ k_C_39) rfl hK hP hD hS hA (fun cA => rfl) (by decide +kernel) (by decide +kernel) (Nat.le_of_ble_eq_true rfl) (Nat.le_of_ble_eq_true rfl) (Nat.le_of_ble_eq_true rfl) d_O_init_6 (fun q1 cA H hKa hP hD hS => ?_)
  have e9 : cI = cA := Option.some.inj ((show s.vm.findClass _ = some cI from (hK.2 0 _ rfl).2).symm.trans (hKa.2 1 _ rfl).2)
  subst e9
  have hP : va_P (dC, dI) kls ([(q0, .inr (3, [.null, .int 0])), (q1, .inl (cI, 4, .inl (fun _ => 0)))]) H := hP
  have hD : va_D A ([(q0, .inr (3, [.null, .int 0])), (q1, .inl (cI, 4, .inl (fun _ => 0)))]) := hD
  refine W.widen (k := 1) (n := 4) (Nat.le_of_ble_eq_true rfl) (Nat.le_of_ble_eq_true rfl) ?_
  refine va_putF (D := (dC, dI)) (ci := 3) (v := .ref q1) (ty := .array .int) (C := R_O) (T := F_O) (N := 2) hx hb hk k_f_O t_O t_O_ok n_O hown hK hP hD hS 0 rfl rfl 0 (by decide) (hk _ k_C_63) (fun _ h9 => h9) rfl hin rfl (by decide +kernel) rfl rfl (Nat.le_of_ble_eq_true rfl) d_O_init_8 (fun H locs hP hD hS => ?_)
  have hP : va_P (dC, dI) kls ([(q0, .inr (3, [.ref q1, .int 0])), (q1, .inl (cI, 4, .inl (fun _ => 0)))]) H := hP
  have hD : va_D A ([(q0, .inr (3, [.ref q1, .int 0])), (q1, .inl (cI, 4, .inl (fun _ => 0)))]) := hD
  exact W.vret hx hb hr (fun t ht hW => ⟨⟨(fun k => [q0, q1].getD k 0), rfl, trivial, by rw [ht]; exact hP, va_K.moved hW.alike hK, hD⟩, hS.F ht⟩) hS.2.2 d_O_init_11
abbrev n_M_init (q0 : Nat) : va_W := [(q0, .inr (0, [.int 0, .int 0, .int 0, .null, .null, .null, .null, .int 0, .null, .null, .null, .null, .null, .null, .null, .null, .null, .null]))]
abbrev e_M_init (q0 : Nat) (cI cZ : ClassId) (u : Nat → Nat) : va_W := [(q0, .inr (0, [.int 0, .int 0, .int 0, .ref (u 1), .ref (u 2), .ref (u 3), .ref (u 4), .int 0, .ref (u 5), .ref (u 6), .ref (u 7), .ref (u 8), .ref (u 9), .ref (u 10), .ref (u 11), .ref (u 12), .ref (u 13), .ref (u 14)])), (u 1, .inl (cI, 10, .inl (fun _ => 0))), (u 2, .inl (cI, 20, .inl (fun _ => 0))), (u 3, .inl (cI, 20, .inl (fun _ => 0))), (u 4, .inl (cI, 20, .inl (fun _ => 0))), (u 5, .inl (cI, 801, .inl (fun _ => 0))), (u 6, .inl (cI, 801, .inl (fun _ => 0))), (u 7, .inl (cI, 801, .inl (fun _ => 0))), (u 8, .inl (cI, 801, .inl (fun _ => 0))), (u 9, .inl (cI, 801, .inl (fun _ => 0))), (u 10, .inl (cI, 801, .inl (fun _ => 0))), (u 11, .inl (cZ, 4, .inl (fun _ => 0))), (u 12, .inl (cZ, 20, .inl (fun _ => 0))), (u 13, .inl (cI, 4, .inl (fun _ => 0))), (u 14, .inl (cI, 801, .inl (fun _ => 0)))]
set_option maxHeartbeats 4000000 in
set_option maxRecDepth 100000 in
theorem c_M_init_ok (l : Launch) (dC : Nat → ClassId) (dI : Nat → Nat → Nat) (cI cZ : ClassId) (q0 sz : Nat) : Met l y_M_init w_M_init ({ frames := 1, cells := 14, slots := 5705, locals := 12 }) (va_Pc [.ref q0] (fun U => U.heap.size = sz ∧ va_P (dC, dI) kls (n_M_init q0) U.heap ∧ va_K (dC, dI) kls (tyM cI cZ) U ∧ va_D (fun _ => True) (n_M_init q0))) (va_Qv (fun (u : Nat → Nat) => True) (fun (u : Nat → Nat) (t : State) => va_P (dC, dI) kls (e_M_init q0 cI cZ u) t.heap ∧ va_K (dC, dI) kls (tyM cI cZ) t ∧ va_D (va_A (n_M_init q0) sz) (e_M_init q0 cI cZ u)) (va_A (n_M_init q0) sz)) 14 5705 (va_A (n_M_init q0) sz) := by
  refine Met.ofW (cc := c_M_init) (maxL := 1) (ret := none) (by decide) rfl ?_
  intro p e s m args below meth c s₁ B hml hv
  obtain ⟨rfl, hsz, hP, hK, hD0⟩ := hv
  have hx := B.exec
  have hb := B.bytes
  have hr := B.returns
  have hts := atoms_spec (ws := w_M_init) B.pre
  have hk : ∀ w ∈ wMw, w.before _ s = true := fun w h => hts w (List.mem_cons_of_mem _ h)
  have hown : s.vm.findClass R_M = some m.cls := findClass_of_methodNamed B.named
  have hin : meth.name = "<init>" := (name_of_methodNamed B.named B.method).1
  subst hsz
  have hD := hD0.self (sz := s.heap.size)
  generalize hAe : va_A (n_M_init q0) s.heap.size = A at hD ⊢
  have hA : ∀ q : Nat, s.heap.size ≤ q → A q := fun q h => by rw [← hAe]; exact Or.inr h
  have hS : va_S A s.heap s.heap [] := va_S.rf
  have hl := lv_entry ([.ref q0]) (n := 1) (Nat.le_of_ble_eq_true rfl)
  rw [lg_entry_eq]
  generalize (lg_sl ([.ref q0]) ++ List.replicate (1 - (lg_sl ([.ref q0])).length) Slot.unset).toArray = ls at hl ⊢
  have hl : lv_has ls 1 [(0, .ref q0)] := hl
  refine lv_aload_n hx hb d_M_init_0 rfl (lv_at hl 0 rfl) ?_
  refine W.objInit hx hb hown (hk _ k_M_7) (hk _ k_M_1) (hk _ k_M_2) rfl (by rw [hml]; exact hl.1) rfl d_M_init_1 (Nat.le_of_ble_eq_true rfl) (Nat.le_of_ble_eq_true rfl) ?_
  refine W.eq (g2 := F0 m 4 ls []) rfl ?_
  refine lv_aload_n hx hb d_M_init_4 rfl (lv_at hl 0 rfl) ?_
  refine lv_bipush (v := nI 10) hx hb d_M_init_5 (by decide +kernel) ?_
  refine va_newa (atype := .int) (ty := .int) (N' := 10) (a0 := (10, .inl (fun _ => 0))) hx hb (hk _ k_M_3) rfl hK hP hD hS hA (fun cA => rfl) (by decide +kernel) (by decide +kernel) (Nat.le_of_ble_eq_true rfl) (Nat.le_of_ble_eq_true rfl) (Nat.le_of_ble_eq_true rfl) d_M_init_7 (fun q1 cA H hKa hP hD hS => ?_)
  have e9 : cI = cA := Option.some.inj ((show s.vm.findClass _ = some cI from (hK.2 0 _ rfl).2).symm.trans (hKa.2 2 _ rfl).2)
  subst e9
  have hP : va_P (dC, dI) kls ([(q0, .inr (0, [.int 0, .int 0, .int 0, .null, .null, .null, .null, .int 0, .null, .null, .null, .null, .null, .null, .null, .null, .null, .null])), (q1, .inl (cI, 10, .inl (fun _ => 0)))]) H := hP
  have hD : va_D A ([(q0, .inr (0, [.int 0, .int 0, .int 0, .null, .null, .null, .null, .int 0, .null, .null, .null, .null, .null, .null, .null, .null, .null, .null])), (q1, .inl (cI, 10, .inl (fun _ => 0)))]) := hD
  refine W.widen (k := 1) (n := 10) (Nat.le_of_ble_eq_true rfl) (Nat.le_of_ble_eq_true rfl) ?_
  refine va_putF (D := (dC, dI)) (ci := 0) (v := .ref q1) (ty := .array .int) (C := R_M) (T := F_M) (N := 18) hx hb hk k_M_f t_M t_M_ok n_M hown hK hP hD hS 0 rfl rfl 3 (by decide) (hk _ k_M_11) (fun _ h9 => h9) rfl hin rfl (by decide +kernel) rfl rfl (Nat.le_of_ble_eq_true rfl) d_M_init_9 (fun H locs hP hD hS => ?_)
  have hP : va_P (dC, dI) kls ([(q0, .inr (0, [.int 0, .int 0, .int 0, .ref q1, .null, .null, .null, .int 0, .null, .null, .null, .null, .null, .null, .null, .null, .null, .null])), (q1, .inl (cI, 10, .inl (fun _ => 0)))]) H := hP
  have hD : va_D A ([(q0, .inr (0, [.int 0, .int 0, .int 0, .ref q1, .null, .null, .null, .int 0, .null, .null, .null, .null, .null, .null, .null, .null, .null, .null])), (q1, .inl (cI, 10, .inl (fun _ => 0)))]) := hD
  refine lv_aload_n hx hb d_M_init_12 rfl (lv_at hl 0 rfl) ?_
  refine lv_bipush (v := nI 20) hx hb d_M_init_13 (by decide +kernel) ?_
  refine va_newa (atype := .int) (ty := .int) (N' := 20) (a0 := (20, .inl (fun _ => 0))) hx hb (hk _ k_M_3) rfl hK hP hD hS hA (fun cA => rfl) (by decide +kernel) (by decide +kernel) (Nat.le_of_ble_eq_true rfl) (Nat.le_of_ble_eq_true rfl) (Nat.le_of_ble_eq_true rfl) d_M_init_15 (fun q2 cA H hKa hP hD hS => ?_)
  have e9 : cI = cA := Option.some.inj ((show s.vm.findClass _ = some cI from (hK.2 0 _ rfl).2).symm.trans (hKa.2 2 _ rfl).2)
  subst e9
  have hP : va_P (dC, dI) kls ([(q0, .inr (0, [.int 0, .int 0, .int 0, .ref q1, .null, .null, .null, .int 0, .null, .null, .null, .null, .null, .null, .null, .null, .null, .null])), (q1, .inl (cI, 10, .inl (fun _ => 0))), (q2, .inl (cI, 20, .inl (fun _ => 0)))]) H := hP
  have hD : va_D A ([(q0, .inr (0, [.int 0, .int 0, .int 0, .ref q1, .null, .null, .null, .int 0, .null, .null, .null, .null, .null, .null, .null, .null, .null, .null])), (q1, .inl (cI, 10, .inl (fun _ => 0))), (q2, .inl (cI, 20, .inl (fun _ => 0)))]) := hD
  refine W.widen (k := 2) (n := 30) (Nat.le_of_ble_eq_true rfl) (Nat.le_of_ble_eq_true rfl) ?_
  refine va_putF (D := (dC, dI)) (ci := 0) (v := .ref q2) (ty := .array .int) (C := R_M) (T := F_M) (N := 18) hx hb hk k_M_f t_M t_M_ok n_M hown hK hP hD hS 0 rfl rfl 4 (by decide) (hk _ k_M_12) (fun _ h9 => h9) rfl hin rfl (by decide +kernel) rfl rfl (Nat.le_of_ble_eq_true rfl) d_M_init_17 (fun H locs hP hD hS => ?_)
  have hP : va_P (dC, dI) kls ([(q0, .inr (0, [.int 0, .int 0, .int 0, .ref q1, .ref q2, .null, .null, .int 0, .null, .null, .null, .null, .null, .null, .null, .null, .null, .null])), (q1, .inl (cI, 10, .inl (fun _ => 0))), (q2, .inl (cI, 20, .inl (fun _ => 0)))]) H := hP
  have hD : va_D A ([(q0, .inr (0, [.int 0, .int 0, .int 0, .ref q1, .ref q2, .null, .null, .int 0, .null, .null, .null, .null, .null, .null, .null, .null, .null, .null])), (q1, .inl (cI, 10, .inl (fun _ => 0))), (q2, .inl (cI, 20, .inl (fun _ => 0)))]) := hD
  refine lv_aload_n hx hb d_M_init_20 rfl (lv_at hl 0 rfl) ?_
  refine lv_bipush (v := nI 20) hx hb d_M_init_21 (by decide +kernel) ?_
  refine va_newa (atype := .int) (ty := .int) (N' := 20) (a0 := (20, .inl (fun _ => 0))) hx hb (hk _ k_M_3) rfl hK hP hD hS hA (fun cA => rfl) (by decide +kernel) (by decide +kernel) (Nat.le_of_ble_eq_true rfl) (Nat.le_of_ble_eq_true rfl) (Nat.le_of_ble_eq_true rfl) d_M_init_23 (fun q3 cA H hKa hP hD hS => ?_)
  have e9 : cI = cA := Option.some.inj ((show s.vm.findClass _ = some cI from (hK.2 0 _ rfl).2).symm.trans (hKa.2 2 _ rfl).2)
  subst e9
  have hP : va_P (dC, dI) kls ([(q0, .inr (0, [.int 0, .int 0, .int 0, .ref q1, .ref q2, .null, .null, .int 0, .null, .null, .null, .null, .null, .null, .null, .null, .null, .null])), (q1, .inl (cI, 10, .inl (fun _ => 0))), (q2, .inl (cI, 20, .inl (fun _ => 0))), (q3, .inl (cI, 20, .inl (fun _ => 0)))]) H := hP
  have hD : va_D A ([(q0, .inr (0, [.int 0, .int 0, .int 0, .ref q1, .ref q2, .null, .null, .int 0, .null, .null, .null, .null, .null, .null, .null, .null, .null, .null])), (q1, .inl (cI, 10, .inl (fun _ => 0))), (q2, .inl (cI, 20, .inl (fun _ => 0))), (q3, .inl (cI, 20, .inl (fun _ => 0)))]) := hD
  refine W.widen (k := 3) (n := 50) (Nat.le_of_ble_eq_true rfl) (Nat.le_of_ble_eq_true rfl) ?_
  refine va_putF (D := (dC, dI)) (ci := 0) (v := .ref q3) (ty := .array .int) (C := R_M) (T := F_M) (N := 18) hx hb hk k_M_f t_M t_M_ok n_M hown hK hP hD hS 0 rfl rfl 5 (by decide) (hk _ k_M_13) (fun _ h9 => h9) rfl hin rfl (by decide +kernel) rfl rfl (Nat.le_of_ble_eq_true rfl) d_M_init_25 (fun H locs hP hD hS => ?_)
  have hP : va_P (dC, dI) kls ([(q0, .inr (0, [.int 0, .int 0, .int 0, .ref q1, .ref q2, .ref q3, .null, .int 0, .null, .null, .null, .null, .null, .null, .null, .null, .null, .null])), (q1, .inl (cI, 10, .inl (fun _ => 0))), (q2, .inl (cI, 20, .inl (fun _ => 0))), (q3, .inl (cI, 20, .inl (fun _ => 0)))]) H := hP
  have hD : va_D A ([(q0, .inr (0, [.int 0, .int 0, .int 0, .ref q1, .ref q2, .ref q3, .null, .int 0, .null, .null, .null, .null, .null, .null, .null, .null, .null, .null])), (q1, .inl (cI, 10, .inl (fun _ => 0))), (q2, .inl (cI, 20, .inl (fun _ => 0))), (q3, .inl (cI, 20, .inl (fun _ => 0)))]) := hD
  refine lv_aload_n hx hb d_M_init_28 rfl (lv_at hl 0 rfl) ?_
  refine lv_bipush (v := nI 20) hx hb d_M_init_29 (by decide +kernel) ?_
  refine va_newa (atype := .int) (ty := .int) (N' := 20) (a0 := (20, .inl (fun _ => 0))) hx hb (hk _ k_M_3) rfl hK hP hD hS hA (fun cA => rfl) (by decide +kernel) (by decide +kernel) (Nat.le_of_ble_eq_true rfl) (Nat.le_of_ble_eq_true rfl) (Nat.le_of_ble_eq_true rfl) d_M_init_31 (fun q4 cA H hKa hP hD hS => ?_)
  have e9 : cI = cA := Option.some.inj ((show s.vm.findClass _ = some cI from (hK.2 0 _ rfl).2).symm.trans (hKa.2 2 _ rfl).2)
  subst e9
  have hP : va_P (dC, dI) kls ([(q0, .inr (0, [.int 0, .int 0, .int 0, .ref q1, .ref q2, .ref q3, .null, .int 0, .null, .null, .null, .null, .null, .null, .null, .null, .null, .null])), (q1, .inl (cI, 10, .inl (fun _ => 0))), (q2, .inl (cI, 20, .inl (fun _ => 0))), (q3, .inl (cI, 20, .inl (fun _ => 0))), (q4, .inl (cI, 20, .inl (fun _ => 0)))]) H := hP
  have hD : va_D A ([(q0, .inr (0, [.int 0, .int 0, .int 0, .ref q1, .ref q2, .ref q3, .null, .int 0, .null, .null, .null, .null, .null, .null, .null, .null, .null, .null])), (q1, .inl (cI, 10, .inl (fun _ => 0))), (q2, .inl (cI, 20, .inl (fun _ => 0))), (q3, .inl (cI, 20, .inl (fun _ => 0))), (q4, .inl (cI, 20, .inl (fun _ => 0)))]) := hD
  refine W.widen (k := 4) (n := 70) (Nat.le_of_ble_eq_true rfl) (Nat.le_of_ble_eq_true rfl) ?_
  refine va_putF (D := (dC, dI)) (ci := 0) (v := .ref q4) (ty := .array .int) (C := R_M) (T := F_M) (N := 18) hx hb hk k_M_f t_M t_M_ok n_M hown hK hP hD hS 0 rfl rfl 6 (by decide) (hk _ k_M_14) (fun _ h9 => h9) rfl hin rfl (by decide +kernel) rfl rfl (Nat.le_of_ble_eq_true rfl) d_M_init_33 (fun H locs hP hD hS => ?_)
  have hP : va_P (dC, dI) kls ([(q0, .inr (0, [.int 0, .int 0, .int 0, .ref q1, .ref q2, .ref q3, .ref q4, .int 0, .null, .null, .null, .null, .null, .null, .null, .null, .null, .null])), (q1, .inl (cI, 10, .inl (fun _ => 0))), (q2, .inl (cI, 20, .inl (fun _ => 0))), (q3, .inl (cI, 20, .inl (fun _ => 0))), (q4, .inl (cI, 20, .inl (fun _ => 0)))]) H := hP
  have hD : va_D A ([(q0, .inr (0, [.int 0, .int 0, .int 0, .ref q1, .ref q2, .ref q3, .ref q4, .int 0, .null, .null, .null, .null, .null, .null, .null, .null, .null, .null])), (q1, .inl (cI, 10, .inl (fun _ => 0))), (q2, .inl (cI, 20, .inl (fun _ => 0))), (q3, .inl (cI, 20, .inl (fun _ => 0))), (q4, .inl (cI, 20, .inl (fun _ => 0)))]) := hD
  refine lv_aload_n hx hb d_M_init_36 rfl (lv_at hl 0 rfl) ?_
  refine lv_sipush (v := nI 801) hx hb d_M_init_37 (by decide +kernel) ?_
  refine va_newa (atype := .int) (ty := .int) (N' := 801) (a0 := (801, .inl (fun _ => 0))) hx hb (hk _ k_M_3) rfl hK hP hD hS hA (fun cA => rfl) (by decide +kernel) (by decide +kernel) (Nat.le_of_ble_eq_true rfl) (Nat.le_of_ble_eq_true rfl) (Nat.le_of_ble_eq_true rfl) d_M_init_40 (fun q5 cA H hKa hP hD hS => ?_)
  have e9 : cI = cA := Option.some.inj ((show s.vm.findClass _ = some cI from (hK.2 0 _ rfl).2).symm.trans (hKa.2 2 _ rfl).2)
  subst e9
  have hP : va_P (dC, dI) kls ([(q0, .inr (0, [.int 0, .int 0, .int 0, .ref q1, .ref q2, .ref q3, .ref q4, .int 0, .null, .null, .null, .null, .null, .null, .null, .null, .null, .null])), (q1, .inl (cI, 10, .inl (fun _ => 0))), (q2, .inl (cI, 20, .inl (fun _ => 0))), (q3, .inl (cI, 20, .inl (fun _ => 0))), (q4, .inl (cI, 20, .inl (fun _ => 0))), (q5, .inl (cI, 801, .inl (fun _ => 0)))]) H := hP
  have hD : va_D A ([(q0, .inr (0, [.int 0, .int 0, .int 0, .ref q1, .ref q2, .ref q3, .ref q4, .int 0, .null, .null, .null, .null, .null, .null, .null, .null, .null, .null])), (q1, .inl (cI, 10, .inl (fun _ => 0))), (q2, .inl (cI, 20, .inl (fun _ => 0))), (q3, .inl (cI, 20, .inl (fun _ => 0))), (q4, .inl (cI, 20, .inl (fun _ => 0))), (q5, .inl (cI, 801, .inl (fun _ => 0)))]) := hD
  refine W.widen (k := 5) (n := 871) (Nat.le_of_ble_eq_true rfl) (Nat.le_of_ble_eq_true rfl) ?_
  refine va_putF (D := (dC, dI)) (ci := 0) (v := .ref q5) (ty := .array .int) (C := R_M) (T := F_M) (N := 18) hx hb hk k_M_f t_M t_M_ok n_M hown hK hP hD hS 0 rfl rfl 8 (by decide) (hk _ k_M_16) (fun _ h9 => h9) rfl hin rfl (by decide +kernel) rfl rfl (Nat.le_of_ble_eq_true rfl) d_M_init_42 (fun H locs hP hD hS => ?_)
  have hP : va_P (dC, dI) kls ([(q0, .inr (0, [.int 0, .int 0, .int 0, .ref q1, .ref q2, .ref q3, .ref q4, .int 0, .ref q5, .null, .null, .null, .null, .null, .null, .null, .null, .null])), (q1, .inl (cI, 10, .inl (fun _ => 0))), (q2, .inl (cI, 20, .inl (fun _ => 0))), (q3, .inl (cI, 20, .inl (fun _ => 0))), (q4, .inl (cI, 20, .inl (fun _ => 0))), (q5, .inl (cI, 801, .inl (fun _ => 0)))]) H := hP
  have hD : va_D A ([(q0, .inr (0, [.int 0, .int 0, .int 0, .ref q1, .ref q2, .ref q3, .ref q4, .int 0, .ref q5, .null, .null, .null, .null, .null, .null, .null, .null, .null])), (q1, .inl (cI, 10, .inl (fun _ => 0))), (q2, .inl (cI, 20, .inl (fun _ => 0))), (q3, .inl (cI, 20, .inl (fun _ => 0))), (q4, .inl (cI, 20, .inl (fun _ => 0))), (q5, .inl (cI, 801, .inl (fun _ => 0)))]) := hD
  refine lv_aload_n hx hb d_M_init_45 rfl (lv_at hl 0 rfl) ?_
  refine lv_sipush (v := nI 801) hx hb d_M_init_46 (by decide +kernel) ?_
  refine va_newa (atype := .int) (ty := .int) (N' := 801) (a0 := (801, .inl (fun _ => 0))) hx hb (hk _ k_M_3) rfl hK hP hD hS hA (fun cA => rfl) (by decide +kernel) (by decide +kernel) (Nat.le_of_ble_eq_true rfl) (Nat.le_of_ble_eq_true rfl) (Nat.le_of_ble_eq_true rfl) d_M_init_49 (fun q6 cA H hKa hP hD hS => ?_)
  have e9 : cI = cA := Option.some.inj ((show s.vm.findClass _ = some cI from (hK.2 0 _ rfl).2).symm.trans (hKa.2 2 _ rfl).2)
  subst e9
  have hP : va_P (dC, dI) kls ([(q0, .inr (0, [.int 0, .int 0, .int 0, .ref q1, .ref q2, .ref q3, .ref q4, .int 0, .ref q5, .null, .null, .null, .null, .null, .null, .null, .null, .null])), (q1, .inl (cI, 10, .inl (fun _ => 0))), (q2, .inl (cI, 20, .inl (fun _ => 0))), (q3, .inl (cI, 20, .inl (fun _ => 0))), (q4, .inl (cI, 20, .inl (fun _ => 0))), (q5, .inl (cI, 801, .inl (fun _ => 0))), (q6, .inl (cI, 801, .inl (fun _ => 0)))]) H := hP
  have hD : va_D A ([(q0, .inr (0, [.int 0, .int 0, .int 0, .ref q1, .ref q2, .ref q3, .ref q4, .int 0, .ref q5, .null, .null, .null, .null, .null, .null, .null, .null, .null])), (q1, .inl (cI, 10, .inl (fun _ => 0))), (q2, .inl (cI, 20, .inl (fun _ => 0))), (q3, .inl (cI, 20, .inl (fun _ => 0))), (q4, .inl (cI, 20, .inl (fun _ => 0))), (q5, .inl (cI, 801, .inl (fun _ => 0))), (q6, .inl (cI, 801, .inl (fun _ => 0)))]) := hD
  refine W.widen (k := 6) (n := 1672) (Nat.le_of_ble_eq_true rfl) (Nat.le_of_ble_eq_true rfl) ?_
  refine va_putF (D := (dC, dI)) (ci := 0) (v := .ref q6) (ty := .array .int) (C := R_M) (T := F_M) (N := 18) hx hb hk k_M_f t_M t_M_ok n_M hown hK hP hD hS 0 rfl rfl 9 (by decide) (hk _ k_M_17) (fun _ h9 => h9) rfl hin rfl (by decide +kernel) rfl rfl (Nat.le_of_ble_eq_true rfl) d_M_init_51 (fun H locs hP hD hS => ?_)
  have hP : va_P (dC, dI) kls ([(q0, .inr (0, [.int 0, .int 0, .int 0, .ref q1, .ref q2, .ref q3, .ref q4, .int 0, .ref q5, .ref q6, .null, .null, .null, .null, .null, .null, .null, .null])), (q1, .inl (cI, 10, .inl (fun _ => 0))), (q2, .inl (cI, 20, .inl (fun _ => 0))), (q3, .inl (cI, 20, .inl (fun _ => 0))), (q4, .inl (cI, 20, .inl (fun _ => 0))), (q5, .inl (cI, 801, .inl (fun _ => 0))), (q6, .inl (cI, 801, .inl (fun _ => 0)))]) H := hP
  have hD : va_D A ([(q0, .inr (0, [.int 0, .int 0, .int 0, .ref q1, .ref q2, .ref q3, .ref q4, .int 0, .ref q5, .ref q6, .null, .null, .null, .null, .null, .null, .null, .null])), (q1, .inl (cI, 10, .inl (fun _ => 0))), (q2, .inl (cI, 20, .inl (fun _ => 0))), (q3, .inl (cI, 20, .inl (fun _ => 0))), (q4, .inl (cI, 20, .inl (fun _ => 0))), (q5, .inl (cI, 801, .inl (fun _ => 0))), (q6, .inl (cI, 801, .inl (fun _ => 0)))]) := hD
  refine lv_aload_n hx hb d_M_init_54 rfl (lv_at hl 0 rfl) ?_
  refine lv_sipush (v := nI 801) hx hb d_M_init_55 (by decide +kernel) ?_
  refine va_newa (atype := .int) (ty := .int) (N' := 801) (a0 := (801, .inl (fun _ => 0))) hx hb (hk _ k_M_3) rfl hK hP hD hS hA (fun cA => rfl) (by decide +kernel) (by decide +kernel) (Nat.le_of_ble_eq_true rfl) (Nat.le_of_ble_eq_true rfl) (Nat.le_of_ble_eq_true rfl) d_M_init_58 (fun q7 cA H hKa hP hD hS => ?_)
  have e9 : cI = cA := Option.some.inj ((show s.vm.findClass _ = some cI from (hK.2 0 _ rfl).2).symm.trans (hKa.2 2 _ rfl).2)
  subst e9
  have hP : va_P (dC, dI) kls ([(q0, .inr (0, [.int 0, .int 0, .int 0, .ref q1, .ref q2, .ref q3, .ref q4, .int 0, .ref q5, .ref q6, .null, .null, .null, .null, .null, .null, .null, .null])), (q1, .inl (cI, 10, .inl (fun _ => 0))), (q2, .inl (cI, 20, .inl (fun _ => 0))), (q3, .inl (cI, 20, .inl (fun _ => 0))), (q4, .inl (cI, 20, .inl (fun _ => 0))), (q5, .inl (cI, 801, .inl (fun _ => 0))), (q6, .inl (cI, 801, .inl (fun _ => 0))), (q7, .inl (cI, 801, .inl (fun _ => 0)))]) H := hP
  have hD : va_D A ([(q0, .inr (0, [.int 0, .int 0, .int 0, .ref q1, .ref q2, .ref q3, .ref q4, .int 0, .ref q5, .ref q6, .null, .null, .null, .null, .null, .null, .null, .null])), (q1, .inl (cI, 10, .inl (fun _ => 0))), (q2, .inl (cI, 20, .inl (fun _ => 0))), (q3, .inl (cI, 20, .inl (fun _ => 0))), (q4, .inl (cI, 20, .inl (fun _ => 0))), (q5, .inl (cI, 801, .inl (fun _ => 0))), (q6, .inl (cI, 801, .inl (fun _ => 0))), (q7, .inl (cI, 801, .inl (fun _ => 0)))]) := hD
  refine W.widen (k := 7) (n := 2473) (Nat.le_of_ble_eq_true rfl) (Nat.le_of_ble_eq_true rfl) ?_
  refine va_putF (D := (dC, dI)) (ci := 0) (v := .ref q7) (ty := .array .int) (C := R_M) (T := F_M) (N := 18) hx hb hk k_M_f t_M t_M_ok n_M hown hK hP hD hS 0 rfl rfl 10 (by decide) (hk _ k_M_18) (fun _ h9 => h9) rfl hin rfl (by decide +kernel) rfl rfl (Nat.le_of_ble_eq_true rfl) d_M_init_60 (fun H locs hP hD hS => ?_)
  have hP : va_P (dC, dI) kls ([(q0, .inr (0, [.int 0, .int 0, .int 0, .ref q1, .ref q2, .ref q3, .ref q4, .int 0, .ref q5, .ref q6, .ref q7, .null, .null, .null, .null, .null, .null, .null])), (q1, .inl (cI, 10, .inl (fun _ => 0))), (q2, .inl (cI, 20, .inl (fun _ => 0))), (q3, .inl (cI, 20, .inl (fun _ => 0))), (q4, .inl (cI, 20, .inl (fun _ => 0))), (q5, .inl (cI, 801, .inl (fun _ => 0))), (q6, .inl (cI, 801, .inl (fun _ => 0))), (q7, .inl (cI, 801, .inl (fun _ => 0)))]) H := hP
  have hD : va_D A ([(q0, .inr (0, [.int 0, .int 0, .int 0, .ref q1, .ref q2, .ref q3, .ref q4, .int 0, .ref q5, .ref q6, .ref q7, .null, .null, .null, .null, .null, .null, .null])), (q1, .inl (cI, 10, .inl (fun _ => 0))), (q2, .inl (cI, 20, .inl (fun _ => 0))), (q3, .inl (cI, 20, .inl (fun _ => 0))), (q4, .inl (cI, 20, .inl (fun _ => 0))), (q5, .inl (cI, 801, .inl (fun _ => 0))), (q6, .inl (cI, 801, .inl (fun _ => 0))), (q7, .inl (cI, 801, .inl (fun _ => 0)))]) := hD
  refine lv_aload_n hx hb d_M_init_63 rfl (lv_at hl 0 rfl) ?_
  refine lv_sipush (v := nI 801) hx hb d_M_init_64 (by decide +kernel) ?_
  refine va_newa (atype := .int) (ty := .int) (N' := 801) (a0 := (801, .inl (fun _ => 0))) hx hb (hk _ k_M_3) rfl hK hP hD hS hA (fun cA => rfl) (by decide +kernel) (by decide +kernel) (Nat.le_of_ble_eq_true rfl) (Nat.le_of_ble_eq_true rfl) (Nat.le_of_ble_eq_true rfl) d_M_init_67 (fun q8 cA H hKa hP hD hS => ?_)
  have e9 : cI = cA := Option.some.inj ((show s.vm.findClass _ = some cI from (hK.2 0 _ rfl).2).symm.trans (hKa.2 2 _ rfl).2)
  subst e9
  have hP : va_P (dC, dI) kls ([(q0, .inr (0, [.int 0, .int 0, .int 0, .ref q1, .ref q2, .ref q3, .ref q4, .int 0, .ref q5, .ref q6, .ref q7, .null, .null, .null, .null, .null, .null, .null])), (q1, .inl (cI, 10, .inl (fun _ => 0))), (q2, .inl (cI, 20, .inl (fun _ => 0))), (q3, .inl (cI, 20, .inl (fun _ => 0))), (q4, .inl (cI, 20, .inl (fun _ => 0))), (q5, .inl (cI, 801, .inl (fun _ => 0))), (q6, .inl (cI, 801, .inl (fun _ => 0))), (q7, .inl (cI, 801, .inl (fun _ => 0))), (q8, .inl (cI, 801, .inl (fun _ => 0)))]) H := hP
  have hD : va_D A ([(q0, .inr (0, [.int 0, .int 0, .int 0, .ref q1, .ref q2, .ref q3, .ref q4, .int 0, .ref q5, .ref q6, .ref q7, .null, .null, .null, .null, .null, .null, .null])), (q1, .inl (cI, 10, .inl (fun _ => 0))), (q2, .inl (cI, 20, .inl (fun _ => 0))), (q3, .inl (cI, 20, .inl (fun _ => 0))), (q4, .inl (cI, 20, .inl (fun _ => 0))), (q5, .inl (cI, 801, .inl (fun _ => 0))), (q6, .inl (cI, 801, .inl (fun _ => 0))), (q7, .inl (cI, 801, .inl (fun _ => 0))), (q8, .inl (cI, 801, .inl (fun _ => 0)))]) := hD
  refine W.widen (k := 8) (n := 3274) (Nat.le_of_ble_eq_true rfl) (Nat.le_of_ble_eq_true rfl) ?_
  refine va_putF (D := (dC, dI)) (ci := 0) (v := .ref q8) (ty := .array .int) (C := R_M) (T := F_M) (N := 18) hx hb hk k_M_f t_M t_M_ok n_M hown hK hP hD hS 0 rfl rfl 11 (by decide) (hk _ k_M_19) (fun _ h9 => h9) rfl hin rfl (by decide +kernel) rfl rfl (Nat.le_of_ble_eq_true rfl) d_M_init_69 (fun H locs hP hD hS => ?_)
  have hP : va_P (dC, dI) kls ([(q0, .inr (0, [.int 0, .int 0, .int 0, .ref q1, .ref q2, .ref q3, .ref q4, .int 0, .ref q5, .ref q6, .ref q7, .ref q8, .null, .null, .null, .null, .null, .null])), (q1, .inl (cI, 10, .inl (fun _ => 0))), (q2, .inl (cI, 20, .inl (fun _ => 0))), (q3, .inl (cI, 20, .inl (fun _ => 0))), (q4, .inl (cI, 20, .inl (fun _ => 0))), (q5, .inl (cI, 801, .inl (fun _ => 0))), (q6, .inl (cI, 801, .inl (fun _ => 0))), (q7, .inl (cI, 801, .inl (fun _ => 0))), (q8, .inl (cI, 801, .inl (fun _ => 0)))]) H := hP
  have hD : va_D A ([(q0, .inr (0, [.int 0, .int 0, .int 0, .ref q1, .ref q2, .ref q3, .ref q4, .int 0, .ref q5, .ref q6, .ref q7, .ref q8, .null, .null, .null, .null, .null, .null])), (q1, .inl (cI, 10, .inl (fun _ => 0))), (q2, .inl (cI, 20, .inl (fun _ => 0))), (q3, .inl (cI, 20, .inl (fun _ => 0))), (q4, .inl (cI, 20, .inl (fun _ => 0))), (q5, .inl (cI, 801, .inl (fun _ => 0))), (q6, .inl (cI, 801, .inl (fun _ => 0))), (q7, .inl (cI, 801, .inl (fun _ => 0))), (q8, .inl (cI, 801, .inl (fun _ => 0)))]) := hD
  refine lv_aload_n hx hb d_M_init_72 rfl (lv_at hl 0 rfl) ?_
  refine lv_sipush (v := nI 801) hx hb d_M_init_73 (by decide +kernel) ?_
  refine va_newa (atype := .int) (ty := .int) (N' := 801) (a0 := (801, .inl (fun _ => 0))) hx hb (hk _ k_M_3) rfl hK hP hD hS hA (fun cA => rfl) (by decide +kernel) (by decide +kernel) (Nat.le_of_ble_eq_true rfl) (Nat.le_of_ble_eq_true rfl) (Nat.le_of_ble_eq_true rfl) d_M_init_76 (fun q9 cA H hKa hP hD hS => ?_)
  have e9 : cI = cA := Option.some.inj ((show s.vm.findClass _ = some cI from (hK.2 0 _ rfl).2).symm.trans (hKa.2 2 _ rfl).2)
  subst e9
  have hP : va_P (dC, dI) kls ([(q0, .inr (0, [.int 0, .int 0, .int 0, .ref q1, .ref q2, .ref q3, .ref q4, .int 0, .ref q5, .ref q6, .ref q7, .ref q8, .null, .null, .null, .null, .null, .null])), (q1, .inl (cI, 10, .inl (fun _ => 0))), (q2, .inl (cI, 20, .inl (fun _ => 0))), (q3, .inl (cI, 20, .inl (fun _ => 0))), (q4, .inl (cI, 20, .inl (fun _ => 0))), (q5, .inl (cI, 801, .inl (fun _ => 0))), (q6, .inl (cI, 801, .inl (fun _ => 0))), (q7, .inl (cI, 801, .inl (fun _ => 0))), (q8, .inl (cI, 801, .inl (fun _ => 0))), (q9, .inl (cI, 801, .inl (fun _ => 0)))]) H := hP
  have hD : va_D A ([(q0, .inr (0, [.int 0, .int 0, .int 0, .ref q1, .ref q2, .ref q3, .ref q4, .int 0, .ref q5, .ref q6, .ref q7, .ref q8, .null, .null, .null, .null, .null, .null])), (q1, .inl (cI, 10, .inl (fun _ => 0))), (q2, .inl (cI, 20, .inl (fun _ => 0))), (q3, .inl (cI, 20, .inl (fun _ => 0))), (q4, .inl (cI, 20, .inl (fun _ => 0))), (q5, .inl (cI, 801, .inl (fun _ => 0))), (q6, .inl (cI, 801, .inl (fun _ => 0))), (q7, .inl (cI, 801, .inl (fun _ => 0))), (q8, .inl (cI, 801, .inl (fun _ => 0))), (q9, .inl (cI, 801, .inl (fun _ => 0)))]) := hD
  refine W.widen (k := 9) (n := 4075) (Nat.le_of_ble_eq_true rfl) (Nat.le_of_ble_eq_true rfl) ?_
  refine va_putF (D := (dC, dI)) (ci := 0) (v := .ref q9) (ty := .array .int) (C := R_M) (T := F_M) (N := 18) hx hb hk k_M_f t_M t_M_ok n_M hown hK hP hD hS 0 rfl rfl 12 (by decide) (hk _ k_M_20) (fun _ h9 => h9) rfl hin rfl (by decide +kernel) rfl rfl (Nat.le_of_ble_eq_true rfl) d_M_init_78 (fun H locs hP hD hS => ?_)
  have hP : va_P (dC, dI) kls ([(q0, .inr (0, [.int 0, .int 0, .int 0, .ref q1, .ref q2, .ref q3, .ref q4, .int 0, .ref q5, .ref q6, .ref q7, .ref q8, .ref q9, .null, .null, .null, .null, .null])), (q1, .inl (cI, 10, .inl (fun _ => 0))), (q2, .inl (cI, 20, .inl (fun _ => 0))), (q3, .inl (cI, 20, .inl (fun _ => 0))), (q4, .inl (cI, 20, .inl (fun _ => 0))), (q5, .inl (cI, 801, .inl (fun _ => 0))), (q6, .inl (cI, 801, .inl (fun _ => 0))), (q7, .inl (cI, 801, .inl (fun _ => 0))), (q8, .inl (cI, 801, .inl (fun _ => 0))), (q9, .inl (cI, 801, .inl (fun _ => 0)))]) H := hP
  have hD : va_D A ([(q0, .inr (0, [.int 0, .int 0, .int 0, .ref q1, .ref q2, .ref q3, .ref q4, .int 0, .ref q5, .ref q6, .ref q7, .ref q8, .ref q9, .null, .null, .null, .null, .null])), (q1, .inl (cI, 10, .inl (fun _ => 0))), (q2, .inl (cI, 20, .inl (fun _ => 0))), (q3, .inl (cI, 20, .inl (fun _ => 0))), (q4, .inl (cI, 20, .inl (fun _ => 0))), (q5, .inl (cI, 801, .inl (fun _ => 0))), (q6, .inl (cI, 801, .inl (fun _ => 0))), (q7, .inl (cI, 801, .inl (fun _ => 0))), (q8, .inl (cI, 801, .inl (fun _ => 0))), (q9, .inl (cI, 801, .inl (fun _ => 0)))]) := hD
  refine lv_aload_n hx hb d_M_init_81 rfl (lv_at hl 0 rfl) ?_
  refine lv_sipush (v := nI 801) hx hb d_M_init_82 (by decide +kernel) ?_
  refine va_newa (atype := .int) (ty := .int) (N' := 801) (a0 := (801, .inl (fun _ => 0))) hx hb (hk _ k_M_3) rfl hK hP hD hS hA (fun cA => rfl) (by decide +kernel) (by decide +kernel) (Nat.le_of_ble_eq_true rfl) (Nat.le_of_ble_eq_true rfl) (Nat.le_of_ble_eq_true rfl) d_M_init_85 (fun q10 cA H hKa hP hD hS => ?_)
  have e9 : cI = cA := Option.some.inj ((show s.vm.findClass _ = some cI from (hK.2 0 _ rfl).2).symm.trans (hKa.2 2 _ rfl).2)
  subst e9
  have hP : va_P (dC, dI) kls ([(q0, .inr (0, [.int 0, .int 0, .int 0, .ref q1, .ref q2, .ref q3, .ref q4, .int 0, .ref q5, .ref q6, .ref q7, .ref q8, .ref q9, .null, .null, .null, .null, .null])), (q1, .inl (cI, 10, .inl (fun _ => 0))), (q2, .inl (cI, 20, .inl (fun _ => 0))), (q3, .inl (cI, 20, .inl (fun _ => 0))), (q4, .inl (cI, 20, .inl (fun _ => 0))), (q5, .inl (cI, 801, .inl (fun _ => 0))), (q6, .inl (cI, 801, .inl (fun _ => 0))), (q7, .inl (cI, 801, .inl (fun _ => 0))), (q8, .inl (cI, 801, .inl (fun _ => 0))), (q9, .inl (cI, 801, .inl (fun _ => 0))), (q10, .inl (cI, 801, .inl (fun _ => 0)))]) H := hP
  have hD : va_D A ([(q0, .inr (0, [.int 0, .int 0, .int 0, .ref q1, .ref q2, .ref q3, .ref q4, .int 0, .ref q5, .ref q6, .ref q7, .ref q8, .ref q9, .null, .null, .null, .null, .null])), (q1, .inl (cI, 10, .inl (fun _ => 0))), (q2, .inl (cI, 20, .inl (fun _ => 0))), (q3, .inl (cI, 20, .inl (fun _ => 0))), (q4, .inl (cI, 20, .inl (fun _ => 0))), (q5, .inl (cI, 801, .inl (fun _ => 0))), (q6, .inl (cI, 801, .inl (fun _ => 0))), (q7, .inl (cI, 801, .inl (fun _ => 0))), (q8, .inl (cI, 801, .inl (fun _ => 0))), (q9, .inl (cI, 801, .inl (fun _ => 0))), (q10, .inl (cI, 801, .inl (fun _ => 0)))]) := hD
  refine W.widen (k := 10) (n := 4876) (Nat.le_of_ble_eq_true rfl) (Nat.le_of_ble_eq_true rfl) ?_
  refine va_putF (D := (dC, dI)) (ci := 0) (v := .ref q10) (ty := .array .int) (C := R_M) (T := F_M) (N := 18) hx hb hk k_M_f t_M t_M_ok n_M hown hK hP hD hS 0 rfl rfl 13 (by decide) (hk _ k_M_21) (fun _ h9 => h9) rfl hin rfl (by decide +kernel) rfl rfl (Nat.le_of_ble_eq_true rfl) d_M_init_87 (fun H locs hP hD hS => ?_)
  have hP : va_P (dC, dI) kls ([(q0, .inr (0, [.int 0, .int 0, .int 0, .ref q1, .ref q2, .ref q3, .ref q4, .int 0, .ref q5, .ref q6, .ref q7, .ref q8, .ref q9, .ref q10, .null, .null, .null, .null])), (q1, .inl (cI, 10, .inl (fun _ => 0))), (q2, .inl (cI, 20, .inl (fun _ => 0))), (q3, .inl (cI, 20, .inl (fun _ => 0))), (q4, .inl (cI, 20, .inl (fun _ => 0))), (q5, .inl (cI, 801, .inl (fun _ => 0))), (q6, .inl (cI, 801, .inl (fun _ => 0))), (q7, .inl (cI, 801, .inl (fun _ => 0))), (q8, .inl (cI, 801, .inl (fun _ => 0))), (q9, .inl (cI, 801, .inl (fun _ => 0))), (q10, .inl (cI, 801, .inl (fun _ => 0)))]) H := hP
  have hD : va_D A ([(q0, .inr (0, [.int 0, .int 0, .int 0, .ref q1, .ref q2, .ref q3, .ref q4, .int 0, .ref q5, .ref q6, .ref q7, .ref q8, .ref q9, .ref q10, .null, .null, .null, .null])), (q1, .inl (cI, 10, .inl (fun _ => 0))), (q2, .inl (cI, 20, .inl (fun _ => 0))), (q3, .inl (cI, 20, .inl (fun _ => 0))), (q4, .inl (cI, 20, .inl (fun _ => 0))), (q5, .inl (cI, 801, .inl (fun _ => 0))), (q6, .inl (cI, 801, .inl (fun _ => 0))), (q7, .inl (cI, 801, .inl (fun _ => 0))), (q8, .inl (cI, 801, .inl (fun _ => 0))), (q9, .inl (cI, 801, .inl (fun _ => 0))), (q10, .inl (cI, 801, .inl (fun _ => 0)))]) := hD
  refine lv_aload_n hx hb d_M_init_90 rfl (lv_at hl 0 rfl) ?_
  refine lv_iconst (v := nI 4) hx hb d_M_init_91 (by decide +kernel) ?_
  refine va_newa (atype := .boolean) (ty := .boolean) (N' := 4) (a0 := (4, .inl (fun _ => 0))) hx hb (hk _ k_M_26) rfl hK hP hD hS hA (fun cA => rfl) (by decide +kernel) (by decide +kernel) (Nat.le_of_ble_eq_true rfl) (Nat.le_of_ble_eq_true rfl) (Nat.le_of_ble_eq_true rfl) d_M_init_92 (fun q11 cA H hKa hP hD hS => ?_)
  have e9 : cZ = cA := Option.some.inj ((show s.vm.findClass _ = some cZ from (hK.2 1 _ rfl).2).symm.trans (hKa.2 2 _ rfl).2)
  subst e9
  have hP : va_P (dC, dI) kls ([(q0, .inr (0, [.int 0, .int 0, .int 0, .ref q1, .ref q2, .ref q3, .ref q4, .int 0, .ref q5, .ref q6, .ref q7, .ref q8, .ref q9, .ref q10, .null, .null, .null, .null])), (q1, .inl (cI, 10, .inl (fun _ => 0))), (q2, .inl (cI, 20, .inl (fun _ => 0))), (q3, .inl (cI, 20, .inl (fun _ => 0))), (q4, .inl (cI, 20, .inl (fun _ => 0))), (q5, .inl (cI, 801, .inl (fun _ => 0))), (q6, .inl (cI, 801, .inl (fun _ => 0))), (q7, .inl (cI, 801, .inl (fun _ => 0))), (q8, .inl (cI, 801, .inl (fun _ => 0))), (q9, .inl (cI, 801, .inl (fun _ => 0))), (q10, .inl (cI, 801, .inl (fun _ => 0))), (q11, .inl (cZ, 4, .inl (fun _ => 0)))]) H := hP
  have hD : va_D A ([(q0, .inr (0, [.int 0, .int 0, .int 0, .ref q1, .ref q2, .ref q3, .ref q4, .int 0, .ref q5, .ref q6, .ref q7, .ref q8, .ref q9, .ref q10, .null, .null, .null, .null])), (q1, .inl (cI, 10, .inl (fun _ => 0))), (q2, .inl (cI, 20, .inl (fun _ => 0))), (q3, .inl (cI, 20, .inl (fun _ => 0))), (q4, .inl (cI, 20, .inl (fun _ => 0))), (q5, .inl (cI, 801, .inl (fun _ => 0))), (q6, .inl (cI, 801, .inl (fun _ => 0))), (q7, .inl (cI, 801, .inl (fun _ => 0))), (q8, .inl (cI, 801, .inl (fun _ => 0))), (q9, .inl (cI, 801, .inl (fun _ => 0))), (q10, .inl (cI, 801, .inl (fun _ => 0))), (q11, .inl (cZ, 4, .inl (fun _ => 0)))]) := hD
  refine W.widen (k := 11) (n := 4880) (Nat.le_of_ble_eq_true rfl) (Nat.le_of_ble_eq_true rfl) ?_
  refine va_putF (D := (dC, dI)) (ci := 0) (v := .ref q11) (ty := .array .boolean) (C := R_M) (T := F_M) (N := 18) hx hb hk k_M_f t_M t_M_ok n_M hown hK hP hD hS 0 rfl rfl 14 (by decide) (hk _ k_M_22) (fun _ h9 => h9) rfl hin rfl (by decide +kernel) rfl rfl (Nat.le_of_ble_eq_true rfl) d_M_init_94 (fun H locs hP hD hS => ?_)
  have hP : va_P (dC, dI) kls ([(q0, .inr (0, [.int 0, .int 0, .int 0, .ref q1, .ref q2, .ref q3, .ref q4, .int 0, .ref q5, .ref q6, .ref q7, .ref q8, .ref q9, .ref q10, .ref q11, .null, .null, .null])), (q1, .inl (cI, 10, .inl (fun _ => 0))), (q2, .inl (cI, 20, .inl (fun _ => 0))), (q3, .inl (cI, 20, .inl (fun _ => 0))), (q4, .inl (cI, 20, .inl (fun _ => 0))), (q5, .inl (cI, 801, .inl (fun _ => 0))), (q6, .inl (cI, 801, .inl (fun _ => 0))), (q7, .inl (cI, 801, .inl (fun _ => 0))), (q8, .inl (cI, 801, .inl (fun _ => 0))), (q9, .inl (cI, 801, .inl (fun _ => 0))), (q10, .inl (cI, 801, .inl (fun _ => 0))), (q11, .inl (cZ, 4, .inl (fun _ => 0)))]) H := hP
  have hD : va_D A ([(q0, .inr (0, [.int 0, .int 0, .int 0, .ref q1, .ref q2, .ref q3, .ref q4, .int 0, .ref q5, .ref q6, .ref q7, .ref q8, .ref q9, .ref q10, .ref q11, .null, .null, .null])), (q1, .inl (cI, 10, .inl (fun _ => 0))), (q2, .inl (cI, 20, .inl (fun _ => 0))), (q3, .inl (cI, 20, .inl (fun _ => 0))), (q4, .inl (cI, 20, .inl (fun _ => 0))), (q5, .inl (cI, 801, .inl (fun _ => 0))), (q6, .inl (cI, 801, .inl (fun _ => 0))), (q7, .inl (cI, 801, .inl (fun _ => 0))), (q8, .inl (cI, 801, .inl (fun _ => 0))), (q9, .inl (cI, 801, .inl (fun _ => 0))), (q10, .inl (cI, 801, .inl (fun _ => 0))), (q11, .inl (cZ, 4, .inl (fun _ => 0)))]) := hD
  refine lv_aload_n hx hb d_M_init_97 rfl (lv_at hl 0 rfl) ?_
  refine lv_bipush (v := nI 20) hx hb d_M_init_98 (by decide +kernel) ?_
  refine va_newa (atype := .boolean) (ty := .boolean) (N' := 20) (a0 := (20, .inl (fun _ => 0))) hx hb (hk _ k_M_26) rfl hK hP hD hS hA (fun cA => rfl) (by decide +kernel) (by decide +kernel) (Nat.le_of_ble_eq_true rfl) (Nat.le_of_ble_eq_true rfl) (Nat.le_of_ble_eq_true rfl) d_M_init_100 (fun q12 cA H hKa hP hD hS => ?_)
  have e9 : cZ = cA := Option.some.inj ((show s.vm.findClass _ = some cZ from (hK.2 1 _ rfl).2).symm.trans (hKa.2 2 _ rfl).2)
  subst e9
  have hP : va_P (dC, dI) kls ([(q0, .inr (0, [.int 0, .int 0, .int 0, .ref q1, .ref q2, .ref q3, .ref q4, .int 0, .ref q5, .ref q6, .ref q7, .ref q8, .ref q9, .ref q10, .ref q11, .null, .null, .null])), (q1, .inl (cI, 10, .inl (fun _ => 0))), (q2, .inl (cI, 20, .inl (fun _ => 0))), (q3, .inl (cI, 20, .inl (fun _ => 0))), (q4, .inl (cI, 20, .inl (fun _ => 0))), (q5, .inl (cI, 801, .inl (fun _ => 0))), (q6, .inl (cI, 801, .inl (fun _ => 0))), (q7, .inl (cI, 801, .inl (fun _ => 0))), (q8, .inl (cI, 801, .inl (fun _ => 0))), (q9, .inl (cI, 801, .inl (fun _ => 0))), (q10, .inl (cI, 801, .inl (fun _ => 0))), (q11, .inl (cZ, 4, .inl (fun _ => 0))), (q12, .inl (cZ, 20, .inl (fun _ => 0)))]) H := hP
  have hD : va_D A ([(q0, .inr (0, [.int 0, .int 0, .int 0, .ref q1, .ref q2, .ref q3, .ref q4, .int 0, .ref q5, .ref q6, .ref q7, .ref q8, .ref q9, .ref q10, .ref q11, .null, .null, .null])), (q1, .inl (cI, 10, .inl (fun _ => 0))), (q2, .inl (cI, 20, .inl (fun _ => 0))), (q3, .inl (cI, 20, .inl (fun _ => 0))), (q4, .inl (cI, 20, .inl (fun _ => 0))), (q5, .inl (cI, 801, .inl (fun _ => 0))), (q6, .inl (cI, 801, .inl (fun _ => 0))), (q7, .inl (cI, 801, .inl (fun _ => 0))), (q8, .inl (cI, 801, .inl (fun _ => 0))), (q9, .inl (cI, 801, .inl (fun _ => 0))), (q10, .inl (cI, 801, .inl (fun _ => 0))), (q11, .inl (cZ, 4, .inl (fun _ => 0))), (q12, .inl (cZ, 20, .inl (fun _ => 0)))]) := hD
  refine W.widen (k := 12) (n := 4900) (Nat.le_of_ble_eq_true rfl) (Nat.le_of_ble_eq_true rfl) ?_
  refine va_putF (D := (dC, dI)) (ci := 0) (v := .ref q12) (ty := .array .boolean) (C := R_M) (T := F_M) (N := 18) hx hb hk k_M_f t_M t_M_ok n_M hown hK hP hD hS 0 rfl rfl 15 (by decide) (hk _ k_M_23) (fun _ h9 => h9) rfl hin rfl (by decide +kernel) rfl rfl (Nat.le_of_ble_eq_true rfl) d_M_init_102 (fun H locs hP hD hS => ?_)
  have hP : va_P (dC, dI) kls ([(q0, .inr (0, [.int 0, .int 0, .int 0, .ref q1, .ref q2, .ref q3, .ref q4, .int 0, .ref q5, .ref q6, .ref q7, .ref q8, .ref q9, .ref q10, .ref q11, .ref q12, .null, .null])), (q1, .inl (cI, 10, .inl (fun _ => 0))), (q2, .inl (cI, 20, .inl (fun _ => 0))), (q3, .inl (cI, 20, .inl (fun _ => 0))), (q4, .inl (cI, 20, .inl (fun _ => 0))), (q5, .inl (cI, 801, .inl (fun _ => 0))), (q6, .inl (cI, 801, .inl (fun _ => 0))), (q7, .inl (cI, 801, .inl (fun _ => 0))), (q8, .inl (cI, 801, .inl (fun _ => 0))), (q9, .inl (cI, 801, .inl (fun _ => 0))), (q10, .inl (cI, 801, .inl (fun _ => 0))), (q11, .inl (cZ, 4, .inl (fun _ => 0))), (q12, .inl (cZ, 20, .inl (fun _ => 0)))]) H := hP
  have hD : va_D A ([(q0, .inr (0, [.int 0, .int 0, .int 0, .ref q1, .ref q2, .ref q3, .ref q4, .int 0, .ref q5, .ref q6, .ref q7, .ref q8, .ref q9, .ref q10, .ref q11, .ref q12, .null, .null])), (q1, .inl (cI, 10, .inl (fun _ => 0))), (q2, .inl (cI, 20, .inl (fun _ => 0))), (q3, .inl (cI, 20, .inl (fun _ => 0))), (q4, .inl (cI, 20, .inl (fun _ => 0))), (q5, .inl (cI, 801, .inl (fun _ => 0))), (q6, .inl (cI, 801, .inl (fun _ => 0))), (q7, .inl (cI, 801, .inl (fun _ => 0))), (q8, .inl (cI, 801, .inl (fun _ => 0))), (q9, .inl (cI, 801, .inl (fun _ => 0))), (q10, .inl (cI, 801, .inl (fun _ => 0))), (q11, .inl (cZ, 4, .inl (fun _ => 0))), (q12, .inl (cZ, 20, .inl (fun _ => 0)))]) := hD
  refine lv_aload_n hx hb d_M_init_105 rfl (lv_at hl 0 rfl) ?_
  refine lv_iconst (v := nI 4) hx hb d_M_init_106 (by decide +kernel) ?_
  refine va_newa (atype := .int) (ty := .int) (N' := 4) (a0 := (4, .inl (fun _ => 0))) hx hb (hk _ k_M_3) rfl hK hP hD hS hA (fun cA => rfl) (by decide +kernel) (by decide +kernel) (Nat.le_of_ble_eq_true rfl) (Nat.le_of_ble_eq_true rfl) (Nat.le_of_ble_eq_true rfl) d_M_init_107 (fun q13 cA H hKa hP hD hS => ?_)
  have e9 : cI = cA := Option.some.inj ((show s.vm.findClass _ = some cI from (hK.2 0 _ rfl).2).symm.trans (hKa.2 2 _ rfl).2)
  subst e9
  have hP : va_P (dC, dI) kls ([(q0, .inr (0, [.int 0, .int 0, .int 0, .ref q1, .ref q2, .ref q3, .ref q4, .int 0, .ref q5, .ref q6, .ref q7, .ref q8, .ref q9, .ref q10, .ref q11, .ref q12, .null, .null])), (q1, .inl (cI, 10, .inl (fun _ => 0))), (q2, .inl (cI, 20, .inl (fun _ => 0))), (q3, .inl (cI, 20, .inl (fun _ => 0))), (q4, .inl (cI, 20, .inl (fun _ => 0))), (q5, .inl (cI, 801, .inl (fun _ => 0))), (q6, .inl (cI, 801, .inl (fun _ => 0))), (q7, .inl (cI, 801, .inl (fun _ => 0))), (q8, .inl (cI, 801, .inl (fun _ => 0))), (q9, .inl (cI, 801, .inl (fun _ => 0))), (q10, .inl (cI, 801, .inl (fun _ => 0))), (q11, .inl (cZ, 4, .inl (fun _ => 0))), (q12, .inl (cZ, 20, .inl (fun _ => 0))), (q13, .inl (cI, 4, .inl (fun _ => 0)))]) H := hP
  have hD : va_D A ([(q0, .inr (0, [.int 0, .int 0, .int 0, .ref q1, .ref q2, .ref q3, .ref q4, .int 0, .ref q5, .ref q6, .ref q7, .ref q8, .ref q9, .ref q10, .ref q11, .ref q12, .null, .null])), (q1, .inl (cI, 10, .inl (fun _ => 0))), (q2, .inl (cI, 20, .inl (fun _ => 0))), (q3, .inl (cI, 20, .inl (fun _ => 0))), (q4, .inl (cI, 20, .inl (fun _ => 0))), (q5, .inl (cI, 801, .inl (fun _ => 0))), (q6, .inl (cI, 801, .inl (fun _ => 0))), (q7, .inl (cI, 801, .inl (fun _ => 0))), (q8, .inl (cI, 801, .inl (fun _ => 0))), (q9, .inl (cI, 801, .inl (fun _ => 0))), (q10, .inl (cI, 801, .inl (fun _ => 0))), (q11, .inl (cZ, 4, .inl (fun _ => 0))), (q12, .inl (cZ, 20, .inl (fun _ => 0))), (q13, .inl (cI, 4, .inl (fun _ => 0)))]) := hD
  refine W.widen (k := 13) (n := 4904) (Nat.le_of_ble_eq_true rfl) (Nat.le_of_ble_eq_true rfl) ?_
  refine va_putF (D := (dC, dI)) (ci := 0) (v := .ref q13) (ty := .array .int) (C := R_M) (T := F_M) (N := 18) hx hb hk k_M_f t_M t_M_ok n_M hown hK hP hD hS 0 rfl rfl 16 (by decide) (hk _ k_M_24) (fun _ h9 => h9) rfl hin rfl (by decide +kernel) rfl rfl (Nat.le_of_ble_eq_true rfl) d_M_init_109 (fun H locs hP hD hS => ?_)
  have hP : va_P (dC, dI) kls ([(q0, .inr (0, [.int 0, .int 0, .int 0, .ref q1, .ref q2, .ref q3, .ref q4, .int 0, .ref q5, .ref q6, .ref q7, .ref q8, .ref q9, .ref q10, .ref q11, .ref q12, .ref q13, .null])), (q1, .inl (cI, 10, .inl (fun _ => 0))), (q2, .inl (cI, 20, .inl (fun _ => 0))), (q3, .inl (cI, 20, .inl (fun _ => 0))), (q4, .inl (cI, 20, .inl (fun _ => 0))), (q5, .inl (cI, 801, .inl (fun _ => 0))), (q6, .inl (cI, 801, .inl (fun _ => 0))), (q7, .inl (cI, 801, .inl (fun _ => 0))), (q8, .inl (cI, 801, .inl (fun _ => 0))), (q9, .inl (cI, 801, .inl (fun _ => 0))), (q10, .inl (cI, 801, .inl (fun _ => 0))), (q11, .inl (cZ, 4, .inl (fun _ => 0))), (q12, .inl (cZ, 20, .inl (fun _ => 0))), (q13, .inl (cI, 4, .inl (fun _ => 0)))]) H := hP
  have hD : va_D A ([(q0, .inr (0, [.int 0, .int 0, .int 0, .ref q1, .ref q2, .ref q3, .ref q4, .int 0, .ref q5, .ref q6, .ref q7, .ref q8, .ref q9, .ref q10, .ref q11, .ref q12, .ref q13, .null])), (q1, .inl (cI, 10, .inl (fun _ => 0))), (q2, .inl (cI, 20, .inl (fun _ => 0))), (q3, .inl (cI, 20, .inl (fun _ => 0))), (q4, .inl (cI, 20, .inl (fun _ => 0))), (q5, .inl (cI, 801, .inl (fun _ => 0))), (q6, .inl (cI, 801, .inl (fun _ => 0))), (q7, .inl (cI, 801, .inl (fun _ => 0))), (q8, .inl (cI, 801, .inl (fun _ => 0))), (q9, .inl (cI, 801, .inl (fun _ => 0))), (q10, .inl (cI, 801, .inl (fun _ => 0))), (q11, .inl (cZ, 4, .inl (fun _ => 0))), (q12, .inl (cZ, 20, .inl (fun _ => 0))), (q13, .inl (cI, 4, .inl (fun _ => 0)))]) := hD
  refine lv_aload_n hx hb d_M_init_112 rfl (lv_at hl 0 rfl) ?_
  refine lv_sipush (v := nI 801) hx hb d_M_init_113 (by decide +kernel) ?_
  refine va_newa (atype := .int) (ty := .int) (N' := 801) (a0 := (801, .inl (fun _ => 0))) hx hb (hk _ k_M_3) rfl hK hP hD hS hA (fun cA => rfl) (by decide +kernel) (by decide +kernel) (Nat.le_of_ble_eq_true rfl) (Nat.le_of_ble_eq_true rfl) (Nat.le_of_ble_eq_true rfl) d_M_init_116 (fun q14 cA H hKa hP hD hS => ?_)
  have e9 : cI = cA := Option.some.inj ((show s.vm.findClass _ = some cI from (hK.2 0 _ rfl).2).symm.trans (hKa.2 2 _ rfl).2)
  subst e9
  have hP : va_P (dC, dI) kls ([(q0, .inr (0, [.int 0, .int 0, .int 0, .ref q1, .ref q2, .ref q3, .ref q4, .int 0, .ref q5, .ref q6, .ref q7, .ref q8, .ref q9, .ref q10, .ref q11, .ref q12, .ref q13, .null])), (q1, .inl (cI, 10, .inl (fun _ => 0))), (q2, .inl (cI, 20, .inl (fun _ => 0))), (q3, .inl (cI, 20, .inl (fun _ => 0))), (q4, .inl (cI, 20, .inl (fun _ => 0))), (q5, .inl (cI, 801, .inl (fun _ => 0))), (q6, .inl (cI, 801, .inl (fun _ => 0))), (q7, .inl (cI, 801, .inl (fun _ => 0))), (q8, .inl (cI, 801, .inl (fun _ => 0))), (q9, .inl (cI, 801, .inl (fun _ => 0))), (q10, .inl (cI, 801, .inl (fun _ => 0))), (q11, .inl (cZ, 4, .inl (fun _ => 0))), (q12, .inl (cZ, 20, .inl (fun _ => 0))), (q13, .inl (cI, 4, .inl (fun _ => 0))), (q14, .inl (cI, 801, .inl (fun _ => 0)))]) H := hP
  have hD : va_D A ([(q0, .inr (0, [.int 0, .int 0, .int 0, .ref q1, .ref q2, .ref q3, .ref q4, .int 0, .ref q5, .ref q6, .ref q7, .ref q8, .ref q9, .ref q10, .ref q11, .ref q12, .ref q13, .null])), (q1, .inl (cI, 10, .inl (fun _ => 0))), (q2, .inl (cI, 20, .inl (fun _ => 0))), (q3, .inl (cI, 20, .inl (fun _ => 0))), (q4, .inl (cI, 20, .inl (fun _ => 0))), (q5, .inl (cI, 801, .inl (fun _ => 0))), (q6, .inl (cI, 801, .inl (fun _ => 0))), (q7, .inl (cI, 801, .inl (fun _ => 0))), (q8, .inl (cI, 801, .inl (fun _ => 0))), (q9, .inl (cI, 801, .inl (fun _ => 0))), (q10, .inl (cI, 801, .inl (fun _ => 0))), (q11, .inl (cZ, 4, .inl (fun _ => 0))), (q12, .inl (cZ, 20, .inl (fun _ => 0))), (q13, .inl (cI, 4, .inl (fun _ => 0))), (q14, .inl (cI, 801, .inl (fun _ => 0)))]) := hD
  refine W.widen (k := 14) (n := 5705) (Nat.le_of_ble_eq_true rfl) (Nat.le_of_ble_eq_true rfl) ?_
  refine va_putF (D := (dC, dI)) (ci := 0) (v := .ref q14) (ty := .array .int) (C := R_M) (T := F_M) (N := 18) hx hb hk k_M_f t_M t_M_ok n_M hown hK hP hD hS 0 rfl rfl 17 (by decide) (hk _ k_M_25) (fun _ h9 => h9) rfl hin rfl (by decide +kernel) rfl rfl (Nat.le_of_ble_eq_true rfl) d_M_init_118 (fun H locs hP hD hS => ?_)
  have hP : va_P (dC, dI) kls ([(q0, .inr (0, [.int 0, .int 0, .int 0, .ref q1, .ref q2, .ref q3, .ref q4, .int 0, .ref q5, .ref q6, .ref q7, .ref q8, .ref q9, .ref q10, .ref q11, .ref q12, .ref q13, .ref q14])), (q1, .inl (cI, 10, .inl (fun _ => 0))), (q2, .inl (cI, 20, .inl (fun _ => 0))), (q3, .inl (cI, 20, .inl (fun _ => 0))), (q4, .inl (cI, 20, .inl (fun _ => 0))), (q5, .inl (cI, 801, .inl (fun _ => 0))), (q6, .inl (cI, 801, .inl (fun _ => 0))), (q7, .inl (cI, 801, .inl (fun _ => 0))), (q8, .inl (cI, 801, .inl (fun _ => 0))), (q9, .inl (cI, 801, .inl (fun _ => 0))), (q10, .inl (cI, 801, .inl (fun _ => 0))), (q11, .inl (cZ, 4, .inl (fun _ => 0))), (q12, .inl (cZ, 20, .inl (fun _ => 0))), (q13, .inl (cI, 4, .inl (fun _ => 0))), (q14, .inl (cI, 801, .inl (fun _ => 0)))]) H := hP
  have hD : va_D A ([(q0, .inr (0, [.int 0, .int 0, .int 0, .ref q1, .ref q2, .ref q3, .ref q4, .int 0, .ref q5, .ref q6, .ref q7, .ref q8, .ref q9, .ref q10, .ref q11, .ref q12, .ref q13, .ref q14])), (q1, .inl (cI, 10, .inl (fun _ => 0))), (q2, .inl (cI, 20, .inl (fun _ => 0))), (q3, .inl (cI, 20, .inl (fun _ => 0))), (q4, .inl (cI, 20, .inl (fun _ => 0))), (q5, .inl (cI, 801, .inl (fun _ => 0))), (q6, .inl (cI, 801, .inl (fun _ => 0))), (q7, .inl (cI, 801, .inl (fun _ => 0))), (q8, .inl (cI, 801, .inl (fun _ => 0))), (q9, .inl (cI, 801, .inl (fun _ => 0))), (q10, .inl (cI, 801, .inl (fun _ => 0))), (q11, .inl (cZ, 4, .inl (fun _ => 0))), (q12, .inl (cZ, 20, .inl (fun _ => 0))), (q13, .inl (cI, 4, .inl (fun _ => 0))), (q14, .inl (cI, 801, .inl (fun _ => 0)))]) := hD
  exact W.vret hx hb hr (fun t ht hW => ⟨⟨(fun k => [q0, q1, q2, q3, q4, q5, q6, q7, q8, q9, q10, q11, q12, q13, q14].getD k 0), rfl, trivial, by rw [ht]; exact hP, va_K.moved hW.alike hK, hD⟩, hS.F ht⟩) hS.2.2 d_M_init_121
