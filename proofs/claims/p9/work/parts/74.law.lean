abbrev tyH (cI cJ : ClassId) : List (ClassId × FieldType) := [(cI, .int), (cJ, .long)]
set_option maxHeartbeats 4000000 in
set_option maxRecDepth 100000 in
theorem c_L_function_ok (l : Launch) (hst : l.stackTraces = false) (dC : Nat → ClassId) (dI : Nat → Nat → Nat) (cI cJ : ClassId) (h : Nat → Nat) (ho sz : Nat) (fo : Nat → Int64) (yn yt yg ym : Int32) (aK eB eE eA eL eN eC eS eW eT : Nat → Int32) (nF nC : Nat) (pl cf ct : Nat → Nat) (q : Int32) (sa : Nat → Nat) (hF : nF ≤ 10) : vx_Met l y_L_function w_L_function ({ frames := 8, cells := 1, slots := 6, locals := 330 }) (va_Pc [.ref (h 0), .int q, .ref ho] (fun U => U.heap.size = sz ∧ va_P (dC, dI) kls ((ho, .inl (cJ, 1, .inr (.inl fo))) :: wC h cI (nI nF) (nI nC) yn yt yg ym (fun c => nI (pl c)) (fun c => nI (cf c)) (fun c => nI (ct c)) aK eB eE eA eL eN eC eS eW eT) U.heap ∧ va_K (dC, dI) kls (tyH cI cJ) U ∧ va_D (fun _ => True) ((ho, .inl (cJ, 1, .inr (.inl fo))) :: wC h cI (nI nF) (nI nC) yn yt yg ym (fun c => nI (pl c)) (fun c => nI (cf c)) (fun c => nI (ct c)) aK eB eE eA eL eN eC eS eW eT) ∧ xT sa U ∧ xC U ∧ xZ (va_A ((ho, .inl (cJ, 1, .inr (.inl fo))) :: wC h cI (nI nF) (nI nC) yn yt yg ym (fun c => nI (pl c)) (fun c => nI (cf c)) (fun c => nI (ct c)) aK eB eE eA eL eN eC eS eW eT) sz) U U.heap)) (va_Qi (fun (r : Int32) (u : (Nat → Int64) × Int32 × (Nat → Int32) × Int32) => (∃ j, 1 ≤ j ∧ j ≤ 4 ∧ q = nI j ∧ nF < 10 ∧ r = nI 0 ∧ u.1 0 = (nI nF).toInt64 ∧ u.2 = (nI (nF + 1), (fun c => nI (updN pl nF j c)), nI 0)) ∨ ((¬ ∃ j, 1 ≤ j ∧ j ≤ 4 ∧ q = nI j) ∧ r = nI 1 ∧ u.2 = (nI nF, (fun c => nI (pl c)), yg)) ∨ ((∃ j, 1 ≤ j ∧ j ≤ 4 ∧ q = nI j) ∧ nF = 10 ∧ r = nI 2 ∧ u.2 = (nI nF, (fun c => nI (pl c)), yg))) (fun (u : (Nat → Int64) × Int32 × (Nat → Int32) × Int32) (t : State) => va_P (dC, dI) kls ((ho, .inl (cJ, 1, .inr (.inl u.1))) :: wC h cI u.2.1 (nI nC) yn yt u.2.2.2 ym u.2.2.1 (fun c => nI (cf c)) (fun c => nI (ct c)) aK eB eE eA eL eN eC eS eW eT) t.heap ∧ va_K (dC, dI) kls (tyH cI cJ) t ∧ va_D (va_A ((ho, .inl (cJ, 1, .inr (.inl fo))) :: wC h cI (nI nF) (nI nC) yn yt yg ym (fun c => nI (pl c)) (fun c => nI (cf c)) (fun c => nI (ct c)) aK eB eE eA eL eN eC eS eW eT) sz) ((ho, .inl (cJ, 1, .inr (.inl u.1))) :: wC h cI u.2.1 (nI nC) yn yt u.2.2.2 ym u.2.2.1 (fun c => nI (cf c)) (fun c => nI (ct c)) aK eB eE eA eL eN eC eS eW eT)) (va_A ((ho, .inl (cJ, 1, .inr (.inl fo))) :: wC h cI (nI nF) (nI nC) yn yt yg ym (fun c => nI (pl c)) (fun c => nI (cf c)) (fun c => nI (ct c)) aK eB eE eA eL eN eC eS eW eT) sz)) (vx_X (fun (_ : Unit) => False) (fun _ _ _ => True) (va_A ((ho, .inl (cJ, 1, .inr (.inl fo))) :: wC h cI (nI nF) (nI nC) yn yt yg ym (fun c => nI (pl c)) (fun c => nI (cf c)) (fun c => nI (ct c)) aK eB eE eA eL eN eC eS eW eT) sz)) 1 6 (va_A ((ho, .inl (cJ, 1, .inr (.inl fo))) :: wC h cI (nI nF) (nI nC) yn yt yg ym (fun c => nI (pl c)) (fun c => nI (cf c)) (fun c => nI (ct c)) aK eB eE eA eL eN eC eS eW eT) sz) := by
  refine vx_ofWH (cc := c_L_function) (maxL := 4) (ret := (some .int)) (hh := hh_L_function) (by decide) rfl ?_
  intro p e s m args below meth c s₁ B hml hv
  obtain ⟨rfl, hsz, hP, hK, hD0, hT, hC9, hZ⟩ := hv
  have hx := B.exec
  have hb := B.bytes
  have hr := B.returns
  have hts := atoms_spec (ws := w_L_function) B.pre
  have htb := vx_table (x := y_L_function) B (hts _ List.mem_cons_self)
  have hk : ∀ w ∈ wHw, w.before _ s = true := fun w h => hts w (List.mem_cons_of_mem _ h)
  have hown : s.vm.findClass R_L = some m.cls := findClass_of_methodNamed B.named
  subst hsz
  have hD := hD0.self (sz := s.heap.size)
  generalize hAe : va_A ((ho, .inl (cJ, 1, .inr (.inl fo))) :: wC h cI (nI nF) (nI nC) yn yt yg ym (fun c => nI (pl c)) (fun c => nI (cf c)) (fun c => nI (ct c)) aK eB eE eA eL eN eC eS eW eT) s.heap.size = A at hD hZ ⊢
  have hA : ∀ q : Nat, s.heap.size ≤ q → A q := fun q h => by rw [← hAe]; exact Or.inr h
  have hS : va_S A s.heap s.heap [] := va_S.rf
  have hl := lv_entry ([.ref (h 0), .int q, .ref ho]) (n := 4) (Nat.le_of_ble_eq_true rfl)
  rw [lg_entry_eq]
  generalize (lg_sl ([.ref (h 0), .int q, .ref ho]) ++ List.replicate (4 - (lg_sl ([.ref (h 0), .int q, .ref ho])).length) Slot.unset).toArray = ls at hl ⊢
  have hl : lv_has ls 4 [(0, .ref (h 0)), (1, .int q), (2, .ref ho)] := hl
  refine lv_aload_n hx hb d_L_function_0 rfl (lv_at hl 2 rfl) ?_
  refine lv_iconst (v := nI 0) hx hb d_L_function_1 (by decide +kernel) ?_
  refine lv_aload_n hx hb d_L_function_2 rfl (lv_at hl 0 rfl) ?_
  refine lv_iload_n hx hb d_L_function_3 rfl (lv_at hl 1 rfl) ?_
  rcases Classical.em (∃ j, 1 ≤ j ∧ j ≤ 4 ∧ q = nI j) with hq | hq
  · obtain ⟨j, hj1, hj4, rfl⟩ := hq
    rcases (show nF < 10 ∨ nF = 10 by omega) with hn | hn
    · have hPc := hP.sub (ws' := wC h cI (nI nF) (nI nC) yn yt yg ym (fun c => nI (pl c)) (fun c => nI (cf c)) (fun c => nI (ct c)) aK eB eE eA eL eN eC eS eW eT) [1, 2, 3, 4, 5, 6, 7, 8, 9, 10, 11, 12, 13, 14, 15, 16, 17] rfl
      have hDc := hD.sub (ws' := wC h cI (nI nF) (nI nC) yn yt yg ym (fun c => nI (pl c)) (fun c => nI (cf c)) (fun c => nI (ct c)) aK eB eE eA eL eN eC eS eW eT) [1, 2, 3, 4, 5, 6, 7, 8, 9, 10, 11, 12, 13, 14, 15, 16, 17] (by decide) rfl
      have hKc := hK.sub (tys' := tyC cI) [0] rfl
      have hFc := va_free (wc := wC h cI (nI nF) (nI nC) yn yt yg ym (fun c => nI (pl c)) (fun c => nI (cf c)) (fun c => nI (ct c)) aK eB eE eA eL eN eC eS eW eT) hD hS hA [1, 2, 3, 4, 5, 6, 7, 8, 9, 10, 11, 12, 13, 14, 15, 16, 17] rfl
      refine va_calli (va_runV (As := [.int (nI j)]) (rest := [.int (nI 0), .ref ho]) ⟨hx, hb, hml, hown, hk⟩ (c_X_function_ok l dC dI cI h s.heap.size yn yt yg ym aK eB eE eA eL eN eC eS eW eT nF nC pl cf ct j (by omega) (hj1) (hj4)) (cwV 1 hk gh_7 rfl rfl rfl (by decide +kernel) ⟨Nat.le_of_ble_eq_true rfl, Nat.le_of_ble_eq_true rfl⟩) ⟨fun a U g mk q => by obtain ⟨q0, q1, qP, qK, qD⟩ := q; exact ⟨q0, q1, qP, va_K.moved (u := U) (U := U.calling g mk a) (Vm.Alike.refl U.vm) qK, qD⟩, va_recv hK hP (ci := 4) (q0 := 1) rfl rfl, fun U hU hW => ⟨rfl, by rw [hU], by rw [hU]; exact hPc, va_K.moved hW.alike hKc, hDc.weaken (fun _ _ _ _ => trivial)⟩⟩ rfl rfl hl.1 rfl (lv_room (Nat.le_of_ble_eq_true rfl)) d_L_function_4 ⟨Nat.le_of_ble_eq_true rfl, Nat.le_of_ble_eq_true rfl⟩) hS (fun q _ h => hFc q h) hFc (fun r1 u9 t H1 locs ht hvm hw hB hz1 hk1 hS => ?_)
      obtain ⟨yf9, aP9, yg9⟩ := u9
      obtain ⟨hP1, hK1, hD1⟩ := hB
      rw [ht] at hP1
      try dsimp only at hw hP1 hD1
      obtain ⟨hP, hD⟩ := va_join (wr := [(ho, .inl (cJ, 1, .inr (.inl fo)))]) (w1 := wC h cI yf9 (nI nC) yn yt yg9 ym aP9 (fun c => nI (cf c)) (fun c => nI (ct c)) aK eB eE eA eL eN eC eS eW eT) hP hD [1, 2, 3, 4, 5, 6, 7, 8, 9, 10, 11, 12, 13, 14, 15, 16, 17] [0] rfl rfl (by decide) (by decide) hk1 hFc hP1 hD1
      generalize H1 = H at hP hS ⊢
      obtain ⟨hu1, hu2, hu3, hr9⟩ := hw
      subst hu1
      subst hu2
      subst hu3
      subst hr9
      have hP : va_P (dC, dI) kls ((ho, .inl (cJ, 1, .inr (.inl fo))) :: wC h cI (nI (nF + 1)) (nI nC) yn yt (nI 0) ym (fun c => nI (updN pl nF j c)) (fun c => nI (cf c)) (fun c => nI (ct c)) aK eB eE eA eL eN eC eS eW eT) H := hP
      have hD : va_D A ((ho, .inl (cJ, 1, .inr (.inl fo))) :: wC h cI (nI (nF + 1)) (nI nC) yn yt (nI 0) ym (fun c => nI (updN pl nF j c)) (fun c => nI (cf c)) (fun c => nI (ct c)) aK eB eE eA eL eN eC eS eW eT) := hD
      refine lv_i2l (v := (nI nF).toInt64) hx hb d_L_function_7 rfl ?_
      refine va_last hx hb hK hP hD hS 0 1 rfl rfl (pk_in 0 1 (by omega)) d_L_function_8 (fun H locs hP hD hS => ?_)
      rw [nI_clamp (n := 0) (by omega)] at hP hD
      have hP : va_P (dC, dI) kls ((ho, .inl (cJ, 1, .inr (.inl (vp_updL fo 0 ((nI nF).toInt64))))) :: wC h cI (nI (nF + 1)) (nI nC) yn yt (nI 0) ym (fun c => nI (updN pl nF j c)) (fun c => nI (cf c)) (fun c => nI (ct c)) aK eB eE eA eL eN eC eS eW eT) H := hP
      have hD : va_D A ((ho, .inl (cJ, 1, .inr (.inl (vp_updL fo 0 ((nI nF).toInt64))))) :: wC h cI (nI (nF + 1)) (nI nC) yn yt (nI 0) ym (fun c => nI (updN pl nF j c)) (fun c => nI (cf c)) (fun c => nI (ct c)) aK eB eE eA eL eN eC eS eW eT) := hD
      refine lv_goto (tgt := 18) hx hb d_L_function_9 (by decide) ?_
      refine lv_iconst (v := nI 0) hx hb d_L_function_18 (by decide +kernel) ?_
      refine vx_ret (W.widen (k := 1) (n := 6) (Nat.le_of_ble_eq_true rfl) (Nat.le_of_ble_eq_true rfl) ?_)
      exact W.iret (v := nI 0) hx hb hr (fun t ht hW => ⟨⟨nI 0, (vp_updL fo 0 (nI nF).toInt64, nI (nF + 1), (fun c => nI (updN pl nF j c)), nI 0), rfl, Or.inl ⟨j, hj1, hj4, rfl, hn, rfl, rfl, rfl⟩, by rw [ht]; exact hP, va_K.moved hW.alike hK, hD⟩, hS.F ht⟩) hS.2.2 d_L_function_19
    · have hPc := hP.sub (ws' := wC h cI (nI nF) (nI nC) yn yt yg ym (fun c => nI (pl c)) (fun c => nI (cf c)) (fun c => nI (ct c)) aK eB eE eA eL eN eC eS eW eT) [1, 2, 3, 4, 5, 6, 7, 8, 9, 10, 11, 12, 13, 14, 15, 16, 17] rfl
      have hDc := hD.sub (ws' := wC h cI (nI nF) (nI nC) yn yt yg ym (fun c => nI (pl c)) (fun c => nI (cf c)) (fun c => nI (ct c)) aK eB eE eA eL eN eC eS eW eT) [1, 2, 3, 4, 5, 6, 7, 8, 9, 10, 11, 12, 13, 14, 15, 16, 17] (by decide) rfl
      have hKc := hK.sub (tys' := tyC cI) [0] rfl
      have hFc := va_free (wc := wC h cI (nI nF) (nI nC) yn yt yg ym (fun c => nI (pl c)) (fun c => nI (cf c)) (fun c => nI (ct c)) aK eB eE eA eL eN eC eS eW eT) hD hS hA [1, 2, 3, 4, 5, 6, 7, 8, 9, 10, 11, 12, 13, 14, 15, 16, 17] rfl
      refine vx_calli (vx_runV (As := [.int (nI j)]) (rest := [.int (nI 0), .ref ho]) ⟨hx, hb, hml, hown, hk⟩ (c_X_function_x2 l hst dC dI cI h s.heap.size yn yt yg ym aK eB eE eA eL eN eC eS eW eT nF nC pl cf ct j sa (by omega) (hj1) (hj4)) (cwV 1 hk ghx_7 rfl rfl rfl (by decide +kernel) ⟨Nat.le_of_ble_eq_true rfl, Nat.le_of_ble_eq_true rfl⟩) ⟨fun a U g mk q => by obtain ⟨q0, q1, qP, qK, qD, qT, qZ⟩ := q; exact ⟨q0, q1, qP, va_K.moved (u := U) (U := U.calling g mk a) (Vm.Alike.refl U.vm) qK, qD, xT.same rfl qT, xZ.blind (u := U) (U := U.calling g mk a) (Vm.Alike.refl U.vm) qZ⟩, va_recv hK hP (ci := 4) (q0 := 1) rfl rfl, fun U hU hW => ⟨rfl, by rw [hU], by rw [hU]; exact hPc, va_K.moved hW.alike hKc, hDc.weaken (fun _ _ _ _ => trivial), xT.warm hW hT, xZ.here hZ hS hFc hW.alike hU⟩⟩ rfl rfl hl.1 rfl (lv_room (Nat.le_of_ble_eq_true rfl)) d_L_function_4 ⟨Nat.le_of_ble_eq_true rfl, Nat.le_of_ble_eq_true rfl⟩) hS (fun q _ h => hFc q h) hFc (fun q _ h => hFc q h) (fun E ce q9 u9 t H1 locs ht hvm hw hB hz1 hk1 hS hce hcv hcl9 => ?_) (fun r1 u9 t H1 locs ht hvm hf9 => hf9.elim)
      obtain ⟨hE, hP1, hK1, hD1⟩ := hB
      subst hE
      rw [ht] at hP1
      try dsimp only at hw hP1 hD1
      obtain ⟨hP, hD⟩ := va_join (wr := [(ho, .inl (cJ, 1, .inr (.inl fo)))]) (w1 := wC h cI (nI nF) (nI nC) yn yt yg ym (fun c => nI (pl c)) (fun c => nI (cf c)) (fun c => nI (ct c)) aK eB eE eA eL eN eC eS eW eT) hP hD [1, 2, 3, 4, 5, 6, 7, 8, 9, 10, 11, 12, 13, 14, 15, 16, 17] [0] rfl rfl (by decide) (by decide) hk1 hFc hP1 hD1
      refine vx_catch (own := R_L) (name := "java/lang/IllegalStateException") (E := "java/lang/IllegalStateException") hown [⟨0, 9, 12, 13⟩] ⟨0, 9, 15, 15⟩ [] (htb.trans rfl) (fun z hz => by rw [List.mem_singleton.mp hz]; exact Or.inr ⟨(by decide), "java/lang/IllegalArgumentException", hk _ k_H_7, hC9.1⟩) (by decide) (by decide) (hk _ k_H_8) (va_Nw.use rfl hT.2.2.2.2.1) hce hcv hcl9 ?_
      generalize H1 = H at hP hS ⊢
      have hP : va_P (dC, dI) kls ((ho, .inl (cJ, 1, .inr (.inl fo))) :: wC h cI (nI nF) (nI nC) yn yt yg ym (fun c => nI (pl c)) (fun c => nI (cf c)) (fun c => nI (ct c)) aK eB eE eA eL eN eC eS eW eT) H := hP
      have hD : va_D A ((ho, .inl (cJ, 1, .inr (.inl fo))) :: wC h cI (nI nF) (nI nC) yn yt yg ym (fun c => nI (pl c)) (fun c => nI (cf c)) (fun c => nI (ct c)) aK eB eE eA eL eN eC eS eW eT) := hD
      refine lv_astore_n (lv' := [(3, .ref q9), (0, .ref (h 0)), (1, .int (nI j)), (2, .ref ho)]) hx hb d_L_function_15 rfl hl (by decide) rfl (fun ls hl => ?_)
      refine lv_iconst (v := nI 2) hx hb d_L_function_16 (by decide +kernel) ?_
      refine vx_ret (W.widen (k := 1) (n := 6) (Nat.le_of_ble_eq_true rfl) (Nat.le_of_ble_eq_true rfl) ?_)
      exact W.iret (v := nI 2) hx hb hr (fun t ht hW => ⟨⟨nI 2, (fo, nI nF, (fun c => nI (pl c)), yg), rfl, Or.inr (Or.inr ⟨⟨j, hj1, hj4, rfl⟩, hn, rfl, rfl⟩), by rw [ht]; exact hP, va_K.moved hW.alike hK, hD⟩, hS.F ht⟩) hS.2.2 d_L_function_17
  · have hPc := hP.sub (ws' := wC h cI (nI nF) (nI nC) yn yt yg ym (fun c => nI (pl c)) (fun c => nI (cf c)) (fun c => nI (ct c)) aK eB eE eA eL eN eC eS eW eT) [1, 2, 3, 4, 5, 6, 7, 8, 9, 10, 11, 12, 13, 14, 15, 16, 17] rfl
    have hDc := hD.sub (ws' := wC h cI (nI nF) (nI nC) yn yt yg ym (fun c => nI (pl c)) (fun c => nI (cf c)) (fun c => nI (ct c)) aK eB eE eA eL eN eC eS eW eT) [1, 2, 3, 4, 5, 6, 7, 8, 9, 10, 11, 12, 13, 14, 15, 16, 17] (by decide) rfl
    have hKc := hK.sub (tys' := tyC cI) [0] rfl
    have hFc := va_free (wc := wC h cI (nI nF) (nI nC) yn yt yg ym (fun c => nI (pl c)) (fun c => nI (cf c)) (fun c => nI (ct c)) aK eB eE eA eL eN eC eS eW eT) hD hS hA [1, 2, 3, 4, 5, 6, 7, 8, 9, 10, 11, 12, 13, 14, 15, 16, 17] rfl
    refine vx_calli (vx_runV (As := [.int q]) (rest := [.int (nI 0), .ref ho]) ⟨hx, hb, hml, hown, hk⟩ (c_X_function_x1 l hst dC dI cI h s.heap.size yn yt yg ym aK eB eE eA eL eN eC eS eW eT nF nC pl cf ct q sa (hq)) (cwV 1 hk ghx_7 rfl rfl rfl (by decide +kernel) ⟨Nat.le_of_ble_eq_true rfl, Nat.le_of_ble_eq_true rfl⟩) ⟨fun a U g mk q => by obtain ⟨q0, q1, qP, qK, qD, qT, qZ⟩ := q; exact ⟨q0, q1, qP, va_K.moved (u := U) (U := U.calling g mk a) (Vm.Alike.refl U.vm) qK, qD, xT.same rfl qT, xZ.blind (u := U) (U := U.calling g mk a) (Vm.Alike.refl U.vm) qZ⟩, va_recv hK hP (ci := 4) (q0 := 1) rfl rfl, fun U hU hW => ⟨rfl, by rw [hU], by rw [hU]; exact hPc, va_K.moved hW.alike hKc, hDc.weaken (fun _ _ _ _ => trivial), xT.warm hW hT, xZ.here hZ hS hFc hW.alike hU⟩⟩ rfl rfl hl.1 rfl (lv_room (Nat.le_of_ble_eq_true rfl)) d_L_function_4 ⟨Nat.le_of_ble_eq_true rfl, Nat.le_of_ble_eq_true rfl⟩) hS (fun q _ h => hFc q h) hFc (fun q _ h => hFc q h) (fun E ce q9 u9 t H1 locs ht hvm hw hB hz1 hk1 hS hce hcv hcl9 => ?_) (fun r1 u9 t H1 locs ht hvm hf9 => hf9.elim)
    obtain ⟨hE, hP1, hK1, hD1⟩ := hB
    subst hE
    rw [ht] at hP1
    try dsimp only at hw hP1 hD1
    obtain ⟨hP, hD⟩ := va_join (wr := [(ho, .inl (cJ, 1, .inr (.inl fo)))]) (w1 := wC h cI (nI nF) (nI nC) yn yt yg ym (fun c => nI (pl c)) (fun c => nI (cf c)) (fun c => nI (ct c)) aK eB eE eA eL eN eC eS eW eT) hP hD [1, 2, 3, 4, 5, 6, 7, 8, 9, 10, 11, 12, 13, 14, 15, 16, 17] [0] rfl rfl (by decide) (by decide) hk1 hFc hP1 hD1
    refine vx_catch (own := R_L) (name := "java/lang/IllegalArgumentException") (E := "java/lang/IllegalArgumentException") hown [] ⟨0, 9, 12, 13⟩ [⟨0, 9, 15, 15⟩] (htb.trans rfl) (fun z hz => absurd hz List.not_mem_nil) (by decide) (by decide) (hk _ k_H_7) (va_Nw.use rfl hT.2.2.2.1) hce hcv hcl9 ?_
    generalize H1 = H at hP hS ⊢
    have hP : va_P (dC, dI) kls ((ho, .inl (cJ, 1, .inr (.inl fo))) :: wC h cI (nI nF) (nI nC) yn yt yg ym (fun c => nI (pl c)) (fun c => nI (cf c)) (fun c => nI (ct c)) aK eB eE eA eL eN eC eS eW eT) H := hP
    have hD : va_D A ((ho, .inl (cJ, 1, .inr (.inl fo))) :: wC h cI (nI nF) (nI nC) yn yt yg ym (fun c => nI (pl c)) (fun c => nI (cf c)) (fun c => nI (ct c)) aK eB eE eA eL eN eC eS eW eT) := hD
    refine lv_astore_n (lv' := [(3, .ref q9), (0, .ref (h 0)), (1, .int q), (2, .ref ho)]) hx hb d_L_function_12 rfl hl (by decide) rfl (fun ls hl => ?_)
    refine lv_iconst (v := nI 1) hx hb d_L_function_13 (by decide +kernel) ?_
    refine vx_ret (W.widen (k := 1) (n := 6) (Nat.le_of_ble_eq_true rfl) (Nat.le_of_ble_eq_true rfl) ?_)
    exact W.iret (v := nI 1) hx hb hr (fun t ht hW => ⟨⟨nI 1, (fo, nI nF, (fun c => nI (pl c)), yg), rfl, Or.inr (Or.inl ⟨hq, rfl, rfl⟩), by rw [ht]; exact hP, va_K.moved hW.alike hK, hD⟩, hS.F ht⟩) hS.2.2 d_L_function_14
set_option maxHeartbeats 4000000 in
set_option maxRecDepth 100000 in
theorem c_L_call_ok (l : Launch) (hst : l.stackTraces = false) (dC : Nat → ClassId) (dI : Nat → Nat → Nat) (cI cJ : ClassId) (h : Nat → Nat) (ho sz : Nat) (fo : Nat → Int64) (yn yt yg ym : Int32) (aK eB eE eA eL eN eC eS eW eT : Nat → Int32) (nF nC : Nat) (pl cf ct : Nat → Nat) (f g q : Int32) (sa : Nat → Nat) (hF : nF ≤ 10) (hC : nC ≤ 20) (hS0 : ∀ c, c < nC → cf c < nF ∧ ct c < nF) (hpl : ∀ i, i < nF → 1 ≤ pl i ∧ pl i ≤ 4) : vx_Met l y_L_call w_L_call ({ frames := 8, cells := 1, slots := 6, locals := 330 }) (va_Pc [.ref (h 0), .int f, .int g, .int q, .ref ho] (fun U => U.heap.size = sz ∧ va_P (dC, dI) kls ((ho, .inl (cJ, 1, .inr (.inl fo))) :: wC h cI (nI nF) (nI nC) yn yt yg ym (fun c => nI (pl c)) (fun c => nI (cf c)) (fun c => nI (ct c)) aK eB eE eA eL eN eC eS eW eT) U.heap ∧ va_K (dC, dI) kls (tyH cI cJ) U ∧ va_D (fun _ => True) ((ho, .inl (cJ, 1, .inr (.inl fo))) :: wC h cI (nI nF) (nI nC) yn yt yg ym (fun c => nI (pl c)) (fun c => nI (cf c)) (fun c => nI (ct c)) aK eB eE eA eL eN eC eS eW eT) ∧ xT sa U ∧ xC U ∧ xZ (va_A ((ho, .inl (cJ, 1, .inr (.inl fo))) :: wC h cI (nI nF) (nI nC) yn yt yg ym (fun c => nI (pl c)) (fun c => nI (cf c)) (fun c => nI (ct c)) aK eB eE eA eL eN eC eS eW eT) sz) U U.heap)) (va_Qi (fun (r : Int32) (u : (Nat → Int64) × Int32 × (Nat → Int32) × (Nat → Int32) × (Nat → Int32) × Int32) => (∃ i j, i < nF ∧ j < nF ∧ f = nI i ∧ g = nI j ∧ nC < 20 ∧ r = nI 0 ∧ u.1 0 = (nI nC).toInt64 ∧ u.2 = (nI (nC + 1), (fun c => nI (updN cf nC i c)), (fun c => nI (updN ct nC j c)), upd aK nC (clC q (pl i) (pl j)), nI 0)) ∨ ((¬ ((∃ i, i < nF ∧ f = nI i) ∧ (∃ j, j < nF ∧ g = nI j))) ∧ r = nI 1 ∧ u.2 = (nI nC, (fun c => nI (cf c)), (fun c => nI (ct c)), aK, yg)) ∨ (∃ i j, i < nF ∧ j < nF ∧ f = nI i ∧ g = nI j ∧ nC = 20 ∧ r = nI 2 ∧ u.2 = (nI nC, (fun c => nI (cf c)), (fun c => nI (ct c)), aK, yg))) (fun (u : (Nat → Int64) × Int32 × (Nat → Int32) × (Nat → Int32) × (Nat → Int32) × Int32) (t : State) => va_P (dC, dI) kls ((ho, .inl (cJ, 1, .inr (.inl u.1))) :: wC h cI (nI nF) u.2.1 yn yt u.2.2.2.2.2 ym (fun c => nI (pl c)) u.2.2.1 u.2.2.2.1 u.2.2.2.2.1 eB eE eA eL eN eC eS eW eT) t.heap ∧ va_K (dC, dI) kls (tyH cI cJ) t ∧ va_D (va_A ((ho, .inl (cJ, 1, .inr (.inl fo))) :: wC h cI (nI nF) (nI nC) yn yt yg ym (fun c => nI (pl c)) (fun c => nI (cf c)) (fun c => nI (ct c)) aK eB eE eA eL eN eC eS eW eT) sz) ((ho, .inl (cJ, 1, .inr (.inl u.1))) :: wC h cI (nI nF) u.2.1 yn yt u.2.2.2.2.2 ym (fun c => nI (pl c)) u.2.2.1 u.2.2.2.1 u.2.2.2.2.1 eB eE eA eL eN eC eS eW eT)) (va_A ((ho, .inl (cJ, 1, .inr (.inl fo))) :: wC h cI (nI nF) (nI nC) yn yt yg ym (fun c => nI (pl c)) (fun c => nI (cf c)) (fun c => nI (ct c)) aK eB eE eA eL eN eC eS eW eT) sz)) (vx_X (fun (_ : Unit) => False) (fun _ _ _ => True) (va_A ((ho, .inl (cJ, 1, .inr (.inl fo))) :: wC h cI (nI nF) (nI nC) yn yt yg ym (fun c => nI (pl c)) (fun c => nI (cf c)) (fun c => nI (ct c)) aK eB eE eA eL eN eC eS eW eT) sz)) 1 6 (va_A ((ho, .inl (cJ, 1, .inr (.inl fo))) :: wC h cI (nI nF) (nI nC) yn yt yg ym (fun c => nI (pl c)) (fun c => nI (cf c)) (fun c => nI (ct c)) aK eB eE eA eL eN eC eS eW eT) sz) := by
  refine vx_ofWH (cc := c_L_call) (maxL := 6) (ret := (some .int)) (hh := hh_L_call) (by decide) rfl ?_
  intro p e s m args below meth c s₁ B hml hv
  obtain ⟨rfl, hsz, hP, hK, hD0, hT, hC9, hZ⟩ := hv
  have hx := B.exec
  have hb := B.bytes
  have hr := B.returns
  have hts := atoms_spec (ws := w_L_call) B.pre
  have htb := vx_table (x := y_L_call) B (hts _ List.mem_cons_self)
  have hk : ∀ w ∈ wHw, w.before _ s = true := fun w h => hts w (List.mem_cons_of_mem _ h)
  have hown : s.vm.findClass R_L = some m.cls := findClass_of_methodNamed B.named
  subst hsz
  have hD := hD0.self (sz := s.heap.size)
  generalize hAe : va_A ((ho, .inl (cJ, 1, .inr (.inl fo))) :: wC h cI (nI nF) (nI nC) yn yt yg ym (fun c => nI (pl c)) (fun c => nI (cf c)) (fun c => nI (ct c)) aK eB eE eA eL eN eC eS eW eT) s.heap.size = A at hD hZ ⊢
  have hA : ∀ q : Nat, s.heap.size ≤ q → A q := fun q h => by rw [← hAe]; exact Or.inr h
  have hS : va_S A s.heap s.heap [] := va_S.rf
  have hl := lv_entry ([.ref (h 0), .int f, .int g, .int q, .ref ho]) (n := 6) (Nat.le_of_ble_eq_true rfl)
  rw [lg_entry_eq]
  generalize (lg_sl ([.ref (h 0), .int f, .int g, .int q, .ref ho]) ++ List.replicate (6 - (lg_sl ([.ref (h 0), .int f, .int g, .int q, .ref ho])).length) Slot.unset).toArray = ls at hl ⊢
  have hl : lv_has ls 6 [(0, .ref (h 0)), (1, .int f), (2, .int g), (3, .int q), (4, .ref ho)] := hl
  refine lv_aload hx hb d_L_call_0 (lv_at hl 4 rfl) ?_
  refine lv_iconst (v := nI 0) hx hb d_L_call_2 (by decide +kernel) ?_
  refine lv_aload_n hx hb d_L_call_3 rfl (lv_at hl 0 rfl) ?_
  refine lv_iload_n hx hb d_L_call_4 rfl (lv_at hl 1 rfl) ?_
  refine lv_iload_n hx hb d_L_call_5 rfl (lv_at hl 2 rfl) ?_
  refine lv_iload_n hx hb d_L_call_6 rfl (lv_at hl 3 rfl) ?_
  rcases Classical.em ((∃ i, i < nF ∧ f = nI i) ∧ (∃ j, j < nF ∧ g = nI j)) with hb9 | hb9
  · obtain ⟨⟨i1, hi1, rfl⟩, ⟨j1, hj1, rfl⟩⟩ := hb9
    rcases (show nC < 20 ∨ nC = 20 by omega) with hn | hn
    · have hPc := hP.sub (ws' := wC h cI (nI nF) (nI nC) yn yt yg ym (fun c => nI (pl c)) (fun c => nI (cf c)) (fun c => nI (ct c)) aK eB eE eA eL eN eC eS eW eT) [1, 2, 3, 4, 5, 6, 7, 8, 9, 10, 11, 12, 13, 14, 15, 16, 17] rfl
      have hDc := hD.sub (ws' := wC h cI (nI nF) (nI nC) yn yt yg ym (fun c => nI (pl c)) (fun c => nI (cf c)) (fun c => nI (ct c)) aK eB eE eA eL eN eC eS eW eT) [1, 2, 3, 4, 5, 6, 7, 8, 9, 10, 11, 12, 13, 14, 15, 16, 17] (by decide) rfl
      have hKc := hK.sub (tys' := tyC cI) [0] rfl
      have hFc := va_free (wc := wC h cI (nI nF) (nI nC) yn yt yg ym (fun c => nI (pl c)) (fun c => nI (cf c)) (fun c => nI (ct c)) aK eB eE eA eL eN eC eS eW eT) hD hS hA [1, 2, 3, 4, 5, 6, 7, 8, 9, 10, 11, 12, 13, 14, 15, 16, 17] rfl
      refine va_calli (va_runV (As := [.int (nI i1), .int (nI j1), .int q]) (rest := [.int (nI 0), .ref ho]) ⟨hx, hb, hml, hown, hk⟩ (c_X_call_ok l dC dI cI h s.heap.size yn yt yg ym aK eB eE eA eL eN eC eS eW eT nF nC pl cf ct i1 j1 q (hF) (hn) (hi1) (hj1) (hpl)) (cwV 3 hk gh_17 rfl rfl rfl (by decide +kernel) ⟨Nat.le_of_ble_eq_true rfl, Nat.le_of_ble_eq_true rfl⟩) ⟨fun a U g mk q => by obtain ⟨q0, q1, qP, qK, qD⟩ := q; exact ⟨q0, q1, qP, va_K.moved (u := U) (U := U.calling g mk a) (Vm.Alike.refl U.vm) qK, qD⟩, va_recv hK hP (ci := 4) (q0 := 1) rfl rfl, fun U hU hW => ⟨rfl, by rw [hU], by rw [hU]; exact hPc, va_K.moved hW.alike hKc, hDc.weaken (fun _ _ _ _ => trivial)⟩⟩ rfl rfl hl.1 rfl (lv_room (Nat.le_of_ble_eq_true rfl)) d_L_call_7 ⟨Nat.le_of_ble_eq_true rfl, Nat.le_of_ble_eq_true rfl⟩) hS (fun q _ h => hFc q h) hFc (fun r1 u9 t H1 locs ht hvm hw hB hz1 hk1 hS => ?_)
      obtain ⟨yc9, aF9, aT9, aK9, yg9⟩ := u9
      obtain ⟨hP1, hK1, hD1⟩ := hB
      rw [ht] at hP1
      try dsimp only at hw hP1 hD1
      obtain ⟨hP, hD⟩ := va_join (wr := [(ho, .inl (cJ, 1, .inr (.inl fo)))]) (w1 := wC h cI (nI nF) yc9 yn yt yg9 ym (fun c => nI (pl c)) aF9 aT9 aK9 eB eE eA eL eN eC eS eW eT) hP hD [1, 2, 3, 4, 5, 6, 7, 8, 9, 10, 11, 12, 13, 14, 15, 16, 17] [0] rfl rfl (by decide) (by decide) hk1 hFc hP1 hD1
      generalize H1 = H at hP hS ⊢
      obtain ⟨hu1, hu2, hu3, hu4, hu5, hr9⟩ := hw
      subst hu1
      subst hu2
      subst hu3
      subst hu4
      subst hu5
      subst hr9
      have hP : va_P (dC, dI) kls ((ho, .inl (cJ, 1, .inr (.inl fo))) :: wC h cI (nI nF) (nI (nC + 1)) yn yt (nI 0) ym (fun c => nI (pl c)) (fun c => nI (updN cf nC i1 c)) (fun c => nI (updN ct nC j1 c)) (upd aK nC (clC q (pl i1) (pl j1))) eB eE eA eL eN eC eS eW eT) H := hP
      have hD : va_D A ((ho, .inl (cJ, 1, .inr (.inl fo))) :: wC h cI (nI nF) (nI (nC + 1)) yn yt (nI 0) ym (fun c => nI (pl c)) (fun c => nI (updN cf nC i1 c)) (fun c => nI (updN ct nC j1 c)) (upd aK nC (clC q (pl i1) (pl j1))) eB eE eA eL eN eC eS eW eT) := hD
      refine lv_i2l (v := (nI nC).toInt64) hx hb d_L_call_10 rfl ?_
      refine va_last hx hb hK hP hD hS 0 1 rfl rfl (pk_in 0 1 (by omega)) d_L_call_11 (fun H locs hP hD hS => ?_)
      rw [nI_clamp (n := 0) (by omega)] at hP hD
      have hP : va_P (dC, dI) kls ((ho, .inl (cJ, 1, .inr (.inl (vp_updL fo 0 ((nI nC).toInt64))))) :: wC h cI (nI nF) (nI (nC + 1)) yn yt (nI 0) ym (fun c => nI (pl c)) (fun c => nI (updN cf nC i1 c)) (fun c => nI (updN ct nC j1 c)) (upd aK nC (clC q (pl i1) (pl j1))) eB eE eA eL eN eC eS eW eT) H := hP
      have hD : va_D A ((ho, .inl (cJ, 1, .inr (.inl (vp_updL fo 0 ((nI nC).toInt64))))) :: wC h cI (nI nF) (nI (nC + 1)) yn yt (nI 0) ym (fun c => nI (pl c)) (fun c => nI (updN cf nC i1 c)) (fun c => nI (updN ct nC j1 c)) (upd aK nC (clC q (pl i1) (pl j1))) eB eE eA eL eN eC eS eW eT) := hD
      refine lv_goto (tgt := 23) hx hb d_L_call_12 (by decide) ?_
      refine lv_iconst (v := nI 0) hx hb d_L_call_23 (by decide +kernel) ?_
      refine vx_ret (W.widen (k := 1) (n := 6) (Nat.le_of_ble_eq_true rfl) (Nat.le_of_ble_eq_true rfl) ?_)
      exact W.iret (v := nI 0) hx hb hr (fun t ht hW => ⟨⟨nI 0, (vp_updL fo 0 (nI nC).toInt64, nI (nC + 1), (fun c => nI (updN cf nC i1 c)), (fun c => nI (updN ct nC j1 c)), upd aK nC (clC q (pl i1) (pl j1)), nI 0), rfl, Or.inl ⟨i1, j1, hi1, hj1, rfl, rfl, hn, rfl, rfl, rfl⟩, by rw [ht]; exact hP, va_K.moved hW.alike hK, hD⟩, hS.F ht⟩) hS.2.2 d_L_call_24
    · have hPc := hP.sub (ws' := wC h cI (nI nF) (nI nC) yn yt yg ym (fun c => nI (pl c)) (fun c => nI (cf c)) (fun c => nI (ct c)) aK eB eE eA eL eN eC eS eW eT) [1, 2, 3, 4, 5, 6, 7, 8, 9, 10, 11, 12, 13, 14, 15, 16, 17] rfl
      have hDc := hD.sub (ws' := wC h cI (nI nF) (nI nC) yn yt yg ym (fun c => nI (pl c)) (fun c => nI (cf c)) (fun c => nI (ct c)) aK eB eE eA eL eN eC eS eW eT) [1, 2, 3, 4, 5, 6, 7, 8, 9, 10, 11, 12, 13, 14, 15, 16, 17] (by decide) rfl
      have hKc := hK.sub (tys' := tyC cI) [0] rfl
      have hFc := va_free (wc := wC h cI (nI nF) (nI nC) yn yt yg ym (fun c => nI (pl c)) (fun c => nI (cf c)) (fun c => nI (ct c)) aK eB eE eA eL eN eC eS eW eT) hD hS hA [1, 2, 3, 4, 5, 6, 7, 8, 9, 10, 11, 12, 13, 14, 15, 16, 17] rfl
      refine vx_calli (vx_runV (As := [.int (nI i1), .int (nI j1), .int q]) (rest := [.int (nI 0), .ref ho]) ⟨hx, hb, hml, hown, hk⟩ (c_X_call_x2 l hst dC dI cI h s.heap.size yn yt yg ym aK eB eE eA eL eN eC eS eW eT nF nC pl cf ct i1 j1 q sa (hF) (hn) (hi1) (hj1)) (cwV 3 hk ghx_17 rfl rfl rfl (by decide +kernel) ⟨Nat.le_of_ble_eq_true rfl, Nat.le_of_ble_eq_true rfl⟩) ⟨fun a U g mk q => by obtain ⟨q0, q1, qP, qK, qD, qT, qZ⟩ := q; exact ⟨q0, q1, qP, va_K.moved (u := U) (U := U.calling g mk a) (Vm.Alike.refl U.vm) qK, qD, xT.same rfl qT, xZ.blind (u := U) (U := U.calling g mk a) (Vm.Alike.refl U.vm) qZ⟩, va_recv hK hP (ci := 4) (q0 := 1) rfl rfl, fun U hU hW => ⟨rfl, by rw [hU], by rw [hU]; exact hPc, va_K.moved hW.alike hKc, hDc.weaken (fun _ _ _ _ => trivial), xT.warm hW hT, xZ.here hZ hS hFc hW.alike hU⟩⟩ rfl rfl hl.1 rfl (lv_room (Nat.le_of_ble_eq_true rfl)) d_L_call_7 ⟨Nat.le_of_ble_eq_true rfl, Nat.le_of_ble_eq_true rfl⟩) hS (fun q _ h => hFc q h) hFc (fun q _ h => hFc q h) (fun E ce q9 u9 t H1 locs ht hvm hw hB hz1 hk1 hS hce hcv hcl9 => ?_) (fun r1 u9 t H1 locs ht hvm hf9 => hf9.elim)
      obtain ⟨hE, hP1, hK1, hD1⟩ := hB
      subst hE
      rw [ht] at hP1
      try dsimp only at hw hP1 hD1
      obtain ⟨hP, hD⟩ := va_join (wr := [(ho, .inl (cJ, 1, .inr (.inl fo)))]) (w1 := wC h cI (nI nF) (nI nC) yn yt yg ym (fun c => nI (pl c)) (fun c => nI (cf c)) (fun c => nI (ct c)) aK eB eE eA eL eN eC eS eW eT) hP hD [1, 2, 3, 4, 5, 6, 7, 8, 9, 10, 11, 12, 13, 14, 15, 16, 17] [0] rfl rfl (by decide) (by decide) hk1 hFc hP1 hD1
      refine vx_catch (own := R_L) (name := "java/lang/IllegalStateException") (E := "java/lang/IllegalStateException") hown [⟨0, 12, 15, 21⟩] ⟨0, 12, 19, 15⟩ [] (htb.trans rfl) (fun z hz => by rw [List.mem_singleton.mp hz]; exact Or.inr ⟨(by decide), "java/lang/IndexOutOfBoundsException", hk _ k_H_9, hC9.2.1⟩) (by decide) (by decide) (hk _ k_H_8) (va_Nw.use rfl hT.2.2.2.2.1) hce hcv hcl9 ?_
      generalize H1 = H at hP hS ⊢
      have hP : va_P (dC, dI) kls ((ho, .inl (cJ, 1, .inr (.inl fo))) :: wC h cI (nI nF) (nI nC) yn yt yg ym (fun c => nI (pl c)) (fun c => nI (cf c)) (fun c => nI (ct c)) aK eB eE eA eL eN eC eS eW eT) H := hP
      have hD : va_D A ((ho, .inl (cJ, 1, .inr (.inl fo))) :: wC h cI (nI nF) (nI nC) yn yt yg ym (fun c => nI (pl c)) (fun c => nI (cf c)) (fun c => nI (ct c)) aK eB eE eA eL eN eC eS eW eT) := hD
      refine lv_astore (lv' := [(5, .ref q9), (0, .ref (h 0)), (1, .int (nI i1)), (2, .int (nI j1)), (3, .int q), (4, .ref ho)]) hx hb d_L_call_19 hl (by decide) rfl (fun ls hl => ?_)
      refine lv_iconst (v := nI 2) hx hb d_L_call_21 (by decide +kernel) ?_
      refine vx_ret (W.widen (k := 1) (n := 6) (Nat.le_of_ble_eq_true rfl) (Nat.le_of_ble_eq_true rfl) ?_)
      exact W.iret (v := nI 2) hx hb hr (fun t ht hW => ⟨⟨nI 2, (fo, nI nC, (fun c => nI (cf c)), (fun c => nI (ct c)), aK, yg), rfl, Or.inr (Or.inr ⟨i1, j1, hi1, hj1, rfl, rfl, hn, rfl, rfl⟩), by rw [ht]; exact hP, va_K.moved hW.alike hK, hD⟩, hS.F ht⟩) hS.2.2 d_L_call_22
  · have hPc := hP.sub (ws' := wC h cI (nI nF) (nI nC) yn yt yg ym (fun c => nI (pl c)) (fun c => nI (cf c)) (fun c => nI (ct c)) aK eB eE eA eL eN eC eS eW eT) [1, 2, 3, 4, 5, 6, 7, 8, 9, 10, 11, 12, 13, 14, 15, 16, 17] rfl
    have hDc := hD.sub (ws' := wC h cI (nI nF) (nI nC) yn yt yg ym (fun c => nI (pl c)) (fun c => nI (cf c)) (fun c => nI (ct c)) aK eB eE eA eL eN eC eS eW eT) [1, 2, 3, 4, 5, 6, 7, 8, 9, 10, 11, 12, 13, 14, 15, 16, 17] (by decide) rfl
    have hKc := hK.sub (tys' := tyC cI) [0] rfl
    have hFc := va_free (wc := wC h cI (nI nF) (nI nC) yn yt yg ym (fun c => nI (pl c)) (fun c => nI (cf c)) (fun c => nI (ct c)) aK eB eE eA eL eN eC eS eW eT) hD hS hA [1, 2, 3, 4, 5, 6, 7, 8, 9, 10, 11, 12, 13, 14, 15, 16, 17] rfl
    refine vx_calli (vx_runV (As := [.int f, .int g, .int q]) (rest := [.int (nI 0), .ref ho]) ⟨hx, hb, hml, hown, hk⟩ (c_X_call_x1 l hst dC dI cI h s.heap.size yn yt yg ym aK eB eE eA eL eN eC eS eW eT nF nC pl cf ct f g q sa (hF) (hb9)) (cwV 3 hk ghx_17 rfl rfl rfl (by decide +kernel) ⟨Nat.le_of_ble_eq_true rfl, Nat.le_of_ble_eq_true rfl⟩) ⟨fun a U g mk q => by obtain ⟨q0, q1, qP, qK, qD, qT, qZ⟩ := q; exact ⟨q0, q1, qP, va_K.moved (u := U) (U := U.calling g mk a) (Vm.Alike.refl U.vm) qK, qD, xT.same rfl qT, xZ.blind (u := U) (U := U.calling g mk a) (Vm.Alike.refl U.vm) qZ⟩, va_recv hK hP (ci := 4) (q0 := 1) rfl rfl, fun U hU hW => ⟨rfl, by rw [hU], by rw [hU]; exact hPc, va_K.moved hW.alike hKc, hDc.weaken (fun _ _ _ _ => trivial), xT.warm hW hT, xZ.here hZ hS hFc hW.alike hU⟩⟩ rfl rfl hl.1 rfl (lv_room (Nat.le_of_ble_eq_true rfl)) d_L_call_7 ⟨Nat.le_of_ble_eq_true rfl, Nat.le_of_ble_eq_true rfl⟩) hS (fun q _ h => hFc q h) hFc (fun q _ h => hFc q h) (fun E ce q9 u9 t H1 locs ht hvm hw hB hz1 hk1 hS hce hcv hcl9 => ?_) (fun r1 u9 t H1 locs ht hvm hf9 => hf9.elim)
    obtain ⟨hE, hP1, hK1, hD1⟩ := hB
    subst hE
    rw [ht] at hP1
    try dsimp only at hw hP1 hD1
    obtain ⟨hP, hD⟩ := va_join (wr := [(ho, .inl (cJ, 1, .inr (.inl fo)))]) (w1 := wC h cI (nI nF) (nI nC) yn yt yg ym (fun c => nI (pl c)) (fun c => nI (cf c)) (fun c => nI (ct c)) aK eB eE eA eL eN eC eS eW eT) hP hD [1, 2, 3, 4, 5, 6, 7, 8, 9, 10, 11, 12, 13, 14, 15, 16, 17] [0] rfl rfl (by decide) (by decide) hk1 hFc hP1 hD1
    refine vx_catch (own := R_L) (name := "java/lang/IndexOutOfBoundsException") (E := "java/lang/IndexOutOfBoundsException") hown [] ⟨0, 12, 15, 21⟩ [⟨0, 12, 19, 15⟩] (htb.trans rfl) (fun z hz => absurd hz List.not_mem_nil) (by decide) (by decide) (hk _ k_H_9) (va_Nw.use rfl hT.2.2.2.2.2.1) hce hcv hcl9 ?_
    generalize H1 = H at hP hS ⊢
    have hP : va_P (dC, dI) kls ((ho, .inl (cJ, 1, .inr (.inl fo))) :: wC h cI (nI nF) (nI nC) yn yt yg ym (fun c => nI (pl c)) (fun c => nI (cf c)) (fun c => nI (ct c)) aK eB eE eA eL eN eC eS eW eT) H := hP
    have hD : va_D A ((ho, .inl (cJ, 1, .inr (.inl fo))) :: wC h cI (nI nF) (nI nC) yn yt yg ym (fun c => nI (pl c)) (fun c => nI (cf c)) (fun c => nI (ct c)) aK eB eE eA eL eN eC eS eW eT) := hD
    refine lv_astore (lv' := [(5, .ref q9), (0, .ref (h 0)), (1, .int f), (2, .int g), (3, .int q), (4, .ref ho)]) hx hb d_L_call_15 hl (by decide) rfl (fun ls hl => ?_)
    refine lv_iconst (v := nI 1) hx hb d_L_call_17 (by decide +kernel) ?_
    refine vx_ret (W.widen (k := 1) (n := 6) (Nat.le_of_ble_eq_true rfl) (Nat.le_of_ble_eq_true rfl) ?_)
    exact W.iret (v := nI 1) hx hb hr (fun t ht hW => ⟨⟨nI 1, (fo, nI nC, (fun c => nI (cf c)), (fun c => nI (ct c)), aK, yg), rfl, Or.inr (Or.inl ⟨hb9, rfl, rfl⟩), by rw [ht]; exact hP, va_K.moved hW.alike hK, hD⟩, hS.F ht⟩) hS.2.2 d_L_call_18
set_option maxHeartbeats 4000000 in
set_option maxRecDepth 100000 in
theorem c_L_graphs_ok (l : Launch) (hst : l.stackTraces = false) (dC : Nat → ClassId) (dI : Nat → Nat → Nat) (cI cJ : ClassId) (h : Nat → Nat) (ho sz : Nat) (fo : Nat → Int64) (yn yt ym : Int32) (aK eB eE eA eL eN eC eS eW eT : Nat → Int32) (nF nC : Nat) (pl cf ct : Nat → Nat) (K ga : Nat) (f g : Int32) (sa : Nat → Nat) (hF : nF ≤ 10) (hC : nC ≤ 20) (hS0 : ∀ c, c < nC → cf c < nF ∧ ct c < nF) (hpl : ∀ i, i < nF → 1 ≤ pl i ∧ pl i ≤ 4) (hK8 : 801 ≤ K) (hcl : ∀ c, c < nC → clN (aK c)) (hga : ga = 0 ∨ (ga = 1 ∧ GI nC cf ct aK K nF yn yt eB eE eA eL eS eW)) : vx_Met l y_L_graphs w_L_graphs ({ frames := 8, cells := 1, slots := 6, locals := 330 }) (va_Pc [.ref (h 0), .int f, .int g, .ref ho] (fun U => U.heap.size = sz ∧ va_P (dC, dI) kls ((ho, .inl (cJ, 1, .inr (.inl fo))) :: wC h cI (nI nF) (nI nC) yn yt (nI ga) ym (fun c => nI (pl c)) (fun c => nI (cf c)) (fun c => nI (ct c)) aK eB eE eA eL eN eC eS eW eT) U.heap ∧ va_K (dC, dI) kls (tyH cI cJ) U ∧ va_D (fun _ => True) ((ho, .inl (cJ, 1, .inr (.inl fo))) :: wC h cI (nI nF) (nI nC) yn yt (nI ga) ym (fun c => nI (pl c)) (fun c => nI (cf c)) (fun c => nI (ct c)) aK eB eE eA eL eN eC eS eW eT) ∧ xT sa U ∧ xC U ∧ xZ (va_A ((ho, .inl (cJ, 1, .inr (.inl fo))) :: wC h cI (nI nF) (nI nC) yn yt (nI ga) ym (fun c => nI (pl c)) (fun c => nI (cf c)) (fun c => nI (ct c)) aK eB eE eA eL eN eC eS eW eT) sz) U U.heap)) (va_Qi (fun (r : Int32) (u : (Nat → Int64) × Int32 × Int32 × Int32 × (Nat → Int32) × (Nat → Int32) × (Nat → Int32) × (Nat → Int32) × (Nat → Int32) × (Nat → Int32) × (Nat → Int32) × (Nat → Int32)) => (∃ i j, i < nF ∧ j < nF ∧ f = nI i ∧ g = nI j ∧ gN nC cf ct aK cj K nF ≤ 800 ∧ r = nI 0 ∧ u.1 0 = (nI (bitsL (gF nC cf ct aK cj K i) j).length).toInt64 ∧ u.2.2.2.1 = nI 1 ∧ GI nC cf ct aK K nF u.2.1 u.2.2.1 u.2.2.2.2.1 u.2.2.2.2.2.1 u.2.2.2.2.2.2.1 u.2.2.2.2.2.2.2.1 u.2.2.2.2.2.2.2.2.2.2.1 u.2.2.2.2.2.2.2.2.2.2.2) ∨ ((¬ ((∃ i, i < nF ∧ f = nI i) ∧ (∃ j, j < nF ∧ g = nI j))) ∧ r = nI 0 ∧ u.1 0 = (-1 : Int32).toInt64 ∧ u.2 = (yn, yt, nI ga, eB, eE, eA, eL, eN, eC, eS, eW)) ∨ (∃ i j, i < nF ∧ j < nF ∧ f = nI i ∧ g = nI j ∧ 800 < gN nC cf ct aK cj K nF ∧ r = nI 1 ∧ u.2.2.2.1 = nI 1 ∧ GI nC cf ct aK K nF u.2.1 u.2.2.1 u.2.2.2.2.1 u.2.2.2.2.2.1 u.2.2.2.2.2.2.1 u.2.2.2.2.2.2.2.1 u.2.2.2.2.2.2.2.2.2.2.1 u.2.2.2.2.2.2.2.2.2.2.2)) (fun (u : (Nat → Int64) × Int32 × Int32 × Int32 × (Nat → Int32) × (Nat → Int32) × (Nat → Int32) × (Nat → Int32) × (Nat → Int32) × (Nat → Int32) × (Nat → Int32) × (Nat → Int32)) (t : State) => va_P (dC, dI) kls ((ho, .inl (cJ, 1, .inr (.inl u.1))) :: wC h cI (nI nF) (nI nC) u.2.1 u.2.2.1 u.2.2.2.1 ym (fun c => nI (pl c)) (fun c => nI (cf c)) (fun c => nI (ct c)) aK u.2.2.2.2.1 u.2.2.2.2.2.1 u.2.2.2.2.2.2.1 u.2.2.2.2.2.2.2.1 u.2.2.2.2.2.2.2.2.1 u.2.2.2.2.2.2.2.2.2.1 u.2.2.2.2.2.2.2.2.2.2.1 u.2.2.2.2.2.2.2.2.2.2.2 eT) t.heap ∧ va_K (dC, dI) kls (tyH cI cJ) t ∧ va_D (va_A ((ho, .inl (cJ, 1, .inr (.inl fo))) :: wC h cI (nI nF) (nI nC) yn yt (nI ga) ym (fun c => nI (pl c)) (fun c => nI (cf c)) (fun c => nI (ct c)) aK eB eE eA eL eN eC eS eW eT) sz) ((ho, .inl (cJ, 1, .inr (.inl u.1))) :: wC h cI (nI nF) (nI nC) u.2.1 u.2.2.1 u.2.2.2.1 ym (fun c => nI (pl c)) (fun c => nI (cf c)) (fun c => nI (ct c)) aK u.2.2.2.2.1 u.2.2.2.2.2.1 u.2.2.2.2.2.2.1 u.2.2.2.2.2.2.2.1 u.2.2.2.2.2.2.2.2.1 u.2.2.2.2.2.2.2.2.2.1 u.2.2.2.2.2.2.2.2.2.2.1 u.2.2.2.2.2.2.2.2.2.2.2 eT)) (va_A ((ho, .inl (cJ, 1, .inr (.inl fo))) :: wC h cI (nI nF) (nI nC) yn yt (nI ga) ym (fun c => nI (pl c)) (fun c => nI (cf c)) (fun c => nI (ct c)) aK eB eE eA eL eN eC eS eW eT) sz)) (vx_X (fun (_ : Unit) => False) (fun _ _ _ => True) (va_A ((ho, .inl (cJ, 1, .inr (.inl fo))) :: wC h cI (nI nF) (nI nC) yn yt (nI ga) ym (fun c => nI (pl c)) (fun c => nI (cf c)) (fun c => nI (ct c)) aK eB eE eA eL eN eC eS eW eT) sz)) 1 6 (va_A ((ho, .inl (cJ, 1, .inr (.inl fo))) :: wC h cI (nI nF) (nI nC) yn yt (nI ga) ym (fun c => nI (pl c)) (fun c => nI (cf c)) (fun c => nI (ct c)) aK eB eE eA eL eN eC eS eW eT) sz) := by
  refine vx_ofWH (cc := c_L_graphs) (maxL := 5) (ret := (some .int)) (hh := hh_L_graphs) (by decide) rfl ?_
  intro p e s m args below meth c s₁ B hml hv
  obtain ⟨rfl, hsz, hP, hK, hD0, hT, hC9, hZ⟩ := hv
  have hx := B.exec
  have hb := B.bytes
  have hr := B.returns
  have hts := atoms_spec (ws := w_L_graphs) B.pre
  have htb := vx_table (x := y_L_graphs) B (hts _ List.mem_cons_self)
  have hk : ∀ w ∈ wHw, w.before _ s = true := fun w h => hts w (List.mem_cons_of_mem _ h)
  have hown : s.vm.findClass R_L = some m.cls := findClass_of_methodNamed B.named
  subst hsz
  have hD := hD0.self (sz := s.heap.size)
  generalize hAe : va_A ((ho, .inl (cJ, 1, .inr (.inl fo))) :: wC h cI (nI nF) (nI nC) yn yt (nI ga) ym (fun c => nI (pl c)) (fun c => nI (cf c)) (fun c => nI (ct c)) aK eB eE eA eL eN eC eS eW eT) s.heap.size = A at hD hZ ⊢
  have hA : ∀ q : Nat, s.heap.size ≤ q → A q := fun q h => by rw [← hAe]; exact Or.inr h
  have hS : va_S A s.heap s.heap [] := va_S.rf
  have hl := lv_entry ([.ref (h 0), .int f, .int g, .ref ho]) (n := 5) (Nat.le_of_ble_eq_true rfl)
  rw [lg_entry_eq]
  generalize (lg_sl ([.ref (h 0), .int f, .int g, .ref ho]) ++ List.replicate (5 - (lg_sl ([.ref (h 0), .int f, .int g, .ref ho])).length) Slot.unset).toArray = ls at hl ⊢
  have hl : lv_has ls 5 [(0, .ref (h 0)), (1, .int f), (2, .int g), (3, .ref ho)] := hl
  refine lv_aload_n hx hb d_L_graphs_0 rfl (lv_at hl 3 rfl) ?_
  refine lv_iconst (v := nI 0) hx hb d_L_graphs_1 (by decide +kernel) ?_
  refine lv_aload_n hx hb d_L_graphs_2 rfl (lv_at hl 0 rfl) ?_
  refine lv_iload_n hx hb d_L_graphs_3 rfl (lv_at hl 1 rfl) ?_
  refine lv_iload_n hx hb d_L_graphs_4 rfl (lv_at hl 2 rfl) ?_
  rcases Classical.em ((∃ i, i < nF ∧ f = nI i) ∧ (∃ j, j < nF ∧ g = nI j)) with hb9 | hb9
  · obtain ⟨⟨i1, hi1, rfl⟩, ⟨j1, hj1, rfl⟩⟩ := hb9
    rcases (show gN nC cf ct aK cj K nF ≤ 800 ∨ 800 < gN nC cf ct aK cj K nF by omega) with hfew | hmany
    · have hPc := hP.sub (ws' := wC h cI (nI nF) (nI nC) yn yt (nI ga) ym (fun c => nI (pl c)) (fun c => nI (cf c)) (fun c => nI (ct c)) aK eB eE eA eL eN eC eS eW eT) [1, 2, 3, 4, 5, 6, 7, 8, 9, 10, 11, 12, 13, 14, 15, 16, 17] rfl
      have hDc := hD.sub (ws' := wC h cI (nI nF) (nI nC) yn yt (nI ga) ym (fun c => nI (pl c)) (fun c => nI (cf c)) (fun c => nI (ct c)) aK eB eE eA eL eN eC eS eW eT) [1, 2, 3, 4, 5, 6, 7, 8, 9, 10, 11, 12, 13, 14, 15, 16, 17] (by decide) rfl
      have hKc := hK.sub (tys' := tyC cI) [0] rfl
      have hFc := va_free (wc := wC h cI (nI nF) (nI nC) yn yt (nI ga) ym (fun c => nI (pl c)) (fun c => nI (cf c)) (fun c => nI (ct c)) aK eB eE eA eL eN eC eS eW eT) hD hS hA [1, 2, 3, 4, 5, 6, 7, 8, 9, 10, 11, 12, 13, 14, 15, 16, 17] rfl
      refine va_calli (va_runV (As := [.int (nI i1), .int (nI j1)]) (rest := [.int (nI 0), .ref ho]) ⟨hx, hb, hml, hown, hk⟩ (c_X_graphs_ok l dC dI cI h s.heap.size yn yt ym aK eB eE eA eL eN eC eS eW eT nF nC pl cf ct K ga i1 j1 (hF) (hC) (hS0) (hpl) (hK8) (hcl) (hga) (hfew) (hi1) (hj1)) (cwV 2 hk gh_23 rfl rfl rfl (by decide +kernel) ⟨Nat.le_of_ble_eq_true rfl, Nat.le_of_ble_eq_true rfl⟩) ⟨fun a U g mk q => by obtain ⟨q0, q1, qP, qK, qD⟩ := q; exact ⟨q0, q1, qP, va_K.moved (u := U) (U := U.calling g mk a) (Vm.Alike.refl U.vm) qK, qD⟩, va_recv hK hP (ci := 4) (q0 := 1) rfl rfl, fun U hU hW => ⟨rfl, by rw [hU], by rw [hU]; exact hPc, va_K.moved hW.alike hKc, hDc.weaken (fun _ _ _ _ => trivial)⟩⟩ rfl rfl hl.1 rfl (lv_room (Nat.le_of_ble_eq_true rfl)) d_L_graphs_5 ⟨Nat.le_of_ble_eq_true rfl, Nat.le_of_ble_eq_true rfl⟩) hS (fun q _ h => hFc q h) hFc (fun r1 u9 t H1 locs ht hvm hw hB hz1 hk1 hS => ?_)
      obtain ⟨yn9, yt9, yg9, eB9, eE9, eA9, eL9, eN9, eC9, eS9, eW9⟩ := u9
      obtain ⟨hP1, hK1, hD1⟩ := hB
      rw [ht] at hP1
      try dsimp only at hw hP1 hD1
      obtain ⟨hP, hD⟩ := va_join (wr := [(ho, .inl (cJ, 1, .inr (.inl fo)))]) (w1 := wC h cI (nI nF) (nI nC) yn9 yt9 yg9 ym (fun c => nI (pl c)) (fun c => nI (cf c)) (fun c => nI (ct c)) aK eB9 eE9 eA9 eL9 eN9 eC9 eS9 eW9 eT) hP hD [1, 2, 3, 4, 5, 6, 7, 8, 9, 10, 11, 12, 13, 14, 15, 16, 17] [0] rfl rfl (by decide) (by decide) hk1 hFc hP1 hD1
      generalize H1 = H at hP hS ⊢
      obtain ⟨ht0, hg1, hgo, hv9⟩ := hw
      subst hv9
      have hP : va_P (dC, dI) kls ((ho, .inl (cJ, 1, .inr (.inl fo))) :: wC h cI (nI nF) (nI nC) yn9 yt9 yg9 ym (fun c => nI (pl c)) (fun c => nI (cf c)) (fun c => nI (ct c)) aK eB9 eE9 eA9 eL9 eN9 eC9 eS9 eW9 eT) H := hP
      have hD : va_D A ((ho, .inl (cJ, 1, .inr (.inl fo))) :: wC h cI (nI nF) (nI nC) yn9 yt9 yg9 ym (fun c => nI (pl c)) (fun c => nI (cf c)) (fun c => nI (ct c)) aK eB9 eE9 eA9 eL9 eN9 eC9 eS9 eW9 eT) := hD
      refine lv_i2l (v := (nI ((bitsL (gF nC cf ct aK cj K i1) j1).length)).toInt64) hx hb d_L_graphs_8 rfl ?_
      refine va_last hx hb hK hP hD hS 0 1 rfl rfl (pk_in 0 1 (by omega)) d_L_graphs_9 (fun H locs hP hD hS => ?_)
      rw [nI_clamp (n := 0) (by omega)] at hP hD
      have hP : va_P (dC, dI) kls ((ho, .inl (cJ, 1, .inr (.inl (vp_updL fo 0 ((nI ((bitsL (gF nC cf ct aK cj K i1) j1).length)).toInt64))))) :: wC h cI (nI nF) (nI nC) yn9 yt9 yg9 ym (fun c => nI (pl c)) (fun c => nI (cf c)) (fun c => nI (ct c)) aK eB9 eE9 eA9 eL9 eN9 eC9 eS9 eW9 eT) H := hP
      have hD : va_D A ((ho, .inl (cJ, 1, .inr (.inl (vp_updL fo 0 ((nI ((bitsL (gF nC cf ct aK cj K i1) j1).length)).toInt64))))) :: wC h cI (nI nF) (nI nC) yn9 yt9 yg9 ym (fun c => nI (pl c)) (fun c => nI (cf c)) (fun c => nI (ct c)) aK eB9 eE9 eA9 eL9 eN9 eC9 eS9 eW9 eT) := hD
      refine lv_goto (tgt := 17) hx hb d_L_graphs_10 (by decide) ?_
      refine lv_iconst (v := nI 0) hx hb d_L_graphs_17 (by decide +kernel) ?_
      refine vx_ret (W.widen (k := 1) (n := 6) (Nat.le_of_ble_eq_true rfl) (Nat.le_of_ble_eq_true rfl) ?_)
      exact W.iret (v := nI 0) hx hb hr (fun t ht hW => ⟨⟨nI 0, (vp_updL fo 0 ((nI ((bitsL (gF nC cf ct aK cj K i1) j1).length)).toInt64), yn9, yt9, yg9, eB9, eE9, eA9, eL9, eN9, eC9, eS9, eW9), rfl, Or.inl ⟨i1, j1, hi1, hj1, rfl, rfl, hfew, rfl, rfl, ⟨hg1, Or.inl ⟨ht0, hgo⟩⟩⟩, by rw [ht]; exact hP, va_K.moved hW.alike hK, hD⟩, hS.F ht⟩) hS.2.2 d_L_graphs_18
    · have hPc := hP.sub (ws' := wC h cI (nI nF) (nI nC) yn yt (nI ga) ym (fun c => nI (pl c)) (fun c => nI (cf c)) (fun c => nI (ct c)) aK eB eE eA eL eN eC eS eW eT) [1, 2, 3, 4, 5, 6, 7, 8, 9, 10, 11, 12, 13, 14, 15, 16, 17] rfl
      have hDc := hD.sub (ws' := wC h cI (nI nF) (nI nC) yn yt (nI ga) ym (fun c => nI (pl c)) (fun c => nI (cf c)) (fun c => nI (ct c)) aK eB eE eA eL eN eC eS eW eT) [1, 2, 3, 4, 5, 6, 7, 8, 9, 10, 11, 12, 13, 14, 15, 16, 17] (by decide) rfl
      have hKc := hK.sub (tys' := tyC cI) [0] rfl
      have hFc := va_free (wc := wC h cI (nI nF) (nI nC) yn yt (nI ga) ym (fun c => nI (pl c)) (fun c => nI (cf c)) (fun c => nI (ct c)) aK eB eE eA eL eN eC eS eW eT) hD hS hA [1, 2, 3, 4, 5, 6, 7, 8, 9, 10, 11, 12, 13, 14, 15, 16, 17] rfl
      refine vx_calli (vx_runV (As := [.int (nI i1), .int (nI j1)]) (rest := [.int (nI 0), .ref ho]) ⟨hx, hb, hml, hown, hk⟩ (c_X_graphs_many l hst dC dI cI h s.heap.size yn yt ym aK eB eE eA eL eN eC eS eW eT nF nC pl cf ct K ga i1 j1 sa (hF) (hC) (hS0) (hpl) (hK8) (hcl) (hga) (hmany) (hi1) (hj1)) (cwV 2 hk ghx_23 rfl rfl rfl (by decide +kernel) ⟨Nat.le_of_ble_eq_true rfl, Nat.le_of_ble_eq_true rfl⟩) ⟨fun a U g mk q => by obtain ⟨q0, q1, qP, qK, qD, qT, qZ⟩ := q; exact ⟨q0, q1, qP, va_K.moved (u := U) (U := U.calling g mk a) (Vm.Alike.refl U.vm) qK, qD, xT.same rfl qT, xZ.blind (u := U) (U := U.calling g mk a) (Vm.Alike.refl U.vm) qZ⟩, va_recv hK hP (ci := 4) (q0 := 1) rfl rfl, fun U hU hW => ⟨rfl, by rw [hU], by rw [hU]; exact hPc, va_K.moved hW.alike hKc, hDc.weaken (fun _ _ _ _ => trivial), xT.warm hW hT, xZ.here hZ hS hFc hW.alike hU⟩⟩ rfl rfl hl.1 rfl (lv_room (Nat.le_of_ble_eq_true rfl)) d_L_graphs_5 ⟨Nat.le_of_ble_eq_true rfl, Nat.le_of_ble_eq_true rfl⟩) hS (fun q _ h => hFc q h) hFc (fun q _ h => hFc q h) (fun E ce q9 u9 t H1 locs ht hvm hw hB hz1 hk1 hS hce hcv hcl9 => ?_) (fun r1 u9 t H1 locs ht hvm hf9 => hf9.elim)
      obtain ⟨yn9, yt9, yg9, eB9, eE9, eA9, eL9, eN9, eC9, eS9, eW9⟩ := u9
      obtain ⟨hE, hP1, hK1, hD1⟩ := hB
      subst hE
      rw [ht] at hP1
      try dsimp only at hw hP1 hD1
      obtain ⟨hP, hD⟩ := va_join (wr := [(ho, .inl (cJ, 1, .inr (.inl fo)))]) (w1 := wC h cI (nI nF) (nI nC) yn9 yt9 yg9 ym (fun c => nI (pl c)) (fun c => nI (cf c)) (fun c => nI (ct c)) aK eB9 eE9 eA9 eL9 eN9 eC9 eS9 eW9 eT) hP hD [1, 2, 3, 4, 5, 6, 7, 8, 9, 10, 11, 12, 13, 14, 15, 16, 17] [0] rfl rfl (by decide) (by decide) hk1 hFc hP1 hD1
      refine vx_catch (own := R_L) (name := "java/lang/UnsupportedOperationException") (E := "java/lang/UnsupportedOperationException") hown [] ⟨0, 10, 13, 27⟩ [] (htb.trans rfl) (fun z hz => absurd hz List.not_mem_nil) (by decide) (by decide) (hk _ k_H_10) (va_Nw.use rfl hT.2.2.2.2.2.2.1) hce hcv hcl9 ?_
      generalize H1 = H at hP hS ⊢
      have hP : va_P (dC, dI) kls ((ho, .inl (cJ, 1, .inr (.inl fo))) :: wC h cI (nI nF) (nI nC) yn9 yt9 yg9 ym (fun c => nI (pl c)) (fun c => nI (cf c)) (fun c => nI (ct c)) aK eB9 eE9 eA9 eL9 eN9 eC9 eS9 eW9 eT) H := hP
      have hD : va_D A ((ho, .inl (cJ, 1, .inr (.inl fo))) :: wC h cI (nI nF) (nI nC) yn9 yt9 yg9 ym (fun c => nI (pl c)) (fun c => nI (cf c)) (fun c => nI (ct c)) aK eB9 eE9 eA9 eL9 eN9 eC9 eS9 eW9 eT) := hD
      refine lv_astore (lv' := [(4, .ref q9), (0, .ref (h 0)), (1, .int (nI i1)), (2, .int (nI j1)), (3, .ref ho)]) hx hb d_L_graphs_13 hl (by decide) rfl (fun ls hl => ?_)
      refine lv_iconst (v := nI 1) hx hb d_L_graphs_15 (by decide +kernel) ?_
      refine vx_ret (W.widen (k := 1) (n := 6) (Nat.le_of_ble_eq_true rfl) (Nat.le_of_ble_eq_true rfl) ?_)
      exact W.iret (v := nI 1) hx hb hr (fun t ht hW => ⟨⟨nI 1, (fo, yn9, yt9, yg9, eB9, eE9, eA9, eL9, eN9, eC9, eS9, eW9), rfl, Or.inr (Or.inr ⟨i1, j1, hi1, hj1, rfl, rfl, hmany, rfl, hw⟩), by rw [ht]; exact hP, va_K.moved hW.alike hK, hD⟩, hS.F ht⟩) hS.2.2 d_L_graphs_16
  · have hPc := hP.sub (ws' := wC h cI (nI nF) (nI nC) yn yt (nI ga) ym (fun c => nI (pl c)) (fun c => nI (cf c)) (fun c => nI (ct c)) aK eB eE eA eL eN eC eS eW eT) [1, 2, 3, 4, 5, 6, 7, 8, 9, 10, 11, 12, 13, 14, 15, 16, 17] rfl
    have hDc := hD.sub (ws' := wC h cI (nI nF) (nI nC) yn yt (nI ga) ym (fun c => nI (pl c)) (fun c => nI (cf c)) (fun c => nI (ct c)) aK eB eE eA eL eN eC eS eW eT) [1, 2, 3, 4, 5, 6, 7, 8, 9, 10, 11, 12, 13, 14, 15, 16, 17] (by decide) rfl
    have hKc := hK.sub (tys' := tyC cI) [0] rfl
    have hFc := va_free (wc := wC h cI (nI nF) (nI nC) yn yt (nI ga) ym (fun c => nI (pl c)) (fun c => nI (cf c)) (fun c => nI (ct c)) aK eB eE eA eL eN eC eS eW eT) hD hS hA [1, 2, 3, 4, 5, 6, 7, 8, 9, 10, 11, 12, 13, 14, 15, 16, 17] rfl
    refine va_calli (va_runV (As := [.int f, .int g]) (rest := [.int (nI 0), .ref ho]) ⟨hx, hb, hml, hown, hk⟩ (c_X_graphs_no l dC dI cI h s.heap.size yn yt (nI ga) ym aK eB eE eA eL eN eC eS eW eT nF nC pl cf ct f g (hF) (hb9)) (cwV 2 hk gh_23 rfl rfl rfl (by decide +kernel) ⟨Nat.le_of_ble_eq_true rfl, Nat.le_of_ble_eq_true rfl⟩) ⟨fun a U g mk q => by obtain ⟨q0, q1, qP, qK, qD⟩ := q; exact ⟨q0, q1, qP, va_K.moved (u := U) (U := U.calling g mk a) (Vm.Alike.refl U.vm) qK, qD⟩, va_recv hK hP (ci := 4) (q0 := 1) rfl rfl, fun U hU hW => ⟨rfl, by rw [hU], by rw [hU]; exact hPc, va_K.moved hW.alike hKc, hDc.weaken (fun _ _ _ _ => trivial)⟩⟩ rfl rfl hl.1 rfl (lv_room (Nat.le_of_ble_eq_true rfl)) d_L_graphs_5 ⟨Nat.le_of_ble_eq_true rfl, Nat.le_of_ble_eq_true rfl⟩) hS (fun q _ h => hFc q h) hFc (fun r1 u9 t H1 locs ht hvm hw hB hz1 hk1 hS => ?_)
    obtain ⟨hP1, hK1, hD1⟩ := hB
    rw [ht] at hP1
    try dsimp only at hw hP1 hD1
    obtain ⟨hP, hD⟩ := va_join (wr := [(ho, .inl (cJ, 1, .inr (.inl fo)))]) (w1 := wC h cI (nI nF) (nI nC) yn yt (nI ga) ym (fun c => nI (pl c)) (fun c => nI (cf c)) (fun c => nI (ct c)) aK eB eE eA eL eN eC eS eW eT) hP hD [1, 2, 3, 4, 5, 6, 7, 8, 9, 10, 11, 12, 13, 14, 15, 16, 17] [0] rfl rfl (by decide) (by decide) hk1 hFc hP1 hD1
    generalize H1 = H at hP hS ⊢
    subst hw
    have hP : va_P (dC, dI) kls ((ho, .inl (cJ, 1, .inr (.inl fo))) :: wC h cI (nI nF) (nI nC) yn yt (nI ga) ym (fun c => nI (pl c)) (fun c => nI (cf c)) (fun c => nI (ct c)) aK eB eE eA eL eN eC eS eW eT) H := hP
    have hD : va_D A ((ho, .inl (cJ, 1, .inr (.inl fo))) :: wC h cI (nI nF) (nI nC) yn yt (nI ga) ym (fun c => nI (pl c)) (fun c => nI (cf c)) (fun c => nI (ct c)) aK eB eE eA eL eN eC eS eW eT) := hD
    refine lv_i2l (v := (-1).toInt64) hx hb d_L_graphs_8 rfl ?_
    refine va_last hx hb hK hP hD hS 0 1 rfl rfl (pk_in 0 1 (by omega)) d_L_graphs_9 (fun H locs hP hD hS => ?_)
    rw [nI_clamp (n := 0) (by omega)] at hP hD
    have hP : va_P (dC, dI) kls ((ho, .inl (cJ, 1, .inr (.inl (vp_updL fo 0 ((-1).toInt64))))) :: wC h cI (nI nF) (nI nC) yn yt (nI ga) ym (fun c => nI (pl c)) (fun c => nI (cf c)) (fun c => nI (ct c)) aK eB eE eA eL eN eC eS eW eT) H := hP
    have hD : va_D A ((ho, .inl (cJ, 1, .inr (.inl (vp_updL fo 0 ((-1).toInt64))))) :: wC h cI (nI nF) (nI nC) yn yt (nI ga) ym (fun c => nI (pl c)) (fun c => nI (cf c)) (fun c => nI (ct c)) aK eB eE eA eL eN eC eS eW eT) := hD
    refine lv_goto (tgt := 17) hx hb d_L_graphs_10 (by decide) ?_
    refine lv_iconst (v := nI 0) hx hb d_L_graphs_17 (by decide +kernel) ?_
    refine vx_ret (W.widen (k := 1) (n := 6) (Nat.le_of_ble_eq_true rfl) (Nat.le_of_ble_eq_true rfl) ?_)
    exact W.iret (v := nI 0) hx hb hr (fun t ht hW => ⟨⟨nI 0, (vp_updL fo 0 ((-1).toInt64), yn, yt, nI ga, eB, eE, eA, eL, eN, eC, eS, eW), rfl, Or.inr (Or.inl ⟨hb9, rfl, rfl, rfl⟩), by rw [ht]; exact hP, va_K.moved hW.alike hK, hD⟩, hS.F ht⟩) hS.2.2 d_L_graphs_18
set_option maxHeartbeats 4000000 in
set_option maxRecDepth 100000 in
theorem c_L_graph_ok (l : Launch) (hst : l.stackTraces = false) (dC : Nat → ClassId) (dI : Nat → Nat → Nat) (cI cJ : ClassId) (h : Nat → Nat) (ho sz : Nat) (fo : Nat → Int64) (yn yt ym : Int32) (aK eB eE eA eL eN eC eS eW eT : Nat → Int32) (nF nC : Nat) (pl cf ct : Nat → Nat) (K ga : Nat) (f g q : Int32) (sa : Nat → Nat) (hF : nF ≤ 10) (hC : nC ≤ 20) (hS0 : ∀ c, c < nC → cf c < nF ∧ ct c < nF) (hpl : ∀ i, i < nF → 1 ≤ pl i ∧ pl i ≤ 4) (hK8 : 801 ≤ K) (hcl : ∀ c, c < nC → clN (aK c)) (hga : ga = 0 ∨ (ga = 1 ∧ GI nC cf ct aK K nF yn yt eB eE eA eL eS eW)) : vx_Met l y_L_graph w_L_graph ({ frames := 8, cells := 1, slots := 6, locals := 330 }) (va_Pc [.ref (h 0), .int f, .int g, .int q, .ref ho] (fun U => U.heap.size = sz ∧ va_P (dC, dI) kls ((ho, .inl (cJ, 1, .inr (.inl fo))) :: wC h cI (nI nF) (nI nC) yn yt (nI ga) ym (fun c => nI (pl c)) (fun c => nI (cf c)) (fun c => nI (ct c)) aK eB eE eA eL eN eC eS eW eT) U.heap ∧ va_K (dC, dI) kls (tyH cI cJ) U ∧ va_D (fun _ => True) ((ho, .inl (cJ, 1, .inr (.inl fo))) :: wC h cI (nI nF) (nI nC) yn yt (nI ga) ym (fun c => nI (pl c)) (fun c => nI (cf c)) (fun c => nI (ct c)) aK eB eE eA eL eN eC eS eW eT) ∧ xT sa U ∧ xC U ∧ xZ (va_A ((ho, .inl (cJ, 1, .inr (.inl fo))) :: wC h cI (nI nF) (nI nC) yn yt (nI ga) ym (fun c => nI (pl c)) (fun c => nI (cf c)) (fun c => nI (ct c)) aK eB eE eA eL eN eC eS eW eT) sz) U U.heap)) (va_Qi (fun (r : Int32) (u : (Nat → Int64) × Int32 × Int32 × Int32 × (Nat → Int32) × (Nat → Int32) × (Nat → Int32) × (Nat → Int32) × (Nat → Int32) × (Nat → Int32) × (Nat → Int32) × (Nat → Int32)) => (∃ i j, i < nF ∧ j < nF ∧ f = nI i ∧ g = nI j ∧ gN nC cf ct aK cj K nF ≤ 800 ∧ (∃ k, k < (bitsL (gF nC cf ct aK cj K i) j).length ∧ q = nI k ∧ ∃ F left, F < 2 ^ 32 ∧ u.1 0 = (nI F).toInt64 ∧ selOk (bitsL (gF nC cf ct aK cj K i) j) k 0 F left) ∧ r = nI 0 ∧ u.2.2.2.1 = nI 1 ∧ GI nC cf ct aK K nF u.2.1 u.2.2.1 u.2.2.2.2.1 u.2.2.2.2.2.1 u.2.2.2.2.2.2.1 u.2.2.2.2.2.2.2.1 u.2.2.2.2.2.2.2.2.2.2.1 u.2.2.2.2.2.2.2.2.2.2.2) ∨ ((¬ ((∃ i, i < nF ∧ f = nI i) ∧ (∃ j, j < nF ∧ g = nI j))) ∧ r = nI 1 ∧ u.2 = (yn, yt, nI ga, eB, eE, eA, eL, eN, eC, eS, eW)) ∨ (∃ i j, i < nF ∧ j < nF ∧ f = nI i ∧ g = nI j ∧ gN nC cf ct aK cj K nF ≤ 800 ∧ (¬ (∃ k, k < (bitsL (gF nC cf ct aK cj K i) j).length ∧ q = nI k)) ∧ r = nI 1 ∧ u.2.2.2.1 = nI 1 ∧ GI nC cf ct aK K nF u.2.1 u.2.2.1 u.2.2.2.2.1 u.2.2.2.2.2.1 u.2.2.2.2.2.2.1 u.2.2.2.2.2.2.2.1 u.2.2.2.2.2.2.2.2.2.2.1 u.2.2.2.2.2.2.2.2.2.2.2) ∨ (∃ i j, i < nF ∧ j < nF ∧ f = nI i ∧ g = nI j ∧ 800 < gN nC cf ct aK cj K nF ∧ r = nI 2 ∧ u.2.2.2.1 = nI 1 ∧ GI nC cf ct aK K nF u.2.1 u.2.2.1 u.2.2.2.2.1 u.2.2.2.2.2.1 u.2.2.2.2.2.2.1 u.2.2.2.2.2.2.2.1 u.2.2.2.2.2.2.2.2.2.2.1 u.2.2.2.2.2.2.2.2.2.2.2)) (fun (u : (Nat → Int64) × Int32 × Int32 × Int32 × (Nat → Int32) × (Nat → Int32) × (Nat → Int32) × (Nat → Int32) × (Nat → Int32) × (Nat → Int32) × (Nat → Int32) × (Nat → Int32)) (t : State) => va_P (dC, dI) kls ((ho, .inl (cJ, 1, .inr (.inl u.1))) :: wC h cI (nI nF) (nI nC) u.2.1 u.2.2.1 u.2.2.2.1 ym (fun c => nI (pl c)) (fun c => nI (cf c)) (fun c => nI (ct c)) aK u.2.2.2.2.1 u.2.2.2.2.2.1 u.2.2.2.2.2.2.1 u.2.2.2.2.2.2.2.1 u.2.2.2.2.2.2.2.2.1 u.2.2.2.2.2.2.2.2.2.1 u.2.2.2.2.2.2.2.2.2.2.1 u.2.2.2.2.2.2.2.2.2.2.2 eT) t.heap ∧ va_K (dC, dI) kls (tyH cI cJ) t ∧ va_D (va_A ((ho, .inl (cJ, 1, .inr (.inl fo))) :: wC h cI (nI nF) (nI nC) yn yt (nI ga) ym (fun c => nI (pl c)) (fun c => nI (cf c)) (fun c => nI (ct c)) aK eB eE eA eL eN eC eS eW eT) sz) ((ho, .inl (cJ, 1, .inr (.inl u.1))) :: wC h cI (nI nF) (nI nC) u.2.1 u.2.2.1 u.2.2.2.1 ym (fun c => nI (pl c)) (fun c => nI (cf c)) (fun c => nI (ct c)) aK u.2.2.2.2.1 u.2.2.2.2.2.1 u.2.2.2.2.2.2.1 u.2.2.2.2.2.2.2.1 u.2.2.2.2.2.2.2.2.1 u.2.2.2.2.2.2.2.2.2.1 u.2.2.2.2.2.2.2.2.2.2.1 u.2.2.2.2.2.2.2.2.2.2.2 eT)) (va_A ((ho, .inl (cJ, 1, .inr (.inl fo))) :: wC h cI (nI nF) (nI nC) yn yt (nI ga) ym (fun c => nI (pl c)) (fun c => nI (cf c)) (fun c => nI (ct c)) aK eB eE eA eL eN eC eS eW eT) sz)) (vx_X (fun (_ : Unit) => False) (fun _ _ _ => True) (va_A ((ho, .inl (cJ, 1, .inr (.inl fo))) :: wC h cI (nI nF) (nI nC) yn yt (nI ga) ym (fun c => nI (pl c)) (fun c => nI (cf c)) (fun c => nI (ct c)) aK eB eE eA eL eN eC eS eW eT) sz)) 1 6 (va_A ((ho, .inl (cJ, 1, .inr (.inl fo))) :: wC h cI (nI nF) (nI nC) yn yt (nI ga) ym (fun c => nI (pl c)) (fun c => nI (cf c)) (fun c => nI (ct c)) aK eB eE eA eL eN eC eS eW eT) sz) := by
  refine vx_ofWH (cc := c_L_graph) (maxL := 6) (ret := (some .int)) (hh := hh_L_graph) (by decide) rfl ?_
  intro p e s m args below meth c s₁ B hml hv
  obtain ⟨rfl, hsz, hP, hK, hD0, hT, hC9, hZ⟩ := hv
  have hx := B.exec
  have hb := B.bytes
  have hr := B.returns
  have hts := atoms_spec (ws := w_L_graph) B.pre
  have htb := vx_table (x := y_L_graph) B (hts _ List.mem_cons_self)
  have hk : ∀ w ∈ wHw, w.before _ s = true := fun w h => hts w (List.mem_cons_of_mem _ h)
  have hown : s.vm.findClass R_L = some m.cls := findClass_of_methodNamed B.named
  subst hsz
  have hD := hD0.self (sz := s.heap.size)
  generalize hAe : va_A ((ho, .inl (cJ, 1, .inr (.inl fo))) :: wC h cI (nI nF) (nI nC) yn yt (nI ga) ym (fun c => nI (pl c)) (fun c => nI (cf c)) (fun c => nI (ct c)) aK eB eE eA eL eN eC eS eW eT) s.heap.size = A at hD hZ ⊢
  have hA : ∀ q : Nat, s.heap.size ≤ q → A q := fun q h => by rw [← hAe]; exact Or.inr h
  have hS : va_S A s.heap s.heap [] := va_S.rf
  have hl := lv_entry ([.ref (h 0), .int f, .int g, .int q, .ref ho]) (n := 6) (Nat.le_of_ble_eq_true rfl)
  rw [lg_entry_eq]
  generalize (lg_sl ([.ref (h 0), .int f, .int g, .int q, .ref ho]) ++ List.replicate (6 - (lg_sl ([.ref (h 0), .int f, .int g, .int q, .ref ho])).length) Slot.unset).toArray = ls at hl ⊢
  have hl : lv_has ls 6 [(0, .ref (h 0)), (1, .int f), (2, .int g), (3, .int q), (4, .ref ho)] := hl
  refine lv_aload hx hb d_L_graph_0 (lv_at hl 4 rfl) ?_
  refine lv_iconst (v := nI 0) hx hb d_L_graph_2 (by decide +kernel) ?_
  refine lv_aload_n hx hb d_L_graph_3 rfl (lv_at hl 0 rfl) ?_
  refine lv_iload_n hx hb d_L_graph_4 rfl (lv_at hl 1 rfl) ?_
  refine lv_iload_n hx hb d_L_graph_5 rfl (lv_at hl 2 rfl) ?_
  refine lv_iload_n hx hb d_L_graph_6 rfl (lv_at hl 3 rfl) ?_
  rcases Classical.em ((∃ i, i < nF ∧ f = nI i) ∧ (∃ j, j < nF ∧ g = nI j)) with hb9 | hb9
  · obtain ⟨⟨i1, hi1, rfl⟩, ⟨j1, hj1, rfl⟩⟩ := hb9
    rcases (show gN nC cf ct aK cj K nF ≤ 800 ∨ 800 < gN nC cf ct aK cj K nF by omega) with hfew | hmany
    · rcases Classical.em (∃ k, k < (bitsL (gF nC cf ct aK cj K i1) j1).length ∧ q = nI k) with hkq | hkn
      · obtain ⟨k1, hkq, rfl⟩ := hkq
        have hPc := hP.sub (ws' := wC h cI (nI nF) (nI nC) yn yt (nI ga) ym (fun c => nI (pl c)) (fun c => nI (cf c)) (fun c => nI (ct c)) aK eB eE eA eL eN eC eS eW eT) [1, 2, 3, 4, 5, 6, 7, 8, 9, 10, 11, 12, 13, 14, 15, 16, 17] rfl
        have hDc := hD.sub (ws' := wC h cI (nI nF) (nI nC) yn yt (nI ga) ym (fun c => nI (pl c)) (fun c => nI (cf c)) (fun c => nI (ct c)) aK eB eE eA eL eN eC eS eW eT) [1, 2, 3, 4, 5, 6, 7, 8, 9, 10, 11, 12, 13, 14, 15, 16, 17] (by decide) rfl
        have hKc := hK.sub (tys' := tyC cI) [0] rfl
        have hFc := va_free (wc := wC h cI (nI nF) (nI nC) yn yt (nI ga) ym (fun c => nI (pl c)) (fun c => nI (cf c)) (fun c => nI (ct c)) aK eB eE eA eL eN eC eS eW eT) hD hS hA [1, 2, 3, 4, 5, 6, 7, 8, 9, 10, 11, 12, 13, 14, 15, 16, 17] rfl
        refine va_calli (va_runV (As := [.int (nI i1), .int (nI j1), .int (nI k1)]) (rest := [.int (nI 0), .ref ho]) ⟨hx, hb, hml, hown, hk⟩ (c_X_graph_ok l dC dI cI h s.heap.size yn yt ym aK eB eE eA eL eN eC eS eW eT nF nC pl cf ct K ga i1 j1 k1 (hF) (hC) (hS0) (hpl) (hK8) (hcl) (hga) (hfew) (hi1) (hj1) (hkq)) (cwV 3 hk gh_29 rfl rfl rfl (by decide +kernel) ⟨Nat.le_of_ble_eq_true rfl, Nat.le_of_ble_eq_true rfl⟩) ⟨fun a U g mk q => by obtain ⟨q0, q1, qP, qK, qD⟩ := q; exact ⟨q0, q1, qP, va_K.moved (u := U) (U := U.calling g mk a) (Vm.Alike.refl U.vm) qK, qD⟩, va_recv hK hP (ci := 4) (q0 := 1) rfl rfl, fun U hU hW => ⟨rfl, by rw [hU], by rw [hU]; exact hPc, va_K.moved hW.alike hKc, hDc.weaken (fun _ _ _ _ => trivial)⟩⟩ rfl rfl hl.1 rfl (lv_room (Nat.le_of_ble_eq_true rfl)) d_L_graph_7 ⟨Nat.le_of_ble_eq_true rfl, Nat.le_of_ble_eq_true rfl⟩) hS (fun q _ h => hFc q h) hFc (fun r1 u9 t H1 locs ht hvm hw hB hz1 hk1 hS => ?_)
        obtain ⟨yn9, yt9, yg9, eB9, eE9, eA9, eL9, eN9, eC9, eS9, eW9⟩ := u9
        obtain ⟨hP1, hK1, hD1⟩ := hB
        rw [ht] at hP1
        try dsimp only at hw hP1 hD1
        obtain ⟨hP, hD⟩ := va_join (wr := [(ho, .inl (cJ, 1, .inr (.inl fo)))]) (w1 := wC h cI (nI nF) (nI nC) yn9 yt9 yg9 ym (fun c => nI (pl c)) (fun c => nI (cf c)) (fun c => nI (ct c)) aK eB9 eE9 eA9 eL9 eN9 eC9 eS9 eW9 eT) hP hD [1, 2, 3, 4, 5, 6, 7, 8, 9, 10, 11, 12, 13, 14, 15, 16, 17] [0] rfl rfl (by decide) (by decide) hk1 hFc hP1 hD1
        generalize H1 = H at hP hS ⊢
        obtain ⟨ht0, hg1, hgo, F, left, hF32, hv9, hsel⟩ := hw
        subst hv9
        have hP : va_P (dC, dI) kls ((ho, .inl (cJ, 1, .inr (.inl fo))) :: wC h cI (nI nF) (nI nC) yn9 yt9 yg9 ym (fun c => nI (pl c)) (fun c => nI (cf c)) (fun c => nI (ct c)) aK eB9 eE9 eA9 eL9 eN9 eC9 eS9 eW9 eT) H := hP
        have hD : va_D A ((ho, .inl (cJ, 1, .inr (.inl fo))) :: wC h cI (nI nF) (nI nC) yn9 yt9 yg9 ym (fun c => nI (pl c)) (fun c => nI (cf c)) (fun c => nI (ct c)) aK eB9 eE9 eA9 eL9 eN9 eC9 eS9 eW9 eT) := hD
        refine lv_i2l (v := (nI F).toInt64) hx hb d_L_graph_10 rfl ?_
        refine va_last hx hb hK hP hD hS 0 1 rfl rfl (pk_in 0 1 (by omega)) d_L_graph_11 (fun H locs hP hD hS => ?_)
        rw [nI_clamp (n := 0) (by omega)] at hP hD
        have hP : va_P (dC, dI) kls ((ho, .inl (cJ, 1, .inr (.inl (vp_updL fo 0 ((nI F).toInt64))))) :: wC h cI (nI nF) (nI nC) yn9 yt9 yg9 ym (fun c => nI (pl c)) (fun c => nI (cf c)) (fun c => nI (ct c)) aK eB9 eE9 eA9 eL9 eN9 eC9 eS9 eW9 eT) H := hP
        have hD : va_D A ((ho, .inl (cJ, 1, .inr (.inl (vp_updL fo 0 ((nI F).toInt64))))) :: wC h cI (nI nF) (nI nC) yn9 yt9 yg9 ym (fun c => nI (pl c)) (fun c => nI (cf c)) (fun c => nI (ct c)) aK eB9 eE9 eA9 eL9 eN9 eC9 eS9 eW9 eT) := hD
        refine lv_goto (tgt := 23) hx hb d_L_graph_12 (by decide) ?_
        refine lv_iconst (v := nI 0) hx hb d_L_graph_23 (by decide +kernel) ?_
        refine vx_ret (W.widen (k := 1) (n := 6) (Nat.le_of_ble_eq_true rfl) (Nat.le_of_ble_eq_true rfl) ?_)
        exact W.iret (v := nI 0) hx hb hr (fun t ht hW => ⟨⟨nI 0, (vp_updL fo 0 ((nI F).toInt64), yn9, yt9, yg9, eB9, eE9, eA9, eL9, eN9, eC9, eS9, eW9), rfl, Or.inl ⟨i1, j1, hi1, hj1, rfl, rfl, hfew, ⟨k1, hkq, rfl, F, left, hF32, rfl, hsel⟩, rfl, ⟨hg1, Or.inl ⟨ht0, hgo⟩⟩⟩, by rw [ht]; exact hP, va_K.moved hW.alike hK, hD⟩, hS.F ht⟩) hS.2.2 d_L_graph_24
      · have hPc := hP.sub (ws' := wC h cI (nI nF) (nI nC) yn yt (nI ga) ym (fun c => nI (pl c)) (fun c => nI (cf c)) (fun c => nI (ct c)) aK eB eE eA eL eN eC eS eW eT) [1, 2, 3, 4, 5, 6, 7, 8, 9, 10, 11, 12, 13, 14, 15, 16, 17] rfl
        have hDc := hD.sub (ws' := wC h cI (nI nF) (nI nC) yn yt (nI ga) ym (fun c => nI (pl c)) (fun c => nI (cf c)) (fun c => nI (ct c)) aK eB eE eA eL eN eC eS eW eT) [1, 2, 3, 4, 5, 6, 7, 8, 9, 10, 11, 12, 13, 14, 15, 16, 17] (by decide) rfl
        have hKc := hK.sub (tys' := tyC cI) [0] rfl
        have hFc := va_free (wc := wC h cI (nI nF) (nI nC) yn yt (nI ga) ym (fun c => nI (pl c)) (fun c => nI (cf c)) (fun c => nI (ct c)) aK eB eE eA eL eN eC eS eW eT) hD hS hA [1, 2, 3, 4, 5, 6, 7, 8, 9, 10, 11, 12, 13, 14, 15, 16, 17] rfl
        refine vx_calli (vx_runV (As := [.int (nI i1), .int (nI j1), .int q]) (rest := [.int (nI 0), .ref ho]) ⟨hx, hb, hml, hown, hk⟩ (c_X_graph_x2 l hst dC dI cI h s.heap.size yn yt ym aK eB eE eA eL eN eC eS eW eT nF nC pl cf ct K ga i1 j1 q sa (hF) (hC) (hS0) (hpl) (hK8) (hcl) (hga) (hfew) (hi1) (hj1) (hkn)) (cwV 3 hk ghx_29 rfl rfl rfl (by decide +kernel) ⟨Nat.le_of_ble_eq_true rfl, Nat.le_of_ble_eq_true rfl⟩) ⟨fun a U g mk q => by obtain ⟨q0, q1, qP, qK, qD, qT, qZ⟩ := q; exact ⟨q0, q1, qP, va_K.moved (u := U) (U := U.calling g mk a) (Vm.Alike.refl U.vm) qK, qD, xT.same rfl qT, xZ.blind (u := U) (U := U.calling g mk a) (Vm.Alike.refl U.vm) qZ⟩, va_recv hK hP (ci := 4) (q0 := 1) rfl rfl, fun U hU hW => ⟨rfl, by rw [hU], by rw [hU]; exact hPc, va_K.moved hW.alike hKc, hDc.weaken (fun _ _ _ _ => trivial), xT.warm hW hT, xZ.here hZ hS hFc hW.alike hU⟩⟩ rfl rfl hl.1 rfl (lv_room (Nat.le_of_ble_eq_true rfl)) d_L_graph_7 ⟨Nat.le_of_ble_eq_true rfl, Nat.le_of_ble_eq_true rfl⟩) hS (fun q _ h => hFc q h) hFc (fun q _ h => hFc q h) (fun E ce q9 u9 t H1 locs ht hvm hw hB hz1 hk1 hS hce hcv hcl9 => ?_) (fun r1 u9 t H1 locs ht hvm hf9 => hf9.elim)
        obtain ⟨yn9, yt9, yg9, eB9, eE9, eA9, eL9, eN9, eC9, eS9, eW9⟩ := u9
        obtain ⟨hE, hP1, hK1, hD1⟩ := hB
        subst hE
        rw [ht] at hP1
        try dsimp only at hw hP1 hD1
        obtain ⟨hP, hD⟩ := va_join (wr := [(ho, .inl (cJ, 1, .inr (.inl fo)))]) (w1 := wC h cI (nI nF) (nI nC) yn9 yt9 yg9 ym (fun c => nI (pl c)) (fun c => nI (cf c)) (fun c => nI (ct c)) aK eB9 eE9 eA9 eL9 eN9 eC9 eS9 eW9 eT) hP hD [1, 2, 3, 4, 5, 6, 7, 8, 9, 10, 11, 12, 13, 14, 15, 16, 17] [0] rfl rfl (by decide) (by decide) hk1 hFc hP1 hD1
        refine vx_catch (own := R_L) (name := "java/lang/IndexOutOfBoundsException") (E := "java/lang/IndexOutOfBoundsException") hown [] ⟨0, 12, 15, 21⟩ [⟨0, 12, 19, 27⟩] (htb.trans rfl) (fun z hz => absurd hz List.not_mem_nil) (by decide) (by decide) (hk _ k_H_9) (va_Nw.use rfl hT.2.2.2.2.2.1) hce hcv hcl9 ?_
        generalize H1 = H at hP hS ⊢
        have hP : va_P (dC, dI) kls ((ho, .inl (cJ, 1, .inr (.inl fo))) :: wC h cI (nI nF) (nI nC) yn9 yt9 yg9 ym (fun c => nI (pl c)) (fun c => nI (cf c)) (fun c => nI (ct c)) aK eB9 eE9 eA9 eL9 eN9 eC9 eS9 eW9 eT) H := hP
        have hD : va_D A ((ho, .inl (cJ, 1, .inr (.inl fo))) :: wC h cI (nI nF) (nI nC) yn9 yt9 yg9 ym (fun c => nI (pl c)) (fun c => nI (cf c)) (fun c => nI (ct c)) aK eB9 eE9 eA9 eL9 eN9 eC9 eS9 eW9 eT) := hD
        refine lv_astore (lv' := [(5, .ref q9), (0, .ref (h 0)), (1, .int (nI i1)), (2, .int (nI j1)), (3, .int q), (4, .ref ho)]) hx hb d_L_graph_15 hl (by decide) rfl (fun ls hl => ?_)
        refine lv_iconst (v := nI 1) hx hb d_L_graph_17 (by decide +kernel) ?_
        obtain ⟨ht0, hg1, hgo⟩ := hw
        refine vx_ret (W.widen (k := 1) (n := 6) (Nat.le_of_ble_eq_true rfl) (Nat.le_of_ble_eq_true rfl) ?_)
        exact W.iret (v := nI 1) hx hb hr (fun t ht hW => ⟨⟨nI 1, (fo, yn9, yt9, yg9, eB9, eE9, eA9, eL9, eN9, eC9, eS9, eW9), rfl, Or.inr (Or.inr (Or.inl ⟨i1, j1, hi1, hj1, rfl, rfl, hfew, hkn, rfl, ⟨hg1, Or.inl ⟨ht0, hgo⟩⟩⟩)), by rw [ht]; exact hP, va_K.moved hW.alike hK, hD⟩, hS.F ht⟩) hS.2.2 d_L_graph_18
    · have hPc := hP.sub (ws' := wC h cI (nI nF) (nI nC) yn yt (nI ga) ym (fun c => nI (pl c)) (fun c => nI (cf c)) (fun c => nI (ct c)) aK eB eE eA eL eN eC eS eW eT) [1, 2, 3, 4, 5, 6, 7, 8, 9, 10, 11, 12, 13, 14, 15, 16, 17] rfl
      have hDc := hD.sub (ws' := wC h cI (nI nF) (nI nC) yn yt (nI ga) ym (fun c => nI (pl c)) (fun c => nI (cf c)) (fun c => nI (ct c)) aK eB eE eA eL eN eC eS eW eT) [1, 2, 3, 4, 5, 6, 7, 8, 9, 10, 11, 12, 13, 14, 15, 16, 17] (by decide) rfl
      have hKc := hK.sub (tys' := tyC cI) [0] rfl
      have hFc := va_free (wc := wC h cI (nI nF) (nI nC) yn yt (nI ga) ym (fun c => nI (pl c)) (fun c => nI (cf c)) (fun c => nI (ct c)) aK eB eE eA eL eN eC eS eW eT) hD hS hA [1, 2, 3, 4, 5, 6, 7, 8, 9, 10, 11, 12, 13, 14, 15, 16, 17] rfl
      refine vx_calli (vx_runV (As := [.int (nI i1), .int (nI j1), .int q]) (rest := [.int (nI 0), .ref ho]) ⟨hx, hb, hml, hown, hk⟩ (c_X_graph_many l hst dC dI cI h s.heap.size yn yt ym aK eB eE eA eL eN eC eS eW eT nF nC pl cf ct K ga i1 j1 q sa (hF) (hC) (hS0) (hpl) (hK8) (hcl) (hga) (hmany) (hi1) (hj1)) (cwV 3 hk ghx_29 rfl rfl rfl (by decide +kernel) ⟨Nat.le_of_ble_eq_true rfl, Nat.le_of_ble_eq_true rfl⟩) ⟨fun a U g mk q => by obtain ⟨q0, q1, qP, qK, qD, qT, qZ⟩ := q; exact ⟨q0, q1, qP, va_K.moved (u := U) (U := U.calling g mk a) (Vm.Alike.refl U.vm) qK, qD, xT.same rfl qT, xZ.blind (u := U) (U := U.calling g mk a) (Vm.Alike.refl U.vm) qZ⟩, va_recv hK hP (ci := 4) (q0 := 1) rfl rfl, fun U hU hW => ⟨rfl, by rw [hU], by rw [hU]; exact hPc, va_K.moved hW.alike hKc, hDc.weaken (fun _ _ _ _ => trivial), xT.warm hW hT, xZ.here hZ hS hFc hW.alike hU⟩⟩ rfl rfl hl.1 rfl (lv_room (Nat.le_of_ble_eq_true rfl)) d_L_graph_7 ⟨Nat.le_of_ble_eq_true rfl, Nat.le_of_ble_eq_true rfl⟩) hS (fun q _ h => hFc q h) hFc (fun q _ h => hFc q h) (fun E ce q9 u9 t H1 locs ht hvm hw hB hz1 hk1 hS hce hcv hcl9 => ?_) (fun r1 u9 t H1 locs ht hvm hf9 => hf9.elim)
      obtain ⟨yn9, yt9, yg9, eB9, eE9, eA9, eL9, eN9, eC9, eS9, eW9⟩ := u9
      obtain ⟨hE, hP1, hK1, hD1⟩ := hB
      subst hE
      rw [ht] at hP1
      try dsimp only at hw hP1 hD1
      obtain ⟨hP, hD⟩ := va_join (wr := [(ho, .inl (cJ, 1, .inr (.inl fo)))]) (w1 := wC h cI (nI nF) (nI nC) yn9 yt9 yg9 ym (fun c => nI (pl c)) (fun c => nI (cf c)) (fun c => nI (ct c)) aK eB9 eE9 eA9 eL9 eN9 eC9 eS9 eW9 eT) hP hD [1, 2, 3, 4, 5, 6, 7, 8, 9, 10, 11, 12, 13, 14, 15, 16, 17] [0] rfl rfl (by decide) (by decide) hk1 hFc hP1 hD1
      refine vx_catch (own := R_L) (name := "java/lang/UnsupportedOperationException") (E := "java/lang/UnsupportedOperationException") hown [⟨0, 12, 15, 21⟩] ⟨0, 12, 19, 27⟩ [] (htb.trans rfl) (fun z hz => by rw [List.mem_singleton.mp hz]; exact Or.inr ⟨(by decide), "java/lang/IndexOutOfBoundsException", hk _ k_H_9, hC9.2.2⟩) (by decide) (by decide) (hk _ k_H_10) (va_Nw.use rfl hT.2.2.2.2.2.2.1) hce hcv hcl9 ?_
      generalize H1 = H at hP hS ⊢
      have hP : va_P (dC, dI) kls ((ho, .inl (cJ, 1, .inr (.inl fo))) :: wC h cI (nI nF) (nI nC) yn9 yt9 yg9 ym (fun c => nI (pl c)) (fun c => nI (cf c)) (fun c => nI (ct c)) aK eB9 eE9 eA9 eL9 eN9 eC9 eS9 eW9 eT) H := hP
      have hD : va_D A ((ho, .inl (cJ, 1, .inr (.inl fo))) :: wC h cI (nI nF) (nI nC) yn9 yt9 yg9 ym (fun c => nI (pl c)) (fun c => nI (cf c)) (fun c => nI (ct c)) aK eB9 eE9 eA9 eL9 eN9 eC9 eS9 eW9 eT) := hD
      refine lv_astore (lv' := [(5, .ref q9), (0, .ref (h 0)), (1, .int (nI i1)), (2, .int (nI j1)), (3, .int q), (4, .ref ho)]) hx hb d_L_graph_19 hl (by decide) rfl (fun ls hl => ?_)
      refine lv_iconst (v := nI 2) hx hb d_L_graph_21 (by decide +kernel) ?_
      refine vx_ret (W.widen (k := 1) (n := 6) (Nat.le_of_ble_eq_true rfl) (Nat.le_of_ble_eq_true rfl) ?_)
      exact W.iret (v := nI 2) hx hb hr (fun t ht hW => ⟨⟨nI 2, (fo, yn9, yt9, yg9, eB9, eE9, eA9, eL9, eN9, eC9, eS9, eW9), rfl, Or.inr (Or.inr (Or.inr ⟨i1, j1, hi1, hj1, rfl, rfl, hmany, rfl, hw⟩)), by rw [ht]; exact hP, va_K.moved hW.alike hK, hD⟩, hS.F ht⟩) hS.2.2 d_L_graph_22
  · have hPc := hP.sub (ws' := wC h cI (nI nF) (nI nC) yn yt (nI ga) ym (fun c => nI (pl c)) (fun c => nI (cf c)) (fun c => nI (ct c)) aK eB eE eA eL eN eC eS eW eT) [1, 2, 3, 4, 5, 6, 7, 8, 9, 10, 11, 12, 13, 14, 15, 16, 17] rfl
    have hDc := hD.sub (ws' := wC h cI (nI nF) (nI nC) yn yt (nI ga) ym (fun c => nI (pl c)) (fun c => nI (cf c)) (fun c => nI (ct c)) aK eB eE eA eL eN eC eS eW eT) [1, 2, 3, 4, 5, 6, 7, 8, 9, 10, 11, 12, 13, 14, 15, 16, 17] (by decide) rfl
    have hKc := hK.sub (tys' := tyC cI) [0] rfl
    have hFc := va_free (wc := wC h cI (nI nF) (nI nC) yn yt (nI ga) ym (fun c => nI (pl c)) (fun c => nI (cf c)) (fun c => nI (ct c)) aK eB eE eA eL eN eC eS eW eT) hD hS hA [1, 2, 3, 4, 5, 6, 7, 8, 9, 10, 11, 12, 13, 14, 15, 16, 17] rfl
    refine vx_calli (vx_runV (As := [.int f, .int g, .int q]) (rest := [.int (nI 0), .ref ho]) ⟨hx, hb, hml, hown, hk⟩ (c_X_graph_x1 l hst dC dI cI h s.heap.size yn yt (nI ga) ym aK eB eE eA eL eN eC eS eW eT nF nC pl cf ct f g q sa (hF) (hb9)) (cwV 3 hk ghx_29 rfl rfl rfl (by decide +kernel) ⟨Nat.le_of_ble_eq_true rfl, Nat.le_of_ble_eq_true rfl⟩) ⟨fun a U g mk q => by obtain ⟨q0, q1, qP, qK, qD, qT, qZ⟩ := q; exact ⟨q0, q1, qP, va_K.moved (u := U) (U := U.calling g mk a) (Vm.Alike.refl U.vm) qK, qD, xT.same rfl qT, xZ.blind (u := U) (U := U.calling g mk a) (Vm.Alike.refl U.vm) qZ⟩, va_recv hK hP (ci := 4) (q0 := 1) rfl rfl, fun U hU hW => ⟨rfl, by rw [hU], by rw [hU]; exact hPc, va_K.moved hW.alike hKc, hDc.weaken (fun _ _ _ _ => trivial), xT.warm hW hT, xZ.here hZ hS hFc hW.alike hU⟩⟩ rfl rfl hl.1 rfl (lv_room (Nat.le_of_ble_eq_true rfl)) d_L_graph_7 ⟨Nat.le_of_ble_eq_true rfl, Nat.le_of_ble_eq_true rfl⟩) hS (fun q _ h => hFc q h) hFc (fun q _ h => hFc q h) (fun E ce q9 u9 t H1 locs ht hvm hw hB hz1 hk1 hS hce hcv hcl9 => ?_) (fun r1 u9 t H1 locs ht hvm hf9 => hf9.elim)
    obtain ⟨hE, hP1, hK1, hD1⟩ := hB
    subst hE
    rw [ht] at hP1
    try dsimp only at hw hP1 hD1
    obtain ⟨hP, hD⟩ := va_join (wr := [(ho, .inl (cJ, 1, .inr (.inl fo)))]) (w1 := wC h cI (nI nF) (nI nC) yn yt (nI ga) ym (fun c => nI (pl c)) (fun c => nI (cf c)) (fun c => nI (ct c)) aK eB eE eA eL eN eC eS eW eT) hP hD [1, 2, 3, 4, 5, 6, 7, 8, 9, 10, 11, 12, 13, 14, 15, 16, 17] [0] rfl rfl (by decide) (by decide) hk1 hFc hP1 hD1
    refine vx_catch (own := R_L) (name := "java/lang/IndexOutOfBoundsException") (E := "java/lang/IndexOutOfBoundsException") hown [] ⟨0, 12, 15, 21⟩ [⟨0, 12, 19, 27⟩] (htb.trans rfl) (fun z hz => absurd hz List.not_mem_nil) (by decide) (by decide) (hk _ k_H_9) (va_Nw.use rfl hT.2.2.2.2.2.1) hce hcv hcl9 ?_
    generalize H1 = H at hP hS ⊢
    have hP : va_P (dC, dI) kls ((ho, .inl (cJ, 1, .inr (.inl fo))) :: wC h cI (nI nF) (nI nC) yn yt (nI ga) ym (fun c => nI (pl c)) (fun c => nI (cf c)) (fun c => nI (ct c)) aK eB eE eA eL eN eC eS eW eT) H := hP
    have hD : va_D A ((ho, .inl (cJ, 1, .inr (.inl fo))) :: wC h cI (nI nF) (nI nC) yn yt (nI ga) ym (fun c => nI (pl c)) (fun c => nI (cf c)) (fun c => nI (ct c)) aK eB eE eA eL eN eC eS eW eT) := hD
    refine lv_astore (lv' := [(5, .ref q9), (0, .ref (h 0)), (1, .int f), (2, .int g), (3, .int q), (4, .ref ho)]) hx hb d_L_graph_15 hl (by decide) rfl (fun ls hl => ?_)
    refine lv_iconst (v := nI 1) hx hb d_L_graph_17 (by decide +kernel) ?_
    refine vx_ret (W.widen (k := 1) (n := 6) (Nat.le_of_ble_eq_true rfl) (Nat.le_of_ble_eq_true rfl) ?_)
    exact W.iret (v := nI 1) hx hb hr (fun t ht hW => ⟨⟨nI 1, (fo, yn, yt, nI ga, eB, eE, eA, eL, eN, eC, eS, eW), rfl, Or.inr (Or.inl ⟨hb9, rfl, rfl⟩), by rw [ht]; exact hP, va_K.moved hW.alike hK, hD⟩, hS.F ht⟩) hS.2.2 d_L_graph_18
set_option maxHeartbeats 4000000 in
set_option maxRecDepth 100000 in
theorem c_L_falls_ok (l : Launch) (hst : l.stackTraces = false) (dC : Nat → ClassId) (dI : Nat → Nat → Nat) (cI cJ : ClassId) (h : Nat → Nat) (ho sz : Nat) (fo : Nat → Int64) (yn yt ym : Int32) (aK eB eE eA eL eN eC eS eW eT : Nat → Int32) (nF nC : Nat) (pl cf ct : Nat → Nat) (K ga : Nat) (f : Int32) (sa : Nat → Nat) (hF : nF ≤ 10) (hC : nC ≤ 20) (hS0 : ∀ c, c < nC → cf c < nF ∧ ct c < nF) (hpl : ∀ i, i < nF → 1 ≤ pl i ∧ pl i ≤ 4) (hK8 : 801 ≤ K) (hcl : ∀ c, c < nC → clN (aK c)) (hga : ga = 0 ∨ (ga = 1 ∧ GI nC cf ct aK K nF yn yt eB eE eA eL eS eW)) : vx_Met l y_L_falls w_L_falls ({ frames := 8, cells := 1, slots := 6, locals := 330 }) (va_Pc [.ref (h 0), .int f, .ref ho] (fun U => U.heap.size = sz ∧ va_P (dC, dI) kls ((ho, .inl (cJ, 1, .inr (.inl fo))) :: wC h cI (nI nF) (nI nC) yn yt (nI ga) ym (fun c => nI (pl c)) (fun c => nI (cf c)) (fun c => nI (ct c)) aK eB eE eA eL eN eC eS eW eT) U.heap ∧ va_K (dC, dI) kls (tyH cI cJ) U ∧ va_D (fun _ => True) ((ho, .inl (cJ, 1, .inr (.inl fo))) :: wC h cI (nI nF) (nI nC) yn yt (nI ga) ym (fun c => nI (pl c)) (fun c => nI (cf c)) (fun c => nI (ct c)) aK eB eE eA eL eN eC eS eW eT) ∧ xT sa U ∧ xC U ∧ xZ (va_A ((ho, .inl (cJ, 1, .inr (.inl fo))) :: wC h cI (nI nF) (nI nC) yn yt (nI ga) ym (fun c => nI (pl c)) (fun c => nI (cf c)) (fun c => nI (ct c)) aK eB eE eA eL eN eC eS eW eT) sz) U U.heap)) (va_Qi (fun (r : Int32) (u : (Nat → Int64) × Int32 × Int32 × Int32 × (Nat → Int32) × (Nat → Int32) × (Nat → Int32) × (Nat → Int32) × (Nat → Int32) × (Nat → Int32) × (Nat → Int32) × (Nat → Int32)) => (∃ i, i < nF ∧ f = nI i ∧ gN nC cf ct aK cj K nF ≤ 800 ∧ r = nI 0 ∧ ((u.1 0 = 1 ∧ fbO nC cf ct aK K i none) ∨ (u.1 0 = 0 ∧ ∃ j, fbO nC cf ct aK K i (some j))) ∧ u.2.2.2.1 = nI 1 ∧ GI nC cf ct aK K nF u.2.1 u.2.2.1 u.2.2.2.2.1 u.2.2.2.2.2.1 u.2.2.2.2.2.2.1 u.2.2.2.2.2.2.2.1 u.2.2.2.2.2.2.2.2.2.2.1 u.2.2.2.2.2.2.2.2.2.2.2) ∨ ((¬ (∃ i, i < nF ∧ f = nI i)) ∧ r = nI 1 ∧ u.2 = (yn, yt, nI ga, eB, eE, eA, eL, eN, eC, eS, eW)) ∨ (∃ i, i < nF ∧ f = nI i ∧ 800 < gN nC cf ct aK cj K nF ∧ r = nI 2 ∧ u.2.2.2.1 = nI 1 ∧ GI nC cf ct aK K nF u.2.1 u.2.2.1 u.2.2.2.2.1 u.2.2.2.2.2.1 u.2.2.2.2.2.2.1 u.2.2.2.2.2.2.2.1 u.2.2.2.2.2.2.2.2.2.2.1 u.2.2.2.2.2.2.2.2.2.2.2)) (fun (u : (Nat → Int64) × Int32 × Int32 × Int32 × (Nat → Int32) × (Nat → Int32) × (Nat → Int32) × (Nat → Int32) × (Nat → Int32) × (Nat → Int32) × (Nat → Int32) × (Nat → Int32)) (t : State) => va_P (dC, dI) kls ((ho, .inl (cJ, 1, .inr (.inl u.1))) :: wC h cI (nI nF) (nI nC) u.2.1 u.2.2.1 u.2.2.2.1 ym (fun c => nI (pl c)) (fun c => nI (cf c)) (fun c => nI (ct c)) aK u.2.2.2.2.1 u.2.2.2.2.2.1 u.2.2.2.2.2.2.1 u.2.2.2.2.2.2.2.1 u.2.2.2.2.2.2.2.2.1 u.2.2.2.2.2.2.2.2.2.1 u.2.2.2.2.2.2.2.2.2.2.1 u.2.2.2.2.2.2.2.2.2.2.2 eT) t.heap ∧ va_K (dC, dI) kls (tyH cI cJ) t ∧ va_D (va_A ((ho, .inl (cJ, 1, .inr (.inl fo))) :: wC h cI (nI nF) (nI nC) yn yt (nI ga) ym (fun c => nI (pl c)) (fun c => nI (cf c)) (fun c => nI (ct c)) aK eB eE eA eL eN eC eS eW eT) sz) ((ho, .inl (cJ, 1, .inr (.inl u.1))) :: wC h cI (nI nF) (nI nC) u.2.1 u.2.2.1 u.2.2.2.1 ym (fun c => nI (pl c)) (fun c => nI (cf c)) (fun c => nI (ct c)) aK u.2.2.2.2.1 u.2.2.2.2.2.1 u.2.2.2.2.2.2.1 u.2.2.2.2.2.2.2.1 u.2.2.2.2.2.2.2.2.1 u.2.2.2.2.2.2.2.2.2.1 u.2.2.2.2.2.2.2.2.2.2.1 u.2.2.2.2.2.2.2.2.2.2.2 eT)) (va_A ((ho, .inl (cJ, 1, .inr (.inl fo))) :: wC h cI (nI nF) (nI nC) yn yt (nI ga) ym (fun c => nI (pl c)) (fun c => nI (cf c)) (fun c => nI (ct c)) aK eB eE eA eL eN eC eS eW eT) sz)) (vx_X (fun (_ : Unit) => False) (fun _ _ _ => True) (va_A ((ho, .inl (cJ, 1, .inr (.inl fo))) :: wC h cI (nI nF) (nI nC) yn yt (nI ga) ym (fun c => nI (pl c)) (fun c => nI (cf c)) (fun c => nI (ct c)) aK eB eE eA eL eN eC eS eW eT) sz)) 1 6 (va_A ((ho, .inl (cJ, 1, .inr (.inl fo))) :: wC h cI (nI nF) (nI nC) yn yt (nI ga) ym (fun c => nI (pl c)) (fun c => nI (cf c)) (fun c => nI (ct c)) aK eB eE eA eL eN eC eS eW eT) sz) := by
  refine vx_ofWH (cc := c_L_falls) (maxL := 4) (ret := (some .int)) (hh := hh_L_falls) (by decide) rfl ?_
  intro p e s m args below meth c s₁ B hml hv
  obtain ⟨rfl, hsz, hP, hK, hD0, hT, hC9, hZ⟩ := hv
  have hx := B.exec
  have hb := B.bytes
  have hr := B.returns
  have hts := atoms_spec (ws := w_L_falls) B.pre
  have htb := vx_table (x := y_L_falls) B (hts _ List.mem_cons_self)
  have hk : ∀ w ∈ wHw, w.before _ s = true := fun w h => hts w (List.mem_cons_of_mem _ h)
  have hown : s.vm.findClass R_L = some m.cls := findClass_of_methodNamed B.named
  subst hsz
  have hD := hD0.self (sz := s.heap.size)
  generalize hAe : va_A ((ho, .inl (cJ, 1, .inr (.inl fo))) :: wC h cI (nI nF) (nI nC) yn yt (nI ga) ym (fun c => nI (pl c)) (fun c => nI (cf c)) (fun c => nI (ct c)) aK eB eE eA eL eN eC eS eW eT) s.heap.size = A at hD hZ ⊢
  have hA : ∀ q : Nat, s.heap.size ≤ q → A q := fun q h => by rw [← hAe]; exact Or.inr h
  have hS : va_S A s.heap s.heap [] := va_S.rf
  have hl := lv_entry ([.ref (h 0), .int f, .ref ho]) (n := 4) (Nat.le_of_ble_eq_true rfl)
  rw [lg_entry_eq]
  generalize (lg_sl ([.ref (h 0), .int f, .ref ho]) ++ List.replicate (4 - (lg_sl ([.ref (h 0), .int f, .ref ho])).length) Slot.unset).toArray = ls at hl ⊢
  have hl : lv_has ls 4 [(0, .ref (h 0)), (1, .int f), (2, .ref ho)] := hl
  refine lv_aload_n hx hb d_L_falls_0 rfl (lv_at hl 2 rfl) ?_
  refine lv_iconst (v := nI 0) hx hb d_L_falls_1 (by decide +kernel) ?_
  refine lv_aload_n hx hb d_L_falls_2 rfl (lv_at hl 0 rfl) ?_
  refine lv_iload_n hx hb d_L_falls_3 rfl (lv_at hl 1 rfl) ?_
  rcases Classical.em (∃ i, i < nF ∧ f = nI i) with hb9 | hb9
  · obtain ⟨i1, hi1, rfl⟩ := hb9
    rcases (show gN nC cf ct aK cj K nF ≤ 800 ∨ 800 < gN nC cf ct aK cj K nF by omega) with hfew | hmany
    · have hPc := hP.sub (ws' := wC h cI (nI nF) (nI nC) yn yt (nI ga) ym (fun c => nI (pl c)) (fun c => nI (cf c)) (fun c => nI (ct c)) aK eB eE eA eL eN eC eS eW eT) [1, 2, 3, 4, 5, 6, 7, 8, 9, 10, 11, 12, 13, 14, 15, 16, 17] rfl
      have hDc := hD.sub (ws' := wC h cI (nI nF) (nI nC) yn yt (nI ga) ym (fun c => nI (pl c)) (fun c => nI (cf c)) (fun c => nI (ct c)) aK eB eE eA eL eN eC eS eW eT) [1, 2, 3, 4, 5, 6, 7, 8, 9, 10, 11, 12, 13, 14, 15, 16, 17] (by decide) rfl
      have hKc := hK.sub (tys' := tyC cI) [0] rfl
      have hFc := va_free (wc := wC h cI (nI nF) (nI nC) yn yt (nI ga) ym (fun c => nI (pl c)) (fun c => nI (cf c)) (fun c => nI (ct c)) aK eB eE eA eL eN eC eS eW eT) hD hS hA [1, 2, 3, 4, 5, 6, 7, 8, 9, 10, 11, 12, 13, 14, 15, 16, 17] rfl
      refine va_calli (va_runV (As := [.int (nI i1)]) (rest := [.int (nI 0), .ref ho]) ⟨hx, hb, hml, hown, hk⟩ (c_X_falls_ok l dC dI cI h s.heap.size yn yt ym aK eB eE eA eL eN eC eS eW eT nF nC pl cf ct K ga i1 (hF) (hC) (hS0) (hpl) (hK8) (hcl) (hga) (hfew) (hi1)) (cwV 1 hk gh_32 rfl rfl rfl (by decide +kernel) ⟨Nat.le_of_ble_eq_true rfl, Nat.le_of_ble_eq_true rfl⟩) ⟨fun a U g mk q => by obtain ⟨q0, q1, qP, qK, qD⟩ := q; exact ⟨q0, q1, qP, va_K.moved (u := U) (U := U.calling g mk a) (Vm.Alike.refl U.vm) qK, qD⟩, va_recv hK hP (ci := 4) (q0 := 1) rfl rfl, fun U hU hW => ⟨rfl, by rw [hU], by rw [hU]; exact hPc, va_K.moved hW.alike hKc, hDc.weaken (fun _ _ _ _ => trivial)⟩⟩ rfl rfl hl.1 rfl (lv_room (Nat.le_of_ble_eq_true rfl)) d_L_falls_4 ⟨Nat.le_of_ble_eq_true rfl, Nat.le_of_ble_eq_true rfl⟩) hS (fun q _ h => hFc q h) hFc (fun r1 u9 t H1 locs ht hvm hw hB hz1 hk1 hS => ?_)
      obtain ⟨yn9, yt9, yg9, eB9, eE9, eA9, eL9, eN9, eC9, eS9, eW9⟩ := u9
      obtain ⟨hP1, hK1, hD1⟩ := hB
      rw [ht] at hP1
      try dsimp only at hw hP1 hD1
      obtain ⟨hP, hD⟩ := va_join (wr := [(ho, .inl (cJ, 1, .inr (.inl fo)))]) (w1 := wC h cI (nI nF) (nI nC) yn9 yt9 yg9 ym (fun c => nI (pl c)) (fun c => nI (cf c)) (fun c => nI (ct c)) aK eB9 eE9 eA9 eL9 eN9 eC9 eS9 eW9 eT) hP hD [1, 2, 3, 4, 5, 6, 7, 8, 9, 10, 11, 12, 13, 14, 15, 16, 17] [0] rfl rfl (by decide) (by decide) hk1 hFc hP1 hD1
      generalize H1 = H at hP hS ⊢
      obtain ⟨ht0, hg1, hgo, hv9⟩ := hw
      have hP : va_P (dC, dI) kls ((ho, .inl (cJ, 1, .inr (.inl fo))) :: wC h cI (nI nF) (nI nC) yn9 yt9 yg9 ym (fun c => nI (pl c)) (fun c => nI (cf c)) (fun c => nI (ct c)) aK eB9 eE9 eA9 eL9 eN9 eC9 eS9 eW9 eT) H := hP
      have hD : va_D A ((ho, .inl (cJ, 1, .inr (.inl fo))) :: wC h cI (nI nF) (nI nC) yn9 yt9 yg9 ym (fun c => nI (pl c)) (fun c => nI (cf c)) (fun c => nI (ct c)) aK eB9 eE9 eA9 eL9 eN9 eC9 eS9 eW9 eT) := hD
      rcases hv9 with ⟨hr9, hv9⟩ | ⟨hr9, hv9⟩
      · subst hr9
        refine lv_if_eq (tgt := 14) hx hb d_L_falls_7 (by decide) (fun c9 => absurd c9 (by decide +kernel)) (fun _ => ?_)
        refine lv_lconst (v := 1) hx hb d_L_falls_10 (by decide +kernel) ?_
        refine lv_goto (tgt := 15) hx hb d_L_falls_11 (by decide) ?_
        refine va_last hx hb hK hP hD hS 0 1 rfl rfl (pk_in 0 1 (by omega)) d_L_falls_15 (fun H locs hP hD hS => ?_)
        rw [nI_clamp (n := 0) (by omega)] at hP hD
        have hP : va_P (dC, dI) kls ((ho, .inl (cJ, 1, .inr (.inl (vp_updL fo 0 (1))))) :: wC h cI (nI nF) (nI nC) yn9 yt9 yg9 ym (fun c => nI (pl c)) (fun c => nI (cf c)) (fun c => nI (ct c)) aK eB9 eE9 eA9 eL9 eN9 eC9 eS9 eW9 eT) H := hP
        have hD : va_D A ((ho, .inl (cJ, 1, .inr (.inl (vp_updL fo 0 (1))))) :: wC h cI (nI nF) (nI nC) yn9 yt9 yg9 ym (fun c => nI (pl c)) (fun c => nI (cf c)) (fun c => nI (ct c)) aK eB9 eE9 eA9 eL9 eN9 eC9 eS9 eW9 eT) := hD
        refine lv_goto (tgt := 25) hx hb d_L_falls_16 (by decide) ?_
        refine lv_iconst (v := nI 0) hx hb d_L_falls_25 (by decide +kernel) ?_
        refine vx_ret (W.widen (k := 1) (n := 6) (Nat.le_of_ble_eq_true rfl) (Nat.le_of_ble_eq_true rfl) ?_)
        exact W.iret (v := nI 0) hx hb hr (fun t ht hW => ⟨⟨nI 0, (vp_updL fo 0 (1), yn9, yt9, yg9, eB9, eE9, eA9, eL9, eN9, eC9, eS9, eW9), rfl, Or.inl ⟨i1, hi1, rfl, hfew, rfl, Or.inl ⟨rfl, hv9⟩, ⟨hg1, Or.inl ⟨ht0, hgo⟩⟩⟩, by rw [ht]; exact hP, va_K.moved hW.alike hK, hD⟩, hS.F ht⟩) hS.2.2 d_L_falls_26
      · subst hr9
        refine lv_if_eq (tgt := 14) hx hb d_L_falls_7 (by decide) (fun _ => ?_) (fun c9 => absurd c9 (by decide +kernel))
        refine lv_lconst (v := 0) hx hb d_L_falls_14 (by decide +kernel) ?_
        refine va_last hx hb hK hP hD hS 0 1 rfl rfl (pk_in 0 1 (by omega)) d_L_falls_15 (fun H locs hP hD hS => ?_)
        rw [nI_clamp (n := 0) (by omega)] at hP hD
        have hP : va_P (dC, dI) kls ((ho, .inl (cJ, 1, .inr (.inl (vp_updL fo 0 (0))))) :: wC h cI (nI nF) (nI nC) yn9 yt9 yg9 ym (fun c => nI (pl c)) (fun c => nI (cf c)) (fun c => nI (ct c)) aK eB9 eE9 eA9 eL9 eN9 eC9 eS9 eW9 eT) H := hP
        have hD : va_D A ((ho, .inl (cJ, 1, .inr (.inl (vp_updL fo 0 (0))))) :: wC h cI (nI nF) (nI nC) yn9 yt9 yg9 ym (fun c => nI (pl c)) (fun c => nI (cf c)) (fun c => nI (ct c)) aK eB9 eE9 eA9 eL9 eN9 eC9 eS9 eW9 eT) := hD
        refine lv_goto (tgt := 25) hx hb d_L_falls_16 (by decide) ?_
        refine lv_iconst (v := nI 0) hx hb d_L_falls_25 (by decide +kernel) ?_
        refine vx_ret (W.widen (k := 1) (n := 6) (Nat.le_of_ble_eq_true rfl) (Nat.le_of_ble_eq_true rfl) ?_)
        exact W.iret (v := nI 0) hx hb hr (fun t ht hW => ⟨⟨nI 0, (vp_updL fo 0 (0), yn9, yt9, yg9, eB9, eE9, eA9, eL9, eN9, eC9, eS9, eW9), rfl, Or.inl ⟨i1, hi1, rfl, hfew, rfl, Or.inr ⟨rfl, hv9⟩, ⟨hg1, Or.inl ⟨ht0, hgo⟩⟩⟩, by rw [ht]; exact hP, va_K.moved hW.alike hK, hD⟩, hS.F ht⟩) hS.2.2 d_L_falls_26
    · have hPc := hP.sub (ws' := wC h cI (nI nF) (nI nC) yn yt (nI ga) ym (fun c => nI (pl c)) (fun c => nI (cf c)) (fun c => nI (ct c)) aK eB eE eA eL eN eC eS eW eT) [1, 2, 3, 4, 5, 6, 7, 8, 9, 10, 11, 12, 13, 14, 15, 16, 17] rfl
      have hDc := hD.sub (ws' := wC h cI (nI nF) (nI nC) yn yt (nI ga) ym (fun c => nI (pl c)) (fun c => nI (cf c)) (fun c => nI (ct c)) aK eB eE eA eL eN eC eS eW eT) [1, 2, 3, 4, 5, 6, 7, 8, 9, 10, 11, 12, 13, 14, 15, 16, 17] (by decide) rfl
      have hKc := hK.sub (tys' := tyC cI) [0] rfl
      have hFc := va_free (wc := wC h cI (nI nF) (nI nC) yn yt (nI ga) ym (fun c => nI (pl c)) (fun c => nI (cf c)) (fun c => nI (ct c)) aK eB eE eA eL eN eC eS eW eT) hD hS hA [1, 2, 3, 4, 5, 6, 7, 8, 9, 10, 11, 12, 13, 14, 15, 16, 17] rfl
      refine vx_calli (vx_runV (As := [.int (nI i1)]) (rest := [.int (nI 0), .ref ho]) ⟨hx, hb, hml, hown, hk⟩ (c_X_falls_many l hst dC dI cI h s.heap.size yn yt ym aK eB eE eA eL eN eC eS eW eT nF nC pl cf ct K ga i1 sa (hF) (hC) (hS0) (hpl) (hK8) (hcl) (hga) (hmany) (hi1)) (cwV 1 hk ghx_32 rfl rfl rfl (by decide +kernel) ⟨Nat.le_of_ble_eq_true rfl, Nat.le_of_ble_eq_true rfl⟩) ⟨fun a U g mk q => by obtain ⟨q0, q1, qP, qK, qD, qT, qZ⟩ := q; exact ⟨q0, q1, qP, va_K.moved (u := U) (U := U.calling g mk a) (Vm.Alike.refl U.vm) qK, qD, xT.same rfl qT, xZ.blind (u := U) (U := U.calling g mk a) (Vm.Alike.refl U.vm) qZ⟩, va_recv hK hP (ci := 4) (q0 := 1) rfl rfl, fun U hU hW => ⟨rfl, by rw [hU], by rw [hU]; exact hPc, va_K.moved hW.alike hKc, hDc.weaken (fun _ _ _ _ => trivial), xT.warm hW hT, xZ.here hZ hS hFc hW.alike hU⟩⟩ rfl rfl hl.1 rfl (lv_room (Nat.le_of_ble_eq_true rfl)) d_L_falls_4 ⟨Nat.le_of_ble_eq_true rfl, Nat.le_of_ble_eq_true rfl⟩) hS (fun q _ h => hFc q h) hFc (fun q _ h => hFc q h) (fun E ce q9 u9 t H1 locs ht hvm hw hB hz1 hk1 hS hce hcv hcl9 => ?_) (fun r1 u9 t H1 locs ht hvm hf9 => hf9.elim)
      obtain ⟨yn9, yt9, yg9, eB9, eE9, eA9, eL9, eN9, eC9, eS9, eW9⟩ := u9
      obtain ⟨hE, hP1, hK1, hD1⟩ := hB
      subst hE
      rw [ht] at hP1
      try dsimp only at hw hP1 hD1
      obtain ⟨hP, hD⟩ := va_join (wr := [(ho, .inl (cJ, 1, .inr (.inl fo)))]) (w1 := wC h cI (nI nF) (nI nC) yn9 yt9 yg9 ym (fun c => nI (pl c)) (fun c => nI (cf c)) (fun c => nI (ct c)) aK eB9 eE9 eA9 eL9 eN9 eC9 eS9 eW9 eT) hP hD [1, 2, 3, 4, 5, 6, 7, 8, 9, 10, 11, 12, 13, 14, 15, 16, 17] [0] rfl rfl (by decide) (by decide) hk1 hFc hP1 hD1
      refine vx_catch (own := R_L) (name := "java/lang/UnsupportedOperationException") (E := "java/lang/UnsupportedOperationException") hown [⟨0, 16, 19, 21⟩] ⟨0, 16, 22, 27⟩ [] (htb.trans rfl) (fun z hz => by rw [List.mem_singleton.mp hz]; exact Or.inr ⟨(by decide), "java/lang/IndexOutOfBoundsException", hk _ k_H_9, hC9.2.2⟩) (by decide) (by decide) (hk _ k_H_10) (va_Nw.use rfl hT.2.2.2.2.2.2.1) hce hcv hcl9 ?_
      generalize H1 = H at hP hS ⊢
      have hP : va_P (dC, dI) kls ((ho, .inl (cJ, 1, .inr (.inl fo))) :: wC h cI (nI nF) (nI nC) yn9 yt9 yg9 ym (fun c => nI (pl c)) (fun c => nI (cf c)) (fun c => nI (ct c)) aK eB9 eE9 eA9 eL9 eN9 eC9 eS9 eW9 eT) H := hP
      have hD : va_D A ((ho, .inl (cJ, 1, .inr (.inl fo))) :: wC h cI (nI nF) (nI nC) yn9 yt9 yg9 ym (fun c => nI (pl c)) (fun c => nI (cf c)) (fun c => nI (ct c)) aK eB9 eE9 eA9 eL9 eN9 eC9 eS9 eW9 eT) := hD
      refine lv_astore_n (lv' := [(3, .ref q9), (0, .ref (h 0)), (1, .int (nI i1)), (2, .ref ho)]) hx hb d_L_falls_22 rfl hl (by decide) rfl (fun ls hl => ?_)
      refine lv_iconst (v := nI 2) hx hb d_L_falls_23 (by decide +kernel) ?_
      refine vx_ret (W.widen (k := 1) (n := 6) (Nat.le_of_ble_eq_true rfl) (Nat.le_of_ble_eq_true rfl) ?_)
      exact W.iret (v := nI 2) hx hb hr (fun t ht hW => ⟨⟨nI 2, (fo, yn9, yt9, yg9, eB9, eE9, eA9, eL9, eN9, eC9, eS9, eW9), rfl, Or.inr (Or.inr ⟨i1, hi1, rfl, hmany, rfl, hw⟩), by rw [ht]; exact hP, va_K.moved hW.alike hK, hD⟩, hS.F ht⟩) hS.2.2 d_L_falls_24
  · have hPc := hP.sub (ws' := wC h cI (nI nF) (nI nC) yn yt (nI ga) ym (fun c => nI (pl c)) (fun c => nI (cf c)) (fun c => nI (ct c)) aK eB eE eA eL eN eC eS eW eT) [1, 2, 3, 4, 5, 6, 7, 8, 9, 10, 11, 12, 13, 14, 15, 16, 17] rfl
    have hDc := hD.sub (ws' := wC h cI (nI nF) (nI nC) yn yt (nI ga) ym (fun c => nI (pl c)) (fun c => nI (cf c)) (fun c => nI (ct c)) aK eB eE eA eL eN eC eS eW eT) [1, 2, 3, 4, 5, 6, 7, 8, 9, 10, 11, 12, 13, 14, 15, 16, 17] (by decide) rfl
    have hKc := hK.sub (tys' := tyC cI) [0] rfl
    have hFc := va_free (wc := wC h cI (nI nF) (nI nC) yn yt (nI ga) ym (fun c => nI (pl c)) (fun c => nI (cf c)) (fun c => nI (ct c)) aK eB eE eA eL eN eC eS eW eT) hD hS hA [1, 2, 3, 4, 5, 6, 7, 8, 9, 10, 11, 12, 13, 14, 15, 16, 17] rfl
    refine vx_calli (vx_runV (As := [.int f]) (rest := [.int (nI 0), .ref ho]) ⟨hx, hb, hml, hown, hk⟩ (c_X_falls_x1 l hst dC dI cI h s.heap.size yn yt (nI ga) ym aK eB eE eA eL eN eC eS eW eT nF nC pl cf ct f sa (hF) (hb9)) (cwV 1 hk ghx_32 rfl rfl rfl (by decide +kernel) ⟨Nat.le_of_ble_eq_true rfl, Nat.le_of_ble_eq_true rfl⟩) ⟨fun a U g mk q => by obtain ⟨q0, q1, qP, qK, qD, qT, qZ⟩ := q; exact ⟨q0, q1, qP, va_K.moved (u := U) (U := U.calling g mk a) (Vm.Alike.refl U.vm) qK, qD, xT.same rfl qT, xZ.blind (u := U) (U := U.calling g mk a) (Vm.Alike.refl U.vm) qZ⟩, va_recv hK hP (ci := 4) (q0 := 1) rfl rfl, fun U hU hW => ⟨rfl, by rw [hU], by rw [hU]; exact hPc, va_K.moved hW.alike hKc, hDc.weaken (fun _ _ _ _ => trivial), xT.warm hW hT, xZ.here hZ hS hFc hW.alike hU⟩⟩ rfl rfl hl.1 rfl (lv_room (Nat.le_of_ble_eq_true rfl)) d_L_falls_4 ⟨Nat.le_of_ble_eq_true rfl, Nat.le_of_ble_eq_true rfl⟩) hS (fun q _ h => hFc q h) hFc (fun q _ h => hFc q h) (fun E ce q9 u9 t H1 locs ht hvm hw hB hz1 hk1 hS hce hcv hcl9 => ?_) (fun r1 u9 t H1 locs ht hvm hf9 => hf9.elim)
    obtain ⟨hE, hP1, hK1, hD1⟩ := hB
    subst hE
    rw [ht] at hP1
    try dsimp only at hw hP1 hD1
    obtain ⟨hP, hD⟩ := va_join (wr := [(ho, .inl (cJ, 1, .inr (.inl fo)))]) (w1 := wC h cI (nI nF) (nI nC) yn yt (nI ga) ym (fun c => nI (pl c)) (fun c => nI (cf c)) (fun c => nI (ct c)) aK eB eE eA eL eN eC eS eW eT) hP hD [1, 2, 3, 4, 5, 6, 7, 8, 9, 10, 11, 12, 13, 14, 15, 16, 17] [0] rfl rfl (by decide) (by decide) hk1 hFc hP1 hD1
    refine vx_catch (own := R_L) (name := "java/lang/IndexOutOfBoundsException") (E := "java/lang/IndexOutOfBoundsException") hown [] ⟨0, 16, 19, 21⟩ [⟨0, 16, 22, 27⟩] (htb.trans rfl) (fun z hz => absurd hz List.not_mem_nil) (by decide) (by decide) (hk _ k_H_9) (va_Nw.use rfl hT.2.2.2.2.2.1) hce hcv hcl9 ?_
    generalize H1 = H at hP hS ⊢
    have hP : va_P (dC, dI) kls ((ho, .inl (cJ, 1, .inr (.inl fo))) :: wC h cI (nI nF) (nI nC) yn yt (nI ga) ym (fun c => nI (pl c)) (fun c => nI (cf c)) (fun c => nI (ct c)) aK eB eE eA eL eN eC eS eW eT) H := hP
    have hD : va_D A ((ho, .inl (cJ, 1, .inr (.inl fo))) :: wC h cI (nI nF) (nI nC) yn yt (nI ga) ym (fun c => nI (pl c)) (fun c => nI (cf c)) (fun c => nI (ct c)) aK eB eE eA eL eN eC eS eW eT) := hD
    refine lv_astore_n (lv' := [(3, .ref q9), (0, .ref (h 0)), (1, .int f), (2, .ref ho)]) hx hb d_L_falls_19 rfl hl (by decide) rfl (fun ls hl => ?_)
    refine lv_iconst (v := nI 1) hx hb d_L_falls_20 (by decide +kernel) ?_
    refine vx_ret (W.widen (k := 1) (n := 6) (Nat.le_of_ble_eq_true rfl) (Nat.le_of_ble_eq_true rfl) ?_)
    exact W.iret (v := nI 1) hx hb hr (fun t ht hW => ⟨⟨nI 1, (fo, yn, yt, nI ga, eB, eE, eA, eL, eN, eC, eS, eW), rfl, Or.inr (Or.inl ⟨hb9, rfl, rfl⟩), by rw [ht]; exact hP, va_K.moved hW.alike hK, hD⟩, hS.F ht⟩) hS.2.2 d_L_falls_21
set_option maxHeartbeats 4000000 in
set_option maxRecDepth 100000 in
theorem c_L_isSafe_ok (l : Launch) (hst : l.stackTraces = false) (dC : Nat → ClassId) (dI : Nat → Nat → Nat) (cI cJ : ClassId) (h : Nat → Nat) (ho sz : Nat) (fo : Nat → Int64) (yn yt ym : Int32) (aK eB eE eA eL eN eC eS eW eT : Nat → Int32) (nF nC : Nat) (pl cf ct : Nat → Nat) (K ga : Nat) (f : Int32) (sa : Nat → Nat) (hF : nF ≤ 10) (hC : nC ≤ 20) (hS0 : ∀ c, c < nC → cf c < nF ∧ ct c < nF) (hpl : ∀ i, i < nF → 1 ≤ pl i ∧ pl i ≤ 4) (hK8 : 801 ≤ K) (hcl : ∀ c, c < nC → clN (aK c)) (hga : ga = 0 ∨ (ga = 1 ∧ GI nC cf ct aK K nF yn yt eB eE eA eL eS eW)) : vx_Met l y_L_isSafe w_L_isSafe ({ frames := 8, cells := 1, slots := 6, locals := 330 }) (va_Pc [.ref (h 0), .int f, .ref ho] (fun U => U.heap.size = sz ∧ va_P (dC, dI) kls ((ho, .inl (cJ, 1, .inr (.inl fo))) :: wC h cI (nI nF) (nI nC) yn yt (nI ga) ym (fun c => nI (pl c)) (fun c => nI (cf c)) (fun c => nI (ct c)) aK eB eE eA eL eN eC eS eW eT) U.heap ∧ va_K (dC, dI) kls (tyH cI cJ) U ∧ va_D (fun _ => True) ((ho, .inl (cJ, 1, .inr (.inl fo))) :: wC h cI (nI nF) (nI nC) yn yt (nI ga) ym (fun c => nI (pl c)) (fun c => nI (cf c)) (fun c => nI (ct c)) aK eB eE eA eL eN eC eS eW eT) ∧ xT sa U ∧ xC U ∧ xZ (va_A ((ho, .inl (cJ, 1, .inr (.inl fo))) :: wC h cI (nI nF) (nI nC) yn yt (nI ga) ym (fun c => nI (pl c)) (fun c => nI (cf c)) (fun c => nI (ct c)) aK eB eE eA eL eN eC eS eW eT) sz) U U.heap)) (va_Qi (fun (r : Int32) (u : (Nat → Int64) × Int32 × Int32 × Int32 × (Nat → Int32) × (Nat → Int32) × (Nat → Int32) × (Nat → Int32) × (Nat → Int32) × (Nat → Int32) × (Nat → Int32) × (Nat → Int32)) => (∃ i, i < nF ∧ f = nI i ∧ gN nC cf ct aK cj K nF ≤ 800 ∧ r = nI 0 ∧ ((u.1 0 = 1 ∧ ∀ g, g < nF → (rcN nC cf ct i nF ||| 2 ^ i).testBit g = true → fbO nC cf ct aK K g none) ∨ (u.1 0 = 0 ∧ ∃ g, g < nF ∧ (rcN nC cf ct i nF ||| 2 ^ i).testBit g = true ∧ ∃ j, fbO nC cf ct aK K g (some j))) ∧ u.2.2.2.1 = nI 1 ∧ GI nC cf ct aK K nF u.2.1 u.2.2.1 u.2.2.2.2.1 u.2.2.2.2.2.1 u.2.2.2.2.2.2.1 u.2.2.2.2.2.2.2.1 u.2.2.2.2.2.2.2.2.2.2.1 u.2.2.2.2.2.2.2.2.2.2.2) ∨ ((¬ (∃ i, i < nF ∧ f = nI i)) ∧ r = nI 1 ∧ u.2 = (yn, yt, nI ga, eB, eE, eA, eL, eN, eC, eS, eW)) ∨ (∃ i, i < nF ∧ f = nI i ∧ 800 < gN nC cf ct aK cj K nF ∧ r = nI 2 ∧ u.2.2.2.1 = nI 1 ∧ GI nC cf ct aK K nF u.2.1 u.2.2.1 u.2.2.2.2.1 u.2.2.2.2.2.1 u.2.2.2.2.2.2.1 u.2.2.2.2.2.2.2.1 u.2.2.2.2.2.2.2.2.2.2.1 u.2.2.2.2.2.2.2.2.2.2.2)) (fun (u : (Nat → Int64) × Int32 × Int32 × Int32 × (Nat → Int32) × (Nat → Int32) × (Nat → Int32) × (Nat → Int32) × (Nat → Int32) × (Nat → Int32) × (Nat → Int32) × (Nat → Int32)) (t : State) => va_P (dC, dI) kls ((ho, .inl (cJ, 1, .inr (.inl u.1))) :: wC h cI (nI nF) (nI nC) u.2.1 u.2.2.1 u.2.2.2.1 ym (fun c => nI (pl c)) (fun c => nI (cf c)) (fun c => nI (ct c)) aK u.2.2.2.2.1 u.2.2.2.2.2.1 u.2.2.2.2.2.2.1 u.2.2.2.2.2.2.2.1 u.2.2.2.2.2.2.2.2.1 u.2.2.2.2.2.2.2.2.2.1 u.2.2.2.2.2.2.2.2.2.2.1 u.2.2.2.2.2.2.2.2.2.2.2 eT) t.heap ∧ va_K (dC, dI) kls (tyH cI cJ) t ∧ va_D (va_A ((ho, .inl (cJ, 1, .inr (.inl fo))) :: wC h cI (nI nF) (nI nC) yn yt (nI ga) ym (fun c => nI (pl c)) (fun c => nI (cf c)) (fun c => nI (ct c)) aK eB eE eA eL eN eC eS eW eT) sz) ((ho, .inl (cJ, 1, .inr (.inl u.1))) :: wC h cI (nI nF) (nI nC) u.2.1 u.2.2.1 u.2.2.2.1 ym (fun c => nI (pl c)) (fun c => nI (cf c)) (fun c => nI (ct c)) aK u.2.2.2.2.1 u.2.2.2.2.2.1 u.2.2.2.2.2.2.1 u.2.2.2.2.2.2.2.1 u.2.2.2.2.2.2.2.2.1 u.2.2.2.2.2.2.2.2.2.1 u.2.2.2.2.2.2.2.2.2.2.1 u.2.2.2.2.2.2.2.2.2.2.2 eT)) (va_A ((ho, .inl (cJ, 1, .inr (.inl fo))) :: wC h cI (nI nF) (nI nC) yn yt (nI ga) ym (fun c => nI (pl c)) (fun c => nI (cf c)) (fun c => nI (ct c)) aK eB eE eA eL eN eC eS eW eT) sz)) (vx_X (fun (_ : Unit) => False) (fun _ _ _ => True) (va_A ((ho, .inl (cJ, 1, .inr (.inl fo))) :: wC h cI (nI nF) (nI nC) yn yt (nI ga) ym (fun c => nI (pl c)) (fun c => nI (cf c)) (fun c => nI (ct c)) aK eB eE eA eL eN eC eS eW eT) sz)) 1 6 (va_A ((ho, .inl (cJ, 1, .inr (.inl fo))) :: wC h cI (nI nF) (nI nC) yn yt (nI ga) ym (fun c => nI (pl c)) (fun c => nI (cf c)) (fun c => nI (ct c)) aK eB eE eA eL eN eC eS eW eT) sz) := by
  refine vx_ofWH (cc := c_L_isSafe) (maxL := 4) (ret := (some .int)) (hh := hh_L_isSafe) (by decide) rfl ?_
  intro p e s m args below meth c s₁ B hml hv
  obtain ⟨rfl, hsz, hP, hK, hD0, hT, hC9, hZ⟩ := hv
  have hx := B.exec
  have hb := B.bytes
  have hr := B.returns
  have hts := atoms_spec (ws := w_L_isSafe) B.pre
  have htb := vx_table (x := y_L_isSafe) B (hts _ List.mem_cons_self)
  have hk : ∀ w ∈ wHw, w.before _ s = true := fun w h => hts w (List.mem_cons_of_mem _ h)
  have hown : s.vm.findClass R_L = some m.cls := findClass_of_methodNamed B.named
  subst hsz
  have hD := hD0.self (sz := s.heap.size)
  generalize hAe : va_A ((ho, .inl (cJ, 1, .inr (.inl fo))) :: wC h cI (nI nF) (nI nC) yn yt (nI ga) ym (fun c => nI (pl c)) (fun c => nI (cf c)) (fun c => nI (ct c)) aK eB eE eA eL eN eC eS eW eT) s.heap.size = A at hD hZ ⊢
  have hA : ∀ q : Nat, s.heap.size ≤ q → A q := fun q h => by rw [← hAe]; exact Or.inr h
  have hS : va_S A s.heap s.heap [] := va_S.rf
  have hl := lv_entry ([.ref (h 0), .int f, .ref ho]) (n := 4) (Nat.le_of_ble_eq_true rfl)
  rw [lg_entry_eq]
  generalize (lg_sl ([.ref (h 0), .int f, .ref ho]) ++ List.replicate (4 - (lg_sl ([.ref (h 0), .int f, .ref ho])).length) Slot.unset).toArray = ls at hl ⊢
  have hl : lv_has ls 4 [(0, .ref (h 0)), (1, .int f), (2, .ref ho)] := hl
  refine lv_aload_n hx hb d_L_isSafe_0 rfl (lv_at hl 2 rfl) ?_
  refine lv_iconst (v := nI 0) hx hb d_L_isSafe_1 (by decide +kernel) ?_
  refine lv_aload_n hx hb d_L_isSafe_2 rfl (lv_at hl 0 rfl) ?_
  refine lv_iload_n hx hb d_L_isSafe_3 rfl (lv_at hl 1 rfl) ?_
  rcases Classical.em (∃ i, i < nF ∧ f = nI i) with hb9 | hb9
  · obtain ⟨i1, hi1, rfl⟩ := hb9
    rcases (show gN nC cf ct aK cj K nF ≤ 800 ∨ 800 < gN nC cf ct aK cj K nF by omega) with hfew | hmany
    · have hPc := hP.sub (ws' := wC h cI (nI nF) (nI nC) yn yt (nI ga) ym (fun c => nI (pl c)) (fun c => nI (cf c)) (fun c => nI (ct c)) aK eB eE eA eL eN eC eS eW eT) [1, 2, 3, 4, 5, 6, 7, 8, 9, 10, 11, 12, 13, 14, 15, 16, 17] rfl
      have hDc := hD.sub (ws' := wC h cI (nI nF) (nI nC) yn yt (nI ga) ym (fun c => nI (pl c)) (fun c => nI (cf c)) (fun c => nI (ct c)) aK eB eE eA eL eN eC eS eW eT) [1, 2, 3, 4, 5, 6, 7, 8, 9, 10, 11, 12, 13, 14, 15, 16, 17] (by decide) rfl
      have hKc := hK.sub (tys' := tyC cI) [0] rfl
      have hFc := va_free (wc := wC h cI (nI nF) (nI nC) yn yt (nI ga) ym (fun c => nI (pl c)) (fun c => nI (cf c)) (fun c => nI (ct c)) aK eB eE eA eL eN eC eS eW eT) hD hS hA [1, 2, 3, 4, 5, 6, 7, 8, 9, 10, 11, 12, 13, 14, 15, 16, 17] rfl
      refine va_calli (va_runV (As := [.int (nI i1)]) (rest := [.int (nI 0), .ref ho]) ⟨hx, hb, hml, hown, hk⟩ (c_X_isSafe_ok l dC dI cI h s.heap.size yn yt ym aK eB eE eA eL eN eC eS eW eT nF nC pl cf ct K ga i1 (hF) (hC) (hS0) (hpl) (hK8) (hcl) (hga) (hfew) (hi1)) (cwV 1 hk gh_36 rfl rfl rfl (by decide +kernel) ⟨Nat.le_of_ble_eq_true rfl, Nat.le_of_ble_eq_true rfl⟩) ⟨fun a U g mk q => by obtain ⟨q0, q1, qP, qK, qD⟩ := q; exact ⟨q0, q1, qP, va_K.moved (u := U) (U := U.calling g mk a) (Vm.Alike.refl U.vm) qK, qD⟩, va_recv hK hP (ci := 4) (q0 := 1) rfl rfl, fun U hU hW => ⟨rfl, by rw [hU], by rw [hU]; exact hPc, va_K.moved hW.alike hKc, hDc.weaken (fun _ _ _ _ => trivial)⟩⟩ rfl rfl hl.1 rfl (lv_room (Nat.le_of_ble_eq_true rfl)) d_L_isSafe_4 ⟨Nat.le_of_ble_eq_true rfl, Nat.le_of_ble_eq_true rfl⟩) hS (fun q _ h => hFc q h) hFc (fun r1 u9 t H1 locs ht hvm hw hB hz1 hk1 hS => ?_)
      obtain ⟨yn9, yt9, yg9, eB9, eE9, eA9, eL9, eN9, eC9, eS9, eW9⟩ := u9
      obtain ⟨hP1, hK1, hD1⟩ := hB
      rw [ht] at hP1
      try dsimp only at hw hP1 hD1
      obtain ⟨hP, hD⟩ := va_join (wr := [(ho, .inl (cJ, 1, .inr (.inl fo)))]) (w1 := wC h cI (nI nF) (nI nC) yn9 yt9 yg9 ym (fun c => nI (pl c)) (fun c => nI (cf c)) (fun c => nI (ct c)) aK eB9 eE9 eA9 eL9 eN9 eC9 eS9 eW9 eT) hP hD [1, 2, 3, 4, 5, 6, 7, 8, 9, 10, 11, 12, 13, 14, 15, 16, 17] [0] rfl rfl (by decide) (by decide) hk1 hFc hP1 hD1
      generalize H1 = H at hP hS ⊢
      obtain ⟨ht0, hg1, hgo, hv9⟩ := hw
      have hP : va_P (dC, dI) kls ((ho, .inl (cJ, 1, .inr (.inl fo))) :: wC h cI (nI nF) (nI nC) yn9 yt9 yg9 ym (fun c => nI (pl c)) (fun c => nI (cf c)) (fun c => nI (ct c)) aK eB9 eE9 eA9 eL9 eN9 eC9 eS9 eW9 eT) H := hP
      have hD : va_D A ((ho, .inl (cJ, 1, .inr (.inl fo))) :: wC h cI (nI nF) (nI nC) yn9 yt9 yg9 ym (fun c => nI (pl c)) (fun c => nI (cf c)) (fun c => nI (ct c)) aK eB9 eE9 eA9 eL9 eN9 eC9 eS9 eW9 eT) := hD
      rcases hv9 with ⟨hr9, hv9⟩ | ⟨hr9, hv9⟩
      · subst hr9
        refine lv_if_eq (tgt := 14) hx hb d_L_isSafe_7 (by decide) (fun c9 => absurd c9 (by decide +kernel)) (fun _ => ?_)
        refine lv_lconst (v := 1) hx hb d_L_isSafe_10 (by decide +kernel) ?_
        refine lv_goto (tgt := 15) hx hb d_L_isSafe_11 (by decide) ?_
        refine va_last hx hb hK hP hD hS 0 1 rfl rfl (pk_in 0 1 (by omega)) d_L_isSafe_15 (fun H locs hP hD hS => ?_)
        rw [nI_clamp (n := 0) (by omega)] at hP hD
        have hP : va_P (dC, dI) kls ((ho, .inl (cJ, 1, .inr (.inl (vp_updL fo 0 (1))))) :: wC h cI (nI nF) (nI nC) yn9 yt9 yg9 ym (fun c => nI (pl c)) (fun c => nI (cf c)) (fun c => nI (ct c)) aK eB9 eE9 eA9 eL9 eN9 eC9 eS9 eW9 eT) H := hP
        have hD : va_D A ((ho, .inl (cJ, 1, .inr (.inl (vp_updL fo 0 (1))))) :: wC h cI (nI nF) (nI nC) yn9 yt9 yg9 ym (fun c => nI (pl c)) (fun c => nI (cf c)) (fun c => nI (ct c)) aK eB9 eE9 eA9 eL9 eN9 eC9 eS9 eW9 eT) := hD
        refine lv_goto (tgt := 25) hx hb d_L_isSafe_16 (by decide) ?_
        refine lv_iconst (v := nI 0) hx hb d_L_isSafe_25 (by decide +kernel) ?_
        refine vx_ret (W.widen (k := 1) (n := 6) (Nat.le_of_ble_eq_true rfl) (Nat.le_of_ble_eq_true rfl) ?_)
        exact W.iret (v := nI 0) hx hb hr (fun t ht hW => ⟨⟨nI 0, (vp_updL fo 0 (1), yn9, yt9, yg9, eB9, eE9, eA9, eL9, eN9, eC9, eS9, eW9), rfl, Or.inl ⟨i1, hi1, rfl, hfew, rfl, Or.inl ⟨rfl, hv9⟩, ⟨hg1, Or.inl ⟨ht0, hgo⟩⟩⟩, by rw [ht]; exact hP, va_K.moved hW.alike hK, hD⟩, hS.F ht⟩) hS.2.2 d_L_isSafe_26
      · subst hr9
        refine lv_if_eq (tgt := 14) hx hb d_L_isSafe_7 (by decide) (fun _ => ?_) (fun c9 => absurd c9 (by decide +kernel))
        refine lv_lconst (v := 0) hx hb d_L_isSafe_14 (by decide +kernel) ?_
        refine va_last hx hb hK hP hD hS 0 1 rfl rfl (pk_in 0 1 (by omega)) d_L_isSafe_15 (fun H locs hP hD hS => ?_)
        rw [nI_clamp (n := 0) (by omega)] at hP hD
        have hP : va_P (dC, dI) kls ((ho, .inl (cJ, 1, .inr (.inl (vp_updL fo 0 (0))))) :: wC h cI (nI nF) (nI nC) yn9 yt9 yg9 ym (fun c => nI (pl c)) (fun c => nI (cf c)) (fun c => nI (ct c)) aK eB9 eE9 eA9 eL9 eN9 eC9 eS9 eW9 eT) H := hP
        have hD : va_D A ((ho, .inl (cJ, 1, .inr (.inl (vp_updL fo 0 (0))))) :: wC h cI (nI nF) (nI nC) yn9 yt9 yg9 ym (fun c => nI (pl c)) (fun c => nI (cf c)) (fun c => nI (ct c)) aK eB9 eE9 eA9 eL9 eN9 eC9 eS9 eW9 eT) := hD
        refine lv_goto (tgt := 25) hx hb d_L_isSafe_16 (by decide) ?_
        refine lv_iconst (v := nI 0) hx hb d_L_isSafe_25 (by decide +kernel) ?_
        refine vx_ret (W.widen (k := 1) (n := 6) (Nat.le_of_ble_eq_true rfl) (Nat.le_of_ble_eq_true rfl) ?_)
        exact W.iret (v := nI 0) hx hb hr (fun t ht hW => ⟨⟨nI 0, (vp_updL fo 0 (0), yn9, yt9, yg9, eB9, eE9, eA9, eL9, eN9, eC9, eS9, eW9), rfl, Or.inl ⟨i1, hi1, rfl, hfew, rfl, Or.inr ⟨rfl, hv9⟩, ⟨hg1, Or.inl ⟨ht0, hgo⟩⟩⟩, by rw [ht]; exact hP, va_K.moved hW.alike hK, hD⟩, hS.F ht⟩) hS.2.2 d_L_isSafe_26
    · have hPc := hP.sub (ws' := wC h cI (nI nF) (nI nC) yn yt (nI ga) ym (fun c => nI (pl c)) (fun c => nI (cf c)) (fun c => nI (ct c)) aK eB eE eA eL eN eC eS eW eT) [1, 2, 3, 4, 5, 6, 7, 8, 9, 10, 11, 12, 13, 14, 15, 16, 17] rfl
      have hDc := hD.sub (ws' := wC h cI (nI nF) (nI nC) yn yt (nI ga) ym (fun c => nI (pl c)) (fun c => nI (cf c)) (fun c => nI (ct c)) aK eB eE eA eL eN eC eS eW eT) [1, 2, 3, 4, 5, 6, 7, 8, 9, 10, 11, 12, 13, 14, 15, 16, 17] (by decide) rfl
      have hKc := hK.sub (tys' := tyC cI) [0] rfl
      have hFc := va_free (wc := wC h cI (nI nF) (nI nC) yn yt (nI ga) ym (fun c => nI (pl c)) (fun c => nI (cf c)) (fun c => nI (ct c)) aK eB eE eA eL eN eC eS eW eT) hD hS hA [1, 2, 3, 4, 5, 6, 7, 8, 9, 10, 11, 12, 13, 14, 15, 16, 17] rfl
      refine vx_calli (vx_runV (As := [.int (nI i1)]) (rest := [.int (nI 0), .ref ho]) ⟨hx, hb, hml, hown, hk⟩ (c_X_isSafe_many l hst dC dI cI h s.heap.size yn yt ym aK eB eE eA eL eN eC eS eW eT nF nC pl cf ct K ga i1 sa (hF) (hC) (hS0) (hpl) (hK8) (hcl) (hga) (hmany) (hi1)) (cwV 1 hk ghx_36 rfl rfl rfl (by decide +kernel) ⟨Nat.le_of_ble_eq_true rfl, Nat.le_of_ble_eq_true rfl⟩) ⟨fun a U g mk q => by obtain ⟨q0, q1, qP, qK, qD, qT, qZ⟩ := q; exact ⟨q0, q1, qP, va_K.moved (u := U) (U := U.calling g mk a) (Vm.Alike.refl U.vm) qK, qD, xT.same rfl qT, xZ.blind (u := U) (U := U.calling g mk a) (Vm.Alike.refl U.vm) qZ⟩, va_recv hK hP (ci := 4) (q0 := 1) rfl rfl, fun U hU hW => ⟨rfl, by rw [hU], by rw [hU]; exact hPc, va_K.moved hW.alike hKc, hDc.weaken (fun _ _ _ _ => trivial), xT.warm hW hT, xZ.here hZ hS hFc hW.alike hU⟩⟩ rfl rfl hl.1 rfl (lv_room (Nat.le_of_ble_eq_true rfl)) d_L_isSafe_4 ⟨Nat.le_of_ble_eq_true rfl, Nat.le_of_ble_eq_true rfl⟩) hS (fun q _ h => hFc q h) hFc (fun q _ h => hFc q h) (fun E ce q9 u9 t H1 locs ht hvm hw hB hz1 hk1 hS hce hcv hcl9 => ?_) (fun r1 u9 t H1 locs ht hvm hf9 => hf9.elim)
      obtain ⟨yn9, yt9, yg9, eB9, eE9, eA9, eL9, eN9, eC9, eS9, eW9⟩ := u9
      obtain ⟨hE, hP1, hK1, hD1⟩ := hB
      subst hE
      rw [ht] at hP1
      try dsimp only at hw hP1 hD1
      obtain ⟨hP, hD⟩ := va_join (wr := [(ho, .inl (cJ, 1, .inr (.inl fo)))]) (w1 := wC h cI (nI nF) (nI nC) yn9 yt9 yg9 ym (fun c => nI (pl c)) (fun c => nI (cf c)) (fun c => nI (ct c)) aK eB9 eE9 eA9 eL9 eN9 eC9 eS9 eW9 eT) hP hD [1, 2, 3, 4, 5, 6, 7, 8, 9, 10, 11, 12, 13, 14, 15, 16, 17] [0] rfl rfl (by decide) (by decide) hk1 hFc hP1 hD1
      refine vx_catch (own := R_L) (name := "java/lang/UnsupportedOperationException") (E := "java/lang/UnsupportedOperationException") hown [⟨0, 16, 19, 21⟩] ⟨0, 16, 22, 27⟩ [] (htb.trans rfl) (fun z hz => by rw [List.mem_singleton.mp hz]; exact Or.inr ⟨(by decide), "java/lang/IndexOutOfBoundsException", hk _ k_H_9, hC9.2.2⟩) (by decide) (by decide) (hk _ k_H_10) (va_Nw.use rfl hT.2.2.2.2.2.2.1) hce hcv hcl9 ?_
      generalize H1 = H at hP hS ⊢
      have hP : va_P (dC, dI) kls ((ho, .inl (cJ, 1, .inr (.inl fo))) :: wC h cI (nI nF) (nI nC) yn9 yt9 yg9 ym (fun c => nI (pl c)) (fun c => nI (cf c)) (fun c => nI (ct c)) aK eB9 eE9 eA9 eL9 eN9 eC9 eS9 eW9 eT) H := hP
      have hD : va_D A ((ho, .inl (cJ, 1, .inr (.inl fo))) :: wC h cI (nI nF) (nI nC) yn9 yt9 yg9 ym (fun c => nI (pl c)) (fun c => nI (cf c)) (fun c => nI (ct c)) aK eB9 eE9 eA9 eL9 eN9 eC9 eS9 eW9 eT) := hD
      refine lv_astore_n (lv' := [(3, .ref q9), (0, .ref (h 0)), (1, .int (nI i1)), (2, .ref ho)]) hx hb d_L_isSafe_22 rfl hl (by decide) rfl (fun ls hl => ?_)
      refine lv_iconst (v := nI 2) hx hb d_L_isSafe_23 (by decide +kernel) ?_
      refine vx_ret (W.widen (k := 1) (n := 6) (Nat.le_of_ble_eq_true rfl) (Nat.le_of_ble_eq_true rfl) ?_)
      exact W.iret (v := nI 2) hx hb hr (fun t ht hW => ⟨⟨nI 2, (fo, yn9, yt9, yg9, eB9, eE9, eA9, eL9, eN9, eC9, eS9, eW9), rfl, Or.inr (Or.inr ⟨i1, hi1, rfl, hmany, rfl, hw⟩), by rw [ht]; exact hP, va_K.moved hW.alike hK, hD⟩, hS.F ht⟩) hS.2.2 d_L_isSafe_24
  · have hPc := hP.sub (ws' := wC h cI (nI nF) (nI nC) yn yt (nI ga) ym (fun c => nI (pl c)) (fun c => nI (cf c)) (fun c => nI (ct c)) aK eB eE eA eL eN eC eS eW eT) [1, 2, 3, 4, 5, 6, 7, 8, 9, 10, 11, 12, 13, 14, 15, 16, 17] rfl
    have hDc := hD.sub (ws' := wC h cI (nI nF) (nI nC) yn yt (nI ga) ym (fun c => nI (pl c)) (fun c => nI (cf c)) (fun c => nI (ct c)) aK eB eE eA eL eN eC eS eW eT) [1, 2, 3, 4, 5, 6, 7, 8, 9, 10, 11, 12, 13, 14, 15, 16, 17] (by decide) rfl
    have hKc := hK.sub (tys' := tyC cI) [0] rfl
    have hFc := va_free (wc := wC h cI (nI nF) (nI nC) yn yt (nI ga) ym (fun c => nI (pl c)) (fun c => nI (cf c)) (fun c => nI (ct c)) aK eB eE eA eL eN eC eS eW eT) hD hS hA [1, 2, 3, 4, 5, 6, 7, 8, 9, 10, 11, 12, 13, 14, 15, 16, 17] rfl
    refine vx_calli (vx_runV (As := [.int f]) (rest := [.int (nI 0), .ref ho]) ⟨hx, hb, hml, hown, hk⟩ (c_X_isSafe_x1 l hst dC dI cI h s.heap.size yn yt (nI ga) ym aK eB eE eA eL eN eC eS eW eT nF nC pl cf ct f sa (hF) (hb9)) (cwV 1 hk ghx_36 rfl rfl rfl (by decide +kernel) ⟨Nat.le_of_ble_eq_true rfl, Nat.le_of_ble_eq_true rfl⟩) ⟨fun a U g mk q => by obtain ⟨q0, q1, qP, qK, qD, qT, qZ⟩ := q; exact ⟨q0, q1, qP, va_K.moved (u := U) (U := U.calling g mk a) (Vm.Alike.refl U.vm) qK, qD, xT.same rfl qT, xZ.blind (u := U) (U := U.calling g mk a) (Vm.Alike.refl U.vm) qZ⟩, va_recv hK hP (ci := 4) (q0 := 1) rfl rfl, fun U hU hW => ⟨rfl, by rw [hU], by rw [hU]; exact hPc, va_K.moved hW.alike hKc, hDc.weaken (fun _ _ _ _ => trivial), xT.warm hW hT, xZ.here hZ hS hFc hW.alike hU⟩⟩ rfl rfl hl.1 rfl (lv_room (Nat.le_of_ble_eq_true rfl)) d_L_isSafe_4 ⟨Nat.le_of_ble_eq_true rfl, Nat.le_of_ble_eq_true rfl⟩) hS (fun q _ h => hFc q h) hFc (fun q _ h => hFc q h) (fun E ce q9 u9 t H1 locs ht hvm hw hB hz1 hk1 hS hce hcv hcl9 => ?_) (fun r1 u9 t H1 locs ht hvm hf9 => hf9.elim)
    obtain ⟨hE, hP1, hK1, hD1⟩ := hB
    subst hE
    rw [ht] at hP1
    try dsimp only at hw hP1 hD1
    obtain ⟨hP, hD⟩ := va_join (wr := [(ho, .inl (cJ, 1, .inr (.inl fo)))]) (w1 := wC h cI (nI nF) (nI nC) yn yt (nI ga) ym (fun c => nI (pl c)) (fun c => nI (cf c)) (fun c => nI (ct c)) aK eB eE eA eL eN eC eS eW eT) hP hD [1, 2, 3, 4, 5, 6, 7, 8, 9, 10, 11, 12, 13, 14, 15, 16, 17] [0] rfl rfl (by decide) (by decide) hk1 hFc hP1 hD1
    refine vx_catch (own := R_L) (name := "java/lang/IndexOutOfBoundsException") (E := "java/lang/IndexOutOfBoundsException") hown [] ⟨0, 16, 19, 21⟩ [⟨0, 16, 22, 27⟩] (htb.trans rfl) (fun z hz => absurd hz List.not_mem_nil) (by decide) (by decide) (hk _ k_H_9) (va_Nw.use rfl hT.2.2.2.2.2.1) hce hcv hcl9 ?_
    generalize H1 = H at hP hS ⊢
    have hP : va_P (dC, dI) kls ((ho, .inl (cJ, 1, .inr (.inl fo))) :: wC h cI (nI nF) (nI nC) yn yt (nI ga) ym (fun c => nI (pl c)) (fun c => nI (cf c)) (fun c => nI (ct c)) aK eB eE eA eL eN eC eS eW eT) H := hP
    have hD : va_D A ((ho, .inl (cJ, 1, .inr (.inl fo))) :: wC h cI (nI nF) (nI nC) yn yt (nI ga) ym (fun c => nI (pl c)) (fun c => nI (cf c)) (fun c => nI (ct c)) aK eB eE eA eL eN eC eS eW eT) := hD
    refine lv_astore_n (lv' := [(3, .ref q9), (0, .ref (h 0)), (1, .int f), (2, .ref ho)]) hx hb d_L_isSafe_19 rfl hl (by decide) rfl (fun ls hl => ?_)
    refine lv_iconst (v := nI 1) hx hb d_L_isSafe_20 (by decide +kernel) ?_
    refine vx_ret (W.widen (k := 1) (n := 6) (Nat.le_of_ble_eq_true rfl) (Nat.le_of_ble_eq_true rfl) ?_)
    exact W.iret (v := nI 1) hx hb hr (fun t ht hW => ⟨⟨nI 1, (fo, yn, yt, nI ga, eB, eE, eA, eL, eN, eC, eS, eW), rfl, Or.inr (Or.inl ⟨hb9, rfl, rfl⟩), by rw [ht]; exact hP, va_K.moved hW.alike hK, hD⟩, hS.F ht⟩) hS.2.2 d_L_isSafe_21
set_option maxHeartbeats 4000000 in
set_option maxRecDepth 100000 in
theorem c_L_bad_ok (l : Launch) (hst : l.stackTraces = false) (dC : Nat → ClassId) (dI : Nat → Nat → Nat) (cI cJ : ClassId) (h : Nat → Nat) (ho sz : Nat) (fo : Nat → Int64) (yn yt ym : Int32) (aK eB eE eA eL eN eC eS eW eT : Nat → Int32) (nF nC : Nat) (pl cf ct : Nat → Nat) (K ga : Nat) (f q : Int32) (sa : Nat → Nat) (hF : nF ≤ 10) (hC : nC ≤ 20) (hS0 : ∀ c, c < nC → cf c < nF ∧ ct c < nF) (hpl : ∀ i, i < nF → 1 ≤ pl i ∧ pl i ≤ 4) (hK8 : 801 ≤ K) (hcl : ∀ c, c < nC → clN (aK c)) (hga : ga = 0 ∨ (ga = 1 ∧ GI nC cf ct aK K nF yn yt eB eE eA eL eS eW)) : vx_Met l y_L_bad w_L_bad ({ frames := 8, cells := 1, slots := 6, locals := 330 }) (va_Pc [.ref (h 0), .int f, .int q, .ref ho] (fun U => U.heap.size = sz ∧ va_P (dC, dI) kls ((ho, .inl (cJ, 1, .inr (.inl fo))) :: wC h cI (nI nF) (nI nC) yn yt (nI ga) ym (fun c => nI (pl c)) (fun c => nI (cf c)) (fun c => nI (ct c)) aK eB eE eA eL eN eC eS eW eT) U.heap ∧ va_K (dC, dI) kls (tyH cI cJ) U ∧ va_D (fun _ => True) ((ho, .inl (cJ, 1, .inr (.inl fo))) :: wC h cI (nI nF) (nI nC) yn yt (nI ga) ym (fun c => nI (pl c)) (fun c => nI (cf c)) (fun c => nI (ct c)) aK eB eE eA eL eN eC eS eW eT) ∧ xT sa U ∧ xC U ∧ xZ (va_A ((ho, .inl (cJ, 1, .inr (.inl fo))) :: wC h cI (nI nF) (nI nC) yn yt (nI ga) ym (fun c => nI (pl c)) (fun c => nI (cf c)) (fun c => nI (ct c)) aK eB eE eA eL eN eC eS eW eT) sz) U U.heap)) (va_Qi (fun (r : Int32) (u : (Nat → Int64) × Int32 × Int32 × Int32 × (Nat → Int32) × (Nat → Int32) × (Nat → Int32) × (Nat → Int32) × (Nat → Int32) × (Nat → Int32) × (Nat → Int32) × (Nat → Int32)) => (∃ i, i < nF ∧ f = nI i ∧ gN nC cf ct aK cj K nF ≤ 800 ∧ r = nI 0 ∧ (∃ z : Int32, u.1 0 = z.toInt64 ∧ ∃ a0, fbO nC cf ct aK K i a0 ∧ ((q = -1 ∧ z = (nI (chn (RSf nC cf ct aK K nF) (K + 1) a0).length)) ∨ ((¬ q = -1) ∧ q < 0 ∧ z = (-1 : Int32)) ∨ ∃ q1, q1 < 2 ^ 31 ∧ q = nI q1 ∧ ((q1 < (chn (RSf nC cf ct aK K nF) (K + 1) a0).length ∧ ∃ y, (chn (RSf nC cf ct aK K nF) (K + 1) a0)[(chn (RSf nC cf ct aK K nF) (K + 1) a0).length - 1 - q1]? = some y ∧ z = (nI y)) ∨ ((chn (RSf nC cf ct aK K nF) (K + 1) a0).length ≤ q1 ∧ z = (-1 : Int32))))) ∧ u.2.2.2.1 = nI 1 ∧ GI nC cf ct aK K nF u.2.1 u.2.2.1 u.2.2.2.2.1 u.2.2.2.2.2.1 u.2.2.2.2.2.2.1 u.2.2.2.2.2.2.2.1 u.2.2.2.2.2.2.2.2.2.2.1 u.2.2.2.2.2.2.2.2.2.2.2) ∨ ((¬ (∃ i, i < nF ∧ f = nI i)) ∧ r = nI 0 ∧ u.1 0 = (-1 : Int32).toInt64 ∧ u.2 = (yn, yt, nI ga, eB, eE, eA, eL, eN, eC, eS, eW)) ∨ (∃ i, i < nF ∧ f = nI i ∧ 800 < gN nC cf ct aK cj K nF ∧ r = nI 1 ∧ u.2.2.2.1 = nI 1 ∧ GI nC cf ct aK K nF u.2.1 u.2.2.1 u.2.2.2.2.1 u.2.2.2.2.2.1 u.2.2.2.2.2.2.1 u.2.2.2.2.2.2.2.1 u.2.2.2.2.2.2.2.2.2.2.1 u.2.2.2.2.2.2.2.2.2.2.2)) (fun (u : (Nat → Int64) × Int32 × Int32 × Int32 × (Nat → Int32) × (Nat → Int32) × (Nat → Int32) × (Nat → Int32) × (Nat → Int32) × (Nat → Int32) × (Nat → Int32) × (Nat → Int32)) (t : State) => va_P (dC, dI) kls ((ho, .inl (cJ, 1, .inr (.inl u.1))) :: wC h cI (nI nF) (nI nC) u.2.1 u.2.2.1 u.2.2.2.1 ym (fun c => nI (pl c)) (fun c => nI (cf c)) (fun c => nI (ct c)) aK u.2.2.2.2.1 u.2.2.2.2.2.1 u.2.2.2.2.2.2.1 u.2.2.2.2.2.2.2.1 u.2.2.2.2.2.2.2.2.1 u.2.2.2.2.2.2.2.2.2.1 u.2.2.2.2.2.2.2.2.2.2.1 u.2.2.2.2.2.2.2.2.2.2.2 eT) t.heap ∧ va_K (dC, dI) kls (tyH cI cJ) t ∧ va_D (va_A ((ho, .inl (cJ, 1, .inr (.inl fo))) :: wC h cI (nI nF) (nI nC) yn yt (nI ga) ym (fun c => nI (pl c)) (fun c => nI (cf c)) (fun c => nI (ct c)) aK eB eE eA eL eN eC eS eW eT) sz) ((ho, .inl (cJ, 1, .inr (.inl u.1))) :: wC h cI (nI nF) (nI nC) u.2.1 u.2.2.1 u.2.2.2.1 ym (fun c => nI (pl c)) (fun c => nI (cf c)) (fun c => nI (ct c)) aK u.2.2.2.2.1 u.2.2.2.2.2.1 u.2.2.2.2.2.2.1 u.2.2.2.2.2.2.2.1 u.2.2.2.2.2.2.2.2.1 u.2.2.2.2.2.2.2.2.2.1 u.2.2.2.2.2.2.2.2.2.2.1 u.2.2.2.2.2.2.2.2.2.2.2 eT)) (va_A ((ho, .inl (cJ, 1, .inr (.inl fo))) :: wC h cI (nI nF) (nI nC) yn yt (nI ga) ym (fun c => nI (pl c)) (fun c => nI (cf c)) (fun c => nI (ct c)) aK eB eE eA eL eN eC eS eW eT) sz)) (vx_X (fun (_ : Unit) => False) (fun _ _ _ => True) (va_A ((ho, .inl (cJ, 1, .inr (.inl fo))) :: wC h cI (nI nF) (nI nC) yn yt (nI ga) ym (fun c => nI (pl c)) (fun c => nI (cf c)) (fun c => nI (ct c)) aK eB eE eA eL eN eC eS eW eT) sz)) 1 6 (va_A ((ho, .inl (cJ, 1, .inr (.inl fo))) :: wC h cI (nI nF) (nI nC) yn yt (nI ga) ym (fun c => nI (pl c)) (fun c => nI (cf c)) (fun c => nI (ct c)) aK eB eE eA eL eN eC eS eW eT) sz) := by
  refine vx_ofWH (cc := c_L_bad) (maxL := 5) (ret := (some .int)) (hh := hh_L_bad) (by decide) rfl ?_
  intro p e s m args below meth c s₁ B hml hv
  obtain ⟨rfl, hsz, hP, hK, hD0, hT, hC9, hZ⟩ := hv
  have hx := B.exec
  have hb := B.bytes
  have hr := B.returns
  have hts := atoms_spec (ws := w_L_bad) B.pre
  have htb := vx_table (x := y_L_bad) B (hts _ List.mem_cons_self)
  have hk : ∀ w ∈ wHw, w.before _ s = true := fun w h => hts w (List.mem_cons_of_mem _ h)
  have hown : s.vm.findClass R_L = some m.cls := findClass_of_methodNamed B.named
  subst hsz
  have hD := hD0.self (sz := s.heap.size)
  generalize hAe : va_A ((ho, .inl (cJ, 1, .inr (.inl fo))) :: wC h cI (nI nF) (nI nC) yn yt (nI ga) ym (fun c => nI (pl c)) (fun c => nI (cf c)) (fun c => nI (ct c)) aK eB eE eA eL eN eC eS eW eT) s.heap.size = A at hD hZ ⊢
  have hA : ∀ q : Nat, s.heap.size ≤ q → A q := fun q h => by rw [← hAe]; exact Or.inr h
  have hS : va_S A s.heap s.heap [] := va_S.rf
  have hl := lv_entry ([.ref (h 0), .int f, .int q, .ref ho]) (n := 5) (Nat.le_of_ble_eq_true rfl)
  rw [lg_entry_eq]
  generalize (lg_sl ([.ref (h 0), .int f, .int q, .ref ho]) ++ List.replicate (5 - (lg_sl ([.ref (h 0), .int f, .int q, .ref ho])).length) Slot.unset).toArray = ls at hl ⊢
  have hl : lv_has ls 5 [(0, .ref (h 0)), (1, .int f), (2, .int q), (3, .ref ho)] := hl
  refine lv_aload_n hx hb d_L_bad_0 rfl (lv_at hl 3 rfl) ?_
  refine lv_iconst (v := nI 0) hx hb d_L_bad_1 (by decide +kernel) ?_
  refine lv_aload_n hx hb d_L_bad_2 rfl (lv_at hl 0 rfl) ?_
  refine lv_iload_n hx hb d_L_bad_3 rfl (lv_at hl 1 rfl) ?_
  refine lv_iload_n hx hb d_L_bad_4 rfl (lv_at hl 2 rfl) ?_
  rcases Classical.em (∃ i, i < nF ∧ f = nI i) with hb9 | hb9
  · obtain ⟨i1, hi1, rfl⟩ := hb9
    rcases (show gN nC cf ct aK cj K nF ≤ 800 ∨ 800 < gN nC cf ct aK cj K nF by omega) with hfew | hmany
    · have hPc := hP.sub (ws' := wC h cI (nI nF) (nI nC) yn yt (nI ga) ym (fun c => nI (pl c)) (fun c => nI (cf c)) (fun c => nI (ct c)) aK eB eE eA eL eN eC eS eW eT) [1, 2, 3, 4, 5, 6, 7, 8, 9, 10, 11, 12, 13, 14, 15, 16, 17] rfl
      have hDc := hD.sub (ws' := wC h cI (nI nF) (nI nC) yn yt (nI ga) ym (fun c => nI (pl c)) (fun c => nI (cf c)) (fun c => nI (ct c)) aK eB eE eA eL eN eC eS eW eT) [1, 2, 3, 4, 5, 6, 7, 8, 9, 10, 11, 12, 13, 14, 15, 16, 17] (by decide) rfl
      have hKc := hK.sub (tys' := tyC cI) [0] rfl
      have hFc := va_free (wc := wC h cI (nI nF) (nI nC) yn yt (nI ga) ym (fun c => nI (pl c)) (fun c => nI (cf c)) (fun c => nI (ct c)) aK eB eE eA eL eN eC eS eW eT) hD hS hA [1, 2, 3, 4, 5, 6, 7, 8, 9, 10, 11, 12, 13, 14, 15, 16, 17] rfl
      refine va_calli (va_runV (As := [.int (nI i1), .int q]) (rest := [.int (nI 0), .ref ho]) ⟨hx, hb, hml, hown, hk⟩ (c_X_bad_ok l dC dI cI h s.heap.size yn yt ym aK eB eE eA eL eN eC eS eW eT nF nC pl cf ct K ga i1 q (hF) (hC) (hS0) (hpl) (hK8) (hcl) (hga) (hfew) (hi1)) (cwV 2 hk gh_39 rfl rfl rfl (by decide +kernel) ⟨Nat.le_of_ble_eq_true rfl, Nat.le_of_ble_eq_true rfl⟩) ⟨fun a U g mk q => by obtain ⟨q0, q1, qP, qK, qD⟩ := q; exact ⟨q0, q1, qP, va_K.moved (u := U) (U := U.calling g mk a) (Vm.Alike.refl U.vm) qK, qD⟩, va_recv hK hP (ci := 4) (q0 := 1) rfl rfl, fun U hU hW => ⟨rfl, by rw [hU], by rw [hU]; exact hPc, va_K.moved hW.alike hKc, hDc.weaken (fun _ _ _ _ => trivial)⟩⟩ rfl rfl hl.1 rfl (lv_room (Nat.le_of_ble_eq_true rfl)) d_L_bad_5 ⟨Nat.le_of_ble_eq_true rfl, Nat.le_of_ble_eq_true rfl⟩) hS (fun q _ h => hFc q h) hFc (fun r1 u9 t H1 locs ht hvm hw hB hz1 hk1 hS => ?_)
      obtain ⟨yn9, yt9, yg9, eB9, eE9, eA9, eL9, eN9, eC9, eS9, eW9⟩ := u9
      obtain ⟨hP1, hK1, hD1⟩ := hB
      rw [ht] at hP1
      try dsimp only at hw hP1 hD1
      obtain ⟨hP, hD⟩ := va_join (wr := [(ho, .inl (cJ, 1, .inr (.inl fo)))]) (w1 := wC h cI (nI nF) (nI nC) yn9 yt9 yg9 ym (fun c => nI (pl c)) (fun c => nI (cf c)) (fun c => nI (ct c)) aK eB9 eE9 eA9 eL9 eN9 eC9 eS9 eW9 eT) hP hD [1, 2, 3, 4, 5, 6, 7, 8, 9, 10, 11, 12, 13, 14, 15, 16, 17] [0] rfl rfl (by decide) (by decide) hk1 hFc hP1 hD1
      generalize H1 = H at hP hS ⊢
      obtain ⟨ht0, hg1, hgo, hv9⟩ := hw
      have hP : va_P (dC, dI) kls ((ho, .inl (cJ, 1, .inr (.inl fo))) :: wC h cI (nI nF) (nI nC) yn9 yt9 yg9 ym (fun c => nI (pl c)) (fun c => nI (cf c)) (fun c => nI (ct c)) aK eB9 eE9 eA9 eL9 eN9 eC9 eS9 eW9 eT) H := hP
      have hD : va_D A ((ho, .inl (cJ, 1, .inr (.inl fo))) :: wC h cI (nI nF) (nI nC) yn9 yt9 yg9 ym (fun c => nI (pl c)) (fun c => nI (cf c)) (fun c => nI (ct c)) aK eB9 eE9 eA9 eL9 eN9 eC9 eS9 eW9 eT) := hD
      refine lv_i2l (v := r1.toInt64) hx hb d_L_bad_8 rfl ?_
      refine va_last hx hb hK hP hD hS 0 1 rfl rfl (pk_in 0 1 (by omega)) d_L_bad_9 (fun H locs hP hD hS => ?_)
      rw [nI_clamp (n := 0) (by omega)] at hP hD
      have hP : va_P (dC, dI) kls ((ho, .inl (cJ, 1, .inr (.inl (vp_updL fo 0 r1.toInt64)))) :: wC h cI (nI nF) (nI nC) yn9 yt9 yg9 ym (fun c => nI (pl c)) (fun c => nI (cf c)) (fun c => nI (ct c)) aK eB9 eE9 eA9 eL9 eN9 eC9 eS9 eW9 eT) H := hP
      have hD : va_D A ((ho, .inl (cJ, 1, .inr (.inl (vp_updL fo 0 r1.toInt64)))) :: wC h cI (nI nF) (nI nC) yn9 yt9 yg9 ym (fun c => nI (pl c)) (fun c => nI (cf c)) (fun c => nI (ct c)) aK eB9 eE9 eA9 eL9 eN9 eC9 eS9 eW9 eT) := hD
      refine lv_goto (tgt := 17) hx hb d_L_bad_10 (by decide) ?_
      refine lv_iconst (v := nI 0) hx hb d_L_bad_17 (by decide +kernel) ?_
      refine vx_ret (W.widen (k := 1) (n := 6) (Nat.le_of_ble_eq_true rfl) (Nat.le_of_ble_eq_true rfl) ?_)
      exact W.iret (v := nI 0) hx hb hr (fun t ht hW => ⟨⟨nI 0, (vp_updL fo 0 r1.toInt64, yn9, yt9, yg9, eB9, eE9, eA9, eL9, eN9, eC9, eS9, eW9), rfl, Or.inl ⟨i1, hi1, rfl, hfew, rfl, ⟨r1, rfl, hv9⟩, ⟨hg1, Or.inl ⟨ht0, hgo⟩⟩⟩, by rw [ht]; exact hP, va_K.moved hW.alike hK, hD⟩, hS.F ht⟩) hS.2.2 d_L_bad_18
    · have hPc := hP.sub (ws' := wC h cI (nI nF) (nI nC) yn yt (nI ga) ym (fun c => nI (pl c)) (fun c => nI (cf c)) (fun c => nI (ct c)) aK eB eE eA eL eN eC eS eW eT) [1, 2, 3, 4, 5, 6, 7, 8, 9, 10, 11, 12, 13, 14, 15, 16, 17] rfl
      have hDc := hD.sub (ws' := wC h cI (nI nF) (nI nC) yn yt (nI ga) ym (fun c => nI (pl c)) (fun c => nI (cf c)) (fun c => nI (ct c)) aK eB eE eA eL eN eC eS eW eT) [1, 2, 3, 4, 5, 6, 7, 8, 9, 10, 11, 12, 13, 14, 15, 16, 17] (by decide) rfl
      have hKc := hK.sub (tys' := tyC cI) [0] rfl
      have hFc := va_free (wc := wC h cI (nI nF) (nI nC) yn yt (nI ga) ym (fun c => nI (pl c)) (fun c => nI (cf c)) (fun c => nI (ct c)) aK eB eE eA eL eN eC eS eW eT) hD hS hA [1, 2, 3, 4, 5, 6, 7, 8, 9, 10, 11, 12, 13, 14, 15, 16, 17] rfl
      refine vx_calli (vx_runV (As := [.int (nI i1), .int q]) (rest := [.int (nI 0), .ref ho]) ⟨hx, hb, hml, hown, hk⟩ (c_X_bad_many l hst dC dI cI h s.heap.size yn yt ym aK eB eE eA eL eN eC eS eW eT nF nC pl cf ct K ga i1 q sa (hF) (hC) (hS0) (hpl) (hK8) (hcl) (hga) (hmany) (hi1)) (cwV 2 hk ghx_39 rfl rfl rfl (by decide +kernel) ⟨Nat.le_of_ble_eq_true rfl, Nat.le_of_ble_eq_true rfl⟩) ⟨fun a U g mk q => by obtain ⟨q0, q1, qP, qK, qD, qT, qZ⟩ := q; exact ⟨q0, q1, qP, va_K.moved (u := U) (U := U.calling g mk a) (Vm.Alike.refl U.vm) qK, qD, xT.same rfl qT, xZ.blind (u := U) (U := U.calling g mk a) (Vm.Alike.refl U.vm) qZ⟩, va_recv hK hP (ci := 4) (q0 := 1) rfl rfl, fun U hU hW => ⟨rfl, by rw [hU], by rw [hU]; exact hPc, va_K.moved hW.alike hKc, hDc.weaken (fun _ _ _ _ => trivial), xT.warm hW hT, xZ.here hZ hS hFc hW.alike hU⟩⟩ rfl rfl hl.1 rfl (lv_room (Nat.le_of_ble_eq_true rfl)) d_L_bad_5 ⟨Nat.le_of_ble_eq_true rfl, Nat.le_of_ble_eq_true rfl⟩) hS (fun q _ h => hFc q h) hFc (fun q _ h => hFc q h) (fun E ce q9 u9 t H1 locs ht hvm hw hB hz1 hk1 hS hce hcv hcl9 => ?_) (fun r1 u9 t H1 locs ht hvm hf9 => hf9.elim)
      obtain ⟨yn9, yt9, yg9, eB9, eE9, eA9, eL9, eN9, eC9, eS9, eW9⟩ := u9
      obtain ⟨hE, hP1, hK1, hD1⟩ := hB
      subst hE
      rw [ht] at hP1
      try dsimp only at hw hP1 hD1
      obtain ⟨hP, hD⟩ := va_join (wr := [(ho, .inl (cJ, 1, .inr (.inl fo)))]) (w1 := wC h cI (nI nF) (nI nC) yn9 yt9 yg9 ym (fun c => nI (pl c)) (fun c => nI (cf c)) (fun c => nI (ct c)) aK eB9 eE9 eA9 eL9 eN9 eC9 eS9 eW9 eT) hP hD [1, 2, 3, 4, 5, 6, 7, 8, 9, 10, 11, 12, 13, 14, 15, 16, 17] [0] rfl rfl (by decide) (by decide) hk1 hFc hP1 hD1
      refine vx_catch (own := R_L) (name := "java/lang/UnsupportedOperationException") (E := "java/lang/UnsupportedOperationException") hown [] ⟨0, 10, 13, 27⟩ [] (htb.trans rfl) (fun z hz => absurd hz List.not_mem_nil) (by decide) (by decide) (hk _ k_H_10) (va_Nw.use rfl hT.2.2.2.2.2.2.1) hce hcv hcl9 ?_
      generalize H1 = H at hP hS ⊢
      have hP : va_P (dC, dI) kls ((ho, .inl (cJ, 1, .inr (.inl fo))) :: wC h cI (nI nF) (nI nC) yn9 yt9 yg9 ym (fun c => nI (pl c)) (fun c => nI (cf c)) (fun c => nI (ct c)) aK eB9 eE9 eA9 eL9 eN9 eC9 eS9 eW9 eT) H := hP
      have hD : va_D A ((ho, .inl (cJ, 1, .inr (.inl fo))) :: wC h cI (nI nF) (nI nC) yn9 yt9 yg9 ym (fun c => nI (pl c)) (fun c => nI (cf c)) (fun c => nI (ct c)) aK eB9 eE9 eA9 eL9 eN9 eC9 eS9 eW9 eT) := hD
      refine lv_astore (lv' := [(4, .ref q9), (0, .ref (h 0)), (1, .int (nI i1)), (2, .int q), (3, .ref ho)]) hx hb d_L_bad_13 hl (by decide) rfl (fun ls hl => ?_)
      refine lv_iconst (v := nI 1) hx hb d_L_bad_15 (by decide +kernel) ?_
      refine vx_ret (W.widen (k := 1) (n := 6) (Nat.le_of_ble_eq_true rfl) (Nat.le_of_ble_eq_true rfl) ?_)
      exact W.iret (v := nI 1) hx hb hr (fun t ht hW => ⟨⟨nI 1, (fo, yn9, yt9, yg9, eB9, eE9, eA9, eL9, eN9, eC9, eS9, eW9), rfl, Or.inr (Or.inr ⟨i1, hi1, rfl, hmany, rfl, hw⟩), by rw [ht]; exact hP, va_K.moved hW.alike hK, hD⟩, hS.F ht⟩) hS.2.2 d_L_bad_16
  · have hPc := hP.sub (ws' := wC h cI (nI nF) (nI nC) yn yt (nI ga) ym (fun c => nI (pl c)) (fun c => nI (cf c)) (fun c => nI (ct c)) aK eB eE eA eL eN eC eS eW eT) [1, 2, 3, 4, 5, 6, 7, 8, 9, 10, 11, 12, 13, 14, 15, 16, 17] rfl
    have hDc := hD.sub (ws' := wC h cI (nI nF) (nI nC) yn yt (nI ga) ym (fun c => nI (pl c)) (fun c => nI (cf c)) (fun c => nI (ct c)) aK eB eE eA eL eN eC eS eW eT) [1, 2, 3, 4, 5, 6, 7, 8, 9, 10, 11, 12, 13, 14, 15, 16, 17] (by decide) rfl
    have hKc := hK.sub (tys' := tyC cI) [0] rfl
    have hFc := va_free (wc := wC h cI (nI nF) (nI nC) yn yt (nI ga) ym (fun c => nI (pl c)) (fun c => nI (cf c)) (fun c => nI (ct c)) aK eB eE eA eL eN eC eS eW eT) hD hS hA [1, 2, 3, 4, 5, 6, 7, 8, 9, 10, 11, 12, 13, 14, 15, 16, 17] rfl
    refine va_calli (va_runV (As := [.int f, .int q]) (rest := [.int (nI 0), .ref ho]) ⟨hx, hb, hml, hown, hk⟩ (c_X_bad_no l dC dI cI h s.heap.size yn yt (nI ga) ym aK eB eE eA eL eN eC eS eW eT nF nC pl cf ct f q (hF) (hb9)) (cwV 2 hk gh_39 rfl rfl rfl (by decide +kernel) ⟨Nat.le_of_ble_eq_true rfl, Nat.le_of_ble_eq_true rfl⟩) ⟨fun a U g mk q => by obtain ⟨q0, q1, qP, qK, qD⟩ := q; exact ⟨q0, q1, qP, va_K.moved (u := U) (U := U.calling g mk a) (Vm.Alike.refl U.vm) qK, qD⟩, va_recv hK hP (ci := 4) (q0 := 1) rfl rfl, fun U hU hW => ⟨rfl, by rw [hU], by rw [hU]; exact hPc, va_K.moved hW.alike hKc, hDc.weaken (fun _ _ _ _ => trivial)⟩⟩ rfl rfl hl.1 rfl (lv_room (Nat.le_of_ble_eq_true rfl)) d_L_bad_5 ⟨Nat.le_of_ble_eq_true rfl, Nat.le_of_ble_eq_true rfl⟩) hS (fun q _ h => hFc q h) hFc (fun r1 u9 t H1 locs ht hvm hw hB hz1 hk1 hS => ?_)
    obtain ⟨hP1, hK1, hD1⟩ := hB
    rw [ht] at hP1
    try dsimp only at hw hP1 hD1
    obtain ⟨hP, hD⟩ := va_join (wr := [(ho, .inl (cJ, 1, .inr (.inl fo)))]) (w1 := wC h cI (nI nF) (nI nC) yn yt (nI ga) ym (fun c => nI (pl c)) (fun c => nI (cf c)) (fun c => nI (ct c)) aK eB eE eA eL eN eC eS eW eT) hP hD [1, 2, 3, 4, 5, 6, 7, 8, 9, 10, 11, 12, 13, 14, 15, 16, 17] [0] rfl rfl (by decide) (by decide) hk1 hFc hP1 hD1
    generalize H1 = H at hP hS ⊢
    subst hw
    have hP : va_P (dC, dI) kls ((ho, .inl (cJ, 1, .inr (.inl fo))) :: wC h cI (nI nF) (nI nC) yn yt (nI ga) ym (fun c => nI (pl c)) (fun c => nI (cf c)) (fun c => nI (ct c)) aK eB eE eA eL eN eC eS eW eT) H := hP
    have hD : va_D A ((ho, .inl (cJ, 1, .inr (.inl fo))) :: wC h cI (nI nF) (nI nC) yn yt (nI ga) ym (fun c => nI (pl c)) (fun c => nI (cf c)) (fun c => nI (ct c)) aK eB eE eA eL eN eC eS eW eT) := hD
    refine lv_i2l (v := (-1).toInt64) hx hb d_L_bad_8 rfl ?_
    refine va_last hx hb hK hP hD hS 0 1 rfl rfl (pk_in 0 1 (by omega)) d_L_bad_9 (fun H locs hP hD hS => ?_)
    rw [nI_clamp (n := 0) (by omega)] at hP hD
    have hP : va_P (dC, dI) kls ((ho, .inl (cJ, 1, .inr (.inl (vp_updL fo 0 ((-1).toInt64))))) :: wC h cI (nI nF) (nI nC) yn yt (nI ga) ym (fun c => nI (pl c)) (fun c => nI (cf c)) (fun c => nI (ct c)) aK eB eE eA eL eN eC eS eW eT) H := hP
    have hD : va_D A ((ho, .inl (cJ, 1, .inr (.inl (vp_updL fo 0 ((-1).toInt64))))) :: wC h cI (nI nF) (nI nC) yn yt (nI ga) ym (fun c => nI (pl c)) (fun c => nI (cf c)) (fun c => nI (ct c)) aK eB eE eA eL eN eC eS eW eT) := hD
    refine lv_goto (tgt := 17) hx hb d_L_bad_10 (by decide) ?_
    refine lv_iconst (v := nI 0) hx hb d_L_bad_17 (by decide +kernel) ?_
    refine vx_ret (W.widen (k := 1) (n := 6) (Nat.le_of_ble_eq_true rfl) (Nat.le_of_ble_eq_true rfl) ?_)
    exact W.iret (v := nI 0) hx hb hr (fun t ht hW => ⟨⟨nI 0, (vp_updL fo 0 ((-1).toInt64), yn, yt, nI ga, eB, eE, eA, eL, eN, eC, eS, eW), rfl, Or.inr (Or.inl ⟨hb9, rfl, rfl, rfl⟩), by rw [ht]; exact hP, va_K.moved hW.alike hK, hD⟩, hS.F ht⟩) hS.2.2 d_L_bad_18
