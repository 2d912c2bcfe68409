abbrev tyH (cI cJ : ClassId) : List (ClassId × FieldType) := [(cI, .int), (cJ, .long)]
set_option maxHeartbeats 4000000 in
set_option maxRecDepth 100000 in
theorem c_L_function_ok (l : Launch) (hst : l.stackTraces = false) (dC : Nat → ClassId) (dI : Nat → Nat → Nat) (cI cJ : ClassId) (h : Nat → Nat) (ho sz : Nat) (fo : Nat → Int64) (yn yt yg ym : Int32) (aK eB eE eA eL eN eC eS eW eT : Nat → Int32) (nF nC : Nat) (pl cf ct : Nat → Nat) (q : Int32) (sa : Nat → Nat) (hF : nF ≤ 10) : vx_Met l y_L_function w_L_function ({ frames := 8, cells := 1, slots := 6, locals := 330 }) (va_Pc [.ref (h 0), .int q, .ref ho] (fun U => U.heap.size = sz ∧ va_P (dC, dI) kls ((ho, .inl (cJ, 1, .inr (.inl fo))) :: wC h cI (nI nF) (nI nC) yn yt yg ym (fun c => nI (pl c)) (fun c => nI (cf c)) (fun c => nI (ct c)) aK eB eE eA eL eN eC eS eW eT) U.heap ∧ va_K (dC, dI) kls (tyH cI cJ) U ∧ va_D (fun _ => True) ((ho, .inl (cJ, 1, .inr (.inl fo))) :: wC h cI (nI nF) (nI nC) yn yt yg ym (fun c => nI (pl c)) (fun c => nI (cf c)) (fun c => nI (ct c)) aK eB eE eA eL eN eC eS eW eT) ∧ xT sa U ∧ xC U ∧ xZ (va_A ((ho, .inl (cJ, 1, .inr (.inl fo))) :: wC h cI (nI nF) (nI nC) yn yt yg ym (fun c => nI (pl c)) (fun c => nI (cf c)) (fun c => nI (ct c)) aK eB eE eA eL eN eC eS eW eT) sz) U U.heap)) (va_Qi (fun (r : Int32) (u : (Nat → Int64) × Int32 × (Nat → Int32) × Int32) => (∃ j, 1 ≤ j ∧ j ≤ 4 ∧ q = nI j ∧ nF < 10 ∧ r = nI 0 ∧ u.1 0 = (nI nF).toInt64 ∧ u.2 = (nI (nF + 1), (fun c => nI (updN pl nF j c)), nI 0)) ∨ ((¬ ∃ j, 1 ≤ j ∧ j ≤ 4 ∧ q = nI j) ∧ r = nI 1 ∧ u.2 = (nI nF, (fun c => nI (pl c)), yg)) ∨ ((∃ j, 1 ≤ j ∧ j ≤ 4 ∧ q = nI j) ∧ nF = 10 ∧ r = nI 2 ∧ u.2 = (nI nF, (fun c => nI (pl c)), yg))) (fun (u : (Nat → Int64) × Int32 × (Nat → Int32) × Int32) (t : State) => va_P (dC, dI) kls ((ho, .inl (cJ, 1, .inr (.inl u.1))) :: wC h cI u.2.1 (nI nC) yn yt u.2.2.2 ym u.2.2.1 (fun c => nI (cf c)) (fun c => nI (ct c)) aK eB eE eA eL eN eC eS eW eT) t.heap ∧ va_K (dC, dI) kls (tyH cI cJ) t ∧ va_D (va_A ((ho, .inl (cJ, 1, .inr (.inl fo))) :: wC h cI (nI nF) (nI nC) yn yt yg ym (fun c => nI (pl c)) (fun c => nI (cf c)) (fun c => nI (ct c)) aK eB eE eA eL eN eC eS eW eT) sz) ((ho, .inl (cJ, 1, .inr (.inl u.1))) :: wC h cI u.2.1 (nI nC) yn yt u.2.2.2 ym u.2.2.1 (fun c => nI (cf c)) (fun c => nI (ct c)) aK eB eE eA eL eN eC eS eW eT)) (va_A ((ho, .inl (cJ, 1, .inr (.inl fo))) :: wC h cI (nI nF) (nI nC) yn yt yg ym (fun c => nI (pl c)) (fun c => nI (cf c)) (fun c => nI (ct c)) aK eB eE eA eL eN eC eS eW eT) sz)) (vx_X (fun (_ : Unit) => False) (fun _ _ _ => True) (va_A ((ho, .inl (cJ, 1, .inr (.inl fo))) :: wC h cI (nI nF) (nI nC) yn yt yg ym (fun c => nI (pl c)) (fun c => nI (cf c)) (fun c => nI (ct c)) aK eB eE eA eL eN eC eS eW eT) sz)) 1 6 (va_A ((ho, .inl (cJ, 1, .inr (.inl fo))) :: wC h cI (nI nF) (nI nC) yn yt yg ym (fun c => nI (pl c)) (fun c => nI (cf c)) (fun c => nI (ct c)) aK eB eE eA eL eN eC eS eW eT) sz) := by
  refine vx_ofWH (cc := c_L_function) (maxL := 4) (ret := (some .int)) (hh := hh_L_function) (by decide) rfl ?_
  intro p e s m args below meth c s₁ B hml hv
  obtain ⟨rfl, hsz, hP, hK, hD0, hT, hC9, hZ⟩ := hv
  have hx := B.exec
  have hb := B.bytes
  have hr := B.returns
  have hts := atoms_spec (ws := w_L_function) B.pre
  have htb := vx_table (x := y_L_function) B (hts _ List.mem_cons_self)
  have hk : ∀ w ∈ wHw, w.before _ s = true := fun w h => hts w (List.mem_cons_of_mem _ h)
  have hown : s.vm.findClass R_L = some m.cls := findClass_of_methodNamed B.named
  subst hsz
  have hD := hD0.self (sz := s.heap.size)
  generalize hAe : va_A ((ho, .inl (cJ, 1, .inr (.inl fo))) :: wC h cI (nI nF) (nI nC) yn yt yg ym (fun c => nI (pl c)) (fun c => nI (cf c)) (fun c => nI (ct c)) aK eB eE eA eL eN eC eS eW eT) s.heap.size = A at hD hZ ⊢
  have hA : ∀ q : Nat, s.heap.size ≤ q → A q := fun q h => by rw [← hAe]; exact Or.inr h
  have hS : va_S A s.heap s.heap [] := va_S.rf
  have hl := lv_entry ([.ref (h 0), .int q, .ref ho]) (n := 4) (Nat.le_of_ble_eq_true rfl)
  rw [lg_entry_eq]
  generalize (lg_sl ([.ref (h 0), .int q, .ref ho]) ++ List.replicate (4 - (lg_sl ([.ref (h 0), .int q, .ref ho])).length) Slot.unset).toArray = ls at hl ⊢
  have hl : lv_has ls 4 [(0, .ref (h 0)), (1, .int q), (2, .ref ho)] := hl
  refine lv_aload_n hx hb d_L_function_0 rfl (lv_at hl 2 rfl) ?_
  refine lv_iconst (v := nI 0) hx hb d_L_function_1 (by decide +kernel) ?_
  refine lv_aload_n hx hb d_L_function_2 rfl (lv_at hl 0 rfl) ?_
  refine lv_iload_n hx hb d_L_function_3 rfl (lv_at hl 1 rfl) ?_
  rcases Classical.em (∃ j, 1 ≤ j ∧ j ≤ 4 ∧ q = nI j) with hq | hq
  · obtain ⟨j, hj1, hj4, rfl⟩ := hq
    rcases (show nF < 10 ∨ nF = 10 by omega) with hn | hn
    · have hPc := hP.sub (ws' := wC h cI (nI nF) (nI nC) yn yt yg ym (fun c => nI (pl c)) (fun c => nI (cf c)) (fun c => nI (ct c)) aK eB eE eA eL eN eC eS eW eT) [1, 2, 3, 4, 5, 6, 7, 8, 9, 10, 11, 12, 13, 14, 15, 16, 17] rfl
      have hDc := hD.sub (ws' := wC h cI (nI nF) (nI nC) yn yt yg ym (fun c => nI (pl c)) (fun c => nI (cf c)) (fun c => nI (ct c)) aK eB eE eA eL eN eC eS eW eT) [1, 2, 3, 4, 5, 6, 7, 8, 9, 10, 11, 12, 13, 14, 15, 16, 17] (by decide) rfl
      have hKc := hK.sub (tys' := tyC cI) [0] rfl
      have hFc := va_free (wc := wC h cI (nI nF) (nI nC) yn yt yg ym (fun c => nI (pl c)) (fun c => nI (cf c)) (fun c => nI (ct c)) aK eB eE eA eL eN eC eS eW eT) hD hS hA [1, 2, 3, 4, 5, 6, 7, 8, 9, 10, 11, 12, 13, 14, 15, 16, 17] rfl
      refine va_calli (va_runV (As := [.int (nI j)]) (rest := [.int (nI 0), .ref ho]) ⟨hx, hb, hml, hown, hk⟩ (c_X_function_ok l dC dI cI h s.heap.size yn yt yg ym aK eB eE eA eL eN eC eS eW eT nF nC pl cf ct j (by omega) (hj1) (hj4)) (cwV 1 hk gh_7 rfl rfl rfl (by decide +kernel) ⟨Nat.le_of_ble_eq_true rfl, Nat.le_of_ble_eq_true rfl⟩) ⟨fun a U g mk q => by obtain ⟨q0, q1, qP, qK, qD⟩ := q; exact ⟨q0, q1, qP, va_K.moved (u := U) (U := U.calling g mk a) (Vm.Alike.refl U.vm) qK, qD⟩, va_recv hK hP (ci := 4) (q0 := 1) rfl rfl, fun U hU hW => ⟨rfl, by rw [hU], by rw [hU]; exact hPc, va_K.moved hW.alike hKc, hDc.weaken (fun _ _ _ _ => trivial)⟩⟩ rfl rfl hl.1 rfl (lv_room (Nat.le_of_ble_eq_true rfl)) d_L_function_4 ⟨Nat.le_of_ble_eq_true rfl, Nat.le_of_ble_eq_true rfl⟩) hS (fun q _ h => hFc q h) hFc (fun r1 u9 t H1 locs ht hvm hw hB hz1 hk1 hS => ?_)
      obtain ⟨yf9, aP9, yg9⟩ := u9
      obtain ⟨hP1, hK1, hD1⟩ := hB
      rw [ht] at hP1
      try dsimp only at hw hP1 hD1
      obtain ⟨hP, hD⟩ := va_join (wr := [(ho, .inl (cJ, 1, .inr (.inl fo)))]) (w1 := wC h cI yf9 (nI nC) yn yt yg9 ym aP9 (fun c => nI (cf c)) (fun c => nI (ct c)) aK eB eE eA eL eN eC eS eW eT) hP hD [1, 2, 3, 4, 5, 6, 7, 8, 9, 10, 11, 12, 13, 14, 15, 16, 17] [0] rfl rfl (by decide) (by decide) hk1 hFc hP1 hD1
      generalize H1 = H at hP hS ⊢
      obtain ⟨hu1, hu2, hu3, hr9⟩ := hw
      subst hu1
      subst hu2
      subst hu3
      subst hr9
      have hP : va_P (dC, dI) kls ((ho, .inl (cJ, 1, .inr (.inl fo))) :: wC h cI (nI (nF + 1)) (nI nC) yn yt (nI 0) ym (fun c => nI (updN pl nF j c)) (fun c => nI (cf c)) (fun c => nI (ct c)) aK eB eE eA eL eN eC eS eW eT) H := hP
      have hD : va_D A ((ho, .inl (cJ, 1, .inr (.inl fo))) :: wC h cI (nI (nF + 1)) (nI nC) yn yt (nI 0) ym (fun c => nI (updN pl nF j c)) (fun c => nI (cf c)) (fun c => nI (ct c)) aK eB eE eA eL eN eC eS eW eT) := hD
      refine lv_i2l (v := (nI nF).toInt64) hx hb d_L_function_7 rfl ?_
      refine va_last hx hb hK hP hD hS 0 1 rfl rfl (pk_in 0 1 (by omega)) d_L_function_8 (fun H locs hP hD hS => ?_)
      rw [nI_clamp (n := 0) (by omega)] at hP hD
      have hP : va_P (dC, dI) kls ((ho, .inl (cJ, 1, .inr (.inl (vp_updL fo 0 ((nI nF).toInt64))))) :: wC h cI (nI (nF + 1)) (nI nC) yn yt (nI 0) ym (fun c => nI (updN pl nF j c)) (fun c => nI (cf c)) (fun c => nI (ct c)) aK eB eE eA eL eN eC eS eW eT) H := hP
      have hD : va_D A ((ho, .inl (cJ, 1, .inr (.inl (vp_updL fo 0 ((nI nF).toInt64))))) :: wC h cI (nI (nF + 1)) (nI nC) yn yt (nI 0) ym (fun c => nI (updN pl nF j c)) (fun c => nI (cf c)) (fun c => nI (ct c)) aK eB eE eA eL eN eC eS eW eT) := hD
      refine lv_goto (tgt := 18) hx hb d_L_function_9 (by decide) ?_
      refine lv_iconst (v := nI 0) hx hb d_L_function_18 (by decide +kernel) ?_
      refine vx_ret (W.widen (k := 1) (n := 6) (Nat.le_of_ble_eq_true rfl) (Nat.le_of_ble_eq_true rfl) ?_)
      exact W.iret (v := nI 0) hx hb hr (fun t ht hW => ⟨⟨nI 0, (vp_updL fo 0 (nI nF).toInt64, nI (nF + 1), (fun c => nI (updN pl nF j c)), nI 0), rfl, Or.inl ⟨j, hj1, hj4, rfl, hn, rfl, rfl, rfl⟩, by rw [ht]; exact hP, va_K.moved hW.alike hK, hD⟩, hS.F ht⟩) hS.2.2 d_L_function_19
    · have hPc := hP.sub (ws' := wC h cI (nI nF) (nI nC) yn yt yg ym (fun c => nI (pl c)) (fun c => nI (cf c)) (fun c => nI (ct c)) aK eB eE eA eL eN eC eS eW eT) [1, 2, 3, 4, 5, 6, 7, 8, 9, 10, 11, 12, 13, 14, 15, 16, 17] rfl
      have hDc := hD.sub (ws' := wC h cI (nI nF) (nI nC) yn yt yg ym (fun c => nI (pl c)) (fun c => nI (cf c)) (fun c => nI (ct c)) aK eB eE eA eL eN eC eS eW eT) [1, 2, 3, 4, 5, 6, 7, 8, 9, 10, 11, 12, 13, 14, 15, 16, 17] (by decide) rfl
      have hKc := hK.sub (tys' := tyC cI) [0] rfl
      have hFc := va_free (wc := wC h cI (nI nF) (nI nC) yn yt yg ym (fun c => nI (pl c)) (fun c => nI (cf c)) (fun c => nI (ct c)) aK eB eE eA eL eN eC eS eW eT) hD hS hA [1, 2, 3, 4, 5, 6, 7, 8, 9, 10, 11, 12, 13, 14, 15, 16, 17] rfl
      refine vx_calli (vx_runV (As := [.int (nI j)]) (rest := [.int (nI 0), .ref ho]) ⟨hx, hb, hml, hown, hk⟩ (c_X_function_x2 l hst dC dI cI h s.heap.size yn yt yg ym aK eB eE eA eL eN eC eS eW eT nF nC pl cf ct j sa (by omega) (hj1) (hj4)) (cwV 1 hk ghx_7 rfl rfl rfl (by decide +kernel) ⟨Nat.le_of_ble_eq_true rfl, Nat.le_of_ble_eq_true rfl⟩) ⟨fun a U g mk q => by obtain ⟨q0, q1, qP, qK, qD, qT, qZ⟩ := q; exact ⟨q0, q1, qP, va_K.moved (u := U) (U := U.calling g mk a) (Vm.Alike.refl U.vm) qK, qD, xT.same rfl qT, xZ.blind (u := U) (U := U.calling g mk a) (Vm.Alike.refl U.vm) qZ⟩, va_recv hK hP (ci := 4) (q0 := 1) rfl rfl, fun U hU hW => ⟨rfl, by rw [hU], by rw [hU]; exact hPc, va_K.moved hW.alike hKc, hDc.weaken (fun _ _ _ _ => trivial), xT.warm hW hT, xZ.here hZ hS hFc hW.alike hU⟩⟩ rfl rfl hl.1 rfl (lv_room (Nat.le_of_ble_eq_true rfl)) d_L_function_4 ⟨Nat.le_of_ble_eq_true rfl, Nat.le_of_ble_eq_true rfl⟩) hS (fun q _ h => hFc q h) hFc (fun q _ h => hFc q h) (fun E ce q9 u9 t H1 locs ht hvm hw hB hz1 hk1 hS hce hcv hcl9 => ?_) (fun r1 u9 t H1 locs ht hvm hf9 => hf9.elim)
      obtain ⟨hE, hP1, hK1, hD1⟩ := hB
      subst hE
      rw [ht] at hP1
      try dsimp only at hw hP1 hD1
      obtain ⟨hP, hD⟩ := va_join (wr := [(ho, .inl (cJ, 1, .inr (.inl fo)))]) (w1 := wC h cI (nI nF) (nI nC) yn yt yg ym (fun c => nI (pl c)) (fun c => nI (cf c)) (fun c => nI (ct c)) aK eB eE eA eL eN eC eS eW eT) hP hD [1, 2, 3, 4, 5, 6, 7, 8, 9, 10, 11, 12, 13, 14, 15, 16, 17] [0] rfl rfl (by decide) (by decide) hk1 hFc hP1 hD1
      refine vx_catch (own := R_L) (name := "java/lang/IllegalStateException") (E := "java/lang/IllegalStateException") hown [⟨0, 9, 12, 13⟩] ⟨0, 9, 15, 15⟩ [] (htb.trans rfl) (fun z hz => by rw [List.mem_singleton.mp hz]; exact Or.inr ⟨(by decide), "java/lang/IllegalArgumentException", hk _ k_H_7, hC9.1⟩) (by decide) (by decide) (hk _ k_H_8) (va_Nw.use rfl hT.2.2.2.2.1) hce hcv hcl9 ?_
      generalize H1 = H at hP hS ⊢
      have hP : va_P (dC, dI) kls ((ho, .inl (cJ, 1, .inr (.inl fo))) :: wC h cI (nI nF) (nI nC) yn yt yg ym (fun c => nI (pl c)) (fun c => nI (cf c)) (fun c => nI (ct c)) aK eB eE eA eL eN eC eS eW eT) H := hP
      have hD : va_D A ((ho, .inl (cJ, 1, .inr (.inl fo))) :: wC h cI (nI nF) (nI nC) yn yt yg ym (fun c => nI (pl c)) (fun c => nI (cf c)) (fun c => nI (ct c)) aK eB eE eA eL eN eC eS eW eT) := hD
      refine lv_astore_n (lv' := [(3, .ref q9), (0, .ref (h 0)), (1, .int (nI j)), (2, .ref ho)]) hx hb d_L_function_15 rfl hl (by decide) rfl (fun ls hl => ?_)
      refine lv_iconst (v := nI 2) hx hb d_L_function_16 (by decide +kernel) ?_
      refine vx_ret (W.widen (k := 1) (n := 6) (Nat.le_of_ble_eq_true rfl) (Nat.le_of_ble_eq_true rfl) ?_)
      exact W.iret (v := nI 2) hx hb hr (fun t ht hW => ⟨⟨nI 2, (fo, nI nF, (fun c => nI (pl c)), yg), rfl, Or.inr (Or.inr ⟨⟨j, hj1, hj4, rfl⟩, hn, rfl, rfl⟩), by rw [ht]; exact hP, va_K.moved hW.alike hK, hD⟩, hS.F ht⟩) hS.2.2 d_L_function_17
  · have hPc := hP.sub (ws' := wC h cI (nI nF) (nI nC) yn yt yg ym (fun c => nI (pl c)) (fun c => nI (cf c)) (fun c => nI (ct c)) aK eB eE eA eL eN eC eS eW eT) [1, 2, 3, 4, 5, 6, 7, 8, 9, 10, 11, 12, 13, 14, 15, 16, 17] rfl
    have hDc := hD.sub (ws' := wC h cI (nI nF) (nI nC) yn yt yg ym (fun c => nI (pl c)) (fun c => nI (cf c)) (fun c => nI (ct c)) aK eB eE eA eL eN eC eS eW eT) [1, 2, 3, 4, 5, 6, 7, 8, 9, 10, 11, 12, 13, 14, 15, 16, 17] (by decide) rfl
    have hKc := hK.sub (tys' := tyC cI) [0] rfl
    have hFc := va_free (wc := wC h cI (nI nF) (nI nC) yn yt yg ym (fun c => nI (pl c)) (fun c => nI (cf c)) (fun c => nI (ct c)) aK eB eE eA eL eN eC eS eW eT) hD hS hA [1, 2, 3, 4, 5, 6, 7, 8, 9, 10, 11, 12, 13, 14, 15, 16, 17] rfl
    refine vx_calli (vx_runV (As := [.int q]) (rest := [.int (nI 0), .ref ho]) ⟨hx, hb, hml, hown, hk⟩ (c_X_function_x1 l hst dC dI cI h s.heap.size yn yt yg ym aK eB eE eA eL eN eC eS eW eT nF nC pl cf ct q sa (hq)) (cwV 1 hk ghx_7 rfl rfl rfl (by decide +kernel) ⟨Nat.le_of_ble_eq_true rfl, Nat.le_of_ble_eq_true rfl⟩) ⟨fun a U g mk q => by obtain ⟨q0, q1, qP, qK, qD, qT, qZ⟩ := q; exact ⟨q0, q1, qP, va_K.moved (u := U) (U := U.calling g mk a) (Vm.Alike.refl U.vm) qK, qD, xT.same rfl qT, xZ.blind (u := U) (U := U.calling g mk a) (Vm.Alike.refl U.vm) qZ⟩, va_recv hK hP (ci := 4) (q0 := 1) rfl rfl, fun U hU hW => ⟨rfl, by rw [hU], by rw [hU]; exact hPc, va_K.moved hW.alike hKc, hDc.weaken (fun _ _ _ _ => trivial), xT.warm hW hT, xZ.here hZ hS hFc hW.alike hU⟩⟩ rfl rfl hl.1 rfl (lv_room (Nat.le_of_ble_eq_true rfl)) d_L_function_4 ⟨Nat.le_of_ble_eq_true rfl, Nat.le_of_ble_eq_true rfl⟩) hS (fun q _ h => hFc q h) hFc (fun q _ h => hFc q h) (fun E ce q9 u9 t H1 locs ht hvm hw hB hz1 hk1 hS hce hcv hcl9 => ?_) (fun r1 u9 t H1 locs ht hvm hf9 => hf9.elim)
    obtain ⟨hE, hP1, hK1, hD1⟩ := hB
    subst hE
    rw [ht] at hP1
    try dsimp only at hw hP1 hD1
    obtain ⟨hP, hD⟩ := va_join (wr := [(ho, .inl (cJ, 1, .inr (.inl fo)))]) (w1 := wC h cI (nI nF) (nI nC) yn yt yg ym (fun c => nI (pl c)) (fun c => nI (cf c)) (fun c => nI (ct c)) aK eB eE eA eL eN eC eS eW eT) hP hD [1, 2, 3, 4, 5, 6, 7, 8, 9, 10, 11, 12, 13, 14, 15, 16, 17] [0] rfl rfl (by decide) (by decide) hk1 hFc hP1 hD1
    refine vx_catch (own := R_L) (name := "java/lang/IllegalArgumentException") (E := "java/lang/IllegalArgumentException") hown [] ⟨0, 9, 12, 13⟩ [⟨0, 9, 15, 15⟩] (htb.trans rfl) (fun z hz => absurd hz List.not_mem_nil) (by decide) (by decide) (hk _ k_H_7) (va_Nw.use rfl hT.2.2.2.1) hce hcv hcl9 ?_
    generalize H1 = H at hP hS ⊢
    have hP : va_P (dC, dI) kls ((ho, .inl (cJ, 1, .inr (.inl fo))) :: wC h cI (nI nF) (nI nC) yn yt yg ym (fun c => nI (pl c)) (fun c => nI (cf c)) (fun c => nI (ct c)) aK eB eE eA eL eN eC eS eW eT) H := hP
    have hD : va_D A ((ho, .inl (cJ, 1, .inr (.inl fo))) :: wC h cI (nI nF) (nI nC) yn yt yg ym (fun c => nI (pl c)) (fun c => nI (cf c)) (fun c => nI (ct c)) aK eB eE eA eL eN eC eS eW eT) := hD
    refine lv_astore_n (lv' := [(3, .ref q9), (0, .ref (h 0)), (1, .int q), (2, .ref ho)]) hx hb d_L_function_12 rfl hl (by decide) rfl (fun ls hl => ?_)
    refine lv_iconst (v := nI 1) hx hb d_L_function_13 (by decide +kernel) ?_
    refine vx_ret (W.widen (k := 1) (n := 6) (Nat.le_of_ble_eq_true rfl) (Nat.le_of_ble_eq_true rfl) ?_)
    exact W.iret (v := nI 1) hx hb hr (fun t ht hW => ⟨⟨nI 1, (fo, nI nF, (fun c => nI (pl c)), yg), rfl, Or.inr (Or.inl ⟨hq, rfl, rfl⟩), by rw [ht]; exact hP, va_K.moved hW.alike hK, hD⟩, hS.F ht⟩) hS.2.2 d_L_function_14
