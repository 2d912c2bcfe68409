theorem gl_S {own : String} {idx : Nat} {y : MethodName} {cb : Cond} {L : List Cond} (hL : GoodIn lw_tbl L) (hp : ∀ w ∈ [Cond.methodLink own idx y, Cond.static y, Cond.initialized y.cls], w ∈ lw_tbl ∧ goodWord w = true) (h4 : cb ∈ lw_tbl ∧ goodWord cb = true) : GoodIn lw_tbl (va_wsS own idx y (cb :: L)) := by
  intro w h
  rcases List.mem_append.mp h with h | h
  · exact ⟨(hp w h).1, good_of_word (hp w h).2⟩
  · rcases List.mem_cons.mp h with rfl | h
    · exact ⟨h4.1, good_of_word h4.2⟩
    · exact hL w h
theorem lcm_0 (x : Int64) : lg_cmp x x = nI 0 := by
  unfold lg_cmp
  simp
  try rfl
theorem gl_46 : GoodIn lw_tbl (va_wsS R_L 46 y_L_function w_L_function) := gl_S tb_H (List.forall_mem_cons.mpr ⟨⟨by decide +kernel, by decide +kernel⟩, List.forall_mem_cons.mpr ⟨⟨by decide +kernel, by decide +kernel⟩, List.forall_mem_cons.mpr ⟨⟨by decide +kernel, by decide +kernel⟩, fun _ h => absurd h List.not_mem_nil⟩⟩⟩) ⟨List.mem_of_getElem? (i := 224) (by rfl), by decide +kernel⟩
theorem gl_52 : GoodIn lw_tbl (va_wsS R_L 52 y_L_call w_L_call) := gl_S tb_H (List.forall_mem_cons.mpr ⟨⟨by decide +kernel, by decide +kernel⟩, List.forall_mem_cons.mpr ⟨⟨by decide +kernel, by decide +kernel⟩, List.forall_mem_cons.mpr ⟨⟨by decide +kernel, by decide +kernel⟩, fun _ h => absurd h List.not_mem_nil⟩⟩⟩) ⟨List.mem_of_getElem? (i := 322) (by rfl), by decide +kernel⟩
theorem gl_65 : GoodIn lw_tbl (va_wsS R_L 65 y_L_graphs w_L_graphs) := gl_S tb_H (List.forall_mem_cons.mpr ⟨⟨by decide +kernel, by decide +kernel⟩, List.forall_mem_cons.mpr ⟨⟨by decide +kernel, by decide +kernel⟩, List.forall_mem_cons.mpr ⟨⟨by decide +kernel, by decide +kernel⟩, fun _ h => absurd h List.not_mem_nil⟩⟩⟩) ⟨List.mem_of_getElem? (i := 355) (by rfl), by decide +kernel⟩
theorem gl_69 : GoodIn lw_tbl (va_wsS R_L 69 y_L_graph w_L_graph) := gl_S tb_H (List.forall_mem_cons.mpr ⟨⟨by decide +kernel, by decide +kernel⟩, List.forall_mem_cons.mpr ⟨⟨by decide +kernel, by decide +kernel⟩, List.forall_mem_cons.mpr ⟨⟨by decide +kernel, by decide +kernel⟩, fun _ h => absurd h List.not_mem_nil⟩⟩⟩) ⟨List.mem_of_getElem? (i := 425) (by rfl), by decide +kernel⟩
theorem gl_72 : GoodIn lw_tbl (va_wsS R_L 72 y_L_falls w_L_falls) := gl_S tb_H (List.forall_mem_cons.mpr ⟨⟨by decide +kernel, by decide +kernel⟩, List.forall_mem_cons.mpr ⟨⟨by decide +kernel, by decide +kernel⟩, List.forall_mem_cons.mpr ⟨⟨by decide +kernel, by decide +kernel⟩, fun _ h => absurd h List.not_mem_nil⟩⟩⟩) ⟨List.mem_of_getElem? (i := 437) (by rfl), by decide +kernel⟩
theorem gl_75 : GoodIn lw_tbl (va_wsS R_L 75 y_L_isSafe w_L_isSafe) := gl_S tb_H (List.forall_mem_cons.mpr ⟨⟨by decide +kernel, by decide +kernel⟩, List.forall_mem_cons.mpr ⟨⟨by decide +kernel, by decide +kernel⟩, List.forall_mem_cons.mpr ⟨⟨by decide +kernel, by decide +kernel⟩, fun _ h => absurd h List.not_mem_nil⟩⟩⟩) ⟨List.mem_of_getElem? (i := 444) (by rfl), by decide +kernel⟩
theorem gl_82 : GoodIn lw_tbl (va_wsS R_L 82 y_L_bad w_L_bad) := gl_S tb_H (List.forall_mem_cons.mpr ⟨⟨by decide +kernel, by decide +kernel⟩, List.forall_mem_cons.mpr ⟨⟨by decide +kernel, by decide +kernel⟩, List.forall_mem_cons.mpr ⟨⟨by decide +kernel, by decide +kernel⟩, fun _ h => absurd h List.not_mem_nil⟩⟩⟩) ⟨List.mem_of_getElem? (i := 451) (by rfl), by decide +kernel⟩
theorem gl_78 : GoodIn lw_tbl (wsV R_L 78 R_M y_M_thrown w_M_thrown) := gl_V tb_M (List.forall_mem_cons.mpr ⟨⟨by decide +kernel, by decide +kernel⟩, List.forall_mem_cons.mpr ⟨⟨(tb_M _ k_M_27).1, List.all_eq_true.mp wMw_good _ k_M_27⟩, List.forall_mem_cons.mpr ⟨⟨(tb_M _ k_M_28).1, List.all_eq_true.mp wMw_good _ k_M_28⟩, List.forall_mem_cons.mpr ⟨⟨(tb_M _ k_M_0).1, List.all_eq_true.mp wMw_good _ k_M_0⟩, List.forall_mem_cons.mpr ⟨⟨(tb_M _ k_M_29).1, List.all_eq_true.mp wMw_good _ k_M_29⟩, fun _ h => absurd h List.not_mem_nil⟩⟩⟩⟩⟩)
theorem gl_51 : GoodIn lw_tbl (wsV R_L 51 R_M y_M_function w_M_function) := gl_V tb_M (List.forall_mem_cons.mpr ⟨⟨by decide +kernel, by decide +kernel⟩, List.forall_mem_cons.mpr ⟨⟨(tb_M _ k_M_30).1, List.all_eq_true.mp wMw_good _ k_M_30⟩, List.forall_mem_cons.mpr ⟨⟨(tb_M _ k_M_31).1, List.all_eq_true.mp wMw_good _ k_M_31⟩, List.forall_mem_cons.mpr ⟨⟨(tb_M _ k_M_0).1, List.all_eq_true.mp wMw_good _ k_M_0⟩, List.forall_mem_cons.mpr ⟨⟨(tb_M _ k_M_32).1, List.all_eq_true.mp wMw_good _ k_M_32⟩, fun _ h => absurd h List.not_mem_nil⟩⟩⟩⟩⟩)
theorem gl_55 : GoodIn lw_tbl (wsV R_L 55 R_M y_M_call w_M_call) := gl_V tb_M (List.forall_mem_cons.mpr ⟨⟨by decide +kernel, by decide +kernel⟩, List.forall_mem_cons.mpr ⟨⟨(tb_M _ k_M_33).1, List.all_eq_true.mp wMw_good _ k_M_33⟩, List.forall_mem_cons.mpr ⟨⟨(tb_M _ k_M_34).1, List.all_eq_true.mp wMw_good _ k_M_34⟩, List.forall_mem_cons.mpr ⟨⟨(tb_M _ k_M_0).1, List.all_eq_true.mp wMw_good _ k_M_0⟩, List.forall_mem_cons.mpr ⟨⟨(tb_M _ k_M_35).1, List.all_eq_true.mp wMw_good _ k_M_35⟩, fun _ h => absurd h List.not_mem_nil⟩⟩⟩⟩⟩)
theorem gl_68 : GoodIn lw_tbl (wsV R_L 68 R_M y_M_graphs w_M_graphs) := gl_V tb_M (List.forall_mem_cons.mpr ⟨⟨by decide +kernel, by decide +kernel⟩, List.forall_mem_cons.mpr ⟨⟨(tb_M _ k_M_48).1, List.all_eq_true.mp wMw_good _ k_M_48⟩, List.forall_mem_cons.mpr ⟨⟨(tb_M _ k_M_49).1, List.all_eq_true.mp wMw_good _ k_M_49⟩, List.forall_mem_cons.mpr ⟨⟨(tb_M _ k_M_0).1, List.all_eq_true.mp wMw_good _ k_M_0⟩, List.forall_mem_cons.mpr ⟨⟨(tb_M _ k_M_50).1, List.all_eq_true.mp wMw_good _ k_M_50⟩, fun _ h => absurd h List.not_mem_nil⟩⟩⟩⟩⟩)
theorem gl_71 : GoodIn lw_tbl (wsV R_L 71 R_M y_M_graph w_M_graph) := gl_V tb_M (List.forall_mem_cons.mpr ⟨⟨by decide +kernel, by decide +kernel⟩, List.forall_mem_cons.mpr ⟨⟨(tb_M _ k_M_66).1, List.all_eq_true.mp wMw_good _ k_M_66⟩, List.forall_mem_cons.mpr ⟨⟨(tb_M _ k_M_67).1, List.all_eq_true.mp wMw_good _ k_M_67⟩, List.forall_mem_cons.mpr ⟨⟨(tb_M _ k_M_0).1, List.all_eq_true.mp wMw_good _ k_M_0⟩, List.forall_mem_cons.mpr ⟨⟨(tb_M _ k_M_68).1, List.all_eq_true.mp wMw_good _ k_M_68⟩, fun _ h => absurd h List.not_mem_nil⟩⟩⟩⟩⟩)
theorem gl_74 : GoodIn lw_tbl (wsV R_L 74 R_M y_M_falls w_M_falls) := gl_V tb_M (List.forall_mem_cons.mpr ⟨⟨by decide +kernel, by decide +kernel⟩, List.forall_mem_cons.mpr ⟨⟨(tb_M _ k_M_72).1, List.all_eq_true.mp wMw_good _ k_M_72⟩, List.forall_mem_cons.mpr ⟨⟨(tb_M _ k_M_73).1, List.all_eq_true.mp wMw_good _ k_M_73⟩, List.forall_mem_cons.mpr ⟨⟨(tb_M _ k_M_0).1, List.all_eq_true.mp wMw_good _ k_M_0⟩, List.forall_mem_cons.mpr ⟨⟨(tb_M _ k_M_74).1, List.all_eq_true.mp wMw_good _ k_M_74⟩, fun _ h => absurd h List.not_mem_nil⟩⟩⟩⟩⟩)
theorem gl_77 : GoodIn lw_tbl (wsV R_L 77 R_M y_M_isSafe w_M_isSafe) := gl_V tb_M (List.forall_mem_cons.mpr ⟨⟨by decide +kernel, by decide +kernel⟩, List.forall_mem_cons.mpr ⟨⟨(tb_M _ k_M_81).1, List.all_eq_true.mp wMw_good _ k_M_81⟩, List.forall_mem_cons.mpr ⟨⟨(tb_M _ k_M_82).1, List.all_eq_true.mp wMw_good _ k_M_82⟩, List.forall_mem_cons.mpr ⟨⟨(tb_M _ k_M_0).1, List.all_eq_true.mp wMw_good _ k_M_0⟩, List.forall_mem_cons.mpr ⟨⟨(tb_M _ k_M_83).1, List.all_eq_true.mp wMw_good _ k_M_83⟩, fun _ h => absurd h List.not_mem_nil⟩⟩⟩⟩⟩)
theorem gl_84 : GoodIn lw_tbl (wsV R_L 84 R_M y_M_bad w_M_bad) := gl_V tb_M (List.forall_mem_cons.mpr ⟨⟨by decide +kernel, by decide +kernel⟩, List.forall_mem_cons.mpr ⟨⟨(tb_M _ k_M_87).1, List.all_eq_true.mp wMw_good _ k_M_87⟩, List.forall_mem_cons.mpr ⟨⟨(tb_M _ k_M_88).1, List.all_eq_true.mp wMw_good _ k_M_88⟩, List.forall_mem_cons.mpr ⟨⟨(tb_M _ k_M_0).1, List.all_eq_true.mp wMw_good _ k_M_0⟩, List.forall_mem_cons.mpr ⟨⟨(tb_M _ k_M_89).1, List.all_eq_true.mp wMw_good _ k_M_89⟩, fun _ h => absurd h List.not_mem_nil⟩⟩⟩⟩⟩)
set_option maxHeartbeats 4000000 in
set_option maxRecDepth 100000 in
theorem law_function {p : Program} {l : Launch} {e : Env} {s : State} {m : MethodId} {below : List Frame} {meth : Method} {c : Code} {b L : Nat} {xs : Nat → Int32} (hst : l.stackTraces = false) (hx : p.tables.exec = Jvm.exec) (hb : c.code = code) (hr : meth.sig.returnType = ret) (hml : c.maxLocals = 7) (hown : s.vm.findClass R_L = some m.cls) (hts : ∀ w ∈ lw_tbl, w.before #[Value.ref b] s = true) (hX : va_X b L xs s s.heap) (hbl : b < s.heap.size) (dC : Nat → ClassId) (dI : Nat → Nat → Nat) (cI cZ cJ : ClassId) (hm hc : Nat → Nat) (ho K : Nat) (hK8 : 801 ≤ K) (sa : Nat → Nat) (A : Nat → Prop) (hA : ∀ q : Nat, s.heap.size ≤ q → A q) (hbA : ¬ A b) (hK : va_K (dC, dI) kls (tyL cI cZ cJ) s) (hT : xT sa s) (hC9 : xC s) (hZ : xZ A s s.heap) {Q : State → Prop} {t9 : Nat} (hL : 4 * t9 + 3 < L) (hL2 : L ≤ 2048) {H : Heap} {locs : List Loc} {ls : Array Slot} (hJ : lwJ dC dI cI cZ cJ hm hc ho K A s.heap t9 H locs) (hl : lv_has ls 7 [(4, .int (nI (4 * t9))), (3, .ref ho), (2, .ref (hm 0)), (1, .ref (hc 0)), (0, .ref b)]) (next : ∀ (H : Heap) (locs : List Loc) (ls : Array Slot), lwJ dC dI cI cZ cJ hm hc ho K A s.heap (t9 + 1) H locs → lv_has ls 7 [(4, .int (nI (4 * t9))), (3, .ref ho), (2, .ref (hm 0)), (1, .ref (hc 0)), (0, .ref b)] → W p l e room_1 s m #[Value.ref b] below meth c H locs (33 + (t9 + 1)) (10097 + 6 * (t9 + 1)) Q (F0 m 613 ls [])) : W p l e room_1 s m #[Value.ref b] below meth c H locs (33 + t9) (10097 + 6 * t9) Q (F0 m 104 ls []) := by
  obtain ⟨nF, nC, pl, cf, ct, aK, xt, xg, bF, bL, bB, bA, bY, bR, oT, oO, oR, bS, fo, yn, yt, ym, ga, eB, eE, eA, eL, eN, eC, eS, eW, eT, ⟨hF, hC, hS0, hpl, hcl, hz0⟩, hga, hP, hD, hS⟩ := hJ
  have hk := hts
  have hce1 : (33 + t9) + 1 ≤ room_1.cells := by show (33 + t9) + 1 ≤ 1066; omega
  have hsl1 : (10097 + 6 * t9) + 6 ≤ room_1.slots := by show (10097 + 6 * t9) + 6 ≤ 18343; omega
  have hce : 33 + (t9 + 1) + 0 ≤ room_1.cells := by show 33 + (t9 + 1) + 0 ≤ 1066; omega
  have hsl : 10097 + 6 * (t9 + 1) + 0 ≤ room_1.slots := by show 10097 + 6 * (t9 + 1) + 0 ≤ 18343; omega
  refine lv_aload_n hx hb d_L_law_104 rfl (lv_at hl 3 rfl) ?_
  refine lv_aload_n hx hb d_L_law_105 rfl (lv_at hl 4 rfl) ?_
  refine lv_iload hx hb d_L_law_106 (lv_at hl 0 rfl) ?_
  refine lv_iconst (v := nI 1) hx hb d_L_law_108 (by decide +kernel) ?_
  refine lv_iadd hx hb d_L_law_109 ?_
  refine lv_topi (fun z1 ez1 => ?_)
  obtain rfl : z1 = nI (4 * t9 + 1) := ez1.trans (nI_add _ _)
  refine va_sld hx hb hX hbl hbA hS (pk_in (4 * t9 + 1) L (by omega)) d_L_law_110 ?_
  refine lv_topi (fun z2 ez2 => ?_)
  obtain rfl : z2 = xs (4 * t9 + 1) := ez2.trans (congrArg xs (nI_clamp (by omega)))
  refine lv_aload_n hx hb d_L_law_111 rfl (lv_at hl 1 rfl) ?_
  have hPc := hP.sub (ws' := ((ho, .inl (cJ, 1, .inr (.inl fo))) :: wC hc cI (nI nF) (nI nC) yn yt (nI ga) ym (fun c => nI (pl c)) (fun c => nI (cf c)) (fun c => nI (ct c)) aK eB eE eA eL eN eC eS eW eT)) [15, 16, 17, 18, 19, 20, 21, 22, 23, 24, 25, 26, 27, 28, 29, 30, 31, 32] rfl
  have hDc := hD.sub (ws' := ((ho, .inl (cJ, 1, .inr (.inl fo))) :: wC hc cI (nI nF) (nI nC) yn yt (nI ga) ym (fun c => nI (pl c)) (fun c => nI (cf c)) (fun c => nI (ct c)) aK eB eE eA eL eN eC eS eW eT)) [15, 16, 17, 18, 19, 20, 21, 22, 23, 24, 25, 26, 27, 28, 29, 30, 31, 32] (by decide) rfl
  have hKc := hK.sub (tys' := tyH cI cJ) [0, 2] rfl
  have hFc := va_free (wc := ((ho, .inl (cJ, 1, .inr (.inl fo))) :: wC hc cI (nI nF) (nI nC) yn yt (nI ga) ym (fun c => nI (pl c)) (fun c => nI (cf c)) (fun c => nI (ct c)) aK eB eE eA eL eN eC eS eW eT)) hD hS hA [15, 16, 17, 18, 19, 20, 21, 22, 23, 24, 25, 26, 27, 28, 29, 30, 31, 32] rfl
  refine vx_calli (vx_runSX (hh := hh_L_function) (As := [.ref (hc 0), .int (xs (4 * t9 + 1)), .ref ho]) (rest := []) ⟨hx, hb, hml, hown, hts⟩ (c_L_function_ok l hst dC dI cI cJ hc ho H.size fo yn yt (nI ga) ym aK eB eE eA eL eN eC eS eW eT nF nC pl cf ct (xs (4 * t9 + 1)) sa (hF)) (vx_cwSW 3 hts gl_46 rfl rfl rfl (by decide +kernel) ⟨Nat.le_of_ble_eq_true rfl, Nat.le_of_ble_eq_true rfl⟩) ⟨fun a U g mk q => by obtain ⟨q0, q1, qP, qK, qD, qT, qC, qZ⟩ := q; exact ⟨q0, q1, qP, va_K.moved (u := U) (U := U.calling g mk a) (Vm.Alike.refl U.vm) qK, qD, xT.same rfl qT, xC.moved (u := U) (U := U.calling g mk a) (Vm.Alike.refl U.vm) qC, xZ.blind (u := U) (U := U.calling g mk a) (Vm.Alike.refl U.vm) qZ⟩, fun U hU hW => ⟨rfl, by rw [hU], by rw [hU]; exact hPc, va_K.moved hW.alike hKc, hDc.weaken (fun _ _ _ _ => trivial), xT.warm hW hT, xC.moved hW.alike hC9, xZ.here hZ hS hFc hW.alike hU⟩⟩ rfl rfl hl.1 rfl (lv_room (Nat.le_of_ble_eq_true rfl)) d_L_law_112 ⟨hce1, hsl1⟩) hS (fun q _ h => hFc q h) hFc (fun q _ h => hFc q h) (fun E ce q9 u9 t H1 locs ht hvm hf9 => hf9.elim) (fun r1 u9 t H1 locs ht hvm hw hB hz1 hk1 hS => ?_)
  obtain ⟨fo9, yf9, aP9, yg9⟩ := u9
  obtain ⟨hP1, hK1, hD1⟩ := hB
  rw [ht] at hP1
  try dsimp only at hw hP1 hD1
  obtain ⟨hP, hD⟩ := va_join (wr := wM hm cI cZ xt (nI nF) (nI nC) xg (fun c => nI (pl c)) (fun c => nI (cf c)) (fun c => nI (ct c)) aK bF bL bB bA bY bR oT oO oR bS) (w1 := ((ho, .inl (cJ, 1, .inr (.inl fo9))) :: wC hc cI yf9 (nI nC) yn yt yg9 ym aP9 (fun c => nI (cf c)) (fun c => nI (ct c)) aK eB eE eA eL eN eC eS eW eT)) hP hD [15, 16, 17, 18, 19, 20, 21, 22, 23, 24, 25, 26, 27, 28, 29, 30, 31, 32] [0, 1, 2, 3, 4, 5, 6, 7, 8, 9, 10, 11, 12, 13, 14] rfl rfl (by decide) (by decide) hk1 hFc hP1 hD1
  generalize H1 = H at hP hS ⊢
  have hP : va_P (dC, dI) kls (wM hm cI cZ xt (nI nF) (nI nC) xg (fun c => nI (pl c)) (fun c => nI (cf c)) (fun c => nI (ct c)) aK bF bL bB bA bY bR oT oO oR bS ++ ((ho, .inl (cJ, 1, .inr (.inl fo9))) :: wC hc cI yf9 (nI nC) yn yt yg9 ym aP9 (fun c => nI (cf c)) (fun c => nI (ct c)) aK eB eE eA eL eN eC eS eW eT)) H := hP
  have hD : va_D A (wM hm cI cZ xt (nI nF) (nI nC) xg (fun c => nI (pl c)) (fun c => nI (cf c)) (fun c => nI (ct c)) aK bF bL bB bA bY bR oT oO oR bS ++ ((ho, .inl (cJ, 1, .inr (.inl fo9))) :: wC hc cI yf9 (nI nC) yn yt yg9 ym aP9 (fun c => nI (cf c)) (fun c => nI (ct c)) aK eB eE eA eL eN eC eS eW eT)) := hD
  refine W.widen (k := 33 + (t9 + 1)) (n := 10097 + 6 * (t9 + 1)) (by omega) (by omega) ?_
  rcases hw with ⟨j, hj1, hj4, hqj, hn, hr9, hout, hu9⟩ | ⟨hq, hr9, hu9⟩ | ⟨hq, hn, hr9, hu9⟩
  · subst hr9
    cases hu9
    refine lv_istore (lv' := [(5, .int (nI 0)), (4, .int (nI (4 * t9))), (3, .ref ho), (2, .ref (hm 0)), (1, .ref (hc 0)), (0, .ref b)]) hx hb d_L_law_115 hl (by decide) rfl (fun ls hl => ?_)
    refine lv_aload_n hx hb d_L_law_117 rfl (lv_at hl 3 rfl) ?_
    refine lv_aload_n hx hb d_L_law_118 rfl (lv_at hl 5 rfl) ?_
    refine lv_iload hx hb d_L_law_119 (lv_at hl 1 rfl) ?_
    refine lv_iconst (v := nI 1) hx hb d_L_law_121 (by decide +kernel) ?_
    refine lv_iadd hx hb d_L_law_122 ?_
    refine lv_topi (fun z3 ez3 => ?_)
    obtain rfl : z3 = nI (4 * t9 + 1) := ez3.trans (nI_add _ _)
    refine va_sld hx hb hX hbl hbA hS (pk_in (4 * t9 + 1) L (by omega)) d_L_law_123 ?_
    refine lv_topi (fun z4 ez4 => ?_)
    obtain rfl : z4 = xs (4 * t9 + 1) := ez4.trans (congrArg xs (nI_clamp (by omega)))
    have hPc := hP.sub (ws' := wM hm cI cZ xt (nI nF) (nI nC) xg (fun c => nI (pl c)) (fun c => nI (cf c)) (fun c => nI (ct c)) aK bF bL bB bA bY bR oT oO oR bS) [0, 1, 2, 3, 4, 5, 6, 7, 8, 9, 10, 11, 12, 13, 14] rfl
    have hDc := hD.sub (ws' := wM hm cI cZ xt (nI nF) (nI nC) xg (fun c => nI (pl c)) (fun c => nI (cf c)) (fun c => nI (ct c)) aK bF bL bB bA bY bR oT oO oR bS) [0, 1, 2, 3, 4, 5, 6, 7, 8, 9, 10, 11, 12, 13, 14] (by decide) rfl
    have hKc := hK.sub (tys' := tyM cI cZ) [0, 1] rfl
    have hFc := va_free (wc := wM hm cI cZ xt (nI nF) (nI nC) xg (fun c => nI (pl c)) (fun c => nI (cf c)) (fun c => nI (ct c)) aK bF bL bB bA bY bR oT oO oR bS) hD hS hA [0, 1, 2, 3, 4, 5, 6, 7, 8, 9, 10, 11, 12, 13, 14] rfl
    refine va_calli (va_runV (As := [.int (xs (4 * t9 + 1))]) (rest := []) ⟨hx, hb, hml, hown, hts⟩ (m_function l dC dI cI cZ hm H.size xt (nI nC) xg (fun c => nI (pl c)) (fun c => nI (cf c)) (fun c => nI (ct c)) aK bF bL bB bA bY bR oT oO oR bS nF (xs (4 * t9 + 1)) (hF)) (cwV 1 hts gl_51 rfl rfl rfl (by decide +kernel) ⟨Nat.le_of_ble_eq_true rfl, Nat.le_of_ble_eq_true rfl⟩) ⟨fun a U g mk q => by obtain ⟨q0, q1, qP, qK, qD⟩ := q; exact ⟨q0, q1, qP, va_K.moved (u := U) (U := U.calling g mk a) (Vm.Alike.refl U.vm) qK, qD⟩, va_recv hK hP (ci := 0) (q0 := 0) rfl rfl, fun U hU hW => ⟨rfl, by rw [hU], by rw [hU]; exact hPc, va_K.moved hW.alike hKc, hDc.weaken (fun _ _ _ _ => trivial)⟩⟩ rfl rfl hl.1 rfl (lv_room (Nat.le_of_ble_eq_true rfl)) d_L_law_124 ⟨hce, hsl⟩) hS (fun q _ h => hFc q h) hFc (fun r5 u9 t H1 locs ht hvm hw hB hz1 hk1 hS => ?_)
    obtain ⟨xt9, xf9, aP8⟩ := u9
    obtain ⟨hP1, hK1, hD1⟩ := hB
    rw [ht] at hP1
    try dsimp only at hw hP1 hD1
    obtain ⟨hP, hD⟩ := va_join (wr := ((ho, .inl (cJ, 1, .inr (.inl fo9))) :: wC hc cI (nI (nF + 1)) (nI nC) yn yt (nI 0) ym (fun c => nI (updN pl nF j c)) (fun c => nI (cf c)) (fun c => nI (ct c)) aK eB eE eA eL eN eC eS eW eT)) (w1 := wM hm cI cZ xt9 xf9 (nI nC) xg aP8 (fun c => nI (cf c)) (fun c => nI (ct c)) aK bF bL bB bA bY bR oT oO oR bS) hP hD [0, 1, 2, 3, 4, 5, 6, 7, 8, 9, 10, 11, 12, 13, 14] [15, 16, 17, 18, 19, 20, 21, 22, 23, 24, 25, 26, 27, 28, 29, 30, 31, 32] rfl rfl (by decide) (by decide) hk1 hFc hP1 hD1
    generalize H1 = H at hP hS ⊢
    have hP := hP.sub (ws' := (wM hm cI cZ xt9 xf9 (nI nC) xg aP8 (fun c => nI (cf c)) (fun c => nI (ct c)) aK bF bL bB bA bY bR oT oO oR bS ++ ((ho, .inl (cJ, 1, .inr (.inl fo9))) :: wC hc cI (nI (nF + 1)) (nI nC) yn yt (nI 0) ym (fun c => nI (updN pl nF j c)) (fun c => nI (cf c)) (fun c => nI (ct c)) aK eB eE eA eL eN eC eS eW eT))) [18, 19, 20, 21, 22, 23, 24, 25, 26, 27, 28, 29, 30, 31, 32, 0, 1, 2, 3, 4, 5, 6, 7, 8, 9, 10, 11, 12, 13, 14, 15, 16, 17] rfl
    have hD := hD.sub (ws' := (wM hm cI cZ xt9 xf9 (nI nC) xg aP8 (fun c => nI (cf c)) (fun c => nI (ct c)) aK bF bL bB bA bY bR oT oO oR bS ++ ((ho, .inl (cJ, 1, .inr (.inl fo9))) :: wC hc cI (nI (nF + 1)) (nI nC) yn yt (nI 0) ym (fun c => nI (updN pl nF j c)) (fun c => nI (cf c)) (fun c => nI (ct c)) aK eB eE eA eL eN eC eS eW eT))) [18, 19, 20, 21, 22, 23, 24, 25, 26, 27, 28, 29, 30, 31, 32, 0, 1, 2, 3, 4, 5, 6, 7, 8, 9, 10, 11, 12, 13, 14, 15, 16, 17] (by decide) rfl
    rcases hw with ⟨hq2, hu1, hu2, hu3⟩ | ⟨hq2, hn2, hu1, hu2, hu3⟩ | ⟨hq2, hn2, hu1, hu2, hu3, hr9⟩
    · first | omega | exact absurd hq2 hq | exact absurd hq hq2 | exact absurd ⟨j, hj1, hj4, hqj⟩ hq2
    · first | omega | exact absurd hq2 hq | exact absurd hq hq2 | exact absurd ⟨j, hj1, hj4, hqj⟩ hq2
    · subst hu1
      subst hu2
      rw [hqj, updN_eq] at hu3
      subst hu3
      subst hr9
      refine lv_istore (lv' := [(6, .int (nI nF)), (5, .int (nI 0)), (4, .int (nI (4 * t9))), (3, .ref ho), (2, .ref (hm 0)), (1, .ref (hc 0)), (0, .ref b)]) hx hb d_L_law_127 hl (by decide) rfl (fun ls hl => ?_)
      refine lv_goto (tgt := 613) hx hb d_L_law_129 (by decide) ?_
      exact next H locs ls ⟨nF + 1, nC, updN pl nF j, cf, ct, aK, _, _, _, _, _, _, _, _, _, _, _, _, _, _, _, _, _, _, _, _, _, _, _, _, _, _, ⟨by omega, hC, fun c hc => ⟨Nat.lt_succ_of_lt (hS0 c hc).1, Nat.lt_succ_of_lt (hS0 c hc).2⟩, fun i hi => by unfold updN; split; exact ⟨hj1, hj4⟩; exact hpl i (by omega), hcl, fun h9 => absurd h9 (Nat.succ_ne_zero _)⟩, Or.inl rfl, hP, hD, hS⟩ (lv_sub hl [2, 3, 4, 5, 6] rfl)
  · subst hr9
    cases hu9
    refine lv_istore (lv' := [(5, .int (nI 1)), (4, .int (nI (4 * t9))), (3, .ref ho), (2, .ref (hm 0)), (1, .ref (hc 0)), (0, .ref b)]) hx hb d_L_law_115 hl (by decide) rfl (fun ls hl => ?_)
    refine lv_aload_n hx hb d_L_law_117 rfl (lv_at hl 3 rfl) ?_
    refine lv_aload_n hx hb d_L_law_118 rfl (lv_at hl 5 rfl) ?_
    refine lv_iload hx hb d_L_law_119 (lv_at hl 1 rfl) ?_
    refine lv_iconst (v := nI 1) hx hb d_L_law_121 (by decide +kernel) ?_
    refine lv_iadd hx hb d_L_law_122 ?_
    refine lv_topi (fun z6 ez6 => ?_)
    obtain rfl : z6 = nI (4 * t9 + 1) := ez6.trans (nI_add _ _)
    refine va_sld hx hb hX hbl hbA hS (pk_in (4 * t9 + 1) L (by omega)) d_L_law_123 ?_
    refine lv_topi (fun z7 ez7 => ?_)
    obtain rfl : z7 = xs (4 * t9 + 1) := ez7.trans (congrArg xs (nI_clamp (by omega)))
    have hPc := hP.sub (ws' := wM hm cI cZ xt (nI nF) (nI nC) xg (fun c => nI (pl c)) (fun c => nI (cf c)) (fun c => nI (ct c)) aK bF bL bB bA bY bR oT oO oR bS) [0, 1, 2, 3, 4, 5, 6, 7, 8, 9, 10, 11, 12, 13, 14] rfl
    have hDc := hD.sub (ws' := wM hm cI cZ xt (nI nF) (nI nC) xg (fun c => nI (pl c)) (fun c => nI (cf c)) (fun c => nI (ct c)) aK bF bL bB bA bY bR oT oO oR bS) [0, 1, 2, 3, 4, 5, 6, 7, 8, 9, 10, 11, 12, 13, 14] (by decide) rfl
    have hKc := hK.sub (tys' := tyM cI cZ) [0, 1] rfl
    have hFc := va_free (wc := wM hm cI cZ xt (nI nF) (nI nC) xg (fun c => nI (pl c)) (fun c => nI (cf c)) (fun c => nI (ct c)) aK bF bL bB bA bY bR oT oO oR bS) hD hS hA [0, 1, 2, 3, 4, 5, 6, 7, 8, 9, 10, 11, 12, 13, 14] rfl
    refine va_calli (va_runV (As := [.int (xs (4 * t9 + 1))]) (rest := []) ⟨hx, hb, hml, hown, hts⟩ (m_function l dC dI cI cZ hm H.size xt (nI nC) xg (fun c => nI (pl c)) (fun c => nI (cf c)) (fun c => nI (ct c)) aK bF bL bB bA bY bR oT oO oR bS nF (xs (4 * t9 + 1)) (hF)) (cwV 1 hts gl_51 rfl rfl rfl (by decide +kernel) ⟨Nat.le_of_ble_eq_true rfl, Nat.le_of_ble_eq_true rfl⟩) ⟨fun a U g mk q => by obtain ⟨q0, q1, qP, qK, qD⟩ := q; exact ⟨q0, q1, qP, va_K.moved (u := U) (U := U.calling g mk a) (Vm.Alike.refl U.vm) qK, qD⟩, va_recv hK hP (ci := 0) (q0 := 0) rfl rfl, fun U hU hW => ⟨rfl, by rw [hU], by rw [hU]; exact hPc, va_K.moved hW.alike hKc, hDc.weaken (fun _ _ _ _ => trivial)⟩⟩ rfl rfl hl.1 rfl (lv_room (Nat.le_of_ble_eq_true rfl)) d_L_law_124 ⟨hce, hsl⟩) hS (fun q _ h => hFc q h) hFc (fun r8 u9 t H1 locs ht hvm hw hB hz1 hk1 hS => ?_)
    obtain ⟨xt9, xf9, aP8⟩ := u9
    obtain ⟨hP1, hK1, hD1⟩ := hB
    rw [ht] at hP1
    try dsimp only at hw hP1 hD1
    obtain ⟨hP, hD⟩ := va_join (wr := ((ho, .inl (cJ, 1, .inr (.inl fo9))) :: wC hc cI (nI nF) (nI nC) yn yt (nI ga) ym (fun c => nI (pl c)) (fun c => nI (cf c)) (fun c => nI (ct c)) aK eB eE eA eL eN eC eS eW eT)) (w1 := wM hm cI cZ xt9 xf9 (nI nC) xg aP8 (fun c => nI (cf c)) (fun c => nI (ct c)) aK bF bL bB bA bY bR oT oO oR bS) hP hD [0, 1, 2, 3, 4, 5, 6, 7, 8, 9, 10, 11, 12, 13, 14] [15, 16, 17, 18, 19, 20, 21, 22, 23, 24, 25, 26, 27, 28, 29, 30, 31, 32] rfl rfl (by decide) (by decide) hk1 hFc hP1 hD1
    generalize H1 = H at hP hS ⊢
    have hP := hP.sub (ws' := (wM hm cI cZ xt9 xf9 (nI nC) xg aP8 (fun c => nI (cf c)) (fun c => nI (ct c)) aK bF bL bB bA bY bR oT oO oR bS ++ ((ho, .inl (cJ, 1, .inr (.inl fo9))) :: wC hc cI (nI nF) (nI nC) yn yt (nI ga) ym (fun c => nI (pl c)) (fun c => nI (cf c)) (fun c => nI (ct c)) aK eB eE eA eL eN eC eS eW eT))) [18, 19, 20, 21, 22, 23, 24, 25, 26, 27, 28, 29, 30, 31, 32, 0, 1, 2, 3, 4, 5, 6, 7, 8, 9, 10, 11, 12, 13, 14, 15, 16, 17] rfl
    have hD := hD.sub (ws' := (wM hm cI cZ xt9 xf9 (nI nC) xg aP8 (fun c => nI (cf c)) (fun c => nI (ct c)) aK bF bL bB bA bY bR oT oO oR bS ++ ((ho, .inl (cJ, 1, .inr (.inl fo9))) :: wC hc cI (nI nF) (nI nC) yn yt (nI ga) ym (fun c => nI (pl c)) (fun c => nI (cf c)) (fun c => nI (ct c)) aK eB eE eA eL eN eC eS eW eT))) [18, 19, 20, 21, 22, 23, 24, 25, 26, 27, 28, 29, 30, 31, 32, 0, 1, 2, 3, 4, 5, 6, 7, 8, 9, 10, 11, 12, 13, 14, 15, 16, 17] (by decide) rfl
    rcases hw with ⟨hq2, hu1, hu2, hu3⟩ | ⟨hq2, hn2, hu1, hu2, hu3⟩ | ⟨hq2, hn2, hu1, hu2, hu3, hr9⟩
    · subst hu1
      subst hu2
      subst hu3
      refine lv_istore (lv' := [(6, .int r8), (5, .int (nI 1)), (4, .int (nI (4 * t9))), (3, .ref ho), (2, .ref (hm 0)), (1, .ref (hc 0)), (0, .ref b)]) hx hb d_L_law_127 hl (by decide) rfl (fun ls hl => ?_)
      refine lv_goto (tgt := 613) hx hb d_L_law_129 (by decide) ?_
      exact next H locs ls ⟨_, _, _, _, _, _, _, _, _, _, _, _, _, _, _, _, _, _, _, _, _, _, _, _, _, _, _, _, _, _, _, _, ⟨hF, hC, hS0, hpl, hcl, fun h9 => absurd h9 (Nat.succ_ne_zero _)⟩, hga, hP, hD, hS⟩ (lv_sub hl [2, 3, 4, 5, 6] rfl)
    · first | omega | exact absurd hq2 hq | exact absurd hq hq2 | exact absurd ⟨j, hj1, hj4, hqj⟩ hq2
    · first | omega | exact absurd hq2 hq | exact absurd hq hq2 | exact absurd ⟨j, hj1, hj4, hqj⟩ hq2
  · subst hr9
    cases hu9
    refine lv_istore (lv' := [(5, .int (nI 2)), (4, .int (nI (4 * t9))), (3, .ref ho), (2, .ref (hm 0)), (1, .ref (hc 0)), (0, .ref b)]) hx hb d_L_law_115 hl (by decide) rfl (fun ls hl => ?_)
    refine lv_aload_n hx hb d_L_law_117 rfl (lv_at hl 3 rfl) ?_
    refine lv_aload_n hx hb d_L_law_118 rfl (lv_at hl 5 rfl) ?_
    refine lv_iload hx hb d_L_law_119 (lv_at hl 1 rfl) ?_
    refine lv_iconst (v := nI 1) hx hb d_L_law_121 (by decide +kernel) ?_
    refine lv_iadd hx hb d_L_law_122 ?_
    refine lv_topi (fun z9 ez9 => ?_)
    obtain rfl : z9 = nI (4 * t9 + 1) := ez9.trans (nI_add _ _)
    refine va_sld hx hb hX hbl hbA hS (pk_in (4 * t9 + 1) L (by omega)) d_L_law_123 ?_
    refine lv_topi (fun z10 ez10 => ?_)
    obtain rfl : z10 = xs (4 * t9 + 1) := ez10.trans (congrArg xs (nI_clamp (by omega)))
    have hPc := hP.sub (ws' := wM hm cI cZ xt (nI nF) (nI nC) xg (fun c => nI (pl c)) (fun c => nI (cf c)) (fun c => nI (ct c)) aK bF bL bB bA bY bR oT oO oR bS) [0, 1, 2, 3, 4, 5, 6, 7, 8, 9, 10, 11, 12, 13, 14] rfl
    have hDc := hD.sub (ws' := wM hm cI cZ xt (nI nF) (nI nC) xg (fun c => nI (pl c)) (fun c => nI (cf c)) (fun c => nI (ct c)) aK bF bL bB bA bY bR oT oO oR bS) [0, 1, 2, 3, 4, 5, 6, 7, 8, 9, 10, 11, 12, 13, 14] (by decide) rfl
    have hKc := hK.sub (tys' := tyM cI cZ) [0, 1] rfl
    have hFc := va_free (wc := wM hm cI cZ xt (nI nF) (nI nC) xg (fun c => nI (pl c)) (fun c => nI (cf c)) (fun c => nI (ct c)) aK bF bL bB bA bY bR oT oO oR bS) hD hS hA [0, 1, 2, 3, 4, 5, 6, 7, 8, 9, 10, 11, 12, 13, 14] rfl
    refine va_calli (va_runV (As := [.int (xs (4 * t9 + 1))]) (rest := []) ⟨hx, hb, hml, hown, hts⟩ (m_function l dC dI cI cZ hm H.size xt (nI nC) xg (fun c => nI (pl c)) (fun c => nI (cf c)) (fun c => nI (ct c)) aK bF bL bB bA bY bR oT oO oR bS nF (xs (4 * t9 + 1)) (hF)) (cwV 1 hts gl_51 rfl rfl rfl (by decide +kernel) ⟨Nat.le_of_ble_eq_true rfl, Nat.le_of_ble_eq_true rfl⟩) ⟨fun a U g mk q => by obtain ⟨q0, q1, qP, qK, qD⟩ := q; exact ⟨q0, q1, qP, va_K.moved (u := U) (U := U.calling g mk a) (Vm.Alike.refl U.vm) qK, qD⟩, va_recv hK hP (ci := 0) (q0 := 0) rfl rfl, fun U hU hW => ⟨rfl, by rw [hU], by rw [hU]; exact hPc, va_K.moved hW.alike hKc, hDc.weaken (fun _ _ _ _ => trivial)⟩⟩ rfl rfl hl.1 rfl (lv_room (Nat.le_of_ble_eq_true rfl)) d_L_law_124 ⟨hce, hsl⟩) hS (fun q _ h => hFc q h) hFc (fun r11 u9 t H1 locs ht hvm hw hB hz1 hk1 hS => ?_)
    obtain ⟨xt9, xf9, aP8⟩ := u9
    obtain ⟨hP1, hK1, hD1⟩ := hB
    rw [ht] at hP1
    try dsimp only at hw hP1 hD1
    obtain ⟨hP, hD⟩ := va_join (wr := ((ho, .inl (cJ, 1, .inr (.inl fo9))) :: wC hc cI (nI nF) (nI nC) yn yt (nI ga) ym (fun c => nI (pl c)) (fun c => nI (cf c)) (fun c => nI (ct c)) aK eB eE eA eL eN eC eS eW eT)) (w1 := wM hm cI cZ xt9 xf9 (nI nC) xg aP8 (fun c => nI (cf c)) (fun c => nI (ct c)) aK bF bL bB bA bY bR oT oO oR bS) hP hD [0, 1, 2, 3, 4, 5, 6, 7, 8, 9, 10, 11, 12, 13, 14] [15, 16, 17, 18, 19, 20, 21, 22, 23, 24, 25, 26, 27, 28, 29, 30, 31, 32] rfl rfl (by decide) (by decide) hk1 hFc hP1 hD1
    generalize H1 = H at hP hS ⊢
    have hP := hP.sub (ws' := (wM hm cI cZ xt9 xf9 (nI nC) xg aP8 (fun c => nI (cf c)) (fun c => nI (ct c)) aK bF bL bB bA bY bR oT oO oR bS ++ ((ho, .inl (cJ, 1, .inr (.inl fo9))) :: wC hc cI (nI nF) (nI nC) yn yt (nI ga) ym (fun c => nI (pl c)) (fun c => nI (cf c)) (fun c => nI (ct c)) aK eB eE eA eL eN eC eS eW eT))) [18, 19, 20, 21, 22, 23, 24, 25, 26, 27, 28, 29, 30, 31, 32, 0, 1, 2, 3, 4, 5, 6, 7, 8, 9, 10, 11, 12, 13, 14, 15, 16, 17] rfl
    have hD := hD.sub (ws' := (wM hm cI cZ xt9 xf9 (nI nC) xg aP8 (fun c => nI (cf c)) (fun c => nI (ct c)) aK bF bL bB bA bY bR oT oO oR bS ++ ((ho, .inl (cJ, 1, .inr (.inl fo9))) :: wC hc cI (nI nF) (nI nC) yn yt (nI ga) ym (fun c => nI (pl c)) (fun c => nI (cf c)) (fun c => nI (ct c)) aK eB eE eA eL eN eC eS eW eT))) [18, 19, 20, 21, 22, 23, 24, 25, 26, 27, 28, 29, 30, 31, 32, 0, 1, 2, 3, 4, 5, 6, 7, 8, 9, 10, 11, 12, 13, 14, 15, 16, 17] (by decide) rfl
    rcases hw with ⟨hq2, hu1, hu2, hu3⟩ | ⟨hq2, hn2, hu1, hu2, hu3⟩ | ⟨hq2, hn2, hu1, hu2, hu3, hr9⟩
    · first | omega | exact absurd hq2 hq | exact absurd hq hq2 | exact absurd ⟨j, hj1, hj4, hqj⟩ hq2
    · subst hu1
      subst hu2
      subst hu3
      refine lv_istore (lv' := [(6, .int r11), (5, .int (nI 2)), (4, .int (nI (4 * t9))), (3, .ref ho), (2, .ref (hm 0)), (1, .ref (hc 0)), (0, .ref b)]) hx hb d_L_law_127 hl (by decide) rfl (fun ls hl => ?_)
      refine lv_goto (tgt := 613) hx hb d_L_law_129 (by decide) ?_
      exact next H locs ls ⟨_, _, _, _, _, _, _, _, _, _, _, _, _, _, _, _, _, _, _, _, _, _, _, _, _, _, _, _, _, _, _, _, ⟨hF, hC, hS0, hpl, hcl, fun h9 => absurd h9 (Nat.succ_ne_zero _)⟩, hga, hP, hD, hS⟩ (lv_sub hl [2, 3, 4, 5, 6] rfl)
    · first | omega | exact absurd hq2 hq | exact absurd hq hq2 | exact absurd ⟨j, hj1, hj4, hqj⟩ hq2
set_option maxHeartbeats 4000000 in
set_option maxRecDepth 100000 in
theorem law_call {p : Program} {l : Launch} {e : Env} {s : State} {m : MethodId} {below : List Frame} {meth : Method} {c : Code} {b L : Nat} {xs : Nat → Int32} (hst : l.stackTraces = false) (hx : p.tables.exec = Jvm.exec) (hb : c.code = code) (hr : meth.sig.returnType = ret) (hml : c.maxLocals = 7) (hown : s.vm.findClass R_L = some m.cls) (hts : ∀ w ∈ lw_tbl, w.before #[Value.ref b] s = true) (hX : va_X b L xs s s.heap) (hbl : b < s.heap.size) (dC : Nat → ClassId) (dI : Nat → Nat → Nat) (cI cZ cJ : ClassId) (hm hc : Nat → Nat) (ho K : Nat) (hK8 : 801 ≤ K) (sa : Nat → Nat) (A : Nat → Prop) (hA : ∀ q : Nat, s.heap.size ≤ q → A q) (hbA : ¬ A b) (hK : va_K (dC, dI) kls (tyL cI cZ cJ) s) (hT : xT sa s) (hC9 : xC s) (hZ : xZ A s s.heap) {Q : State → Prop} {t9 : Nat} (hL : 4 * t9 + 3 < L) (hL2 : L ≤ 2048) {H : Heap} {locs : List Loc} {ls : Array Slot} (hJ : lwJ dC dI cI cZ cJ hm hc ho K A s.heap t9 H locs) (hl : lv_has ls 7 [(4, .int (nI (4 * t9))), (3, .ref ho), (2, .ref (hm 0)), (1, .ref (hc 0)), (0, .ref b)]) (next : ∀ (H : Heap) (locs : List Loc) (ls : Array Slot), lwJ dC dI cI cZ cJ hm hc ho K A s.heap (t9 + 1) H locs → lv_has ls 7 [(4, .int (nI (4 * t9))), (3, .ref ho), (2, .ref (hm 0)), (1, .ref (hc 0)), (0, .ref b)] → W p l e room_1 s m #[Value.ref b] below meth c H locs (33 + (t9 + 1)) (10097 + 6 * (t9 + 1)) Q (F0 m 613 ls [])) : W p l e room_1 s m #[Value.ref b] below meth c H locs (33 + t9) (10097 + 6 * t9) Q (F0 m 132 ls []) := by
  obtain ⟨nF, nC, pl, cf, ct, aK, xt, xg, bF, bL, bB, bA, bY, bR, oT, oO, oR, bS, fo, yn, yt, ym, ga, eB, eE, eA, eL, eN, eC, eS, eW, eT, ⟨hF, hC, hS0, hpl, hcl, hz0⟩, hga, hP, hD, hS⟩ := hJ
  have hk := hts
  have hce1 : (33 + t9) + 1 ≤ room_1.cells := by show (33 + t9) + 1 ≤ 1066; omega
  have hsl1 : (10097 + 6 * t9) + 6 ≤ room_1.slots := by show (10097 + 6 * t9) + 6 ≤ 18343; omega
  have hce : 33 + (t9 + 1) + 0 ≤ room_1.cells := by show 33 + (t9 + 1) + 0 ≤ 1066; omega
  have hsl : 10097 + 6 * (t9 + 1) + 0 ≤ room_1.slots := by show 10097 + 6 * (t9 + 1) + 0 ≤ 18343; omega
  refine lv_aload_n hx hb d_L_law_132 rfl (lv_at hl 3 rfl) ?_
  refine lv_aload_n hx hb d_L_law_133 rfl (lv_at hl 4 rfl) ?_
  refine lv_iload hx hb d_L_law_134 (lv_at hl 0 rfl) ?_
  refine lv_iconst (v := nI 1) hx hb d_L_law_136 (by decide +kernel) ?_
  refine lv_iadd hx hb d_L_law_137 ?_
  refine lv_topi (fun z1 ez1 => ?_)
  obtain rfl : z1 = nI (4 * t9 + 1) := ez1.trans (nI_add _ _)
  refine va_sld hx hb hX hbl hbA hS (pk_in (4 * t9 + 1) L (by omega)) d_L_law_138 ?_
  refine lv_topi (fun z2 ez2 => ?_)
  obtain rfl : z2 = xs (4 * t9 + 1) := ez2.trans (congrArg xs (nI_clamp (by omega)))
  refine lv_aload_n hx hb d_L_law_139 rfl (lv_at hl 4 rfl) ?_
  refine lv_iload hx hb d_L_law_140 (lv_at hl 0 rfl) ?_
  refine lv_iconst (v := nI 2) hx hb d_L_law_142 (by decide +kernel) ?_
  refine lv_iadd hx hb d_L_law_143 ?_
  refine lv_topi (fun z3 ez3 => ?_)
  obtain rfl : z3 = nI (4 * t9 + 2) := ez3.trans (nI_add _ _)
  refine va_sld hx hb hX hbl hbA hS (pk_in (4 * t9 + 2) L (by omega)) d_L_law_144 ?_
  refine lv_topi (fun z4 ez4 => ?_)
  obtain rfl : z4 = xs (4 * t9 + 2) := ez4.trans (congrArg xs (nI_clamp (by omega)))
  refine lv_aload_n hx hb d_L_law_145 rfl (lv_at hl 4 rfl) ?_
  refine lv_iload hx hb d_L_law_146 (lv_at hl 0 rfl) ?_
  refine lv_iconst (v := nI 3) hx hb d_L_law_148 (by decide +kernel) ?_
  refine lv_iadd hx hb d_L_law_149 ?_
  refine lv_topi (fun z5 ez5 => ?_)
  obtain rfl : z5 = nI (4 * t9 + 3) := ez5.trans (nI_add _ _)
  refine va_sld hx hb hX hbl hbA hS (pk_in (4 * t9 + 3) L (by omega)) d_L_law_150 ?_
  refine lv_topi (fun z6 ez6 => ?_)
  obtain rfl : z6 = xs (4 * t9 + 3) := ez6.trans (congrArg xs (nI_clamp (by omega)))
  refine lv_aload_n hx hb d_L_law_151 rfl (lv_at hl 1 rfl) ?_
  have hPc := hP.sub (ws' := ((ho, .inl (cJ, 1, .inr (.inl fo))) :: wC hc cI (nI nF) (nI nC) yn yt (nI ga) ym (fun c => nI (pl c)) (fun c => nI (cf c)) (fun c => nI (ct c)) aK eB eE eA eL eN eC eS eW eT)) [15, 16, 17, 18, 19, 20, 21, 22, 23, 24, 25, 26, 27, 28, 29, 30, 31, 32] rfl
  have hDc := hD.sub (ws' := ((ho, .inl (cJ, 1, .inr (.inl fo))) :: wC hc cI (nI nF) (nI nC) yn yt (nI ga) ym (fun c => nI (pl c)) (fun c => nI (cf c)) (fun c => nI (ct c)) aK eB eE eA eL eN eC eS eW eT)) [15, 16, 17, 18, 19, 20, 21, 22, 23, 24, 25, 26, 27, 28, 29, 30, 31, 32] (by decide) rfl
  have hKc := hK.sub (tys' := tyH cI cJ) [0, 2] rfl
  have hFc := va_free (wc := ((ho, .inl (cJ, 1, .inr (.inl fo))) :: wC hc cI (nI nF) (nI nC) yn yt (nI ga) ym (fun c => nI (pl c)) (fun c => nI (cf c)) (fun c => nI (ct c)) aK eB eE eA eL eN eC eS eW eT)) hD hS hA [15, 16, 17, 18, 19, 20, 21, 22, 23, 24, 25, 26, 27, 28, 29, 30, 31, 32] rfl
  refine vx_calli (vx_runSX (hh := hh_L_call) (As := [.ref (hc 0), .int (xs (4 * t9 + 1)), .int (xs (4 * t9 + 2)), .int (xs (4 * t9 + 3)), .ref ho]) (rest := []) ⟨hx, hb, hml, hown, hts⟩ (c_L_call_ok l hst dC dI cI cJ hc ho H.size fo yn yt (nI ga) ym aK eB eE eA eL eN eC eS eW eT nF nC pl cf ct (xs (4 * t9 + 1)) (xs (4 * t9 + 2)) (xs (4 * t9 + 3)) sa (hF) (hC) (hS0) (hpl)) (vx_cwSW 5 hts gl_52 rfl rfl rfl (by decide +kernel) ⟨Nat.le_of_ble_eq_true rfl, Nat.le_of_ble_eq_true rfl⟩) ⟨fun a U g mk q => by obtain ⟨q0, q1, qP, qK, qD, qT, qC, qZ⟩ := q; exact ⟨q0, q1, qP, va_K.moved (u := U) (U := U.calling g mk a) (Vm.Alike.refl U.vm) qK, qD, xT.same rfl qT, xC.moved (u := U) (U := U.calling g mk a) (Vm.Alike.refl U.vm) qC, xZ.blind (u := U) (U := U.calling g mk a) (Vm.Alike.refl U.vm) qZ⟩, fun U hU hW => ⟨rfl, by rw [hU], by rw [hU]; exact hPc, va_K.moved hW.alike hKc, hDc.weaken (fun _ _ _ _ => trivial), xT.warm hW hT, xC.moved hW.alike hC9, xZ.here hZ hS hFc hW.alike hU⟩⟩ rfl rfl hl.1 rfl (lv_room (Nat.le_of_ble_eq_true rfl)) d_L_law_152 ⟨hce1, hsl1⟩) hS (fun q _ h => hFc q h) hFc (fun q _ h => hFc q h) (fun E ce q9 u9 t H1 locs ht hvm hf9 => hf9.elim) (fun r1 u9 t H1 locs ht hvm hw hB hz1 hk1 hS => ?_)
  obtain ⟨fo9, yc9, aF9, aT9, aK9, yg9⟩ := u9
  obtain ⟨hP1, hK1, hD1⟩ := hB
  rw [ht] at hP1
  try dsimp only at hw hP1 hD1
  obtain ⟨hP, hD⟩ := va_join (wr := wM hm cI cZ xt (nI nF) (nI nC) xg (fun c => nI (pl c)) (fun c => nI (cf c)) (fun c => nI (ct c)) aK bF bL bB bA bY bR oT oO oR bS) (w1 := ((ho, .inl (cJ, 1, .inr (.inl fo9))) :: wC hc cI (nI nF) yc9 yn yt yg9 ym (fun c => nI (pl c)) aF9 aT9 aK9 eB eE eA eL eN eC eS eW eT)) hP hD [15, 16, 17, 18, 19, 20, 21, 22, 23, 24, 25, 26, 27, 28, 29, 30, 31, 32] [0, 1, 2, 3, 4, 5, 6, 7, 8, 9, 10, 11, 12, 13, 14] rfl rfl (by decide) (by decide) hk1 hFc hP1 hD1
  generalize H1 = H at hP hS ⊢
  have hP : va_P (dC, dI) kls (wM hm cI cZ xt (nI nF) (nI nC) xg (fun c => nI (pl c)) (fun c => nI (cf c)) (fun c => nI (ct c)) aK bF bL bB bA bY bR oT oO oR bS ++ ((ho, .inl (cJ, 1, .inr (.inl fo9))) :: wC hc cI (nI nF) yc9 yn yt yg9 ym (fun c => nI (pl c)) aF9 aT9 aK9 eB eE eA eL eN eC eS eW eT)) H := hP
  have hD : va_D A (wM hm cI cZ xt (nI nF) (nI nC) xg (fun c => nI (pl c)) (fun c => nI (cf c)) (fun c => nI (ct c)) aK bF bL bB bA bY bR oT oO oR bS ++ ((ho, .inl (cJ, 1, .inr (.inl fo9))) :: wC hc cI (nI nF) yc9 yn yt yg9 ym (fun c => nI (pl c)) aF9 aT9 aK9 eB eE eA eL eN eC eS eW eT)) := hD
  refine W.widen (k := 33 + (t9 + 1)) (n := 10097 + 6 * (t9 + 1)) (by omega) (by omega) ?_
  rcases hw with ⟨i, j, hi, hj, hfi, hgj, hn, hr9, hout, hu9⟩ | ⟨hb9, hr9, hu9⟩ | ⟨i, j, hi, hj, hfi, hgj, hn, hr9, hu9⟩
  · subst hr9
    cases hu9
    refine lv_istore (lv' := [(5, .int (nI 0)), (4, .int (nI (4 * t9))), (3, .ref ho), (2, .ref (hm 0)), (1, .ref (hc 0)), (0, .ref b)]) hx hb d_L_law_155 hl (by decide) rfl (fun ls hl => ?_)
    refine lv_aload_n hx hb d_L_law_157 rfl (lv_at hl 3 rfl) ?_
    refine lv_aload_n hx hb d_L_law_158 rfl (lv_at hl 5 rfl) ?_
    refine lv_iload hx hb d_L_law_159 (lv_at hl 1 rfl) ?_
    refine lv_iconst (v := nI 1) hx hb d_L_law_161 (by decide +kernel) ?_
    refine lv_iadd hx hb d_L_law_162 ?_
    refine lv_topi (fun z7 ez7 => ?_)
    obtain rfl : z7 = nI (4 * t9 + 1) := ez7.trans (nI_add _ _)
    refine va_sld hx hb hX hbl hbA hS (pk_in (4 * t9 + 1) L (by omega)) d_L_law_163 ?_
    refine lv_topi (fun z8 ez8 => ?_)
    obtain rfl : z8 = xs (4 * t9 + 1) := ez8.trans (congrArg xs (nI_clamp (by omega)))
    refine lv_aload_n hx hb d_L_law_164 rfl (lv_at hl 5 rfl) ?_
    refine lv_iload hx hb d_L_law_165 (lv_at hl 1 rfl) ?_
    refine lv_iconst (v := nI 2) hx hb d_L_law_167 (by decide +kernel) ?_
    refine lv_iadd hx hb d_L_law_168 ?_
    refine lv_topi (fun z9 ez9 => ?_)
    obtain rfl : z9 = nI (4 * t9 + 2) := ez9.trans (nI_add _ _)
    refine va_sld hx hb hX hbl hbA hS (pk_in (4 * t9 + 2) L (by omega)) d_L_law_169 ?_
    refine lv_topi (fun z10 ez10 => ?_)
    obtain rfl : z10 = xs (4 * t9 + 2) := ez10.trans (congrArg xs (nI_clamp (by omega)))
    refine lv_aload_n hx hb d_L_law_170 rfl (lv_at hl 5 rfl) ?_
    refine lv_iload hx hb d_L_law_171 (lv_at hl 1 rfl) ?_
    refine lv_iconst (v := nI 3) hx hb d_L_law_173 (by decide +kernel) ?_
    refine lv_iadd hx hb d_L_law_174 ?_
    refine lv_topi (fun z11 ez11 => ?_)
    obtain rfl : z11 = nI (4 * t9 + 3) := ez11.trans (nI_add _ _)
    refine va_sld hx hb hX hbl hbA hS (pk_in (4 * t9 + 3) L (by omega)) d_L_law_175 ?_
    refine lv_topi (fun z12 ez12 => ?_)
    obtain rfl : z12 = xs (4 * t9 + 3) := ez12.trans (congrArg xs (nI_clamp (by omega)))
    have hPc := hP.sub (ws' := wM hm cI cZ xt (nI nF) (nI nC) xg (fun c => nI (pl c)) (fun c => nI (cf c)) (fun c => nI (ct c)) aK bF bL bB bA bY bR oT oO oR bS) [0, 1, 2, 3, 4, 5, 6, 7, 8, 9, 10, 11, 12, 13, 14] rfl
    have hDc := hD.sub (ws' := wM hm cI cZ xt (nI nF) (nI nC) xg (fun c => nI (pl c)) (fun c => nI (cf c)) (fun c => nI (ct c)) aK bF bL bB bA bY bR oT oO oR bS) [0, 1, 2, 3, 4, 5, 6, 7, 8, 9, 10, 11, 12, 13, 14] (by decide) rfl
    have hKc := hK.sub (tys' := tyM cI cZ) [0, 1] rfl
    have hFc := va_free (wc := wM hm cI cZ xt (nI nF) (nI nC) xg (fun c => nI (pl c)) (fun c => nI (cf c)) (fun c => nI (ct c)) aK bF bL bB bA bY bR oT oO oR bS) hD hS hA [0, 1, 2, 3, 4, 5, 6, 7, 8, 9, 10, 11, 12, 13, 14] rfl
    refine va_calli (va_runV (As := [.int (xs (4 * t9 + 1)), .int (xs (4 * t9 + 2)), .int (xs (4 * t9 + 3))]) (rest := []) ⟨hx, hb, hml, hown, hts⟩ (m_call l dC dI cI cZ hm H.size xt xg aK bF bL bB bA bY bR oT oO oR bS nF nC pl cf ct (xs (4 * t9 + 1)) (xs (4 * t9 + 2)) (xs (4 * t9 + 3)) (hF) (hC) (hS0) (hpl)) (cwV 3 hts gl_55 rfl rfl rfl (by decide +kernel) ⟨Nat.le_of_ble_eq_true rfl, Nat.le_of_ble_eq_true rfl⟩) ⟨fun a U g mk q => by obtain ⟨q0, q1, qP, qK, qD⟩ := q; exact ⟨q0, q1, qP, va_K.moved (u := U) (U := U.calling g mk a) (Vm.Alike.refl U.vm) qK, qD⟩, va_recv hK hP (ci := 0) (q0 := 0) rfl rfl, fun U hU hW => ⟨rfl, by rw [hU], by rw [hU]; exact hPc, va_K.moved hW.alike hKc, hDc.weaken (fun _ _ _ _ => trivial)⟩⟩ rfl rfl hl.1 rfl (lv_room (Nat.le_of_ble_eq_true rfl)) d_L_law_176 ⟨hce, hsl⟩) hS (fun q _ h => hFc q h) hFc (fun r13 u9 t H1 locs ht hvm hw hB hz1 hk1 hS => ?_)
    obtain ⟨xt9, xc9, aF8, aT8, aK8⟩ := u9
    obtain ⟨hP1, hK1, hD1⟩ := hB
    rw [ht] at hP1
    try dsimp only at hw hP1 hD1
    obtain ⟨hP, hD⟩ := va_join (wr := ((ho, .inl (cJ, 1, .inr (.inl fo9))) :: wC hc cI (nI nF) (nI (nC + 1)) yn yt (nI 0) ym (fun c => nI (pl c)) (fun c => nI (updN cf nC i c)) (fun c => nI (updN ct nC j c)) (upd aK nC (clC (xs (4 * t9 + 3)) (pl i) (pl j))) eB eE eA eL eN eC eS eW eT)) (w1 := wM hm cI cZ xt9 (nI nF) xc9 xg (fun c => nI (pl c)) aF8 aT8 aK8 bF bL bB bA bY bR oT oO oR bS) hP hD [0, 1, 2, 3, 4, 5, 6, 7, 8, 9, 10, 11, 12, 13, 14] [15, 16, 17, 18, 19, 20, 21, 22, 23, 24, 25, 26, 27, 28, 29, 30, 31, 32] rfl rfl (by decide) (by decide) hk1 hFc hP1 hD1
    generalize H1 = H at hP hS ⊢
    have hP := hP.sub (ws' := (wM hm cI cZ xt9 (nI nF) xc9 xg (fun c => nI (pl c)) aF8 aT8 aK8 bF bL bB bA bY bR oT oO oR bS ++ ((ho, .inl (cJ, 1, .inr (.inl fo9))) :: wC hc cI (nI nF) (nI (nC + 1)) yn yt (nI 0) ym (fun c => nI (pl c)) (fun c => nI (updN cf nC i c)) (fun c => nI (updN ct nC j c)) (upd aK nC (clC (xs (4 * t9 + 3)) (pl i) (pl j))) eB eE eA eL eN eC eS eW eT))) [18, 19, 20, 21, 22, 23, 24, 25, 26, 27, 28, 29, 30, 31, 32, 0, 1, 2, 3, 4, 5, 6, 7, 8, 9, 10, 11, 12, 13, 14, 15, 16, 17] rfl
    have hD := hD.sub (ws' := (wM hm cI cZ xt9 (nI nF) xc9 xg (fun c => nI (pl c)) aF8 aT8 aK8 bF bL bB bA bY bR oT oO oR bS ++ ((ho, .inl (cJ, 1, .inr (.inl fo9))) :: wC hc cI (nI nF) (nI (nC + 1)) yn yt (nI 0) ym (fun c => nI (pl c)) (fun c => nI (updN cf nC i c)) (fun c => nI (updN ct nC j c)) (upd aK nC (clC (xs (4 * t9 + 3)) (pl i) (pl j))) eB eE eA eL eN eC eS eW eT))) [18, 19, 20, 21, 22, 23, 24, 25, 26, 27, 28, 29, 30, 31, 32, 0, 1, 2, 3, 4, 5, 6, 7, 8, 9, 10, 11, 12, 13, 14, 15, 16, 17] (by decide) rfl
    rcases hw with ⟨hb2, hu1, hu2, hu3, hu4, hu5⟩ | ⟨hb2, hn2, hu1, hu2, hu3, hu4, hu5⟩ | ⟨i2, j2, hi2, hj2, hf2, hg2, hn2, hu1, hu2, hu3, hu4, hu5, hr9⟩
    · first | omega | exact absurd ⟨⟨i, hi, hfi⟩, ⟨j, hj, hgj⟩⟩ hb2 | exact absurd hb2 hb9 | exact absurd ⟨⟨i2, hi2, hf2⟩, ⟨j2, hj2, hg2⟩⟩ hb9
    · first | omega | exact absurd ⟨⟨i, hi, hfi⟩, ⟨j, hj, hgj⟩⟩ hb2 | exact absurd hb2 hb9 | exact absurd ⟨⟨i2, hi2, hf2⟩, ⟨j2, hj2, hg2⟩⟩ hb9
    · have hp1 := hpl i hi
      have hp2 := hpl j hj
      obtain rfl := nI_one (by omega) (by omega) (hfi.symm.trans hf2)
      obtain rfl := nI_one (by omega) (by omega) (hgj.symm.trans hg2)
      rw [← cl_eq _ (by omega) (by omega)] at hu5
      subst hu1
      subst hu2
      subst hu3
      subst hu4
      subst hu5
      subst hr9
      refine lv_istore (lv' := [(6, .int (nI nC)), (5, .int (nI 0)), (4, .int (nI (4 * t9))), (3, .ref ho), (2, .ref (hm 0)), (1, .ref (hc 0)), (0, .ref b)]) hx hb d_L_law_179 hl (by decide) rfl (fun ls hl => ?_)
      refine lv_goto (tgt := 613) hx hb d_L_law_181 (by decide) ?_
      exact next H locs ls ⟨nF, nC + 1, pl, updN cf nC i, updN ct nC j, upd aK nC (clC (xs (4 * t9 + 3)) (pl i) (pl j)), _, _, _, _, _, _, _, _, _, _, _, _, _, _, _, _, _, _, _, _, _, _, _, _, _, _, ⟨hF, by omega, fun c hc => by unfold updN; by_cases hcn : c = nC; (rw [if_pos hcn, if_pos hcn]; exact ⟨hi, hj⟩); (rw [if_neg hcn, if_neg hcn]; exact hS0 c (by omega)), hpl, fun c hc => by unfold upd; by_cases hcn : c = nC; (rw [if_pos hcn]; exact cl_cl _ _ _); (rw [if_neg hcn]; exact hcl c (by omega)), fun h9 => absurd h9 (Nat.succ_ne_zero _)⟩, Or.inl rfl, hP, hD, hS⟩ (lv_sub hl [2, 3, 4, 5, 6] rfl)
  · subst hr9
    cases hu9
    refine lv_istore (lv' := [(5, .int (nI 1)), (4, .int (nI (4 * t9))), (3, .ref ho), (2, .ref (hm 0)), (1, .ref (hc 0)), (0, .ref b)]) hx hb d_L_law_155 hl (by decide) rfl (fun ls hl => ?_)
    refine lv_aload_n hx hb d_L_law_157 rfl (lv_at hl 3 rfl) ?_
    refine lv_aload_n hx hb d_L_law_158 rfl (lv_at hl 5 rfl) ?_
    refine lv_iload hx hb d_L_law_159 (lv_at hl 1 rfl) ?_
    refine lv_iconst (v := nI 1) hx hb d_L_law_161 (by decide +kernel) ?_
    refine lv_iadd hx hb d_L_law_162 ?_
    refine lv_topi (fun z14 ez14 => ?_)
    obtain rfl : z14 = nI (4 * t9 + 1) := ez14.trans (nI_add _ _)
    refine va_sld hx hb hX hbl hbA hS (pk_in (4 * t9 + 1) L (by omega)) d_L_law_163 ?_
    refine lv_topi (fun z15 ez15 => ?_)
    obtain rfl : z15 = xs (4 * t9 + 1) := ez15.trans (congrArg xs (nI_clamp (by omega)))
    refine lv_aload_n hx hb d_L_law_164 rfl (lv_at hl 5 rfl) ?_
    refine lv_iload hx hb d_L_law_165 (lv_at hl 1 rfl) ?_
    refine lv_iconst (v := nI 2) hx hb d_L_law_167 (by decide +kernel) ?_
    refine lv_iadd hx hb d_L_law_168 ?_
    refine lv_topi (fun z16 ez16 => ?_)
    obtain rfl : z16 = nI (4 * t9 + 2) := ez16.trans (nI_add _ _)
    refine va_sld hx hb hX hbl hbA hS (pk_in (4 * t9 + 2) L (by omega)) d_L_law_169 ?_
    refine lv_topi (fun z17 ez17 => ?_)
    obtain rfl : z17 = xs (4 * t9 + 2) := ez17.trans (congrArg xs (nI_clamp (by omega)))
    refine lv_aload_n hx hb d_L_law_170 rfl (lv_at hl 5 rfl) ?_
    refine lv_iload hx hb d_L_law_171 (lv_at hl 1 rfl) ?_
    refine lv_iconst (v := nI 3) hx hb d_L_law_173 (by decide +kernel) ?_
    refine lv_iadd hx hb d_L_law_174 ?_
    refine lv_topi (fun z18 ez18 => ?_)
    obtain rfl : z18 = nI (4 * t9 + 3) := ez18.trans (nI_add _ _)
    refine va_sld hx hb hX hbl hbA hS (pk_in (4 * t9 + 3) L (by omega)) d_L_law_175 ?_
    refine lv_topi (fun z19 ez19 => ?_)
    obtain rfl : z19 = xs (4 * t9 + 3) := ez19.trans (congrArg xs (nI_clamp (by omega)))
    have hPc := hP.sub (ws' := wM hm cI cZ xt (nI nF) (nI nC) xg (fun c => nI (pl c)) (fun c => nI (cf c)) (fun c => nI (ct c)) aK bF bL bB bA bY bR oT oO oR bS) [0, 1, 2, 3, 4, 5, 6, 7, 8, 9, 10, 11, 12, 13, 14] rfl
    have hDc := hD.sub (ws' := wM hm cI cZ xt (nI nF) (nI nC) xg (fun c => nI (pl c)) (fun c => nI (cf c)) (fun c => nI (ct c)) aK bF bL bB bA bY bR oT oO oR bS) [0, 1, 2, 3, 4, 5, 6, 7, 8, 9, 10, 11, 12, 13, 14] (by decide) rfl
    have hKc := hK.sub (tys' := tyM cI cZ) [0, 1] rfl
    have hFc := va_free (wc := wM hm cI cZ xt (nI nF) (nI nC) xg (fun c => nI (pl c)) (fun c => nI (cf c)) (fun c => nI (ct c)) aK bF bL bB bA bY bR oT oO oR bS) hD hS hA [0, 1, 2, 3, 4, 5, 6, 7, 8, 9, 10, 11, 12, 13, 14] rfl
    refine va_calli (va_runV (As := [.int (xs (4 * t9 + 1)), .int (xs (4 * t9 + 2)), .int (xs (4 * t9 + 3))]) (rest := []) ⟨hx, hb, hml, hown, hts⟩ (m_call l dC dI cI cZ hm H.size xt xg aK bF bL bB bA bY bR oT oO oR bS nF nC pl cf ct (xs (4 * t9 + 1)) (xs (4 * t9 + 2)) (xs (4 * t9 + 3)) (hF) (hC) (hS0) (hpl)) (cwV 3 hts gl_55 rfl rfl rfl (by decide +kernel) ⟨Nat.le_of_ble_eq_true rfl, Nat.le_of_ble_eq_true rfl⟩) ⟨fun a U g mk q => by obtain ⟨q0, q1, qP, qK, qD⟩ := q; exact ⟨q0, q1, qP, va_K.moved (u := U) (U := U.calling g mk a) (Vm.Alike.refl U.vm) qK, qD⟩, va_recv hK hP (ci := 0) (q0 := 0) rfl rfl, fun U hU hW => ⟨rfl, by rw [hU], by rw [hU]; exact hPc, va_K.moved hW.alike hKc, hDc.weaken (fun _ _ _ _ => trivial)⟩⟩ rfl rfl hl.1 rfl (lv_room (Nat.le_of_ble_eq_true rfl)) d_L_law_176 ⟨hce, hsl⟩) hS (fun q _ h => hFc q h) hFc (fun r20 u9 t H1 locs ht hvm hw hB hz1 hk1 hS => ?_)
    obtain ⟨xt9, xc9, aF8, aT8, aK8⟩ := u9
    obtain ⟨hP1, hK1, hD1⟩ := hB
    rw [ht] at hP1
    try dsimp only at hw hP1 hD1
    obtain ⟨hP, hD⟩ := va_join (wr := ((ho, .inl (cJ, 1, .inr (.inl fo9))) :: wC hc cI (nI nF) (nI nC) yn yt (nI ga) ym (fun c => nI (pl c)) (fun c => nI (cf c)) (fun c => nI (ct c)) aK eB eE eA eL eN eC eS eW eT)) (w1 := wM hm cI cZ xt9 (nI nF) xc9 xg (fun c => nI (pl c)) aF8 aT8 aK8 bF bL bB bA bY bR oT oO oR bS) hP hD [0, 1, 2, 3, 4, 5, 6, 7, 8, 9, 10, 11, 12, 13, 14] [15, 16, 17, 18, 19, 20, 21, 22, 23, 24, 25, 26, 27, 28, 29, 30, 31, 32] rfl rfl (by decide) (by decide) hk1 hFc hP1 hD1
    generalize H1 = H at hP hS ⊢
    have hP := hP.sub (ws' := (wM hm cI cZ xt9 (nI nF) xc9 xg (fun c => nI (pl c)) aF8 aT8 aK8 bF bL bB bA bY bR oT oO oR bS ++ ((ho, .inl (cJ, 1, .inr (.inl fo9))) :: wC hc cI (nI nF) (nI nC) yn yt (nI ga) ym (fun c => nI (pl c)) (fun c => nI (cf c)) (fun c => nI (ct c)) aK eB eE eA eL eN eC eS eW eT))) [18, 19, 20, 21, 22, 23, 24, 25, 26, 27, 28, 29, 30, 31, 32, 0, 1, 2, 3, 4, 5, 6, 7, 8, 9, 10, 11, 12, 13, 14, 15, 16, 17] rfl
    have hD := hD.sub (ws' := (wM hm cI cZ xt9 (nI nF) xc9 xg (fun c => nI (pl c)) aF8 aT8 aK8 bF bL bB bA bY bR oT oO oR bS ++ ((ho, .inl (cJ, 1, .inr (.inl fo9))) :: wC hc cI (nI nF) (nI nC) yn yt (nI ga) ym (fun c => nI (pl c)) (fun c => nI (cf c)) (fun c => nI (ct c)) aK eB eE eA eL eN eC eS eW eT))) [18, 19, 20, 21, 22, 23, 24, 25, 26, 27, 28, 29, 30, 31, 32, 0, 1, 2, 3, 4, 5, 6, 7, 8, 9, 10, 11, 12, 13, 14, 15, 16, 17] (by decide) rfl
    rcases hw with ⟨hb2, hu1, hu2, hu3, hu4, hu5⟩ | ⟨hb2, hn2, hu1, hu2, hu3, hu4, hu5⟩ | ⟨i2, j2, hi2, hj2, hf2, hg2, hn2, hu1, hu2, hu3, hu4, hu5, hr9⟩
    · subst hu1
      subst hu2
      subst hu3
      subst hu4
      have hu5 := hu5.symm
      subst hu5
      refine lv_istore (lv' := [(6, .int r20), (5, .int (nI 1)), (4, .int (nI (4 * t9))), (3, .ref ho), (2, .ref (hm 0)), (1, .ref (hc 0)), (0, .ref b)]) hx hb d_L_law_179 hl (by decide) rfl (fun ls hl => ?_)
      refine lv_goto (tgt := 613) hx hb d_L_law_181 (by decide) ?_
      exact next H locs ls ⟨_, _, _, _, _, _, _, _, _, _, _, _, _, _, _, _, _, _, _, _, _, _, _, _, _, _, _, _, _, _, _, _, ⟨hF, hC, hS0, hpl, hcl, fun h9 => absurd h9 (Nat.succ_ne_zero _)⟩, hga, hP, hD, hS⟩ (lv_sub hl [2, 3, 4, 5, 6] rfl)
    · first | omega | exact absurd ⟨⟨i, hi, hfi⟩, ⟨j, hj, hgj⟩⟩ hb2 | exact absurd hb2 hb9 | exact absurd ⟨⟨i2, hi2, hf2⟩, ⟨j2, hj2, hg2⟩⟩ hb9
    · first | omega | exact absurd ⟨⟨i, hi, hfi⟩, ⟨j, hj, hgj⟩⟩ hb2 | exact absurd hb2 hb9 | exact absurd ⟨⟨i2, hi2, hf2⟩, ⟨j2, hj2, hg2⟩⟩ hb9
  · subst hr9
    cases hu9
    refine lv_istore (lv' := [(5, .int (nI 2)), (4, .int (nI (4 * t9))), (3, .ref ho), (2, .ref (hm 0)), (1, .ref (hc 0)), (0, .ref b)]) hx hb d_L_law_155 hl (by decide) rfl (fun ls hl => ?_)
    refine lv_aload_n hx hb d_L_law_157 rfl (lv_at hl 3 rfl) ?_
    refine lv_aload_n hx hb d_L_law_158 rfl (lv_at hl 5 rfl) ?_
    refine lv_iload hx hb d_L_law_159 (lv_at hl 1 rfl) ?_
    refine lv_iconst (v := nI 1) hx hb d_L_law_161 (by decide +kernel) ?_
    refine lv_iadd hx hb d_L_law_162 ?_
    refine lv_topi (fun z21 ez21 => ?_)
    obtain rfl : z21 = nI (4 * t9 + 1) := ez21.trans (nI_add _ _)
    refine va_sld hx hb hX hbl hbA hS (pk_in (4 * t9 + 1) L (by omega)) d_L_law_163 ?_
    refine lv_topi (fun z22 ez22 => ?_)
    obtain rfl : z22 = xs (4 * t9 + 1) := ez22.trans (congrArg xs (nI_clamp (by omega)))
    refine lv_aload_n hx hb d_L_law_164 rfl (lv_at hl 5 rfl) ?_
    refine lv_iload hx hb d_L_law_165 (lv_at hl 1 rfl) ?_
    refine lv_iconst (v := nI 2) hx hb d_L_law_167 (by decide +kernel) ?_
    refine lv_iadd hx hb d_L_law_168 ?_
    refine lv_topi (fun z23 ez23 => ?_)
    obtain rfl : z23 = nI (4 * t9 + 2) := ez23.trans (nI_add _ _)
    refine va_sld hx hb hX hbl hbA hS (pk_in (4 * t9 + 2) L (by omega)) d_L_law_169 ?_
    refine lv_topi (fun z24 ez24 => ?_)
    obtain rfl : z24 = xs (4 * t9 + 2) := ez24.trans (congrArg xs (nI_clamp (by omega)))
    refine lv_aload_n hx hb d_L_law_170 rfl (lv_at hl 5 rfl) ?_
    refine lv_iload hx hb d_L_law_171 (lv_at hl 1 rfl) ?_
    refine lv_iconst (v := nI 3) hx hb d_L_law_173 (by decide +kernel) ?_
    refine lv_iadd hx hb d_L_law_174 ?_
    refine lv_topi (fun z25 ez25 => ?_)
    obtain rfl : z25 = nI (4 * t9 + 3) := ez25.trans (nI_add _ _)
    refine va_sld hx hb hX hbl hbA hS (pk_in (4 * t9 + 3) L (by omega)) d_L_law_175 ?_
    refine lv_topi (fun z26 ez26 => ?_)
    obtain rfl : z26 = xs (4 * t9 + 3) := ez26.trans (congrArg xs (nI_clamp (by omega)))
    have hPc := hP.sub (ws' := wM hm cI cZ xt (nI nF) (nI nC) xg (fun c => nI (pl c)) (fun c => nI (cf c)) (fun c => nI (ct c)) aK bF bL bB bA bY bR oT oO oR bS) [0, 1, 2, 3, 4, 5, 6, 7, 8, 9, 10, 11, 12, 13, 14] rfl
    have hDc := hD.sub (ws' := wM hm cI cZ xt (nI nF) (nI nC) xg (fun c => nI (pl c)) (fun c => nI (cf c)) (fun c => nI (ct c)) aK bF bL bB bA bY bR oT oO oR bS) [0, 1, 2, 3, 4, 5, 6, 7, 8, 9, 10, 11, 12, 13, 14] (by decide) rfl
    have hKc := hK.sub (tys' := tyM cI cZ) [0, 1] rfl
    have hFc := va_free (wc := wM hm cI cZ xt (nI nF) (nI nC) xg (fun c => nI (pl c)) (fun c => nI (cf c)) (fun c => nI (ct c)) aK bF bL bB bA bY bR oT oO oR bS) hD hS hA [0, 1, 2, 3, 4, 5, 6, 7, 8, 9, 10, 11, 12, 13, 14] rfl
    refine va_calli (va_runV (As := [.int (xs (4 * t9 + 1)), .int (xs (4 * t9 + 2)), .int (xs (4 * t9 + 3))]) (rest := []) ⟨hx, hb, hml, hown, hts⟩ (m_call l dC dI cI cZ hm H.size xt xg aK bF bL bB bA bY bR oT oO oR bS nF nC pl cf ct (xs (4 * t9 + 1)) (xs (4 * t9 + 2)) (xs (4 * t9 + 3)) (hF) (hC) (hS0) (hpl)) (cwV 3 hts gl_55 rfl rfl rfl (by decide +kernel) ⟨Nat.le_of_ble_eq_true rfl, Nat.le_of_ble_eq_true rfl⟩) ⟨fun a U g mk q => by obtain ⟨q0, q1, qP, qK, qD⟩ := q; exact ⟨q0, q1, qP, va_K.moved (u := U) (U := U.calling g mk a) (Vm.Alike.refl U.vm) qK, qD⟩, va_recv hK hP (ci := 0) (q0 := 0) rfl rfl, fun U hU hW => ⟨rfl, by rw [hU], by rw [hU]; exact hPc, va_K.moved hW.alike hKc, hDc.weaken (fun _ _ _ _ => trivial)⟩⟩ rfl rfl hl.1 rfl (lv_room (Nat.le_of_ble_eq_true rfl)) d_L_law_176 ⟨hce, hsl⟩) hS (fun q _ h => hFc q h) hFc (fun r27 u9 t H1 locs ht hvm hw hB hz1 hk1 hS => ?_)
    obtain ⟨xt9, xc9, aF8, aT8, aK8⟩ := u9
    obtain ⟨hP1, hK1, hD1⟩ := hB
    rw [ht] at hP1
    try dsimp only at hw hP1 hD1
    obtain ⟨hP, hD⟩ := va_join (wr := ((ho, .inl (cJ, 1, .inr (.inl fo9))) :: wC hc cI (nI nF) (nI nC) yn yt (nI ga) ym (fun c => nI (pl c)) (fun c => nI (cf c)) (fun c => nI (ct c)) aK eB eE eA eL eN eC eS eW eT)) (w1 := wM hm cI cZ xt9 (nI nF) xc9 xg (fun c => nI (pl c)) aF8 aT8 aK8 bF bL bB bA bY bR oT oO oR bS) hP hD [0, 1, 2, 3, 4, 5, 6, 7, 8, 9, 10, 11, 12, 13, 14] [15, 16, 17, 18, 19, 20, 21, 22, 23, 24, 25, 26, 27, 28, 29, 30, 31, 32] rfl rfl (by decide) (by decide) hk1 hFc hP1 hD1
    generalize H1 = H at hP hS ⊢
    have hP := hP.sub (ws' := (wM hm cI cZ xt9 (nI nF) xc9 xg (fun c => nI (pl c)) aF8 aT8 aK8 bF bL bB bA bY bR oT oO oR bS ++ ((ho, .inl (cJ, 1, .inr (.inl fo9))) :: wC hc cI (nI nF) (nI nC) yn yt (nI ga) ym (fun c => nI (pl c)) (fun c => nI (cf c)) (fun c => nI (ct c)) aK eB eE eA eL eN eC eS eW eT))) [18, 19, 20, 21, 22, 23, 24, 25, 26, 27, 28, 29, 30, 31, 32, 0, 1, 2, 3, 4, 5, 6, 7, 8, 9, 10, 11, 12, 13, 14, 15, 16, 17] rfl
    have hD := hD.sub (ws' := (wM hm cI cZ xt9 (nI nF) xc9 xg (fun c => nI (pl c)) aF8 aT8 aK8 bF bL bB bA bY bR oT oO oR bS ++ ((ho, .inl (cJ, 1, .inr (.inl fo9))) :: wC hc cI (nI nF) (nI nC) yn yt (nI ga) ym (fun c => nI (pl c)) (fun c => nI (cf c)) (fun c => nI (ct c)) aK eB eE eA eL eN eC eS eW eT))) [18, 19, 20, 21, 22, 23, 24, 25, 26, 27, 28, 29, 30, 31, 32, 0, 1, 2, 3, 4, 5, 6, 7, 8, 9, 10, 11, 12, 13, 14, 15, 16, 17] (by decide) rfl
    rcases hw with ⟨hb2, hu1, hu2, hu3, hu4, hu5⟩ | ⟨hb2, hn2, hu1, hu2, hu3, hu4, hu5⟩ | ⟨i2, j2, hi2, hj2, hf2, hg2, hn2, hu1, hu2, hu3, hu4, hu5, hr9⟩
    · first | omega | exact absurd ⟨⟨i, hi, hfi⟩, ⟨j, hj, hgj⟩⟩ hb2 | exact absurd hb2 hb9 | exact absurd ⟨⟨i2, hi2, hf2⟩, ⟨j2, hj2, hg2⟩⟩ hb9
    · subst hu1
      subst hu2
      subst hu3
      subst hu4
      have hu5 := hu5.symm
      subst hu5
      refine lv_istore (lv' := [(6, .int r27), (5, .int (nI 2)), (4, .int (nI (4 * t9))), (3, .ref ho), (2, .ref (hm 0)), (1, .ref (hc 0)), (0, .ref b)]) hx hb d_L_law_179 hl (by decide) rfl (fun ls hl => ?_)
      refine lv_goto (tgt := 613) hx hb d_L_law_181 (by decide) ?_
      exact next H locs ls ⟨_, _, _, _, _, _, _, _, _, _, _, _, _, _, _, _, _, _, _, _, _, _, _, _, _, _, _, _, _, _, _, _, ⟨hF, hC, hS0, hpl, hcl, fun h9 => absurd h9 (Nat.succ_ne_zero _)⟩, hga, hP, hD, hS⟩ (lv_sub hl [2, 3, 4, 5, 6] rfl)
    · first | omega | exact absurd ⟨⟨i, hi, hfi⟩, ⟨j, hj, hgj⟩⟩ hb2 | exact absurd hb2 hb9 | exact absurd ⟨⟨i2, hi2, hf2⟩, ⟨j2, hj2, hg2⟩⟩ hb9
set_option maxHeartbeats 4000000 in
set_option maxRecDepth 100000 in
theorem law_graphs {p : Program} {l : Launch} {e : Env} {s : State} {m : MethodId} {below : List Frame} {meth : Method} {c : Code} {b L : Nat} {xs : Nat → Int32} (hst : l.stackTraces = false) (hx : p.tables.exec = Jvm.exec) (hb : c.code = code) (hr : meth.sig.returnType = ret) (hml : c.maxLocals = 7) (hown : s.vm.findClass R_L = some m.cls) (hts : ∀ w ∈ lw_tbl, w.before #[Value.ref b] s = true) (hX : va_X b L xs s s.heap) (hbl : b < s.heap.size) (dC : Nat → ClassId) (dI : Nat → Nat → Nat) (cI cZ cJ : ClassId) (hm hc : Nat → Nat) (ho K : Nat) (hK8 : 801 ≤ K) (sa : Nat → Nat) (A : Nat → Prop) (hA : ∀ q : Nat, s.heap.size ≤ q → A q) (hbA : ¬ A b) (hK : va_K (dC, dI) kls (tyL cI cZ cJ) s) (hT : xT sa s) (hC9 : xC s) (hZ : xZ A s s.heap) {Q : State → Prop} {t9 : Nat} (hL : 4 * t9 + 3 < L) (hL2 : L ≤ 2048) {H : Heap} {locs : List Loc} {ls : Array Slot} (hJ : lwJ dC dI cI cZ cJ hm hc ho K A s.heap t9 H locs) (hl : lv_has ls 7 [(4, .int (nI (4 * t9))), (3, .ref ho), (2, .ref (hm 0)), (1, .ref (hc 0)), (0, .ref b)]) (next : ∀ (H : Heap) (locs : List Loc) (ls : Array Slot), lwJ dC dI cI cZ cJ hm hc ho K A s.heap (t9 + 1) H locs → lv_has ls 7 [(4, .int (nI (4 * t9))), (3, .ref ho), (2, .ref (hm 0)), (1, .ref (hc 0)), (0, .ref b)] → W p l e room_1 s m #[Value.ref b] below meth c H locs (33 + (t9 + 1)) (10097 + 6 * (t9 + 1)) Q (F0 m 613 ls [])) : W p l e room_1 s m #[Value.ref b] below meth c H locs (33 + t9) (10097 + 6 * t9) Q (F0 m 234 ls []) := by
  obtain ⟨nF, nC, pl, cf, ct, aK, xt, xg, bF, bL, bB, bA, bY, bR, oT, oO, oR, bS, fo, yn, yt, ym, ga, eB, eE, eA, eL, eN, eC, eS, eW, eT, ⟨hF, hC, hS0, hpl, hcl, hz0⟩, hga, hP, hD, hS⟩ := hJ
  have hk := hts
  have hce1 : (33 + t9) + 1 ≤ room_1.cells := by show (33 + t9) + 1 ≤ 1066; omega
  have hsl1 : (10097 + 6 * t9) + 6 ≤ room_1.slots := by show (10097 + 6 * t9) + 6 ≤ 18343; omega
  have hce : 33 + (t9 + 1) + 0 ≤ room_1.cells := by show 33 + (t9 + 1) + 0 ≤ 1066; omega
  have hsl : 10097 + 6 * (t9 + 1) + 0 ≤ room_1.slots := by show 10097 + 6 * (t9 + 1) + 0 ≤ 18343; omega
  refine lv_aload_n hx hb d_L_law_234 rfl (lv_at hl 3 rfl) ?_
  refine lv_aload_n hx hb d_L_law_235 rfl (lv_at hl 4 rfl) ?_
  refine lv_iload hx hb d_L_law_236 (lv_at hl 0 rfl) ?_
  refine lv_iconst (v := nI 1) hx hb d_L_law_238 (by decide +kernel) ?_
  refine lv_iadd hx hb d_L_law_239 ?_
  refine lv_topi (fun z1 ez1 => ?_)
  obtain rfl : z1 = nI (4 * t9 + 1) := ez1.trans (nI_add _ _)
  refine va_sld hx hb hX hbl hbA hS (pk_in (4 * t9 + 1) L (by omega)) d_L_law_240 ?_
  refine lv_topi (fun z2 ez2 => ?_)
  obtain rfl : z2 = xs (4 * t9 + 1) := ez2.trans (congrArg xs (nI_clamp (by omega)))
  refine lv_aload_n hx hb d_L_law_241 rfl (lv_at hl 4 rfl) ?_
  refine lv_iload hx hb d_L_law_242 (lv_at hl 0 rfl) ?_
  refine lv_iconst (v := nI 2) hx hb d_L_law_244 (by decide +kernel) ?_
  refine lv_iadd hx hb d_L_law_245 ?_
  refine lv_topi (fun z3 ez3 => ?_)
  obtain rfl : z3 = nI (4 * t9 + 2) := ez3.trans (nI_add _ _)
  refine va_sld hx hb hX hbl hbA hS (pk_in (4 * t9 + 2) L (by omega)) d_L_law_246 ?_
  refine lv_topi (fun z4 ez4 => ?_)
  obtain rfl : z4 = xs (4 * t9 + 2) := ez4.trans (congrArg xs (nI_clamp (by omega)))
  refine lv_aload_n hx hb d_L_law_247 rfl (lv_at hl 1 rfl) ?_
  have hPc := hP.sub (ws' := ((ho, .inl (cJ, 1, .inr (.inl fo))) :: wC hc cI (nI nF) (nI nC) yn yt (nI ga) ym (fun c => nI (pl c)) (fun c => nI (cf c)) (fun c => nI (ct c)) aK eB eE eA eL eN eC eS eW eT)) [15, 16, 17, 18, 19, 20, 21, 22, 23, 24, 25, 26, 27, 28, 29, 30, 31, 32] rfl
  have hDc := hD.sub (ws' := ((ho, .inl (cJ, 1, .inr (.inl fo))) :: wC hc cI (nI nF) (nI nC) yn yt (nI ga) ym (fun c => nI (pl c)) (fun c => nI (cf c)) (fun c => nI (ct c)) aK eB eE eA eL eN eC eS eW eT)) [15, 16, 17, 18, 19, 20, 21, 22, 23, 24, 25, 26, 27, 28, 29, 30, 31, 32] (by decide) rfl
  have hKc := hK.sub (tys' := tyH cI cJ) [0, 2] rfl
  have hFc := va_free (wc := ((ho, .inl (cJ, 1, .inr (.inl fo))) :: wC hc cI (nI nF) (nI nC) yn yt (nI ga) ym (fun c => nI (pl c)) (fun c => nI (cf c)) (fun c => nI (ct c)) aK eB eE eA eL eN eC eS eW eT)) hD hS hA [15, 16, 17, 18, 19, 20, 21, 22, 23, 24, 25, 26, 27, 28, 29, 30, 31, 32] rfl
  refine vx_calli (vx_runSX (hh := hh_L_graphs) (As := [.ref (hc 0), .int (xs (4 * t9 + 1)), .int (xs (4 * t9 + 2)), .ref ho]) (rest := []) ⟨hx, hb, hml, hown, hts⟩ (c_L_graphs_ok l hst dC dI cI cJ hc ho H.size fo yn yt ym aK eB eE eA eL eN eC eS eW eT nF nC pl cf ct K ga (xs (4 * t9 + 1)) (xs (4 * t9 + 2)) sa (hF) (hC) (hS0) (hpl) (hK8) (hcl) (hga)) (vx_cwSW 4 hts gl_65 rfl rfl rfl (by decide +kernel) ⟨Nat.le_of_ble_eq_true rfl, Nat.le_of_ble_eq_true rfl⟩) ⟨fun a U g mk q => by obtain ⟨q0, q1, qP, qK, qD, qT, qC, qZ⟩ := q; exact ⟨q0, q1, qP, va_K.moved (u := U) (U := U.calling g mk a) (Vm.Alike.refl U.vm) qK, qD, xT.same rfl qT, xC.moved (u := U) (U := U.calling g mk a) (Vm.Alike.refl U.vm) qC, xZ.blind (u := U) (U := U.calling g mk a) (Vm.Alike.refl U.vm) qZ⟩, fun U hU hW => ⟨rfl, by rw [hU], by rw [hU]; exact hPc, va_K.moved hW.alike hKc, hDc.weaken (fun _ _ _ _ => trivial), xT.warm hW hT, xC.moved hW.alike hC9, xZ.here hZ hS hFc hW.alike hU⟩⟩ rfl rfl hl.1 rfl (lv_room (Nat.le_of_ble_eq_true rfl)) d_L_law_248 ⟨hce1, hsl1⟩) hS (fun q _ h => hFc q h) hFc (fun q _ h => hFc q h) (fun E ce q9 u9 t H1 locs ht hvm hf9 => hf9.elim) (fun r1 u9 t H1 locs ht hvm hw hB hz1 hk1 hS => ?_)
  obtain ⟨fo9, yn9, yt9, yg9, eB9, eE9, eA9, eL9, eN9, eC9, eS9, eW9⟩ := u9
  obtain ⟨hP1, hK1, hD1⟩ := hB
  rw [ht] at hP1
  try dsimp only at hw hP1 hD1
  obtain ⟨hP, hD⟩ := va_join (wr := wM hm cI cZ xt (nI nF) (nI nC) xg (fun c => nI (pl c)) (fun c => nI (cf c)) (fun c => nI (ct c)) aK bF bL bB bA bY bR oT oO oR bS) (w1 := ((ho, .inl (cJ, 1, .inr (.inl fo9))) :: wC hc cI (nI nF) (nI nC) yn9 yt9 yg9 ym (fun c => nI (pl c)) (fun c => nI (cf c)) (fun c => nI (ct c)) aK eB9 eE9 eA9 eL9 eN9 eC9 eS9 eW9 eT)) hP hD [15, 16, 17, 18, 19, 20, 21, 22, 23, 24, 25, 26, 27, 28, 29, 30, 31, 32] [0, 1, 2, 3, 4, 5, 6, 7, 8, 9, 10, 11, 12, 13, 14] rfl rfl (by decide) (by decide) hk1 hFc hP1 hD1
  generalize H1 = H at hP hS ⊢
  have hP : va_P (dC, dI) kls (wM hm cI cZ xt (nI nF) (nI nC) xg (fun c => nI (pl c)) (fun c => nI (cf c)) (fun c => nI (ct c)) aK bF bL bB bA bY bR oT oO oR bS ++ ((ho, .inl (cJ, 1, .inr (.inl fo9))) :: wC hc cI (nI nF) (nI nC) yn9 yt9 yg9 ym (fun c => nI (pl c)) (fun c => nI (cf c)) (fun c => nI (ct c)) aK eB9 eE9 eA9 eL9 eN9 eC9 eS9 eW9 eT)) H := hP
  have hD : va_D A (wM hm cI cZ xt (nI nF) (nI nC) xg (fun c => nI (pl c)) (fun c => nI (cf c)) (fun c => nI (ct c)) aK bF bL bB bA bY bR oT oO oR bS ++ ((ho, .inl (cJ, 1, .inr (.inl fo9))) :: wC hc cI (nI nF) (nI nC) yn9 yt9 yg9 ym (fun c => nI (pl c)) (fun c => nI (cf c)) (fun c => nI (ct c)) aK eB9 eE9 eA9 eL9 eN9 eC9 eS9 eW9 eT)) := hD
  refine W.widen (k := 33 + (t9 + 1)) (n := 10097 + 6 * (t9 + 1)) (by omega) (by omega) ?_
  have hfit := few_iff (nF := nF) nC cf ct aK K hcl hK8 (fun c hc => (hS0 c hc).1)
  rcases hw with ⟨i, j, hi, hj, hfi, hgj, hfew, hr9, hout, hg1, hGI⟩ | ⟨hb9, hr9, hout, hu9⟩ | ⟨i, j, hi, hj, hfi, hgj, hmany, hr9, hg1, hGI⟩
  · subst hr9
    subst hg1
    refine lv_istore (lv' := [(5, .int (nI 0)), (4, .int (nI (4 * t9))), (3, .ref ho), (2, .ref (hm 0)), (1, .ref (hc 0)), (0, .ref b)]) hx hb d_L_law_251 hl (by decide) rfl (fun ls hl => ?_)
    refine lv_aload_n hx hb d_L_law_253 rfl (lv_at hl 3 rfl) ?_
    refine lv_aload_n hx hb d_L_law_254 rfl (lv_at hl 5 rfl) ?_
    refine lv_iload hx hb d_L_law_255 (lv_at hl 1 rfl) ?_
    refine lv_iconst (v := nI 1) hx hb d_L_law_257 (by decide +kernel) ?_
    refine lv_iadd hx hb d_L_law_258 ?_
    refine lv_topi (fun z5 ez5 => ?_)
    obtain rfl : z5 = nI (4 * t9 + 1) := ez5.trans (nI_add _ _)
    refine va_sld hx hb hX hbl hbA hS (pk_in (4 * t9 + 1) L (by omega)) d_L_law_259 ?_
    refine lv_topi (fun z6 ez6 => ?_)
    obtain rfl : z6 = xs (4 * t9 + 1) := ez6.trans (congrArg xs (nI_clamp (by omega)))
    refine lv_aload_n hx hb d_L_law_260 rfl (lv_at hl 5 rfl) ?_
    refine lv_iload hx hb d_L_law_261 (lv_at hl 1 rfl) ?_
    refine lv_iconst (v := nI 2) hx hb d_L_law_263 (by decide +kernel) ?_
    refine lv_iadd hx hb d_L_law_264 ?_
    refine lv_topi (fun z7 ez7 => ?_)
    obtain rfl : z7 = nI (4 * t9 + 2) := ez7.trans (nI_add _ _)
    refine va_sld hx hb hX hbl hbA hS (pk_in (4 * t9 + 2) L (by omega)) d_L_law_265 ?_
    refine lv_topi (fun z8 ez8 => ?_)
    obtain rfl : z8 = xs (4 * t9 + 2) := ez8.trans (congrArg xs (nI_clamp (by omega)))
    have hPc := hP.sub (ws' := wM hm cI cZ xt (nI nF) (nI nC) xg (fun c => nI (pl c)) (fun c => nI (cf c)) (fun c => nI (ct c)) aK bF bL bB bA bY bR oT oO oR bS) [0, 1, 2, 3, 4, 5, 6, 7, 8, 9, 10, 11, 12, 13, 14] rfl
    have hDc := hD.sub (ws' := wM hm cI cZ xt (nI nF) (nI nC) xg (fun c => nI (pl c)) (fun c => nI (cf c)) (fun c => nI (ct c)) aK bF bL bB bA bY bR oT oO oR bS) [0, 1, 2, 3, 4, 5, 6, 7, 8, 9, 10, 11, 12, 13, 14] (by decide) rfl
    have hKc := hK.sub (tys' := tyM cI cZ) [0, 1] rfl
    have hFc := va_free (wc := wM hm cI cZ xt (nI nF) (nI nC) xg (fun c => nI (pl c)) (fun c => nI (cf c)) (fun c => nI (ct c)) aK bF bL bB bA bY bR oT oO oR bS) hD hS hA [0, 1, 2, 3, 4, 5, 6, 7, 8, 9, 10, 11, 12, 13, 14] rfl
    refine va_calli (va_runV (As := [.int (xs (4 * t9 + 1)), .int (xs (4 * t9 + 2))]) (rest := []) ⟨hx, hb, hml, hown, hts⟩ (m_graphs l dC dI cI cZ hm H.size xt xg (fun c => nI (pl c)) aK bF bL bB bA bY bR oT oO oR bS nF nC K cf ct (xs (4 * t9 + 1)) (xs (4 * t9 + 2)) (hF) (hC) (hK8) (hS0)) (cwV 2 hts gl_68 rfl rfl rfl (by decide +kernel) ⟨Nat.le_of_ble_eq_true rfl, Nat.le_of_ble_eq_true rfl⟩) ⟨fun a U g mk q => by obtain ⟨q0, q1, qP, qK, qD⟩ := q; exact ⟨q0, q1, qP, va_K.moved (u := U) (U := U.calling g mk a) (Vm.Alike.refl U.vm) qK, qD⟩, va_recv hK hP (ci := 0) (q0 := 0) rfl rfl, fun U hU hW => ⟨rfl, by rw [hU], by rw [hU]; exact hPc, va_K.moved hW.alike hKc, hDc.weaken (fun _ _ _ _ => trivial)⟩⟩ rfl rfl hl.1 rfl (lv_room (Nat.le_of_ble_eq_true rfl)) d_L_law_266 ⟨hce, hsl⟩) hS (fun q _ h => hFc q h) hFc (fun r9 u9 t H1 locs ht hvm hw hB hz1 hk1 hS => ?_)
    obtain ⟨xt9, xg9, bF9, bL9, bB9, bA9, bY9⟩ := u9
    obtain ⟨hP1, hK1, hD1⟩ := hB
    rw [ht] at hP1
    try dsimp only at hw hP1 hD1
    obtain ⟨hP, hD⟩ := va_join (wr := ((ho, .inl (cJ, 1, .inr (.inl fo9))) :: wC hc cI (nI nF) (nI nC) yn9 yt9 (nI 1) ym (fun c => nI (pl c)) (fun c => nI (cf c)) (fun c => nI (ct c)) aK eB9 eE9 eA9 eL9 eN9 eC9 eS9 eW9 eT)) (w1 := wM hm cI cZ xt9 (nI nF) (nI nC) xg9 (fun c => nI (pl c)) (fun c => nI (cf c)) (fun c => nI (ct c)) aK bF9 bL9 bB9 bA9 bY9 bR oT oO oR bS) hP hD [0, 1, 2, 3, 4, 5, 6, 7, 8, 9, 10, 11, 12, 13, 14] [15, 16, 17, 18, 19, 20, 21, 22, 23, 24, 25, 26, 27, 28, 29, 30, 31, 32] rfl rfl (by decide) (by decide) hk1 hFc hP1 hD1
    generalize H1 = H at hP hS ⊢
    have hP := hP.sub (ws' := (wM hm cI cZ xt9 (nI nF) (nI nC) xg9 (fun c => nI (pl c)) (fun c => nI (cf c)) (fun c => nI (ct c)) aK bF9 bL9 bB9 bA9 bY9 bR oT oO oR bS ++ ((ho, .inl (cJ, 1, .inr (.inl fo9))) :: wC hc cI (nI nF) (nI nC) yn9 yt9 (nI 1) ym (fun c => nI (pl c)) (fun c => nI (cf c)) (fun c => nI (ct c)) aK eB9 eE9 eA9 eL9 eN9 eC9 eS9 eW9 eT))) [18, 19, 20, 21, 22, 23, 24, 25, 26, 27, 28, 29, 30, 31, 32, 0, 1, 2, 3, 4, 5, 6, 7, 8, 9, 10, 11, 12, 13, 14, 15, 16, 17] rfl
    have hD := hD.sub (ws' := (wM hm cI cZ xt9 (nI nF) (nI nC) xg9 (fun c => nI (pl c)) (fun c => nI (cf c)) (fun c => nI (ct c)) aK bF9 bL9 bB9 bA9 bY9 bR oT oO oR bS ++ ((ho, .inl (cJ, 1, .inr (.inl fo9))) :: wC hc cI (nI nF) (nI nC) yn9 yt9 (nI 1) ym (fun c => nI (pl c)) (fun c => nI (cf c)) (fun c => nI (ct c)) aK eB9 eE9 eA9 eL9 eN9 eC9 eS9 eW9 eT))) [18, 19, 20, 21, 22, 23, 24, 25, 26, 27, 28, 29, 30, 31, 32, 0, 1, 2, 3, 4, 5, 6, 7, 8, 9, 10, 11, 12, 13, 14, 15, 16, 17] (by decide) rfl
    clear hw hP1 hK1 hD1 hPc hDc hKc hFc hk1 hz1 hvm ht
    refine lv_istore (lv' := [(6, .int r9), (5, .int (nI 0)), (4, .int (nI (4 * t9))), (3, .ref ho), (2, .ref (hm 0)), (1, .ref (hc 0)), (0, .ref b)]) hx hb d_L_law_269 hl (by decide) rfl (fun ls hl => ?_)
    refine lv_goto (tgt := 613) hx hb d_L_law_271 (by decide) ?_
    exact next H locs ls ⟨nF, nC, pl, cf, ct, aK, _, _, _, _, _, _, _, _, _, _, _, _, _, _, _, _, 1, _, _, _, _, _, _, _, _, _, ⟨hF, hC, hS0, hpl, hcl, fun h9 => absurd h9 (Nat.succ_ne_zero _)⟩, Or.inr ⟨rfl, hGI⟩, hP, hD, hS⟩ (lv_sub hl [2, 3, 4, 5, 6] rfl)
  · subst hr9
    cases hu9
    refine lv_istore (lv' := [(5, .int (nI 0)), (4, .int (nI (4 * t9))), (3, .ref ho), (2, .ref (hm 0)), (1, .ref (hc 0)), (0, .ref b)]) hx hb d_L_law_251 hl (by decide) rfl (fun ls hl => ?_)
    refine lv_aload_n hx hb d_L_law_253 rfl (lv_at hl 3 rfl) ?_
    refine lv_aload_n hx hb d_L_law_254 rfl (lv_at hl 5 rfl) ?_
    refine lv_iload hx hb d_L_law_255 (lv_at hl 1 rfl) ?_
    refine lv_iconst (v := nI 1) hx hb d_L_law_257 (by decide +kernel) ?_
    refine lv_iadd hx hb d_L_law_258 ?_
    refine lv_topi (fun z10 ez10 => ?_)
    obtain rfl : z10 = nI (4 * t9 + 1) := ez10.trans (nI_add _ _)
    refine va_sld hx hb hX hbl hbA hS (pk_in (4 * t9 + 1) L (by omega)) d_L_law_259 ?_
    refine lv_topi (fun z11 ez11 => ?_)
    obtain rfl : z11 = xs (4 * t9 + 1) := ez11.trans (congrArg xs (nI_clamp (by omega)))
    refine lv_aload_n hx hb d_L_law_260 rfl (lv_at hl 5 rfl) ?_
    refine lv_iload hx hb d_L_law_261 (lv_at hl 1 rfl) ?_
    refine lv_iconst (v := nI 2) hx hb d_L_law_263 (by decide +kernel) ?_
    refine lv_iadd hx hb d_L_law_264 ?_
    refine lv_topi (fun z12 ez12 => ?_)
    obtain rfl : z12 = nI (4 * t9 + 2) := ez12.trans (nI_add _ _)
    refine va_sld hx hb hX hbl hbA hS (pk_in (4 * t9 + 2) L (by omega)) d_L_law_265 ?_
    refine lv_topi (fun z13 ez13 => ?_)
    obtain rfl : z13 = xs (4 * t9 + 2) := ez13.trans (congrArg xs (nI_clamp (by omega)))
    have hPc := hP.sub (ws' := wM hm cI cZ xt (nI nF) (nI nC) xg (fun c => nI (pl c)) (fun c => nI (cf c)) (fun c => nI (ct c)) aK bF bL bB bA bY bR oT oO oR bS) [0, 1, 2, 3, 4, 5, 6, 7, 8, 9, 10, 11, 12, 13, 14] rfl
    have hDc := hD.sub (ws' := wM hm cI cZ xt (nI nF) (nI nC) xg (fun c => nI (pl c)) (fun c => nI (cf c)) (fun c => nI (ct c)) aK bF bL bB bA bY bR oT oO oR bS) [0, 1, 2, 3, 4, 5, 6, 7, 8, 9, 10, 11, 12, 13, 14] (by decide) rfl
    have hKc := hK.sub (tys' := tyM cI cZ) [0, 1] rfl
    have hFc := va_free (wc := wM hm cI cZ xt (nI nF) (nI nC) xg (fun c => nI (pl c)) (fun c => nI (cf c)) (fun c => nI (ct c)) aK bF bL bB bA bY bR oT oO oR bS) hD hS hA [0, 1, 2, 3, 4, 5, 6, 7, 8, 9, 10, 11, 12, 13, 14] rfl
    refine va_calli (va_runV (As := [.int (xs (4 * t9 + 1)), .int (xs (4 * t9 + 2))]) (rest := []) ⟨hx, hb, hml, hown, hts⟩ (m_graphs l dC dI cI cZ hm H.size xt xg (fun c => nI (pl c)) aK bF bL bB bA bY bR oT oO oR bS nF nC K cf ct (xs (4 * t9 + 1)) (xs (4 * t9 + 2)) (hF) (hC) (hK8) (hS0)) (cwV 2 hts gl_68 rfl rfl rfl (by decide +kernel) ⟨Nat.le_of_ble_eq_true rfl, Nat.le_of_ble_eq_true rfl⟩) ⟨fun a U g mk q => by obtain ⟨q0, q1, qP, qK, qD⟩ := q; exact ⟨q0, q1, qP, va_K.moved (u := U) (U := U.calling g mk a) (Vm.Alike.refl U.vm) qK, qD⟩, va_recv hK hP (ci := 0) (q0 := 0) rfl rfl, fun U hU hW => ⟨rfl, by rw [hU], by rw [hU]; exact hPc, va_K.moved hW.alike hKc, hDc.weaken (fun _ _ _ _ => trivial)⟩⟩ rfl rfl hl.1 rfl (lv_room (Nat.le_of_ble_eq_true rfl)) d_L_law_266 ⟨hce, hsl⟩) hS (fun q _ h => hFc q h) hFc (fun r14 u9 t H1 locs ht hvm hw hB hz1 hk1 hS => ?_)
    obtain ⟨xt9, xg9, bF9, bL9, bB9, bA9, bY9⟩ := u9
    obtain ⟨hP1, hK1, hD1⟩ := hB
    rw [ht] at hP1
    try dsimp only at hw hP1 hD1
    obtain ⟨hP, hD⟩ := va_join (wr := ((ho, .inl (cJ, 1, .inr (.inl fo9))) :: wC hc cI (nI nF) (nI nC) yn yt (nI ga) ym (fun c => nI (pl c)) (fun c => nI (cf c)) (fun c => nI (ct c)) aK eB eE eA eL eN eC eS eW eT)) (w1 := wM hm cI cZ xt9 (nI nF) (nI nC) xg9 (fun c => nI (pl c)) (fun c => nI (cf c)) (fun c => nI (ct c)) aK bF9 bL9 bB9 bA9 bY9 bR oT oO oR bS) hP hD [0, 1, 2, 3, 4, 5, 6, 7, 8, 9, 10, 11, 12, 13, 14] [15, 16, 17, 18, 19, 20, 21, 22, 23, 24, 25, 26, 27, 28, 29, 30, 31, 32] rfl rfl (by decide) (by decide) hk1 hFc hP1 hD1
    generalize H1 = H at hP hS ⊢
    have hP := hP.sub (ws' := (wM hm cI cZ xt9 (nI nF) (nI nC) xg9 (fun c => nI (pl c)) (fun c => nI (cf c)) (fun c => nI (ct c)) aK bF9 bL9 bB9 bA9 bY9 bR oT oO oR bS ++ ((ho, .inl (cJ, 1, .inr (.inl fo9))) :: wC hc cI (nI nF) (nI nC) yn yt (nI ga) ym (fun c => nI (pl c)) (fun c => nI (cf c)) (fun c => nI (ct c)) aK eB eE eA eL eN eC eS eW eT))) [18, 19, 20, 21, 22, 23, 24, 25, 26, 27, 28, 29, 30, 31, 32, 0, 1, 2, 3, 4, 5, 6, 7, 8, 9, 10, 11, 12, 13, 14, 15, 16, 17] rfl
    have hD := hD.sub (ws' := (wM hm cI cZ xt9 (nI nF) (nI nC) xg9 (fun c => nI (pl c)) (fun c => nI (cf c)) (fun c => nI (ct c)) aK bF9 bL9 bB9 bA9 bY9 bR oT oO oR bS ++ ((ho, .inl (cJ, 1, .inr (.inl fo9))) :: wC hc cI (nI nF) (nI nC) yn yt (nI ga) ym (fun c => nI (pl c)) (fun c => nI (cf c)) (fun c => nI (ct c)) aK eB eE eA eL eN eC eS eW eT))) [18, 19, 20, 21, 22, 23, 24, 25, 26, 27, 28, 29, 30, 31, 32, 0, 1, 2, 3, 4, 5, 6, 7, 8, 9, 10, 11, 12, 13, 14, 15, 16, 17] (by decide) rfl
    clear hw hP1 hK1 hD1 hPc hDc hKc hFc hk1 hz1 hvm ht
    refine lv_istore (lv' := [(6, .int r14), (5, .int (nI 0)), (4, .int (nI (4 * t9))), (3, .ref ho), (2, .ref (hm 0)), (1, .ref (hc 0)), (0, .ref b)]) hx hb d_L_law_269 hl (by decide) rfl (fun ls hl => ?_)
    refine lv_goto (tgt := 613) hx hb d_L_law_271 (by decide) ?_
    exact next H locs ls ⟨_, _, _, _, _, _, _, _, _, _, _, _, _, _, _, _, _, _, _, _, _, _, _, _, _, _, _, _, _, _, _, _, ⟨hF, hC, hS0, hpl, hcl, fun h9 => absurd h9 (Nat.succ_ne_zero _)⟩, hga, hP, hD, hS⟩ (lv_sub hl [2, 3, 4, 5, 6] rfl)
  · subst hr9
    subst hg1
    refine lv_istore (lv' := [(5, .int (nI 1)), (4, .int (nI (4 * t9))), (3, .ref ho), (2, .ref (hm 0)), (1, .ref (hc 0)), (0, .ref b)]) hx hb d_L_law_251 hl (by decide) rfl (fun ls hl => ?_)
    refine lv_aload_n hx hb d_L_law_253 rfl (lv_at hl 3 rfl) ?_
    refine lv_aload_n hx hb d_L_law_254 rfl (lv_at hl 5 rfl) ?_
    refine lv_iload hx hb d_L_law_255 (lv_at hl 1 rfl) ?_
    refine lv_iconst (v := nI 1) hx hb d_L_law_257 (by decide +kernel) ?_
    refine lv_iadd hx hb d_L_law_258 ?_
    refine lv_topi (fun z15 ez15 => ?_)
    obtain rfl : z15 = nI (4 * t9 + 1) := ez15.trans (nI_add _ _)
    refine va_sld hx hb hX hbl hbA hS (pk_in (4 * t9 + 1) L (by omega)) d_L_law_259 ?_
    refine lv_topi (fun z16 ez16 => ?_)
    obtain rfl : z16 = xs (4 * t9 + 1) := ez16.trans (congrArg xs (nI_clamp (by omega)))
    refine lv_aload_n hx hb d_L_law_260 rfl (lv_at hl 5 rfl) ?_
    refine lv_iload hx hb d_L_law_261 (lv_at hl 1 rfl) ?_
    refine lv_iconst (v := nI 2) hx hb d_L_law_263 (by decide +kernel) ?_
    refine lv_iadd hx hb d_L_law_264 ?_
    refine lv_topi (fun z17 ez17 => ?_)
    obtain rfl : z17 = nI (4 * t9 + 2) := ez17.trans (nI_add _ _)
    refine va_sld hx hb hX hbl hbA hS (pk_in (4 * t9 + 2) L (by omega)) d_L_law_265 ?_
    refine lv_topi (fun z18 ez18 => ?_)
    obtain rfl : z18 = xs (4 * t9 + 2) := ez18.trans (congrArg xs (nI_clamp (by omega)))
    have hPc := hP.sub (ws' := wM hm cI cZ xt (nI nF) (nI nC) xg (fun c => nI (pl c)) (fun c => nI (cf c)) (fun c => nI (ct c)) aK bF bL bB bA bY bR oT oO oR bS) [0, 1, 2, 3, 4, 5, 6, 7, 8, 9, 10, 11, 12, 13, 14] rfl
    have hDc := hD.sub (ws' := wM hm cI cZ xt (nI nF) (nI nC) xg (fun c => nI (pl c)) (fun c => nI (cf c)) (fun c => nI (ct c)) aK bF bL bB bA bY bR oT oO oR bS) [0, 1, 2, 3, 4, 5, 6, 7, 8, 9, 10, 11, 12, 13, 14] (by decide) rfl
    have hKc := hK.sub (tys' := tyM cI cZ) [0, 1] rfl
    have hFc := va_free (wc := wM hm cI cZ xt (nI nF) (nI nC) xg (fun c => nI (pl c)) (fun c => nI (cf c)) (fun c => nI (ct c)) aK bF bL bB bA bY bR oT oO oR bS) hD hS hA [0, 1, 2, 3, 4, 5, 6, 7, 8, 9, 10, 11, 12, 13, 14] rfl
    refine va_calli (va_runV (As := [.int (xs (4 * t9 + 1)), .int (xs (4 * t9 + 2))]) (rest := []) ⟨hx, hb, hml, hown, hts⟩ (m_graphs l dC dI cI cZ hm H.size xt xg (fun c => nI (pl c)) aK bF bL bB bA bY bR oT oO oR bS nF nC K cf ct (xs (4 * t9 + 1)) (xs (4 * t9 + 2)) (hF) (hC) (hK8) (hS0)) (cwV 2 hts gl_68 rfl rfl rfl (by decide +kernel) ⟨Nat.le_of_ble_eq_true rfl, Nat.le_of_ble_eq_true rfl⟩) ⟨fun a U g mk q => by obtain ⟨q0, q1, qP, qK, qD⟩ := q; exact ⟨q0, q1, qP, va_K.moved (u := U) (U := U.calling g mk a) (Vm.Alike.refl U.vm) qK, qD⟩, va_recv hK hP (ci := 0) (q0 := 0) rfl rfl, fun U hU hW => ⟨rfl, by rw [hU], by rw [hU]; exact hPc, va_K.moved hW.alike hKc, hDc.weaken (fun _ _ _ _ => trivial)⟩⟩ rfl rfl hl.1 rfl (lv_room (Nat.le_of_ble_eq_true rfl)) d_L_law_266 ⟨hce, hsl⟩) hS (fun q _ h => hFc q h) hFc (fun r19 u9 t H1 locs ht hvm hw hB hz1 hk1 hS => ?_)
    obtain ⟨xt9, xg9, bF9, bL9, bB9, bA9, bY9⟩ := u9
    obtain ⟨hP1, hK1, hD1⟩ := hB
    rw [ht] at hP1
    try dsimp only at hw hP1 hD1
    obtain ⟨hP, hD⟩ := va_join (wr := ((ho, .inl (cJ, 1, .inr (.inl fo9))) :: wC hc cI (nI nF) (nI nC) yn9 yt9 (nI 1) ym (fun c => nI (pl c)) (fun c => nI (cf c)) (fun c => nI (ct c)) aK eB9 eE9 eA9 eL9 eN9 eC9 eS9 eW9 eT)) (w1 := wM hm cI cZ xt9 (nI nF) (nI nC) xg9 (fun c => nI (pl c)) (fun c => nI (cf c)) (fun c => nI (ct c)) aK bF9 bL9 bB9 bA9 bY9 bR oT oO oR bS) hP hD [0, 1, 2, 3, 4, 5, 6, 7, 8, 9, 10, 11, 12, 13, 14] [15, 16, 17, 18, 19, 20, 21, 22, 23, 24, 25, 26, 27, 28, 29, 30, 31, 32] rfl rfl (by decide) (by decide) hk1 hFc hP1 hD1
    generalize H1 = H at hP hS ⊢
    have hP := hP.sub (ws' := (wM hm cI cZ xt9 (nI nF) (nI nC) xg9 (fun c => nI (pl c)) (fun c => nI (cf c)) (fun c => nI (ct c)) aK bF9 bL9 bB9 bA9 bY9 bR oT oO oR bS ++ ((ho, .inl (cJ, 1, .inr (.inl fo9))) :: wC hc cI (nI nF) (nI nC) yn9 yt9 (nI 1) ym (fun c => nI (pl c)) (fun c => nI (cf c)) (fun c => nI (ct c)) aK eB9 eE9 eA9 eL9 eN9 eC9 eS9 eW9 eT))) [18, 19, 20, 21, 22, 23, 24, 25, 26, 27, 28, 29, 30, 31, 32, 0, 1, 2, 3, 4, 5, 6, 7, 8, 9, 10, 11, 12, 13, 14, 15, 16, 17] rfl
    have hD := hD.sub (ws' := (wM hm cI cZ xt9 (nI nF) (nI nC) xg9 (fun c => nI (pl c)) (fun c => nI (cf c)) (fun c => nI (ct c)) aK bF9 bL9 bB9 bA9 bY9 bR oT oO oR bS ++ ((ho, .inl (cJ, 1, .inr (.inl fo9))) :: wC hc cI (nI nF) (nI nC) yn9 yt9 (nI 1) ym (fun c => nI (pl c)) (fun c => nI (cf c)) (fun c => nI (ct c)) aK eB9 eE9 eA9 eL9 eN9 eC9 eS9 eW9 eT))) [18, 19, 20, 21, 22, 23, 24, 25, 26, 27, 28, 29, 30, 31, 32, 0, 1, 2, 3, 4, 5, 6, 7, 8, 9, 10, 11, 12, 13, 14, 15, 16, 17] (by decide) rfl
    clear hw hP1 hK1 hD1 hPc hDc hKc hFc hk1 hz1 hvm ht
    refine lv_istore (lv' := [(6, .int r19), (5, .int (nI 1)), (4, .int (nI (4 * t9))), (3, .ref ho), (2, .ref (hm 0)), (1, .ref (hc 0)), (0, .ref b)]) hx hb d_L_law_269 hl (by decide) rfl (fun ls hl => ?_)
    refine lv_goto (tgt := 613) hx hb d_L_law_271 (by decide) ?_
    exact next H locs ls ⟨nF, nC, pl, cf, ct, aK, _, _, _, _, _, _, _, _, _, _, _, _, _, _, _, _, 1, _, _, _, _, _, _, _, _, _, ⟨hF, hC, hS0, hpl, hcl, fun h9 => absurd h9 (Nat.succ_ne_zero _)⟩, Or.inr ⟨rfl, hGI⟩, hP, hD, hS⟩ (lv_sub hl [2, 3, 4, 5, 6] rfl)
set_option maxHeartbeats 4000000 in
set_option maxRecDepth 100000 in
theorem law_falls {p : Program} {l : Launch} {e : Env} {s : State} {m : MethodId} {below : List Frame} {meth : Method} {c : Code} {b L : Nat} {xs : Nat → Int32} (hst : l.stackTraces = false) (hx : p.tables.exec = Jvm.exec) (hb : c.code = code) (hr : meth.sig.returnType = ret) (hml : c.maxLocals = 7) (hown : s.vm.findClass R_L = some m.cls) (hts : ∀ w ∈ lw_tbl, w.before #[Value.ref b] s = true) (hX : va_X b L xs s s.heap) (hbl : b < s.heap.size) (dC : Nat → ClassId) (dI : Nat → Nat → Nat) (cI cZ cJ : ClassId) (hm hc : Nat → Nat) (ho K : Nat) (hK8 : 801 ≤ K) (sa : Nat → Nat) (A : Nat → Prop) (hA : ∀ q : Nat, s.heap.size ≤ q → A q) (hbA : ¬ A b) (hK : va_K (dC, dI) kls (tyL cI cZ cJ) s) (hT : xT sa s) (hC9 : xC s) (hZ : xZ A s s.heap) {Q : State → Prop} {t9 : Nat} (hL : 4 * t9 + 3 < L) (hL2 : L ≤ 2048) {H : Heap} {locs : List Loc} {ls : Array Slot} (hJ : lwJ dC dI cI cZ cJ hm hc ho K A s.heap t9 H locs) (hl : lv_has ls 7 [(4, .int (nI (4 * t9))), (3, .ref ho), (2, .ref (hm 0)), (1, .ref (hc 0)), (0, .ref b)]) (next : ∀ (H : Heap) (locs : List Loc) (ls : Array Slot), lwJ dC dI cI cZ cJ hm hc ho K A s.heap (t9 + 1) H locs → lv_has ls 7 [(4, .int (nI (4 * t9))), (3, .ref ho), (2, .ref (hm 0)), (1, .ref (hc 0)), (0, .ref b)] → W p l e room_1 s m #[Value.ref b] below meth c H locs (33 + (t9 + 1)) (10097 + 6 * (t9 + 1)) Q (F0 m 613 ls [])) : W p l e room_1 s m #[Value.ref b] below meth c H locs (33 + t9) (10097 + 6 * t9) Q (F0 m 326 ls []) := by
  obtain ⟨nF, nC, pl, cf, ct, aK, xt, xg, bF, bL, bB, bA, bY, bR, oT, oO, oR, bS, fo, yn, yt, ym, ga, eB, eE, eA, eL, eN, eC, eS, eW, eT, ⟨hF, hC, hS0, hpl, hcl, hz0⟩, hga, hP, hD, hS⟩ := hJ
  have hk := hts
  have hce1 : (33 + t9) + 1 ≤ room_1.cells := by show (33 + t9) + 1 ≤ 1066; omega
  have hsl1 : (10097 + 6 * t9) + 6 ≤ room_1.slots := by show (10097 + 6 * t9) + 6 ≤ 18343; omega
  have hce : 33 + (t9 + 1) + 0 ≤ room_1.cells := by show 33 + (t9 + 1) + 0 ≤ 1066; omega
  have hsl : 10097 + 6 * (t9 + 1) + 0 ≤ room_1.slots := by show 10097 + 6 * (t9 + 1) + 0 ≤ 18343; omega
  refine lv_aload_n hx hb d_L_law_326 rfl (lv_at hl 3 rfl) ?_
  refine lv_aload_n hx hb d_L_law_327 rfl (lv_at hl 4 rfl) ?_
  refine lv_iload hx hb d_L_law_328 (lv_at hl 0 rfl) ?_
  refine lv_iconst (v := nI 1) hx hb d_L_law_330 (by decide +kernel) ?_
  refine lv_iadd hx hb d_L_law_331 ?_
  refine lv_topi (fun z1 ez1 => ?_)
  obtain rfl : z1 = nI (4 * t9 + 1) := ez1.trans (nI_add _ _)
  refine va_sld hx hb hX hbl hbA hS (pk_in (4 * t9 + 1) L (by omega)) d_L_law_332 ?_
  refine lv_topi (fun z2 ez2 => ?_)
  obtain rfl : z2 = xs (4 * t9 + 1) := ez2.trans (congrArg xs (nI_clamp (by omega)))
  refine lv_aload_n hx hb d_L_law_333 rfl (lv_at hl 1 rfl) ?_
  have hPc := hP.sub (ws' := ((ho, .inl (cJ, 1, .inr (.inl fo))) :: wC hc cI (nI nF) (nI nC) yn yt (nI ga) ym (fun c => nI (pl c)) (fun c => nI (cf c)) (fun c => nI (ct c)) aK eB eE eA eL eN eC eS eW eT)) [15, 16, 17, 18, 19, 20, 21, 22, 23, 24, 25, 26, 27, 28, 29, 30, 31, 32] rfl
  have hDc := hD.sub (ws' := ((ho, .inl (cJ, 1, .inr (.inl fo))) :: wC hc cI (nI nF) (nI nC) yn yt (nI ga) ym (fun c => nI (pl c)) (fun c => nI (cf c)) (fun c => nI (ct c)) aK eB eE eA eL eN eC eS eW eT)) [15, 16, 17, 18, 19, 20, 21, 22, 23, 24, 25, 26, 27, 28, 29, 30, 31, 32] (by decide) rfl
  have hKc := hK.sub (tys' := tyH cI cJ) [0, 2] rfl
  have hFc := va_free (wc := ((ho, .inl (cJ, 1, .inr (.inl fo))) :: wC hc cI (nI nF) (nI nC) yn yt (nI ga) ym (fun c => nI (pl c)) (fun c => nI (cf c)) (fun c => nI (ct c)) aK eB eE eA eL eN eC eS eW eT)) hD hS hA [15, 16, 17, 18, 19, 20, 21, 22, 23, 24, 25, 26, 27, 28, 29, 30, 31, 32] rfl
  refine vx_calli (vx_runSX (hh := hh_L_falls) (As := [.ref (hc 0), .int (xs (4 * t9 + 1)), .ref ho]) (rest := []) ⟨hx, hb, hml, hown, hts⟩ (c_L_falls_ok l hst dC dI cI cJ hc ho H.size fo yn yt ym aK eB eE eA eL eN eC eS eW eT nF nC pl cf ct K ga (xs (4 * t9 + 1)) sa (hF) (hC) (hS0) (hpl) (hK8) (hcl) (hga)) (vx_cwSW 3 hts gl_72 rfl rfl rfl (by decide +kernel) ⟨Nat.le_of_ble_eq_true rfl, Nat.le_of_ble_eq_true rfl⟩) ⟨fun a U g mk q => by obtain ⟨q0, q1, qP, qK, qD, qT, qC, qZ⟩ := q; exact ⟨q0, q1, qP, va_K.moved (u := U) (U := U.calling g mk a) (Vm.Alike.refl U.vm) qK, qD, xT.same rfl qT, xC.moved (u := U) (U := U.calling g mk a) (Vm.Alike.refl U.vm) qC, xZ.blind (u := U) (U := U.calling g mk a) (Vm.Alike.refl U.vm) qZ⟩, fun U hU hW => ⟨rfl, by rw [hU], by rw [hU]; exact hPc, va_K.moved hW.alike hKc, hDc.weaken (fun _ _ _ _ => trivial), xT.warm hW hT, xC.moved hW.alike hC9, xZ.here hZ hS hFc hW.alike hU⟩⟩ rfl rfl hl.1 rfl (lv_room (Nat.le_of_ble_eq_true rfl)) d_L_law_334 ⟨hce1, hsl1⟩) hS (fun q _ h => hFc q h) hFc (fun q _ h => hFc q h) (fun E ce q9 u9 t H1 locs ht hvm hf9 => hf9.elim) (fun r1 u9 t H1 locs ht hvm hw hB hz1 hk1 hS => ?_)
  obtain ⟨fo9, yn9, yt9, yg9, eB9, eE9, eA9, eL9, eN9, eC9, eS9, eW9⟩ := u9
  obtain ⟨hP1, hK1, hD1⟩ := hB
  rw [ht] at hP1
  try dsimp only at hw hP1 hD1
  obtain ⟨hP, hD⟩ := va_join (wr := wM hm cI cZ xt (nI nF) (nI nC) xg (fun c => nI (pl c)) (fun c => nI (cf c)) (fun c => nI (ct c)) aK bF bL bB bA bY bR oT oO oR bS) (w1 := ((ho, .inl (cJ, 1, .inr (.inl fo9))) :: wC hc cI (nI nF) (nI nC) yn9 yt9 yg9 ym (fun c => nI (pl c)) (fun c => nI (cf c)) (fun c => nI (ct c)) aK eB9 eE9 eA9 eL9 eN9 eC9 eS9 eW9 eT)) hP hD [15, 16, 17, 18, 19, 20, 21, 22, 23, 24, 25, 26, 27, 28, 29, 30, 31, 32] [0, 1, 2, 3, 4, 5, 6, 7, 8, 9, 10, 11, 12, 13, 14] rfl rfl (by decide) (by decide) hk1 hFc hP1 hD1
  generalize H1 = H at hP hS ⊢
  have hP : va_P (dC, dI) kls (wM hm cI cZ xt (nI nF) (nI nC) xg (fun c => nI (pl c)) (fun c => nI (cf c)) (fun c => nI (ct c)) aK bF bL bB bA bY bR oT oO oR bS ++ ((ho, .inl (cJ, 1, .inr (.inl fo9))) :: wC hc cI (nI nF) (nI nC) yn9 yt9 yg9 ym (fun c => nI (pl c)) (fun c => nI (cf c)) (fun c => nI (ct c)) aK eB9 eE9 eA9 eL9 eN9 eC9 eS9 eW9 eT)) H := hP
  have hD : va_D A (wM hm cI cZ xt (nI nF) (nI nC) xg (fun c => nI (pl c)) (fun c => nI (cf c)) (fun c => nI (ct c)) aK bF bL bB bA bY bR oT oO oR bS ++ ((ho, .inl (cJ, 1, .inr (.inl fo9))) :: wC hc cI (nI nF) (nI nC) yn9 yt9 yg9 ym (fun c => nI (pl c)) (fun c => nI (cf c)) (fun c => nI (ct c)) aK eB9 eE9 eA9 eL9 eN9 eC9 eS9 eW9 eT)) := hD
  refine W.widen (k := 33 + (t9 + 1)) (n := 10097 + 6 * (t9 + 1)) (by omega) (by omega) ?_
  have hfit := few_iff (nF := nF) nC cf ct aK K hcl hK8 (fun c hc => (hS0 c hc).1)
  rcases hw with ⟨i, hi, hfi, hfew, hr9, hv, hg1, hGI⟩ | ⟨hb9, hr9, hu9⟩ | ⟨i, hi, hfi, hmany, hr9, hg1, hGI⟩
  · subst hr9
    subst hg1
    refine lv_istore (lv' := [(5, .int (nI 0)), (4, .int (nI (4 * t9))), (3, .ref ho), (2, .ref (hm 0)), (1, .ref (hc 0)), (0, .ref b)]) hx hb d_L_law_337 hl (by decide) rfl (fun ls hl => ?_)
    refine lv_aload_n hx hb d_L_law_339 rfl (lv_at hl 3 rfl) ?_
    refine lv_aload_n hx hb d_L_law_340 rfl (lv_at hl 5 rfl) ?_
    refine lv_iload hx hb d_L_law_341 (lv_at hl 1 rfl) ?_
    refine lv_iconst (v := nI 1) hx hb d_L_law_343 (by decide +kernel) ?_
    refine lv_iadd hx hb d_L_law_344 ?_
    refine lv_topi (fun z3 ez3 => ?_)
    obtain rfl : z3 = nI (4 * t9 + 1) := ez3.trans (nI_add _ _)
    refine va_sld hx hb hX hbl hbA hS (pk_in (4 * t9 + 1) L (by omega)) d_L_law_345 ?_
    refine lv_topi (fun z4 ez4 => ?_)
    obtain rfl : z4 = xs (4 * t9 + 1) := ez4.trans (congrArg xs (nI_clamp (by omega)))
    have hPc := hP.sub (ws' := wM hm cI cZ xt (nI nF) (nI nC) xg (fun c => nI (pl c)) (fun c => nI (cf c)) (fun c => nI (ct c)) aK bF bL bB bA bY bR oT oO oR bS) [0, 1, 2, 3, 4, 5, 6, 7, 8, 9, 10, 11, 12, 13, 14] rfl
    have hDc := hD.sub (ws' := wM hm cI cZ xt (nI nF) (nI nC) xg (fun c => nI (pl c)) (fun c => nI (cf c)) (fun c => nI (ct c)) aK bF bL bB bA bY bR oT oO oR bS) [0, 1, 2, 3, 4, 5, 6, 7, 8, 9, 10, 11, 12, 13, 14] (by decide) rfl
    have hKc := hK.sub (tys' := tyM cI cZ) [0, 1] rfl
    have hFc := va_free (wc := wM hm cI cZ xt (nI nF) (nI nC) xg (fun c => nI (pl c)) (fun c => nI (cf c)) (fun c => nI (ct c)) aK bF bL bB bA bY bR oT oO oR bS) hD hS hA [0, 1, 2, 3, 4, 5, 6, 7, 8, 9, 10, 11, 12, 13, 14] rfl
    refine va_calli (va_runV (As := [.int (xs (4 * t9 + 1))]) (rest := []) ⟨hx, hb, hml, hown, hts⟩ (m_falls l dC dI cI cZ hm H.size xt xg (fun c => nI (pl c)) aK bF bL bB bA bY bR oT oO oR bS nF nC K cf ct (xs (4 * t9 + 1)) (hF) (hC) (hK8) (hS0)) (cwV 1 hts gl_74 rfl rfl rfl (by decide +kernel) ⟨Nat.le_of_ble_eq_true rfl, Nat.le_of_ble_eq_true rfl⟩) ⟨fun a U g mk q => by obtain ⟨q0, q1, qP, qK, qD⟩ := q; exact ⟨q0, q1, qP, va_K.moved (u := U) (U := U.calling g mk a) (Vm.Alike.refl U.vm) qK, qD⟩, va_recv hK hP (ci := 0) (q0 := 0) rfl rfl, fun U hU hW => ⟨rfl, by rw [hU], by rw [hU]; exact hPc, va_K.moved hW.alike hKc, hDc.weaken (fun _ _ _ _ => trivial)⟩⟩ rfl rfl hl.1 rfl (lv_room (Nat.le_of_ble_eq_true rfl)) d_L_law_346 ⟨hce, hsl⟩) hS (fun q _ h => hFc q h) hFc (fun r5 u9 t H1 locs ht hvm hw hB hz1 hk1 hS => ?_)
    obtain ⟨xt9, xg9, bF9, bL9, bB9, bA9, bY9⟩ := u9
    obtain ⟨hP1, hK1, hD1⟩ := hB
    rw [ht] at hP1
    try dsimp only at hw hP1 hD1
    obtain ⟨hP, hD⟩ := va_join (wr := ((ho, .inl (cJ, 1, .inr (.inl fo9))) :: wC hc cI (nI nF) (nI nC) yn9 yt9 (nI 1) ym (fun c => nI (pl c)) (fun c => nI (cf c)) (fun c => nI (ct c)) aK eB9 eE9 eA9 eL9 eN9 eC9 eS9 eW9 eT)) (w1 := wM hm cI cZ xt9 (nI nF) (nI nC) xg9 (fun c => nI (pl c)) (fun c => nI (cf c)) (fun c => nI (ct c)) aK bF9 bL9 bB9 bA9 bY9 bR oT oO oR bS) hP hD [0, 1, 2, 3, 4, 5, 6, 7, 8, 9, 10, 11, 12, 13, 14] [15, 16, 17, 18, 19, 20, 21, 22, 23, 24, 25, 26, 27, 28, 29, 30, 31, 32] rfl rfl (by decide) (by decide) hk1 hFc hP1 hD1
    generalize H1 = H at hP hS ⊢
    have hP := hP.sub (ws' := (wM hm cI cZ xt9 (nI nF) (nI nC) xg9 (fun c => nI (pl c)) (fun c => nI (cf c)) (fun c => nI (ct c)) aK bF9 bL9 bB9 bA9 bY9 bR oT oO oR bS ++ ((ho, .inl (cJ, 1, .inr (.inl fo9))) :: wC hc cI (nI nF) (nI nC) yn9 yt9 (nI 1) ym (fun c => nI (pl c)) (fun c => nI (cf c)) (fun c => nI (ct c)) aK eB9 eE9 eA9 eL9 eN9 eC9 eS9 eW9 eT))) [18, 19, 20, 21, 22, 23, 24, 25, 26, 27, 28, 29, 30, 31, 32, 0, 1, 2, 3, 4, 5, 6, 7, 8, 9, 10, 11, 12, 13, 14, 15, 16, 17] rfl
    have hD := hD.sub (ws' := (wM hm cI cZ xt9 (nI nF) (nI nC) xg9 (fun c => nI (pl c)) (fun c => nI (cf c)) (fun c => nI (ct c)) aK bF9 bL9 bB9 bA9 bY9 bR oT oO oR bS ++ ((ho, .inl (cJ, 1, .inr (.inl fo9))) :: wC hc cI (nI nF) (nI nC) yn9 yt9 (nI 1) ym (fun c => nI (pl c)) (fun c => nI (cf c)) (fun c => nI (ct c)) aK eB9 eE9 eA9 eL9 eN9 eC9 eS9 eW9 eT))) [18, 19, 20, 21, 22, 23, 24, 25, 26, 27, 28, 29, 30, 31, 32, 0, 1, 2, 3, 4, 5, 6, 7, 8, 9, 10, 11, 12, 13, 14, 15, 16, 17] (by decide) rfl
    clear hw hP1 hK1 hD1 hPc hDc hKc hFc hk1 hz1 hvm ht
    refine lv_istore (lv' := [(6, .int r5), (5, .int (nI 0)), (4, .int (nI (4 * t9))), (3, .ref ho), (2, .ref (hm 0)), (1, .ref (hc 0)), (0, .ref b)]) hx hb d_L_law_349 hl (by decide) rfl (fun ls hl => ?_)
    refine lv_goto (tgt := 613) hx hb d_L_law_351 (by decide) ?_
    exact next H locs ls ⟨nF, nC, pl, cf, ct, aK, _, _, _, _, _, _, _, _, _, _, _, _, _, _, _, _, 1, _, _, _, _, _, _, _, _, _, ⟨hF, hC, hS0, hpl, hcl, fun h9 => absurd h9 (Nat.succ_ne_zero _)⟩, Or.inr ⟨rfl, hGI⟩, hP, hD, hS⟩ (lv_sub hl [2, 3, 4, 5, 6] rfl)
  · subst hr9
    cases hu9
    refine lv_istore (lv' := [(5, .int (nI 1)), (4, .int (nI (4 * t9))), (3, .ref ho), (2, .ref (hm 0)), (1, .ref (hc 0)), (0, .ref b)]) hx hb d_L_law_337 hl (by decide) rfl (fun ls hl => ?_)
    refine lv_aload_n hx hb d_L_law_339 rfl (lv_at hl 3 rfl) ?_
    refine lv_aload_n hx hb d_L_law_340 rfl (lv_at hl 5 rfl) ?_
    refine lv_iload hx hb d_L_law_341 (lv_at hl 1 rfl) ?_
    refine lv_iconst (v := nI 1) hx hb d_L_law_343 (by decide +kernel) ?_
    refine lv_iadd hx hb d_L_law_344 ?_
    refine lv_topi (fun z6 ez6 => ?_)
    obtain rfl : z6 = nI (4 * t9 + 1) := ez6.trans (nI_add _ _)
    refine va_sld hx hb hX hbl hbA hS (pk_in (4 * t9 + 1) L (by omega)) d_L_law_345 ?_
    refine lv_topi (fun z7 ez7 => ?_)
    obtain rfl : z7 = xs (4 * t9 + 1) := ez7.trans (congrArg xs (nI_clamp (by omega)))
    have hPc := hP.sub (ws' := wM hm cI cZ xt (nI nF) (nI nC) xg (fun c => nI (pl c)) (fun c => nI (cf c)) (fun c => nI (ct c)) aK bF bL bB bA bY bR oT oO oR bS) [0, 1, 2, 3, 4, 5, 6, 7, 8, 9, 10, 11, 12, 13, 14] rfl
    have hDc := hD.sub (ws' := wM hm cI cZ xt (nI nF) (nI nC) xg (fun c => nI (pl c)) (fun c => nI (cf c)) (fun c => nI (ct c)) aK bF bL bB bA bY bR oT oO oR bS) [0, 1, 2, 3, 4, 5, 6, 7, 8, 9, 10, 11, 12, 13, 14] (by decide) rfl
    have hKc := hK.sub (tys' := tyM cI cZ) [0, 1] rfl
    have hFc := va_free (wc := wM hm cI cZ xt (nI nF) (nI nC) xg (fun c => nI (pl c)) (fun c => nI (cf c)) (fun c => nI (ct c)) aK bF bL bB bA bY bR oT oO oR bS) hD hS hA [0, 1, 2, 3, 4, 5, 6, 7, 8, 9, 10, 11, 12, 13, 14] rfl
    refine va_calli (va_runV (As := [.int (xs (4 * t9 + 1))]) (rest := []) ⟨hx, hb, hml, hown, hts⟩ (m_falls l dC dI cI cZ hm H.size xt xg (fun c => nI (pl c)) aK bF bL bB bA bY bR oT oO oR bS nF nC K cf ct (xs (4 * t9 + 1)) (hF) (hC) (hK8) (hS0)) (cwV 1 hts gl_74 rfl rfl rfl (by decide +kernel) ⟨Nat.le_of_ble_eq_true rfl, Nat.le_of_ble_eq_true rfl⟩) ⟨fun a U g mk q => by obtain ⟨q0, q1, qP, qK, qD⟩ := q; exact ⟨q0, q1, qP, va_K.moved (u := U) (U := U.calling g mk a) (Vm.Alike.refl U.vm) qK, qD⟩, va_recv hK hP (ci := 0) (q0 := 0) rfl rfl, fun U hU hW => ⟨rfl, by rw [hU], by rw [hU]; exact hPc, va_K.moved hW.alike hKc, hDc.weaken (fun _ _ _ _ => trivial)⟩⟩ rfl rfl hl.1 rfl (lv_room (Nat.le_of_ble_eq_true rfl)) d_L_law_346 ⟨hce, hsl⟩) hS (fun q _ h => hFc q h) hFc (fun r8 u9 t H1 locs ht hvm hw hB hz1 hk1 hS => ?_)
    obtain ⟨xt9, xg9, bF9, bL9, bB9, bA9, bY9⟩ := u9
    obtain ⟨hP1, hK1, hD1⟩ := hB
    rw [ht] at hP1
    try dsimp only at hw hP1 hD1
    obtain ⟨hP, hD⟩ := va_join (wr := ((ho, .inl (cJ, 1, .inr (.inl fo9))) :: wC hc cI (nI nF) (nI nC) yn yt (nI ga) ym (fun c => nI (pl c)) (fun c => nI (cf c)) (fun c => nI (ct c)) aK eB eE eA eL eN eC eS eW eT)) (w1 := wM hm cI cZ xt9 (nI nF) (nI nC) xg9 (fun c => nI (pl c)) (fun c => nI (cf c)) (fun c => nI (ct c)) aK bF9 bL9 bB9 bA9 bY9 bR oT oO oR bS) hP hD [0, 1, 2, 3, 4, 5, 6, 7, 8, 9, 10, 11, 12, 13, 14] [15, 16, 17, 18, 19, 20, 21, 22, 23, 24, 25, 26, 27, 28, 29, 30, 31, 32] rfl rfl (by decide) (by decide) hk1 hFc hP1 hD1
    generalize H1 = H at hP hS ⊢
    have hP := hP.sub (ws' := (wM hm cI cZ xt9 (nI nF) (nI nC) xg9 (fun c => nI (pl c)) (fun c => nI (cf c)) (fun c => nI (ct c)) aK bF9 bL9 bB9 bA9 bY9 bR oT oO oR bS ++ ((ho, .inl (cJ, 1, .inr (.inl fo9))) :: wC hc cI (nI nF) (nI nC) yn yt (nI ga) ym (fun c => nI (pl c)) (fun c => nI (cf c)) (fun c => nI (ct c)) aK eB eE eA eL eN eC eS eW eT))) [18, 19, 20, 21, 22, 23, 24, 25, 26, 27, 28, 29, 30, 31, 32, 0, 1, 2, 3, 4, 5, 6, 7, 8, 9, 10, 11, 12, 13, 14, 15, 16, 17] rfl
    have hD := hD.sub (ws' := (wM hm cI cZ xt9 (nI nF) (nI nC) xg9 (fun c => nI (pl c)) (fun c => nI (cf c)) (fun c => nI (ct c)) aK bF9 bL9 bB9 bA9 bY9 bR oT oO oR bS ++ ((ho, .inl (cJ, 1, .inr (.inl fo9))) :: wC hc cI (nI nF) (nI nC) yn yt (nI ga) ym (fun c => nI (pl c)) (fun c => nI (cf c)) (fun c => nI (ct c)) aK eB eE eA eL eN eC eS eW eT))) [18, 19, 20, 21, 22, 23, 24, 25, 26, 27, 28, 29, 30, 31, 32, 0, 1, 2, 3, 4, 5, 6, 7, 8, 9, 10, 11, 12, 13, 14, 15, 16, 17] (by decide) rfl
    clear hw hP1 hK1 hD1 hPc hDc hKc hFc hk1 hz1 hvm ht
    refine lv_istore (lv' := [(6, .int r8), (5, .int (nI 1)), (4, .int (nI (4 * t9))), (3, .ref ho), (2, .ref (hm 0)), (1, .ref (hc 0)), (0, .ref b)]) hx hb d_L_law_349 hl (by decide) rfl (fun ls hl => ?_)
    refine lv_goto (tgt := 613) hx hb d_L_law_351 (by decide) ?_
    exact next H locs ls ⟨_, _, _, _, _, _, _, _, _, _, _, _, _, _, _, _, _, _, _, _, _, _, _, _, _, _, _, _, _, _, _, _, ⟨hF, hC, hS0, hpl, hcl, fun h9 => absurd h9 (Nat.succ_ne_zero _)⟩, hga, hP, hD, hS⟩ (lv_sub hl [2, 3, 4, 5, 6] rfl)
  · subst hr9
    subst hg1
    refine lv_istore (lv' := [(5, .int (nI 2)), (4, .int (nI (4 * t9))), (3, .ref ho), (2, .ref (hm 0)), (1, .ref (hc 0)), (0, .ref b)]) hx hb d_L_law_337 hl (by decide) rfl (fun ls hl => ?_)
    refine lv_aload_n hx hb d_L_law_339 rfl (lv_at hl 3 rfl) ?_
    refine lv_aload_n hx hb d_L_law_340 rfl (lv_at hl 5 rfl) ?_
    refine lv_iload hx hb d_L_law_341 (lv_at hl 1 rfl) ?_
    refine lv_iconst (v := nI 1) hx hb d_L_law_343 (by decide +kernel) ?_
    refine lv_iadd hx hb d_L_law_344 ?_
    refine lv_topi (fun z9 ez9 => ?_)
    obtain rfl : z9 = nI (4 * t9 + 1) := ez9.trans (nI_add _ _)
    refine va_sld hx hb hX hbl hbA hS (pk_in (4 * t9 + 1) L (by omega)) d_L_law_345 ?_
    refine lv_topi (fun z10 ez10 => ?_)
    obtain rfl : z10 = xs (4 * t9 + 1) := ez10.trans (congrArg xs (nI_clamp (by omega)))
    have hPc := hP.sub (ws' := wM hm cI cZ xt (nI nF) (nI nC) xg (fun c => nI (pl c)) (fun c => nI (cf c)) (fun c => nI (ct c)) aK bF bL bB bA bY bR oT oO oR bS) [0, 1, 2, 3, 4, 5, 6, 7, 8, 9, 10, 11, 12, 13, 14] rfl
    have hDc := hD.sub (ws' := wM hm cI cZ xt (nI nF) (nI nC) xg (fun c => nI (pl c)) (fun c => nI (cf c)) (fun c => nI (ct c)) aK bF bL bB bA bY bR oT oO oR bS) [0, 1, 2, 3, 4, 5, 6, 7, 8, 9, 10, 11, 12, 13, 14] (by decide) rfl
    have hKc := hK.sub (tys' := tyM cI cZ) [0, 1] rfl
    have hFc := va_free (wc := wM hm cI cZ xt (nI nF) (nI nC) xg (fun c => nI (pl c)) (fun c => nI (cf c)) (fun c => nI (ct c)) aK bF bL bB bA bY bR oT oO oR bS) hD hS hA [0, 1, 2, 3, 4, 5, 6, 7, 8, 9, 10, 11, 12, 13, 14] rfl
    refine va_calli (va_runV (As := [.int (xs (4 * t9 + 1))]) (rest := []) ⟨hx, hb, hml, hown, hts⟩ (m_falls l dC dI cI cZ hm H.size xt xg (fun c => nI (pl c)) aK bF bL bB bA bY bR oT oO oR bS nF nC K cf ct (xs (4 * t9 + 1)) (hF) (hC) (hK8) (hS0)) (cwV 1 hts gl_74 rfl rfl rfl (by decide +kernel) ⟨Nat.le_of_ble_eq_true rfl, Nat.le_of_ble_eq_true rfl⟩) ⟨fun a U g mk q => by obtain ⟨q0, q1, qP, qK, qD⟩ := q; exact ⟨q0, q1, qP, va_K.moved (u := U) (U := U.calling g mk a) (Vm.Alike.refl U.vm) qK, qD⟩, va_recv hK hP (ci := 0) (q0 := 0) rfl rfl, fun U hU hW => ⟨rfl, by rw [hU], by rw [hU]; exact hPc, va_K.moved hW.alike hKc, hDc.weaken (fun _ _ _ _ => trivial)⟩⟩ rfl rfl hl.1 rfl (lv_room (Nat.le_of_ble_eq_true rfl)) d_L_law_346 ⟨hce, hsl⟩) hS (fun q _ h => hFc q h) hFc (fun r11 u9 t H1 locs ht hvm hw hB hz1 hk1 hS => ?_)
    obtain ⟨xt9, xg9, bF9, bL9, bB9, bA9, bY9⟩ := u9
    obtain ⟨hP1, hK1, hD1⟩ := hB
    rw [ht] at hP1
    try dsimp only at hw hP1 hD1
    obtain ⟨hP, hD⟩ := va_join (wr := ((ho, .inl (cJ, 1, .inr (.inl fo9))) :: wC hc cI (nI nF) (nI nC) yn9 yt9 (nI 1) ym (fun c => nI (pl c)) (fun c => nI (cf c)) (fun c => nI (ct c)) aK eB9 eE9 eA9 eL9 eN9 eC9 eS9 eW9 eT)) (w1 := wM hm cI cZ xt9 (nI nF) (nI nC) xg9 (fun c => nI (pl c)) (fun c => nI (cf c)) (fun c => nI (ct c)) aK bF9 bL9 bB9 bA9 bY9 bR oT oO oR bS) hP hD [0, 1, 2, 3, 4, 5, 6, 7, 8, 9, 10, 11, 12, 13, 14] [15, 16, 17, 18, 19, 20, 21, 22, 23, 24, 25, 26, 27, 28, 29, 30, 31, 32] rfl rfl (by decide) (by decide) hk1 hFc hP1 hD1
    generalize H1 = H at hP hS ⊢
    have hP := hP.sub (ws' := (wM hm cI cZ xt9 (nI nF) (nI nC) xg9 (fun c => nI (pl c)) (fun c => nI (cf c)) (fun c => nI (ct c)) aK bF9 bL9 bB9 bA9 bY9 bR oT oO oR bS ++ ((ho, .inl (cJ, 1, .inr (.inl fo9))) :: wC hc cI (nI nF) (nI nC) yn9 yt9 (nI 1) ym (fun c => nI (pl c)) (fun c => nI (cf c)) (fun c => nI (ct c)) aK eB9 eE9 eA9 eL9 eN9 eC9 eS9 eW9 eT))) [18, 19, 20, 21, 22, 23, 24, 25, 26, 27, 28, 29, 30, 31, 32, 0, 1, 2, 3, 4, 5, 6, 7, 8, 9, 10, 11, 12, 13, 14, 15, 16, 17] rfl
    have hD := hD.sub (ws' := (wM hm cI cZ xt9 (nI nF) (nI nC) xg9 (fun c => nI (pl c)) (fun c => nI (cf c)) (fun c => nI (ct c)) aK bF9 bL9 bB9 bA9 bY9 bR oT oO oR bS ++ ((ho, .inl (cJ, 1, .inr (.inl fo9))) :: wC hc cI (nI nF) (nI nC) yn9 yt9 (nI 1) ym (fun c => nI (pl c)) (fun c => nI (cf c)) (fun c => nI (ct c)) aK eB9 eE9 eA9 eL9 eN9 eC9 eS9 eW9 eT))) [18, 19, 20, 21, 22, 23, 24, 25, 26, 27, 28, 29, 30, 31, 32, 0, 1, 2, 3, 4, 5, 6, 7, 8, 9, 10, 11, 12, 13, 14, 15, 16, 17] (by decide) rfl
    clear hw hP1 hK1 hD1 hPc hDc hKc hFc hk1 hz1 hvm ht
    refine lv_istore (lv' := [(6, .int r11), (5, .int (nI 2)), (4, .int (nI (4 * t9))), (3, .ref ho), (2, .ref (hm 0)), (1, .ref (hc 0)), (0, .ref b)]) hx hb d_L_law_349 hl (by decide) rfl (fun ls hl => ?_)
    refine lv_goto (tgt := 613) hx hb d_L_law_351 (by decide) ?_
    exact next H locs ls ⟨nF, nC, pl, cf, ct, aK, _, _, _, _, _, _, _, _, _, _, _, _, _, _, _, _, 1, _, _, _, _, _, _, _, _, _, ⟨hF, hC, hS0, hpl, hcl, fun h9 => absurd h9 (Nat.succ_ne_zero _)⟩, Or.inr ⟨rfl, hGI⟩, hP, hD, hS⟩ (lv_sub hl [2, 3, 4, 5, 6] rfl)
set_option maxHeartbeats 4000000 in
set_option maxRecDepth 100000 in
theorem law_isSafe {p : Program} {l : Launch} {e : Env} {s : State} {m : MethodId} {below : List Frame} {meth : Method} {c : Code} {b L : Nat} {xs : Nat → Int32} (hst : l.stackTraces = false) (hx : p.tables.exec = Jvm.exec) (hb : c.code = code) (hr : meth.sig.returnType = ret) (hml : c.maxLocals = 7) (hown : s.vm.findClass R_L = some m.cls) (hts : ∀ w ∈ lw_tbl, w.before #[Value.ref b] s = true) (hX : va_X b L xs s s.heap) (hbl : b < s.heap.size) (dC : Nat → ClassId) (dI : Nat → Nat → Nat) (cI cZ cJ : ClassId) (hm hc : Nat → Nat) (ho K : Nat) (hK8 : 801 ≤ K) (sa : Nat → Nat) (A : Nat → Prop) (hA : ∀ q : Nat, s.heap.size ≤ q → A q) (hbA : ¬ A b) (hK : va_K (dC, dI) kls (tyL cI cZ cJ) s) (hT : xT sa s) (hC9 : xC s) (hZ : xZ A s s.heap) {Q : State → Prop} {t9 : Nat} (hL : 4 * t9 + 3 < L) (hL2 : L ≤ 2048) {H : Heap} {locs : List Loc} {ls : Array Slot} (hJ : lwJ dC dI cI cZ cJ hm hc ho K A s.heap t9 H locs) (hl : lv_has ls 7 [(4, .int (nI (4 * t9))), (3, .ref ho), (2, .ref (hm 0)), (1, .ref (hc 0)), (0, .ref b)]) (next : ∀ (H : Heap) (locs : List Loc) (ls : Array Slot), lwJ dC dI cI cZ cJ hm hc ho K A s.heap (t9 + 1) H locs → lv_has ls 7 [(4, .int (nI (4 * t9))), (3, .ref ho), (2, .ref (hm 0)), (1, .ref (hc 0)), (0, .ref b)] → W p l e room_1 s m #[Value.ref b] below meth c H locs (33 + (t9 + 1)) (10097 + 6 * (t9 + 1)) Q (F0 m 613 ls [])) : W p l e room_1 s m #[Value.ref b] below meth c H locs (33 + t9) (10097 + 6 * t9) Q (F0 m 354 ls []) := by
  obtain ⟨nF, nC, pl, cf, ct, aK, xt, xg, bF, bL, bB, bA, bY, bR, oT, oO, oR, bS, fo, yn, yt, ym, ga, eB, eE, eA, eL, eN, eC, eS, eW, eT, ⟨hF, hC, hS0, hpl, hcl, hz0⟩, hga, hP, hD, hS⟩ := hJ
  have hk := hts
  have hce1 : (33 + t9) + 1 ≤ room_1.cells := by show (33 + t9) + 1 ≤ 1066; omega
  have hsl1 : (10097 + 6 * t9) + 6 ≤ room_1.slots := by show (10097 + 6 * t9) + 6 ≤ 18343; omega
  have hce : 33 + (t9 + 1) + 0 ≤ room_1.cells := by show 33 + (t9 + 1) + 0 ≤ 1066; omega
  have hsl : 10097 + 6 * (t9 + 1) + 0 ≤ room_1.slots := by show 10097 + 6 * (t9 + 1) + 0 ≤ 18343; omega
  refine lv_aload_n hx hb d_L_law_354 rfl (lv_at hl 3 rfl) ?_
  refine lv_aload_n hx hb d_L_law_355 rfl (lv_at hl 4 rfl) ?_
  refine lv_iload hx hb d_L_law_356 (lv_at hl 0 rfl) ?_
  refine lv_iconst (v := nI 1) hx hb d_L_law_358 (by decide +kernel) ?_
  refine lv_iadd hx hb d_L_law_359 ?_
  refine lv_topi (fun z1 ez1 => ?_)
  obtain rfl : z1 = nI (4 * t9 + 1) := ez1.trans (nI_add _ _)
  refine va_sld hx hb hX hbl hbA hS (pk_in (4 * t9 + 1) L (by omega)) d_L_law_360 ?_
  refine lv_topi (fun z2 ez2 => ?_)
  obtain rfl : z2 = xs (4 * t9 + 1) := ez2.trans (congrArg xs (nI_clamp (by omega)))
  refine lv_aload_n hx hb d_L_law_361 rfl (lv_at hl 1 rfl) ?_
  have hPc := hP.sub (ws' := ((ho, .inl (cJ, 1, .inr (.inl fo))) :: wC hc cI (nI nF) (nI nC) yn yt (nI ga) ym (fun c => nI (pl c)) (fun c => nI (cf c)) (fun c => nI (ct c)) aK eB eE eA eL eN eC eS eW eT)) [15, 16, 17, 18, 19, 20, 21, 22, 23, 24, 25, 26, 27, 28, 29, 30, 31, 32] rfl
  have hDc := hD.sub (ws' := ((ho, .inl (cJ, 1, .inr (.inl fo))) :: wC hc cI (nI nF) (nI nC) yn yt (nI ga) ym (fun c => nI (pl c)) (fun c => nI (cf c)) (fun c => nI (ct c)) aK eB eE eA eL eN eC eS eW eT)) [15, 16, 17, 18, 19, 20, 21, 22, 23, 24, 25, 26, 27, 28, 29, 30, 31, 32] (by decide) rfl
  have hKc := hK.sub (tys' := tyH cI cJ) [0, 2] rfl
  have hFc := va_free (wc := ((ho, .inl (cJ, 1, .inr (.inl fo))) :: wC hc cI (nI nF) (nI nC) yn yt (nI ga) ym (fun c => nI (pl c)) (fun c => nI (cf c)) (fun c => nI (ct c)) aK eB eE eA eL eN eC eS eW eT)) hD hS hA [15, 16, 17, 18, 19, 20, 21, 22, 23, 24, 25, 26, 27, 28, 29, 30, 31, 32] rfl
  refine vx_calli (vx_runSX (hh := hh_L_isSafe) (As := [.ref (hc 0), .int (xs (4 * t9 + 1)), .ref ho]) (rest := []) ⟨hx, hb, hml, hown, hts⟩ (c_L_isSafe_ok l hst dC dI cI cJ hc ho H.size fo yn yt ym aK eB eE eA eL eN eC eS eW eT nF nC pl cf ct K ga (xs (4 * t9 + 1)) sa (hF) (hC) (hS0) (hpl) (hK8) (hcl) (hga)) (vx_cwSW 3 hts gl_75 rfl rfl rfl (by decide +kernel) ⟨Nat.le_of_ble_eq_true rfl, Nat.le_of_ble_eq_true rfl⟩) ⟨fun a U g mk q => by obtain ⟨q0, q1, qP, qK, qD, qT, qC, qZ⟩ := q; exact ⟨q0, q1, qP, va_K.moved (u := U) (U := U.calling g mk a) (Vm.Alike.refl U.vm) qK, qD, xT.same rfl qT, xC.moved (u := U) (U := U.calling g mk a) (Vm.Alike.refl U.vm) qC, xZ.blind (u := U) (U := U.calling g mk a) (Vm.Alike.refl U.vm) qZ⟩, fun U hU hW => ⟨rfl, by rw [hU], by rw [hU]; exact hPc, va_K.moved hW.alike hKc, hDc.weaken (fun _ _ _ _ => trivial), xT.warm hW hT, xC.moved hW.alike hC9, xZ.here hZ hS hFc hW.alike hU⟩⟩ rfl rfl hl.1 rfl (lv_room (Nat.le_of_ble_eq_true rfl)) d_L_law_362 ⟨hce1, hsl1⟩) hS (fun q _ h => hFc q h) hFc (fun q _ h => hFc q h) (fun E ce q9 u9 t H1 locs ht hvm hf9 => hf9.elim) (fun r1 u9 t H1 locs ht hvm hw hB hz1 hk1 hS => ?_)
  obtain ⟨fo9, yn9, yt9, yg9, eB9, eE9, eA9, eL9, eN9, eC9, eS9, eW9⟩ := u9
  obtain ⟨hP1, hK1, hD1⟩ := hB
  rw [ht] at hP1
  try dsimp only at hw hP1 hD1
  obtain ⟨hP, hD⟩ := va_join (wr := wM hm cI cZ xt (nI nF) (nI nC) xg (fun c => nI (pl c)) (fun c => nI (cf c)) (fun c => nI (ct c)) aK bF bL bB bA bY bR oT oO oR bS) (w1 := ((ho, .inl (cJ, 1, .inr (.inl fo9))) :: wC hc cI (nI nF) (nI nC) yn9 yt9 yg9 ym (fun c => nI (pl c)) (fun c => nI (cf c)) (fun c => nI (ct c)) aK eB9 eE9 eA9 eL9 eN9 eC9 eS9 eW9 eT)) hP hD [15, 16, 17, 18, 19, 20, 21, 22, 23, 24, 25, 26, 27, 28, 29, 30, 31, 32] [0, 1, 2, 3, 4, 5, 6, 7, 8, 9, 10, 11, 12, 13, 14] rfl rfl (by decide) (by decide) hk1 hFc hP1 hD1
  generalize H1 = H at hP hS ⊢
  have hP : va_P (dC, dI) kls (wM hm cI cZ xt (nI nF) (nI nC) xg (fun c => nI (pl c)) (fun c => nI (cf c)) (fun c => nI (ct c)) aK bF bL bB bA bY bR oT oO oR bS ++ ((ho, .inl (cJ, 1, .inr (.inl fo9))) :: wC hc cI (nI nF) (nI nC) yn9 yt9 yg9 ym (fun c => nI (pl c)) (fun c => nI (cf c)) (fun c => nI (ct c)) aK eB9 eE9 eA9 eL9 eN9 eC9 eS9 eW9 eT)) H := hP
  have hD : va_D A (wM hm cI cZ xt (nI nF) (nI nC) xg (fun c => nI (pl c)) (fun c => nI (cf c)) (fun c => nI (ct c)) aK bF bL bB bA bY bR oT oO oR bS ++ ((ho, .inl (cJ, 1, .inr (.inl fo9))) :: wC hc cI (nI nF) (nI nC) yn9 yt9 yg9 ym (fun c => nI (pl c)) (fun c => nI (cf c)) (fun c => nI (ct c)) aK eB9 eE9 eA9 eL9 eN9 eC9 eS9 eW9 eT)) := hD
  refine W.widen (k := 33 + (t9 + 1)) (n := 10097 + 6 * (t9 + 1)) (by omega) (by omega) ?_
  have hfit := few_iff (nF := nF) nC cf ct aK K hcl hK8 (fun c hc => (hS0 c hc).1)
  rcases hw with ⟨i, hi, hfi, hfew, hr9, hv, hg1, hGI⟩ | ⟨hb9, hr9, hu9⟩ | ⟨i, hi, hfi, hmany, hr9, hg1, hGI⟩
  · subst hr9
    subst hg1
    refine lv_istore (lv' := [(5, .int (nI 0)), (4, .int (nI (4 * t9))), (3, .ref ho), (2, .ref (hm 0)), (1, .ref (hc 0)), (0, .ref b)]) hx hb d_L_law_365 hl (by decide) rfl (fun ls hl => ?_)
    refine lv_aload_n hx hb d_L_law_367 rfl (lv_at hl 3 rfl) ?_
    refine lv_aload_n hx hb d_L_law_368 rfl (lv_at hl 5 rfl) ?_
    refine lv_iload hx hb d_L_law_369 (lv_at hl 1 rfl) ?_
    refine lv_iconst (v := nI 1) hx hb d_L_law_371 (by decide +kernel) ?_
    refine lv_iadd hx hb d_L_law_372 ?_
    refine lv_topi (fun z3 ez3 => ?_)
    obtain rfl : z3 = nI (4 * t9 + 1) := ez3.trans (nI_add _ _)
    refine va_sld hx hb hX hbl hbA hS (pk_in (4 * t9 + 1) L (by omega)) d_L_law_373 ?_
    refine lv_topi (fun z4 ez4 => ?_)
    obtain rfl : z4 = xs (4 * t9 + 1) := ez4.trans (congrArg xs (nI_clamp (by omega)))
    have hPc := hP.sub (ws' := wM hm cI cZ xt (nI nF) (nI nC) xg (fun c => nI (pl c)) (fun c => nI (cf c)) (fun c => nI (ct c)) aK bF bL bB bA bY bR oT oO oR bS) [0, 1, 2, 3, 4, 5, 6, 7, 8, 9, 10, 11, 12, 13, 14] rfl
    have hDc := hD.sub (ws' := wM hm cI cZ xt (nI nF) (nI nC) xg (fun c => nI (pl c)) (fun c => nI (cf c)) (fun c => nI (ct c)) aK bF bL bB bA bY bR oT oO oR bS) [0, 1, 2, 3, 4, 5, 6, 7, 8, 9, 10, 11, 12, 13, 14] (by decide) rfl
    have hKc := hK.sub (tys' := tyM cI cZ) [0, 1] rfl
    have hFc := va_free (wc := wM hm cI cZ xt (nI nF) (nI nC) xg (fun c => nI (pl c)) (fun c => nI (cf c)) (fun c => nI (ct c)) aK bF bL bB bA bY bR oT oO oR bS) hD hS hA [0, 1, 2, 3, 4, 5, 6, 7, 8, 9, 10, 11, 12, 13, 14] rfl
    refine va_calli (va_runV (As := [.int (xs (4 * t9 + 1))]) (rest := []) ⟨hx, hb, hml, hown, hts⟩ (m_isSafe l dC dI cI cZ hm H.size xt xg (fun c => nI (pl c)) aK bF bL bB bA bY bR oT oO oR bS nF nC K cf ct (xs (4 * t9 + 1)) (hF) (hC) (hK8) (hS0)) (cwV 1 hts gl_77 rfl rfl rfl (by decide +kernel) ⟨Nat.le_of_ble_eq_true rfl, Nat.le_of_ble_eq_true rfl⟩) ⟨fun a U g mk q => by obtain ⟨q0, q1, qP, qK, qD⟩ := q; exact ⟨q0, q1, qP, va_K.moved (u := U) (U := U.calling g mk a) (Vm.Alike.refl U.vm) qK, qD⟩, va_recv hK hP (ci := 0) (q0 := 0) rfl rfl, fun U hU hW => ⟨rfl, by rw [hU], by rw [hU]; exact hPc, va_K.moved hW.alike hKc, hDc.weaken (fun _ _ _ _ => trivial)⟩⟩ rfl rfl hl.1 rfl (lv_room (Nat.le_of_ble_eq_true rfl)) d_L_law_374 ⟨hce, hsl⟩) hS (fun q _ h => hFc q h) hFc (fun r5 u9 t H1 locs ht hvm hw hB hz1 hk1 hS => ?_)
    obtain ⟨xt9, xg9, bF9, bL9, bB9, bA9, bY9⟩ := u9
    obtain ⟨hP1, hK1, hD1⟩ := hB
    rw [ht] at hP1
    try dsimp only at hw hP1 hD1
    obtain ⟨hP, hD⟩ := va_join (wr := ((ho, .inl (cJ, 1, .inr (.inl fo9))) :: wC hc cI (nI nF) (nI nC) yn9 yt9 (nI 1) ym (fun c => nI (pl c)) (fun c => nI (cf c)) (fun c => nI (ct c)) aK eB9 eE9 eA9 eL9 eN9 eC9 eS9 eW9 eT)) (w1 := wM hm cI cZ xt9 (nI nF) (nI nC) xg9 (fun c => nI (pl c)) (fun c => nI (cf c)) (fun c => nI (ct c)) aK bF9 bL9 bB9 bA9 bY9 bR oT oO oR bS) hP hD [0, 1, 2, 3, 4, 5, 6, 7, 8, 9, 10, 11, 12, 13, 14] [15, 16, 17, 18, 19, 20, 21, 22, 23, 24, 25, 26, 27, 28, 29, 30, 31, 32] rfl rfl (by decide) (by decide) hk1 hFc hP1 hD1
    generalize H1 = H at hP hS ⊢
    have hP := hP.sub (ws' := (wM hm cI cZ xt9 (nI nF) (nI nC) xg9 (fun c => nI (pl c)) (fun c => nI (cf c)) (fun c => nI (ct c)) aK bF9 bL9 bB9 bA9 bY9 bR oT oO oR bS ++ ((ho, .inl (cJ, 1, .inr (.inl fo9))) :: wC hc cI (nI nF) (nI nC) yn9 yt9 (nI 1) ym (fun c => nI (pl c)) (fun c => nI (cf c)) (fun c => nI (ct c)) aK eB9 eE9 eA9 eL9 eN9 eC9 eS9 eW9 eT))) [18, 19, 20, 21, 22, 23, 24, 25, 26, 27, 28, 29, 30, 31, 32, 0, 1, 2, 3, 4, 5, 6, 7, 8, 9, 10, 11, 12, 13, 14, 15, 16, 17] rfl
    have hD := hD.sub (ws' := (wM hm cI cZ xt9 (nI nF) (nI nC) xg9 (fun c => nI (pl c)) (fun c => nI (cf c)) (fun c => nI (ct c)) aK bF9 bL9 bB9 bA9 bY9 bR oT oO oR bS ++ ((ho, .inl (cJ, 1, .inr (.inl fo9))) :: wC hc cI (nI nF) (nI nC) yn9 yt9 (nI 1) ym (fun c => nI (pl c)) (fun c => nI (cf c)) (fun c => nI (ct c)) aK eB9 eE9 eA9 eL9 eN9 eC9 eS9 eW9 eT))) [18, 19, 20, 21, 22, 23, 24, 25, 26, 27, 28, 29, 30, 31, 32, 0, 1, 2, 3, 4, 5, 6, 7, 8, 9, 10, 11, 12, 13, 14, 15, 16, 17] (by decide) rfl
    rcases hw with ⟨hb2, hu1⟩ | ⟨i2, hi2, hf2, ⟨hgt, hu1⟩ | ⟨hle, hu1, hrr⟩⟩
    · first | exact absurd ⟨i, hi, hfi⟩ hb2 | exact absurd ⟨i2, hi2, hf2⟩ hb9 | exact absurd (hfit.mp hle) (by omega) | exact absurd (hfit.mpr hfew) (by omega)
    · first | exact absurd ⟨i, hi, hfi⟩ hb2 | exact absurd ⟨i2, hi2, hf2⟩ hb9 | exact absurd (hfit.mp hle) (by omega) | exact absurd (hfit.mpr hfew) (by omega)
    · obtain rfl := nI_one (by omega) (by omega) (hfi.symm.trans hf2)
      subst hu1
      rcases hv with ⟨hout, hv⟩ | ⟨hout, hv⟩
      · rcases hrr with ⟨hr8, hr7⟩ | ⟨hr8, hr7⟩
        · subst hr8
          refine lv_istore (lv' := [(6, .int (nI 1)), (5, .int (nI 0)), (4, .int (nI (4 * t9))), (3, .ref ho), (2, .ref (hm 0)), (1, .ref (hc 0)), (0, .ref b)]) hx hb d_L_law_377 hl (by decide) rfl (fun ls hl => ?_)
          refine lv_aload_n hx hb d_L_law_379 rfl (lv_at hl 4 rfl) ?_
          have hPc := hP.sub (ws' := wM hm cI cZ (nI 0) (nI nF) (nI nC) xg9 (fun c => nI (pl c)) (fun c => nI (cf c)) (fun c => nI (ct c)) aK bF9 bL9 bB9 bA9 bY9 bR oT oO oR bS) [0, 1, 2, 3, 4, 5, 6, 7, 8, 9, 10, 11, 12, 13, 14] rfl
          have hDc := hD.sub (ws' := wM hm cI cZ (nI 0) (nI nF) (nI nC) xg9 (fun c => nI (pl c)) (fun c => nI (cf c)) (fun c => nI (ct c)) aK bF9 bL9 bB9 bA9 bY9 bR oT oO oR bS) [0, 1, 2, 3, 4, 5, 6, 7, 8, 9, 10, 11, 12, 13, 14] (by decide) rfl
          have hKc := hK.sub (tys' := tyM cI cZ) [0, 1] rfl
          have hFc := va_free (wc := wM hm cI cZ (nI 0) (nI nF) (nI nC) xg9 (fun c => nI (pl c)) (fun c => nI (cf c)) (fun c => nI (ct c)) aK bF9 bL9 bB9 bA9 bY9 bR oT oO oR bS) hD hS hA [0, 1, 2, 3, 4, 5, 6, 7, 8, 9, 10, 11, 12, 13, 14] rfl
          refine va_calli (va_runV (As := []) (rest := []) ⟨hx, hb, hml, hown, hts⟩ (m_thrown l dC dI cI cZ hm H.size (nI 0) (nI nF) (nI nC) xg9 (fun c => nI (pl c)) (fun c => nI (cf c)) (fun c => nI (ct c)) aK bF9 bL9 bB9 bA9 bY9 bR oT oO oR bS  ) (cwV 0 hts gl_78 rfl rfl rfl (by decide +kernel) ⟨Nat.le_of_ble_eq_true rfl, Nat.le_of_ble_eq_true rfl⟩) ⟨fun a U g mk q => by obtain ⟨q0, q1, qP, qK, qD⟩ := q; exact ⟨q0, q1, qP, va_K.moved (u := U) (U := U.calling g mk a) (Vm.Alike.refl U.vm) qK, qD⟩, va_recv hK hP (ci := 0) (q0 := 0) rfl rfl, fun U hU hW => ⟨rfl, by rw [hU], by rw [hU]; exact hPc, va_K.moved hW.alike hKc, hDc.weaken (fun _ _ _ _ => trivial)⟩⟩ rfl rfl hl.1 rfl (lv_room (Nat.le_of_ble_eq_true rfl)) d_L_law_380 ⟨hce, hsl⟩) hS (fun q _ h => hFc q h) hFc (fun r6 u9 t H1 locs ht hvm hw hB hz1 hk1 hS => ?_)
          obtain ⟨hP1, hK1, hD1⟩ := hB
          rw [ht] at hP1
          try dsimp only at hw hP1 hD1
          obtain ⟨hP, hD⟩ := va_join (wr := ((ho, .inl (cJ, 1, .inr (.inl fo9))) :: wC hc cI (nI nF) (nI nC) yn9 yt9 (nI 1) ym (fun c => nI (pl c)) (fun c => nI (cf c)) (fun c => nI (ct c)) aK eB9 eE9 eA9 eL9 eN9 eC9 eS9 eW9 eT)) (w1 := wM hm cI cZ (nI 0) (nI nF) (nI nC) xg9 (fun c => nI (pl c)) (fun c => nI (cf c)) (fun c => nI (ct c)) aK bF9 bL9 bB9 bA9 bY9 bR oT oO oR bS) hP hD [0, 1, 2, 3, 4, 5, 6, 7, 8, 9, 10, 11, 12, 13, 14] [15, 16, 17, 18, 19, 20, 21, 22, 23, 24, 25, 26, 27, 28, 29, 30, 31, 32] rfl rfl (by decide) (by decide) hk1 hFc hP1 hD1
          generalize H1 = H at hP hS ⊢
          have hP := hP.sub (ws' := (wM hm cI cZ (nI 0) (nI nF) (nI nC) xg9 (fun c => nI (pl c)) (fun c => nI (cf c)) (fun c => nI (ct c)) aK bF9 bL9 bB9 bA9 bY9 bR oT oO oR bS ++ ((ho, .inl (cJ, 1, .inr (.inl fo9))) :: wC hc cI (nI nF) (nI nC) yn9 yt9 (nI 1) ym (fun c => nI (pl c)) (fun c => nI (cf c)) (fun c => nI (ct c)) aK eB9 eE9 eA9 eL9 eN9 eC9 eS9 eW9 eT))) [18, 19, 20, 21, 22, 23, 24, 25, 26, 27, 28, 29, 30, 31, 32, 0, 1, 2, 3, 4, 5, 6, 7, 8, 9, 10, 11, 12, 13, 14, 15, 16, 17] rfl
          have hD := hD.sub (ws' := (wM hm cI cZ (nI 0) (nI nF) (nI nC) xg9 (fun c => nI (pl c)) (fun c => nI (cf c)) (fun c => nI (ct c)) aK bF9 bL9 bB9 bA9 bY9 bR oT oO oR bS ++ ((ho, .inl (cJ, 1, .inr (.inl fo9))) :: wC hc cI (nI nF) (nI nC) yn9 yt9 (nI 1) ym (fun c => nI (pl c)) (fun c => nI (cf c)) (fun c => nI (ct c)) aK eB9 eE9 eA9 eL9 eN9 eC9 eS9 eW9 eT))) [18, 19, 20, 21, 22, 23, 24, 25, 26, 27, 28, 29, 30, 31, 32, 0, 1, 2, 3, 4, 5, 6, 7, 8, 9, 10, 11, 12, 13, 14, 15, 16, 17] (by decide) rfl
          subst hw
          refine lv_iload hx hb d_L_law_383 (lv_at hl 1 rfl) ?_
          refine lv_icmp_eq (tgt := 390) hx hb d_L_law_385 (by decide) (fun _ => ?_) (fun c9 => absurd c9 (by decide +kernel))
          refine lv_iload hx hb d_L_law_390 (lv_at hl 1 rfl) ?_
          refine lv_if_ne (tgt := 414) hx hb d_L_law_392 (by decide) (fun c9 => absurd c9 (by decide +kernel)) (fun _ => ?_)
          refine lv_aload_n hx hb d_L_law_395 rfl (lv_at hl 3 rfl) ?_
          refine lv_iconst (v := nI 0) hx hb d_L_law_396 (by decide +kernel) ?_
          refine va_lald hx hb hK hP 15 2 rfl rfl (pk_in 0 1 (by omega)) d_L_law_397 ?_
          refine lv_topl (fun z7 ez7 => ?_)
          obtain rfl : z7 = fo9 0 := ez7.trans (congrArg fo9 (nI_clamp (n := 0) (by omega)))
          refine lv_iload hx hb d_L_law_398 (lv_at hl 0 rfl) ?_
          refine lv_if_eq (tgt := 407) hx hb d_L_law_400 (by decide) (fun c9 => absurd c9 (by decide +kernel)) (fun _ => ?_)
          refine lv_lconst (v := 1) hx hb d_L_law_403 (by decide +kernel) ?_
          refine lv_goto (tgt := 408) hx hb d_L_law_404 (by decide) ?_
          rw [show fo9 0 = (1) from hout]
          refine W.lcmp hx hb d_L_law_408 ?_
          refine lv_topi (fun z8 ez8 => ?_)
          obtain rfl : z8 = nI 0 := ez8.trans (lcm_0 _)
          refine lv_if_eq (tgt := 414) hx hb d_L_law_409 (by decide) (fun _ => ?_) (fun c9 => absurd c9 (by decide +kernel))
          refine lv_goto (tgt := 613) hx hb d_L_law_414 (by decide) ?_
          exact next H locs ls ⟨nF, nC, pl, cf, ct, aK, _, _, _, _, _, _, _, _, _, _, _, _, _, _, _, _, 1, _, _, _, _, _, _, _, _, _, ⟨hF, hC, hS0, hpl, hcl, fun h9 => absurd h9 (Nat.succ_ne_zero _)⟩, Or.inr ⟨rfl, hGI⟩, hP, hD, hS⟩ (lv_sub hl [2, 3, 4, 5, 6] rfl)
        · obtain ⟨g, hg, htb, hen⟩ := hr7
          exact absurd ((fall_iff nC cf ct aK K hcl hK8 (fun c hc => (hS0 c hc).1) hle hg).mpr hen) (fbO_none nC cf ct aK K (hv g hg htb))
      · rcases hrr with ⟨hr8, hr7⟩ | ⟨hr8, hr7⟩
        · obtain ⟨g, hg, htb, j, hv⟩ := hv
          exact absurd ((fall_iff nC cf ct aK K hcl hK8 (fun c hc => (hS0 c hc).1) hle hg).mp (fbO_some nC cf ct aK K hv)) (fun ⟨en, h1, h2⟩ => hr7 g hg htb en h1 h2)
        · subst hr8
          refine lv_istore (lv' := [(6, .int (nI 0)), (5, .int (nI 0)), (4, .int (nI (4 * t9))), (3, .ref ho), (2, .ref (hm 0)), (1, .ref (hc 0)), (0, .ref b)]) hx hb d_L_law_377 hl (by decide) rfl (fun ls hl => ?_)
          refine lv_aload_n hx hb d_L_law_379 rfl (lv_at hl 4 rfl) ?_
          have hPc := hP.sub (ws' := wM hm cI cZ (nI 0) (nI nF) (nI nC) xg9 (fun c => nI (pl c)) (fun c => nI (cf c)) (fun c => nI (ct c)) aK bF9 bL9 bB9 bA9 bY9 bR oT oO oR bS) [0, 1, 2, 3, 4, 5, 6, 7, 8, 9, 10, 11, 12, 13, 14] rfl
          have hDc := hD.sub (ws' := wM hm cI cZ (nI 0) (nI nF) (nI nC) xg9 (fun c => nI (pl c)) (fun c => nI (cf c)) (fun c => nI (ct c)) aK bF9 bL9 bB9 bA9 bY9 bR oT oO oR bS) [0, 1, 2, 3, 4, 5, 6, 7, 8, 9, 10, 11, 12, 13, 14] (by decide) rfl
          have hKc := hK.sub (tys' := tyM cI cZ) [0, 1] rfl
          have hFc := va_free (wc := wM hm cI cZ (nI 0) (nI nF) (nI nC) xg9 (fun c => nI (pl c)) (fun c => nI (cf c)) (fun c => nI (ct c)) aK bF9 bL9 bB9 bA9 bY9 bR oT oO oR bS) hD hS hA [0, 1, 2, 3, 4, 5, 6, 7, 8, 9, 10, 11, 12, 13, 14] rfl
          refine va_calli (va_runV (As := []) (rest := []) ⟨hx, hb, hml, hown, hts⟩ (m_thrown l dC dI cI cZ hm H.size (nI 0) (nI nF) (nI nC) xg9 (fun c => nI (pl c)) (fun c => nI (cf c)) (fun c => nI (ct c)) aK bF9 bL9 bB9 bA9 bY9 bR oT oO oR bS  ) (cwV 0 hts gl_78 rfl rfl rfl (by decide +kernel) ⟨Nat.le_of_ble_eq_true rfl, Nat.le_of_ble_eq_true rfl⟩) ⟨fun a U g mk q => by obtain ⟨q0, q1, qP, qK, qD⟩ := q; exact ⟨q0, q1, qP, va_K.moved (u := U) (U := U.calling g mk a) (Vm.Alike.refl U.vm) qK, qD⟩, va_recv hK hP (ci := 0) (q0 := 0) rfl rfl, fun U hU hW => ⟨rfl, by rw [hU], by rw [hU]; exact hPc, va_K.moved hW.alike hKc, hDc.weaken (fun _ _ _ _ => trivial)⟩⟩ rfl rfl hl.1 rfl (lv_room (Nat.le_of_ble_eq_true rfl)) d_L_law_380 ⟨hce, hsl⟩) hS (fun q _ h => hFc q h) hFc (fun r9 u9 t H1 locs ht hvm hw hB hz1 hk1 hS => ?_)
          obtain ⟨hP1, hK1, hD1⟩ := hB
          rw [ht] at hP1
          try dsimp only at hw hP1 hD1
          obtain ⟨hP, hD⟩ := va_join (wr := ((ho, .inl (cJ, 1, .inr (.inl fo9))) :: wC hc cI (nI nF) (nI nC) yn9 yt9 (nI 1) ym (fun c => nI (pl c)) (fun c => nI (cf c)) (fun c => nI (ct c)) aK eB9 eE9 eA9 eL9 eN9 eC9 eS9 eW9 eT)) (w1 := wM hm cI cZ (nI 0) (nI nF) (nI nC) xg9 (fun c => nI (pl c)) (fun c => nI (cf c)) (fun c => nI (ct c)) aK bF9 bL9 bB9 bA9 bY9 bR oT oO oR bS) hP hD [0, 1, 2, 3, 4, 5, 6, 7, 8, 9, 10, 11, 12, 13, 14] [15, 16, 17, 18, 19, 20, 21, 22, 23, 24, 25, 26, 27, 28, 29, 30, 31, 32] rfl rfl (by decide) (by decide) hk1 hFc hP1 hD1
          generalize H1 = H at hP hS ⊢
          have hP := hP.sub (ws' := (wM hm cI cZ (nI 0) (nI nF) (nI nC) xg9 (fun c => nI (pl c)) (fun c => nI (cf c)) (fun c => nI (ct c)) aK bF9 bL9 bB9 bA9 bY9 bR oT oO oR bS ++ ((ho, .inl (cJ, 1, .inr (.inl fo9))) :: wC hc cI (nI nF) (nI nC) yn9 yt9 (nI 1) ym (fun c => nI (pl c)) (fun c => nI (cf c)) (fun c => nI (ct c)) aK eB9 eE9 eA9 eL9 eN9 eC9 eS9 eW9 eT))) [18, 19, 20, 21, 22, 23, 24, 25, 26, 27, 28, 29, 30, 31, 32, 0, 1, 2, 3, 4, 5, 6, 7, 8, 9, 10, 11, 12, 13, 14, 15, 16, 17] rfl
          have hD := hD.sub (ws' := (wM hm cI cZ (nI 0) (nI nF) (nI nC) xg9 (fun c => nI (pl c)) (fun c => nI (cf c)) (fun c => nI (ct c)) aK bF9 bL9 bB9 bA9 bY9 bR oT oO oR bS ++ ((ho, .inl (cJ, 1, .inr (.inl fo9))) :: wC hc cI (nI nF) (nI nC) yn9 yt9 (nI 1) ym (fun c => nI (pl c)) (fun c => nI (cf c)) (fun c => nI (ct c)) aK eB9 eE9 eA9 eL9 eN9 eC9 eS9 eW9 eT))) [18, 19, 20, 21, 22, 23, 24, 25, 26, 27, 28, 29, 30, 31, 32, 0, 1, 2, 3, 4, 5, 6, 7, 8, 9, 10, 11, 12, 13, 14, 15, 16, 17] (by decide) rfl
          subst hw
          refine lv_iload hx hb d_L_law_383 (lv_at hl 1 rfl) ?_
          refine lv_icmp_eq (tgt := 390) hx hb d_L_law_385 (by decide) (fun _ => ?_) (fun c9 => absurd c9 (by decide +kernel))
          refine lv_iload hx hb d_L_law_390 (lv_at hl 1 rfl) ?_
          refine lv_if_ne (tgt := 414) hx hb d_L_law_392 (by decide) (fun c9 => absurd c9 (by decide +kernel)) (fun _ => ?_)
          refine lv_aload_n hx hb d_L_law_395 rfl (lv_at hl 3 rfl) ?_
          refine lv_iconst (v := nI 0) hx hb d_L_law_396 (by decide +kernel) ?_
          refine va_lald hx hb hK hP 15 2 rfl rfl (pk_in 0 1 (by omega)) d_L_law_397 ?_
          refine lv_topl (fun z10 ez10 => ?_)
          obtain rfl : z10 = fo9 0 := ez10.trans (congrArg fo9 (nI_clamp (n := 0) (by omega)))
          refine lv_iload hx hb d_L_law_398 (lv_at hl 0 rfl) ?_
          refine lv_if_eq (tgt := 407) hx hb d_L_law_400 (by decide) (fun _ => ?_) (fun c9 => absurd c9 (by decide +kernel))
          refine lv_lconst (v := 0) hx hb d_L_law_407 (by decide +kernel) ?_
          rw [show fo9 0 = (0) from hout]
          refine W.lcmp hx hb d_L_law_408 ?_
          refine lv_topi (fun z11 ez11 => ?_)
          obtain rfl : z11 = nI 0 := ez11.trans (lcm_0 _)
          refine lv_if_eq (tgt := 414) hx hb d_L_law_409 (by decide) (fun _ => ?_) (fun c9 => absurd c9 (by decide +kernel))
          refine lv_goto (tgt := 613) hx hb d_L_law_414 (by decide) ?_
          exact next H locs ls ⟨nF, nC, pl, cf, ct, aK, _, _, _, _, _, _, _, _, _, _, _, _, _, _, _, _, 1, _, _, _, _, _, _, _, _, _, ⟨hF, hC, hS0, hpl, hcl, fun h9 => absurd h9 (Nat.succ_ne_zero _)⟩, Or.inr ⟨rfl, hGI⟩, hP, hD, hS⟩ (lv_sub hl [2, 3, 4, 5, 6] rfl)
  · subst hr9
    cases hu9
    refine lv_istore (lv' := [(5, .int (nI 1)), (4, .int (nI (4 * t9))), (3, .ref ho), (2, .ref (hm 0)), (1, .ref (hc 0)), (0, .ref b)]) hx hb d_L_law_365 hl (by decide) rfl (fun ls hl => ?_)
    refine lv_aload_n hx hb d_L_law_367 rfl (lv_at hl 3 rfl) ?_
    refine lv_aload_n hx hb d_L_law_368 rfl (lv_at hl 5 rfl) ?_
    refine lv_iload hx hb d_L_law_369 (lv_at hl 1 rfl) ?_
    refine lv_iconst (v := nI 1) hx hb d_L_law_371 (by decide +kernel) ?_
    refine lv_iadd hx hb d_L_law_372 ?_
    refine lv_topi (fun z12 ez12 => ?_)
    obtain rfl : z12 = nI (4 * t9 + 1) := ez12.trans (nI_add _ _)
    refine va_sld hx hb hX hbl hbA hS (pk_in (4 * t9 + 1) L (by omega)) d_L_law_373 ?_
    refine lv_topi (fun z13 ez13 => ?_)
    obtain rfl : z13 = xs (4 * t9 + 1) := ez13.trans (congrArg xs (nI_clamp (by omega)))
    have hPc := hP.sub (ws' := wM hm cI cZ xt (nI nF) (nI nC) xg (fun c => nI (pl c)) (fun c => nI (cf c)) (fun c => nI (ct c)) aK bF bL bB bA bY bR oT oO oR bS) [0, 1, 2, 3, 4, 5, 6, 7, 8, 9, 10, 11, 12, 13, 14] rfl
    have hDc := hD.sub (ws' := wM hm cI cZ xt (nI nF) (nI nC) xg (fun c => nI (pl c)) (fun c => nI (cf c)) (fun c => nI (ct c)) aK bF bL bB bA bY bR oT oO oR bS) [0, 1, 2, 3, 4, 5, 6, 7, 8, 9, 10, 11, 12, 13, 14] (by decide) rfl
    have hKc := hK.sub (tys' := tyM cI cZ) [0, 1] rfl
    have hFc := va_free (wc := wM hm cI cZ xt (nI nF) (nI nC) xg (fun c => nI (pl c)) (fun c => nI (cf c)) (fun c => nI (ct c)) aK bF bL bB bA bY bR oT oO oR bS) hD hS hA [0, 1, 2, 3, 4, 5, 6, 7, 8, 9, 10, 11, 12, 13, 14] rfl
    refine va_calli (va_runV (As := [.int (xs (4 * t9 + 1))]) (rest := []) ⟨hx, hb, hml, hown, hts⟩ (m_isSafe l dC dI cI cZ hm H.size xt xg (fun c => nI (pl c)) aK bF bL bB bA bY bR oT oO oR bS nF nC K cf ct (xs (4 * t9 + 1)) (hF) (hC) (hK8) (hS0)) (cwV 1 hts gl_77 rfl rfl rfl (by decide +kernel) ⟨Nat.le_of_ble_eq_true rfl, Nat.le_of_ble_eq_true rfl⟩) ⟨fun a U g mk q => by obtain ⟨q0, q1, qP, qK, qD⟩ := q; exact ⟨q0, q1, qP, va_K.moved (u := U) (U := U.calling g mk a) (Vm.Alike.refl U.vm) qK, qD⟩, va_recv hK hP (ci := 0) (q0 := 0) rfl rfl, fun U hU hW => ⟨rfl, by rw [hU], by rw [hU]; exact hPc, va_K.moved hW.alike hKc, hDc.weaken (fun _ _ _ _ => trivial)⟩⟩ rfl rfl hl.1 rfl (lv_room (Nat.le_of_ble_eq_true rfl)) d_L_law_374 ⟨hce, hsl⟩) hS (fun q _ h => hFc q h) hFc (fun r14 u9 t H1 locs ht hvm hw hB hz1 hk1 hS => ?_)
    obtain ⟨xt9, xg9, bF9, bL9, bB9, bA9, bY9⟩ := u9
    obtain ⟨hP1, hK1, hD1⟩ := hB
    rw [ht] at hP1
    try dsimp only at hw hP1 hD1
    obtain ⟨hP, hD⟩ := va_join (wr := ((ho, .inl (cJ, 1, .inr (.inl fo9))) :: wC hc cI (nI nF) (nI nC) yn yt (nI ga) ym (fun c => nI (pl c)) (fun c => nI (cf c)) (fun c => nI (ct c)) aK eB eE eA eL eN eC eS eW eT)) (w1 := wM hm cI cZ xt9 (nI nF) (nI nC) xg9 (fun c => nI (pl c)) (fun c => nI (cf c)) (fun c => nI (ct c)) aK bF9 bL9 bB9 bA9 bY9 bR oT oO oR bS) hP hD [0, 1, 2, 3, 4, 5, 6, 7, 8, 9, 10, 11, 12, 13, 14] [15, 16, 17, 18, 19, 20, 21, 22, 23, 24, 25, 26, 27, 28, 29, 30, 31, 32] rfl rfl (by decide) (by decide) hk1 hFc hP1 hD1
    generalize H1 = H at hP hS ⊢
    have hP := hP.sub (ws' := (wM hm cI cZ xt9 (nI nF) (nI nC) xg9 (fun c => nI (pl c)) (fun c => nI (cf c)) (fun c => nI (ct c)) aK bF9 bL9 bB9 bA9 bY9 bR oT oO oR bS ++ ((ho, .inl (cJ, 1, .inr (.inl fo9))) :: wC hc cI (nI nF) (nI nC) yn yt (nI ga) ym (fun c => nI (pl c)) (fun c => nI (cf c)) (fun c => nI (ct c)) aK eB eE eA eL eN eC eS eW eT))) [18, 19, 20, 21, 22, 23, 24, 25, 26, 27, 28, 29, 30, 31, 32, 0, 1, 2, 3, 4, 5, 6, 7, 8, 9, 10, 11, 12, 13, 14, 15, 16, 17] rfl
    have hD := hD.sub (ws' := (wM hm cI cZ xt9 (nI nF) (nI nC) xg9 (fun c => nI (pl c)) (fun c => nI (cf c)) (fun c => nI (ct c)) aK bF9 bL9 bB9 bA9 bY9 bR oT oO oR bS ++ ((ho, .inl (cJ, 1, .inr (.inl fo9))) :: wC hc cI (nI nF) (nI nC) yn yt (nI ga) ym (fun c => nI (pl c)) (fun c => nI (cf c)) (fun c => nI (ct c)) aK eB eE eA eL eN eC eS eW eT))) [18, 19, 20, 21, 22, 23, 24, 25, 26, 27, 28, 29, 30, 31, 32, 0, 1, 2, 3, 4, 5, 6, 7, 8, 9, 10, 11, 12, 13, 14, 15, 16, 17] (by decide) rfl
    rcases hw with ⟨hb2, hu1⟩ | ⟨i2, hi2, hf2, ⟨hgt, hu1⟩ | ⟨hle, hu1, hrr⟩⟩
    · subst hu1
      refine lv_istore (lv' := [(6, .int r14), (5, .int (nI 1)), (4, .int (nI (4 * t9))), (3, .ref ho), (2, .ref (hm 0)), (1, .ref (hc 0)), (0, .ref b)]) hx hb d_L_law_377 hl (by decide) rfl (fun ls hl => ?_)
      refine lv_aload_n hx hb d_L_law_379 rfl (lv_at hl 4 rfl) ?_
      have hPc := hP.sub (ws' := wM hm cI cZ (nI 1) (nI nF) (nI nC) xg9 (fun c => nI (pl c)) (fun c => nI (cf c)) (fun c => nI (ct c)) aK bF9 bL9 bB9 bA9 bY9 bR oT oO oR bS) [0, 1, 2, 3, 4, 5, 6, 7, 8, 9, 10, 11, 12, 13, 14] rfl
      have hDc := hD.sub (ws' := wM hm cI cZ (nI 1) (nI nF) (nI nC) xg9 (fun c => nI (pl c)) (fun c => nI (cf c)) (fun c => nI (ct c)) aK bF9 bL9 bB9 bA9 bY9 bR oT oO oR bS) [0, 1, 2, 3, 4, 5, 6, 7, 8, 9, 10, 11, 12, 13, 14] (by decide) rfl
      have hKc := hK.sub (tys' := tyM cI cZ) [0, 1] rfl
      have hFc := va_free (wc := wM hm cI cZ (nI 1) (nI nF) (nI nC) xg9 (fun c => nI (pl c)) (fun c => nI (cf c)) (fun c => nI (ct c)) aK bF9 bL9 bB9 bA9 bY9 bR oT oO oR bS) hD hS hA [0, 1, 2, 3, 4, 5, 6, 7, 8, 9, 10, 11, 12, 13, 14] rfl
      refine va_calli (va_runV (As := []) (rest := []) ⟨hx, hb, hml, hown, hts⟩ (m_thrown l dC dI cI cZ hm H.size (nI 1) (nI nF) (nI nC) xg9 (fun c => nI (pl c)) (fun c => nI (cf c)) (fun c => nI (ct c)) aK bF9 bL9 bB9 bA9 bY9 bR oT oO oR bS  ) (cwV 0 hts gl_78 rfl rfl rfl (by decide +kernel) ⟨Nat.le_of_ble_eq_true rfl, Nat.le_of_ble_eq_true rfl⟩) ⟨fun a U g mk q => by obtain ⟨q0, q1, qP, qK, qD⟩ := q; exact ⟨q0, q1, qP, va_K.moved (u := U) (U := U.calling g mk a) (Vm.Alike.refl U.vm) qK, qD⟩, va_recv hK hP (ci := 0) (q0 := 0) rfl rfl, fun U hU hW => ⟨rfl, by rw [hU], by rw [hU]; exact hPc, va_K.moved hW.alike hKc, hDc.weaken (fun _ _ _ _ => trivial)⟩⟩ rfl rfl hl.1 rfl (lv_room (Nat.le_of_ble_eq_true rfl)) d_L_law_380 ⟨hce, hsl⟩) hS (fun q _ h => hFc q h) hFc (fun r15 u9 t H1 locs ht hvm hw hB hz1 hk1 hS => ?_)
      obtain ⟨hP1, hK1, hD1⟩ := hB
      rw [ht] at hP1
      try dsimp only at hw hP1 hD1
      obtain ⟨hP, hD⟩ := va_join (wr := ((ho, .inl (cJ, 1, .inr (.inl fo9))) :: wC hc cI (nI nF) (nI nC) yn yt (nI ga) ym (fun c => nI (pl c)) (fun c => nI (cf c)) (fun c => nI (ct c)) aK eB eE eA eL eN eC eS eW eT)) (w1 := wM hm cI cZ (nI 1) (nI nF) (nI nC) xg9 (fun c => nI (pl c)) (fun c => nI (cf c)) (fun c => nI (ct c)) aK bF9 bL9 bB9 bA9 bY9 bR oT oO oR bS) hP hD [0, 1, 2, 3, 4, 5, 6, 7, 8, 9, 10, 11, 12, 13, 14] [15, 16, 17, 18, 19, 20, 21, 22, 23, 24, 25, 26, 27, 28, 29, 30, 31, 32] rfl rfl (by decide) (by decide) hk1 hFc hP1 hD1
      generalize H1 = H at hP hS ⊢
      have hP := hP.sub (ws' := (wM hm cI cZ (nI 1) (nI nF) (nI nC) xg9 (fun c => nI (pl c)) (fun c => nI (cf c)) (fun c => nI (ct c)) aK bF9 bL9 bB9 bA9 bY9 bR oT oO oR bS ++ ((ho, .inl (cJ, 1, .inr (.inl fo9))) :: wC hc cI (nI nF) (nI nC) yn yt (nI ga) ym (fun c => nI (pl c)) (fun c => nI (cf c)) (fun c => nI (ct c)) aK eB eE eA eL eN eC eS eW eT))) [18, 19, 20, 21, 22, 23, 24, 25, 26, 27, 28, 29, 30, 31, 32, 0, 1, 2, 3, 4, 5, 6, 7, 8, 9, 10, 11, 12, 13, 14, 15, 16, 17] rfl
      have hD := hD.sub (ws' := (wM hm cI cZ (nI 1) (nI nF) (nI nC) xg9 (fun c => nI (pl c)) (fun c => nI (cf c)) (fun c => nI (ct c)) aK bF9 bL9 bB9 bA9 bY9 bR oT oO oR bS ++ ((ho, .inl (cJ, 1, .inr (.inl fo9))) :: wC hc cI (nI nF) (nI nC) yn yt (nI ga) ym (fun c => nI (pl c)) (fun c => nI (cf c)) (fun c => nI (ct c)) aK eB eE eA eL eN eC eS eW eT))) [18, 19, 20, 21, 22, 23, 24, 25, 26, 27, 28, 29, 30, 31, 32, 0, 1, 2, 3, 4, 5, 6, 7, 8, 9, 10, 11, 12, 13, 14, 15, 16, 17] (by decide) rfl
      subst hw
      refine lv_iload hx hb d_L_law_383 (lv_at hl 1 rfl) ?_
      refine lv_icmp_eq (tgt := 390) hx hb d_L_law_385 (by decide) (fun _ => ?_) (fun c9 => absurd c9 (by decide +kernel))
      refine lv_iload hx hb d_L_law_390 (lv_at hl 1 rfl) ?_
      refine lv_if_ne (tgt := 414) hx hb d_L_law_392 (by decide) (fun _ => ?_) (fun c9 => absurd c9 (by decide +kernel))
      refine lv_goto (tgt := 613) hx hb d_L_law_414 (by decide) ?_
      exact next H locs ls ⟨_, _, _, _, _, _, _, _, _, _, _, _, _, _, _, _, _, _, _, _, _, _, _, _, _, _, _, _, _, _, _, _, ⟨hF, hC, hS0, hpl, hcl, fun h9 => absurd h9 (Nat.succ_ne_zero _)⟩, hga, hP, hD, hS⟩ (lv_sub hl [2, 3, 4, 5, 6] rfl)
    · first | exact absurd ⟨i, hi, hfi⟩ hb2 | exact absurd ⟨i2, hi2, hf2⟩ hb9 | exact absurd (hfit.mp hle) (by omega) | exact absurd (hfit.mpr hfew) (by omega)
    · first | exact absurd ⟨i, hi, hfi⟩ hb2 | exact absurd ⟨i2, hi2, hf2⟩ hb9 | exact absurd (hfit.mp hle) (by omega) | exact absurd (hfit.mpr hfew) (by omega)
  · subst hr9
    subst hg1
    refine lv_istore (lv' := [(5, .int (nI 2)), (4, .int (nI (4 * t9))), (3, .ref ho), (2, .ref (hm 0)), (1, .ref (hc 0)), (0, .ref b)]) hx hb d_L_law_365 hl (by decide) rfl (fun ls hl => ?_)
    refine lv_aload_n hx hb d_L_law_367 rfl (lv_at hl 3 rfl) ?_
    refine lv_aload_n hx hb d_L_law_368 rfl (lv_at hl 5 rfl) ?_
    refine lv_iload hx hb d_L_law_369 (lv_at hl 1 rfl) ?_
    refine lv_iconst (v := nI 1) hx hb d_L_law_371 (by decide +kernel) ?_
    refine lv_iadd hx hb d_L_law_372 ?_
    refine lv_topi (fun z16 ez16 => ?_)
    obtain rfl : z16 = nI (4 * t9 + 1) := ez16.trans (nI_add _ _)
    refine va_sld hx hb hX hbl hbA hS (pk_in (4 * t9 + 1) L (by omega)) d_L_law_373 ?_
    refine lv_topi (fun z17 ez17 => ?_)
    obtain rfl : z17 = xs (4 * t9 + 1) := ez17.trans (congrArg xs (nI_clamp (by omega)))
    have hPc := hP.sub (ws' := wM hm cI cZ xt (nI nF) (nI nC) xg (fun c => nI (pl c)) (fun c => nI (cf c)) (fun c => nI (ct c)) aK bF bL bB bA bY bR oT oO oR bS) [0, 1, 2, 3, 4, 5, 6, 7, 8, 9, 10, 11, 12, 13, 14] rfl
    have hDc := hD.sub (ws' := wM hm cI cZ xt (nI nF) (nI nC) xg (fun c => nI (pl c)) (fun c => nI (cf c)) (fun c => nI (ct c)) aK bF bL bB bA bY bR oT oO oR bS) [0, 1, 2, 3, 4, 5, 6, 7, 8, 9, 10, 11, 12, 13, 14] (by decide) rfl
    have hKc := hK.sub (tys' := tyM cI cZ) [0, 1] rfl
    have hFc := va_free (wc := wM hm cI cZ xt (nI nF) (nI nC) xg (fun c => nI (pl c)) (fun c => nI (cf c)) (fun c => nI (ct c)) aK bF bL bB bA bY bR oT oO oR bS) hD hS hA [0, 1, 2, 3, 4, 5, 6, 7, 8, 9, 10, 11, 12, 13, 14] rfl
    refine va_calli (va_runV (As := [.int (xs (4 * t9 + 1))]) (rest := []) ⟨hx, hb, hml, hown, hts⟩ (m_isSafe l dC dI cI cZ hm H.size xt xg (fun c => nI (pl c)) aK bF bL bB bA bY bR oT oO oR bS nF nC K cf ct (xs (4 * t9 + 1)) (hF) (hC) (hK8) (hS0)) (cwV 1 hts gl_77 rfl rfl rfl (by decide +kernel) ⟨Nat.le_of_ble_eq_true rfl, Nat.le_of_ble_eq_true rfl⟩) ⟨fun a U g mk q => by obtain ⟨q0, q1, qP, qK, qD⟩ := q; exact ⟨q0, q1, qP, va_K.moved (u := U) (U := U.calling g mk a) (Vm.Alike.refl U.vm) qK, qD⟩, va_recv hK hP (ci := 0) (q0 := 0) rfl rfl, fun U hU hW => ⟨rfl, by rw [hU], by rw [hU]; exact hPc, va_K.moved hW.alike hKc, hDc.weaken (fun _ _ _ _ => trivial)⟩⟩ rfl rfl hl.1 rfl (lv_room (Nat.le_of_ble_eq_true rfl)) d_L_law_374 ⟨hce, hsl⟩) hS (fun q _ h => hFc q h) hFc (fun r18 u9 t H1 locs ht hvm hw hB hz1 hk1 hS => ?_)
    obtain ⟨xt9, xg9, bF9, bL9, bB9, bA9, bY9⟩ := u9
    obtain ⟨hP1, hK1, hD1⟩ := hB
    rw [ht] at hP1
    try dsimp only at hw hP1 hD1
    obtain ⟨hP, hD⟩ := va_join (wr := ((ho, .inl (cJ, 1, .inr (.inl fo9))) :: wC hc cI (nI nF) (nI nC) yn9 yt9 (nI 1) ym (fun c => nI (pl c)) (fun c => nI (cf c)) (fun c => nI (ct c)) aK eB9 eE9 eA9 eL9 eN9 eC9 eS9 eW9 eT)) (w1 := wM hm cI cZ xt9 (nI nF) (nI nC) xg9 (fun c => nI (pl c)) (fun c => nI (cf c)) (fun c => nI (ct c)) aK bF9 bL9 bB9 bA9 bY9 bR oT oO oR bS) hP hD [0, 1, 2, 3, 4, 5, 6, 7, 8, 9, 10, 11, 12, 13, 14] [15, 16, 17, 18, 19, 20, 21, 22, 23, 24, 25, 26, 27, 28, 29, 30, 31, 32] rfl rfl (by decide) (by decide) hk1 hFc hP1 hD1
    generalize H1 = H at hP hS ⊢
    have hP := hP.sub (ws' := (wM hm cI cZ xt9 (nI nF) (nI nC) xg9 (fun c => nI (pl c)) (fun c => nI (cf c)) (fun c => nI (ct c)) aK bF9 bL9 bB9 bA9 bY9 bR oT oO oR bS ++ ((ho, .inl (cJ, 1, .inr (.inl fo9))) :: wC hc cI (nI nF) (nI nC) yn9 yt9 (nI 1) ym (fun c => nI (pl c)) (fun c => nI (cf c)) (fun c => nI (ct c)) aK eB9 eE9 eA9 eL9 eN9 eC9 eS9 eW9 eT))) [18, 19, 20, 21, 22, 23, 24, 25, 26, 27, 28, 29, 30, 31, 32, 0, 1, 2, 3, 4, 5, 6, 7, 8, 9, 10, 11, 12, 13, 14, 15, 16, 17] rfl
    have hD := hD.sub (ws' := (wM hm cI cZ xt9 (nI nF) (nI nC) xg9 (fun c => nI (pl c)) (fun c => nI (cf c)) (fun c => nI (ct c)) aK bF9 bL9 bB9 bA9 bY9 bR oT oO oR bS ++ ((ho, .inl (cJ, 1, .inr (.inl fo9))) :: wC hc cI (nI nF) (nI nC) yn9 yt9 (nI 1) ym (fun c => nI (pl c)) (fun c => nI (cf c)) (fun c => nI (ct c)) aK eB9 eE9 eA9 eL9 eN9 eC9 eS9 eW9 eT))) [18, 19, 20, 21, 22, 23, 24, 25, 26, 27, 28, 29, 30, 31, 32, 0, 1, 2, 3, 4, 5, 6, 7, 8, 9, 10, 11, 12, 13, 14, 15, 16, 17] (by decide) rfl
    rcases hw with ⟨hb2, hu1⟩ | ⟨i2, hi2, hf2, ⟨hgt, hu1⟩ | ⟨hle, hu1, hrr⟩⟩
    · first | exact absurd ⟨i, hi, hfi⟩ hb2 | exact absurd ⟨i2, hi2, hf2⟩ hb9 | exact absurd (hfit.mp hle) (by omega) | exact absurd (hfit.mpr hfew) (by omega)
    · subst hu1
      refine lv_istore (lv' := [(6, .int r18), (5, .int (nI 2)), (4, .int (nI (4 * t9))), (3, .ref ho), (2, .ref (hm 0)), (1, .ref (hc 0)), (0, .ref b)]) hx hb d_L_law_377 hl (by decide) rfl (fun ls hl => ?_)
      refine lv_aload_n hx hb d_L_law_379 rfl (lv_at hl 4 rfl) ?_
      have hPc := hP.sub (ws' := wM hm cI cZ (nI 2) (nI nF) (nI nC) xg9 (fun c => nI (pl c)) (fun c => nI (cf c)) (fun c => nI (ct c)) aK bF9 bL9 bB9 bA9 bY9 bR oT oO oR bS) [0, 1, 2, 3, 4, 5, 6, 7, 8, 9, 10, 11, 12, 13, 14] rfl
      have hDc := hD.sub (ws' := wM hm cI cZ (nI 2) (nI nF) (nI nC) xg9 (fun c => nI (pl c)) (fun c => nI (cf c)) (fun c => nI (ct c)) aK bF9 bL9 bB9 bA9 bY9 bR oT oO oR bS) [0, 1, 2, 3, 4, 5, 6, 7, 8, 9, 10, 11, 12, 13, 14] (by decide) rfl
      have hKc := hK.sub (tys' := tyM cI cZ) [0, 1] rfl
      have hFc := va_free (wc := wM hm cI cZ (nI 2) (nI nF) (nI nC) xg9 (fun c => nI (pl c)) (fun c => nI (cf c)) (fun c => nI (ct c)) aK bF9 bL9 bB9 bA9 bY9 bR oT oO oR bS) hD hS hA [0, 1, 2, 3, 4, 5, 6, 7, 8, 9, 10, 11, 12, 13, 14] rfl
      refine va_calli (va_runV (As := []) (rest := []) ⟨hx, hb, hml, hown, hts⟩ (m_thrown l dC dI cI cZ hm H.size (nI 2) (nI nF) (nI nC) xg9 (fun c => nI (pl c)) (fun c => nI (cf c)) (fun c => nI (ct c)) aK bF9 bL9 bB9 bA9 bY9 bR oT oO oR bS  ) (cwV 0 hts gl_78 rfl rfl rfl (by decide +kernel) ⟨Nat.le_of_ble_eq_true rfl, Nat.le_of_ble_eq_true rfl⟩) ⟨fun a U g mk q => by obtain ⟨q0, q1, qP, qK, qD⟩ := q; exact ⟨q0, q1, qP, va_K.moved (u := U) (U := U.calling g mk a) (Vm.Alike.refl U.vm) qK, qD⟩, va_recv hK hP (ci := 0) (q0 := 0) rfl rfl, fun U hU hW => ⟨rfl, by rw [hU], by rw [hU]; exact hPc, va_K.moved hW.alike hKc, hDc.weaken (fun _ _ _ _ => trivial)⟩⟩ rfl rfl hl.1 rfl (lv_room (Nat.le_of_ble_eq_true rfl)) d_L_law_380 ⟨hce, hsl⟩) hS (fun q _ h => hFc q h) hFc (fun r19 u9 t H1 locs ht hvm hw hB hz1 hk1 hS => ?_)
      obtain ⟨hP1, hK1, hD1⟩ := hB
      rw [ht] at hP1
      try dsimp only at hw hP1 hD1
      obtain ⟨hP, hD⟩ := va_join (wr := ((ho, .inl (cJ, 1, .inr (.inl fo9))) :: wC hc cI (nI nF) (nI nC) yn9 yt9 (nI 1) ym (fun c => nI (pl c)) (fun c => nI (cf c)) (fun c => nI (ct c)) aK eB9 eE9 eA9 eL9 eN9 eC9 eS9 eW9 eT)) (w1 := wM hm cI cZ (nI 2) (nI nF) (nI nC) xg9 (fun c => nI (pl c)) (fun c => nI (cf c)) (fun c => nI (ct c)) aK bF9 bL9 bB9 bA9 bY9 bR oT oO oR bS) hP hD [0, 1, 2, 3, 4, 5, 6, 7, 8, 9, 10, 11, 12, 13, 14] [15, 16, 17, 18, 19, 20, 21, 22, 23, 24, 25, 26, 27, 28, 29, 30, 31, 32] rfl rfl (by decide) (by decide) hk1 hFc hP1 hD1
      generalize H1 = H at hP hS ⊢
      have hP := hP.sub (ws' := (wM hm cI cZ (nI 2) (nI nF) (nI nC) xg9 (fun c => nI (pl c)) (fun c => nI (cf c)) (fun c => nI (ct c)) aK bF9 bL9 bB9 bA9 bY9 bR oT oO oR bS ++ ((ho, .inl (cJ, 1, .inr (.inl fo9))) :: wC hc cI (nI nF) (nI nC) yn9 yt9 (nI 1) ym (fun c => nI (pl c)) (fun c => nI (cf c)) (fun c => nI (ct c)) aK eB9 eE9 eA9 eL9 eN9 eC9 eS9 eW9 eT))) [18, 19, 20, 21, 22, 23, 24, 25, 26, 27, 28, 29, 30, 31, 32, 0, 1, 2, 3, 4, 5, 6, 7, 8, 9, 10, 11, 12, 13, 14, 15, 16, 17] rfl
      have hD := hD.sub (ws' := (wM hm cI cZ (nI 2) (nI nF) (nI nC) xg9 (fun c => nI (pl c)) (fun c => nI (cf c)) (fun c => nI (ct c)) aK bF9 bL9 bB9 bA9 bY9 bR oT oO oR bS ++ ((ho, .inl (cJ, 1, .inr (.inl fo9))) :: wC hc cI (nI nF) (nI nC) yn9 yt9 (nI 1) ym (fun c => nI (pl c)) (fun c => nI (cf c)) (fun c => nI (ct c)) aK eB9 eE9 eA9 eL9 eN9 eC9 eS9 eW9 eT))) [18, 19, 20, 21, 22, 23, 24, 25, 26, 27, 28, 29, 30, 31, 32, 0, 1, 2, 3, 4, 5, 6, 7, 8, 9, 10, 11, 12, 13, 14, 15, 16, 17] (by decide) rfl
      subst hw
      refine lv_iload hx hb d_L_law_383 (lv_at hl 1 rfl) ?_
      refine lv_icmp_eq (tgt := 390) hx hb d_L_law_385 (by decide) (fun _ => ?_) (fun c9 => absurd c9 (by decide +kernel))
      refine lv_iload hx hb d_L_law_390 (lv_at hl 1 rfl) ?_
      refine lv_if_ne (tgt := 414) hx hb d_L_law_392 (by decide) (fun _ => ?_) (fun c9 => absurd c9 (by decide +kernel))
      refine lv_goto (tgt := 613) hx hb d_L_law_414 (by decide) ?_
      exact next H locs ls ⟨nF, nC, pl, cf, ct, aK, _, _, _, _, _, _, _, _, _, _, _, _, _, _, _, _, 1, _, _, _, _, _, _, _, _, _, ⟨hF, hC, hS0, hpl, hcl, fun h9 => absurd h9 (Nat.succ_ne_zero _)⟩, Or.inr ⟨rfl, hGI⟩, hP, hD, hS⟩ (lv_sub hl [2, 3, 4, 5, 6] rfl)
    · first | exact absurd ⟨i, hi, hfi⟩ hb2 | exact absurd ⟨i2, hi2, hf2⟩ hb9 | exact absurd (hfit.mp hle) (by omega) | exact absurd (hfit.mpr hfew) (by omega)
set_option maxHeartbeats 4000000 in
set_option maxRecDepth 100000 in
theorem law_graph {p : Program} {l : Launch} {e : Env} {s : State} {m : MethodId} {below : List Frame} {meth : Method} {c : Code} {b L : Nat} {xs : Nat → Int32} (hst : l.stackTraces = false) (hx : p.tables.exec = Jvm.exec) (hb : c.code = code) (hr : meth.sig.returnType = ret) (hml : c.maxLocals = 7) (hown : s.vm.findClass R_L = some m.cls) (hts : ∀ w ∈ lw_tbl, w.before #[Value.ref b] s = true) (hX : va_X b L xs s s.heap) (hbl : b < s.heap.size) (dC : Nat → ClassId) (dI : Nat → Nat → Nat) (cI cZ cJ : ClassId) (hm hc : Nat → Nat) (ho K : Nat) (hK8 : 801 ≤ K) (sa : Nat → Nat) (A : Nat → Prop) (hA : ∀ q : Nat, s.heap.size ≤ q → A q) (hbA : ¬ A b) (hK : va_K (dC, dI) kls (tyL cI cZ cJ) s) (hT : xT sa s) (hC9 : xC s) (hZ : xZ A s s.heap) {Q : State → Prop} {t9 : Nat} (hL : 4 * t9 + 3 < L) (hL2 : L ≤ 2048) {H : Heap} {locs : List Loc} {ls : Array Slot} (hJ : lwJ dC dI cI cZ cJ hm hc ho K A s.heap t9 H locs) (hl : lv_has ls 7 [(4, .int (nI (4 * t9))), (3, .ref ho), (2, .ref (hm 0)), (1, .ref (hc 0)), (0, .ref b)]) (next : ∀ (H : Heap) (locs : List Loc) (ls : Array Slot), lwJ dC dI cI cZ cJ hm hc ho K A s.heap (t9 + 1) H locs → lv_has ls 7 [(4, .int (nI (4 * t9))), (3, .ref ho), (2, .ref (hm 0)), (1, .ref (hc 0)), (0, .ref b)] → W p l e room_1 s m #[Value.ref b] below meth c H locs (33 + (t9 + 1)) (10097 + 6 * (t9 + 1)) Q (F0 m 613 ls [])) : W p l e room_1 s m #[Value.ref b] below meth c H locs (33 + t9) (10097 + 6 * t9) Q (F0 m 274 ls []) := by
  obtain ⟨nF, nC, pl, cf, ct, aK, xt, xg, bF, bL, bB, bA, bY, bR, oT, oO, oR, bS, fo, yn, yt, ym, ga, eB, eE, eA, eL, eN, eC, eS, eW, eT, ⟨hF, hC, hS0, hpl, hcl, hz0⟩, hga, hP, hD, hS⟩ := hJ
  have hk := hts
  have hce1 : (33 + t9) + 1 ≤ room_1.cells := by show (33 + t9) + 1 ≤ 1066; omega
  have hsl1 : (10097 + 6 * t9) + 6 ≤ room_1.slots := by show (10097 + 6 * t9) + 6 ≤ 18343; omega
  have hce : 33 + (t9 + 1) + 0 ≤ room_1.cells := by show 33 + (t9 + 1) + 0 ≤ 1066; omega
  have hsl : 10097 + 6 * (t9 + 1) + 0 ≤ room_1.slots := by show 10097 + 6 * (t9 + 1) + 0 ≤ 18343; omega
  refine lv_aload_n hx hb d_L_law_274 rfl (lv_at hl 3 rfl) ?_
  refine lv_aload_n hx hb d_L_law_275 rfl (lv_at hl 4 rfl) ?_
  refine lv_iload hx hb d_L_law_276 (lv_at hl 0 rfl) ?_
  refine lv_iconst (v := nI 1) hx hb d_L_law_278 (by decide +kernel) ?_
  refine lv_iadd hx hb d_L_law_279 ?_
  refine lv_topi (fun z1 ez1 => ?_)
  obtain rfl : z1 = nI (4 * t9 + 1) := ez1.trans (nI_add _ _)
  refine va_sld hx hb hX hbl hbA hS (pk_in (4 * t9 + 1) L (by omega)) d_L_law_280 ?_
  refine lv_topi (fun z2 ez2 => ?_)
  obtain rfl : z2 = xs (4 * t9 + 1) := ez2.trans (congrArg xs (nI_clamp (by omega)))
  refine lv_aload_n hx hb d_L_law_281 rfl (lv_at hl 4 rfl) ?_
  refine lv_iload hx hb d_L_law_282 (lv_at hl 0 rfl) ?_
  refine lv_iconst (v := nI 2) hx hb d_L_law_284 (by decide +kernel) ?_
  refine lv_iadd hx hb d_L_law_285 ?_
  refine lv_topi (fun z3 ez3 => ?_)
  obtain rfl : z3 = nI (4 * t9 + 2) := ez3.trans (nI_add _ _)
  refine va_sld hx hb hX hbl hbA hS (pk_in (4 * t9 + 2) L (by omega)) d_L_law_286 ?_
  refine lv_topi (fun z4 ez4 => ?_)
  obtain rfl : z4 = xs (4 * t9 + 2) := ez4.trans (congrArg xs (nI_clamp (by omega)))
  refine lv_aload_n hx hb d_L_law_287 rfl (lv_at hl 4 rfl) ?_
  refine lv_iload hx hb d_L_law_288 (lv_at hl 0 rfl) ?_
  refine lv_iconst (v := nI 3) hx hb d_L_law_290 (by decide +kernel) ?_
  refine lv_iadd hx hb d_L_law_291 ?_
  refine lv_topi (fun z5 ez5 => ?_)
  obtain rfl : z5 = nI (4 * t9 + 3) := ez5.trans (nI_add _ _)
  refine va_sld hx hb hX hbl hbA hS (pk_in (4 * t9 + 3) L (by omega)) d_L_law_292 ?_
  refine lv_topi (fun z6 ez6 => ?_)
  obtain rfl : z6 = xs (4 * t9 + 3) := ez6.trans (congrArg xs (nI_clamp (by omega)))
  refine lv_aload_n hx hb d_L_law_293 rfl (lv_at hl 1 rfl) ?_
  have hPc := hP.sub (ws' := ((ho, .inl (cJ, 1, .inr (.inl fo))) :: wC hc cI (nI nF) (nI nC) yn yt (nI ga) ym (fun c => nI (pl c)) (fun c => nI (cf c)) (fun c => nI (ct c)) aK eB eE eA eL eN eC eS eW eT)) [15, 16, 17, 18, 19, 20, 21, 22, 23, 24, 25, 26, 27, 28, 29, 30, 31, 32] rfl
  have hDc := hD.sub (ws' := ((ho, .inl (cJ, 1, .inr (.inl fo))) :: wC hc cI (nI nF) (nI nC) yn yt (nI ga) ym (fun c => nI (pl c)) (fun c => nI (cf c)) (fun c => nI (ct c)) aK eB eE eA eL eN eC eS eW eT)) [15, 16, 17, 18, 19, 20, 21, 22, 23, 24, 25, 26, 27, 28, 29, 30, 31, 32] (by decide) rfl
  have hKc := hK.sub (tys' := tyH cI cJ) [0, 2] rfl
  have hFc := va_free (wc := ((ho, .inl (cJ, 1, .inr (.inl fo))) :: wC hc cI (nI nF) (nI nC) yn yt (nI ga) ym (fun c => nI (pl c)) (fun c => nI (cf c)) (fun c => nI (ct c)) aK eB eE eA eL eN eC eS eW eT)) hD hS hA [15, 16, 17, 18, 19, 20, 21, 22, 23, 24, 25, 26, 27, 28, 29, 30, 31, 32] rfl
  refine vx_calli (vx_runSX (hh := hh_L_graph) (As := [.ref (hc 0), .int (xs (4 * t9 + 1)), .int (xs (4 * t9 + 2)), .int (xs (4 * t9 + 3)), .ref ho]) (rest := []) ⟨hx, hb, hml, hown, hts⟩ (c_L_graph_ok l hst dC dI cI cJ hc ho H.size fo yn yt ym aK eB eE eA eL eN eC eS eW eT nF nC pl cf ct K ga (xs (4 * t9 + 1)) (xs (4 * t9 + 2)) (xs (4 * t9 + 3)) sa (hF) (hC) (hS0) (hpl) (hK8) (hcl) (hga)) (vx_cwSW 5 hts gl_69 rfl rfl rfl (by decide +kernel) ⟨Nat.le_of_ble_eq_true rfl, Nat.le_of_ble_eq_true rfl⟩) ⟨fun a U g mk q => by obtain ⟨q0, q1, qP, qK, qD, qT, qC, qZ⟩ := q; exact ⟨q0, q1, qP, va_K.moved (u := U) (U := U.calling g mk a) (Vm.Alike.refl U.vm) qK, qD, xT.same rfl qT, xC.moved (u := U) (U := U.calling g mk a) (Vm.Alike.refl U.vm) qC, xZ.blind (u := U) (U := U.calling g mk a) (Vm.Alike.refl U.vm) qZ⟩, fun U hU hW => ⟨rfl, by rw [hU], by rw [hU]; exact hPc, va_K.moved hW.alike hKc, hDc.weaken (fun _ _ _ _ => trivial), xT.warm hW hT, xC.moved hW.alike hC9, xZ.here hZ hS hFc hW.alike hU⟩⟩ rfl rfl hl.1 rfl (lv_room (Nat.le_of_ble_eq_true rfl)) d_L_law_294 ⟨hce1, hsl1⟩) hS (fun q _ h => hFc q h) hFc (fun q _ h => hFc q h) (fun E ce q9 u9 t H1 locs ht hvm hf9 => hf9.elim) (fun r1 u9 t H1 locs ht hvm hw hB hz1 hk1 hS => ?_)
  obtain ⟨fo9, yn9, yt9, yg9, eB9, eE9, eA9, eL9, eN9, eC9, eS9, eW9⟩ := u9
  obtain ⟨hP1, hK1, hD1⟩ := hB
  rw [ht] at hP1
  try dsimp only at hw hP1 hD1
  obtain ⟨hP, hD⟩ := va_join (wr := wM hm cI cZ xt (nI nF) (nI nC) xg (fun c => nI (pl c)) (fun c => nI (cf c)) (fun c => nI (ct c)) aK bF bL bB bA bY bR oT oO oR bS) (w1 := ((ho, .inl (cJ, 1, .inr (.inl fo9))) :: wC hc cI (nI nF) (nI nC) yn9 yt9 yg9 ym (fun c => nI (pl c)) (fun c => nI (cf c)) (fun c => nI (ct c)) aK eB9 eE9 eA9 eL9 eN9 eC9 eS9 eW9 eT)) hP hD [15, 16, 17, 18, 19, 20, 21, 22, 23, 24, 25, 26, 27, 28, 29, 30, 31, 32] [0, 1, 2, 3, 4, 5, 6, 7, 8, 9, 10, 11, 12, 13, 14] rfl rfl (by decide) (by decide) hk1 hFc hP1 hD1
  generalize H1 = H at hP hS ⊢
  have hP : va_P (dC, dI) kls (wM hm cI cZ xt (nI nF) (nI nC) xg (fun c => nI (pl c)) (fun c => nI (cf c)) (fun c => nI (ct c)) aK bF bL bB bA bY bR oT oO oR bS ++ ((ho, .inl (cJ, 1, .inr (.inl fo9))) :: wC hc cI (nI nF) (nI nC) yn9 yt9 yg9 ym (fun c => nI (pl c)) (fun c => nI (cf c)) (fun c => nI (ct c)) aK eB9 eE9 eA9 eL9 eN9 eC9 eS9 eW9 eT)) H := hP
  have hD : va_D A (wM hm cI cZ xt (nI nF) (nI nC) xg (fun c => nI (pl c)) (fun c => nI (cf c)) (fun c => nI (ct c)) aK bF bL bB bA bY bR oT oO oR bS ++ ((ho, .inl (cJ, 1, .inr (.inl fo9))) :: wC hc cI (nI nF) (nI nC) yn9 yt9 yg9 ym (fun c => nI (pl c)) (fun c => nI (cf c)) (fun c => nI (ct c)) aK eB9 eE9 eA9 eL9 eN9 eC9 eS9 eW9 eT)) := hD
  refine W.widen (k := 33 + (t9 + 1)) (n := 10097 + 6 * (t9 + 1)) (by omega) (by omega) ?_
  rcases hw with ⟨i, j, hi, hj, hfi, hgj, hfew, hv, hr9, hg1, hGI⟩ | ⟨hb9, hr9, hu9⟩ | ⟨i, j, hi, hj, hfi, hgj, hfew, hno, hr9, hg1, hGI⟩ | ⟨i, j, hi, hj, hfi, hgj, hmany, hr9, hg1, hGI⟩
  · subst hr9
    subst hg1
    refine lv_istore (lv' := [(5, .int (nI 0)), (4, .int (nI (4 * t9))), (3, .ref ho), (2, .ref (hm 0)), (1, .ref (hc 0)), (0, .ref b)]) hx hb d_L_law_297 hl (by decide) rfl (fun ls hl => ?_)
    refine lv_aload_n hx hb d_L_law_299 rfl (lv_at hl 3 rfl) ?_
    refine lv_aload_n hx hb d_L_law_300 rfl (lv_at hl 5 rfl) ?_
    refine lv_iload hx hb d_L_law_301 (lv_at hl 1 rfl) ?_
    refine lv_iconst (v := nI 1) hx hb d_L_law_303 (by decide +kernel) ?_
    refine lv_iadd hx hb d_L_law_304 ?_
    refine lv_topi (fun z7 ez7 => ?_)
    obtain rfl : z7 = nI (4 * t9 + 1) := ez7.trans (nI_add _ _)
    refine va_sld hx hb hX hbl hbA hS (pk_in (4 * t9 + 1) L (by omega)) d_L_law_305 ?_
    refine lv_topi (fun z8 ez8 => ?_)
    obtain rfl : z8 = xs (4 * t9 + 1) := ez8.trans (congrArg xs (nI_clamp (by omega)))
    refine lv_aload_n hx hb d_L_law_306 rfl (lv_at hl 5 rfl) ?_
    refine lv_iload hx hb d_L_law_307 (lv_at hl 1 rfl) ?_
    refine lv_iconst (v := nI 2) hx hb d_L_law_309 (by decide +kernel) ?_
    refine lv_iadd hx hb d_L_law_310 ?_
    refine lv_topi (fun z9 ez9 => ?_)
    obtain rfl : z9 = nI (4 * t9 + 2) := ez9.trans (nI_add _ _)
    refine va_sld hx hb hX hbl hbA hS (pk_in (4 * t9 + 2) L (by omega)) d_L_law_311 ?_
    refine lv_topi (fun z10 ez10 => ?_)
    obtain rfl : z10 = xs (4 * t9 + 2) := ez10.trans (congrArg xs (nI_clamp (by omega)))
    refine lv_aload_n hx hb d_L_law_312 rfl (lv_at hl 5 rfl) ?_
    refine lv_iload hx hb d_L_law_313 (lv_at hl 1 rfl) ?_
    refine lv_iconst (v := nI 3) hx hb d_L_law_315 (by decide +kernel) ?_
    refine lv_iadd hx hb d_L_law_316 ?_
    refine lv_topi (fun z11 ez11 => ?_)
    obtain rfl : z11 = nI (4 * t9 + 3) := ez11.trans (nI_add _ _)
    refine va_sld hx hb hX hbl hbA hS (pk_in (4 * t9 + 3) L (by omega)) d_L_law_317 ?_
    refine lv_topi (fun z12 ez12 => ?_)
    obtain rfl : z12 = xs (4 * t9 + 3) := ez12.trans (congrArg xs (nI_clamp (by omega)))
    have hPc := hP.sub (ws' := wM hm cI cZ xt (nI nF) (nI nC) xg (fun c => nI (pl c)) (fun c => nI (cf c)) (fun c => nI (ct c)) aK bF bL bB bA bY bR oT oO oR bS) [0, 1, 2, 3, 4, 5, 6, 7, 8, 9, 10, 11, 12, 13, 14] rfl
    have hDc := hD.sub (ws' := wM hm cI cZ xt (nI nF) (nI nC) xg (fun c => nI (pl c)) (fun c => nI (cf c)) (fun c => nI (ct c)) aK bF bL bB bA bY bR oT oO oR bS) [0, 1, 2, 3, 4, 5, 6, 7, 8, 9, 10, 11, 12, 13, 14] (by decide) rfl
    have hKc := hK.sub (tys' := tyM cI cZ) [0, 1] rfl
    have hFc := va_free (wc := wM hm cI cZ xt (nI nF) (nI nC) xg (fun c => nI (pl c)) (fun c => nI (cf c)) (fun c => nI (ct c)) aK bF bL bB bA bY bR oT oO oR bS) hD hS hA [0, 1, 2, 3, 4, 5, 6, 7, 8, 9, 10, 11, 12, 13, 14] rfl
    refine va_calli (va_runV (As := [.int (xs (4 * t9 + 1)), .int (xs (4 * t9 + 2)), .int (xs (4 * t9 + 3))]) (rest := []) ⟨hx, hb, hml, hown, hts⟩ (m_graph l dC dI cI cZ hm H.size xt xg (fun c => nI (pl c)) aK bF bL bB bA bY bR oT oO oR bS nF nC K cf ct (xs (4 * t9 + 1)) (xs (4 * t9 + 2)) (xs (4 * t9 + 3)) (hF) (hC) (hK8) (hS0)) (cwV 3 hts gl_71 rfl rfl rfl (by decide +kernel) ⟨Nat.le_of_ble_eq_true rfl, Nat.le_of_ble_eq_true rfl⟩) ⟨fun a U g mk q => by obtain ⟨q0, q1, qP, qK, qD⟩ := q; exact ⟨q0, q1, qP, va_K.moved (u := U) (U := U.calling g mk a) (Vm.Alike.refl U.vm) qK, qD⟩, va_recv hK hP (ci := 0) (q0 := 0) rfl rfl, fun U hU hW => ⟨rfl, by rw [hU], by rw [hU]; exact hPc, va_K.moved hW.alike hKc, hDc.weaken (fun _ _ _ _ => trivial)⟩⟩ rfl rfl hl.1 rfl (lv_room (Nat.le_of_ble_eq_true rfl)) d_L_law_318 ⟨hce, hsl⟩) hS (fun q _ h => hFc q h) hFc (fun r13 u9 t H1 locs ht hvm hw hB hz1 hk1 hS => ?_)
    obtain ⟨xt9, xg9, bF9, bL9, bB9, bA9, bY9, bS9⟩ := u9
    obtain ⟨hP1, hK1, hD1⟩ := hB
    rw [ht] at hP1
    try dsimp only at hw hP1 hD1
    obtain ⟨hP, hD⟩ := va_join (wr := ((ho, .inl (cJ, 1, .inr (.inl fo9))) :: wC hc cI (nI nF) (nI nC) yn9 yt9 (nI 1) ym (fun c => nI (pl c)) (fun c => nI (cf c)) (fun c => nI (ct c)) aK eB9 eE9 eA9 eL9 eN9 eC9 eS9 eW9 eT)) (w1 := wM hm cI cZ xt9 (nI nF) (nI nC) xg9 (fun c => nI (pl c)) (fun c => nI (cf c)) (fun c => nI (ct c)) aK bF9 bL9 bB9 bA9 bY9 bR oT oO oR bS9) hP hD [0, 1, 2, 3, 4, 5, 6, 7, 8, 9, 10, 11, 12, 13, 14] [15, 16, 17, 18, 19, 20, 21, 22, 23, 24, 25, 26, 27, 28, 29, 30, 31, 32] rfl rfl (by decide) (by decide) hk1 hFc hP1 hD1
    generalize H1 = H at hP hS ⊢
    have hP := hP.sub (ws' := (wM hm cI cZ xt9 (nI nF) (nI nC) xg9 (fun c => nI (pl c)) (fun c => nI (cf c)) (fun c => nI (ct c)) aK bF9 bL9 bB9 bA9 bY9 bR oT oO oR bS9 ++ ((ho, .inl (cJ, 1, .inr (.inl fo9))) :: wC hc cI (nI nF) (nI nC) yn9 yt9 (nI 1) ym (fun c => nI (pl c)) (fun c => nI (cf c)) (fun c => nI (ct c)) aK eB9 eE9 eA9 eL9 eN9 eC9 eS9 eW9 eT))) [18, 19, 20, 21, 22, 23, 24, 25, 26, 27, 28, 29, 30, 31, 32, 0, 1, 2, 3, 4, 5, 6, 7, 8, 9, 10, 11, 12, 13, 14, 15, 16, 17] rfl
    have hD := hD.sub (ws' := (wM hm cI cZ xt9 (nI nF) (nI nC) xg9 (fun c => nI (pl c)) (fun c => nI (cf c)) (fun c => nI (ct c)) aK bF9 bL9 bB9 bA9 bY9 bR oT oO oR bS9 ++ ((ho, .inl (cJ, 1, .inr (.inl fo9))) :: wC hc cI (nI nF) (nI nC) yn9 yt9 (nI 1) ym (fun c => nI (pl c)) (fun c => nI (cf c)) (fun c => nI (ct c)) aK eB9 eE9 eA9 eL9 eN9 eC9 eS9 eW9 eT))) [18, 19, 20, 21, 22, 23, 24, 25, 26, 27, 28, 29, 30, 31, 32, 0, 1, 2, 3, 4, 5, 6, 7, 8, 9, 10, 11, 12, 13, 14, 15, 16, 17] (by decide) rfl
    clear hw hP1 hK1 hD1 hPc hDc hKc hFc hk1 hz1 hvm ht
    refine lv_istore (lv' := [(6, .int r13), (5, .int (nI 0)), (4, .int (nI (4 * t9))), (3, .ref ho), (2, .ref (hm 0)), (1, .ref (hc 0)), (0, .ref b)]) hx hb d_L_law_321 hl (by decide) rfl (fun ls hl => ?_)
    refine lv_goto (tgt := 613) hx hb d_L_law_323 (by decide) ?_
    exact next H locs ls ⟨nF, nC, pl, cf, ct, aK, _, _, _, _, _, _, _, _, _, _, _, _, _, _, _, _, 1, _, _, _, _, _, _, _, _, _, ⟨hF, hC, hS0, hpl, hcl, fun h9 => absurd h9 (Nat.succ_ne_zero _)⟩, Or.inr ⟨rfl, hGI⟩, hP, hD, hS⟩ (lv_sub hl [2, 3, 4, 5, 6] rfl)
  · subst hr9
    cases hu9
    refine lv_istore (lv' := [(5, .int (nI 1)), (4, .int (nI (4 * t9))), (3, .ref ho), (2, .ref (hm 0)), (1, .ref (hc 0)), (0, .ref b)]) hx hb d_L_law_297 hl (by decide) rfl (fun ls hl => ?_)
    refine lv_aload_n hx hb d_L_law_299 rfl (lv_at hl 3 rfl) ?_
    refine lv_aload_n hx hb d_L_law_300 rfl (lv_at hl 5 rfl) ?_
    refine lv_iload hx hb d_L_law_301 (lv_at hl 1 rfl) ?_
    refine lv_iconst (v := nI 1) hx hb d_L_law_303 (by decide +kernel) ?_
    refine lv_iadd hx hb d_L_law_304 ?_
    refine lv_topi (fun z14 ez14 => ?_)
    obtain rfl : z14 = nI (4 * t9 + 1) := ez14.trans (nI_add _ _)
    refine va_sld hx hb hX hbl hbA hS (pk_in (4 * t9 + 1) L (by omega)) d_L_law_305 ?_
    refine lv_topi (fun z15 ez15 => ?_)
    obtain rfl : z15 = xs (4 * t9 + 1) := ez15.trans (congrArg xs (nI_clamp (by omega)))
    refine lv_aload_n hx hb d_L_law_306 rfl (lv_at hl 5 rfl) ?_
    refine lv_iload hx hb d_L_law_307 (lv_at hl 1 rfl) ?_
    refine lv_iconst (v := nI 2) hx hb d_L_law_309 (by decide +kernel) ?_
    refine lv_iadd hx hb d_L_law_310 ?_
    refine lv_topi (fun z16 ez16 => ?_)
    obtain rfl : z16 = nI (4 * t9 + 2) := ez16.trans (nI_add _ _)
    refine va_sld hx hb hX hbl hbA hS (pk_in (4 * t9 + 2) L (by omega)) d_L_law_311 ?_
    refine lv_topi (fun z17 ez17 => ?_)
    obtain rfl : z17 = xs (4 * t9 + 2) := ez17.trans (congrArg xs (nI_clamp (by omega)))
    refine lv_aload_n hx hb d_L_law_312 rfl (lv_at hl 5 rfl) ?_
    refine lv_iload hx hb d_L_law_313 (lv_at hl 1 rfl) ?_
    refine lv_iconst (v := nI 3) hx hb d_L_law_315 (by decide +kernel) ?_
    refine lv_iadd hx hb d_L_law_316 ?_
    refine lv_topi (fun z18 ez18 => ?_)
    obtain rfl : z18 = nI (4 * t9 + 3) := ez18.trans (nI_add _ _)
    refine va_sld hx hb hX hbl hbA hS (pk_in (4 * t9 + 3) L (by omega)) d_L_law_317 ?_
    refine lv_topi (fun z19 ez19 => ?_)
    obtain rfl : z19 = xs (4 * t9 + 3) := ez19.trans (congrArg xs (nI_clamp (by omega)))
    have hPc := hP.sub (ws' := wM hm cI cZ xt (nI nF) (nI nC) xg (fun c => nI (pl c)) (fun c => nI (cf c)) (fun c => nI (ct c)) aK bF bL bB bA bY bR oT oO oR bS) [0, 1, 2, 3, 4, 5, 6, 7, 8, 9, 10, 11, 12, 13, 14] rfl
    have hDc := hD.sub (ws' := wM hm cI cZ xt (nI nF) (nI nC) xg (fun c => nI (pl c)) (fun c => nI (cf c)) (fun c => nI (ct c)) aK bF bL bB bA bY bR oT oO oR bS) [0, 1, 2, 3, 4, 5, 6, 7, 8, 9, 10, 11, 12, 13, 14] (by decide) rfl
    have hKc := hK.sub (tys' := tyM cI cZ) [0, 1] rfl
    have hFc := va_free (wc := wM hm cI cZ xt (nI nF) (nI nC) xg (fun c => nI (pl c)) (fun c => nI (cf c)) (fun c => nI (ct c)) aK bF bL bB bA bY bR oT oO oR bS) hD hS hA [0, 1, 2, 3, 4, 5, 6, 7, 8, 9, 10, 11, 12, 13, 14] rfl
    refine va_calli (va_runV (As := [.int (xs (4 * t9 + 1)), .int (xs (4 * t9 + 2)), .int (xs (4 * t9 + 3))]) (rest := []) ⟨hx, hb, hml, hown, hts⟩ (m_graph l dC dI cI cZ hm H.size xt xg (fun c => nI (pl c)) aK bF bL bB bA bY bR oT oO oR bS nF nC K cf ct (xs (4 * t9 + 1)) (xs (4 * t9 + 2)) (xs (4 * t9 + 3)) (hF) (hC) (hK8) (hS0)) (cwV 3 hts gl_71 rfl rfl rfl (by decide +kernel) ⟨Nat.le_of_ble_eq_true rfl, Nat.le_of_ble_eq_true rfl⟩) ⟨fun a U g mk q => by obtain ⟨q0, q1, qP, qK, qD⟩ := q; exact ⟨q0, q1, qP, va_K.moved (u := U) (U := U.calling g mk a) (Vm.Alike.refl U.vm) qK, qD⟩, va_recv hK hP (ci := 0) (q0 := 0) rfl rfl, fun U hU hW => ⟨rfl, by rw [hU], by rw [hU]; exact hPc, va_K.moved hW.alike hKc, hDc.weaken (fun _ _ _ _ => trivial)⟩⟩ rfl rfl hl.1 rfl (lv_room (Nat.le_of_ble_eq_true rfl)) d_L_law_318 ⟨hce, hsl⟩) hS (fun q _ h => hFc q h) hFc (fun r20 u9 t H1 locs ht hvm hw hB hz1 hk1 hS => ?_)
    obtain ⟨xt9, xg9, bF9, bL9, bB9, bA9, bY9, bS9⟩ := u9
    obtain ⟨hP1, hK1, hD1⟩ := hB
    rw [ht] at hP1
    try dsimp only at hw hP1 hD1
    obtain ⟨hP, hD⟩ := va_join (wr := ((ho, .inl (cJ, 1, .inr (.inl fo9))) :: wC hc cI (nI nF) (nI nC) yn yt (nI ga) ym (fun c => nI (pl c)) (fun c => nI (cf c)) (fun c => nI (ct c)) aK eB eE eA eL eN eC eS eW eT)) (w1 := wM hm cI cZ xt9 (nI nF) (nI nC) xg9 (fun c => nI (pl c)) (fun c => nI (cf c)) (fun c => nI (ct c)) aK bF9 bL9 bB9 bA9 bY9 bR oT oO oR bS9) hP hD [0, 1, 2, 3, 4, 5, 6, 7, 8, 9, 10, 11, 12, 13, 14] [15, 16, 17, 18, 19, 20, 21, 22, 23, 24, 25, 26, 27, 28, 29, 30, 31, 32] rfl rfl (by decide) (by decide) hk1 hFc hP1 hD1
    generalize H1 = H at hP hS ⊢
    have hP := hP.sub (ws' := (wM hm cI cZ xt9 (nI nF) (nI nC) xg9 (fun c => nI (pl c)) (fun c => nI (cf c)) (fun c => nI (ct c)) aK bF9 bL9 bB9 bA9 bY9 bR oT oO oR bS9 ++ ((ho, .inl (cJ, 1, .inr (.inl fo9))) :: wC hc cI (nI nF) (nI nC) yn yt (nI ga) ym (fun c => nI (pl c)) (fun c => nI (cf c)) (fun c => nI (ct c)) aK eB eE eA eL eN eC eS eW eT))) [18, 19, 20, 21, 22, 23, 24, 25, 26, 27, 28, 29, 30, 31, 32, 0, 1, 2, 3, 4, 5, 6, 7, 8, 9, 10, 11, 12, 13, 14, 15, 16, 17] rfl
    have hD := hD.sub (ws' := (wM hm cI cZ xt9 (nI nF) (nI nC) xg9 (fun c => nI (pl c)) (fun c => nI (cf c)) (fun c => nI (ct c)) aK bF9 bL9 bB9 bA9 bY9 bR oT oO oR bS9 ++ ((ho, .inl (cJ, 1, .inr (.inl fo9))) :: wC hc cI (nI nF) (nI nC) yn yt (nI ga) ym (fun c => nI (pl c)) (fun c => nI (cf c)) (fun c => nI (ct c)) aK eB eE eA eL eN eC eS eW eT))) [18, 19, 20, 21, 22, 23, 24, 25, 26, 27, 28, 29, 30, 31, 32, 0, 1, 2, 3, 4, 5, 6, 7, 8, 9, 10, 11, 12, 13, 14, 15, 16, 17] (by decide) rfl
    clear hw hP1 hK1 hD1 hPc hDc hKc hFc hk1 hz1 hvm ht
    refine lv_istore (lv' := [(6, .int r20), (5, .int (nI 1)), (4, .int (nI (4 * t9))), (3, .ref ho), (2, .ref (hm 0)), (1, .ref (hc 0)), (0, .ref b)]) hx hb d_L_law_321 hl (by decide) rfl (fun ls hl => ?_)
    refine lv_goto (tgt := 613) hx hb d_L_law_323 (by decide) ?_
    exact next H locs ls ⟨_, _, _, _, _, _, _, _, _, _, _, _, _, _, _, _, _, _, _, _, _, _, _, _, _, _, _, _, _, _, _, _, ⟨hF, hC, hS0, hpl, hcl, fun h9 => absurd h9 (Nat.succ_ne_zero _)⟩, hga, hP, hD, hS⟩ (lv_sub hl [2, 3, 4, 5, 6] rfl)
  · subst hr9
    subst hg1
    refine lv_istore (lv' := [(5, .int (nI 1)), (4, .int (nI (4 * t9))), (3, .ref ho), (2, .ref (hm 0)), (1, .ref (hc 0)), (0, .ref b)]) hx hb d_L_law_297 hl (by decide) rfl (fun ls hl => ?_)
    refine lv_aload_n hx hb d_L_law_299 rfl (lv_at hl 3 rfl) ?_
    refine lv_aload_n hx hb d_L_law_300 rfl (lv_at hl 5 rfl) ?_
    refine lv_iload hx hb d_L_law_301 (lv_at hl 1 rfl) ?_
    refine lv_iconst (v := nI 1) hx hb d_L_law_303 (by decide +kernel) ?_
    refine lv_iadd hx hb d_L_law_304 ?_
    refine lv_topi (fun z21 ez21 => ?_)
    obtain rfl : z21 = nI (4 * t9 + 1) := ez21.trans (nI_add _ _)
    refine va_sld hx hb hX hbl hbA hS (pk_in (4 * t9 + 1) L (by omega)) d_L_law_305 ?_
    refine lv_topi (fun z22 ez22 => ?_)
    obtain rfl : z22 = xs (4 * t9 + 1) := ez22.trans (congrArg xs (nI_clamp (by omega)))
    refine lv_aload_n hx hb d_L_law_306 rfl (lv_at hl 5 rfl) ?_
    refine lv_iload hx hb d_L_law_307 (lv_at hl 1 rfl) ?_
    refine lv_iconst (v := nI 2) hx hb d_L_law_309 (by decide +kernel) ?_
    refine lv_iadd hx hb d_L_law_310 ?_
    refine lv_topi (fun z23 ez23 => ?_)
    obtain rfl : z23 = nI (4 * t9 + 2) := ez23.trans (nI_add _ _)
    refine va_sld hx hb hX hbl hbA hS (pk_in (4 * t9 + 2) L (by omega)) d_L_law_311 ?_
    refine lv_topi (fun z24 ez24 => ?_)
    obtain rfl : z24 = xs (4 * t9 + 2) := ez24.trans (congrArg xs (nI_clamp (by omega)))
    refine lv_aload_n hx hb d_L_law_312 rfl (lv_at hl 5 rfl) ?_
    refine lv_iload hx hb d_L_law_313 (lv_at hl 1 rfl) ?_
    refine lv_iconst (v := nI 3) hx hb d_L_law_315 (by decide +kernel) ?_
    refine lv_iadd hx hb d_L_law_316 ?_
    refine lv_topi (fun z25 ez25 => ?_)
    obtain rfl : z25 = nI (4 * t9 + 3) := ez25.trans (nI_add _ _)
    refine va_sld hx hb hX hbl hbA hS (pk_in (4 * t9 + 3) L (by omega)) d_L_law_317 ?_
    refine lv_topi (fun z26 ez26 => ?_)
    obtain rfl : z26 = xs (4 * t9 + 3) := ez26.trans (congrArg xs (nI_clamp (by omega)))
    have hPc := hP.sub (ws' := wM hm cI cZ xt (nI nF) (nI nC) xg (fun c => nI (pl c)) (fun c => nI (cf c)) (fun c => nI (ct c)) aK bF bL bB bA bY bR oT oO oR bS) [0, 1, 2, 3, 4, 5, 6, 7, 8, 9, 10, 11, 12, 13, 14] rfl
    have hDc := hD.sub (ws' := wM hm cI cZ xt (nI nF) (nI nC) xg (fun c => nI (pl c)) (fun c => nI (cf c)) (fun c => nI (ct c)) aK bF bL bB bA bY bR oT oO oR bS) [0, 1, 2, 3, 4, 5, 6, 7, 8, 9, 10, 11, 12, 13, 14] (by decide) rfl
    have hKc := hK.sub (tys' := tyM cI cZ) [0, 1] rfl
    have hFc := va_free (wc := wM hm cI cZ xt (nI nF) (nI nC) xg (fun c => nI (pl c)) (fun c => nI (cf c)) (fun c => nI (ct c)) aK bF bL bB bA bY bR oT oO oR bS) hD hS hA [0, 1, 2, 3, 4, 5, 6, 7, 8, 9, 10, 11, 12, 13, 14] rfl
    refine va_calli (va_runV (As := [.int (xs (4 * t9 + 1)), .int (xs (4 * t9 + 2)), .int (xs (4 * t9 + 3))]) (rest := []) ⟨hx, hb, hml, hown, hts⟩ (m_graph l dC dI cI cZ hm H.size xt xg (fun c => nI (pl c)) aK bF bL bB bA bY bR oT oO oR bS nF nC K cf ct (xs (4 * t9 + 1)) (xs (4 * t9 + 2)) (xs (4 * t9 + 3)) (hF) (hC) (hK8) (hS0)) (cwV 3 hts gl_71 rfl rfl rfl (by decide +kernel) ⟨Nat.le_of_ble_eq_true rfl, Nat.le_of_ble_eq_true rfl⟩) ⟨fun a U g mk q => by obtain ⟨q0, q1, qP, qK, qD⟩ := q; exact ⟨q0, q1, qP, va_K.moved (u := U) (U := U.calling g mk a) (Vm.Alike.refl U.vm) qK, qD⟩, va_recv hK hP (ci := 0) (q0 := 0) rfl rfl, fun U hU hW => ⟨rfl, by rw [hU], by rw [hU]; exact hPc, va_K.moved hW.alike hKc, hDc.weaken (fun _ _ _ _ => trivial)⟩⟩ rfl rfl hl.1 rfl (lv_room (Nat.le_of_ble_eq_true rfl)) d_L_law_318 ⟨hce, hsl⟩) hS (fun q _ h => hFc q h) hFc (fun r27 u9 t H1 locs ht hvm hw hB hz1 hk1 hS => ?_)
    obtain ⟨xt9, xg9, bF9, bL9, bB9, bA9, bY9, bS9⟩ := u9
    obtain ⟨hP1, hK1, hD1⟩ := hB
    rw [ht] at hP1
    try dsimp only at hw hP1 hD1
    obtain ⟨hP, hD⟩ := va_join (wr := ((ho, .inl (cJ, 1, .inr (.inl fo9))) :: wC hc cI (nI nF) (nI nC) yn9 yt9 (nI 1) ym (fun c => nI (pl c)) (fun c => nI (cf c)) (fun c => nI (ct c)) aK eB9 eE9 eA9 eL9 eN9 eC9 eS9 eW9 eT)) (w1 := wM hm cI cZ xt9 (nI nF) (nI nC) xg9 (fun c => nI (pl c)) (fun c => nI (cf c)) (fun c => nI (ct c)) aK bF9 bL9 bB9 bA9 bY9 bR oT oO oR bS9) hP hD [0, 1, 2, 3, 4, 5, 6, 7, 8, 9, 10, 11, 12, 13, 14] [15, 16, 17, 18, 19, 20, 21, 22, 23, 24, 25, 26, 27, 28, 29, 30, 31, 32] rfl rfl (by decide) (by decide) hk1 hFc hP1 hD1
    generalize H1 = H at hP hS ⊢
    have hP := hP.sub (ws' := (wM hm cI cZ xt9 (nI nF) (nI nC) xg9 (fun c => nI (pl c)) (fun c => nI (cf c)) (fun c => nI (ct c)) aK bF9 bL9 bB9 bA9 bY9 bR oT oO oR bS9 ++ ((ho, .inl (cJ, 1, .inr (.inl fo9))) :: wC hc cI (nI nF) (nI nC) yn9 yt9 (nI 1) ym (fun c => nI (pl c)) (fun c => nI (cf c)) (fun c => nI (ct c)) aK eB9 eE9 eA9 eL9 eN9 eC9 eS9 eW9 eT))) [18, 19, 20, 21, 22, 23, 24, 25, 26, 27, 28, 29, 30, 31, 32, 0, 1, 2, 3, 4, 5, 6, 7, 8, 9, 10, 11, 12, 13, 14, 15, 16, 17] rfl
    have hD := hD.sub (ws' := (wM hm cI cZ xt9 (nI nF) (nI nC) xg9 (fun c => nI (pl c)) (fun c => nI (cf c)) (fun c => nI (ct c)) aK bF9 bL9 bB9 bA9 bY9 bR oT oO oR bS9 ++ ((ho, .inl (cJ, 1, .inr (.inl fo9))) :: wC hc cI (nI nF) (nI nC) yn9 yt9 (nI 1) ym (fun c => nI (pl c)) (fun c => nI (cf c)) (fun c => nI (ct c)) aK eB9 eE9 eA9 eL9 eN9 eC9 eS9 eW9 eT))) [18, 19, 20, 21, 22, 23, 24, 25, 26, 27, 28, 29, 30, 31, 32, 0, 1, 2, 3, 4, 5, 6, 7, 8, 9, 10, 11, 12, 13, 14, 15, 16, 17] (by decide) rfl
    clear hw hP1 hK1 hD1 hPc hDc hKc hFc hk1 hz1 hvm ht
    refine lv_istore (lv' := [(6, .int r27), (5, .int (nI 1)), (4, .int (nI (4 * t9))), (3, .ref ho), (2, .ref (hm 0)), (1, .ref (hc 0)), (0, .ref b)]) hx hb d_L_law_321 hl (by decide) rfl (fun ls hl => ?_)
    refine lv_goto (tgt := 613) hx hb d_L_law_323 (by decide) ?_
    exact next H locs ls ⟨nF, nC, pl, cf, ct, aK, _, _, _, _, _, _, _, _, _, _, _, _, _, _, _, _, 1, _, _, _, _, _, _, _, _, _, ⟨hF, hC, hS0, hpl, hcl, fun h9 => absurd h9 (Nat.succ_ne_zero _)⟩, Or.inr ⟨rfl, hGI⟩, hP, hD, hS⟩ (lv_sub hl [2, 3, 4, 5, 6] rfl)
  · subst hr9
    subst hg1
    refine lv_istore (lv' := [(5, .int (nI 2)), (4, .int (nI (4 * t9))), (3, .ref ho), (2, .ref (hm 0)), (1, .ref (hc 0)), (0, .ref b)]) hx hb d_L_law_297 hl (by decide) rfl (fun ls hl => ?_)
    refine lv_aload_n hx hb d_L_law_299 rfl (lv_at hl 3 rfl) ?_
    refine lv_aload_n hx hb d_L_law_300 rfl (lv_at hl 5 rfl) ?_
    refine lv_iload hx hb d_L_law_301 (lv_at hl 1 rfl) ?_
    refine lv_iconst (v := nI 1) hx hb d_L_law_303 (by decide +kernel) ?_
    refine lv_iadd hx hb d_L_law_304 ?_
    refine lv_topi (fun z28 ez28 => ?_)
    obtain rfl : z28 = nI (4 * t9 + 1) := ez28.trans (nI_add _ _)
    refine va_sld hx hb hX hbl hbA hS (pk_in (4 * t9 + 1) L (by omega)) d_L_law_305 ?_
    refine lv_topi (fun z29 ez29 => ?_)
    obtain rfl : z29 = xs (4 * t9 + 1) := ez29.trans (congrArg xs (nI_clamp (by omega)))
    refine lv_aload_n hx hb d_L_law_306 rfl (lv_at hl 5 rfl) ?_
    refine lv_iload hx hb d_L_law_307 (lv_at hl 1 rfl) ?_
    refine lv_iconst (v := nI 2) hx hb d_L_law_309 (by decide +kernel) ?_
    refine lv_iadd hx hb d_L_law_310 ?_
    refine lv_topi (fun z30 ez30 => ?_)
    obtain rfl : z30 = nI (4 * t9 + 2) := ez30.trans (nI_add _ _)
    refine va_sld hx hb hX hbl hbA hS (pk_in (4 * t9 + 2) L (by omega)) d_L_law_311 ?_
    refine lv_topi (fun z31 ez31 => ?_)
    obtain rfl : z31 = xs (4 * t9 + 2) := ez31.trans (congrArg xs (nI_clamp (by omega)))
    refine lv_aload_n hx hb d_L_law_312 rfl (lv_at hl 5 rfl) ?_
    refine lv_iload hx hb d_L_law_313 (lv_at hl 1 rfl) ?_
    refine lv_iconst (v := nI 3) hx hb d_L_law_315 (by decide +kernel) ?_
    refine lv_iadd hx hb d_L_law_316 ?_
    refine lv_topi (fun z32 ez32 => ?_)
    obtain rfl : z32 = nI (4 * t9 + 3) := ez32.trans (nI_add _ _)
    refine va_sld hx hb hX hbl hbA hS (pk_in (4 * t9 + 3) L (by omega)) d_L_law_317 ?_
    refine lv_topi (fun z33 ez33 => ?_)
    obtain rfl : z33 = xs (4 * t9 + 3) := ez33.trans (congrArg xs (nI_clamp (by omega)))
    have hPc := hP.sub (ws' := wM hm cI cZ xt (nI nF) (nI nC) xg (fun c => nI (pl c)) (fun c => nI (cf c)) (fun c => nI (ct c)) aK bF bL bB bA bY bR oT oO oR bS) [0, 1, 2, 3, 4, 5, 6, 7, 8, 9, 10, 11, 12, 13, 14] rfl
    have hDc := hD.sub (ws' := wM hm cI cZ xt (nI nF) (nI nC) xg (fun c => nI (pl c)) (fun c => nI (cf c)) (fun c => nI (ct c)) aK bF bL bB bA bY bR oT oO oR bS) [0, 1, 2, 3, 4, 5, 6, 7, 8, 9, 10, 11, 12, 13, 14] (by decide) rfl
    have hKc := hK.sub (tys' := tyM cI cZ) [0, 1] rfl
    have hFc := va_free (wc := wM hm cI cZ xt (nI nF) (nI nC) xg (fun c => nI (pl c)) (fun c => nI (cf c)) (fun c => nI (ct c)) aK bF bL bB bA bY bR oT oO oR bS) hD hS hA [0, 1, 2, 3, 4, 5, 6, 7, 8, 9, 10, 11, 12, 13, 14] rfl
    refine va_calli (va_runV (As := [.int (xs (4 * t9 + 1)), .int (xs (4 * t9 + 2)), .int (xs (4 * t9 + 3))]) (rest := []) ⟨hx, hb, hml, hown, hts⟩ (m_graph l dC dI cI cZ hm H.size xt xg (fun c => nI (pl c)) aK bF bL bB bA bY bR oT oO oR bS nF nC K cf ct (xs (4 * t9 + 1)) (xs (4 * t9 + 2)) (xs (4 * t9 + 3)) (hF) (hC) (hK8) (hS0)) (cwV 3 hts gl_71 rfl rfl rfl (by decide +kernel) ⟨Nat.le_of_ble_eq_true rfl, Nat.le_of_ble_eq_true rfl⟩) ⟨fun a U g mk q => by obtain ⟨q0, q1, qP, qK, qD⟩ := q; exact ⟨q0, q1, qP, va_K.moved (u := U) (U := U.calling g mk a) (Vm.Alike.refl U.vm) qK, qD⟩, va_recv hK hP (ci := 0) (q0 := 0) rfl rfl, fun U hU hW => ⟨rfl, by rw [hU], by rw [hU]; exact hPc, va_K.moved hW.alike hKc, hDc.weaken (fun _ _ _ _ => trivial)⟩⟩ rfl rfl hl.1 rfl (lv_room (Nat.le_of_ble_eq_true rfl)) d_L_law_318 ⟨hce, hsl⟩) hS (fun q _ h => hFc q h) hFc (fun r34 u9 t H1 locs ht hvm hw hB hz1 hk1 hS => ?_)
    obtain ⟨xt9, xg9, bF9, bL9, bB9, bA9, bY9, bS9⟩ := u9
    obtain ⟨hP1, hK1, hD1⟩ := hB
    rw [ht] at hP1
    try dsimp only at hw hP1 hD1
    obtain ⟨hP, hD⟩ := va_join (wr := ((ho, .inl (cJ, 1, .inr (.inl fo9))) :: wC hc cI (nI nF) (nI nC) yn9 yt9 (nI 1) ym (fun c => nI (pl c)) (fun c => nI (cf c)) (fun c => nI (ct c)) aK eB9 eE9 eA9 eL9 eN9 eC9 eS9 eW9 eT)) (w1 := wM hm cI cZ xt9 (nI nF) (nI nC) xg9 (fun c => nI (pl c)) (fun c => nI (cf c)) (fun c => nI (ct c)) aK bF9 bL9 bB9 bA9 bY9 bR oT oO oR bS9) hP hD [0, 1, 2, 3, 4, 5, 6, 7, 8, 9, 10, 11, 12, 13, 14] [15, 16, 17, 18, 19, 20, 21, 22, 23, 24, 25, 26, 27, 28, 29, 30, 31, 32] rfl rfl (by decide) (by decide) hk1 hFc hP1 hD1
    generalize H1 = H at hP hS ⊢
    have hP := hP.sub (ws' := (wM hm cI cZ xt9 (nI nF) (nI nC) xg9 (fun c => nI (pl c)) (fun c => nI (cf c)) (fun c => nI (ct c)) aK bF9 bL9 bB9 bA9 bY9 bR oT oO oR bS9 ++ ((ho, .inl (cJ, 1, .inr (.inl fo9))) :: wC hc cI (nI nF) (nI nC) yn9 yt9 (nI 1) ym (fun c => nI (pl c)) (fun c => nI (cf c)) (fun c => nI (ct c)) aK eB9 eE9 eA9 eL9 eN9 eC9 eS9 eW9 eT))) [18, 19, 20, 21, 22, 23, 24, 25, 26, 27, 28, 29, 30, 31, 32, 0, 1, 2, 3, 4, 5, 6, 7, 8, 9, 10, 11, 12, 13, 14, 15, 16, 17] rfl
    have hD := hD.sub (ws' := (wM hm cI cZ xt9 (nI nF) (nI nC) xg9 (fun c => nI (pl c)) (fun c => nI (cf c)) (fun c => nI (ct c)) aK bF9 bL9 bB9 bA9 bY9 bR oT oO oR bS9 ++ ((ho, .inl (cJ, 1, .inr (.inl fo9))) :: wC hc cI (nI nF) (nI nC) yn9 yt9 (nI 1) ym (fun c => nI (pl c)) (fun c => nI (cf c)) (fun c => nI (ct c)) aK eB9 eE9 eA9 eL9 eN9 eC9 eS9 eW9 eT))) [18, 19, 20, 21, 22, 23, 24, 25, 26, 27, 28, 29, 30, 31, 32, 0, 1, 2, 3, 4, 5, 6, 7, 8, 9, 10, 11, 12, 13, 14, 15, 16, 17] (by decide) rfl
    clear hw hP1 hK1 hD1 hPc hDc hKc hFc hk1 hz1 hvm ht
    refine lv_istore (lv' := [(6, .int r34), (5, .int (nI 2)), (4, .int (nI (4 * t9))), (3, .ref ho), (2, .ref (hm 0)), (1, .ref (hc 0)), (0, .ref b)]) hx hb d_L_law_321 hl (by decide) rfl (fun ls hl => ?_)
    refine lv_goto (tgt := 613) hx hb d_L_law_323 (by decide) ?_
    exact next H locs ls ⟨nF, nC, pl, cf, ct, aK, _, _, _, _, _, _, _, _, _, _, _, _, _, _, _, _, 1, _, _, _, _, _, _, _, _, _, ⟨hF, hC, hS0, hpl, hcl, fun h9 => absurd h9 (Nat.succ_ne_zero _)⟩, Or.inr ⟨rfl, hGI⟩, hP, hD, hS⟩ (lv_sub hl [2, 3, 4, 5, 6] rfl)
set_option maxHeartbeats 4000000 in
set_option maxRecDepth 100000 in
theorem law_bad {p : Program} {l : Launch} {e : Env} {s : State} {m : MethodId} {below : List Frame} {meth : Method} {c : Code} {b L : Nat} {xs : Nat → Int32} (hst : l.stackTraces = false) (hx : p.tables.exec = Jvm.exec) (hb : c.code = code) (hr : meth.sig.returnType = ret) (hml : c.maxLocals = 7) (hown : s.vm.findClass R_L = some m.cls) (hts : ∀ w ∈ lw_tbl, w.before #[Value.ref b] s = true) (hX : va_X b L xs s s.heap) (hbl : b < s.heap.size) (dC : Nat → ClassId) (dI : Nat → Nat → Nat) (cI cZ cJ : ClassId) (hm hc : Nat → Nat) (ho K : Nat) (hK8 : 801 ≤ K) (sa : Nat → Nat) (A : Nat → Prop) (hA : ∀ q : Nat, s.heap.size ≤ q → A q) (hbA : ¬ A b) (hK : va_K (dC, dI) kls (tyL cI cZ cJ) s) (hT : xT sa s) (hC9 : xC s) (hZ : xZ A s s.heap) {Q : State → Prop} {t9 : Nat} (hL : 4 * t9 + 3 < L) (hL2 : L ≤ 2048) {H : Heap} {locs : List Loc} {ls : Array Slot} (hJ : lwJ dC dI cI cZ cJ hm hc ho K A s.heap t9 H locs) (hl : lv_has ls 7 [(4, .int (nI (4 * t9))), (3, .ref ho), (2, .ref (hm 0)), (1, .ref (hc 0)), (0, .ref b)]) (next : ∀ (H : Heap) (locs : List Loc) (ls : Array Slot), lwJ dC dI cI cZ cJ hm hc ho K A s.heap (t9 + 1) H locs → lv_has ls 7 [(4, .int (nI (4 * t9))), (3, .ref ho), (2, .ref (hm 0)), (1, .ref (hc 0)), (0, .ref b)] → W p l e room_1 s m #[Value.ref b] below meth c H locs (33 + (t9 + 1)) (10097 + 6 * (t9 + 1)) Q (F0 m 613 ls [])) : W p l e room_1 s m #[Value.ref b] below meth c H locs (33 + t9) (10097 + 6 * t9) Q (F0 m 417 ls []) := by
  obtain ⟨nF, nC, pl, cf, ct, aK, xt, xg, bF, bL, bB, bA, bY, bR, oT, oO, oR, bS, fo, yn, yt, ym, ga, eB, eE, eA, eL, eN, eC, eS, eW, eT, ⟨hF, hC, hS0, hpl, hcl, hz0⟩, hga, hP, hD, hS⟩ := hJ
  have hk := hts
  have hce1 : (33 + t9) + 1 ≤ room_1.cells := by show (33 + t9) + 1 ≤ 1066; omega
  have hsl1 : (10097 + 6 * t9) + 6 ≤ room_1.slots := by show (10097 + 6 * t9) + 6 ≤ 18343; omega
  have hce : 33 + (t9 + 1) + 0 ≤ room_1.cells := by show 33 + (t9 + 1) + 0 ≤ 1066; omega
  have hsl : 10097 + 6 * (t9 + 1) + 0 ≤ room_1.slots := by show 10097 + 6 * (t9 + 1) + 0 ≤ 18343; omega
  refine lv_aload_n hx hb d_L_law_417 rfl (lv_at hl 3 rfl) ?_
  refine lv_aload_n hx hb d_L_law_418 rfl (lv_at hl 4 rfl) ?_
  refine lv_iload hx hb d_L_law_419 (lv_at hl 0 rfl) ?_
  refine lv_iconst (v := nI 1) hx hb d_L_law_421 (by decide +kernel) ?_
  refine lv_iadd hx hb d_L_law_422 ?_
  refine lv_topi (fun z1 ez1 => ?_)
  obtain rfl : z1 = nI (4 * t9 + 1) := ez1.trans (nI_add _ _)
  refine va_sld hx hb hX hbl hbA hS (pk_in (4 * t9 + 1) L (by omega)) d_L_law_423 ?_
  refine lv_topi (fun z2 ez2 => ?_)
  obtain rfl : z2 = xs (4 * t9 + 1) := ez2.trans (congrArg xs (nI_clamp (by omega)))
  refine lv_aload_n hx hb d_L_law_424 rfl (lv_at hl 4 rfl) ?_
  refine lv_iload hx hb d_L_law_425 (lv_at hl 0 rfl) ?_
  refine lv_iconst (v := nI 2) hx hb d_L_law_427 (by decide +kernel) ?_
  refine lv_iadd hx hb d_L_law_428 ?_
  refine lv_topi (fun z3 ez3 => ?_)
  obtain rfl : z3 = nI (4 * t9 + 2) := ez3.trans (nI_add _ _)
  refine va_sld hx hb hX hbl hbA hS (pk_in (4 * t9 + 2) L (by omega)) d_L_law_429 ?_
  refine lv_topi (fun z4 ez4 => ?_)
  obtain rfl : z4 = xs (4 * t9 + 2) := ez4.trans (congrArg xs (nI_clamp (by omega)))
  refine lv_aload_n hx hb d_L_law_430 rfl (lv_at hl 1 rfl) ?_
  have hPc := hP.sub (ws' := ((ho, .inl (cJ, 1, .inr (.inl fo))) :: wC hc cI (nI nF) (nI nC) yn yt (nI ga) ym (fun c => nI (pl c)) (fun c => nI (cf c)) (fun c => nI (ct c)) aK eB eE eA eL eN eC eS eW eT)) [15, 16, 17, 18, 19, 20, 21, 22, 23, 24, 25, 26, 27, 28, 29, 30, 31, 32] rfl
  have hDc := hD.sub (ws' := ((ho, .inl (cJ, 1, .inr (.inl fo))) :: wC hc cI (nI nF) (nI nC) yn yt (nI ga) ym (fun c => nI (pl c)) (fun c => nI (cf c)) (fun c => nI (ct c)) aK eB eE eA eL eN eC eS eW eT)) [15, 16, 17, 18, 19, 20, 21, 22, 23, 24, 25, 26, 27, 28, 29, 30, 31, 32] (by decide) rfl
  have hKc := hK.sub (tys' := tyH cI cJ) [0, 2] rfl
  have hFc := va_free (wc := ((ho, .inl (cJ, 1, .inr (.inl fo))) :: wC hc cI (nI nF) (nI nC) yn yt (nI ga) ym (fun c => nI (pl c)) (fun c => nI (cf c)) (fun c => nI (ct c)) aK eB eE eA eL eN eC eS eW eT)) hD hS hA [15, 16, 17, 18, 19, 20, 21, 22, 23, 24, 25, 26, 27, 28, 29, 30, 31, 32] rfl
  refine vx_calli (vx_runSX (hh := hh_L_bad) (As := [.ref (hc 0), .int (xs (4 * t9 + 1)), .int (xs (4 * t9 + 2)), .ref ho]) (rest := []) ⟨hx, hb, hml, hown, hts⟩ (c_L_bad_ok l hst dC dI cI cJ hc ho H.size fo yn yt ym aK eB eE eA eL eN eC eS eW eT nF nC pl cf ct K ga (xs (4 * t9 + 1)) (xs (4 * t9 + 2)) sa (hF) (hC) (hS0) (hpl) (hK8) (hcl) (hga)) (vx_cwSW 4 hts gl_82 rfl rfl rfl (by decide +kernel) ⟨Nat.le_of_ble_eq_true rfl, Nat.le_of_ble_eq_true rfl⟩) ⟨fun a U g mk q => by obtain ⟨q0, q1, qP, qK, qD, qT, qC, qZ⟩ := q; exact ⟨q0, q1, qP, va_K.moved (u := U) (U := U.calling g mk a) (Vm.Alike.refl U.vm) qK, qD, xT.same rfl qT, xC.moved (u := U) (U := U.calling g mk a) (Vm.Alike.refl U.vm) qC, xZ.blind (u := U) (U := U.calling g mk a) (Vm.Alike.refl U.vm) qZ⟩, fun U hU hW => ⟨rfl, by rw [hU], by rw [hU]; exact hPc, va_K.moved hW.alike hKc, hDc.weaken (fun _ _ _ _ => trivial), xT.warm hW hT, xC.moved hW.alike hC9, xZ.here hZ hS hFc hW.alike hU⟩⟩ rfl rfl hl.1 rfl (lv_room (Nat.le_of_ble_eq_true rfl)) d_L_law_431 ⟨hce1, hsl1⟩) hS (fun q _ h => hFc q h) hFc (fun q _ h => hFc q h) (fun E ce q9 u9 t H1 locs ht hvm hf9 => hf9.elim) (fun r1 u9 t H1 locs ht hvm hw hB hz1 hk1 hS => ?_)
  obtain ⟨fo9, yn9, yt9, yg9, eB9, eE9, eA9, eL9, eN9, eC9, eS9, eW9⟩ := u9
  obtain ⟨hP1, hK1, hD1⟩ := hB
  rw [ht] at hP1
  try dsimp only at hw hP1 hD1
  obtain ⟨hP, hD⟩ := va_join (wr := wM hm cI cZ xt (nI nF) (nI nC) xg (fun c => nI (pl c)) (fun c => nI (cf c)) (fun c => nI (ct c)) aK bF bL bB bA bY bR oT oO oR bS) (w1 := ((ho, .inl (cJ, 1, .inr (.inl fo9))) :: wC hc cI (nI nF) (nI nC) yn9 yt9 yg9 ym (fun c => nI (pl c)) (fun c => nI (cf c)) (fun c => nI (ct c)) aK eB9 eE9 eA9 eL9 eN9 eC9 eS9 eW9 eT)) hP hD [15, 16, 17, 18, 19, 20, 21, 22, 23, 24, 25, 26, 27, 28, 29, 30, 31, 32] [0, 1, 2, 3, 4, 5, 6, 7, 8, 9, 10, 11, 12, 13, 14] rfl rfl (by decide) (by decide) hk1 hFc hP1 hD1
  generalize H1 = H at hP hS ⊢
  have hP : va_P (dC, dI) kls (wM hm cI cZ xt (nI nF) (nI nC) xg (fun c => nI (pl c)) (fun c => nI (cf c)) (fun c => nI (ct c)) aK bF bL bB bA bY bR oT oO oR bS ++ ((ho, .inl (cJ, 1, .inr (.inl fo9))) :: wC hc cI (nI nF) (nI nC) yn9 yt9 yg9 ym (fun c => nI (pl c)) (fun c => nI (cf c)) (fun c => nI (ct c)) aK eB9 eE9 eA9 eL9 eN9 eC9 eS9 eW9 eT)) H := hP
  have hD : va_D A (wM hm cI cZ xt (nI nF) (nI nC) xg (fun c => nI (pl c)) (fun c => nI (cf c)) (fun c => nI (ct c)) aK bF bL bB bA bY bR oT oO oR bS ++ ((ho, .inl (cJ, 1, .inr (.inl fo9))) :: wC hc cI (nI nF) (nI nC) yn9 yt9 yg9 ym (fun c => nI (pl c)) (fun c => nI (cf c)) (fun c => nI (ct c)) aK eB9 eE9 eA9 eL9 eN9 eC9 eS9 eW9 eT)) := hD
  refine W.widen (k := 33 + (t9 + 1)) (n := 10097 + 6 * (t9 + 1)) (by omega) (by omega) ?_
  rcases hw with ⟨i, hi, hfi, hfew, hr9, hv, hg1, hGI⟩ | ⟨hb9, hr9, hout, hu9⟩ | ⟨i, hi, hfi, hmany, hr9, hg1, hGI⟩
  · subst hr9
    subst hg1
    refine lv_istore (lv' := [(5, .int (nI 0)), (4, .int (nI (4 * t9))), (3, .ref ho), (2, .ref (hm 0)), (1, .ref (hc 0)), (0, .ref b)]) hx hb d_L_law_434 hl (by decide) rfl (fun ls hl => ?_)
    refine lv_aload_n hx hb d_L_law_436 rfl (lv_at hl 3 rfl) ?_
    refine lv_aload_n hx hb d_L_law_437 rfl (lv_at hl 5 rfl) ?_
    refine lv_iload hx hb d_L_law_438 (lv_at hl 1 rfl) ?_
    refine lv_iconst (v := nI 1) hx hb d_L_law_440 (by decide +kernel) ?_
    refine lv_iadd hx hb d_L_law_441 ?_
    refine lv_topi (fun z5 ez5 => ?_)
    obtain rfl : z5 = nI (4 * t9 + 1) := ez5.trans (nI_add _ _)
    refine va_sld hx hb hX hbl hbA hS (pk_in (4 * t9 + 1) L (by omega)) d_L_law_442 ?_
    refine lv_topi (fun z6 ez6 => ?_)
    obtain rfl : z6 = xs (4 * t9 + 1) := ez6.trans (congrArg xs (nI_clamp (by omega)))
    refine lv_aload_n hx hb d_L_law_443 rfl (lv_at hl 5 rfl) ?_
    refine lv_iload hx hb d_L_law_444 (lv_at hl 1 rfl) ?_
    refine lv_iconst (v := nI 2) hx hb d_L_law_446 (by decide +kernel) ?_
    refine lv_iadd hx hb d_L_law_447 ?_
    refine lv_topi (fun z7 ez7 => ?_)
    obtain rfl : z7 = nI (4 * t9 + 2) := ez7.trans (nI_add _ _)
    refine va_sld hx hb hX hbl hbA hS (pk_in (4 * t9 + 2) L (by omega)) d_L_law_448 ?_
    refine lv_topi (fun z8 ez8 => ?_)
    obtain rfl : z8 = xs (4 * t9 + 2) := ez8.trans (congrArg xs (nI_clamp (by omega)))
    have hPc := hP.sub (ws' := wM hm cI cZ xt (nI nF) (nI nC) xg (fun c => nI (pl c)) (fun c => nI (cf c)) (fun c => nI (ct c)) aK bF bL bB bA bY bR oT oO oR bS) [0, 1, 2, 3, 4, 5, 6, 7, 8, 9, 10, 11, 12, 13, 14] rfl
    have hDc := hD.sub (ws' := wM hm cI cZ xt (nI nF) (nI nC) xg (fun c => nI (pl c)) (fun c => nI (cf c)) (fun c => nI (ct c)) aK bF bL bB bA bY bR oT oO oR bS) [0, 1, 2, 3, 4, 5, 6, 7, 8, 9, 10, 11, 12, 13, 14] (by decide) rfl
    have hKc := hK.sub (tys' := tyM cI cZ) [0, 1] rfl
    have hFc := va_free (wc := wM hm cI cZ xt (nI nF) (nI nC) xg (fun c => nI (pl c)) (fun c => nI (cf c)) (fun c => nI (ct c)) aK bF bL bB bA bY bR oT oO oR bS) hD hS hA [0, 1, 2, 3, 4, 5, 6, 7, 8, 9, 10, 11, 12, 13, 14] rfl
    refine va_calli (va_runV (As := [.int (xs (4 * t9 + 1)), .int (xs (4 * t9 + 2))]) (rest := []) ⟨hx, hb, hml, hown, hts⟩ (m_bad l dC dI cI cZ hm H.size xt xg (fun c => nI (pl c)) aK bF bL bB bA bY bR oT oO oR bS nF nC K cf ct (xs (4 * t9 + 1)) (xs (4 * t9 + 2)) (hF) (hC) (hK8) (hS0)) (cwV 2 hts gl_84 rfl rfl rfl (by decide +kernel) ⟨Nat.le_of_ble_eq_true rfl, Nat.le_of_ble_eq_true rfl⟩) ⟨fun a U g mk q => by obtain ⟨q0, q1, qP, qK, qD⟩ := q; exact ⟨q0, q1, qP, va_K.moved (u := U) (U := U.calling g mk a) (Vm.Alike.refl U.vm) qK, qD⟩, va_recv hK hP (ci := 0) (q0 := 0) rfl rfl, fun U hU hW => ⟨rfl, by rw [hU], by rw [hU]; exact hPc, va_K.moved hW.alike hKc, hDc.weaken (fun _ _ _ _ => trivial)⟩⟩ rfl rfl hl.1 rfl (lv_room (Nat.le_of_ble_eq_true rfl)) d_L_law_449 ⟨hce, hsl⟩) hS (fun q _ h => hFc q h) hFc (fun r9 u9 t H1 locs ht hvm hw hB hz1 hk1 hS => ?_)
    obtain ⟨xt9, xg9, bF9, bL9, bB9, bA9, bY9, bR9⟩ := u9
    obtain ⟨hP1, hK1, hD1⟩ := hB
    rw [ht] at hP1
    try dsimp only at hw hP1 hD1
    obtain ⟨hP, hD⟩ := va_join (wr := ((ho, .inl (cJ, 1, .inr (.inl fo9))) :: wC hc cI (nI nF) (nI nC) yn9 yt9 (nI 1) ym (fun c => nI (pl c)) (fun c => nI (cf c)) (fun c => nI (ct c)) aK eB9 eE9 eA9 eL9 eN9 eC9 eS9 eW9 eT)) (w1 := wM hm cI cZ xt9 (nI nF) (nI nC) xg9 (fun c => nI (pl c)) (fun c => nI (cf c)) (fun c => nI (ct c)) aK bF9 bL9 bB9 bA9 bY9 bR9 oT oO oR bS) hP hD [0, 1, 2, 3, 4, 5, 6, 7, 8, 9, 10, 11, 12, 13, 14] [15, 16, 17, 18, 19, 20, 21, 22, 23, 24, 25, 26, 27, 28, 29, 30, 31, 32] rfl rfl (by decide) (by decide) hk1 hFc hP1 hD1
    generalize H1 = H at hP hS ⊢
    have hP := hP.sub (ws' := (wM hm cI cZ xt9 (nI nF) (nI nC) xg9 (fun c => nI (pl c)) (fun c => nI (cf c)) (fun c => nI (ct c)) aK bF9 bL9 bB9 bA9 bY9 bR9 oT oO oR bS ++ ((ho, .inl (cJ, 1, .inr (.inl fo9))) :: wC hc cI (nI nF) (nI nC) yn9 yt9 (nI 1) ym (fun c => nI (pl c)) (fun c => nI (cf c)) (fun c => nI (ct c)) aK eB9 eE9 eA9 eL9 eN9 eC9 eS9 eW9 eT))) [18, 19, 20, 21, 22, 23, 24, 25, 26, 27, 28, 29, 30, 31, 32, 0, 1, 2, 3, 4, 5, 6, 7, 8, 9, 10, 11, 12, 13, 14, 15, 16, 17] rfl
    have hD := hD.sub (ws' := (wM hm cI cZ xt9 (nI nF) (nI nC) xg9 (fun c => nI (pl c)) (fun c => nI (cf c)) (fun c => nI (ct c)) aK bF9 bL9 bB9 bA9 bY9 bR9 oT oO oR bS ++ ((ho, .inl (cJ, 1, .inr (.inl fo9))) :: wC hc cI (nI nF) (nI nC) yn9 yt9 (nI 1) ym (fun c => nI (pl c)) (fun c => nI (cf c)) (fun c => nI (ct c)) aK eB9 eE9 eA9 eL9 eN9 eC9 eS9 eW9 eT))) [18, 19, 20, 21, 22, 23, 24, 25, 26, 27, 28, 29, 30, 31, 32, 0, 1, 2, 3, 4, 5, 6, 7, 8, 9, 10, 11, 12, 13, 14, 15, 16, 17] (by decide) rfl
    clear hw hP1 hK1 hD1 hPc hDc hKc hFc hk1 hz1 hvm ht
    refine lv_istore (lv' := [(6, .int r9), (5, .int (nI 0)), (4, .int (nI (4 * t9))), (3, .ref ho), (2, .ref (hm 0)), (1, .ref (hc 0)), (0, .ref b)]) hx hb d_L_law_452 hl (by decide) rfl (fun ls hl => ?_)
    refine lv_goto (tgt := 613) hx hb d_L_law_454 (by decide) ?_
    exact next H locs ls ⟨nF, nC, pl, cf, ct, aK, _, _, _, _, _, _, _, _, _, _, _, _, _, _, _, _, 1, _, _, _, _, _, _, _, _, _, ⟨hF, hC, hS0, hpl, hcl, fun h9 => absurd h9 (Nat.succ_ne_zero _)⟩, Or.inr ⟨rfl, hGI⟩, hP, hD, hS⟩ (lv_sub hl [2, 3, 4, 5, 6] rfl)
  · subst hr9
    cases hu9
    refine lv_istore (lv' := [(5, .int (nI 0)), (4, .int (nI (4 * t9))), (3, .ref ho), (2, .ref (hm 0)), (1, .ref (hc 0)), (0, .ref b)]) hx hb d_L_law_434 hl (by decide) rfl (fun ls hl => ?_)
    refine lv_aload_n hx hb d_L_law_436 rfl (lv_at hl 3 rfl) ?_
    refine lv_aload_n hx hb d_L_law_437 rfl (lv_at hl 5 rfl) ?_
    refine lv_iload hx hb d_L_law_438 (lv_at hl 1 rfl) ?_
    refine lv_iconst (v := nI 1) hx hb d_L_law_440 (by decide +kernel) ?_
    refine lv_iadd hx hb d_L_law_441 ?_
    refine lv_topi (fun z10 ez10 => ?_)
    obtain rfl : z10 = nI (4 * t9 + 1) := ez10.trans (nI_add _ _)
    refine va_sld hx hb hX hbl hbA hS (pk_in (4 * t9 + 1) L (by omega)) d_L_law_442 ?_
    refine lv_topi (fun z11 ez11 => ?_)
    obtain rfl : z11 = xs (4 * t9 + 1) := ez11.trans (congrArg xs (nI_clamp (by omega)))
    refine lv_aload_n hx hb d_L_law_443 rfl (lv_at hl 5 rfl) ?_
    refine lv_iload hx hb d_L_law_444 (lv_at hl 1 rfl) ?_
    refine lv_iconst (v := nI 2) hx hb d_L_law_446 (by decide +kernel) ?_
    refine lv_iadd hx hb d_L_law_447 ?_
    refine lv_topi (fun z12 ez12 => ?_)
    obtain rfl : z12 = nI (4 * t9 + 2) := ez12.trans (nI_add _ _)
    refine va_sld hx hb hX hbl hbA hS (pk_in (4 * t9 + 2) L (by omega)) d_L_law_448 ?_
    refine lv_topi (fun z13 ez13 => ?_)
    obtain rfl : z13 = xs (4 * t9 + 2) := ez13.trans (congrArg xs (nI_clamp (by omega)))
    have hPc := hP.sub (ws' := wM hm cI cZ xt (nI nF) (nI nC) xg (fun c => nI (pl c)) (fun c => nI (cf c)) (fun c => nI (ct c)) aK bF bL bB bA bY bR oT oO oR bS) [0, 1, 2, 3, 4, 5, 6, 7, 8, 9, 10, 11, 12, 13, 14] rfl
    have hDc := hD.sub (ws' := wM hm cI cZ xt (nI nF) (nI nC) xg (fun c => nI (pl c)) (fun c => nI (cf c)) (fun c => nI (ct c)) aK bF bL bB bA bY bR oT oO oR bS) [0, 1, 2, 3, 4, 5, 6, 7, 8, 9, 10, 11, 12, 13, 14] (by decide) rfl
    have hKc := hK.sub (tys' := tyM cI cZ) [0, 1] rfl
    have hFc := va_free (wc := wM hm cI cZ xt (nI nF) (nI nC) xg (fun c => nI (pl c)) (fun c => nI (cf c)) (fun c => nI (ct c)) aK bF bL bB bA bY bR oT oO oR bS) hD hS hA [0, 1, 2, 3, 4, 5, 6, 7, 8, 9, 10, 11, 12, 13, 14] rfl
    refine va_calli (va_runV (As := [.int (xs (4 * t9 + 1)), .int (xs (4 * t9 + 2))]) (rest := []) ⟨hx, hb, hml, hown, hts⟩ (m_bad l dC dI cI cZ hm H.size xt xg (fun c => nI (pl c)) aK bF bL bB bA bY bR oT oO oR bS nF nC K cf ct (xs (4 * t9 + 1)) (xs (4 * t9 + 2)) (hF) (hC) (hK8) (hS0)) (cwV 2 hts gl_84 rfl rfl rfl (by decide +kernel) ⟨Nat.le_of_ble_eq_true rfl, Nat.le_of_ble_eq_true rfl⟩) ⟨fun a U g mk q => by obtain ⟨q0, q1, qP, qK, qD⟩ := q; exact ⟨q0, q1, qP, va_K.moved (u := U) (U := U.calling g mk a) (Vm.Alike.refl U.vm) qK, qD⟩, va_recv hK hP (ci := 0) (q0 := 0) rfl rfl, fun U hU hW => ⟨rfl, by rw [hU], by rw [hU]; exact hPc, va_K.moved hW.alike hKc, hDc.weaken (fun _ _ _ _ => trivial)⟩⟩ rfl rfl hl.1 rfl (lv_room (Nat.le_of_ble_eq_true rfl)) d_L_law_449 ⟨hce, hsl⟩) hS (fun q _ h => hFc q h) hFc (fun r14 u9 t H1 locs ht hvm hw hB hz1 hk1 hS => ?_)
    obtain ⟨xt9, xg9, bF9, bL9, bB9, bA9, bY9, bR9⟩ := u9
    obtain ⟨hP1, hK1, hD1⟩ := hB
    rw [ht] at hP1
    try dsimp only at hw hP1 hD1
    obtain ⟨hP, hD⟩ := va_join (wr := ((ho, .inl (cJ, 1, .inr (.inl fo9))) :: wC hc cI (nI nF) (nI nC) yn yt (nI ga) ym (fun c => nI (pl c)) (fun c => nI (cf c)) (fun c => nI (ct c)) aK eB eE eA eL eN eC eS eW eT)) (w1 := wM hm cI cZ xt9 (nI nF) (nI nC) xg9 (fun c => nI (pl c)) (fun c => nI (cf c)) (fun c => nI (ct c)) aK bF9 bL9 bB9 bA9 bY9 bR9 oT oO oR bS) hP hD [0, 1, 2, 3, 4, 5, 6, 7, 8, 9, 10, 11, 12, 13, 14] [15, 16, 17, 18, 19, 20, 21, 22, 23, 24, 25, 26, 27, 28, 29, 30, 31, 32] rfl rfl (by decide) (by decide) hk1 hFc hP1 hD1
    generalize H1 = H at hP hS ⊢
    have hP := hP.sub (ws' := (wM hm cI cZ xt9 (nI nF) (nI nC) xg9 (fun c => nI (pl c)) (fun c => nI (cf c)) (fun c => nI (ct c)) aK bF9 bL9 bB9 bA9 bY9 bR9 oT oO oR bS ++ ((ho, .inl (cJ, 1, .inr (.inl fo9))) :: wC hc cI (nI nF) (nI nC) yn yt (nI ga) ym (fun c => nI (pl c)) (fun c => nI (cf c)) (fun c => nI (ct c)) aK eB eE eA eL eN eC eS eW eT))) [18, 19, 20, 21, 22, 23, 24, 25, 26, 27, 28, 29, 30, 31, 32, 0, 1, 2, 3, 4, 5, 6, 7, 8, 9, 10, 11, 12, 13, 14, 15, 16, 17] rfl
    have hD := hD.sub (ws' := (wM hm cI cZ xt9 (nI nF) (nI nC) xg9 (fun c => nI (pl c)) (fun c => nI (cf c)) (fun c => nI (ct c)) aK bF9 bL9 bB9 bA9 bY9 bR9 oT oO oR bS ++ ((ho, .inl (cJ, 1, .inr (.inl fo9))) :: wC hc cI (nI nF) (nI nC) yn yt (nI ga) ym (fun c => nI (pl c)) (fun c => nI (cf c)) (fun c => nI (ct c)) aK eB eE eA eL eN eC eS eW eT))) [18, 19, 20, 21, 22, 23, 24, 25, 26, 27, 28, 29, 30, 31, 32, 0, 1, 2, 3, 4, 5, 6, 7, 8, 9, 10, 11, 12, 13, 14, 15, 16, 17] (by decide) rfl
    clear hw hP1 hK1 hD1 hPc hDc hKc hFc hk1 hz1 hvm ht
    refine lv_istore (lv' := [(6, .int r14), (5, .int (nI 0)), (4, .int (nI (4 * t9))), (3, .ref ho), (2, .ref (hm 0)), (1, .ref (hc 0)), (0, .ref b)]) hx hb d_L_law_452 hl (by decide) rfl (fun ls hl => ?_)
    refine lv_goto (tgt := 613) hx hb d_L_law_454 (by decide) ?_
    exact next H locs ls ⟨_, _, _, _, _, _, _, _, _, _, _, _, _, _, _, _, _, _, _, _, _, _, _, _, _, _, _, _, _, _, _, _, ⟨hF, hC, hS0, hpl, hcl, fun h9 => absurd h9 (Nat.succ_ne_zero _)⟩, hga, hP, hD, hS⟩ (lv_sub hl [2, 3, 4, 5, 6] rfl)
  · subst hr9
    subst hg1
    refine lv_istore (lv' := [(5, .int (nI 1)), (4, .int (nI (4 * t9))), (3, .ref ho), (2, .ref (hm 0)), (1, .ref (hc 0)), (0, .ref b)]) hx hb d_L_law_434 hl (by decide) rfl (fun ls hl => ?_)
    refine lv_aload_n hx hb d_L_law_436 rfl (lv_at hl 3 rfl) ?_
    refine lv_aload_n hx hb d_L_law_437 rfl (lv_at hl 5 rfl) ?_
    refine lv_iload hx hb d_L_law_438 (lv_at hl 1 rfl) ?_
    refine lv_iconst (v := nI 1) hx hb d_L_law_440 (by decide +kernel) ?_
    refine lv_iadd hx hb d_L_law_441 ?_
    refine lv_topi (fun z15 ez15 => ?_)
    obtain rfl : z15 = nI (4 * t9 + 1) := ez15.trans (nI_add _ _)
    refine va_sld hx hb hX hbl hbA hS (pk_in (4 * t9 + 1) L (by omega)) d_L_law_442 ?_
    refine lv_topi (fun z16 ez16 => ?_)
    obtain rfl : z16 = xs (4 * t9 + 1) := ez16.trans (congrArg xs (nI_clamp (by omega)))
    refine lv_aload_n hx hb d_L_law_443 rfl (lv_at hl 5 rfl) ?_
    refine lv_iload hx hb d_L_law_444 (lv_at hl 1 rfl) ?_
    refine lv_iconst (v := nI 2) hx hb d_L_law_446 (by decide +kernel) ?_
    refine lv_iadd hx hb d_L_law_447 ?_
    refine lv_topi (fun z17 ez17 => ?_)
    obtain rfl : z17 = nI (4 * t9 + 2) := ez17.trans (nI_add _ _)
    refine va_sld hx hb hX hbl hbA hS (pk_in (4 * t9 + 2) L (by omega)) d_L_law_448 ?_
    refine lv_topi (fun z18 ez18 => ?_)
    obtain rfl : z18 = xs (4 * t9 + 2) := ez18.trans (congrArg xs (nI_clamp (by omega)))
    have hPc := hP.sub (ws' := wM hm cI cZ xt (nI nF) (nI nC) xg (fun c => nI (pl c)) (fun c => nI (cf c)) (fun c => nI (ct c)) aK bF bL bB bA bY bR oT oO oR bS) [0, 1, 2, 3, 4, 5, 6, 7, 8, 9, 10, 11, 12, 13, 14] rfl
    have hDc := hD.sub (ws' := wM hm cI cZ xt (nI nF) (nI nC) xg (fun c => nI (pl c)) (fun c => nI (cf c)) (fun c => nI (ct c)) aK bF bL bB bA bY bR oT oO oR bS) [0, 1, 2, 3, 4, 5, 6, 7, 8, 9, 10, 11, 12, 13, 14] (by decide) rfl
    have hKc := hK.sub (tys' := tyM cI cZ) [0, 1] rfl
    have hFc := va_free (wc := wM hm cI cZ xt (nI nF) (nI nC) xg (fun c => nI (pl c)) (fun c => nI (cf c)) (fun c => nI (ct c)) aK bF bL bB bA bY bR oT oO oR bS) hD hS hA [0, 1, 2, 3, 4, 5, 6, 7, 8, 9, 10, 11, 12, 13, 14] rfl
    refine va_calli (va_runV (As := [.int (xs (4 * t9 + 1)), .int (xs (4 * t9 + 2))]) (rest := []) ⟨hx, hb, hml, hown, hts⟩ (m_bad l dC dI cI cZ hm H.size xt xg (fun c => nI (pl c)) aK bF bL bB bA bY bR oT oO oR bS nF nC K cf ct (xs (4 * t9 + 1)) (xs (4 * t9 + 2)) (hF) (hC) (hK8) (hS0)) (cwV 2 hts gl_84 rfl rfl rfl (by decide +kernel) ⟨Nat.le_of_ble_eq_true rfl, Nat.le_of_ble_eq_true rfl⟩) ⟨fun a U g mk q => by obtain ⟨q0, q1, qP, qK, qD⟩ := q; exact ⟨q0, q1, qP, va_K.moved (u := U) (U := U.calling g mk a) (Vm.Alike.refl U.vm) qK, qD⟩, va_recv hK hP (ci := 0) (q0 := 0) rfl rfl, fun U hU hW => ⟨rfl, by rw [hU], by rw [hU]; exact hPc, va_K.moved hW.alike hKc, hDc.weaken (fun _ _ _ _ => trivial)⟩⟩ rfl rfl hl.1 rfl (lv_room (Nat.le_of_ble_eq_true rfl)) d_L_law_449 ⟨hce, hsl⟩) hS (fun q _ h => hFc q h) hFc (fun r19 u9 t H1 locs ht hvm hw hB hz1 hk1 hS => ?_)
    obtain ⟨xt9, xg9, bF9, bL9, bB9, bA9, bY9, bR9⟩ := u9
    obtain ⟨hP1, hK1, hD1⟩ := hB
    rw [ht] at hP1
    try dsimp only at hw hP1 hD1
    obtain ⟨hP, hD⟩ := va_join (wr := ((ho, .inl (cJ, 1, .inr (.inl fo9))) :: wC hc cI (nI nF) (nI nC) yn9 yt9 (nI 1) ym (fun c => nI (pl c)) (fun c => nI (cf c)) (fun c => nI (ct c)) aK eB9 eE9 eA9 eL9 eN9 eC9 eS9 eW9 eT)) (w1 := wM hm cI cZ xt9 (nI nF) (nI nC) xg9 (fun c => nI (pl c)) (fun c => nI (cf c)) (fun c => nI (ct c)) aK bF9 bL9 bB9 bA9 bY9 bR9 oT oO oR bS) hP hD [0, 1, 2, 3, 4, 5, 6, 7, 8, 9, 10, 11, 12, 13, 14] [15, 16, 17, 18, 19, 20, 21, 22, 23, 24, 25, 26, 27, 28, 29, 30, 31, 32] rfl rfl (by decide) (by decide) hk1 hFc hP1 hD1
    generalize H1 = H at hP hS ⊢
    have hP := hP.sub (ws' := (wM hm cI cZ xt9 (nI nF) (nI nC) xg9 (fun c => nI (pl c)) (fun c => nI (cf c)) (fun c => nI (ct c)) aK bF9 bL9 bB9 bA9 bY9 bR9 oT oO oR bS ++ ((ho, .inl (cJ, 1, .inr (.inl fo9))) :: wC hc cI (nI nF) (nI nC) yn9 yt9 (nI 1) ym (fun c => nI (pl c)) (fun c => nI (cf c)) (fun c => nI (ct c)) aK eB9 eE9 eA9 eL9 eN9 eC9 eS9 eW9 eT))) [18, 19, 20, 21, 22, 23, 24, 25, 26, 27, 28, 29, 30, 31, 32, 0, 1, 2, 3, 4, 5, 6, 7, 8, 9, 10, 11, 12, 13, 14, 15, 16, 17] rfl
    have hD := hD.sub (ws' := (wM hm cI cZ xt9 (nI nF) (nI nC) xg9 (fun c => nI (pl c)) (fun c => nI (cf c)) (fun c => nI (ct c)) aK bF9 bL9 bB9 bA9 bY9 bR9 oT oO oR bS ++ ((ho, .inl (cJ, 1, .inr (.inl fo9))) :: wC hc cI (nI nF) (nI nC) yn9 yt9 (nI 1) ym (fun c => nI (pl c)) (fun c => nI (cf c)) (fun c => nI (ct c)) aK eB9 eE9 eA9 eL9 eN9 eC9 eS9 eW9 eT))) [18, 19, 20, 21, 22, 23, 24, 25, 26, 27, 28, 29, 30, 31, 32, 0, 1, 2, 3, 4, 5, 6, 7, 8, 9, 10, 11, 12, 13, 14, 15, 16, 17] (by decide) rfl
    clear hw hP1 hK1 hD1 hPc hDc hKc hFc hk1 hz1 hvm ht
    refine lv_istore (lv' := [(6, .int r19), (5, .int (nI 1)), (4, .int (nI (4 * t9))), (3, .ref ho), (2, .ref (hm 0)), (1, .ref (hc 0)), (0, .ref b)]) hx hb d_L_law_452 hl (by decide) rfl (fun ls hl => ?_)
    refine lv_goto (tgt := 613) hx hb d_L_law_454 (by decide) ?_
    exact next H locs ls ⟨nF, nC, pl, cf, ct, aK, _, _, _, _, _, _, _, _, _, _, _, _, _, _, _, _, 1, _, _, _, _, _, _, _, _, _, ⟨hF, hC, hS0, hpl, hcl, fun h9 => absurd h9 (Nat.succ_ne_zero _)⟩, Or.inr ⟨rfl, hGI⟩, hP, hD, hS⟩ (lv_sub hl [2, 3, 4, 5, 6] rfl)
