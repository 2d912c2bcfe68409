abbrev tyL (cI cZ cJ : ClassId) : List (ClassId × FieldType) := [(cI, .int), (cZ, .boolean), (cJ, .long)]
/-- what holds between two steps of the law: both sides hold the same functions and calls -/
def lwJ (dC : Nat → ClassId) (dI : Nat → Nat → Nat) (cI cZ cJ : ClassId) (hm hc : Nat → Nat) (ho K : Nat) (A : Nat → Prop) (H0 : Heap) (tn : Nat) (H : Heap) (locs : List Loc) : Prop :=
  ∃ (nF nC : Nat) (pl cf ct : Nat → Nat) (aK : Nat → Int32) (xt xg : Int32) (bF bL bB bA bY bR oT oO oR bS : Nat → Int32) (fo : Nat → Int64) (yn yt ym : Int32) (ga : Nat) (eB eE eA eL eN eC eS eW eT : Nat → Int32), (nF ≤ 10 ∧ nC ≤ 20 ∧ (∀ c, c < nC → cf c < nF ∧ ct c < nF) ∧ (∀ i, i < nF → 1 ≤ pl i ∧ pl i ≤ 4) ∧ (∀ c, c < nC → clN (aK c)) ∧ (tn = 0 → nF = 0)) ∧ (ga = 0 ∨ (ga = 1 ∧ GI nC cf ct aK K nF yn yt eB eE eA eL eS eW)) ∧ va_P (dC, dI) kls (wM hm cI cZ xt (nI nF) (nI nC) xg (fun c => nI (pl c)) (fun c => nI (cf c)) (fun c => nI (ct c)) aK bF bL bB bA bY bR oT oO oR bS ++ ((ho, .inl (cJ, 1, .inr (.inl fo))) :: wC hc cI (nI nF) (nI nC) yn yt (nI ga) ym (fun c => nI (pl c)) (fun c => nI (cf c)) (fun c => nI (ct c)) aK eB eE eA eL eN eC eS eW eT)) H ∧ va_D A (wM hm cI cZ xt (nI nF) (nI nC) xg (fun c => nI (pl c)) (fun c => nI (cf c)) (fun c => nI (ct c)) aK bF bL bB bA bY bR oT oO oR bS ++ ((ho, .inl (cJ, 1, .inr (.inl fo))) :: wC hc cI (nI nF) (nI nC) yn yt (nI ga) ym (fun c => nI (pl c)) (fun c => nI (cf c)) (fun c => nI (ct c)) aK eB eE eA eL eN eC eS eW eT)) ∧ va_S A H0 H locs
theorem gl_V {own C : String} {idx : Nat} {y : MethodName} {cb : Cond} {L : List Cond} (hL : GoodIn lw_tbl L) (hp : ∀ w ∈ [Cond.methodLink own idx y, Cond.instanceMethod y, Cond.selects C y y, Cond.initialized C, cb], w ∈ lw_tbl ∧ goodWord w = true) : GoodIn lw_tbl (wsV own idx C y (cb :: L)) := by
  intro w h
  rcases List.mem_append.mp h with h | h
  · have hm : w ∈ [Cond.methodLink own idx y, Cond.instanceMethod y, Cond.selects C y y, Cond.initialized C, cb] := List.mem_append_left [cb] h
    exact ⟨(hp w hm).1, good_of_word (hp w hm).2⟩
  · rcases List.mem_cons.mp h with rfl | h
    · exact ⟨(hp w (by simp)).1, good_of_word (hp w (by simp)).2⟩
    · exact hL w h
theorem gl_56 : GoodIn lw_tbl (wsV R_L 56 R_X y_X_undo w_X_undo) := gl_V tb_C (List.forall_mem_cons.mpr ⟨⟨by decide +kernel, by decide +kernel⟩, List.forall_mem_cons.mpr ⟨⟨(tb_C _ k_C_70).1, List.all_eq_true.mp wCw_good _ k_C_70⟩, List.forall_mem_cons.mpr ⟨⟨(tb_C _ k_C_71).1, List.all_eq_true.mp wCw_good _ k_C_71⟩, List.forall_mem_cons.mpr ⟨⟨(tb_C _ k_C_0).1, List.all_eq_true.mp wCw_good _ k_C_0⟩, List.forall_mem_cons.mpr ⟨⟨(tb_C _ k_C_72).1, List.all_eq_true.mp wCw_good _ k_C_72⟩, fun _ h => absurd h List.not_mem_nil⟩⟩⟩⟩⟩)
theorem gl_60 : GoodIn lw_tbl (wsV R_L 60 R_M y_M_undo w_M_undo) := gl_V tb_M (List.forall_mem_cons.mpr ⟨⟨by decide +kernel, by decide +kernel⟩, List.forall_mem_cons.mpr ⟨⟨(tb_M _ k_M_42).1, List.all_eq_true.mp wMw_good _ k_M_42⟩, List.forall_mem_cons.mpr ⟨⟨(tb_M _ k_M_43).1, List.all_eq_true.mp wMw_good _ k_M_43⟩, List.forall_mem_cons.mpr ⟨⟨(tb_M _ k_M_0).1, List.all_eq_true.mp wMw_good _ k_M_0⟩, List.forall_mem_cons.mpr ⟨⟨(tb_M _ k_M_44).1, List.all_eq_true.mp wMw_good _ k_M_44⟩, fun _ h => absurd h List.not_mem_nil⟩⟩⟩⟩⟩)
theorem gl_61 : GoodIn lw_tbl (wsV R_L 61 R_X y_X_told w_X_told) := gl_V tb_C (List.forall_mem_cons.mpr ⟨⟨by decide +kernel, by decide +kernel⟩, List.forall_mem_cons.mpr ⟨⟨(tb_C _ k_C_77).1, List.all_eq_true.mp wCw_good _ k_C_77⟩, List.forall_mem_cons.mpr ⟨⟨(tb_C _ k_C_78).1, List.all_eq_true.mp wCw_good _ k_C_78⟩, List.forall_mem_cons.mpr ⟨⟨(tb_C _ k_C_0).1, List.all_eq_true.mp wCw_good _ k_C_0⟩, List.forall_mem_cons.mpr ⟨⟨(tb_C _ k_C_79).1, List.all_eq_true.mp wCw_good _ k_C_79⟩, fun _ h => absurd h List.not_mem_nil⟩⟩⟩⟩⟩)
theorem gl_64 : GoodIn lw_tbl (wsV R_L 64 R_M y_M_told w_M_told) := gl_V tb_M (List.forall_mem_cons.mpr ⟨⟨by decide +kernel, by decide +kernel⟩, List.forall_mem_cons.mpr ⟨⟨(tb_M _ k_M_45).1, List.all_eq_true.mp wMw_good _ k_M_45⟩, List.forall_mem_cons.mpr ⟨⟨(tb_M _ k_M_46).1, List.all_eq_true.mp wMw_good _ k_M_46⟩, List.forall_mem_cons.mpr ⟨⟨(tb_M _ k_M_0).1, List.all_eq_true.mp wMw_good _ k_M_0⟩, List.forall_mem_cons.mpr ⟨⟨(tb_M _ k_M_47).1, List.all_eq_true.mp wMw_good _ k_M_47⟩, fun _ h => absurd h List.not_mem_nil⟩⟩⟩⟩⟩)
theorem gl_85 : GoodIn lw_tbl (wsV R_L 85 R_X y_X_order w_X_order) := gl_V tb_C (List.forall_mem_cons.mpr ⟨⟨by decide +kernel, by decide +kernel⟩, List.forall_mem_cons.mpr ⟨⟨(tb_C _ k_C_84).1, List.all_eq_true.mp wCw_good _ k_C_84⟩, List.forall_mem_cons.mpr ⟨⟨(tb_C _ k_C_85).1, List.all_eq_true.mp wCw_good _ k_C_85⟩, List.forall_mem_cons.mpr ⟨⟨(tb_C _ k_C_0).1, List.all_eq_true.mp wCw_good _ k_C_0⟩, List.forall_mem_cons.mpr ⟨⟨(tb_C _ k_C_86).1, List.all_eq_true.mp wCw_good _ k_C_86⟩, fun _ h => absurd h List.not_mem_nil⟩⟩⟩⟩⟩)
theorem gl_88 : GoodIn lw_tbl (wsV R_L 88 R_M y_M_order w_M_order) := gl_V tb_M (List.forall_mem_cons.mpr ⟨⟨by decide +kernel, by decide +kernel⟩, List.forall_mem_cons.mpr ⟨⟨(tb_M _ k_M_90).1, List.all_eq_true.mp wMw_good _ k_M_90⟩, List.forall_mem_cons.mpr ⟨⟨(tb_M _ k_M_91).1, List.all_eq_true.mp wMw_good _ k_M_91⟩, List.forall_mem_cons.mpr ⟨⟨(tb_M _ k_M_0).1, List.all_eq_true.mp wMw_good _ k_M_0⟩, List.forall_mem_cons.mpr ⟨⟨(tb_M _ k_M_92).1, List.all_eq_true.mp wMw_good _ k_M_92⟩, fun _ h => absurd h List.not_mem_nil⟩⟩⟩⟩⟩)
theorem gl_89 : GoodIn lw_tbl (wsV R_L 89 R_X y_X_reached w_X_reached) := gl_V tb_C (List.forall_mem_cons.mpr ⟨⟨by decide +kernel, by decide +kernel⟩, List.forall_mem_cons.mpr ⟨⟨(tb_C _ k_C_113).1, List.all_eq_true.mp wCw_good _ k_C_113⟩, List.forall_mem_cons.mpr ⟨⟨(tb_C _ k_C_114).1, List.all_eq_true.mp wCw_good _ k_C_114⟩, List.forall_mem_cons.mpr ⟨⟨(tb_C _ k_C_0).1, List.all_eq_true.mp wCw_good _ k_C_0⟩, List.forall_mem_cons.mpr ⟨⟨(tb_C _ k_C_115).1, List.all_eq_true.mp wCw_good _ k_C_115⟩, fun _ h => absurd h List.not_mem_nil⟩⟩⟩⟩⟩)
theorem gl_92 : GoodIn lw_tbl (wsV R_L 92 R_M y_M_reached w_M_reached) := gl_V tb_M (List.forall_mem_cons.mpr ⟨⟨by decide +kernel, by decide +kernel⟩, List.forall_mem_cons.mpr ⟨⟨(tb_M _ k_M_99).1, List.all_eq_true.mp wMw_good _ k_M_99⟩, List.forall_mem_cons.mpr ⟨⟨(tb_M _ k_M_100).1, List.all_eq_true.mp wMw_good _ k_M_100⟩, List.forall_mem_cons.mpr ⟨⟨(tb_M _ k_M_0).1, List.all_eq_true.mp wMw_good _ k_M_0⟩, List.forall_mem_cons.mpr ⟨⟨(tb_M _ k_M_101).1, List.all_eq_true.mp wMw_good _ k_M_101⟩, fun _ h => absurd h List.not_mem_nil⟩⟩⟩⟩⟩)
theorem gl_95 : GoodIn lw_tbl (wsV R_L 95 R_X y_X_product w_X_product) := gl_V tb_C (List.forall_mem_cons.mpr ⟨⟨by decide +kernel, by decide +kernel⟩, List.forall_mem_cons.mpr ⟨⟨(tb_C _ k_C_120).1, List.all_eq_true.mp wCw_good _ k_C_120⟩, List.forall_mem_cons.mpr ⟨⟨(tb_C _ k_C_121).1, List.all_eq_true.mp wCw_good _ k_C_121⟩, List.forall_mem_cons.mpr ⟨⟨(tb_C _ k_C_0).1, List.all_eq_true.mp wCw_good _ k_C_0⟩, List.forall_mem_cons.mpr ⟨⟨(tb_C _ k_C_122).1, List.all_eq_true.mp wCw_good _ k_C_122⟩, fun _ h => absurd h List.not_mem_nil⟩⟩⟩⟩⟩)
theorem gl_99 : GoodIn lw_tbl (wsV R_L 99 R_M y_M_product w_M_product) := gl_V tb_M (List.forall_mem_cons.mpr ⟨⟨by decide +kernel, by decide +kernel⟩, List.forall_mem_cons.mpr ⟨⟨(tb_M _ k_M_102).1, List.all_eq_true.mp wMw_good _ k_M_102⟩, List.forall_mem_cons.mpr ⟨⟨(tb_M _ k_M_103).1, List.all_eq_true.mp wMw_good _ k_M_103⟩, List.forall_mem_cons.mpr ⟨⟨(tb_M _ k_M_0).1, List.all_eq_true.mp wMw_good _ k_M_0⟩, List.forall_mem_cons.mpr ⟨⟨(tb_M _ k_M_104).1, List.all_eq_true.mp wMw_good _ k_M_104⟩, fun _ h => absurd h List.not_mem_nil⟩⟩⟩⟩⟩)
theorem gl_100 : GoodIn lw_tbl (wsV R_L 100 R_X y_X_about w_X_about) := gl_V tb_C (List.forall_mem_cons.mpr ⟨⟨by decide +kernel, by decide +kernel⟩, List.forall_mem_cons.mpr ⟨⟨(tb_C _ k_C_134).1, List.all_eq_true.mp wCw_good _ k_C_134⟩, List.forall_mem_cons.mpr ⟨⟨(tb_C _ k_C_135).1, List.all_eq_true.mp wCw_good _ k_C_135⟩, List.forall_mem_cons.mpr ⟨⟨(tb_C _ k_C_0).1, List.all_eq_true.mp wCw_good _ k_C_0⟩, List.forall_mem_cons.mpr ⟨⟨(tb_C _ k_C_136).1, List.all_eq_true.mp wCw_good _ k_C_136⟩, fun _ h => absurd h List.not_mem_nil⟩⟩⟩⟩⟩)
theorem gl_103 : GoodIn lw_tbl (wsV R_L 103 R_M y_M_about w_M_about) := gl_V tb_M (List.forall_mem_cons.mpr ⟨⟨by decide +kernel, by decide +kernel⟩, List.forall_mem_cons.mpr ⟨⟨(tb_M _ k_M_106).1, List.all_eq_true.mp wMw_good _ k_M_106⟩, List.forall_mem_cons.mpr ⟨⟨(tb_M _ k_M_107).1, List.all_eq_true.mp wMw_good _ k_M_107⟩, List.forall_mem_cons.mpr ⟨⟨(tb_M _ k_M_0).1, List.all_eq_true.mp wMw_good _ k_M_0⟩, List.forall_mem_cons.mpr ⟨⟨(tb_M _ k_M_108).1, List.all_eq_true.mp wMw_good _ k_M_108⟩, fun _ h => absurd h List.not_mem_nil⟩⟩⟩⟩⟩)
set_option maxHeartbeats 4000000 in
set_option maxRecDepth 100000 in
theorem law_about {p : Program} {l : Launch} {e : Env} {s : State} {m : MethodId} {below : List Frame} {meth : Method} {c : Code} {b L : Nat} {xs : Nat → Int32} (hst : l.stackTraces = false) (hx : p.tables.exec = Jvm.exec) (hb : c.code = code) (hr : meth.sig.returnType = ret) (hml : c.maxLocals = 7) (hown : s.vm.findClass R_L = some m.cls) (hts : ∀ w ∈ lw_tbl, w.before #[Value.ref b] s = true) (hX : va_X b L xs s s.heap) (hbl : b < s.heap.size) (dC : Nat → ClassId) (dI : Nat → Nat → Nat) (cI cZ cJ : ClassId) (hm hc : Nat → Nat) (ho K : Nat) (hK8 : 801 ≤ K) (sa : Nat → Nat) (A : Nat → Prop) (hA : ∀ q : Nat, s.heap.size ≤ q → A q) (hbA : ¬ A b) (hK : va_K (dC, dI) kls (tyL cI cZ cJ) s) (hT : xT sa s) (hC9 : xC s) (hZ : xZ A s s.heap) {Q : State → Prop} {t9 : Nat} (hL : 4 * t9 + 3 < L) (hL2 : L ≤ 2048) {H : Heap} {locs : List Loc} {ls : Array Slot} (hJ : lwJ dC dI cI cZ cJ hm hc ho K A s.heap t9 H locs) (hl : lv_has ls 7 [(4, .int (nI (4 * t9))), (3, .ref ho), (2, .ref (hm 0)), (1, .ref (hc 0)), (0, .ref b)]) (next : ∀ (H : Heap) (locs : List Loc) (ls : Array Slot), lwJ dC dI cI cZ cJ hm hc ho K A s.heap (t9 + 1) H locs → lv_has ls 7 [(4, .int (nI (4 * t9))), (3, .ref ho), (2, .ref (hm 0)), (1, .ref (hc 0)), (0, .ref b)] → W p l e room_1 s m #[Value.ref b] below meth c H locs (33 + (t9 + 1)) (10097 + 6 * (t9 + 1)) Q (F0 m 613 ls [])) : W p l e room_1 s m #[Value.ref b] below meth c H locs (33 + t9) (10097 + 6 * t9) Q (F0 m 588 ls []) := by
  obtain ⟨nF, nC, pl, cf, ct, aK, xt, xg, bF, bL, bB, bA, bY, bR, oT, oO, oR, bS, fo, yn, yt, ym, ga, eB, eE, eA, eL, eN, eC, eS, eW, eT, ⟨hF, hC, hS0, hpl, hcl, hz0⟩, hga, hP, hD, hS⟩ := hJ
  have hk := hts
  have hce : (33 + t9) + 0 ≤ room_1.cells := by show (33 + t9) + 0 ≤ 1066; omega
  have hsl : (10097 + 6 * t9) + 0 ≤ room_1.slots := by show (10097 + 6 * t9) + 0 ≤ 18343; omega
  refine lv_aload_n hx hb d_L_law_588 rfl (lv_at hl 3 rfl) ?_
  refine lv_aload_n hx hb d_L_law_589 rfl (lv_at hl 4 rfl) ?_
  refine lv_iload hx hb d_L_law_590 (lv_at hl 0 rfl) ?_
  refine lv_iconst (v := nI 1) hx hb d_L_law_592 (by decide +kernel) ?_
  refine lv_iadd hx hb d_L_law_593 ?_
  refine lv_topi (fun z1 ez1 => ?_)
  obtain rfl : z1 = nI (4 * t9 + 1) := ez1.trans (nI_add _ _)
  refine va_sld hx hb hX hbl hbA hS (pk_in (4 * t9 + 1) L (by omega)) d_L_law_594 ?_
  refine lv_topi (fun z2 ez2 => ?_)
  obtain rfl : z2 = xs (4 * t9 + 1) := ez2.trans (congrArg xs (nI_clamp (by omega)))
  have hPc := hP.sub (ws' := wC hc cI (nI nF) (nI nC) yn yt (nI ga) ym (fun c => nI (pl c)) (fun c => nI (cf c)) (fun c => nI (ct c)) aK eB eE eA eL eN eC eS eW eT) [16, 17, 18, 19, 20, 21, 22, 23, 24, 25, 26, 27, 28, 29, 30, 31, 32] rfl
  have hDc := hD.sub (ws' := wC hc cI (nI nF) (nI nC) yn yt (nI ga) ym (fun c => nI (pl c)) (fun c => nI (cf c)) (fun c => nI (ct c)) aK eB eE eA eL eN eC eS eW eT) [16, 17, 18, 19, 20, 21, 22, 23, 24, 25, 26, 27, 28, 29, 30, 31, 32] (by decide) rfl
  have hKc := hK.sub (tys' := tyC cI) [0] rfl
  have hFc := va_free (wc := wC hc cI (nI nF) (nI nC) yn yt (nI ga) ym (fun c => nI (pl c)) (fun c => nI (cf c)) (fun c => nI (ct c)) aK eB eE eA eL eN eC eS eW eT) hD hS hA [16, 17, 18, 19, 20, 21, 22, 23, 24, 25, 26, 27, 28, 29, 30, 31, 32] rfl
  refine va_calli (va_runV (As := [.int (xs (4 * t9 + 1))]) (rest := []) ⟨hx, hb, hml, hown, hts⟩ (c_X_about_ok l dC dI cI hc H.size yn yt (nI ga) ym aK eB eE eA eL eN eC eS eW eT nF nC pl cf ct (xs (4 * t9 + 1)) ) (cwV 1 hts gl_100 rfl rfl rfl (by decide +kernel) ⟨Nat.le_of_ble_eq_true rfl, Nat.le_of_ble_eq_true rfl⟩) ⟨fun a U g mk q => by obtain ⟨q0, q1, qP, qK, qD⟩ := q; exact ⟨q0, q1, qP, va_K.moved (u := U) (U := U.calling g mk a) (Vm.Alike.refl U.vm) qK, qD⟩, va_recv hK hP (ci := 4) (q0 := 16) rfl rfl, fun U hU hW => ⟨rfl, by rw [hU], by rw [hU]; exact hPc, va_K.moved hW.alike hKc, hDc.weaken (fun _ _ _ _ => trivial)⟩⟩ rfl rfl hl.1 rfl (lv_room (Nat.le_of_ble_eq_true rfl)) d_L_law_595 ⟨hce, hsl⟩) hS (fun q _ h => hFc q h) hFc (fun r3 u9 t H1 locs ht hvm hw hB hz1 hk1 hS => ?_)
  obtain ⟨hP1, hK1, hD1⟩ := hB
  rw [ht] at hP1
  try dsimp only at hw hP1 hD1
  obtain ⟨hP, hD⟩ := va_join (wr := (wM hm cI cZ xt (nI nF) (nI nC) xg (fun c => nI (pl c)) (fun c => nI (cf c)) (fun c => nI (ct c)) aK bF bL bB bA bY bR oT oO oR bS ++ [(ho, .inl (cJ, 1, .inr (.inl fo)))])) (w1 := wC hc cI (nI nF) (nI nC) yn yt (nI ga) ym (fun c => nI (pl c)) (fun c => nI (cf c)) (fun c => nI (ct c)) aK eB eE eA eL eN eC eS eW eT) hP hD [16, 17, 18, 19, 20, 21, 22, 23, 24, 25, 26, 27, 28, 29, 30, 31, 32] [0, 1, 2, 3, 4, 5, 6, 7, 8, 9, 10, 11, 12, 13, 14, 15] rfl rfl (by decide) (by decide) hk1 hFc hP1 hD1
  generalize H1 = H at hP hS ⊢
  have hP : va_P (dC, dI) kls (wM hm cI cZ xt (nI nF) (nI nC) xg (fun c => nI (pl c)) (fun c => nI (cf c)) (fun c => nI (ct c)) aK bF bL bB bA bY bR oT oO oR bS ++ ((ho, .inl (cJ, 1, .inr (.inl fo))) :: wC hc cI (nI nF) (nI nC) yn yt (nI ga) ym (fun c => nI (pl c)) (fun c => nI (cf c)) (fun c => nI (ct c)) aK eB eE eA eL eN eC eS eW eT)) H := hP
  have hD : va_D A (wM hm cI cZ xt (nI nF) (nI nC) xg (fun c => nI (pl c)) (fun c => nI (cf c)) (fun c => nI (ct c)) aK bF bL bB bA bY bR oT oO oR bS ++ ((ho, .inl (cJ, 1, .inr (.inl fo))) :: wC hc cI (nI nF) (nI nC) yn yt (nI ga) ym (fun c => nI (pl c)) (fun c => nI (cf c)) (fun c => nI (ct c)) aK eB eE eA eL eN eC eS eW eT)) := hD
  have hx1 := hw
  clear hw hP1 hK1 hD1 hPc hDc hKc hFc hk1 hz1 hvm ht
  refine lv_pop hx hb d_L_law_598 rfl ?_
  refine lv_aload_n hx hb d_L_law_599 rfl (lv_at hl 2 rfl) ?_
  refine lv_aload_n hx hb d_L_law_600 rfl (lv_at hl 4 rfl) ?_
  refine lv_iload hx hb d_L_law_601 (lv_at hl 0 rfl) ?_
  refine lv_iconst (v := nI 1) hx hb d_L_law_603 (by decide +kernel) ?_
  refine lv_iadd hx hb d_L_law_604 ?_
  refine lv_topi (fun z4 ez4 => ?_)
  obtain rfl : z4 = nI (4 * t9 + 1) := ez4.trans (nI_add _ _)
  refine va_sld hx hb hX hbl hbA hS (pk_in (4 * t9 + 1) L (by omega)) d_L_law_605 ?_
  refine lv_topi (fun z5 ez5 => ?_)
  obtain rfl : z5 = xs (4 * t9 + 1) := ez5.trans (congrArg xs (nI_clamp (by omega)))
  have hPc := hP.sub (ws' := wM hm cI cZ xt (nI nF) (nI nC) xg (fun c => nI (pl c)) (fun c => nI (cf c)) (fun c => nI (ct c)) aK bF bL bB bA bY bR oT oO oR bS) [0, 1, 2, 3, 4, 5, 6, 7, 8, 9, 10, 11, 12, 13, 14] rfl
  have hDc := hD.sub (ws' := wM hm cI cZ xt (nI nF) (nI nC) xg (fun c => nI (pl c)) (fun c => nI (cf c)) (fun c => nI (ct c)) aK bF bL bB bA bY bR oT oO oR bS) [0, 1, 2, 3, 4, 5, 6, 7, 8, 9, 10, 11, 12, 13, 14] (by decide) rfl
  have hKc := hK.sub (tys' := tyM cI cZ) [0, 1] rfl
  have hFc := va_free (wc := wM hm cI cZ xt (nI nF) (nI nC) xg (fun c => nI (pl c)) (fun c => nI (cf c)) (fun c => nI (ct c)) aK bF bL bB bA bY bR oT oO oR bS) hD hS hA [0, 1, 2, 3, 4, 5, 6, 7, 8, 9, 10, 11, 12, 13, 14] rfl
  refine va_calli (va_runV (As := [.int (xs (4 * t9 + 1))]) (rest := []) ⟨hx, hb, hml, hown, hts⟩ (m_about l dC dI cI cZ hm H.size xt xg (fun c => nI (pl c)) (fun c => nI (cf c)) (fun c => nI (ct c)) aK bF bL bB bA bY bR oT oO oR bS nF nC (xs (4 * t9 + 1)) ) (cwV 1 hts gl_103 rfl rfl rfl (by decide +kernel) ⟨Nat.le_of_ble_eq_true rfl, Nat.le_of_ble_eq_true rfl⟩) ⟨fun a U g mk q => by obtain ⟨q0, q1, qP, qK, qD⟩ := q; exact ⟨q0, q1, qP, va_K.moved (u := U) (U := U.calling g mk a) (Vm.Alike.refl U.vm) qK, qD⟩, va_recv hK hP (ci := 0) (q0 := 0) rfl rfl, fun U hU hW => ⟨rfl, by rw [hU], by rw [hU]; exact hPc, va_K.moved hW.alike hKc, hDc.weaken (fun _ _ _ _ => trivial)⟩⟩ rfl rfl hl.1 rfl (lv_room (Nat.le_of_ble_eq_true rfl)) d_L_law_606 ⟨hce, hsl⟩) hS (fun q _ h => hFc q h) hFc (fun r6 u9 t H1 locs ht hvm hw hB hz1 hk1 hS => ?_)
  obtain ⟨xt9, rfl⟩ : ∃ z, z = u9 := ⟨_, rfl⟩
  obtain ⟨hP1, hK1, hD1⟩ := hB
  rw [ht] at hP1
  try dsimp only at hw hP1 hD1
  obtain ⟨hP, hD⟩ := va_join (wr := ((ho, .inl (cJ, 1, .inr (.inl fo))) :: wC hc cI (nI nF) (nI nC) yn yt (nI ga) ym (fun c => nI (pl c)) (fun c => nI (cf c)) (fun c => nI (ct c)) aK eB eE eA eL eN eC eS eW eT)) (w1 := wM hm cI cZ xt9 (nI nF) (nI nC) xg (fun c => nI (pl c)) (fun c => nI (cf c)) (fun c => nI (ct c)) aK bF bL bB bA bY bR oT oO oR bS) hP hD [0, 1, 2, 3, 4, 5, 6, 7, 8, 9, 10, 11, 12, 13, 14] [15, 16, 17, 18, 19, 20, 21, 22, 23, 24, 25, 26, 27, 28, 29, 30, 31, 32] rfl rfl (by decide) (by decide) hk1 hFc hP1 hD1
  generalize H1 = H at hP hS ⊢
  have hP := hP.sub (ws' := (wM hm cI cZ xt9 (nI nF) (nI nC) xg (fun c => nI (pl c)) (fun c => nI (cf c)) (fun c => nI (ct c)) aK bF bL bB bA bY bR oT oO oR bS ++ ((ho, .inl (cJ, 1, .inr (.inl fo))) :: wC hc cI (nI nF) (nI nC) yn yt (nI ga) ym (fun c => nI (pl c)) (fun c => nI (cf c)) (fun c => nI (ct c)) aK eB eE eA eL eN eC eS eW eT))) [18, 19, 20, 21, 22, 23, 24, 25, 26, 27, 28, 29, 30, 31, 32, 0, 1, 2, 3, 4, 5, 6, 7, 8, 9, 10, 11, 12, 13, 14, 15, 16, 17] rfl
  have hD := hD.sub (ws' := (wM hm cI cZ xt9 (nI nF) (nI nC) xg (fun c => nI (pl c)) (fun c => nI (cf c)) (fun c => nI (ct c)) aK bF bL bB bA bY bR oT oO oR bS ++ ((ho, .inl (cJ, 1, .inr (.inl fo))) :: wC hc cI (nI nF) (nI nC) yn yt (nI ga) ym (fun c => nI (pl c)) (fun c => nI (cf c)) (fun c => nI (ct c)) aK eB eE eA eL eN eC eS eW eT))) [18, 19, 20, 21, 22, 23, 24, 25, 26, 27, 28, 29, 30, 31, 32, 0, 1, 2, 3, 4, 5, 6, 7, 8, 9, 10, 11, 12, 13, 14, 15, 16, 17] (by decide) rfl
  have hm1 := hw
  clear hw hP1 hK1 hD1 hPc hDc hKc hFc hk1 hz1 hvm ht
  refine lv_pop hx hb d_L_law_609 rfl ?_
  refine lv_goto (tgt := 613) hx hb d_L_law_610 (by decide) ?_
  refine W.widen (k := 33 + (t9 + 1)) (n := 10097 + 6 * (t9 + 1)) (by omega) (by omega) ?_
  exact next H locs ls ⟨_, _, _, _, _, _, _, _, _, _, _, _, _, _, _, _, _, _, _, _, _, _, _, _, _, _, _, _, _, _, _, _, ⟨hF, hC, hS0, hpl, hcl, fun h9 => absurd h9 (Nat.succ_ne_zero _)⟩, hga, hP, hD, hS⟩ hl
set_option maxHeartbeats 4000000 in
set_option maxRecDepth 100000 in
theorem law_reached {p : Program} {l : Launch} {e : Env} {s : State} {m : MethodId} {below : List Frame} {meth : Method} {c : Code} {b L : Nat} {xs : Nat → Int32} (hst : l.stackTraces = false) (hx : p.tables.exec = Jvm.exec) (hb : c.code = code) (hr : meth.sig.returnType = ret) (hml : c.maxLocals = 7) (hown : s.vm.findClass R_L = some m.cls) (hts : ∀ w ∈ lw_tbl, w.before #[Value.ref b] s = true) (hX : va_X b L xs s s.heap) (hbl : b < s.heap.size) (dC : Nat → ClassId) (dI : Nat → Nat → Nat) (cI cZ cJ : ClassId) (hm hc : Nat → Nat) (ho K : Nat) (hK8 : 801 ≤ K) (sa : Nat → Nat) (A : Nat → Prop) (hA : ∀ q : Nat, s.heap.size ≤ q → A q) (hbA : ¬ A b) (hK : va_K (dC, dI) kls (tyL cI cZ cJ) s) (hT : xT sa s) (hC9 : xC s) (hZ : xZ A s s.heap) {Q : State → Prop} {t9 : Nat} (hL : 4 * t9 + 3 < L) (hL2 : L ≤ 2048) {H : Heap} {locs : List Loc} {ls : Array Slot} (hJ : lwJ dC dI cI cZ cJ hm hc ho K A s.heap t9 H locs) (hl : lv_has ls 7 [(4, .int (nI (4 * t9))), (3, .ref ho), (2, .ref (hm 0)), (1, .ref (hc 0)), (0, .ref b)]) (next : ∀ (H : Heap) (locs : List Loc) (ls : Array Slot), lwJ dC dI cI cZ cJ hm hc ho K A s.heap (t9 + 1) H locs → lv_has ls 7 [(4, .int (nI (4 * t9))), (3, .ref ho), (2, .ref (hm 0)), (1, .ref (hc 0)), (0, .ref b)] → W p l e room_1 s m #[Value.ref b] below meth c H locs (33 + (t9 + 1)) (10097 + 6 * (t9 + 1)) Q (F0 m 613 ls [])) : W p l e room_1 s m #[Value.ref b] below meth c H locs (33 + t9) (10097 + 6 * t9) Q (F0 m 494 ls []) := by
  obtain ⟨nF, nC, pl, cf, ct, aK, xt, xg, bF, bL, bB, bA, bY, bR, oT, oO, oR, bS, fo, yn, yt, ym, ga, eB, eE, eA, eL, eN, eC, eS, eW, eT, ⟨hF, hC, hS0, hpl, hcl, hz0⟩, hga, hP, hD, hS⟩ := hJ
  have hk := hts
  have hce : (33 + t9) + 0 ≤ room_1.cells := by show (33 + t9) + 0 ≤ 1066; omega
  have hsl : (10097 + 6 * t9) + 0 ≤ room_1.slots := by show (10097 + 6 * t9) + 0 ≤ 18343; omega
  refine lv_aload_n hx hb d_L_law_494 rfl (lv_at hl 3 rfl) ?_
  refine lv_aload_n hx hb d_L_law_495 rfl (lv_at hl 4 rfl) ?_
  refine lv_iload hx hb d_L_law_496 (lv_at hl 0 rfl) ?_
  refine lv_iconst (v := nI 1) hx hb d_L_law_498 (by decide +kernel) ?_
  refine lv_iadd hx hb d_L_law_499 ?_
  refine lv_topi (fun z1 ez1 => ?_)
  obtain rfl : z1 = nI (4 * t9 + 1) := ez1.trans (nI_add _ _)
  refine va_sld hx hb hX hbl hbA hS (pk_in (4 * t9 + 1) L (by omega)) d_L_law_500 ?_
  refine lv_topi (fun z2 ez2 => ?_)
  obtain rfl : z2 = xs (4 * t9 + 1) := ez2.trans (congrArg xs (nI_clamp (by omega)))
  have hPc := hP.sub (ws' := wC hc cI (nI nF) (nI nC) yn yt (nI ga) ym (fun c => nI (pl c)) (fun c => nI (cf c)) (fun c => nI (ct c)) aK eB eE eA eL eN eC eS eW eT) [16, 17, 18, 19, 20, 21, 22, 23, 24, 25, 26, 27, 28, 29, 30, 31, 32] rfl
  have hDc := hD.sub (ws' := wC hc cI (nI nF) (nI nC) yn yt (nI ga) ym (fun c => nI (pl c)) (fun c => nI (cf c)) (fun c => nI (ct c)) aK eB eE eA eL eN eC eS eW eT) [16, 17, 18, 19, 20, 21, 22, 23, 24, 25, 26, 27, 28, 29, 30, 31, 32] (by decide) rfl
  have hKc := hK.sub (tys' := tyC cI) [0] rfl
  have hFc := va_free (wc := wC hc cI (nI nF) (nI nC) yn yt (nI ga) ym (fun c => nI (pl c)) (fun c => nI (cf c)) (fun c => nI (ct c)) aK eB eE eA eL eN eC eS eW eT) hD hS hA [16, 17, 18, 19, 20, 21, 22, 23, 24, 25, 26, 27, 28, 29, 30, 31, 32] rfl
  refine va_calli (va_runV (As := [.int (xs (4 * t9 + 1))]) (rest := []) ⟨hx, hb, hml, hown, hts⟩ (c_X_reached_ok l dC dI cI hc H.size yn yt (nI ga) ym aK eB eE eA eL eN eC eS eW eT nF nC pl cf ct (xs (4 * t9 + 1)) (hF) (hC) (hS0) (hpl)) (cwV 1 hts gl_89 rfl rfl rfl (by decide +kernel) ⟨Nat.le_of_ble_eq_true rfl, Nat.le_of_ble_eq_true rfl⟩) ⟨fun a U g mk q => by obtain ⟨q0, q1, qP, qK, qD⟩ := q; exact ⟨q0, q1, qP, va_K.moved (u := U) (U := U.calling g mk a) (Vm.Alike.refl U.vm) qK, qD⟩, va_recv hK hP (ci := 4) (q0 := 16) rfl rfl, fun U hU hW => ⟨rfl, by rw [hU], by rw [hU]; exact hPc, va_K.moved hW.alike hKc, hDc.weaken (fun _ _ _ _ => trivial)⟩⟩ rfl rfl hl.1 rfl (lv_room (Nat.le_of_ble_eq_true rfl)) d_L_law_501 ⟨hce, hsl⟩) hS (fun q _ h => hFc q h) hFc (fun r3 u9 t H1 locs ht hvm hw hB hz1 hk1 hS => ?_)
  obtain ⟨hP1, hK1, hD1⟩ := hB
  rw [ht] at hP1
  try dsimp only at hw hP1 hD1
  obtain ⟨hP, hD⟩ := va_join (wr := (wM hm cI cZ xt (nI nF) (nI nC) xg (fun c => nI (pl c)) (fun c => nI (cf c)) (fun c => nI (ct c)) aK bF bL bB bA bY bR oT oO oR bS ++ [(ho, .inl (cJ, 1, .inr (.inl fo)))])) (w1 := wC hc cI (nI nF) (nI nC) yn yt (nI ga) ym (fun c => nI (pl c)) (fun c => nI (cf c)) (fun c => nI (ct c)) aK eB eE eA eL eN eC eS eW eT) hP hD [16, 17, 18, 19, 20, 21, 22, 23, 24, 25, 26, 27, 28, 29, 30, 31, 32] [0, 1, 2, 3, 4, 5, 6, 7, 8, 9, 10, 11, 12, 13, 14, 15] rfl rfl (by decide) (by decide) hk1 hFc hP1 hD1
  generalize H1 = H at hP hS ⊢
  have hP : va_P (dC, dI) kls (wM hm cI cZ xt (nI nF) (nI nC) xg (fun c => nI (pl c)) (fun c => nI (cf c)) (fun c => nI (ct c)) aK bF bL bB bA bY bR oT oO oR bS ++ ((ho, .inl (cJ, 1, .inr (.inl fo))) :: wC hc cI (nI nF) (nI nC) yn yt (nI ga) ym (fun c => nI (pl c)) (fun c => nI (cf c)) (fun c => nI (ct c)) aK eB eE eA eL eN eC eS eW eT)) H := hP
  have hD : va_D A (wM hm cI cZ xt (nI nF) (nI nC) xg (fun c => nI (pl c)) (fun c => nI (cf c)) (fun c => nI (ct c)) aK bF bL bB bA bY bR oT oO oR bS ++ ((ho, .inl (cJ, 1, .inr (.inl fo))) :: wC hc cI (nI nF) (nI nC) yn yt (nI ga) ym (fun c => nI (pl c)) (fun c => nI (cf c)) (fun c => nI (ct c)) aK eB eE eA eL eN eC eS eW eT)) := hD
  have hx1 := hw
  clear hw hP1 hK1 hD1 hPc hDc hKc hFc hk1 hz1 hvm ht
  refine lv_pop hx hb d_L_law_504 rfl ?_
  refine lv_aload_n hx hb d_L_law_505 rfl (lv_at hl 2 rfl) ?_
  refine lv_aload_n hx hb d_L_law_506 rfl (lv_at hl 4 rfl) ?_
  refine lv_iload hx hb d_L_law_507 (lv_at hl 0 rfl) ?_
  refine lv_iconst (v := nI 1) hx hb d_L_law_509 (by decide +kernel) ?_
  refine lv_iadd hx hb d_L_law_510 ?_
  refine lv_topi (fun z4 ez4 => ?_)
  obtain rfl : z4 = nI (4 * t9 + 1) := ez4.trans (nI_add _ _)
  refine va_sld hx hb hX hbl hbA hS (pk_in (4 * t9 + 1) L (by omega)) d_L_law_511 ?_
  refine lv_topi (fun z5 ez5 => ?_)
  obtain rfl : z5 = xs (4 * t9 + 1) := ez5.trans (congrArg xs (nI_clamp (by omega)))
  have hPc := hP.sub (ws' := wM hm cI cZ xt (nI nF) (nI nC) xg (fun c => nI (pl c)) (fun c => nI (cf c)) (fun c => nI (ct c)) aK bF bL bB bA bY bR oT oO oR bS) [0, 1, 2, 3, 4, 5, 6, 7, 8, 9, 10, 11, 12, 13, 14] rfl
  have hDc := hD.sub (ws' := wM hm cI cZ xt (nI nF) (nI nC) xg (fun c => nI (pl c)) (fun c => nI (cf c)) (fun c => nI (ct c)) aK bF bL bB bA bY bR oT oO oR bS) [0, 1, 2, 3, 4, 5, 6, 7, 8, 9, 10, 11, 12, 13, 14] (by decide) rfl
  have hKc := hK.sub (tys' := tyM cI cZ) [0, 1] rfl
  have hFc := va_free (wc := wM hm cI cZ xt (nI nF) (nI nC) xg (fun c => nI (pl c)) (fun c => nI (cf c)) (fun c => nI (ct c)) aK bF bL bB bA bY bR oT oO oR bS) hD hS hA [0, 1, 2, 3, 4, 5, 6, 7, 8, 9, 10, 11, 12, 13, 14] rfl
  refine va_calli (va_runV (As := [.int (xs (4 * t9 + 1))]) (rest := []) ⟨hx, hb, hml, hown, hts⟩ (m_reached l dC dI cI cZ hm H.size xt xg (fun c => nI (pl c)) aK bF bL bB bA bY bR oT oO oR bS nF nC cf ct (xs (4 * t9 + 1)) (hF) (hC) (hS0)) (cwV 1 hts gl_92 rfl rfl rfl (by decide +kernel) ⟨Nat.le_of_ble_eq_true rfl, Nat.le_of_ble_eq_true rfl⟩) ⟨fun a U g mk q => by obtain ⟨q0, q1, qP, qK, qD⟩ := q; exact ⟨q0, q1, qP, va_K.moved (u := U) (U := U.calling g mk a) (Vm.Alike.refl U.vm) qK, qD⟩, va_recv hK hP (ci := 0) (q0 := 0) rfl rfl, fun U hU hW => ⟨rfl, by rw [hU], by rw [hU]; exact hPc, va_K.moved hW.alike hKc, hDc.weaken (fun _ _ _ _ => trivial)⟩⟩ rfl rfl hl.1 rfl (lv_room (Nat.le_of_ble_eq_true rfl)) d_L_law_512 ⟨hce, hsl⟩) hS (fun q _ h => hFc q h) hFc (fun r6 u9 t H1 locs ht hvm hw hB hz1 hk1 hS => ?_)
  obtain ⟨xt9, rfl⟩ : ∃ z, z = u9 := ⟨_, rfl⟩
  obtain ⟨hP1, hK1, hD1⟩ := hB
  rw [ht] at hP1
  try dsimp only at hw hP1 hD1
  obtain ⟨hP, hD⟩ := va_join (wr := ((ho, .inl (cJ, 1, .inr (.inl fo))) :: wC hc cI (nI nF) (nI nC) yn yt (nI ga) ym (fun c => nI (pl c)) (fun c => nI (cf c)) (fun c => nI (ct c)) aK eB eE eA eL eN eC eS eW eT)) (w1 := wM hm cI cZ xt9 (nI nF) (nI nC) xg (fun c => nI (pl c)) (fun c => nI (cf c)) (fun c => nI (ct c)) aK bF bL bB bA bY bR oT oO oR bS) hP hD [0, 1, 2, 3, 4, 5, 6, 7, 8, 9, 10, 11, 12, 13, 14] [15, 16, 17, 18, 19, 20, 21, 22, 23, 24, 25, 26, 27, 28, 29, 30, 31, 32] rfl rfl (by decide) (by decide) hk1 hFc hP1 hD1
  generalize H1 = H at hP hS ⊢
  have hP := hP.sub (ws' := (wM hm cI cZ xt9 (nI nF) (nI nC) xg (fun c => nI (pl c)) (fun c => nI (cf c)) (fun c => nI (ct c)) aK bF bL bB bA bY bR oT oO oR bS ++ ((ho, .inl (cJ, 1, .inr (.inl fo))) :: wC hc cI (nI nF) (nI nC) yn yt (nI ga) ym (fun c => nI (pl c)) (fun c => nI (cf c)) (fun c => nI (ct c)) aK eB eE eA eL eN eC eS eW eT))) [18, 19, 20, 21, 22, 23, 24, 25, 26, 27, 28, 29, 30, 31, 32, 0, 1, 2, 3, 4, 5, 6, 7, 8, 9, 10, 11, 12, 13, 14, 15, 16, 17] rfl
  have hD := hD.sub (ws' := (wM hm cI cZ xt9 (nI nF) (nI nC) xg (fun c => nI (pl c)) (fun c => nI (cf c)) (fun c => nI (ct c)) aK bF bL bB bA bY bR oT oO oR bS ++ ((ho, .inl (cJ, 1, .inr (.inl fo))) :: wC hc cI (nI nF) (nI nC) yn yt (nI ga) ym (fun c => nI (pl c)) (fun c => nI (cf c)) (fun c => nI (ct c)) aK eB eE eA eL eN eC eS eW eT))) [18, 19, 20, 21, 22, 23, 24, 25, 26, 27, 28, 29, 30, 31, 32, 0, 1, 2, 3, 4, 5, 6, 7, 8, 9, 10, 11, 12, 13, 14, 15, 16, 17] (by decide) rfl
  have hm1 := hw
  clear hw hP1 hK1 hD1 hPc hDc hKc hFc hk1 hz1 hvm ht
  refine lv_pop hx hb d_L_law_515 rfl ?_
  refine lv_goto (tgt := 613) hx hb d_L_law_516 (by decide) ?_
  refine W.widen (k := 33 + (t9 + 1)) (n := 10097 + 6 * (t9 + 1)) (by omega) (by omega) ?_
  exact next H locs ls ⟨_, _, _, _, _, _, _, _, _, _, _, _, _, _, _, _, _, _, _, _, _, _, _, _, _, _, _, _, _, _, _, _, ⟨hF, hC, hS0, hpl, hcl, fun h9 => absurd h9 (Nat.succ_ne_zero _)⟩, hga, hP, hD, hS⟩ hl
set_option maxHeartbeats 4000000 in
set_option maxRecDepth 100000 in
theorem law_told {p : Program} {l : Launch} {e : Env} {s : State} {m : MethodId} {below : List Frame} {meth : Method} {c : Code} {b L : Nat} {xs : Nat → Int32} (hst : l.stackTraces = false) (hx : p.tables.exec = Jvm.exec) (hb : c.code = code) (hr : meth.sig.returnType = ret) (hml : c.maxLocals = 7) (hown : s.vm.findClass R_L = some m.cls) (hts : ∀ w ∈ lw_tbl, w.before #[Value.ref b] s = true) (hX : va_X b L xs s s.heap) (hbl : b < s.heap.size) (dC : Nat → ClassId) (dI : Nat → Nat → Nat) (cI cZ cJ : ClassId) (hm hc : Nat → Nat) (ho K : Nat) (hK8 : 801 ≤ K) (sa : Nat → Nat) (A : Nat → Prop) (hA : ∀ q : Nat, s.heap.size ≤ q → A q) (hbA : ¬ A b) (hK : va_K (dC, dI) kls (tyL cI cZ cJ) s) (hT : xT sa s) (hC9 : xC s) (hZ : xZ A s s.heap) {Q : State → Prop} {t9 : Nat} (hL : 4 * t9 + 3 < L) (hL2 : L ≤ 2048) {H : Heap} {locs : List Loc} {ls : Array Slot} (hJ : lwJ dC dI cI cZ cJ hm hc ho K A s.heap t9 H locs) (hl : lv_has ls 7 [(4, .int (nI (4 * t9))), (3, .ref ho), (2, .ref (hm 0)), (1, .ref (hc 0)), (0, .ref b)]) (next : ∀ (H : Heap) (locs : List Loc) (ls : Array Slot), lwJ dC dI cI cZ cJ hm hc ho K A s.heap (t9 + 1) H locs → lv_has ls 7 [(4, .int (nI (4 * t9))), (3, .ref ho), (2, .ref (hm 0)), (1, .ref (hc 0)), (0, .ref b)] → W p l e room_1 s m #[Value.ref b] below meth c H locs (33 + (t9 + 1)) (10097 + 6 * (t9 + 1)) Q (F0 m 613 ls [])) : W p l e room_1 s m #[Value.ref b] below meth c H locs (33 + t9) (10097 + 6 * t9) Q (F0 m 197 ls []) := by
  obtain ⟨nF, nC, pl, cf, ct, aK, xt, xg, bF, bL, bB, bA, bY, bR, oT, oO, oR, bS, fo, yn, yt, ym, ga, eB, eE, eA, eL, eN, eC, eS, eW, eT, ⟨hF, hC, hS0, hpl, hcl, hz0⟩, hga, hP, hD, hS⟩ := hJ
  have hk := hts
  have hce : (33 + t9) + 0 ≤ room_1.cells := by show (33 + t9) + 0 ≤ 1066; omega
  have hsl : (10097 + 6 * t9) + 0 ≤ room_1.slots := by show (10097 + 6 * t9) + 0 ≤ 18343; omega
  refine lv_aload_n hx hb d_L_law_197 rfl (lv_at hl 3 rfl) ?_
  refine lv_aload_n hx hb d_L_law_198 rfl (lv_at hl 4 rfl) ?_
  refine lv_iload hx hb d_L_law_199 (lv_at hl 0 rfl) ?_
  refine lv_iconst (v := nI 1) hx hb d_L_law_201 (by decide +kernel) ?_
  refine lv_iadd hx hb d_L_law_202 ?_
  refine lv_topi (fun z1 ez1 => ?_)
  obtain rfl : z1 = nI (4 * t9 + 1) := ez1.trans (nI_add _ _)
  refine va_sld hx hb hX hbl hbA hS (pk_in (4 * t9 + 1) L (by omega)) d_L_law_203 ?_
  refine lv_topi (fun z2 ez2 => ?_)
  obtain rfl : z2 = xs (4 * t9 + 1) := ez2.trans (congrArg xs (nI_clamp (by omega)))
  refine lv_aload_n hx hb d_L_law_204 rfl (lv_at hl 4 rfl) ?_
  refine lv_iload hx hb d_L_law_205 (lv_at hl 0 rfl) ?_
  refine lv_iconst (v := nI 2) hx hb d_L_law_207 (by decide +kernel) ?_
  refine lv_iadd hx hb d_L_law_208 ?_
  refine lv_topi (fun z3 ez3 => ?_)
  obtain rfl : z3 = nI (4 * t9 + 2) := ez3.trans (nI_add _ _)
  refine va_sld hx hb hX hbl hbA hS (pk_in (4 * t9 + 2) L (by omega)) d_L_law_209 ?_
  refine lv_topi (fun z4 ez4 => ?_)
  obtain rfl : z4 = xs (4 * t9 + 2) := ez4.trans (congrArg xs (nI_clamp (by omega)))
  have hPc := hP.sub (ws' := wC hc cI (nI nF) (nI nC) yn yt (nI ga) ym (fun c => nI (pl c)) (fun c => nI (cf c)) (fun c => nI (ct c)) aK eB eE eA eL eN eC eS eW eT) [16, 17, 18, 19, 20, 21, 22, 23, 24, 25, 26, 27, 28, 29, 30, 31, 32] rfl
  have hDc := hD.sub (ws' := wC hc cI (nI nF) (nI nC) yn yt (nI ga) ym (fun c => nI (pl c)) (fun c => nI (cf c)) (fun c => nI (ct c)) aK eB eE eA eL eN eC eS eW eT) [16, 17, 18, 19, 20, 21, 22, 23, 24, 25, 26, 27, 28, 29, 30, 31, 32] (by decide) rfl
  have hKc := hK.sub (tys' := tyC cI) [0] rfl
  have hFc := va_free (wc := wC hc cI (nI nF) (nI nC) yn yt (nI ga) ym (fun c => nI (pl c)) (fun c => nI (cf c)) (fun c => nI (ct c)) aK eB eE eA eL eN eC eS eW eT) hD hS hA [16, 17, 18, 19, 20, 21, 22, 23, 24, 25, 26, 27, 28, 29, 30, 31, 32] rfl
  refine va_calli (va_runV (As := [.int (xs (4 * t9 + 1)), .int (xs (4 * t9 + 2))]) (rest := []) ⟨hx, hb, hml, hown, hts⟩ (c_X_told_ok l dC dI cI hc H.size yn yt (nI ga) ym aK eB eE eA eL eN eC eS eW eT nF nC pl cf ct (xs (4 * t9 + 1)) (xs (4 * t9 + 2)) (hC)) (cwV 2 hts gl_61 rfl rfl rfl (by decide +kernel) ⟨Nat.le_of_ble_eq_true rfl, Nat.le_of_ble_eq_true rfl⟩) ⟨fun a U g mk q => by obtain ⟨q0, q1, qP, qK, qD⟩ := q; exact ⟨q0, q1, qP, va_K.moved (u := U) (U := U.calling g mk a) (Vm.Alike.refl U.vm) qK, qD⟩, va_recv hK hP (ci := 4) (q0 := 16) rfl rfl, fun U hU hW => ⟨rfl, by rw [hU], by rw [hU]; exact hPc, va_K.moved hW.alike hKc, hDc.weaken (fun _ _ _ _ => trivial)⟩⟩ rfl rfl hl.1 rfl (lv_room (Nat.le_of_ble_eq_true rfl)) d_L_law_210 ⟨hce, hsl⟩) hS (fun q _ h => hFc q h) hFc (fun r5 u9 t H1 locs ht hvm hw hB hz1 hk1 hS => ?_)
  obtain ⟨hP1, hK1, hD1⟩ := hB
  rw [ht] at hP1
  try dsimp only at hw hP1 hD1
  obtain ⟨hP, hD⟩ := va_join (wr := (wM hm cI cZ xt (nI nF) (nI nC) xg (fun c => nI (pl c)) (fun c => nI (cf c)) (fun c => nI (ct c)) aK bF bL bB bA bY bR oT oO oR bS ++ [(ho, .inl (cJ, 1, .inr (.inl fo)))])) (w1 := wC hc cI (nI nF) (nI nC) yn yt (nI ga) ym (fun c => nI (pl c)) (fun c => nI (cf c)) (fun c => nI (ct c)) aK eB eE eA eL eN eC eS eW eT) hP hD [16, 17, 18, 19, 20, 21, 22, 23, 24, 25, 26, 27, 28, 29, 30, 31, 32] [0, 1, 2, 3, 4, 5, 6, 7, 8, 9, 10, 11, 12, 13, 14, 15] rfl rfl (by decide) (by decide) hk1 hFc hP1 hD1
  generalize H1 = H at hP hS ⊢
  have hP : va_P (dC, dI) kls (wM hm cI cZ xt (nI nF) (nI nC) xg (fun c => nI (pl c)) (fun c => nI (cf c)) (fun c => nI (ct c)) aK bF bL bB bA bY bR oT oO oR bS ++ ((ho, .inl (cJ, 1, .inr (.inl fo))) :: wC hc cI (nI nF) (nI nC) yn yt (nI ga) ym (fun c => nI (pl c)) (fun c => nI (cf c)) (fun c => nI (ct c)) aK eB eE eA eL eN eC eS eW eT)) H := hP
  have hD : va_D A (wM hm cI cZ xt (nI nF) (nI nC) xg (fun c => nI (pl c)) (fun c => nI (cf c)) (fun c => nI (ct c)) aK bF bL bB bA bY bR oT oO oR bS ++ ((ho, .inl (cJ, 1, .inr (.inl fo))) :: wC hc cI (nI nF) (nI nC) yn yt (nI ga) ym (fun c => nI (pl c)) (fun c => nI (cf c)) (fun c => nI (ct c)) aK eB eE eA eL eN eC eS eW eT)) := hD
  have hx1 := hw
  clear hw hP1 hK1 hD1 hPc hDc hKc hFc hk1 hz1 hvm ht
  refine lv_pop hx hb d_L_law_213 rfl ?_
  refine lv_aload_n hx hb d_L_law_214 rfl (lv_at hl 2 rfl) ?_
  refine lv_aload_n hx hb d_L_law_215 rfl (lv_at hl 4 rfl) ?_
  refine lv_iload hx hb d_L_law_216 (lv_at hl 0 rfl) ?_
  refine lv_iconst (v := nI 1) hx hb d_L_law_218 (by decide +kernel) ?_
  refine lv_iadd hx hb d_L_law_219 ?_
  refine lv_topi (fun z6 ez6 => ?_)
  obtain rfl : z6 = nI (4 * t9 + 1) := ez6.trans (nI_add _ _)
  refine va_sld hx hb hX hbl hbA hS (pk_in (4 * t9 + 1) L (by omega)) d_L_law_220 ?_
  refine lv_topi (fun z7 ez7 => ?_)
  obtain rfl : z7 = xs (4 * t9 + 1) := ez7.trans (congrArg xs (nI_clamp (by omega)))
  refine lv_aload_n hx hb d_L_law_221 rfl (lv_at hl 4 rfl) ?_
  refine lv_iload hx hb d_L_law_222 (lv_at hl 0 rfl) ?_
  refine lv_iconst (v := nI 2) hx hb d_L_law_224 (by decide +kernel) ?_
  refine lv_iadd hx hb d_L_law_225 ?_
  refine lv_topi (fun z8 ez8 => ?_)
  obtain rfl : z8 = nI (4 * t9 + 2) := ez8.trans (nI_add _ _)
  refine va_sld hx hb hX hbl hbA hS (pk_in (4 * t9 + 2) L (by omega)) d_L_law_226 ?_
  refine lv_topi (fun z9 ez9 => ?_)
  obtain rfl : z9 = xs (4 * t9 + 2) := ez9.trans (congrArg xs (nI_clamp (by omega)))
  have hPc := hP.sub (ws' := wM hm cI cZ xt (nI nF) (nI nC) xg (fun c => nI (pl c)) (fun c => nI (cf c)) (fun c => nI (ct c)) aK bF bL bB bA bY bR oT oO oR bS) [0, 1, 2, 3, 4, 5, 6, 7, 8, 9, 10, 11, 12, 13, 14] rfl
  have hDc := hD.sub (ws' := wM hm cI cZ xt (nI nF) (nI nC) xg (fun c => nI (pl c)) (fun c => nI (cf c)) (fun c => nI (ct c)) aK bF bL bB bA bY bR oT oO oR bS) [0, 1, 2, 3, 4, 5, 6, 7, 8, 9, 10, 11, 12, 13, 14] (by decide) rfl
  have hKc := hK.sub (tys' := tyM cI cZ) [0, 1] rfl
  have hFc := va_free (wc := wM hm cI cZ xt (nI nF) (nI nC) xg (fun c => nI (pl c)) (fun c => nI (cf c)) (fun c => nI (ct c)) aK bF bL bB bA bY bR oT oO oR bS) hD hS hA [0, 1, 2, 3, 4, 5, 6, 7, 8, 9, 10, 11, 12, 13, 14] rfl
  refine va_calli (va_runV (As := [.int (xs (4 * t9 + 1)), .int (xs (4 * t9 + 2))]) (rest := []) ⟨hx, hb, hml, hown, hts⟩ (m_told l dC dI cI cZ hm H.size xt (nI nF) xg (fun c => nI (pl c)) (fun c => nI (cf c)) (fun c => nI (ct c)) aK bF bL bB bA bY bR oT oO oR bS nC (xs (4 * t9 + 1)) (xs (4 * t9 + 2)) (hC)) (cwV 2 hts gl_64 rfl rfl rfl (by decide +kernel) ⟨Nat.le_of_ble_eq_true rfl, Nat.le_of_ble_eq_true rfl⟩) ⟨fun a U g mk q => by obtain ⟨q0, q1, qP, qK, qD⟩ := q; exact ⟨q0, q1, qP, va_K.moved (u := U) (U := U.calling g mk a) (Vm.Alike.refl U.vm) qK, qD⟩, va_recv hK hP (ci := 0) (q0 := 0) rfl rfl, fun U hU hW => ⟨rfl, by rw [hU], by rw [hU]; exact hPc, va_K.moved hW.alike hKc, hDc.weaken (fun _ _ _ _ => trivial)⟩⟩ rfl rfl hl.1 rfl (lv_room (Nat.le_of_ble_eq_true rfl)) d_L_law_227 ⟨hce, hsl⟩) hS (fun q _ h => hFc q h) hFc (fun r10 u9 t H1 locs ht hvm hw hB hz1 hk1 hS => ?_)
  obtain ⟨xt9, rfl⟩ : ∃ z, z = u9 := ⟨_, rfl⟩
  obtain ⟨hP1, hK1, hD1⟩ := hB
  rw [ht] at hP1
  try dsimp only at hw hP1 hD1
  obtain ⟨hP, hD⟩ := va_join (wr := ((ho, .inl (cJ, 1, .inr (.inl fo))) :: wC hc cI (nI nF) (nI nC) yn yt (nI ga) ym (fun c => nI (pl c)) (fun c => nI (cf c)) (fun c => nI (ct c)) aK eB eE eA eL eN eC eS eW eT)) (w1 := wM hm cI cZ xt9 (nI nF) (nI nC) xg (fun c => nI (pl c)) (fun c => nI (cf c)) (fun c => nI (ct c)) aK bF bL bB bA bY bR oT oO oR bS) hP hD [0, 1, 2, 3, 4, 5, 6, 7, 8, 9, 10, 11, 12, 13, 14] [15, 16, 17, 18, 19, 20, 21, 22, 23, 24, 25, 26, 27, 28, 29, 30, 31, 32] rfl rfl (by decide) (by decide) hk1 hFc hP1 hD1
  generalize H1 = H at hP hS ⊢
  have hP := hP.sub (ws' := (wM hm cI cZ xt9 (nI nF) (nI nC) xg (fun c => nI (pl c)) (fun c => nI (cf c)) (fun c => nI (ct c)) aK bF bL bB bA bY bR oT oO oR bS ++ ((ho, .inl (cJ, 1, .inr (.inl fo))) :: wC hc cI (nI nF) (nI nC) yn yt (nI ga) ym (fun c => nI (pl c)) (fun c => nI (cf c)) (fun c => nI (ct c)) aK eB eE eA eL eN eC eS eW eT))) [18, 19, 20, 21, 22, 23, 24, 25, 26, 27, 28, 29, 30, 31, 32, 0, 1, 2, 3, 4, 5, 6, 7, 8, 9, 10, 11, 12, 13, 14, 15, 16, 17] rfl
  have hD := hD.sub (ws' := (wM hm cI cZ xt9 (nI nF) (nI nC) xg (fun c => nI (pl c)) (fun c => nI (cf c)) (fun c => nI (ct c)) aK bF bL bB bA bY bR oT oO oR bS ++ ((ho, .inl (cJ, 1, .inr (.inl fo))) :: wC hc cI (nI nF) (nI nC) yn yt (nI ga) ym (fun c => nI (pl c)) (fun c => nI (cf c)) (fun c => nI (ct c)) aK eB eE eA eL eN eC eS eW eT))) [18, 19, 20, 21, 22, 23, 24, 25, 26, 27, 28, 29, 30, 31, 32, 0, 1, 2, 3, 4, 5, 6, 7, 8, 9, 10, 11, 12, 13, 14, 15, 16, 17] (by decide) rfl
  have hm1 := hw
  clear hw hP1 hK1 hD1 hPc hDc hKc hFc hk1 hz1 hvm ht
  refine lv_pop hx hb d_L_law_230 rfl ?_
  refine lv_goto (tgt := 613) hx hb d_L_law_231 (by decide) ?_
  refine W.widen (k := 33 + (t9 + 1)) (n := 10097 + 6 * (t9 + 1)) (by omega) (by omega) ?_
  exact next H locs ls ⟨_, _, _, _, _, _, _, _, _, _, _, _, _, _, _, _, _, _, _, _, _, _, _, _, _, _, _, _, _, _, _, _, ⟨hF, hC, hS0, hpl, hcl, fun h9 => absurd h9 (Nat.succ_ne_zero _)⟩, hga, hP, hD, hS⟩ hl
set_option maxHeartbeats 4000000 in
set_option maxRecDepth 100000 in
theorem law_order {p : Program} {l : Launch} {e : Env} {s : State} {m : MethodId} {below : List Frame} {meth : Method} {c : Code} {b L : Nat} {xs : Nat → Int32} (hst : l.stackTraces = false) (hx : p.tables.exec = Jvm.exec) (hb : c.code = code) (hr : meth.sig.returnType = ret) (hml : c.maxLocals = 7) (hown : s.vm.findClass R_L = some m.cls) (hts : ∀ w ∈ lw_tbl, w.before #[Value.ref b] s = true) (hX : va_X b L xs s s.heap) (hbl : b < s.heap.size) (dC : Nat → ClassId) (dI : Nat → Nat → Nat) (cI cZ cJ : ClassId) (hm hc : Nat → Nat) (ho K : Nat) (hK8 : 801 ≤ K) (sa : Nat → Nat) (A : Nat → Prop) (hA : ∀ q : Nat, s.heap.size ≤ q → A q) (hbA : ¬ A b) (hK : va_K (dC, dI) kls (tyL cI cZ cJ) s) (hT : xT sa s) (hC9 : xC s) (hZ : xZ A s s.heap) {Q : State → Prop} {t9 : Nat} (hL : 4 * t9 + 3 < L) (hL2 : L ≤ 2048) {H : Heap} {locs : List Loc} {ls : Array Slot} (hJ : lwJ dC dI cI cZ cJ hm hc ho K A s.heap t9 H locs) (hl : lv_has ls 7 [(4, .int (nI (4 * t9))), (3, .ref ho), (2, .ref (hm 0)), (1, .ref (hc 0)), (0, .ref b)]) (next : ∀ (H : Heap) (locs : List Loc) (ls : Array Slot), lwJ dC dI cI cZ cJ hm hc ho K A s.heap (t9 + 1) H locs → lv_has ls 7 [(4, .int (nI (4 * t9))), (3, .ref ho), (2, .ref (hm 0)), (1, .ref (hc 0)), (0, .ref b)] → W p l e room_1 s m #[Value.ref b] below meth c H locs (33 + (t9 + 1)) (10097 + 6 * (t9 + 1)) Q (F0 m 613 ls [])) : W p l e room_1 s m #[Value.ref b] below meth c H locs (33 + t9) (10097 + 6 * t9) Q (F0 m 457 ls []) := by
  obtain ⟨nF, nC, pl, cf, ct, aK, xt, xg, bF, bL, bB, bA, bY, bR, oT, oO, oR, bS, fo, yn, yt, ym, ga, eB, eE, eA, eL, eN, eC, eS, eW, eT, ⟨hF, hC, hS0, hpl, hcl, hz0⟩, hga, hP, hD, hS⟩ := hJ
  have hk := hts
  have hce : (33 + t9) + 0 ≤ room_1.cells := by show (33 + t9) + 0 ≤ 1066; omega
  have hsl : (10097 + 6 * t9) + 0 ≤ room_1.slots := by show (10097 + 6 * t9) + 0 ≤ 18343; omega
  refine lv_aload_n hx hb d_L_law_457 rfl (lv_at hl 3 rfl) ?_
  refine lv_aload_n hx hb d_L_law_458 rfl (lv_at hl 4 rfl) ?_
  refine lv_iload hx hb d_L_law_459 (lv_at hl 0 rfl) ?_
  refine lv_iconst (v := nI 1) hx hb d_L_law_461 (by decide +kernel) ?_
  refine lv_iadd hx hb d_L_law_462 ?_
  refine lv_topi (fun z1 ez1 => ?_)
  obtain rfl : z1 = nI (4 * t9 + 1) := ez1.trans (nI_add _ _)
  refine va_sld hx hb hX hbl hbA hS (pk_in (4 * t9 + 1) L (by omega)) d_L_law_463 ?_
  refine lv_topi (fun z2 ez2 => ?_)
  obtain rfl : z2 = xs (4 * t9 + 1) := ez2.trans (congrArg xs (nI_clamp (by omega)))
  refine lv_aload_n hx hb d_L_law_464 rfl (lv_at hl 4 rfl) ?_
  refine lv_iload hx hb d_L_law_465 (lv_at hl 0 rfl) ?_
  refine lv_iconst (v := nI 2) hx hb d_L_law_467 (by decide +kernel) ?_
  refine lv_iadd hx hb d_L_law_468 ?_
  refine lv_topi (fun z3 ez3 => ?_)
  obtain rfl : z3 = nI (4 * t9 + 2) := ez3.trans (nI_add _ _)
  refine va_sld hx hb hX hbl hbA hS (pk_in (4 * t9 + 2) L (by omega)) d_L_law_469 ?_
  refine lv_topi (fun z4 ez4 => ?_)
  obtain rfl : z4 = xs (4 * t9 + 2) := ez4.trans (congrArg xs (nI_clamp (by omega)))
  have hPc := hP.sub (ws' := wC hc cI (nI nF) (nI nC) yn yt (nI ga) ym (fun c => nI (pl c)) (fun c => nI (cf c)) (fun c => nI (ct c)) aK eB eE eA eL eN eC eS eW eT) [16, 17, 18, 19, 20, 21, 22, 23, 24, 25, 26, 27, 28, 29, 30, 31, 32] rfl
  have hDc := hD.sub (ws' := wC hc cI (nI nF) (nI nC) yn yt (nI ga) ym (fun c => nI (pl c)) (fun c => nI (cf c)) (fun c => nI (ct c)) aK eB eE eA eL eN eC eS eW eT) [16, 17, 18, 19, 20, 21, 22, 23, 24, 25, 26, 27, 28, 29, 30, 31, 32] (by decide) rfl
  have hKc := hK.sub (tys' := tyC cI) [0] rfl
  have hFc := va_free (wc := wC hc cI (nI nF) (nI nC) yn yt (nI ga) ym (fun c => nI (pl c)) (fun c => nI (cf c)) (fun c => nI (ct c)) aK eB eE eA eL eN eC eS eW eT) hD hS hA [16, 17, 18, 19, 20, 21, 22, 23, 24, 25, 26, 27, 28, 29, 30, 31, 32] rfl
  refine va_calli (va_runV (As := [.int (xs (4 * t9 + 1)), .int (xs (4 * t9 + 2))]) (rest := []) ⟨hx, hb, hml, hown, hts⟩ (c_X_order_ok l dC dI cI hc H.size yn yt (nI ga) ym aK eB eE eA eL eN eC eS eW eT nF nC pl cf ct (xs (4 * t9 + 1)) (xs (4 * t9 + 2)) (hF) (hC) (hS0) (hpl) (hcl)) (cwV 2 hts gl_85 rfl rfl rfl (by decide +kernel) ⟨Nat.le_of_ble_eq_true rfl, Nat.le_of_ble_eq_true rfl⟩) ⟨fun a U g mk q => by obtain ⟨q0, q1, qP, qK, qD⟩ := q; exact ⟨q0, q1, qP, va_K.moved (u := U) (U := U.calling g mk a) (Vm.Alike.refl U.vm) qK, qD⟩, va_recv hK hP (ci := 4) (q0 := 16) rfl rfl, fun U hU hW => ⟨rfl, by rw [hU], by rw [hU]; exact hPc, va_K.moved hW.alike hKc, hDc.weaken (fun _ _ _ _ => trivial)⟩⟩ rfl rfl hl.1 rfl (lv_room (Nat.le_of_ble_eq_true rfl)) d_L_law_470 ⟨hce, hsl⟩) hS (fun q _ h => hFc q h) hFc (fun r5 u9 t H1 locs ht hvm hw hB hz1 hk1 hS => ?_)
  obtain ⟨ym9, eT9⟩ := u9
  obtain ⟨hP1, hK1, hD1⟩ := hB
  rw [ht] at hP1
  try dsimp only at hw hP1 hD1
  obtain ⟨hP, hD⟩ := va_join (wr := (wM hm cI cZ xt (nI nF) (nI nC) xg (fun c => nI (pl c)) (fun c => nI (cf c)) (fun c => nI (ct c)) aK bF bL bB bA bY bR oT oO oR bS ++ [(ho, .inl (cJ, 1, .inr (.inl fo)))])) (w1 := wC hc cI (nI nF) (nI nC) yn yt (nI ga) ym9 (fun c => nI (pl c)) (fun c => nI (cf c)) (fun c => nI (ct c)) aK eB eE eA eL eN eC eS eW eT9) hP hD [16, 17, 18, 19, 20, 21, 22, 23, 24, 25, 26, 27, 28, 29, 30, 31, 32] [0, 1, 2, 3, 4, 5, 6, 7, 8, 9, 10, 11, 12, 13, 14, 15] rfl rfl (by decide) (by decide) hk1 hFc hP1 hD1
  generalize H1 = H at hP hS ⊢
  have hP : va_P (dC, dI) kls (wM hm cI cZ xt (nI nF) (nI nC) xg (fun c => nI (pl c)) (fun c => nI (cf c)) (fun c => nI (ct c)) aK bF bL bB bA bY bR oT oO oR bS ++ ((ho, .inl (cJ, 1, .inr (.inl fo))) :: wC hc cI (nI nF) (nI nC) yn yt (nI ga) ym9 (fun c => nI (pl c)) (fun c => nI (cf c)) (fun c => nI (ct c)) aK eB eE eA eL eN eC eS eW eT9)) H := hP
  have hD : va_D A (wM hm cI cZ xt (nI nF) (nI nC) xg (fun c => nI (pl c)) (fun c => nI (cf c)) (fun c => nI (ct c)) aK bF bL bB bA bY bR oT oO oR bS ++ ((ho, .inl (cJ, 1, .inr (.inl fo))) :: wC hc cI (nI nF) (nI nC) yn yt (nI ga) ym9 (fun c => nI (pl c)) (fun c => nI (cf c)) (fun c => nI (ct c)) aK eB eE eA eL eN eC eS eW eT9)) := hD
  have hx1 := hw
  clear hw hP1 hK1 hD1 hPc hDc hKc hFc hk1 hz1 hvm ht
  refine lv_pop hx hb d_L_law_473 rfl ?_
  refine lv_aload_n hx hb d_L_law_474 rfl (lv_at hl 2 rfl) ?_
  refine lv_aload_n hx hb d_L_law_475 rfl (lv_at hl 4 rfl) ?_
  refine lv_iload hx hb d_L_law_476 (lv_at hl 0 rfl) ?_
  refine lv_iconst (v := nI 1) hx hb d_L_law_478 (by decide +kernel) ?_
  refine lv_iadd hx hb d_L_law_479 ?_
  refine lv_topi (fun z6 ez6 => ?_)
  obtain rfl : z6 = nI (4 * t9 + 1) := ez6.trans (nI_add _ _)
  refine va_sld hx hb hX hbl hbA hS (pk_in (4 * t9 + 1) L (by omega)) d_L_law_480 ?_
  refine lv_topi (fun z7 ez7 => ?_)
  obtain rfl : z7 = xs (4 * t9 + 1) := ez7.trans (congrArg xs (nI_clamp (by omega)))
  refine lv_aload_n hx hb d_L_law_481 rfl (lv_at hl 4 rfl) ?_
  refine lv_iload hx hb d_L_law_482 (lv_at hl 0 rfl) ?_
  refine lv_iconst (v := nI 2) hx hb d_L_law_484 (by decide +kernel) ?_
  refine lv_iadd hx hb d_L_law_485 ?_
  refine lv_topi (fun z8 ez8 => ?_)
  obtain rfl : z8 = nI (4 * t9 + 2) := ez8.trans (nI_add _ _)
  refine va_sld hx hb hX hbl hbA hS (pk_in (4 * t9 + 2) L (by omega)) d_L_law_486 ?_
  refine lv_topi (fun z9 ez9 => ?_)
  obtain rfl : z9 = xs (4 * t9 + 2) := ez9.trans (congrArg xs (nI_clamp (by omega)))
  have hPc := hP.sub (ws' := wM hm cI cZ xt (nI nF) (nI nC) xg (fun c => nI (pl c)) (fun c => nI (cf c)) (fun c => nI (ct c)) aK bF bL bB bA bY bR oT oO oR bS) [0, 1, 2, 3, 4, 5, 6, 7, 8, 9, 10, 11, 12, 13, 14] rfl
  have hDc := hD.sub (ws' := wM hm cI cZ xt (nI nF) (nI nC) xg (fun c => nI (pl c)) (fun c => nI (cf c)) (fun c => nI (ct c)) aK bF bL bB bA bY bR oT oO oR bS) [0, 1, 2, 3, 4, 5, 6, 7, 8, 9, 10, 11, 12, 13, 14] (by decide) rfl
  have hKc := hK.sub (tys' := tyM cI cZ) [0, 1] rfl
  have hFc := va_free (wc := wM hm cI cZ xt (nI nF) (nI nC) xg (fun c => nI (pl c)) (fun c => nI (cf c)) (fun c => nI (ct c)) aK bF bL bB bA bY bR oT oO oR bS) hD hS hA [0, 1, 2, 3, 4, 5, 6, 7, 8, 9, 10, 11, 12, 13, 14] rfl
  refine va_calli (va_runV (As := [.int (xs (4 * t9 + 1)), .int (xs (4 * t9 + 2))]) (rest := []) ⟨hx, hb, hml, hown, hts⟩ (m_order l dC dI cI cZ hm H.size xt xg aK bF bL bB bA bY bR oT oO oR bS nF nC pl cf ct (xs (4 * t9 + 1)) (xs (4 * t9 + 2)) (hF) (hC) (hS0) (hpl)) (cwV 2 hts gl_88 rfl rfl rfl (by decide +kernel) ⟨Nat.le_of_ble_eq_true rfl, Nat.le_of_ble_eq_true rfl⟩) ⟨fun a U g mk q => by obtain ⟨q0, q1, qP, qK, qD⟩ := q; exact ⟨q0, q1, qP, va_K.moved (u := U) (U := U.calling g mk a) (Vm.Alike.refl U.vm) qK, qD⟩, va_recv hK hP (ci := 0) (q0 := 0) rfl rfl, fun U hU hW => ⟨rfl, by rw [hU], by rw [hU]; exact hPc, va_K.moved hW.alike hKc, hDc.weaken (fun _ _ _ _ => trivial)⟩⟩ rfl rfl hl.1 rfl (lv_room (Nat.le_of_ble_eq_true rfl)) d_L_law_487 ⟨hce, hsl⟩) hS (fun q _ h => hFc q h) hFc (fun r10 u9 t H1 locs ht hvm hw hB hz1 hk1 hS => ?_)
  obtain ⟨xt9, oT9, oO9, oR9⟩ := u9
  obtain ⟨hP1, hK1, hD1⟩ := hB
  rw [ht] at hP1
  try dsimp only at hw hP1 hD1
  obtain ⟨hP, hD⟩ := va_join (wr := ((ho, .inl (cJ, 1, .inr (.inl fo))) :: wC hc cI (nI nF) (nI nC) yn yt (nI ga) ym9 (fun c => nI (pl c)) (fun c => nI (cf c)) (fun c => nI (ct c)) aK eB eE eA eL eN eC eS eW eT9)) (w1 := wM hm cI cZ xt9 (nI nF) (nI nC) xg (fun c => nI (pl c)) (fun c => nI (cf c)) (fun c => nI (ct c)) aK bF bL bB bA bY bR oT9 oO9 oR9 bS) hP hD [0, 1, 2, 3, 4, 5, 6, 7, 8, 9, 10, 11, 12, 13, 14] [15, 16, 17, 18, 19, 20, 21, 22, 23, 24, 25, 26, 27, 28, 29, 30, 31, 32] rfl rfl (by decide) (by decide) hk1 hFc hP1 hD1
  generalize H1 = H at hP hS ⊢
  have hP := hP.sub (ws' := (wM hm cI cZ xt9 (nI nF) (nI nC) xg (fun c => nI (pl c)) (fun c => nI (cf c)) (fun c => nI (ct c)) aK bF bL bB bA bY bR oT9 oO9 oR9 bS ++ ((ho, .inl (cJ, 1, .inr (.inl fo))) :: wC hc cI (nI nF) (nI nC) yn yt (nI ga) ym9 (fun c => nI (pl c)) (fun c => nI (cf c)) (fun c => nI (ct c)) aK eB eE eA eL eN eC eS eW eT9))) [18, 19, 20, 21, 22, 23, 24, 25, 26, 27, 28, 29, 30, 31, 32, 0, 1, 2, 3, 4, 5, 6, 7, 8, 9, 10, 11, 12, 13, 14, 15, 16, 17] rfl
  have hD := hD.sub (ws' := (wM hm cI cZ xt9 (nI nF) (nI nC) xg (fun c => nI (pl c)) (fun c => nI (cf c)) (fun c => nI (ct c)) aK bF bL bB bA bY bR oT9 oO9 oR9 bS ++ ((ho, .inl (cJ, 1, .inr (.inl fo))) :: wC hc cI (nI nF) (nI nC) yn yt (nI ga) ym9 (fun c => nI (pl c)) (fun c => nI (cf c)) (fun c => nI (ct c)) aK eB eE eA eL eN eC eS eW eT9))) [18, 19, 20, 21, 22, 23, 24, 25, 26, 27, 28, 29, 30, 31, 32, 0, 1, 2, 3, 4, 5, 6, 7, 8, 9, 10, 11, 12, 13, 14, 15, 16, 17] (by decide) rfl
  have hm1 := hw
  clear hw hP1 hK1 hD1 hPc hDc hKc hFc hk1 hz1 hvm ht
  refine lv_pop hx hb d_L_law_490 rfl ?_
  refine lv_goto (tgt := 613) hx hb d_L_law_491 (by decide) ?_
  refine W.widen (k := 33 + (t9 + 1)) (n := 10097 + 6 * (t9 + 1)) (by omega) (by omega) ?_
  exact next H locs ls ⟨_, _, _, _, _, _, _, _, _, _, _, _, _, _, _, _, _, _, _, _, _, _, _, _, _, _, _, _, _, _, _, _, ⟨hF, hC, hS0, hpl, hcl, fun h9 => absurd h9 (Nat.succ_ne_zero _)⟩, hga, hP, hD, hS⟩ hl
set_option maxHeartbeats 4000000 in
set_option maxRecDepth 100000 in
theorem law_product {p : Program} {l : Launch} {e : Env} {s : State} {m : MethodId} {below : List Frame} {meth : Method} {c : Code} {b L : Nat} {xs : Nat → Int32} (hst : l.stackTraces = false) (hx : p.tables.exec = Jvm.exec) (hb : c.code = code) (hr : meth.sig.returnType = ret) (hml : c.maxLocals = 7) (hown : s.vm.findClass R_L = some m.cls) (hts : ∀ w ∈ lw_tbl, w.before #[Value.ref b] s = true) (hX : va_X b L xs s s.heap) (hbl : b < s.heap.size) (dC : Nat → ClassId) (dI : Nat → Nat → Nat) (cI cZ cJ : ClassId) (hm hc : Nat → Nat) (ho K : Nat) (hK8 : 801 ≤ K) (sa : Nat → Nat) (A : Nat → Prop) (hA : ∀ q : Nat, s.heap.size ≤ q → A q) (hbA : ¬ A b) (hK : va_K (dC, dI) kls (tyL cI cZ cJ) s) (hT : xT sa s) (hC9 : xC s) (hZ : xZ A s s.heap) {Q : State → Prop} {t9 : Nat} (hL : 4 * t9 + 3 < L) (hL2 : L ≤ 2048) {H : Heap} {locs : List Loc} {ls : Array Slot} (hJ : lwJ dC dI cI cZ cJ hm hc ho K A s.heap t9 H locs) (hl : lv_has ls 7 [(4, .int (nI (4 * t9))), (3, .ref ho), (2, .ref (hm 0)), (1, .ref (hc 0)), (0, .ref b)]) (next : ∀ (H : Heap) (locs : List Loc) (ls : Array Slot), lwJ dC dI cI cZ cJ hm hc ho K A s.heap (t9 + 1) H locs → lv_has ls 7 [(4, .int (nI (4 * t9))), (3, .ref ho), (2, .ref (hm 0)), (1, .ref (hc 0)), (0, .ref b)] → W p l e room_1 s m #[Value.ref b] below meth c H locs (33 + (t9 + 1)) (10097 + 6 * (t9 + 1)) Q (F0 m 613 ls [])) : W p l e room_1 s m #[Value.ref b] below meth c H locs (33 + t9) (10097 + 6 * t9) Q (F0 m 519 ls []) := by
  obtain ⟨nF, nC, pl, cf, ct, aK, xt, xg, bF, bL, bB, bA, bY, bR, oT, oO, oR, bS, fo, yn, yt, ym, ga, eB, eE, eA, eL, eN, eC, eS, eW, eT, ⟨hF, hC, hS0, hpl, hcl, hz0⟩, hga, hP, hD, hS⟩ := hJ
  have hk := hts
  have hce : (33 + t9) + 0 ≤ room_1.cells := by show (33 + t9) + 0 ≤ 1066; omega
  have hsl : (10097 + 6 * t9) + 0 ≤ room_1.slots := by show (10097 + 6 * t9) + 0 ≤ 18343; omega
  refine lv_aload_n hx hb d_L_law_519 rfl (lv_at hl 3 rfl) ?_
  refine lv_aload_n hx hb d_L_law_520 rfl (lv_at hl 4 rfl) ?_
  refine lv_iload hx hb d_L_law_521 (lv_at hl 0 rfl) ?_
  refine lv_iconst (v := nI 1) hx hb d_L_law_523 (by decide +kernel) ?_
  refine lv_iadd hx hb d_L_law_524 ?_
  refine lv_topi (fun z1 ez1 => ?_)
  obtain rfl : z1 = nI (4 * t9 + 1) := ez1.trans (nI_add _ _)
  refine va_sld hx hb hX hbl hbA hS (pk_in (4 * t9 + 1) L (by omega)) d_L_law_525 ?_
  refine lv_topi (fun z2 ez2 => ?_)
  obtain rfl : z2 = xs (4 * t9 + 1) := ez2.trans (congrArg xs (nI_clamp (by omega)))
  refine lv_i2l (v := (xs (4 * t9 + 1)).toInt64) hx hb d_L_law_526 rfl ?_
  refine lv_bipush (v := nI 32) hx hb d_L_law_527 (by decide +kernel) ?_
  refine lv_lshl (v := ((xs (4 * t9 + 1)).toInt64) <<< ((nI 32).toInt64 &&& 63)) hx hb d_L_law_529 rfl ?_
  refine lv_aload_n hx hb d_L_law_530 rfl (lv_at hl 4 rfl) ?_
  refine lv_iload hx hb d_L_law_531 (lv_at hl 0 rfl) ?_
  refine lv_iconst (v := nI 2) hx hb d_L_law_533 (by decide +kernel) ?_
  refine lv_iadd hx hb d_L_law_534 ?_
  refine lv_topi (fun z3 ez3 => ?_)
  obtain rfl : z3 = nI (4 * t9 + 2) := ez3.trans (nI_add _ _)
  refine va_sld hx hb hX hbl hbA hS (pk_in (4 * t9 + 2) L (by omega)) d_L_law_535 ?_
  refine lv_topi (fun z4 ez4 => ?_)
  obtain rfl : z4 = xs (4 * t9 + 2) := ez4.trans (congrArg xs (nI_clamp (by omega)))
  refine lv_i2l (v := (xs (4 * t9 + 2)).toInt64) hx hb d_L_law_536 rfl ?_
  refine lv_ldc2 (v := (4294967295)) hx hb hown (hk _ (by decide +kernel)) d_L_law_537 ?_
  refine lv_land hx hb d_L_law_540 ?_
  refine lv_lor hx hb d_L_law_541 ?_
  refine lv_aload_n hx hb d_L_law_542 rfl (lv_at hl 4 rfl) ?_
  refine lv_iload hx hb d_L_law_543 (lv_at hl 0 rfl) ?_
  refine lv_iconst (v := nI 3) hx hb d_L_law_545 (by decide +kernel) ?_
  refine lv_iadd hx hb d_L_law_546 ?_
  refine lv_topi (fun z5 ez5 => ?_)
  obtain rfl : z5 = nI (4 * t9 + 3) := ez5.trans (nI_add _ _)
  refine va_sld hx hb hX hbl hbA hS (pk_in (4 * t9 + 3) L (by omega)) d_L_law_547 ?_
  refine lv_topi (fun z6 ez6 => ?_)
  obtain rfl : z6 = xs (4 * t9 + 3) := ez6.trans (congrArg xs (nI_clamp (by omega)))
  have hPc := hP.sub (ws' := wC hc cI (nI nF) (nI nC) yn yt (nI ga) ym (fun c => nI (pl c)) (fun c => nI (cf c)) (fun c => nI (ct c)) aK eB eE eA eL eN eC eS eW eT) [16, 17, 18, 19, 20, 21, 22, 23, 24, 25, 26, 27, 28, 29, 30, 31, 32] rfl
  have hDc := hD.sub (ws' := wC hc cI (nI nF) (nI nC) yn yt (nI ga) ym (fun c => nI (pl c)) (fun c => nI (cf c)) (fun c => nI (ct c)) aK eB eE eA eL eN eC eS eW eT) [16, 17, 18, 19, 20, 21, 22, 23, 24, 25, 26, 27, 28, 29, 30, 31, 32] (by decide) rfl
  have hKc := hK.sub (tys' := tyC cI) [0] rfl
  have hFc := va_free (wc := wC hc cI (nI nF) (nI nC) yn yt (nI ga) ym (fun c => nI (pl c)) (fun c => nI (cf c)) (fun c => nI (ct c)) aK eB eE eA eL eN eC eS eW eT) hD hS hA [16, 17, 18, 19, 20, 21, 22, 23, 24, 25, 26, 27, 28, 29, 30, 31, 32] rfl
  refine va_calli (va_runV (As := [.long ((((xs (4 * t9 + 1)).toInt64) <<< ((nI 32).toInt64 &&& 63)) ||| (((xs (4 * t9 + 2)).toInt64) &&& (4294967295))), .int (xs (4 * t9 + 3))]) (rest := []) ⟨hx, hb, hml, hown, hts⟩ (c_X_product_ok l dC dI cI hc H.size yn yt (nI ga) ym aK eB eE eA eL eN eC eS eW eT nF nC pl cf ct ((((xs (4 * t9 + 1)).toInt64) <<< ((nI 32).toInt64 &&& 63)) ||| (((xs (4 * t9 + 2)).toInt64) &&& (4294967295))) (xs (4 * t9 + 3)) (hF) (hC) (hS0) (hpl)) (cwV 2 hts gl_95 rfl rfl rfl (by decide +kernel) ⟨Nat.le_of_ble_eq_true rfl, Nat.le_of_ble_eq_true rfl⟩) ⟨fun a U g mk q => by obtain ⟨q0, q1, qP, qK, qD⟩ := q; exact ⟨q0, q1, qP, va_K.moved (u := U) (U := U.calling g mk a) (Vm.Alike.refl U.vm) qK, qD⟩, va_recv hK hP (ci := 4) (q0 := 16) rfl rfl, fun U hU hW => ⟨rfl, by rw [hU], by rw [hU]; exact hPc, va_K.moved hW.alike hKc, hDc.weaken (fun _ _ _ _ => trivial)⟩⟩ rfl rfl hl.1 rfl (lv_room (Nat.le_of_ble_eq_true rfl)) d_L_law_548 ⟨hce, hsl⟩) hS (fun q _ h => hFc q h) hFc (fun r7 u9 t H1 locs ht hvm hw hB hz1 hk1 hS => ?_)
  obtain ⟨hP1, hK1, hD1⟩ := hB
  rw [ht] at hP1
  try dsimp only at hw hP1 hD1
  obtain ⟨hP, hD⟩ := va_join (wr := (wM hm cI cZ xt (nI nF) (nI nC) xg (fun c => nI (pl c)) (fun c => nI (cf c)) (fun c => nI (ct c)) aK bF bL bB bA bY bR oT oO oR bS ++ [(ho, .inl (cJ, 1, .inr (.inl fo)))])) (w1 := wC hc cI (nI nF) (nI nC) yn yt (nI ga) ym (fun c => nI (pl c)) (fun c => nI (cf c)) (fun c => nI (ct c)) aK eB eE eA eL eN eC eS eW eT) hP hD [16, 17, 18, 19, 20, 21, 22, 23, 24, 25, 26, 27, 28, 29, 30, 31, 32] [0, 1, 2, 3, 4, 5, 6, 7, 8, 9, 10, 11, 12, 13, 14, 15] rfl rfl (by decide) (by decide) hk1 hFc hP1 hD1
  generalize H1 = H at hP hS ⊢
  have hP : va_P (dC, dI) kls (wM hm cI cZ xt (nI nF) (nI nC) xg (fun c => nI (pl c)) (fun c => nI (cf c)) (fun c => nI (ct c)) aK bF bL bB bA bY bR oT oO oR bS ++ ((ho, .inl (cJ, 1, .inr (.inl fo))) :: wC hc cI (nI nF) (nI nC) yn yt (nI ga) ym (fun c => nI (pl c)) (fun c => nI (cf c)) (fun c => nI (ct c)) aK eB eE eA eL eN eC eS eW eT)) H := hP
  have hD : va_D A (wM hm cI cZ xt (nI nF) (nI nC) xg (fun c => nI (pl c)) (fun c => nI (cf c)) (fun c => nI (ct c)) aK bF bL bB bA bY bR oT oO oR bS ++ ((ho, .inl (cJ, 1, .inr (.inl fo))) :: wC hc cI (nI nF) (nI nC) yn yt (nI ga) ym (fun c => nI (pl c)) (fun c => nI (cf c)) (fun c => nI (ct c)) aK eB eE eA eL eN eC eS eW eT)) := hD
  have hx1 := hw
  clear hw hP1 hK1 hD1 hPc hDc hKc hFc hk1 hz1 hvm ht
  refine lv_pop hx hb d_L_law_551 rfl ?_
  refine lv_aload_n hx hb d_L_law_552 rfl (lv_at hl 2 rfl) ?_
  refine lv_aload_n hx hb d_L_law_553 rfl (lv_at hl 4 rfl) ?_
  refine lv_iload hx hb d_L_law_554 (lv_at hl 0 rfl) ?_
  refine lv_iconst (v := nI 1) hx hb d_L_law_556 (by decide +kernel) ?_
  refine lv_iadd hx hb d_L_law_557 ?_
  refine lv_topi (fun z8 ez8 => ?_)
  obtain rfl : z8 = nI (4 * t9 + 1) := ez8.trans (nI_add _ _)
  refine va_sld hx hb hX hbl hbA hS (pk_in (4 * t9 + 1) L (by omega)) d_L_law_558 ?_
  refine lv_topi (fun z9 ez9 => ?_)
  obtain rfl : z9 = xs (4 * t9 + 1) := ez9.trans (congrArg xs (nI_clamp (by omega)))
  refine lv_i2l (v := (xs (4 * t9 + 1)).toInt64) hx hb d_L_law_559 rfl ?_
  refine lv_bipush (v := nI 32) hx hb d_L_law_560 (by decide +kernel) ?_
  refine lv_lshl (v := ((xs (4 * t9 + 1)).toInt64) <<< ((nI 32).toInt64 &&& 63)) hx hb d_L_law_562 rfl ?_
  refine lv_aload_n hx hb d_L_law_563 rfl (lv_at hl 4 rfl) ?_
  refine lv_iload hx hb d_L_law_564 (lv_at hl 0 rfl) ?_
  refine lv_iconst (v := nI 2) hx hb d_L_law_566 (by decide +kernel) ?_
  refine lv_iadd hx hb d_L_law_567 ?_
  refine lv_topi (fun z10 ez10 => ?_)
  obtain rfl : z10 = nI (4 * t9 + 2) := ez10.trans (nI_add _ _)
  refine va_sld hx hb hX hbl hbA hS (pk_in (4 * t9 + 2) L (by omega)) d_L_law_568 ?_
  refine lv_topi (fun z11 ez11 => ?_)
  obtain rfl : z11 = xs (4 * t9 + 2) := ez11.trans (congrArg xs (nI_clamp (by omega)))
  refine lv_i2l (v := (xs (4 * t9 + 2)).toInt64) hx hb d_L_law_569 rfl ?_
  refine lv_ldc2 (v := (4294967295)) hx hb hown (hk _ (by decide +kernel)) d_L_law_570 ?_
  refine lv_land hx hb d_L_law_573 ?_
  refine lv_lor hx hb d_L_law_574 ?_
  refine lv_aload_n hx hb d_L_law_575 rfl (lv_at hl 4 rfl) ?_
  refine lv_iload hx hb d_L_law_576 (lv_at hl 0 rfl) ?_
  refine lv_iconst (v := nI 3) hx hb d_L_law_578 (by decide +kernel) ?_
  refine lv_iadd hx hb d_L_law_579 ?_
  refine lv_topi (fun z12 ez12 => ?_)
  obtain rfl : z12 = nI (4 * t9 + 3) := ez12.trans (nI_add _ _)
  refine va_sld hx hb hX hbl hbA hS (pk_in (4 * t9 + 3) L (by omega)) d_L_law_580 ?_
  refine lv_topi (fun z13 ez13 => ?_)
  obtain rfl : z13 = xs (4 * t9 + 3) := ez13.trans (congrArg xs (nI_clamp (by omega)))
  have hPc := hP.sub (ws' := wM hm cI cZ xt (nI nF) (nI nC) xg (fun c => nI (pl c)) (fun c => nI (cf c)) (fun c => nI (ct c)) aK bF bL bB bA bY bR oT oO oR bS) [0, 1, 2, 3, 4, 5, 6, 7, 8, 9, 10, 11, 12, 13, 14] rfl
  have hDc := hD.sub (ws' := wM hm cI cZ xt (nI nF) (nI nC) xg (fun c => nI (pl c)) (fun c => nI (cf c)) (fun c => nI (ct c)) aK bF bL bB bA bY bR oT oO oR bS) [0, 1, 2, 3, 4, 5, 6, 7, 8, 9, 10, 11, 12, 13, 14] (by decide) rfl
  have hKc := hK.sub (tys' := tyM cI cZ) [0, 1] rfl
  have hFc := va_free (wc := wM hm cI cZ xt (nI nF) (nI nC) xg (fun c => nI (pl c)) (fun c => nI (cf c)) (fun c => nI (ct c)) aK bF bL bB bA bY bR oT oO oR bS) hD hS hA [0, 1, 2, 3, 4, 5, 6, 7, 8, 9, 10, 11, 12, 13, 14] rfl
  refine va_calli (va_runV (As := [.long ((((xs (4 * t9 + 1)).toInt64) <<< ((nI 32).toInt64 &&& 63)) ||| (((xs (4 * t9 + 2)).toInt64) &&& (4294967295))), .int (xs (4 * t9 + 3))]) (rest := []) ⟨hx, hb, hml, hown, hts⟩ (m_product l dC dI cI cZ hm H.size xt xg aK bF bL bB bA bY bR oT oO oR bS nF nC pl cf ct ((((xs (4 * t9 + 1)).toInt64) <<< ((nI 32).toInt64 &&& 63)) ||| (((xs (4 * t9 + 2)).toInt64) &&& (4294967295))) (xs (4 * t9 + 3)) (hF) (hC) (hS0) (hpl)) (cwV 2 hts gl_99 rfl rfl rfl (by decide +kernel) ⟨Nat.le_of_ble_eq_true rfl, Nat.le_of_ble_eq_true rfl⟩) ⟨fun a U g mk q => by obtain ⟨q0, q1, qP, qK, qD⟩ := q; exact ⟨q0, q1, qP, va_K.moved (u := U) (U := U.calling g mk a) (Vm.Alike.refl U.vm) qK, qD⟩, va_recv hK hP (ci := 0) (q0 := 0) rfl rfl, fun U hU hW => ⟨rfl, by rw [hU], by rw [hU]; exact hPc, va_K.moved hW.alike hKc, hDc.weaken (fun _ _ _ _ => trivial)⟩⟩ rfl rfl hl.1 rfl (lv_room (Nat.le_of_ble_eq_true rfl)) d_L_law_581 ⟨hce, hsl⟩) hS (fun q _ h => hFc q h) hFc (fun r14 u9 t H1 locs ht hvm hw hB hz1 hk1 hS => ?_)
  obtain ⟨xt9, rfl⟩ : ∃ z, z = u9 := ⟨_, rfl⟩
  obtain ⟨hP1, hK1, hD1⟩ := hB
  rw [ht] at hP1
  try dsimp only at hw hP1 hD1
  obtain ⟨hP, hD⟩ := va_join (wr := ((ho, .inl (cJ, 1, .inr (.inl fo))) :: wC hc cI (nI nF) (nI nC) yn yt (nI ga) ym (fun c => nI (pl c)) (fun c => nI (cf c)) (fun c => nI (ct c)) aK eB eE eA eL eN eC eS eW eT)) (w1 := wM hm cI cZ xt9 (nI nF) (nI nC) xg (fun c => nI (pl c)) (fun c => nI (cf c)) (fun c => nI (ct c)) aK bF bL bB bA bY bR oT oO oR bS) hP hD [0, 1, 2, 3, 4, 5, 6, 7, 8, 9, 10, 11, 12, 13, 14] [15, 16, 17, 18, 19, 20, 21, 22, 23, 24, 25, 26, 27, 28, 29, 30, 31, 32] rfl rfl (by decide) (by decide) hk1 hFc hP1 hD1
  generalize H1 = H at hP hS ⊢
  have hP := hP.sub (ws' := (wM hm cI cZ xt9 (nI nF) (nI nC) xg (fun c => nI (pl c)) (fun c => nI (cf c)) (fun c => nI (ct c)) aK bF bL bB bA bY bR oT oO oR bS ++ ((ho, .inl (cJ, 1, .inr (.inl fo))) :: wC hc cI (nI nF) (nI nC) yn yt (nI ga) ym (fun c => nI (pl c)) (fun c => nI (cf c)) (fun c => nI (ct c)) aK eB eE eA eL eN eC eS eW eT))) [18, 19, 20, 21, 22, 23, 24, 25, 26, 27, 28, 29, 30, 31, 32, 0, 1, 2, 3, 4, 5, 6, 7, 8, 9, 10, 11, 12, 13, 14, 15, 16, 17] rfl
  have hD := hD.sub (ws' := (wM hm cI cZ xt9 (nI nF) (nI nC) xg (fun c => nI (pl c)) (fun c => nI (cf c)) (fun c => nI (ct c)) aK bF bL bB bA bY bR oT oO oR bS ++ ((ho, .inl (cJ, 1, .inr (.inl fo))) :: wC hc cI (nI nF) (nI nC) yn yt (nI ga) ym (fun c => nI (pl c)) (fun c => nI (cf c)) (fun c => nI (ct c)) aK eB eE eA eL eN eC eS eW eT))) [18, 19, 20, 21, 22, 23, 24, 25, 26, 27, 28, 29, 30, 31, 32, 0, 1, 2, 3, 4, 5, 6, 7, 8, 9, 10, 11, 12, 13, 14, 15, 16, 17] (by decide) rfl
  have hm1 := hw
  clear hw hP1 hK1 hD1 hPc hDc hKc hFc hk1 hz1 hvm ht
  refine lv_pop hx hb d_L_law_584 rfl ?_
  refine lv_goto (tgt := 613) hx hb d_L_law_585 (by decide) ?_
  refine W.widen (k := 33 + (t9 + 1)) (n := 10097 + 6 * (t9 + 1)) (by omega) (by omega) ?_
  exact next H locs ls ⟨_, _, _, _, _, _, _, _, _, _, _, _, _, _, _, _, _, _, _, _, _, _, _, _, _, _, _, _, _, _, _, _, ⟨hF, hC, hS0, hpl, hcl, fun h9 => absurd h9 (Nat.succ_ne_zero _)⟩, hga, hP, hD, hS⟩ hl
set_option maxHeartbeats 4000000 in
set_option maxRecDepth 100000 in
theorem law_undo {p : Program} {l : Launch} {e : Env} {s : State} {m : MethodId} {below : List Frame} {meth : Method} {c : Code} {b L : Nat} {xs : Nat → Int32} (hst : l.stackTraces = false) (hx : p.tables.exec = Jvm.exec) (hb : c.code = code) (hr : meth.sig.returnType = ret) (hml : c.maxLocals = 7) (hown : s.vm.findClass R_L = some m.cls) (hts : ∀ w ∈ lw_tbl, w.before #[Value.ref b] s = true) (hX : va_X b L xs s s.heap) (hbl : b < s.heap.size) (dC : Nat → ClassId) (dI : Nat → Nat → Nat) (cI cZ cJ : ClassId) (hm hc : Nat → Nat) (ho K : Nat) (hK8 : 801 ≤ K) (sa : Nat → Nat) (A : Nat → Prop) (hA : ∀ q : Nat, s.heap.size ≤ q → A q) (hbA : ¬ A b) (hK : va_K (dC, dI) kls (tyL cI cZ cJ) s) (hT : xT sa s) (hC9 : xC s) (hZ : xZ A s s.heap) {Q : State → Prop} {t9 : Nat} (hL : 4 * t9 + 3 < L) (hL2 : L ≤ 2048) {H : Heap} {locs : List Loc} {ls : Array Slot} (hJ : lwJ dC dI cI cZ cJ hm hc ho K A s.heap t9 H locs) (hl : lv_has ls 7 [(4, .int (nI (4 * t9))), (3, .ref ho), (2, .ref (hm 0)), (1, .ref (hc 0)), (0, .ref b)]) (next : ∀ (H : Heap) (locs : List Loc) (ls : Array Slot), lwJ dC dI cI cZ cJ hm hc ho K A s.heap (t9 + 1) H locs → lv_has ls 7 [(4, .int (nI (4 * t9))), (3, .ref ho), (2, .ref (hm 0)), (1, .ref (hc 0)), (0, .ref b)] → W p l e room_1 s m #[Value.ref b] below meth c H locs (33 + (t9 + 1)) (10097 + 6 * (t9 + 1)) Q (F0 m 613 ls [])) : W p l e room_1 s m #[Value.ref b] below meth c H locs (33 + t9) (10097 + 6 * t9) Q (F0 m 184 ls []) := by
  obtain ⟨nF, nC, pl, cf, ct, aK, xt, xg, bF, bL, bB, bA, bY, bR, oT, oO, oR, bS, fo, yn, yt, ym, ga, eB, eE, eA, eL, eN, eC, eS, eW, eT, ⟨hF, hC, hS0, hpl, hcl, hz0⟩, hga, hP, hD, hS⟩ := hJ
  have hk := hts
  have hce : (33 + t9) + 0 ≤ room_1.cells := by show (33 + t9) + 0 ≤ 1066; omega
  have hsl : (10097 + 6 * t9) + 0 ≤ room_1.slots := by show (10097 + 6 * t9) + 0 ≤ 18343; omega
  refine lv_aload_n hx hb d_L_law_184 rfl (lv_at hl 3 rfl) ?_
  have hPc := hP.sub (ws' := wC hc cI (nI nF) (nI nC) yn yt (nI ga) ym (fun c => nI (pl c)) (fun c => nI (cf c)) (fun c => nI (ct c)) aK eB eE eA eL eN eC eS eW eT) [16, 17, 18, 19, 20, 21, 22, 23, 24, 25, 26, 27, 28, 29, 30, 31, 32] rfl
  have hDc := hD.sub (ws' := wC hc cI (nI nF) (nI nC) yn yt (nI ga) ym (fun c => nI (pl c)) (fun c => nI (cf c)) (fun c => nI (ct c)) aK eB eE eA eL eN eC eS eW eT) [16, 17, 18, 19, 20, 21, 22, 23, 24, 25, 26, 27, 28, 29, 30, 31, 32] (by decide) rfl
  have hKc := hK.sub (tys' := tyC cI) [0] rfl
  have hFc := va_free (wc := wC hc cI (nI nF) (nI nC) yn yt (nI ga) ym (fun c => nI (pl c)) (fun c => nI (cf c)) (fun c => nI (ct c)) aK eB eE eA eL eN eC eS eW eT) hD hS hA [16, 17, 18, 19, 20, 21, 22, 23, 24, 25, 26, 27, 28, 29, 30, 31, 32] rfl
  refine va_calli (va_runV (As := []) (rest := []) ⟨hx, hb, hml, hown, hts⟩ (c_X_undo_ok l dC dI cI hc H.size yn yt (nI ga) ym aK eB eE eA eL eN eC eS eW eT nF nC pl cf ct (hC)) (cwV 0 hts gl_56 rfl rfl rfl (by decide +kernel) ⟨Nat.le_of_ble_eq_true rfl, Nat.le_of_ble_eq_true rfl⟩) ⟨fun a U g mk q => by obtain ⟨q0, q1, qP, qK, qD⟩ := q; exact ⟨q0, q1, qP, va_K.moved (u := U) (U := U.calling g mk a) (Vm.Alike.refl U.vm) qK, qD⟩, va_recv hK hP (ci := 4) (q0 := 16) rfl rfl, fun U hU hW => ⟨rfl, by rw [hU], by rw [hU]; exact hPc, va_K.moved hW.alike hKc, hDc.weaken (fun _ _ _ _ => trivial)⟩⟩ rfl rfl hl.1 rfl (lv_room (Nat.le_of_ble_eq_true rfl)) d_L_law_185 ⟨hce, hsl⟩) hS (fun q _ h => hFc q h) hFc (fun r1 u9 t H1 locs ht hvm hw hB hz1 hk1 hS => ?_)
  obtain ⟨yc9, yg9⟩ := u9
  obtain ⟨hP1, hK1, hD1⟩ := hB
  rw [ht] at hP1
  try dsimp only at hw hP1 hD1
  obtain ⟨hP, hD⟩ := va_join (wr := (wM hm cI cZ xt (nI nF) (nI nC) xg (fun c => nI (pl c)) (fun c => nI (cf c)) (fun c => nI (ct c)) aK bF bL bB bA bY bR oT oO oR bS ++ [(ho, .inl (cJ, 1, .inr (.inl fo)))])) (w1 := wC hc cI (nI nF) yc9 yn yt yg9 ym (fun c => nI (pl c)) (fun c => nI (cf c)) (fun c => nI (ct c)) aK eB eE eA eL eN eC eS eW eT) hP hD [16, 17, 18, 19, 20, 21, 22, 23, 24, 25, 26, 27, 28, 29, 30, 31, 32] [0, 1, 2, 3, 4, 5, 6, 7, 8, 9, 10, 11, 12, 13, 14, 15] rfl rfl (by decide) (by decide) hk1 hFc hP1 hD1
  generalize H1 = H at hP hS ⊢
  have hP : va_P (dC, dI) kls (wM hm cI cZ xt (nI nF) (nI nC) xg (fun c => nI (pl c)) (fun c => nI (cf c)) (fun c => nI (ct c)) aK bF bL bB bA bY bR oT oO oR bS ++ ((ho, .inl (cJ, 1, .inr (.inl fo))) :: wC hc cI (nI nF) yc9 yn yt yg9 ym (fun c => nI (pl c)) (fun c => nI (cf c)) (fun c => nI (ct c)) aK eB eE eA eL eN eC eS eW eT)) H := hP
  have hD : va_D A (wM hm cI cZ xt (nI nF) (nI nC) xg (fun c => nI (pl c)) (fun c => nI (cf c)) (fun c => nI (ct c)) aK bF bL bB bA bY bR oT oO oR bS ++ ((ho, .inl (cJ, 1, .inr (.inl fo))) :: wC hc cI (nI nF) yc9 yn yt yg9 ym (fun c => nI (pl c)) (fun c => nI (cf c)) (fun c => nI (ct c)) aK eB eE eA eL eN eC eS eW eT)) := hD
  obtain ⟨hu1, hx1⟩ := hw
  subst hu1
  have hx2 := hx1
  rcases hx2 with ⟨-, hn1, hg1⟩ | ⟨-, hn1, hg1⟩
  · subst hg1
    refine lv_pop hx hb d_L_law_188 rfl ?_
    refine lv_aload_n hx hb d_L_law_189 rfl (lv_at hl 2 rfl) ?_
    have hPc := hP.sub (ws' := wM hm cI cZ xt (nI nF) (nI nC) xg (fun c => nI (pl c)) (fun c => nI (cf c)) (fun c => nI (ct c)) aK bF bL bB bA bY bR oT oO oR bS) [0, 1, 2, 3, 4, 5, 6, 7, 8, 9, 10, 11, 12, 13, 14] rfl
    have hDc := hD.sub (ws' := wM hm cI cZ xt (nI nF) (nI nC) xg (fun c => nI (pl c)) (fun c => nI (cf c)) (fun c => nI (ct c)) aK bF bL bB bA bY bR oT oO oR bS) [0, 1, 2, 3, 4, 5, 6, 7, 8, 9, 10, 11, 12, 13, 14] (by decide) rfl
    have hKc := hK.sub (tys' := tyM cI cZ) [0, 1] rfl
    have hFc := va_free (wc := wM hm cI cZ xt (nI nF) (nI nC) xg (fun c => nI (pl c)) (fun c => nI (cf c)) (fun c => nI (ct c)) aK bF bL bB bA bY bR oT oO oR bS) hD hS hA [0, 1, 2, 3, 4, 5, 6, 7, 8, 9, 10, 11, 12, 13, 14] rfl
    refine va_calli (va_runV (As := []) (rest := []) ⟨hx, hb, hml, hown, hts⟩ (m_undo l dC dI cI cZ hm H.size xt (nI nF) xg (fun c => nI (pl c)) (fun c => nI (cf c)) (fun c => nI (ct c)) aK bF bL bB bA bY bR oT oO oR bS nC (by omega)) (cwV 0 hts gl_60 rfl rfl rfl (by decide +kernel) ⟨Nat.le_of_ble_eq_true rfl, Nat.le_of_ble_eq_true rfl⟩) ⟨fun a U g mk q => by obtain ⟨q0, q1, qP, qK, qD⟩ := q; exact ⟨q0, q1, qP, va_K.moved (u := U) (U := U.calling g mk a) (Vm.Alike.refl U.vm) qK, qD⟩, va_recv hK hP (ci := 0) (q0 := 0) rfl rfl, fun U hU hW => ⟨rfl, by rw [hU], by rw [hU]; exact hPc, va_K.moved hW.alike hKc, hDc.weaken (fun _ _ _ _ => trivial)⟩⟩ rfl rfl hl.1 rfl (lv_room (Nat.le_of_ble_eq_true rfl)) d_L_law_190 ⟨hce, hsl⟩) hS (fun q _ h => hFc q h) hFc (fun r2 u9 t H1 locs ht hvm hw hB hz1 hk1 hS => ?_)
    obtain ⟨xt9, xc9⟩ := u9
    obtain ⟨hP1, hK1, hD1⟩ := hB
    rw [ht] at hP1
    try dsimp only at hw hP1 hD1
    obtain ⟨hP, hD⟩ := va_join (wr := ((ho, .inl (cJ, 1, .inr (.inl fo))) :: wC hc cI (nI nF) (nI (nC - 1)) yn yt (nI 0) ym (fun c => nI (pl c)) (fun c => nI (cf c)) (fun c => nI (ct c)) aK eB eE eA eL eN eC eS eW eT)) (w1 := wM hm cI cZ xt9 (nI nF) xc9 xg (fun c => nI (pl c)) (fun c => nI (cf c)) (fun c => nI (ct c)) aK bF bL bB bA bY bR oT oO oR bS) hP hD [0, 1, 2, 3, 4, 5, 6, 7, 8, 9, 10, 11, 12, 13, 14] [15, 16, 17, 18, 19, 20, 21, 22, 23, 24, 25, 26, 27, 28, 29, 30, 31, 32] rfl rfl (by decide) (by decide) hk1 hFc hP1 hD1
    generalize H1 = H at hP hS ⊢
    have hP := hP.sub (ws' := (wM hm cI cZ xt9 (nI nF) xc9 xg (fun c => nI (pl c)) (fun c => nI (cf c)) (fun c => nI (ct c)) aK bF bL bB bA bY bR oT oO oR bS ++ ((ho, .inl (cJ, 1, .inr (.inl fo))) :: wC hc cI (nI nF) (nI (nC - 1)) yn yt (nI 0) ym (fun c => nI (pl c)) (fun c => nI (cf c)) (fun c => nI (ct c)) aK eB eE eA eL eN eC eS eW eT))) [18, 19, 20, 21, 22, 23, 24, 25, 26, 27, 28, 29, 30, 31, 32, 0, 1, 2, 3, 4, 5, 6, 7, 8, 9, 10, 11, 12, 13, 14, 15, 16, 17] rfl
    have hD := hD.sub (ws' := (wM hm cI cZ xt9 (nI nF) xc9 xg (fun c => nI (pl c)) (fun c => nI (cf c)) (fun c => nI (ct c)) aK bF bL bB bA bY bR oT oO oR bS ++ ((ho, .inl (cJ, 1, .inr (.inl fo))) :: wC hc cI (nI nF) (nI (nC - 1)) yn yt (nI 0) ym (fun c => nI (pl c)) (fun c => nI (cf c)) (fun c => nI (ct c)) aK eB eE eA eL eN eC eS eW eT))) [18, 19, 20, 21, 22, 23, 24, 25, 26, 27, 28, 29, 30, 31, 32, 0, 1, 2, 3, 4, 5, 6, 7, 8, 9, 10, 11, 12, 13, 14, 15, 16, 17] (by decide) rfl
    obtain ⟨hu0, hu1, hm1⟩ := hw
    subst hu1
    refine lv_pop hx hb d_L_law_193 rfl ?_
    refine lv_goto (tgt := 613) hx hb d_L_law_194 (by decide) ?_
    refine W.widen (k := 33 + (t9 + 1)) (n := 10097 + 6 * (t9 + 1)) (by omega) (by omega) ?_
    exact next H locs ls ⟨nF, nC - 1, pl, cf, ct, aK, _, _, _, _, _, _, _, _, _, _, _, _, _, _, _, _, _, _, _, _, _, _, _, _, _, _, ⟨hF, by omega, fun c hc => hS0 c (by omega), hpl, fun c hc => hcl c (by omega), fun h9 => absurd h9 (Nat.succ_ne_zero _)⟩, Or.inl rfl, hP, hD, hS⟩ hl
  · subst hg1
    refine lv_pop hx hb d_L_law_188 rfl ?_
    refine lv_aload_n hx hb d_L_law_189 rfl (lv_at hl 2 rfl) ?_
    have hPc := hP.sub (ws' := wM hm cI cZ xt (nI nF) (nI nC) xg (fun c => nI (pl c)) (fun c => nI (cf c)) (fun c => nI (ct c)) aK bF bL bB bA bY bR oT oO oR bS) [0, 1, 2, 3, 4, 5, 6, 7, 8, 9, 10, 11, 12, 13, 14] rfl
    have hDc := hD.sub (ws' := wM hm cI cZ xt (nI nF) (nI nC) xg (fun c => nI (pl c)) (fun c => nI (cf c)) (fun c => nI (ct c)) aK bF bL bB bA bY bR oT oO oR bS) [0, 1, 2, 3, 4, 5, 6, 7, 8, 9, 10, 11, 12, 13, 14] (by decide) rfl
    have hKc := hK.sub (tys' := tyM cI cZ) [0, 1] rfl
    have hFc := va_free (wc := wM hm cI cZ xt (nI nF) (nI nC) xg (fun c => nI (pl c)) (fun c => nI (cf c)) (fun c => nI (ct c)) aK bF bL bB bA bY bR oT oO oR bS) hD hS hA [0, 1, 2, 3, 4, 5, 6, 7, 8, 9, 10, 11, 12, 13, 14] rfl
    refine va_calli (va_runV (As := []) (rest := []) ⟨hx, hb, hml, hown, hts⟩ (m_undo l dC dI cI cZ hm H.size xt (nI nF) xg (fun c => nI (pl c)) (fun c => nI (cf c)) (fun c => nI (ct c)) aK bF bL bB bA bY bR oT oO oR bS nC (by omega)) (cwV 0 hts gl_60 rfl rfl rfl (by decide +kernel) ⟨Nat.le_of_ble_eq_true rfl, Nat.le_of_ble_eq_true rfl⟩) ⟨fun a U g mk q => by obtain ⟨q0, q1, qP, qK, qD⟩ := q; exact ⟨q0, q1, qP, va_K.moved (u := U) (U := U.calling g mk a) (Vm.Alike.refl U.vm) qK, qD⟩, va_recv hK hP (ci := 0) (q0 := 0) rfl rfl, fun U hU hW => ⟨rfl, by rw [hU], by rw [hU]; exact hPc, va_K.moved hW.alike hKc, hDc.weaken (fun _ _ _ _ => trivial)⟩⟩ rfl rfl hl.1 rfl (lv_room (Nat.le_of_ble_eq_true rfl)) d_L_law_190 ⟨hce, hsl⟩) hS (fun q _ h => hFc q h) hFc (fun r3 u9 t H1 locs ht hvm hw hB hz1 hk1 hS => ?_)
    obtain ⟨xt9, xc9⟩ := u9
    obtain ⟨hP1, hK1, hD1⟩ := hB
    rw [ht] at hP1
    try dsimp only at hw hP1 hD1
    obtain ⟨hP, hD⟩ := va_join (wr := ((ho, .inl (cJ, 1, .inr (.inl fo))) :: wC hc cI (nI nF) (nI (nC - 1)) yn yt (nI ga) ym (fun c => nI (pl c)) (fun c => nI (cf c)) (fun c => nI (ct c)) aK eB eE eA eL eN eC eS eW eT)) (w1 := wM hm cI cZ xt9 (nI nF) xc9 xg (fun c => nI (pl c)) (fun c => nI (cf c)) (fun c => nI (ct c)) aK bF bL bB bA bY bR oT oO oR bS) hP hD [0, 1, 2, 3, 4, 5, 6, 7, 8, 9, 10, 11, 12, 13, 14] [15, 16, 17, 18, 19, 20, 21, 22, 23, 24, 25, 26, 27, 28, 29, 30, 31, 32] rfl rfl (by decide) (by decide) hk1 hFc hP1 hD1
    generalize H1 = H at hP hS ⊢
    have hP := hP.sub (ws' := (wM hm cI cZ xt9 (nI nF) xc9 xg (fun c => nI (pl c)) (fun c => nI (cf c)) (fun c => nI (ct c)) aK bF bL bB bA bY bR oT oO oR bS ++ ((ho, .inl (cJ, 1, .inr (.inl fo))) :: wC hc cI (nI nF) (nI (nC - 1)) yn yt (nI ga) ym (fun c => nI (pl c)) (fun c => nI (cf c)) (fun c => nI (ct c)) aK eB eE eA eL eN eC eS eW eT))) [18, 19, 20, 21, 22, 23, 24, 25, 26, 27, 28, 29, 30, 31, 32, 0, 1, 2, 3, 4, 5, 6, 7, 8, 9, 10, 11, 12, 13, 14, 15, 16, 17] rfl
    have hD := hD.sub (ws' := (wM hm cI cZ xt9 (nI nF) xc9 xg (fun c => nI (pl c)) (fun c => nI (cf c)) (fun c => nI (ct c)) aK bF bL bB bA bY bR oT oO oR bS ++ ((ho, .inl (cJ, 1, .inr (.inl fo))) :: wC hc cI (nI nF) (nI (nC - 1)) yn yt (nI ga) ym (fun c => nI (pl c)) (fun c => nI (cf c)) (fun c => nI (ct c)) aK eB eE eA eL eN eC eS eW eT))) [18, 19, 20, 21, 22, 23, 24, 25, 26, 27, 28, 29, 30, 31, 32, 0, 1, 2, 3, 4, 5, 6, 7, 8, 9, 10, 11, 12, 13, 14, 15, 16, 17] (by decide) rfl
    obtain ⟨hu0, hu1, hm1⟩ := hw
    subst hu1
    refine lv_pop hx hb d_L_law_193 rfl ?_
    refine lv_goto (tgt := 613) hx hb d_L_law_194 (by decide) ?_
    refine W.widen (k := 33 + (t9 + 1)) (n := 10097 + 6 * (t9 + 1)) (by omega) (by omega) ?_
    exact next H locs ls ⟨nF, nC - 1, pl, cf, ct, aK, _, _, _, _, _, _, _, _, _, _, _, _, _, _, _, _, _, _, _, _, _, _, _, _, _, _, ⟨hF, by omega, fun c hc => hS0 c (by omega), hpl, fun c hc => hcl c (by omega), fun h9 => absurd h9 (Nat.succ_ne_zero _)⟩, (by rw [show nC - 1 = nC by omega]; exact hga), hP, hD, hS⟩ hl
