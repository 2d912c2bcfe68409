theorem lwJ.step {dC : Nat → ClassId} {dI : Nat → Nat → Nat} {cI cZ cJ : ClassId} {hm hc : Nat → Nat} {ho K : Nat} {A : Nat → Prop} {H0 : Heap} {tn : Nat} {H : Heap} {locs : List Loc} (hJ : lwJ dC dI cI cZ cJ hm hc ho K A H0 tn H locs) : lwJ dC dI cI cZ cJ hm hc ho K A H0 (tn + 1) H locs := by
  obtain ⟨nF, nC, pl, cf, ct, aK, xt, xg, bF, bL, bB, bA, bY, bR, oT, oO, oR, bS, fo, yn, yt, ym, ga, eB, eE, eA, eL, eN, eC, eS, eW, eT, ⟨hF, hC, hS0, hpl, hcl, hz0⟩, hga, hP, hD, hS⟩ := hJ
  exact ⟨_, _, _, _, _, _, _, _, _, _, _, _, _, _, _, _, _, _, _, _, _, _, _, _, _, _, _, _, _, _, _, _, ⟨hF, hC, hS0, hpl, hcl, fun h9 => absurd h9 (Nat.succ_ne_zero _)⟩, hga, hP, hD, hS⟩
theorem lwJ.hS {dC : Nat → ClassId} {dI : Nat → Nat → Nat} {cI cZ cJ : ClassId} {hm hc : Nat → Nat} {ho K : Nat} {A : Nat → Prop} {H0 : Heap} {tn : Nat} {H : Heap} {locs : List Loc} (hJ : lwJ dC dI cI cZ cJ hm hc ho K A H0 tn H locs) : va_S A H0 H locs := by
  obtain ⟨nF, nC, pl, cf, ct, aK, xt, xg, bF, bL, bB, bA, bY, bR, oT, oO, oR, bS, fo, yn, yt, ym, ga, eB, eE, eA, eL, eN, eC, eS, eW, eT, ⟨hF, hC, hS0, hpl, hcl, hz0⟩, hga, hP, hD, hS⟩ := hJ
  exact hS
set_option maxHeartbeats 4000000 in
set_option maxRecDepth 100000 in
theorem law_loop {p : Program} {l : Launch} {e : Env} {s : State} {m : MethodId} {below : List Frame} {meth : Method} {c : Code} {b L : Nat} {xs : Nat → Int32} (hst : l.stackTraces = false) (hx : p.tables.exec = Jvm.exec) (hb : c.code = code) (hr : meth.sig.returnType = ret) (hml : c.maxLocals = 7) (hown : s.vm.findClass R_L = some m.cls) (hts : ∀ w ∈ lw_tbl, w.before #[Value.ref b] s = true) (hX : va_X b L xs s s.heap) (hbl : b < s.heap.size) (dC : Nat → ClassId) (dI : Nat → Nat → Nat) (cI cZ cJ : ClassId) (hm hc : Nat → Nat) (ho K : Nat) (hK8 : 801 ≤ K) (sa : Nat → Nat) (A : Nat → Prop) (hA : ∀ q : Nat, s.heap.size ≤ q → A q) (hbA : ¬ A b) (hK : va_K (dC, dI) kls (tyL cI cZ cJ) s) (hT : xT sa s) (hC9 : xC s) (hZ : xZ A s s.heap) (hL2 : L ≤ 2048) {Q : State → Prop} (fin : ∀ (t9 : Nat) (H : Heap) (locs : List Loc) (ls : Array Slot), t9 ≤ L / 4 → lwJ dC dI cI cZ cJ hm hc ho K A s.heap t9 H locs → lv_has ls 7 [(4, .int (nI (4 * t9))), (3, .ref ho), (2, .ref (hm 0)), (1, .ref (hc 0)), (0, .ref b)] → W p l e room_1 s m #[Value.ref b] below meth c H locs (33 + t9) (10097 + 6 * t9) Q (F0 m 619 ls [])) : ∀ (n t9 : Nat), L / 4 - t9 < n → t9 ≤ L / 4 → ∀ (H : Heap) (locs : List Loc) (ls : Array Slot), lwJ dC dI cI cZ cJ hm hc ho K A s.heap t9 H locs → lv_has ls 7 [(4, .int (nI (4 * t9))), (3, .ref ho), (2, .ref (hm 0)), (1, .ref (hc 0)), (0, .ref b)] → W p l e room_1 s m #[Value.ref b] below meth c H locs (33 + t9) (10097 + 6 * t9) Q (F0 m 23 ls []) := by
  intro n
  induction n with
  | zero => intro t9 hn; exact absurd hn (Nat.not_lt_zero _)
  | succ n ih =>
    intro t9 hn ht9 H locs ls hJ hl
    have hS := hJ.hS
    refine lv_iload hx hb d_L_law_23 (lv_at hl 0 rfl) ?_
    refine lv_aload_n hx hb d_L_law_25 rfl (lv_at hl 4 rfl) ?_
    refine va_slen hx hb hX hbl hbA hS d_L_law_26 ?_
    refine lv_iconst (v := nI 4) hx hb d_L_law_27 (by decide +kernel) ?_
    refine lv_isub hx hb d_L_law_28 ?_
    have hlt : (nI L - nI 4 < nI (4 * t9)) ↔ L < 4 * t9 + 4 := by
      rw [Int32.lt_iff_toInt_lt, pk_sub_toInt (by omega) (by omega), nI_toInt (by omega)]
      omega
    refine lv_icmp_gt (tgt := 619) hx hb d_L_law_29 (by decide) (fun c9 => fin t9 H locs ls ht9 hJ hl) (fun c9 => ?_)
    have hL : 4 * t9 + 3 < L := by
      have : ¬ L < 4 * t9 + 4 := fun z9 => c9 (hlt.mpr z9)
      omega
    have next : ∀ (H : Heap) (locs : List Loc) (ls : Array Slot), lwJ dC dI cI cZ cJ hm hc ho K A s.heap (t9 + 1) H locs → lv_has ls 7 [(4, .int (nI (4 * t9))), (3, .ref ho), (2, .ref (hm 0)), (1, .ref (hc 0)), (0, .ref b)] → W p l e room_1 s m #[Value.ref b] below meth c H locs (33 + (t9 + 1)) (10097 + 6 * (t9 + 1)) Q (F0 m 613 ls []) := by
      intro H locs ls hJ hl
      refine lv_iinc (v := nI (4 * (t9 + 1))) (lv' := [(4, .int (nI (4 * (t9 + 1)))), (3, .ref ho), (2, .ref (hm 0)), (1, .ref (hc 0)), (0, .ref b)]) hx hb d_L_law_613 hl (k := 0) rfl ((nI_add (4 * t9) 4).trans (congrArg nI (by omega))) (by decide) rfl (fun ls hl => ?_)
      refine lv_goto (tgt := 23) hx hb d_L_law_616 (by decide) ?_
      exact ih (t9 + 1) (by omega) (by omega) H locs ls hJ hl
    refine lv_aload_n hx hb d_L_law_32 rfl (lv_at hl 4 rfl) ?_
    refine lv_iload hx hb d_L_law_33 (lv_at hl 0 rfl) ?_
    refine va_sld hx hb hX hbl hbA hS (pk_in (4 * t9) L (by omega)) d_L_law_35 ?_
    refine lv_topi (fun z1 ez1 => ?_)
    obtain rfl : z1 = xs (4 * t9) := ez1.trans (congrArg xs (nI_clamp (by omega)))
    refine lv_bipush (v := nI 15) hx hb d_L_law_36 (by decide +kernel) ?_
    refine lv_iand hx hb d_L_law_38 ?_
    refine lv_topi (fun w2 ew2 => ?_)
    rcases (show w2 = nI 0 ∨ w2 = nI 1 ∨ w2 = nI 2 ∨ w2 = nI 3 ∨ w2 = nI 4 ∨ w2 = nI 5 ∨ w2 = nI 6 ∨ w2 = nI 7 ∨ w2 = nI 8 ∨ w2 = nI 9 ∨ w2 = nI 10 ∨ w2 = nI 11 ∨ w2 = nI 12 ∨ (¬ w2 = nI 0 ∧ ¬ w2 = nI 1 ∧ ¬ w2 = nI 2 ∧ ¬ w2 = nI 3 ∧ ¬ w2 = nI 4 ∧ ¬ w2 = nI 5 ∧ ¬ w2 = nI 6 ∧ ¬ w2 = nI 7 ∧ ¬ w2 = nI 8 ∧ ¬ w2 = nI 9 ∧ ¬ w2 = nI 10 ∧ ¬ w2 = nI 11 ∧ ¬ w2 = nI 12) from (Classical.em (w2 = nI 0)).elim Or.inl (fun z0 => Or.inr ((Classical.em (w2 = nI 1)).elim Or.inl (fun z1 => Or.inr ((Classical.em (w2 = nI 2)).elim Or.inl (fun z2 => Or.inr ((Classical.em (w2 = nI 3)).elim Or.inl (fun z3 => Or.inr ((Classical.em (w2 = nI 4)).elim Or.inl (fun z4 => Or.inr ((Classical.em (w2 = nI 5)).elim Or.inl (fun z5 => Or.inr ((Classical.em (w2 = nI 6)).elim Or.inl (fun z6 => Or.inr ((Classical.em (w2 = nI 7)).elim Or.inl (fun z7 => Or.inr ((Classical.em (w2 = nI 8)).elim Or.inl (fun z8 => Or.inr ((Classical.em (w2 = nI 9)).elim Or.inl (fun z9 => Or.inr ((Classical.em (w2 = nI 10)).elim Or.inl (fun z10 => Or.inr ((Classical.em (w2 = nI 11)).elim Or.inl (fun z11 => Or.inr ((Classical.em (w2 = nI 12)).elim Or.inl (fun z12 => Or.inr (⟨z0, z1, z2, z3, z4, z5, z6, z7, z8, z9, z10, z11, z12⟩))))))))))))))))))))))))))) with hs9 | hs9 | hs9 | hs9 | hs9 | hs9 | hs9 | hs9 | hs9 | hs9 | hs9 | hs9 | hs9 | hs9
    · subst hs9
      refine lv_tableIn (tgt := 104) (off := 65) hx hb d_L_law_39 (by decide +kernel) (by decide +kernel) (by decide +kernel) (by decide) ?_
      exact law_function hst hx hb hr hml hown hts hX hbl dC dI cI cZ cJ hm hc ho K hK8 sa A hA hbA hK hT hC9 hZ hL hL2 hJ hl next
    · subst hs9
      refine lv_tableIn (tgt := 132) (off := 93) hx hb d_L_law_39 (by decide +kernel) (by decide +kernel) (by decide +kernel) (by decide) ?_
      exact law_call hst hx hb hr hml hown hts hX hbl dC dI cI cZ cJ hm hc ho K hK8 sa A hA hbA hK hT hC9 hZ hL hL2 hJ hl next
    · subst hs9
      refine lv_tableIn (tgt := 184) (off := 145) hx hb d_L_law_39 (by decide +kernel) (by decide +kernel) (by decide +kernel) (by decide) ?_
      exact law_undo hst hx hb hr hml hown hts hX hbl dC dI cI cZ cJ hm hc ho K hK8 sa A hA hbA hK hT hC9 hZ hL hL2 hJ hl next
    · subst hs9
      refine lv_tableIn (tgt := 197) (off := 158) hx hb d_L_law_39 (by decide +kernel) (by decide +kernel) (by decide +kernel) (by decide) ?_
      exact law_told hst hx hb hr hml hown hts hX hbl dC dI cI cZ cJ hm hc ho K hK8 sa A hA hbA hK hT hC9 hZ hL hL2 hJ hl next
    · subst hs9
      refine lv_tableIn (tgt := 234) (off := 195) hx hb d_L_law_39 (by decide +kernel) (by decide +kernel) (by decide +kernel) (by decide) ?_
      exact law_graphs hst hx hb hr hml hown hts hX hbl dC dI cI cZ cJ hm hc ho K hK8 sa A hA hbA hK hT hC9 hZ hL hL2 hJ hl next
    · subst hs9
      refine lv_tableIn (tgt := 274) (off := 235) hx hb d_L_law_39 (by decide +kernel) (by decide +kernel) (by decide +kernel) (by decide) ?_
      exact law_graph hst hx hb hr hml hown hts hX hbl dC dI cI cZ cJ hm hc ho K hK8 sa A hA hbA hK hT hC9 hZ hL hL2 hJ hl next
    · subst hs9
      refine lv_tableIn (tgt := 326) (off := 287) hx hb d_L_law_39 (by decide +kernel) (by decide +kernel) (by decide +kernel) (by decide) ?_
      exact law_falls hst hx hb hr hml hown hts hX hbl dC dI cI cZ cJ hm hc ho K hK8 sa A hA hbA hK hT hC9 hZ hL hL2 hJ hl next
    · subst hs9
      refine lv_tableIn (tgt := 354) (off := 315) hx hb d_L_law_39 (by decide +kernel) (by decide +kernel) (by decide +kernel) (by decide) ?_
      exact law_isSafe hst hx hb hr hml hown hts hX hbl dC dI cI cZ cJ hm hc ho K hK8 sa A hA hbA hK hT hC9 hZ hL hL2 hJ hl next
    · subst hs9
      refine lv_tableIn (tgt := 417) (off := 378) hx hb d_L_law_39 (by decide +kernel) (by decide +kernel) (by decide +kernel) (by decide) ?_
      exact law_bad hst hx hb hr hml hown hts hX hbl dC dI cI cZ cJ hm hc ho K hK8 sa A hA hbA hK hT hC9 hZ hL hL2 hJ hl next
    · subst hs9
      refine lv_tableIn (tgt := 457) (off := 418) hx hb d_L_law_39 (by decide +kernel) (by decide +kernel) (by decide +kernel) (by decide) ?_
      exact law_order hst hx hb hr hml hown hts hX hbl dC dI cI cZ cJ hm hc ho K hK8 sa A hA hbA hK hT hC9 hZ hL hL2 hJ hl next
    · subst hs9
      refine lv_tableIn (tgt := 494) (off := 455) hx hb d_L_law_39 (by decide +kernel) (by decide +kernel) (by decide +kernel) (by decide) ?_
      exact law_reached hst hx hb hr hml hown hts hX hbl dC dI cI cZ cJ hm hc ho K hK8 sa A hA hbA hK hT hC9 hZ hL hL2 hJ hl next
    · subst hs9
      refine lv_tableIn (tgt := 519) (off := 480) hx hb d_L_law_39 (by decide +kernel) (by decide +kernel) (by decide +kernel) (by decide) ?_
      exact law_product hst hx hb hr hml hown hts hX hbl dC dI cI cZ cJ hm hc ho K hK8 sa A hA hbA hK hT hC9 hZ hL hL2 hJ hl next
    · subst hs9
      refine lv_tableIn (tgt := 588) (off := 549) hx hb d_L_law_39 (by decide +kernel) (by decide +kernel) (by decide +kernel) (by decide) ?_
      exact law_about hst hx hb hr hml hown hts hX hbl dC dI cI cZ cJ hm hc ho K hK8 sa A hA hbA hK hT hC9 hZ hL hL2 hJ hl next
    · obtain ⟨n0, n1, n2, n3, n4, n5, n6, n7, n8, n9, n10, n11, n12⟩ := hs9
      have i0 := lv_neT n0 (show (nI 0).toInt = 0 by decide +kernel)
      have i1 := lv_neT n1 (show (nI 1).toInt = 1 by decide +kernel)
      have i2 := lv_neT n2 (show (nI 2).toInt = 2 by decide +kernel)
      have i3 := lv_neT n3 (show (nI 3).toInt = 3 by decide +kernel)
      have i4 := lv_neT n4 (show (nI 4).toInt = 4 by decide +kernel)
      have i5 := lv_neT n5 (show (nI 5).toInt = 5 by decide +kernel)
      have i6 := lv_neT n6 (show (nI 6).toInt = 6 by decide +kernel)
      have i7 := lv_neT n7 (show (nI 7).toInt = 7 by decide +kernel)
      have i8 := lv_neT n8 (show (nI 8).toInt = 8 by decide +kernel)
      have i9 := lv_neT n9 (show (nI 9).toInt = 9 by decide +kernel)
      have i10 := lv_neT n10 (show (nI 10).toInt = 10 by decide +kernel)
      have i11 := lv_neT n11 (show (nI 11).toInt = 11 by decide +kernel)
      have i12 := lv_neT n12 (show (nI 12).toInt = 12 by decide +kernel)
      refine lv_tableOut (tgt := 613) hx hb d_L_law_39 (by omega) (by decide) ?_
      refine W.widen (k := 33 + (t9 + 1)) (n := 10097 + 6 * (t9 + 1)) (by omega) (by omega) ?_
      exact next H locs ls hJ.step hl
