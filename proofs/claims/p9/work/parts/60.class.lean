abbrev wC (h : Nat → Nat) (cI : ClassId) (yf yc yn yt yg ym : Int32) (aP aF aT aK eB eE eA eL eN eC eS eW eT : Nat → Int32) : va_W :=
  [(h 0, .inr (4, [.ref (h 1), .ref (h 6), .ref (h 15)])), (h 1, .inr (1, [.ref (h 2), .ref (h 3), .ref (h 4), .ref (h 5), .int yf, .int yc])), (h 2, .inl (cI, 10, .inl aP)), (h 3, .inl (cI, 20, .inl aF)), (h 4, .inl (cI, 20, .inl aT)), (h 5, .inl (cI, 20, .inl aK)), (h 6, .inr (2, [.ref (h 7), .ref (h 8), .ref (h 9), .ref (h 10), .ref (h 11), .ref (h 12), .ref (h 13), .ref (h 14), .int yn, .int yt, .int yg])), (h 7, .inl (cI, 800, .inl eB)), (h 8, .inl (cI, 800, .inl eE)), (h 9, .inl (cI, 800, .inl eA)), (h 10, .inl (cI, 800, .inl eL)), (h 11, .inl (cI, 800, .inl eN)), (h 12, .inl (cI, 256, .inl eC)), (h 13, .inl (cI, 11, .inl eS)), (h 14, .inl (cI, 10, .inl eW)), (h 15, .inr (3, [.ref (h 16), .int ym])), (h 16, .inl (cI, 4, .inl eT))]
abbrev tyC (cI : ClassId) : List (ClassId × FieldType) := [(cI, .int)]
theorem gc_mem {pre rest : List Cond} (h : ∀ w ∈ pre, w ∈ wCw) {cb : Cond} (h4 : cb ∈ wCw) : GoodIn wCw (pre ++ (cb :: wCw)) := by
  intro w hw
  have hm : w ∈ wCw := by
    rcases List.mem_append.mp hw with q | q
    · exact h w q
    · rcases List.mem_cons.mp q with rfl | q
      · exact h4
      · exact q
  exact ⟨hm, good_of_word (List.all_eq_true.mp wCw_good w hm)⟩
theorem gc_V {own C : String} {idx : Nat} {y : MethodName} {cb : Cond} (h1 : Cond.methodLink own idx y ∈ wCw) (h2 : Cond.instanceMethod y ∈ wCw) (h3 : Cond.selects C y y ∈ wCw) (h5 : Cond.initialized C ∈ wCw) (h4 : cb ∈ wCw) : GoodIn wCw (wsV own idx C y (cb :: wCw)) :=
  gc_mem (rest := []) (fun w h => by
    rcases List.mem_cons.mp h with rfl | h
    · exact h1
    · rcases List.mem_cons.mp h with rfl | h
      · exact h2
      · rcases List.mem_cons.mp h with rfl | h
        · exact h3
        · rcases List.mem_cons.mp h with rfl | h
          · exact h5
          · cases h) h4
theorem gc_S {own : String} {idx : Nat} {y : MethodName} {cb : Cond} (h1 : Cond.methodLink own idx y ∈ wCw) (h2 : Cond.static y ∈ wCw) (h5 : Cond.initialized y.cls ∈ wCw) (h4 : cb ∈ wCw) : GoodIn wCw (va_wsS own idx y (cb :: wCw)) :=
  gc_mem (rest := []) (fun w h => by
    rcases List.mem_cons.mp h with rfl | h
    · exact h1
    · rcases List.mem_cons.mp h with rfl | h
      · exact h2
      · rcases List.mem_cons.mp h with rfl | h
        · exact h5
        · cases h) h4
theorem g_X_46 : GoodIn wCw (wsV R_X 46 R_C y_C_forget w_C_forget) := gc_V k_C_73 k_C_74 k_C_75 k_C_2 k_C_76
theorem g_X_71 : GoodIn wCw (wsV R_X 71 R_P y_P_hasCall w_P_hasCall) := gc_V k_C_80 k_C_81 k_C_82 k_C_1 k_C_83
theorem g_X_53 : GoodIn wCw (wsV R_X 53 R_P y_P_hasFunction w_P_hasFunction) := gc_V k_C_87 k_C_88 k_C_89 k_C_1 k_C_90
theorem g_X_108 : GoodIn wCw (wsV R_X 108 R_O y_O_find w_O_find) := gc_V k_C_91 k_C_92 k_C_93 k_C_3 k_C_94
theorem g_O_15 : GoodIn wCw (va_wsS R_O 15 y_O_callsToItself w_O_callsToItself) := gc_S k_C_95 k_C_96 k_C_3 k_C_97
theorem g_O_23 : GoodIn wCw (va_wsS R_O 23 y_O_nextPlace w_O_nextPlace) := gc_S k_C_98 k_C_99 k_C_3 k_C_100
theorem g_O_44 : GoodIn wCw (va_wsS R_O 44 y_G_at w_G_at) := gc_S k_C_101 k_C_102 k_C_4 k_C_103
theorem g_O_27 : GoodIn wCw (va_wsS R_O 27 y_O_callsWhereLess w_O_callsWhereLess) := gc_S k_C_110 k_C_111 k_C_3 k_C_112
theorem g_X_99 : GoodIn wCw (wsV R_X 99 R_P y_P_reachedFrom w_P_reachedFrom) := gc_V k_C_116 k_C_117 k_C_118 k_C_1 k_C_119
theorem g_X_118 : GoodIn wCw (va_wsS R_X 118 y_X_numberInRow w_X_numberInRow) := gc_S k_C_123 k_C_124 k_C_0 k_C_125
theorem g_X_122 : GoodIn wCw (va_wsS R_X 122 y_G_join w_G_join) := gc_S k_C_126 k_C_127 k_C_4 k_C_128
theorem g_G_9 : GoodIn wCw (va_wsS R_G 9 y_G_threesAsTwos w_G_threesAsTwos) := gc_S k_C_131 k_C_132 k_C_4 k_C_133
theorem g_X_49 : GoodIn wCw (wsV R_X 49 R_P y_P_addFunction w_P_addFunction) := gc_V k_C_141 k_C_142 k_C_143 k_C_1 k_C_144
theorem g_X_67 : GoodIn wCw (wsV R_X 67 R_P y_P_addCall w_P_addCall) := gc_V k_C_148 k_C_149 k_C_150 k_C_1 k_C_151
theorem g_P_31 : GoodIn wCw (wsV R_P 31 R_P y_P_hasFunction w_P_hasFunction) := gc_V k_C_152 k_C_88 k_C_89 k_C_1 k_C_90
theorem g_P_35 : GoodIn wCw (va_wsS R_P 35 y_G_clean w_G_clean) := gc_S k_C_153 k_C_154 k_C_4 k_C_155
theorem g_X_84 : GoodIn wCw (wsV R_X 84 R_X y_X_needClosure w_X_needClosure) := gc_V k_C_159 k_C_160 k_C_224 k_C_0 k_C_161
theorem g_X_127 : GoodIn wCw (wsV R_X 127 R_C y_C_gather w_C_gather) := gc_V k_C_162 k_C_163 k_C_164 k_C_2 k_C_165
theorem g_C_52 : GoodIn wCw (wsV R_C 52 R_C y_C_gatherFrom w_C_gatherFrom) := gc_V k_C_166 k_C_167 k_C_225 k_C_2 k_C_168
theorem g_C_78 : GoodIn wCw (wsV R_C 78 R_C y_C_keep w_C_keep) := gc_V k_C_172 k_C_173 k_C_226 k_C_2 k_C_174
theorem g_C_89 : GoodIn wCw (wsV R_C 89 R_C y_C_isKept w_C_isKept) := gc_V k_C_176 k_C_177 k_C_227 k_C_2 k_C_178
theorem g_C_93 : GoodIn wCw (wsV R_C 93 R_C y_C_hasRow w_C_hasRow) := gc_V k_C_179 k_C_180 k_C_228 k_C_2 k_C_181
theorem g_C_82 : GoodIn wCw (va_wsS R_C 82 y_G_join w_G_join) := gc_S k_C_182 k_C_127 k_C_4 k_C_128
theorem g_C_56 : GoodIn wCw (wsV R_C 56 R_C y_C_firstBad w_C_firstBad) := gc_V k_C_183 k_C_184 k_C_229 k_C_2 k_C_185
theorem g_C_97 : GoodIn wCw (va_wsS R_C 97 y_G_isBad w_G_isBad) := gc_S k_C_186 k_C_187 k_C_4 k_C_188
theorem g_G_18 : GoodIn wCw (va_wsS R_G 18 y_G_join w_G_join) := gc_S k_C_190 k_C_127 k_C_4 k_C_128
theorem g_X_87 : GoodIn wCw (wsV R_X 87 R_C y_C_countGraphs w_C_countGraphs) := gc_V k_C_191 k_C_192 k_C_193 k_C_2 k_C_194
theorem g_C_100 : GoodIn wCw (wsV R_C 100 R_C y_C_countAlike w_C_countAlike) := gc_V k_C_195 k_C_196 k_C_230 k_C_2 k_C_197
theorem g_X_93 : GoodIn wCw (wsV R_X 93 R_C y_C_graphInOrder w_C_graphInOrder) := gc_V k_C_201 k_C_202 k_C_203 k_C_2 k_C_204
theorem g_X_102 : GoodIn wCw (wsV R_X 102 R_C y_C_lengthOf w_C_lengthOf) := gc_V k_C_214 k_C_215 k_C_216 k_C_2 k_C_217
theorem g_X_105 : GoodIn wCw (wsV R_X 105 R_C y_C_callFromTheEnd w_C_callFromTheEnd) := gc_V k_C_218 k_C_219 k_C_220 k_C_2 k_C_221
set_option maxHeartbeats 4000000 in
set_option maxRecDepth 100000 in
theorem c_G_threesAsTwos_ok (l : Launch) (x : Int32) : Met l y_G_threesAsTwos w_G_threesAsTwos ({ frames := 0, cells := 0, slots := 0, locals := 0 }) (va_Pc [.int x] (fun _ => True)) (vp_Si (fun r => r = t3 x)) 0 0 (fun _ => False) := by
  refine Met.ofW (cc := c_G_threesAsTwos) (maxL := 1) (ret := (some .int)) (by decide) rfl ?_
  intro p e s m args below meth c s₁ B hml hv
  obtain ⟨rfl, -⟩ := hv
  have hx := B.exec
  have hb := B.bytes
  have hr := B.returns
  have hts := atoms_spec (ws := w_G_threesAsTwos) B.pre
  have hk : ∀ w ∈ wCw, w.before _ s = true := fun w h => hts w (List.mem_cons_of_mem _ h)
  have hown : s.vm.findClass R_G = some m.cls := findClass_of_methodNamed B.named
  have hlocks := B.notSynchronized
  have hl := lv_entry ([.int x]) (n := 1) (Nat.le_of_ble_eq_true rfl)
  rw [lg_entry_eq]
  generalize (lg_sl ([.int x]) ++ List.replicate (1 - (lg_sl ([.int x])).length) Slot.unset).toArray = ls at hl ⊢
  have hl : lv_has ls 1 [(0, .int x)] := hl
  refine lv_iload_n hx hb d_G_threesAsTwos_0 rfl (lv_at hl 0 rfl) ?_
  refine lv_iload_n hx hb d_G_threesAsTwos_1 rfl (lv_at hl 0 rfl) ?_
  refine lv_iconst (v := nI 1) hx hb d_G_threesAsTwos_2 (by decide +kernel) ?_
  refine lv_iushr (v := ush x 1) hx hb d_G_threesAsTwos_3 rfl ?_
  refine lv_ldc (v := (1431655765)) hx hb hown (hk _ k_C_129) d_G_threesAsTwos_4 ?_
  refine lv_iand hx hb d_G_threesAsTwos_6 ?_
  refine lv_iconst (v := (-1)) hx hb d_G_threesAsTwos_7 (by decide +kernel) ?_
  refine lv_ixor hx hb d_G_threesAsTwos_8 ?_
  refine lv_iand hx hb d_G_threesAsTwos_9 ?_
  exact W.iret (v := x &&& (((ush x 1) &&& (1431655765)) ^^^ (-1))) hx hb hr (fun t ht hW => ⟨x &&& (((ush x 1) &&& (1431655765)) ^^^ (-1)), rfl, rfl, ht⟩) (fun q h9 => absurd h9 List.not_mem_nil) d_G_threesAsTwos_10
set_option maxHeartbeats 4000000 in
set_option maxRecDepth 100000 in
theorem c_G_at_ok (l : Launch) (x : Int32) (i j : Nat) (hi : i < 4) (hj : j < 4) : Met l y_G_at w_G_at ({ frames := 0, cells := 0, slots := 0, locals := 0 }) (va_Pc [.int x, .int (nI i), .int (nI j)] (fun _ => True)) (vp_Si (fun r => r = nI (atN x i j))) 0 0 (fun _ => False) := by
  refine Met.ofW (cc := c_G_at) (maxL := 3) (ret := (some .int)) (by decide) rfl ?_
  intro p e s m args below meth c s₁ B hml hv
  obtain ⟨rfl, -⟩ := hv
  have hx := B.exec
  have hb := B.bytes
  have hr := B.returns
  have hts := atoms_spec (ws := w_G_at) B.pre
  have hk : ∀ w ∈ wCw, w.before _ s = true := fun w h => hts w (List.mem_cons_of_mem _ h)
  have hown : s.vm.findClass R_G = some m.cls := findClass_of_methodNamed B.named
  have hlocks := B.notSynchronized
  have hl := lv_entry ([.int x, .int (nI i), .int (nI j)]) (n := 3) (Nat.le_of_ble_eq_true rfl)
  rw [lg_entry_eq]
  generalize (lg_sl ([.int x, .int (nI i), .int (nI j)]) ++ List.replicate (3 - (lg_sl ([.int x, .int (nI i), .int (nI j)])).length) Slot.unset).toArray = ls at hl ⊢
  have hl : lv_has ls 3 [(0, .int x), (1, .int (nI i)), (2, .int (nI j))] := hl
  refine lv_iload_n hx hb d_G_at_0 rfl (lv_at hl 0 rfl) ?_
  refine lv_bipush (v := nI 8) hx hb d_G_at_1 (by decide +kernel) ?_
  refine lv_iload_n hx hb d_G_at_3 rfl (lv_at hl 1 rfl) ?_
  refine lv_imul hx hb d_G_at_4 ?_
  refine lv_topi (fun z1 ez1 => ?_)
  obtain rfl : z1 = nI (8 * i) := ez1.trans (pk_mul _ _)
  refine lv_iconst (v := nI 2) hx hb d_G_at_5 (by decide +kernel) ?_
  refine lv_iload_n hx hb d_G_at_6 rfl (lv_at hl 2 rfl) ?_
  refine lv_imul hx hb d_G_at_7 ?_
  refine lv_topi (fun z2 ez2 => ?_)
  obtain rfl : z2 = nI (2 * j) := ez2.trans (pk_mul _ _)
  refine lv_iadd hx hb d_G_at_8 ?_
  refine lv_topi (fun z3 ez3 => ?_)
  obtain rfl : z3 = nI (8 * i + (2 * j)) := ez3.trans (nI_add _ _)
  refine lv_iushr (v := ush x (8 * i + (2 * j))) hx hb d_G_at_9 rfl ?_
  refine lv_iconst (v := nI 3) hx hb d_G_at_10 (by decide +kernel) ?_
  refine lv_iand hx hb d_G_at_11 ?_
  exact W.iret (v := (ush x (8 * i + (2 * j))) &&& (nI 3)) hx hb hr (fun t ht hW => ⟨(ush x (8 * i + (2 * j))) &&& (nI 3), rfl, (at_nI x hi hj), ht⟩) (fun q h9 => absurd h9 List.not_mem_nil) d_G_at_12
set_option maxHeartbeats 4000000 in
set_option maxRecDepth 100000 in
theorem c_G_join_ok (l : Launch) (a b : Int32) : Met l y_G_join w_G_join ({ frames := 1, cells := 0, slots := 0, locals := 20 }) (va_Pc [.int a, .int b] (fun _ => True)) (vp_Si (fun r => r = cj a b)) 0 0 (fun _ => False) := by
  refine Met.ofW (cc := c_G_join) (maxL := 8) (ret := (some .int)) (by decide) rfl ?_
  intro p e s m args below meth c s₁ B hml hv
  obtain ⟨rfl, -⟩ := hv
  have hx := B.exec
  have hb := B.bytes
  have hr := B.returns
  have hts := atoms_spec (ws := w_G_join) B.pre
  have hk : ∀ w ∈ wCw, w.before _ s = true := fun w h => hts w (List.mem_cons_of_mem _ h)
  have hown : s.vm.findClass R_G = some m.cls := findClass_of_methodNamed B.named
  have hlocks := B.notSynchronized
  have hl := lv_entry ([.int a, .int b]) (n := 8) (Nat.le_of_ble_eq_true rfl)
  rw [lg_entry_eq]
  generalize (lg_sl ([.int a, .int b]) ++ List.replicate (8 - (lg_sl ([.int a, .int b])).length) Slot.unset).toArray = ls at hl ⊢
  have hl : lv_has ls 8 [(0, .int a), (1, .int b)] := hl
  refine lv_iconst (v := nI 0) hx hb d_G_join_0 (by decide +kernel) ?_
  refine lv_istore_n (lv' := [(2, .int (nI 0)), (0, .int a), (1, .int b)]) hx hb d_G_join_1 rfl hl (by decide) rfl (fun ls hl => ?_)
  refine lv_iconst (v := nI 0) hx hb d_G_join_2 (by decide +kernel) ?_
  refine lv_istore_n (lv' := [(3, .int (nI 0)), (2, .int (nI 0)), (0, .int a), (1, .int b)]) hx hb d_G_join_3 rfl hl (by decide) rfl (fun ls hl => ?_)
  have lp : ∀ (n_lp : Nat) (j : Nat), (j ≤ 4) → 4 - j < n_lp → ∀ (ls : Array Slot), lv_has ls 8 [(0, .int a), (1, .int b), (2, .int (cjN a b j)), (3, .int (nI j))] → W p l e (headSpec w_G_join ({ frames := 1, cells := 0, slots := 0, locals := 20 })).room s m ([.int a, .int b]).toArray below meth c s.heap [] 0 0 (MQ below (vp_Si (fun r => r = cj a b)) ([.int a, .int b]).toArray s 0 0 (fun _ => False)) (F0 m 4 ls []) := by
    intro n_lp
    induction n_lp with
    | zero => intro j hj hn; exact absurd hn (Nat.not_lt_zero _)
    | succ n_lp ih_lp =>
      intro j hj hn ls hl
      refine lv_iload_n hx hb d_G_join_4 rfl (lv_at hl 3 rfl) ?_
      refine lv_iconst (v := nI 4) hx hb d_G_join_5 (by decide +kernel) ?_
      refine lv_icmp_ge (tgt := 77) hx hb d_G_join_6 (by decide) (fun c_6 => ?_) (fun c_6 => ?_)
      · have c_6 : 4 ≤ j := (nI_leI (a := 4) (b := j) (by omega) (by omega)).mp c_6
        have hj4 : j = 4 := by omega
        subst hj4
        refine lv_iload_n hx hb d_G_join_77 rfl (lv_at hl 2 rfl) ?_
        refine vp_callSi (W.runS (As := [.int (cjN a b 4)]) (rest := []) ⟨hx, hb, hml, hown, hk⟩ (c_G_threesAsTwos_ok l (cjN a b 4)) (va_cwS 1 hk g_G_9 rfl rfl rfl (by decide +kernel) ⟨Nat.le_of_ble_eq_true rfl, Nat.le_of_ble_eq_true rfl⟩) ⟨fun a U g mk q => q, fun U hU hW => ⟨rfl, trivial⟩⟩ rfl rfl hl.1 rfl (lv_room (Nat.le_of_ble_eq_true rfl)) d_G_join_78 ⟨Nat.le_of_ble_eq_true rfl, Nat.le_of_ble_eq_true rfl⟩) (fun r1 hw => ?_)
        subst hw
        exact W.iret (v := t3 (cjN a b 4)) hx hb hr (fun t ht hW => ⟨t3 (cjN a b 4), rfl, rfl, ht⟩) (fun q h9 => absurd h9 List.not_mem_nil) d_G_join_81
      · have c_6 : ¬ 4 ≤ j := fun z9 => c_6 ((nI_leI (a := 4) (b := j) (by omega) (by omega)).mpr z9)
        refine lv_iload_n hx hb d_G_join_9 rfl (lv_at hl 1 rfl) ?_
        refine lv_bipush (v := nI 8) hx hb d_G_join_10 (by decide +kernel) ?_
        refine lv_iload_n hx hb d_G_join_12 rfl (lv_at hl 3 rfl) ?_
        refine lv_imul hx hb d_G_join_13 ?_
        refine lv_topi (fun z2 ez2 => ?_)
        obtain rfl : z2 = nI (8 * j) := ez2.trans (pk_mul _ _)
        refine lv_iushr (v := ush b (8 * j)) hx hb d_G_join_14 rfl ?_
        refine lv_sipush (v := nI 255) hx hb d_G_join_15 (by decide +kernel) ?_
        refine lv_iand hx hb d_G_join_18 ?_
        refine lv_topi (fun z3 ez3 => ?_)
        obtain rfl : z3 = cjR b j := ez3.trans (rfl)
        refine lv_istore (lv' := [(4, .int (cjR b j)), (0, .int a), (1, .int b), (2, .int (cjN a b j)), (3, .int (nI j))]) hx hb d_G_join_19 hl (by decide) rfl (fun ls hl => ?_)
        refine lv_iload hx hb d_G_join_21 (lv_at hl 0 rfl) ?_
        refine lv_iload hx hb d_G_join_23 (lv_at hl 0 rfl) ?_
        refine lv_iconst (v := nI 1) hx hb d_G_join_25 (by decide +kernel) ?_
        refine lv_iushr (v := ush (cjR b j) 1) hx hb d_G_join_26 rfl ?_
        refine lv_ior hx hb d_G_join_27 ?_
        refine lv_ldc (v := (1431655765)) hx hb hown (hk _ k_C_129) d_G_join_28 ?_
        refine lv_iand hx hb d_G_join_30 ?_
        refine lv_iconst (v := nI 1) hx hb d_G_join_31 (by decide +kernel) ?_
        refine lv_ishl hx hb d_G_join_32 ?_
        refine lv_topi (fun z4 ez4 => ?_)
        obtain rfl : z4 = shl (((cjR b j) ||| (ush (cjR b j) 1)) &&& (1431655765)) 1 := ez4.trans (rfl)
        refine lv_topi (fun z5 ez5 => ?_)
        obtain rfl : z5 = cjT b j := ez5.trans (rfl)
        refine lv_istore (lv' := [(5, .int (cjT b j)), (4, .int (cjR b j)), (0, .int a), (1, .int b), (2, .int (cjN a b j)), (3, .int (nI j))]) hx hb d_G_join_33 hl (by decide) rfl (fun ls hl => ?_)
        refine lv_iload_n hx hb d_G_join_35 rfl (lv_at hl 2 rfl) ?_
        refine lv_iconst (v := nI 2) hx hb d_G_join_36 (by decide +kernel) ?_
        refine lv_iload_n hx hb d_G_join_37 rfl (lv_at hl 5 rfl) ?_
        refine lv_imul hx hb d_G_join_38 ?_
        refine lv_topi (fun z6 ez6 => ?_)
        obtain rfl : z6 = nI (2 * j) := ez6.trans (pk_mul _ _)
        refine lv_iushr (v := ush a (2 * j)) hx hb d_G_join_39 rfl ?_
        refine lv_ldc (v := (16843009)) hx hb hown (hk _ k_C_130) d_G_join_40 ?_
        refine lv_iand hx hb d_G_join_42 ?_
        refine lv_istore (lv' := [(6, .int ((ush a (2 * j)) &&& (16843009))), (5, .int (cjT b j)), (4, .int (cjR b j)), (0, .int a), (1, .int b), (2, .int (cjN a b j)), (3, .int (nI j))]) hx hb d_G_join_43 hl (by decide) rfl (fun ls hl => ?_)
        refine lv_iload_n hx hb d_G_join_45 rfl (lv_at hl 3 rfl) ?_
        refine lv_iconst (v := nI 2) hx hb d_G_join_46 (by decide +kernel) ?_
        refine lv_iload_n hx hb d_G_join_47 rfl (lv_at hl 6 rfl) ?_
        refine lv_imul hx hb d_G_join_48 ?_
        refine lv_topi (fun z7 ez7 => ?_)
        obtain rfl : z7 = nI (2 * j) := ez7.trans (pk_mul _ _)
        refine lv_iconst (v := nI 1) hx hb d_G_join_49 (by decide +kernel) ?_
        refine lv_iadd hx hb d_G_join_50 ?_
        refine lv_topi (fun z8 ez8 => ?_)
        obtain rfl : z8 = nI (2 * j + 1) := ez8.trans (nI_add _ _)
        refine lv_iushr (v := ush a (2 * j + 1)) hx hb d_G_join_51 rfl ?_
        refine lv_ldc (v := (16843009)) hx hb hown (hk _ k_C_130) d_G_join_52 ?_
        refine lv_iand hx hb d_G_join_54 ?_
        refine lv_istore (lv' := [(7, .int ((ush a (2 * j + 1)) &&& (16843009))), (6, .int ((ush a (2 * j)) &&& (16843009))), (5, .int (cjT b j)), (4, .int (cjR b j)), (0, .int a), (1, .int b), (2, .int (cjN a b j)), (3, .int (nI j))]) hx hb d_G_join_55 hl (by decide) rfl (fun ls hl => ?_)
        refine lv_iload_n hx hb d_G_join_57 rfl (lv_at hl 6 rfl) ?_
        refine lv_iload hx hb d_G_join_58 (lv_at hl 1 rfl) ?_
        refine lv_iload hx hb d_G_join_60 (lv_at hl 3 rfl) ?_
        refine lv_imul hx hb d_G_join_62 ?_
        refine lv_iload hx hb d_G_join_63 (lv_at hl 0 rfl) ?_
        refine lv_iload hx hb d_G_join_65 (lv_at hl 2 rfl) ?_
        refine lv_imul hx hb d_G_join_67 ?_
        refine lv_ior hx hb d_G_join_68 ?_
        refine lv_ior hx hb d_G_join_69 ?_
        refine lv_topi (fun z9 ez9 => ?_)
        obtain rfl : z9 = cjN a b (j + 1) := ez9.trans (rfl)
        refine lv_istore_n (lv' := [(2, .int (cjN a b (j + 1))), (7, .int ((ush a (2 * j + 1)) &&& (16843009))), (6, .int ((ush a (2 * j)) &&& (16843009))), (5, .int (cjT b j)), (4, .int (cjR b j)), (0, .int a), (1, .int b), (3, .int (nI j))]) hx hb d_G_join_70 rfl hl (by decide) rfl (fun ls hl => ?_)
        refine lv_iinc (v := nI (j + 1)) (lv' := [(3, .int (nI (j + 1))), (2, .int (cjN a b (j + 1))), (7, .int ((ush a (2 * j + 1)) &&& (16843009))), (6, .int ((ush a (2 * j)) &&& (16843009))), (5, .int (cjT b j)), (4, .int (cjR b j)), (0, .int a), (1, .int b)]) hx hb d_G_join_71 hl (k := 7) rfl (nI_add j 1) (by decide) rfl (fun ls hl => ?_)
        refine lv_goto (tgt := 4) hx hb d_G_join_74 (by decide) ?_
        exact ih_lp (j + 1) (by omega) (by omega) _ (lv_sub hl [6, 7, 1, 0] rfl)
  exact lp _ 0 (Nat.zero_le _) (Nat.lt_succ_self _) _ (lv_sub hl [2, 3, 1, 0] rfl)
set_option maxHeartbeats 4000000 in
set_option maxRecDepth 100000 in
theorem c_G_clean_ok (l : Launch) (x : Int32) (i j : Nat) (hi : i < 5) (hj : j < 5) : Met l y_G_clean w_G_clean ({ frames := 1, cells := 0, slots := 0, locals := 20 }) (va_Pc [.int x, .int (nI i), .int (nI j)] (fun _ => True)) (vp_Si (fun r => r = clC x i j)) 0 0 (fun _ => False) := by
  refine Met.ofW (cc := c_G_clean) (maxL := 6) (ret := (some .int)) (by decide) rfl ?_
  intro p e s m args below meth c s₁ B hml hv
  obtain ⟨rfl, -⟩ := hv
  have hx := B.exec
  have hb := B.bytes
  have hr := B.returns
  have hts := atoms_spec (ws := w_G_clean) B.pre
  have hk : ∀ w ∈ wCw, w.before _ s = true := fun w h => hts w (List.mem_cons_of_mem _ h)
  have hown : s.vm.findClass R_G = some m.cls := findClass_of_methodNamed B.named
  have hlocks := B.notSynchronized
  have hl := lv_entry ([.int x, .int (nI i), .int (nI j)]) (n := 6) (Nat.le_of_ble_eq_true rfl)
  rw [lg_entry_eq]
  generalize (lg_sl ([.int x, .int (nI i), .int (nI j)]) ++ List.replicate (6 - (lg_sl ([.int x, .int (nI i), .int (nI j)])).length) Slot.unset).toArray = ls at hl ⊢
  have hl : lv_has ls 6 [(0, .int x), (1, .int (nI i)), (2, .int (nI j))] := hl
  refine lv_iconst (v := nI 1) hx hb d_G_clean_0 (by decide +kernel) ?_
  refine lv_iconst (v := nI 2) hx hb d_G_clean_1 (by decide +kernel) ?_
  refine lv_iload_n hx hb d_G_clean_2 rfl (lv_at hl 2 rfl) ?_
  refine lv_imul hx hb d_G_clean_3 ?_
  refine lv_topi (fun z1 ez1 => ?_)
  obtain rfl : z1 = nI (2 * j) := ez1.trans (pk_mul _ _)
  refine lv_ishl hx hb d_G_clean_4 ?_
  refine lv_topi (fun z2 ez2 => ?_)
  obtain rfl : z2 = shl (nI 1) (2 * j) := ez2.trans (rfl)
  refine lv_iconst (v := nI 1) hx hb d_G_clean_5 (by decide +kernel) ?_
  refine lv_isub hx hb d_G_clean_6 ?_
  refine lv_topi (fun z3 ez3 => ?_)
  obtain rfl : z3 = shl 1 (2 * j) - 1 := ez3.trans (rfl)
  refine lv_istore_n (lv' := [(3, .int (shl 1 (2 * j) - 1)), (0, .int x), (1, .int (nI i)), (2, .int (nI j))]) hx hb d_G_clean_7 rfl hl (by decide) rfl (fun ls hl => ?_)
  refine lv_iconst (v := nI 0) hx hb d_G_clean_8 (by decide +kernel) ?_
  refine lv_istore (lv' := [(4, .int (nI 0)), (3, .int (shl 1 (2 * j) - 1)), (0, .int x), (1, .int (nI i)), (2, .int (nI j))]) hx hb d_G_clean_9 hl (by decide) rfl (fun ls hl => ?_)
  refine lv_iconst (v := nI 0) hx hb d_G_clean_11 (by decide +kernel) ?_
  refine lv_istore (lv' := [(5, .int (nI 0)), (4, .int (nI 0)), (3, .int (shl 1 (2 * j) - 1)), (0, .int x), (1, .int (nI i)), (2, .int (nI j))]) hx hb d_G_clean_12 hl (by decide) rfl (fun ls hl => ?_)
  have lp : ∀ (n_lp : Nat) (k : Nat), (k ≤ i) → i - k < n_lp → ∀ (ls : Array Slot), lv_has ls 6 [(0, .int x), (1, .int (nI i)), (2, .int (nI j)), (3, .int (shl 1 (2 * j) - 1)), (4, .int (thI (shl 1 (2 * j) - 1) k)), (5, .int (nI k))] → W p l e (headSpec w_G_clean ({ frames := 1, cells := 0, slots := 0, locals := 20 })).room s m ([.int x, .int (nI i), .int (nI j)]).toArray below meth c s.heap [] 0 0 (MQ below (vp_Si (fun r => r = clC x i j)) ([.int x, .int (nI i), .int (nI j)]).toArray s 0 0 (fun _ => False)) (F0 m 14 ls []) := by
    intro n_lp
    induction n_lp with
    | zero => intro k hk9 hn; exact absurd hn (Nat.not_lt_zero _)
    | succ n_lp ih_lp =>
      intro k hk9 hn ls hl
      refine lv_iload hx hb d_G_clean_14 (lv_at hl 5 rfl) ?_
      refine lv_iload_n hx hb d_G_clean_16 rfl (lv_at hl 1 rfl) ?_
      refine lv_icmp_ge (tgt := 38) hx hb d_G_clean_17 (by decide) (fun c_17 => ?_) (fun c_17 => ?_)
      · have c_17 : i ≤ k := (nI_leI (a := i) (b := k) (by omega) (by omega)).mp c_17
        have hke : k = i := by omega
        subst hke
        refine lv_iload_n hx hb d_G_clean_38 rfl (lv_at hl 0 rfl) ?_
        refine lv_iload hx hb d_G_clean_39 (lv_at hl 4 rfl) ?_
        refine lv_iand hx hb d_G_clean_41 ?_
        refine vp_callSi (W.runS (As := [.int (x &&& (thI (shl 1 (2 * j) - 1) k))]) (rest := []) ⟨hx, hb, hml, hown, hk⟩ (c_G_threesAsTwos_ok l (x &&& (thI (shl 1 (2 * j) - 1) k))) (va_cwS 1 hk g_G_9 rfl rfl rfl (by decide +kernel) ⟨Nat.le_of_ble_eq_true rfl, Nat.le_of_ble_eq_true rfl⟩) ⟨fun a U g mk q => q, fun U hU hW => ⟨rfl, trivial⟩⟩ rfl rfl hl.1 rfl (lv_room (Nat.le_of_ble_eq_true rfl)) d_G_clean_42 ⟨Nat.le_of_ble_eq_true rfl, Nat.le_of_ble_eq_true rfl⟩) (fun r4 hw => ?_)
        subst hw
        exact W.iret (v := t3 (x &&& (thI (shl 1 (2 * j) - 1) k))) hx hb hr (fun t ht hW => ⟨t3 (x &&& (thI (shl 1 (2 * j) - 1) k)), rfl, rfl, ht⟩) (fun q h9 => absurd h9 List.not_mem_nil) d_G_clean_45
      · have c_17 : ¬ i ≤ k := fun z9 => c_17 ((nI_leI (a := i) (b := k) (by omega) (by omega)).mpr z9)
        refine lv_iload hx hb d_G_clean_20 (lv_at hl 4 rfl) ?_
        refine lv_iload_n hx hb d_G_clean_22 rfl (lv_at hl 3 rfl) ?_
        refine lv_bipush (v := nI 8) hx hb d_G_clean_23 (by decide +kernel) ?_
        refine lv_iload hx hb d_G_clean_25 (lv_at hl 5 rfl) ?_
        refine lv_imul hx hb d_G_clean_27 ?_
        refine lv_topi (fun z5 ez5 => ?_)
        obtain rfl : z5 = nI (8 * k) := ez5.trans (pk_mul _ _)
        refine lv_ishl hx hb d_G_clean_28 ?_
        refine lv_topi (fun z6 ez6 => ?_)
        obtain rfl : z6 = shl (shl 1 (2 * j) - 1) (8 * k) := ez6.trans (rfl)
        refine lv_ior hx hb d_G_clean_29 ?_
        refine lv_topi (fun z7 ez7 => ?_)
        obtain rfl : z7 = thI (shl 1 (2 * j) - 1) (k + 1) := ez7.trans (rfl)
        refine lv_istore (lv' := [(4, .int (thI (shl 1 (2 * j) - 1) (k + 1))), (0, .int x), (1, .int (nI i)), (2, .int (nI j)), (3, .int (shl 1 (2 * j) - 1)), (5, .int (nI k))]) hx hb d_G_clean_30 hl (by decide) rfl (fun ls hl => ?_)
        refine lv_iinc (v := nI (k + 1)) (lv' := [(5, .int (nI (k + 1))), (4, .int (thI (shl 1 (2 * j) - 1) (k + 1))), (0, .int x), (1, .int (nI i)), (2, .int (nI j)), (3, .int (shl 1 (2 * j) - 1))]) hx hb d_G_clean_32 hl (k := 5) rfl (nI_add k 1) (by decide) rfl (fun ls hl => ?_)
        refine lv_goto (tgt := 14) hx hb d_G_clean_35 (by decide) ?_
        exact ih_lp (k + 1) (by omega) (by omega) _ (lv_sub hl [2, 3, 4, 5, 1, 0] rfl)
  exact lp _ 0 (Nat.zero_le _) (Nat.lt_succ_self _) _ (lv_sub hl [3, 4, 5, 2, 1, 0] rfl)
set_option maxHeartbeats 4000000 in
set_option maxRecDepth 100000 in
theorem c_G_isBad_ok (l : Launch) (x : Int32) (hc : clN x) : Met l y_G_isBad w_G_isBad ({ frames := 2, cells := 0, slots := 0, locals := 47 }) (va_Pc [.int x] (fun _ => True)) (vp_Si (fun r => (r = nI 1 ∧ cj x x = x ∧ ∀ i, i < 4 → atN x i i ≠ 2) ∨ (r = nI 0 ∧ ¬ (cj x x = x ∧ ∀ i, i < 4 → atN x i i ≠ 2)))) 0 0 (fun _ => False) := by
  refine Met.ofW (cc := c_G_isBad) (maxL := 1) (ret := (some .boolean)) (by decide) rfl ?_
  intro p e s m args below meth c s₁ B hml hv
  obtain ⟨rfl, -⟩ := hv
  have hx := B.exec
  have hb := B.bytes
  have hr := B.returns
  have hts := atoms_spec (ws := w_G_isBad) B.pre
  have hk : ∀ w ∈ wCw, w.before _ s = true := fun w h => hts w (List.mem_cons_of_mem _ h)
  have hown : s.vm.findClass R_G = some m.cls := findClass_of_methodNamed B.named
  have hlocks := B.notSynchronized
  have hl := lv_entry ([.int x]) (n := 1) (Nat.le_of_ble_eq_true rfl)
  rw [lg_entry_eq]
  generalize (lg_sl ([.int x]) ++ List.replicate (1 - (lg_sl ([.int x])).length) Slot.unset).toArray = ls at hl ⊢
  have hl : lv_has ls 1 [(0, .int x)] := hl
  refine lv_iload_n hx hb d_G_isBad_0 rfl (lv_at hl 0 rfl) ?_
  refine lv_ldc (v := (-2145384446)) hx hb hown (hk _ k_C_189) d_G_isBad_1 ?_
  refine lv_iand hx hb d_G_isBad_3 ?_
  refine lv_if_ne (tgt := 20) hx hb d_G_isBad_4 (by decide) (fun c_4 => ?_) (fun c_4 => ?_)
  · refine lv_iconst (v := nI 0) hx hb d_G_isBad_20 (by decide +kernel) ?_
    have hq9 : ¬ (cj x x = x ∧ ∀ i, i < 4 → atN x i i ≠ 2) := by
      rintro ⟨z1, z2⟩
      first
        | exact c_4 ((di_iff hc).mpr z2)
        | exact c_13 z1
    exact W.zret (v := nI 0) (ty := .boolean) hx hb hr rfl (fun t ht hW => ⟨nI 0, rfl, Or.inr ⟨rfl, hq9⟩, ht⟩) (fun q h9 => absurd h9 List.not_mem_nil) d_G_isBad_21
  · refine lv_iload_n hx hb d_G_isBad_7 rfl (lv_at hl 0 rfl) ?_
    refine lv_iload_n hx hb d_G_isBad_8 rfl (lv_at hl 0 rfl) ?_
    refine vp_callSi (W.runS (As := [.int x, .int x]) (rest := []) ⟨hx, hb, hml, hown, hk⟩ (c_G_join_ok l x x) (va_cwS 2 hk g_G_18 rfl rfl rfl (by decide +kernel) ⟨Nat.le_of_ble_eq_true rfl, Nat.le_of_ble_eq_true rfl⟩) ⟨fun a U g mk q => q, fun U hU hW => ⟨rfl, trivial⟩⟩ rfl rfl hl.1 rfl (lv_room (Nat.le_of_ble_eq_true rfl)) d_G_isBad_9 ⟨Nat.le_of_ble_eq_true rfl, Nat.le_of_ble_eq_true rfl⟩) (fun r1 hw => ?_)
    subst hw
    refine lv_iload_n hx hb d_G_isBad_12 rfl (lv_at hl 0 rfl) ?_
    refine lv_icmp_ne (tgt := 20) hx hb d_G_isBad_13 (by decide) (fun c_13 => ?_) (fun c_13 => ?_)
    · refine lv_iconst (v := nI 0) hx hb d_G_isBad_20 (by decide +kernel) ?_
      have hq9 : ¬ (cj x x = x ∧ ∀ i, i < 4 → atN x i i ≠ 2) := by
        rintro ⟨z1, z2⟩
        first
          | exact c_4 ((di_iff hc).mpr z2)
          | exact c_13 z1
      exact W.zret (v := nI 0) (ty := .boolean) hx hb hr rfl (fun t ht hW => ⟨nI 0, rfl, Or.inr ⟨rfl, hq9⟩, ht⟩) (fun q h9 => absurd h9 List.not_mem_nil) d_G_isBad_21
    · refine lv_iconst (v := nI 1) hx hb d_G_isBad_16 (by decide +kernel) ?_
      refine lv_goto (tgt := 21) hx hb d_G_isBad_17 (by decide) ?_
      exact W.zret (v := nI 1) (ty := .boolean) hx hb hr rfl (fun t ht hW => ⟨nI 1, rfl, Or.inl ⟨rfl, c_13, (di_iff hc).mp c_4⟩, ht⟩) (fun q h9 => absurd h9 List.not_mem_nil) d_G_isBad_21
