/-- what a throw needs of the tables -/
def xT (sa : Nat → Nat) (U : State) : Prop := va_Nw (.declares (Bundle.initS "java/lang/RuntimeException")) U ∧ va_Nw (.declares (Bundle.initS "java/lang/Exception")) U ∧ va_Nw (.declares (Bundle.initS Bundle.tN)) U ∧ va_Nw (.castable "java/lang/IllegalArgumentException" "java/lang/IllegalArgumentException") U ∧ va_Nw (.castable "java/lang/IllegalStateException" "java/lang/IllegalStateException") U ∧ va_Nw (.castable "java/lang/IndexOutOfBoundsException" "java/lang/IndexOutOfBoundsException") U ∧ va_Nw (.castable "java/lang/UnsupportedOperationException" "java/lang/UnsupportedOperationException") U ∧ vk_R R_X 32 "places are not 1 .. 4" (sa 0) U ∧ vk_R R_X 43 "there are 10 functions" (sa 1) U ∧ vk_R R_X 59 "no such function" (sa 2) U ∧ vk_R R_X 65 "there are 20 calls" (sa 3) U ∧ vk_R R_X 91 "no such graph" (sa 4) U ∧ vk_R R_X 137 "there are more than 800 graphs" (sa 5) U
/-- .. and of the heap: where two statics of Throwable lie, outside A -/
def xZ (A : Nat → Prop) (U : State) (H : Heap) : Prop := vx_Zq Bundle.tN "UNASSIGNED_STACK" Bundle.steD A U H ∧ vx_Zq Bundle.tN "SUPPRESSED_SENTINEL" Bundle.listD A U H
theorem xT.same {sa : Nat → Nat} {u U : State} (hv : u.vm = U.vm) (h : xT sa u) : xT sa U := ⟨va_Nw.same rfl hv h.1, va_Nw.same rfl hv h.2.1, va_Nw.same rfl hv h.2.2.1, va_Nw.same rfl hv h.2.2.2.1, va_Nw.same rfl hv h.2.2.2.2.1, va_Nw.same rfl hv h.2.2.2.2.2.1, va_Nw.same rfl hv h.2.2.2.2.2.2.1, vk_R.same hv.symm h.2.2.2.2.2.2.2.1, vk_R.same hv.symm h.2.2.2.2.2.2.2.2.1, vk_R.same hv.symm h.2.2.2.2.2.2.2.2.2.1, vk_R.same hv.symm h.2.2.2.2.2.2.2.2.2.2.1, vk_R.same hv.symm h.2.2.2.2.2.2.2.2.2.2.2.1, vk_R.same hv.symm h.2.2.2.2.2.2.2.2.2.2.2.2⟩
theorem xT.warm {sa : Nat → Nat} {s U : State} (hW : s.WarmedH U.vm) (h : xT sa s) : xT sa U := ⟨va_Nw.warmD hW h.1, va_Nw.warmD hW h.2.1, va_Nw.warmD hW h.2.2.1, va_Nw.warmC hW h.2.2.2.1, va_Nw.warmC hW h.2.2.2.2.1, va_Nw.warmC hW h.2.2.2.2.2.1, va_Nw.warmC hW h.2.2.2.2.2.2.1, vk_R.warm hW h.2.2.2.2.2.2.2.1, vk_R.warm hW h.2.2.2.2.2.2.2.2.1, vk_R.warm hW h.2.2.2.2.2.2.2.2.2.1, vk_R.warm hW h.2.2.2.2.2.2.2.2.2.2.1, vk_R.warm hW h.2.2.2.2.2.2.2.2.2.2.2.1, vk_R.warm hW h.2.2.2.2.2.2.2.2.2.2.2.2⟩
theorem xZ.blind {A : Nat → Prop} {u U : State} {H : Heap} (hv : u.vm.Alike U.vm) (h : xZ A u H) : xZ A U H := ⟨vx_Zq.moved hv h.1, vx_Zq.moved hv h.2⟩
theorem xZ.here {A B : Nat → Prop} {s U : State} {H : Heap} {locs : List Loc} (h : xZ A s s.heap) (hS : va_S A s.heap H locs) (hB : ∀ q, B q → A q) (hv : s.vm.Alike U.vm) (hU : U.heap = H) : xZ B U U.heap := by
  rw [hU]
  exact ⟨vx_Zq.moved hv ((h.1.kept hS.2.1).narrow hB), vx_Zq.moved hv ((h.2.kept hS.2.1).narrow hB)⟩
abbrev xL_IllegalArgumentException : List Cond := vx_atS R_X 34 "java/lang/IllegalArgumentException" ["java/lang/RuntimeException", "java/lang/Exception"]
abbrev xL_IllegalStateException : List Cond := vx_atS R_X 45 "java/lang/IllegalStateException" ["java/lang/RuntimeException", "java/lang/Exception"]
abbrev xL_IndexOutOfBoundsException : List Cond := vx_atS R_X 61 "java/lang/IndexOutOfBoundsException" ["java/lang/RuntimeException", "java/lang/Exception"]
abbrev xL_UnsupportedOperationException : List Cond := vx_atS R_X 139 "java/lang/UnsupportedOperationException" ["java/lang/RuntimeException", "java/lang/Exception"]
abbrev wXt : List Cond := [Cond.classLink R_X 30 "java/lang/IllegalArgumentException", Cond.initialized "java/lang/IllegalArgumentException", Cond.classLink R_X 41 "java/lang/IllegalStateException", Cond.initialized "java/lang/IllegalStateException", Cond.classLink R_X 57 "java/lang/IndexOutOfBoundsException", Cond.initialized "java/lang/IndexOutOfBoundsException", Cond.classLink R_X 135 "java/lang/UnsupportedOperationException", Cond.initialized "java/lang/UnsupportedOperationException"] ++ (xL_IllegalArgumentException.filter goodWord ++ (xL_IllegalStateException.filter goodWord ++ (xL_IndexOutOfBoundsException.filter goodWord ++ (xL_UnsupportedOperationException.filter goodWord))))
abbrev wXw : List Cond := wXt ++ wCw
theorem wXt_good : wXt.all goodWord = true := by decide +kernel
theorem wXw_good : wXw.all goodWord = true := by rw [List.all_append, wXt_good, wCw_good]; rfl
theorem kx_c_IllegalArgumentException : Cond.classLink R_X 30 "java/lang/IllegalArgumentException" ∈ wXw := List.mem_append_left _ (List.mem_append_left _ (List.mem_of_getElem? (i := 0) rfl))
theorem kx_i_IllegalArgumentException : Cond.initialized "java/lang/IllegalArgumentException" ∈ wXw := List.mem_append_left _ (List.mem_append_left _ (List.mem_of_getElem? (i := 1) rfl))
theorem kx_a_IllegalArgumentException : ∀ w ∈ xL_IllegalArgumentException.filter goodWord, w ∈ wXw := fun w h => List.mem_append_left _ (List.mem_append_right _ (List.mem_append_left _ h))
set_option maxRecDepth 20000 in
theorem xb_IllegalArgumentException : ∀ w ∈ xL_IllegalArgumentException.filter (fun w => !goodWord w), w ∈ ([.declares (Bundle.initS "java/lang/RuntimeException"), .declares (Bundle.initS "java/lang/Exception"), .declares (Bundle.initS Bundle.tN), .castable "java/lang/IllegalArgumentException" "java/lang/IllegalArgumentException"] : List Cond) := by decide +kernel
set_option maxRecDepth 20000 in
theorem xg_IllegalArgumentException : ∀ w ∈ Cond.classLink R_X 30 "java/lang/IllegalArgumentException" :: Cond.initialized "java/lang/IllegalArgumentException" :: xL_IllegalArgumentException, vx_ot w = true := by decide +kernel
theorem xa_IllegalArgumentException {args : Array Value} {s : State} {sa : Nat → Nat} (hk : ∀ w ∈ wXw, w.before args s = true) (hT : xT sa s) : ∀ w ∈ xL_IllegalArgumentException, w.before args s = true := vx_hat (fun w h => hk w (kx_a_IllegalArgumentException w h)) xb_IllegalArgumentException (vx_c (va_Nw.use rfl hT.1) (vx_c (va_Nw.use rfl hT.2.1) (vx_c (va_Nw.use rfl hT.2.2.1) (vx_c (va_Nw.use rfl hT.2.2.2.1) vx_n))))
theorem kx_c_IllegalStateException : Cond.classLink R_X 41 "java/lang/IllegalStateException" ∈ wXw := List.mem_append_left _ (List.mem_append_left _ (List.mem_of_getElem? (i := 2) rfl))
theorem kx_i_IllegalStateException : Cond.initialized "java/lang/IllegalStateException" ∈ wXw := List.mem_append_left _ (List.mem_append_left _ (List.mem_of_getElem? (i := 3) rfl))
theorem kx_a_IllegalStateException : ∀ w ∈ xL_IllegalStateException.filter goodWord, w ∈ wXw := fun w h => List.mem_append_left _ (List.mem_append_right _ (List.mem_append_right _ (List.mem_append_left _ h)))
set_option maxRecDepth 20000 in
theorem xb_IllegalStateException : ∀ w ∈ xL_IllegalStateException.filter (fun w => !goodWord w), w ∈ ([.declares (Bundle.initS "java/lang/RuntimeException"), .declares (Bundle.initS "java/lang/Exception"), .declares (Bundle.initS Bundle.tN), .castable "java/lang/IllegalStateException" "java/lang/IllegalStateException"] : List Cond) := by decide +kernel
set_option maxRecDepth 20000 in
theorem xg_IllegalStateException : ∀ w ∈ Cond.classLink R_X 41 "java/lang/IllegalStateException" :: Cond.initialized "java/lang/IllegalStateException" :: xL_IllegalStateException, vx_ot w = true := by decide +kernel
theorem xa_IllegalStateException {args : Array Value} {s : State} {sa : Nat → Nat} (hk : ∀ w ∈ wXw, w.before args s = true) (hT : xT sa s) : ∀ w ∈ xL_IllegalStateException, w.before args s = true := vx_hat (fun w h => hk w (kx_a_IllegalStateException w h)) xb_IllegalStateException (vx_c (va_Nw.use rfl hT.1) (vx_c (va_Nw.use rfl hT.2.1) (vx_c (va_Nw.use rfl hT.2.2.1) (vx_c (va_Nw.use rfl hT.2.2.2.2.1) vx_n))))
theorem kx_c_IndexOutOfBoundsException : Cond.classLink R_X 57 "java/lang/IndexOutOfBoundsException" ∈ wXw := List.mem_append_left _ (List.mem_append_left _ (List.mem_of_getElem? (i := 4) rfl))
theorem kx_i_IndexOutOfBoundsException : Cond.initialized "java/lang/IndexOutOfBoundsException" ∈ wXw := List.mem_append_left _ (List.mem_append_left _ (List.mem_of_getElem? (i := 5) rfl))
theorem kx_a_IndexOutOfBoundsException : ∀ w ∈ xL_IndexOutOfBoundsException.filter goodWord, w ∈ wXw := fun w h => List.mem_append_left _ (List.mem_append_right _ (List.mem_append_right _ (List.mem_append_right _ (List.mem_append_left _ h))))
set_option maxRecDepth 20000 in
theorem xb_IndexOutOfBoundsException : ∀ w ∈ xL_IndexOutOfBoundsException.filter (fun w => !goodWord w), w ∈ ([.declares (Bundle.initS "java/lang/RuntimeException"), .declares (Bundle.initS "java/lang/Exception"), .declares (Bundle.initS Bundle.tN), .castable "java/lang/IndexOutOfBoundsException" "java/lang/IndexOutOfBoundsException"] : List Cond) := by decide +kernel
set_option maxRecDepth 20000 in
theorem xg_IndexOutOfBoundsException : ∀ w ∈ Cond.classLink R_X 57 "java/lang/IndexOutOfBoundsException" :: Cond.initialized "java/lang/IndexOutOfBoundsException" :: xL_IndexOutOfBoundsException, vx_ot w = true := by decide +kernel
theorem xa_IndexOutOfBoundsException {args : Array Value} {s : State} {sa : Nat → Nat} (hk : ∀ w ∈ wXw, w.before args s = true) (hT : xT sa s) : ∀ w ∈ xL_IndexOutOfBoundsException, w.before args s = true := vx_hat (fun w h => hk w (kx_a_IndexOutOfBoundsException w h)) xb_IndexOutOfBoundsException (vx_c (va_Nw.use rfl hT.1) (vx_c (va_Nw.use rfl hT.2.1) (vx_c (va_Nw.use rfl hT.2.2.1) (vx_c (va_Nw.use rfl hT.2.2.2.2.2.1) vx_n))))
theorem kx_c_UnsupportedOperationException : Cond.classLink R_X 135 "java/lang/UnsupportedOperationException" ∈ wXw := List.mem_append_left _ (List.mem_append_left _ (List.mem_of_getElem? (i := 6) rfl))
theorem kx_i_UnsupportedOperationException : Cond.initialized "java/lang/UnsupportedOperationException" ∈ wXw := List.mem_append_left _ (List.mem_append_left _ (List.mem_of_getElem? (i := 7) rfl))
theorem kx_a_UnsupportedOperationException : ∀ w ∈ xL_UnsupportedOperationException.filter goodWord, w ∈ wXw := fun w h => List.mem_append_left _ (List.mem_append_right _ (List.mem_append_right _ (List.mem_append_right _ (List.mem_append_right _ h))))
set_option maxRecDepth 20000 in
theorem xb_UnsupportedOperationException : ∀ w ∈ xL_UnsupportedOperationException.filter (fun w => !goodWord w), w ∈ ([.declares (Bundle.initS "java/lang/RuntimeException"), .declares (Bundle.initS "java/lang/Exception"), .declares (Bundle.initS Bundle.tN), .castable "java/lang/UnsupportedOperationException" "java/lang/UnsupportedOperationException"] : List Cond) := by decide +kernel
set_option maxRecDepth 20000 in
theorem xg_UnsupportedOperationException : ∀ w ∈ Cond.classLink R_X 135 "java/lang/UnsupportedOperationException" :: Cond.initialized "java/lang/UnsupportedOperationException" :: xL_UnsupportedOperationException, vx_ot w = true := by decide +kernel
theorem xa_UnsupportedOperationException {args : Array Value} {s : State} {sa : Nat → Nat} (hk : ∀ w ∈ wXw, w.before args s = true) (hT : xT sa s) : ∀ w ∈ xL_UnsupportedOperationException, w.before args s = true := vx_hat (fun w h => hk w (kx_a_UnsupportedOperationException w h)) xb_UnsupportedOperationException (vx_c (va_Nw.use rfl hT.1) (vx_c (va_Nw.use rfl hT.2.1) (vx_c (va_Nw.use rfl hT.2.2.1) (vx_c (va_Nw.use rfl hT.2.2.2.2.2.2.1) vx_n))))
abbrev wx_X_function : List Cond := .code y_X_function c_X_function 2 (some .int) :: wXw
abbrev wx_X_call : List Cond := .code y_X_call c_X_call 4 (some .int) :: wXw
abbrev wx_X_graphs : List Cond := .code y_X_graphs c_X_graphs 3 (some .int) :: wXw
abbrev wx_X_needClosure : List Cond := .code y_X_needClosure c_X_needClosure 1 none :: wXw
abbrev wx_X_graph : List Cond := .code y_X_graph c_X_graph 4 (some .int) :: wXw
abbrev wx_X_falls : List Cond := .code y_X_falls c_X_falls 2 (some .boolean) :: wXw
abbrev wx_X_isSafe : List Cond := .code y_X_isSafe c_X_isSafe 4 (some .boolean) :: wXw
abbrev wx_X_bad : List Cond := .code y_X_bad c_X_bad 4 (some .int) :: wXw
theorem gx_mem {pre : List Cond} (h : ∀ w ∈ pre, w ∈ wXw) {cb : Cond} (h4 : cb ∈ wXw) : GoodIn wXw (pre ++ (cb :: wXw)) := by
  intro w hw
  have hm : w ∈ wXw := by
    rcases List.mem_append.mp hw with q | q
    · exact h w q
    · rcases List.mem_cons.mp q with rfl | q
      · exact h4
      · exact q
  exact ⟨hm, good_of_word (List.all_eq_true.mp wXw_good w hm)⟩
theorem gx_V {own C : String} {idx : Nat} {y : MethodName} {cb : Cond} (h1 : Cond.methodLink own idx y ∈ wXw) (h2 : Cond.instanceMethod y ∈ wXw) (h3 : Cond.selects C y y ∈ wXw) (h5 : Cond.initialized C ∈ wXw) (h4 : cb ∈ wXw) : GoodIn wXw (wsV own idx C y (cb :: wXw)) :=
  gx_mem (fun w h => by
    rcases List.mem_cons.mp h with rfl | h
    · exact h1
    · rcases List.mem_cons.mp h with rfl | h
      · exact h2
      · rcases List.mem_cons.mp h with rfl | h
        · exact h3
        · rcases List.mem_cons.mp h with rfl | h
          · exact h5
          · cases h) h4
theorem kx_C {w : Cond} (h : w ∈ wCw) : w ∈ wXw := List.mem_append_right _ h
theorem gx_X_84 : GoodIn wXw (wsV R_X 84 R_X y_X_needClosure wx_X_needClosure) := gx_V (kx_C k_C_159) (kx_C k_C_160) (kx_C k_C_224) (kx_C k_C_0) (kx_C k_C_161)
theorem xF {A : Nat → Prop} {s t : State} {H : Heap} {locs : List Loc} (hS : va_S A s.heap H locs) (hz : H.size ≤ t.heap.size) (hq : ∀ q : Nat, q < H.size → t.heap[q]? = H[q]?) : va_F A s t := ⟨Nat.le_trans hS.1 hz, fun q h1 h2 => by rw [hq q (Nat.lt_of_lt_of_le h1 hS.1)]; exact hS.2.1 q h1 h2⟩
set_option maxHeartbeats 4000000 in
set_option maxRecDepth 100000 in
theorem c_X_function_x1 (l : Launch) (hst : l.stackTraces = false) (dC : Nat → ClassId) (dI : Nat → Nat → Nat) (cI : ClassId) (h : Nat → Nat) (sz : Nat) (yn yt yg ym : Int32) (aK eB eE eA eL eN eC eS eW eT : Nat → Int32) (nF nC : Nat) (pl cf ct : Nat → Nat) (q : Int32) (sa : Nat → Nat) (hq : ¬ ∃ j, 1 ≤ j ∧ j ≤ 4 ∧ q = nI j) : vx_Met l y_X_function wx_X_function ({ frames := 6, cells := 1, slots := 6, locals := 82 }) (va_Pc [.ref (h 0), .int q] (fun U => U.heap.size = sz ∧ va_P (dC, dI) kls (wC h cI (nI nF) (nI nC) yn yt yg ym (fun c => nI (pl c)) (fun c => nI (cf c)) (fun c => nI (ct c)) aK eB eE eA eL eN eC eS eW eT) U.heap ∧ va_K (dC, dI) kls (tyC cI) U ∧ va_D (fun _ => True) (wC h cI (nI nF) (nI nC) yn yt yg ym (fun c => nI (pl c)) (fun c => nI (cf c)) (fun c => nI (ct c)) aK eB eE eA eL eN eC eS eW eT) ∧ xT sa U ∧ xZ (va_A (wC h cI (nI nF) (nI nC) yn yt yg ym (fun c => nI (pl c)) (fun c => nI (cf c)) (fun c => nI (ct c)) aK eB eE eA eL eN eC eS eW eT) sz) U U.heap)) (va_Qi (fun (_ : Int32) (_ : Unit) => False) (fun _ _ => True) (va_A (wC h cI (nI nF) (nI nC) yn yt yg ym (fun c => nI (pl c)) (fun c => nI (cf c)) (fun c => nI (ct c)) aK eB eE eA eL eN eC eS eW eT) sz)) (vx_X (fun (u : Unit) => True) (fun (E : String) (u : Unit) (t : State) => E = "java/lang/IllegalArgumentException" ∧ va_P (dC, dI) kls (wC h cI (nI nF) (nI nC) yn yt yg ym (fun c => nI (pl c)) (fun c => nI (cf c)) (fun c => nI (ct c)) aK eB eE eA eL eN eC eS eW eT) t.heap ∧ va_K (dC, dI) kls (tyC cI) t ∧ va_D (va_A (wC h cI (nI nF) (nI nC) yn yt yg ym (fun c => nI (pl c)) (fun c => nI (cf c)) (fun c => nI (ct c)) aK eB eE eA eL eN eC eS eW eT) sz) (wC h cI (nI nF) (nI nC) yn yt yg ym (fun c => nI (pl c)) (fun c => nI (cf c)) (fun c => nI (ct c)) aK eB eE eA eL eN eC eS eW eT)) (va_A (wC h cI (nI nF) (nI nC) yn yt yg ym (fun c => nI (pl c)) (fun c => nI (cf c)) (fun c => nI (ct c)) aK eB eE eA eL eN eC eS eW eT) sz)) 1 6 (va_A (wC h cI (nI nF) (nI nC) yn yt yg ym (fun c => nI (pl c)) (fun c => nI (cf c)) (fun c => nI (ct c)) aK eB eE eA eL eN eC eS eW eT) sz) := by
  refine vx_ofW (cc := c_X_function) (maxL := 2) (ret := (some .int)) (by decide) rfl ?_
  intro p e s m args below meth c s₁ B hml htab hv
  obtain ⟨rfl, hsz, hP, hK, hD0, hT, hZ⟩ := hv
  have hx := B.exec
  have hb := B.bytes
  have hr := B.returns
  have hts := atoms_spec (ws := wx_X_function) B.pre
  have hkx : ∀ w ∈ wXw, w.before _ s = true := fun w h => hts w (List.mem_cons_of_mem _ h)
  have hk : ∀ w ∈ wCw, w.before _ s = true := fun w h => hkx w (List.mem_append_right _ h)
  have hown : s.vm.findClass R_X = some m.cls := findClass_of_methodNamed B.named
  have hlocks := B.notSynchronized
  subst hsz
  have hD := hD0.self (sz := s.heap.size)
  generalize hAe : va_A (wC h cI (nI nF) (nI nC) yn yt yg ym (fun c => nI (pl c)) (fun c => nI (cf c)) (fun c => nI (ct c)) aK eB eE eA eL eN eC eS eW eT) s.heap.size = A at hD hZ ⊢
  have hA : ∀ q : Nat, s.heap.size ≤ q → A q := fun q h => by rw [← hAe]; exact Or.inr h
  have hS : va_S A s.heap s.heap [] := va_S.rf
  have hl := lv_entry ([.ref (h 0), .int q]) (n := 2) (Nat.le_of_ble_eq_true rfl)
  rw [lg_entry_eq]
  generalize (lg_sl ([.ref (h 0), .int q]) ++ List.replicate (2 - (lg_sl ([.ref (h 0), .int q])).length) Slot.unset).toArray = ls at hl ⊢
  have hl : lv_has ls 2 [(0, .ref (h 0)), (1, .int q)] := hl
  refine lv_iload_n hx hb d_X_function_0 rfl (lv_at hl 1 rfl) ?_
  refine lv_iconst (v := nI 1) hx hb d_X_function_1 (by decide +kernel) ?_
  refine lv_icmp_lt (tgt := 10) hx hb d_X_function_2 (by decide) (fun c_2 => ?_) (fun c_2 => ?_)
  · exact vx_throwS (own := R_X) (cls := "java/lang/IllegalArgumentException") (text := "places are not 1 .. 4") (names := ["java/lang/RuntimeException", "java/lang/Exception"]) (A := A) hx hb hst hown (by decide +kernel) (by decide +kernel) (hkx _ kx_c_IllegalArgumentException) (hkx _ kx_i_IllegalArgumentException) hT.2.2.2.2.2.2.2.1 (xa_IllegalArgumentException hkx hT) xg_IllegalArgumentException hZ.1 hZ.2 hS (hl.1.trans hml.symm) d_X_function_10 d_X_function_13 d_X_function_14 d_X_function_16 d_X_function_19 (fun x h9 => (htab x h9).elim) (Nat.le_of_ble_eq_true rfl) (Nat.le_of_ble_eq_true rfl) (Nat.le_of_ble_eq_true rfl) (Nat.le_of_ble_eq_true rfl) hlocks (fun t ha hz hq => ⟨(), trivial, ⟨rfl, hP.kept (fun k q h9 => hq _ (vx_lt hP h9)), va_K.moved ha hK, hD⟩, xF hS hz hq⟩) hS.2.2 (Nat.le_of_ble_eq_true rfl) (Nat.le_of_ble_eq_true rfl)
  · refine lv_iload_n hx hb d_X_function_5 rfl (lv_at hl 1 rfl) ?_
    refine lv_iconst (v := nI 4) hx hb d_X_function_6 (by decide +kernel) ?_
    refine lv_icmp_le (tgt := 20) hx hb d_X_function_7 (by decide) (fun c_7 => ?_) (fun c_7 => ?_)
    · exact absurd (in14 c_2 c_7) hq
    · exact vx_throwS (own := R_X) (cls := "java/lang/IllegalArgumentException") (text := "places are not 1 .. 4") (names := ["java/lang/RuntimeException", "java/lang/Exception"]) (A := A) hx hb hst hown (by decide +kernel) (by decide +kernel) (hkx _ kx_c_IllegalArgumentException) (hkx _ kx_i_IllegalArgumentException) hT.2.2.2.2.2.2.2.1 (xa_IllegalArgumentException hkx hT) xg_IllegalArgumentException hZ.1 hZ.2 hS (hl.1.trans hml.symm) d_X_function_10 d_X_function_13 d_X_function_14 d_X_function_16 d_X_function_19 (fun x h9 => (htab x h9).elim) (Nat.le_of_ble_eq_true rfl) (Nat.le_of_ble_eq_true rfl) (Nat.le_of_ble_eq_true rfl) (Nat.le_of_ble_eq_true rfl) hlocks (fun t ha hz hq => ⟨(), trivial, ⟨rfl, hP.kept (fun k q h9 => hq _ (vx_lt hP h9)), va_K.moved ha hK, hD⟩, xF hS hz hq⟩) hS.2.2 (Nat.le_of_ble_eq_true rfl) (Nat.le_of_ble_eq_true rfl)
set_option maxHeartbeats 4000000 in
set_option maxRecDepth 100000 in
theorem c_X_function_x2 (l : Launch) (hst : l.stackTraces = false) (dC : Nat → ClassId) (dI : Nat → Nat → Nat) (cI : ClassId) (h : Nat → Nat) (sz : Nat) (yn yt yg ym : Int32) (aK eB eE eA eL eN eC eS eW eT : Nat → Int32) (nF nC : Nat) (pl cf ct : Nat → Nat) (q : Nat) (sa : Nat → Nat) (hF : nF = 10) (hq1 : 1 ≤ q) (hq4 : q ≤ 4) : vx_Met l y_X_function wx_X_function ({ frames := 6, cells := 1, slots := 6, locals := 82 }) (va_Pc [.ref (h 0), .int (nI q)] (fun U => U.heap.size = sz ∧ va_P (dC, dI) kls (wC h cI (nI nF) (nI nC) yn yt yg ym (fun c => nI (pl c)) (fun c => nI (cf c)) (fun c => nI (ct c)) aK eB eE eA eL eN eC eS eW eT) U.heap ∧ va_K (dC, dI) kls (tyC cI) U ∧ va_D (fun _ => True) (wC h cI (nI nF) (nI nC) yn yt yg ym (fun c => nI (pl c)) (fun c => nI (cf c)) (fun c => nI (ct c)) aK eB eE eA eL eN eC eS eW eT) ∧ xT sa U ∧ xZ (va_A (wC h cI (nI nF) (nI nC) yn yt yg ym (fun c => nI (pl c)) (fun c => nI (cf c)) (fun c => nI (ct c)) aK eB eE eA eL eN eC eS eW eT) sz) U U.heap)) (va_Qi (fun (_ : Int32) (_ : Unit) => False) (fun _ _ => True) (va_A (wC h cI (nI nF) (nI nC) yn yt yg ym (fun c => nI (pl c)) (fun c => nI (cf c)) (fun c => nI (ct c)) aK eB eE eA eL eN eC eS eW eT) sz)) (vx_X (fun (u : Unit) => True) (fun (E : String) (u : Unit) (t : State) => E = "java/lang/IllegalStateException" ∧ va_P (dC, dI) kls (wC h cI (nI nF) (nI nC) yn yt yg ym (fun c => nI (pl c)) (fun c => nI (cf c)) (fun c => nI (ct c)) aK eB eE eA eL eN eC eS eW eT) t.heap ∧ va_K (dC, dI) kls (tyC cI) t ∧ va_D (va_A (wC h cI (nI nF) (nI nC) yn yt yg ym (fun c => nI (pl c)) (fun c => nI (cf c)) (fun c => nI (ct c)) aK eB eE eA eL eN eC eS eW eT) sz) (wC h cI (nI nF) (nI nC) yn yt yg ym (fun c => nI (pl c)) (fun c => nI (cf c)) (fun c => nI (ct c)) aK eB eE eA eL eN eC eS eW eT)) (va_A (wC h cI (nI nF) (nI nC) yn yt yg ym (fun c => nI (pl c)) (fun c => nI (cf c)) (fun c => nI (ct c)) aK eB eE eA eL eN eC eS eW eT) sz)) 1 6 (va_A (wC h cI (nI nF) (nI nC) yn yt yg ym (fun c => nI (pl c)) (fun c => nI (cf c)) (fun c => nI (ct c)) aK eB eE eA eL eN eC eS eW eT) sz) := by
  refine vx_ofW (cc := c_X_function) (maxL := 2) (ret := (some .int)) (by decide) rfl ?_
  intro p e s m args below meth c s₁ B hml htab hv
  obtain ⟨rfl, hsz, hP, hK, hD0, hT, hZ⟩ := hv
  have hx := B.exec
  have hb := B.bytes
  have hr := B.returns
  have hts := atoms_spec (ws := wx_X_function) B.pre
  have hkx : ∀ w ∈ wXw, w.before _ s = true := fun w h => hts w (List.mem_cons_of_mem _ h)
  have hk : ∀ w ∈ wCw, w.before _ s = true := fun w h => hkx w (List.mem_append_right _ h)
  have hown : s.vm.findClass R_X = some m.cls := findClass_of_methodNamed B.named
  have hlocks := B.notSynchronized
  subst hsz
  have hD := hD0.self (sz := s.heap.size)
  generalize hAe : va_A (wC h cI (nI nF) (nI nC) yn yt yg ym (fun c => nI (pl c)) (fun c => nI (cf c)) (fun c => nI (ct c)) aK eB eE eA eL eN eC eS eW eT) s.heap.size = A at hD hZ ⊢
  have hA : ∀ q : Nat, s.heap.size ≤ q → A q := fun q h => by rw [← hAe]; exact Or.inr h
  have hS : va_S A s.heap s.heap [] := va_S.rf
  have hl := lv_entry ([.ref (h 0), .int (nI q)]) (n := 2) (Nat.le_of_ble_eq_true rfl)
  rw [lg_entry_eq]
  generalize (lg_sl ([.ref (h 0), .int (nI q)]) ++ List.replicate (2 - (lg_sl ([.ref (h 0), .int (nI q)])).length) Slot.unset).toArray = ls at hl ⊢
  have hl : lv_has ls 2 [(0, .ref (h 0)), (1, .int (nI q))] := hl
  refine lv_iload_n hx hb d_X_function_0 rfl (lv_at hl 1 rfl) ?_
  refine lv_iconst (v := nI 1) hx hb d_X_function_1 (by decide +kernel) ?_
  refine lv_icmp_lt (tgt := 10) hx hb d_X_function_2 (by decide) (fun c_2 => ?_) (fun c_2 => ?_)
  · have c_2 : q < 1 := (nI_ltI (a := q) (b := 1) (by omega) (by omega)).mp c_2
    exfalso; omega
  · have c_2 : ¬ q < 1 := fun z9 => c_2 ((nI_ltI (a := q) (b := 1) (by omega) (by omega)).mpr z9)
    refine lv_iload_n hx hb d_X_function_5 rfl (lv_at hl 1 rfl) ?_
    refine lv_iconst (v := nI 4) hx hb d_X_function_6 (by decide +kernel) ?_
    refine lv_icmp_le (tgt := 20) hx hb d_X_function_7 (by decide) (fun c_7 => ?_) (fun c_7 => ?_)
    · have c_7 : q ≤ 4 := (nI_leI (a := q) (b := 4) (by omega) (by omega)).mp c_7
      refine lv_aload_n hx hb d_X_function_20 rfl (lv_at hl 0 rfl) ?_
      refine va_get (D := (dC, dI)) (ci := 4) (v := .ref (h 1)) (C := R_X) (T := F_X) (N := 3) hx hb hk k_f_X hown hK hP 0 rfl rfl 0 (by decide) (hk _ k_C_67) (fun _ h9 => h9) rfl d_X_function_21 ?_
      refine va_get (D := (dC, dI)) (ci := 1) (v := .int (nI nF)) (C := R_P) (T := F_P) (N := 6) hx hb hk k_f_P hown hK hP 1 rfl rfl 4 (by decide) (hk _ k_C_33) (fun _ h9 => h9) rfl d_X_function_24 ?_
      refine lv_bipush (v := nI 10) hx hb d_X_function_27 (by decide +kernel) ?_
      refine lv_icmp_lt (tgt := 42) hx hb d_X_function_29 (by decide) (fun c_29 => ?_) (fun c_29 => ?_)
      · have c_29 : nF < 10 := (nI_ltI (a := nF) (b := 10) (by omega) (by omega)).mp c_29
        exfalso; omega
      · have c_29 : ¬ nF < 10 := fun z9 => c_29 ((nI_ltI (a := nF) (b := 10) (by omega) (by omega)).mpr z9)
        exact vx_throwS (own := R_X) (cls := "java/lang/IllegalStateException") (text := "there are 10 functions") (names := ["java/lang/RuntimeException", "java/lang/Exception"]) (A := A) hx hb hst hown (by decide +kernel) (by decide +kernel) (hkx _ kx_c_IllegalStateException) (hkx _ kx_i_IllegalStateException) hT.2.2.2.2.2.2.2.2.1 (xa_IllegalStateException hkx hT) xg_IllegalStateException hZ.1 hZ.2 hS (hl.1.trans hml.symm) d_X_function_32 d_X_function_35 d_X_function_36 d_X_function_38 d_X_function_41 (fun x h9 => (htab x h9).elim) (Nat.le_of_ble_eq_true rfl) (Nat.le_of_ble_eq_true rfl) (Nat.le_of_ble_eq_true rfl) (Nat.le_of_ble_eq_true rfl) hlocks (fun t ha hz hq => ⟨(), trivial, ⟨rfl, hP.kept (fun k q h9 => hq _ (vx_lt hP h9)), va_K.moved ha hK, hD⟩, xF hS hz hq⟩) hS.2.2 (Nat.le_of_ble_eq_true rfl) (Nat.le_of_ble_eq_true rfl)
    · have c_7 : ¬ q ≤ 4 := fun z9 => c_7 ((nI_leI (a := q) (b := 4) (by omega) (by omega)).mpr z9)
      exfalso; omega
set_option maxHeartbeats 4000000 in
set_option maxRecDepth 100000 in
theorem c_X_call_x1 (l : Launch) (hst : l.stackTraces = false) (dC : Nat → ClassId) (dI : Nat → Nat → Nat) (cI : ClassId) (h : Nat → Nat) (sz : Nat) (yn yt yg ym : Int32) (aK eB eE eA eL eN eC eS eW eT : Nat → Int32) (nF nC : Nat) (pl cf ct : Nat → Nat) (f g q : Int32) (sa : Nat → Nat) (hF : nF ≤ 10) (hno : ¬ ((∃ i, i < nF ∧ f = nI i) ∧ (∃ j, j < nF ∧ g = nI j))) : vx_Met l y_X_call wx_X_call ({ frames := 6, cells := 1, slots := 6, locals := 82 }) (va_Pc [.ref (h 0), .int f, .int g, .int q] (fun U => U.heap.size = sz ∧ va_P (dC, dI) kls (wC h cI (nI nF) (nI nC) yn yt yg ym (fun c => nI (pl c)) (fun c => nI (cf c)) (fun c => nI (ct c)) aK eB eE eA eL eN eC eS eW eT) U.heap ∧ va_K (dC, dI) kls (tyC cI) U ∧ va_D (fun _ => True) (wC h cI (nI nF) (nI nC) yn yt yg ym (fun c => nI (pl c)) (fun c => nI (cf c)) (fun c => nI (ct c)) aK eB eE eA eL eN eC eS eW eT) ∧ xT sa U ∧ xZ (va_A (wC h cI (nI nF) (nI nC) yn yt yg ym (fun c => nI (pl c)) (fun c => nI (cf c)) (fun c => nI (ct c)) aK eB eE eA eL eN eC eS eW eT) sz) U U.heap)) (va_Qi (fun (_ : Int32) (_ : Unit) => False) (fun _ _ => True) (va_A (wC h cI (nI nF) (nI nC) yn yt yg ym (fun c => nI (pl c)) (fun c => nI (cf c)) (fun c => nI (ct c)) aK eB eE eA eL eN eC eS eW eT) sz)) (vx_X (fun (u : Unit) => True) (fun (E : String) (u : Unit) (t : State) => E = "java/lang/IndexOutOfBoundsException" ∧ va_P (dC, dI) kls (wC h cI (nI nF) (nI nC) yn yt yg ym (fun c => nI (pl c)) (fun c => nI (cf c)) (fun c => nI (ct c)) aK eB eE eA eL eN eC eS eW eT) t.heap ∧ va_K (dC, dI) kls (tyC cI) t ∧ va_D (va_A (wC h cI (nI nF) (nI nC) yn yt yg ym (fun c => nI (pl c)) (fun c => nI (cf c)) (fun c => nI (ct c)) aK eB eE eA eL eN eC eS eW eT) sz) (wC h cI (nI nF) (nI nC) yn yt yg ym (fun c => nI (pl c)) (fun c => nI (cf c)) (fun c => nI (ct c)) aK eB eE eA eL eN eC eS eW eT)) (va_A (wC h cI (nI nF) (nI nC) yn yt yg ym (fun c => nI (pl c)) (fun c => nI (cf c)) (fun c => nI (ct c)) aK eB eE eA eL eN eC eS eW eT) sz)) 1 6 (va_A (wC h cI (nI nF) (nI nC) yn yt yg ym (fun c => nI (pl c)) (fun c => nI (cf c)) (fun c => nI (ct c)) aK eB eE eA eL eN eC eS eW eT) sz) := by
  refine vx_ofW (cc := c_X_call) (maxL := 4) (ret := (some .int)) (by decide) rfl ?_
  intro p e s m args below meth c s₁ B hml htab hv
  obtain ⟨rfl, hsz, hP, hK, hD0, hT, hZ⟩ := hv
  have hx := B.exec
  have hb := B.bytes
  have hr := B.returns
  have hts := atoms_spec (ws := wx_X_call) B.pre
  have hkx : ∀ w ∈ wXw, w.before _ s = true := fun w h => hts w (List.mem_cons_of_mem _ h)
  have hk : ∀ w ∈ wCw, w.before _ s = true := fun w h => hkx w (List.mem_append_right _ h)
  have hown : s.vm.findClass R_X = some m.cls := findClass_of_methodNamed B.named
  have hlocks := B.notSynchronized
  subst hsz
  have hD := hD0.self (sz := s.heap.size)
  generalize hAe : va_A (wC h cI (nI nF) (nI nC) yn yt yg ym (fun c => nI (pl c)) (fun c => nI (cf c)) (fun c => nI (ct c)) aK eB eE eA eL eN eC eS eW eT) s.heap.size = A at hD hZ ⊢
  have hA : ∀ q : Nat, s.heap.size ≤ q → A q := fun q h => by rw [← hAe]; exact Or.inr h
  have hS : va_S A s.heap s.heap [] := va_S.rf
  have hl := lv_entry ([.ref (h 0), .int f, .int g, .int q]) (n := 4) (Nat.le_of_ble_eq_true rfl)
  rw [lg_entry_eq]
  generalize (lg_sl ([.ref (h 0), .int f, .int g, .int q]) ++ List.replicate (4 - (lg_sl ([.ref (h 0), .int f, .int g, .int q])).length) Slot.unset).toArray = ls at hl ⊢
  have hl : lv_has ls 4 [(0, .ref (h 0)), (1, .int f), (2, .int g), (3, .int q)] := hl
  refine lv_aload_n hx hb d_X_call_0 rfl (lv_at hl 0 rfl) ?_
  refine va_get (D := (dC, dI)) (ci := 4) (v := .ref (h 1)) (C := R_X) (T := F_X) (N := 3) hx hb hk k_f_X hown hK hP 0 rfl rfl 0 (by decide) (hk _ k_C_67) (fun _ h9 => h9) rfl d_X_call_1 ?_
  refine lv_iload_n hx hb d_X_call_4 rfl (lv_at hl 1 rfl) ?_
  have hFc := va_free (wc := wC h cI (nI nF) (nI nC) yn yt yg ym (fun c => nI (pl c)) (fun c => nI (cf c)) (fun c => nI (ct c)) aK eB eE eA eL eN eC eS eW eT) hD hS hA [0, 1, 2, 3, 4, 5, 6, 7, 8, 9, 10, 11, 12, 13, 14, 15, 16] rfl
  refine va_calli (va_runV (As := [.int f]) (rest := []) ⟨hx, hb, hml, hown, hk⟩ (c_P_hasFunction_ok l dC dI cI h s.heap.size yn yt yg ym aK eB eE eA eL eN eC eS eW eT nF nC pl cf ct f (by omega)) (cwV 1 hk g_X_53 rfl rfl rfl (by decide +kernel) ⟨Nat.le_of_ble_eq_true rfl, Nat.le_of_ble_eq_true rfl⟩) ⟨fun a U g mk q => by obtain ⟨q0, q1, qP, qK, qD⟩ := q; exact ⟨q0, q1, qP, va_K.moved (u := U) (U := U.calling g mk a) (Vm.Alike.refl U.vm) qK, qD⟩, va_recv hK hP (ci := 1) (q0 := 1) rfl rfl, fun U hU hW => ⟨rfl, by rw [hU], by rw [hU]; exact hP, va_K.moved hW.alike hK, hD.weaken (fun _ _ _ _ => trivial)⟩⟩ rfl rfl hl.1 rfl (lv_room (Nat.le_of_ble_eq_true rfl)) d_X_call_5 ⟨Nat.le_of_ble_eq_true rfl, Nat.le_of_ble_eq_true rfl⟩) hS (fun q _ h => hFc q h) hFc (fun r1 u9 t H1 locs ht hvm hw hB hz1 hk1 hS => ?_)
  obtain ⟨hP1, hK1, hD1⟩ := hB
  rw [ht] at hP1
  try dsimp only at hw
  obtain ⟨hP, hD⟩ := va_join (wr := []) (w1 := wC h cI (nI nF) (nI nC) yn yt yg ym (fun c => nI (pl c)) (fun c => nI (cf c)) (fun c => nI (ct c)) aK eB eE eA eL eN eC eS eW eT) hP hD [0, 1, 2, 3, 4, 5, 6, 7, 8, 9, 10, 11, 12, 13, 14, 15, 16] [] rfl rfl (by decide) (by decide) hk1 hFc hP1 hD1
  generalize H1 = H at hP hS ⊢
  have hP : va_P (dC, dI) kls (wC h cI (nI nF) (nI nC) yn yt yg ym (fun c => nI (pl c)) (fun c => nI (cf c)) (fun c => nI (ct c)) aK eB eE eA eL eN eC eS eW eT) H := hP
  have hD : va_D A (wC h cI (nI nF) (nI nC) yn yt yg ym (fun c => nI (pl c)) (fun c => nI (cf c)) (fun c => nI (ct c)) aK eB eE eA eL eN eC eS eW eT) := hD
  rcases hw with ⟨hr9, i1, hi1, hfj⟩ | ⟨hr9, hno_f⟩
  · subst hr9
    subst hfj
    refine lv_if_eq (tgt := 22) hx hb d_X_call_8 (by decide) (fun c9 => absurd c9 (by decide +kernel)) (fun _ => ?_)
    refine lv_aload_n hx hb d_X_call_11 rfl (lv_at hl 0 rfl) ?_
    refine va_get (D := (dC, dI)) (ci := 4) (v := .ref (h 1)) (C := R_X) (T := F_X) (N := 3) hx hb hk k_f_X hown hK hP 0 rfl rfl 0 (by decide) (hk _ k_C_67) (fun _ h9 => h9) rfl d_X_call_12 ?_
    refine lv_iload_n hx hb d_X_call_15 rfl (lv_at hl 2 rfl) ?_
    have hFc := va_free (wc := wC h cI (nI nF) (nI nC) yn yt yg ym (fun c => nI (pl c)) (fun c => nI (cf c)) (fun c => nI (ct c)) aK eB eE eA eL eN eC eS eW eT) hD hS hA [0, 1, 2, 3, 4, 5, 6, 7, 8, 9, 10, 11, 12, 13, 14, 15, 16] rfl
    refine va_calli (va_runV (As := [.int g]) (rest := []) ⟨hx, hb, hml, hown, hk⟩ (c_P_hasFunction_ok l dC dI cI h H.size yn yt yg ym aK eB eE eA eL eN eC eS eW eT nF nC pl cf ct g (by omega)) (cwV 1 hk g_X_53 rfl rfl rfl (by decide +kernel) ⟨Nat.le_of_ble_eq_true rfl, Nat.le_of_ble_eq_true rfl⟩) ⟨fun a U g mk q => by obtain ⟨q0, q1, qP, qK, qD⟩ := q; exact ⟨q0, q1, qP, va_K.moved (u := U) (U := U.calling g mk a) (Vm.Alike.refl U.vm) qK, qD⟩, va_recv hK hP (ci := 1) (q0 := 1) rfl rfl, fun U hU hW => ⟨rfl, by rw [hU], by rw [hU]; exact hP, va_K.moved hW.alike hK, hD.weaken (fun _ _ _ _ => trivial)⟩⟩ rfl rfl hl.1 rfl (lv_room (Nat.le_of_ble_eq_true rfl)) d_X_call_16 ⟨Nat.le_of_ble_eq_true rfl, Nat.le_of_ble_eq_true rfl⟩) hS (fun q _ h => hFc q h) hFc (fun r2 u9 t H1 locs ht hvm hw hB hz1 hk1 hS => ?_)
    obtain ⟨hP1, hK1, hD1⟩ := hB
    rw [ht] at hP1
    try dsimp only at hw
    obtain ⟨hP, hD⟩ := va_join (wr := []) (w1 := wC h cI (nI nF) (nI nC) yn yt yg ym (fun c => nI (pl c)) (fun c => nI (cf c)) (fun c => nI (ct c)) aK eB eE eA eL eN eC eS eW eT) hP hD [0, 1, 2, 3, 4, 5, 6, 7, 8, 9, 10, 11, 12, 13, 14, 15, 16] [] rfl rfl (by decide) (by decide) hk1 hFc hP1 hD1
    generalize H1 = H at hP hS ⊢
    have hP : va_P (dC, dI) kls (wC h cI (nI nF) (nI nC) yn yt yg ym (fun c => nI (pl c)) (fun c => nI (cf c)) (fun c => nI (ct c)) aK eB eE eA eL eN eC eS eW eT) H := hP
    have hD : va_D A (wC h cI (nI nF) (nI nC) yn yt yg ym (fun c => nI (pl c)) (fun c => nI (cf c)) (fun c => nI (ct c)) aK eB eE eA eL eN eC eS eW eT) := hD
    rcases hw with ⟨hr9, j1, hj1, hfj⟩ | ⟨hr9, hno_g⟩
    · subst hr9
      subst hfj
      refine lv_if_ne (tgt := 32) hx hb d_X_call_19 (by decide) (fun _ => ?_) (fun c9 => absurd c9 (by decide +kernel))
      exact absurd ⟨⟨i1, hi1, rfl⟩, ⟨j1, hj1, rfl⟩⟩ hno
    · subst hr9
      refine lv_if_ne (tgt := 32) hx hb d_X_call_19 (by decide) (fun c9 => absurd c9 (by decide +kernel)) (fun _ => ?_)
      exact vx_throwS (own := R_X) (cls := "java/lang/IndexOutOfBoundsException") (text := "no such function") (names := ["java/lang/RuntimeException", "java/lang/Exception"]) (A := A) hx hb hst hown (by decide +kernel) (by decide +kernel) (hkx _ kx_c_IndexOutOfBoundsException) (hkx _ kx_i_IndexOutOfBoundsException) hT.2.2.2.2.2.2.2.2.2.1 (xa_IndexOutOfBoundsException hkx hT) xg_IndexOutOfBoundsException hZ.1 hZ.2 hS (hl.1.trans hml.symm) d_X_call_22 d_X_call_25 d_X_call_26 d_X_call_28 d_X_call_31 (fun x h9 => (htab x h9).elim) (Nat.le_of_ble_eq_true rfl) (Nat.le_of_ble_eq_true rfl) (Nat.le_of_ble_eq_true rfl) (Nat.le_of_ble_eq_true rfl) hlocks (fun t ha hz hq => ⟨(), trivial, ⟨rfl, hP.kept (fun k q h9 => hq _ (vx_lt hP h9)), va_K.moved ha hK, hD⟩, xF hS hz hq⟩) hS.2.2 (Nat.le_of_ble_eq_true rfl) (Nat.le_of_ble_eq_true rfl)
  · subst hr9
    refine lv_if_eq (tgt := 22) hx hb d_X_call_8 (by decide) (fun _ => ?_) (fun c9 => absurd c9 (by decide +kernel))
    exact vx_throwS (own := R_X) (cls := "java/lang/IndexOutOfBoundsException") (text := "no such function") (names := ["java/lang/RuntimeException", "java/lang/Exception"]) (A := A) hx hb hst hown (by decide +kernel) (by decide +kernel) (hkx _ kx_c_IndexOutOfBoundsException) (hkx _ kx_i_IndexOutOfBoundsException) hT.2.2.2.2.2.2.2.2.2.1 (xa_IndexOutOfBoundsException hkx hT) xg_IndexOutOfBoundsException hZ.1 hZ.2 hS (hl.1.trans hml.symm) d_X_call_22 d_X_call_25 d_X_call_26 d_X_call_28 d_X_call_31 (fun x h9 => (htab x h9).elim) (Nat.le_of_ble_eq_true rfl) (Nat.le_of_ble_eq_true rfl) (Nat.le_of_ble_eq_true rfl) (Nat.le_of_ble_eq_true rfl) hlocks (fun t ha hz hq => ⟨(), trivial, ⟨rfl, hP.kept (fun k q h9 => hq _ (vx_lt hP h9)), va_K.moved ha hK, hD⟩, xF hS hz hq⟩) hS.2.2 (Nat.le_of_ble_eq_true rfl) (Nat.le_of_ble_eq_true rfl)
set_option maxHeartbeats 4000000 in
set_option maxRecDepth 100000 in
theorem c_X_call_x2 (l : Launch) (hst : l.stackTraces = false) (dC : Nat → ClassId) (dI : Nat → Nat → Nat) (cI : ClassId) (h : Nat → Nat) (sz : Nat) (yn yt yg ym : Int32) (aK eB eE eA eL eN eC eS eW eT : Nat → Int32) (nF nC : Nat) (pl cf ct : Nat → Nat) (i1 j1 : Nat) (q : Int32) (sa : Nat → Nat) (hF : nF ≤ 10) (hC : nC = 20) (hi1 : i1 < nF) (hj1 : j1 < nF) : vx_Met l y_X_call wx_X_call ({ frames := 6, cells := 1, slots := 6, locals := 82 }) (va_Pc [.ref (h 0), .int (nI i1), .int (nI j1), .int q] (fun U => U.heap.size = sz ∧ va_P (dC, dI) kls (wC h cI (nI nF) (nI nC) yn yt yg ym (fun c => nI (pl c)) (fun c => nI (cf c)) (fun c => nI (ct c)) aK eB eE eA eL eN eC eS eW eT) U.heap ∧ va_K (dC, dI) kls (tyC cI) U ∧ va_D (fun _ => True) (wC h cI (nI nF) (nI nC) yn yt yg ym (fun c => nI (pl c)) (fun c => nI (cf c)) (fun c => nI (ct c)) aK eB eE eA eL eN eC eS eW eT) ∧ xT sa U ∧ xZ (va_A (wC h cI (nI nF) (nI nC) yn yt yg ym (fun c => nI (pl c)) (fun c => nI (cf c)) (fun c => nI (ct c)) aK eB eE eA eL eN eC eS eW eT) sz) U U.heap)) (va_Qi (fun (_ : Int32) (_ : Unit) => False) (fun _ _ => True) (va_A (wC h cI (nI nF) (nI nC) yn yt yg ym (fun c => nI (pl c)) (fun c => nI (cf c)) (fun c => nI (ct c)) aK eB eE eA eL eN eC eS eW eT) sz)) (vx_X (fun (u : Unit) => True) (fun (E : String) (u : Unit) (t : State) => E = "java/lang/IllegalStateException" ∧ va_P (dC, dI) kls (wC h cI (nI nF) (nI nC) yn yt yg ym (fun c => nI (pl c)) (fun c => nI (cf c)) (fun c => nI (ct c)) aK eB eE eA eL eN eC eS eW eT) t.heap ∧ va_K (dC, dI) kls (tyC cI) t ∧ va_D (va_A (wC h cI (nI nF) (nI nC) yn yt yg ym (fun c => nI (pl c)) (fun c => nI (cf c)) (fun c => nI (ct c)) aK eB eE eA eL eN eC eS eW eT) sz) (wC h cI (nI nF) (nI nC) yn yt yg ym (fun c => nI (pl c)) (fun c => nI (cf c)) (fun c => nI (ct c)) aK eB eE eA eL eN eC eS eW eT)) (va_A (wC h cI (nI nF) (nI nC) yn yt yg ym (fun c => nI (pl c)) (fun c => nI (cf c)) (fun c => nI (ct c)) aK eB eE eA eL eN eC eS eW eT) sz)) 1 6 (va_A (wC h cI (nI nF) (nI nC) yn yt yg ym (fun c => nI (pl c)) (fun c => nI (cf c)) (fun c => nI (ct c)) aK eB eE eA eL eN eC eS eW eT) sz) := by
  refine vx_ofW (cc := c_X_call) (maxL := 4) (ret := (some .int)) (by decide) rfl ?_
  intro p e s m args below meth c s₁ B hml htab hv
  obtain ⟨rfl, hsz, hP, hK, hD0, hT, hZ⟩ := hv
  have hx := B.exec
  have hb := B.bytes
  have hr := B.returns
  have hts := atoms_spec (ws := wx_X_call) B.pre
  have hkx : ∀ w ∈ wXw, w.before _ s = true := fun w h => hts w (List.mem_cons_of_mem _ h)
  have hk : ∀ w ∈ wCw, w.before _ s = true := fun w h => hkx w (List.mem_append_right _ h)
  have hown : s.vm.findClass R_X = some m.cls := findClass_of_methodNamed B.named
  have hlocks := B.notSynchronized
  subst hsz
  have hD := hD0.self (sz := s.heap.size)
  generalize hAe : va_A (wC h cI (nI nF) (nI nC) yn yt yg ym (fun c => nI (pl c)) (fun c => nI (cf c)) (fun c => nI (ct c)) aK eB eE eA eL eN eC eS eW eT) s.heap.size = A at hD hZ ⊢
  have hA : ∀ q : Nat, s.heap.size ≤ q → A q := fun q h => by rw [← hAe]; exact Or.inr h
  have hS : va_S A s.heap s.heap [] := va_S.rf
  have hl := lv_entry ([.ref (h 0), .int (nI i1), .int (nI j1), .int q]) (n := 4) (Nat.le_of_ble_eq_true rfl)
  rw [lg_entry_eq]
  generalize (lg_sl ([.ref (h 0), .int (nI i1), .int (nI j1), .int q]) ++ List.replicate (4 - (lg_sl ([.ref (h 0), .int (nI i1), .int (nI j1), .int q])).length) Slot.unset).toArray = ls at hl ⊢
  have hl : lv_has ls 4 [(0, .ref (h 0)), (1, .int (nI i1)), (2, .int (nI j1)), (3, .int q)] := hl
  refine lv_aload_n hx hb d_X_call_0 rfl (lv_at hl 0 rfl) ?_
  refine va_get (D := (dC, dI)) (ci := 4) (v := .ref (h 1)) (C := R_X) (T := F_X) (N := 3) hx hb hk k_f_X hown hK hP 0 rfl rfl 0 (by decide) (hk _ k_C_67) (fun _ h9 => h9) rfl d_X_call_1 ?_
  refine lv_iload_n hx hb d_X_call_4 rfl (lv_at hl 1 rfl) ?_
  have hFc := va_free (wc := wC h cI (nI nF) (nI nC) yn yt yg ym (fun c => nI (pl c)) (fun c => nI (cf c)) (fun c => nI (ct c)) aK eB eE eA eL eN eC eS eW eT) hD hS hA [0, 1, 2, 3, 4, 5, 6, 7, 8, 9, 10, 11, 12, 13, 14, 15, 16] rfl
  refine va_calli (va_runV (As := [.int (nI i1)]) (rest := []) ⟨hx, hb, hml, hown, hk⟩ (c_P_hasFunction_ok l dC dI cI h s.heap.size yn yt yg ym aK eB eE eA eL eN eC eS eW eT nF nC pl cf ct (nI i1) (by omega)) (cwV 1 hk g_X_53 rfl rfl rfl (by decide +kernel) ⟨Nat.le_of_ble_eq_true rfl, Nat.le_of_ble_eq_true rfl⟩) ⟨fun a U g mk q => by obtain ⟨q0, q1, qP, qK, qD⟩ := q; exact ⟨q0, q1, qP, va_K.moved (u := U) (U := U.calling g mk a) (Vm.Alike.refl U.vm) qK, qD⟩, va_recv hK hP (ci := 1) (q0 := 1) rfl rfl, fun U hU hW => ⟨rfl, by rw [hU], by rw [hU]; exact hP, va_K.moved hW.alike hK, hD.weaken (fun _ _ _ _ => trivial)⟩⟩ rfl rfl hl.1 rfl (lv_room (Nat.le_of_ble_eq_true rfl)) d_X_call_5 ⟨Nat.le_of_ble_eq_true rfl, Nat.le_of_ble_eq_true rfl⟩) hS (fun q _ h => hFc q h) hFc (fun r1 u9 t H1 locs ht hvm hw hB hz1 hk1 hS => ?_)
  obtain ⟨hP1, hK1, hD1⟩ := hB
  rw [ht] at hP1
  try dsimp only at hw
  obtain ⟨hP, hD⟩ := va_join (wr := []) (w1 := wC h cI (nI nF) (nI nC) yn yt yg ym (fun c => nI (pl c)) (fun c => nI (cf c)) (fun c => nI (ct c)) aK eB eE eA eL eN eC eS eW eT) hP hD [0, 1, 2, 3, 4, 5, 6, 7, 8, 9, 10, 11, 12, 13, 14, 15, 16] [] rfl rfl (by decide) (by decide) hk1 hFc hP1 hD1
  generalize H1 = H at hP hS ⊢
  have hP : va_P (dC, dI) kls (wC h cI (nI nF) (nI nC) yn yt yg ym (fun c => nI (pl c)) (fun c => nI (cf c)) (fun c => nI (ct c)) aK eB eE eA eL eN eC eS eW eT) H := hP
  have hD : va_D A (wC h cI (nI nF) (nI nC) yn yt yg ym (fun c => nI (pl c)) (fun c => nI (cf c)) (fun c => nI (ct c)) aK eB eE eA eL eN eC eS eW eT) := hD
  rcases hw with ⟨hr9, -⟩ | ⟨hr9, hno9⟩
  · subst hr9
    refine lv_if_eq (tgt := 22) hx hb d_X_call_8 (by decide) (fun c9 => absurd c9 (by decide +kernel)) (fun _ => ?_)
    refine lv_aload_n hx hb d_X_call_11 rfl (lv_at hl 0 rfl) ?_
    refine va_get (D := (dC, dI)) (ci := 4) (v := .ref (h 1)) (C := R_X) (T := F_X) (N := 3) hx hb hk k_f_X hown hK hP 0 rfl rfl 0 (by decide) (hk _ k_C_67) (fun _ h9 => h9) rfl d_X_call_12 ?_
    refine lv_iload_n hx hb d_X_call_15 rfl (lv_at hl 2 rfl) ?_
    have hFc := va_free (wc := wC h cI (nI nF) (nI nC) yn yt yg ym (fun c => nI (pl c)) (fun c => nI (cf c)) (fun c => nI (ct c)) aK eB eE eA eL eN eC eS eW eT) hD hS hA [0, 1, 2, 3, 4, 5, 6, 7, 8, 9, 10, 11, 12, 13, 14, 15, 16] rfl
    refine va_calli (va_runV (As := [.int (nI j1)]) (rest := []) ⟨hx, hb, hml, hown, hk⟩ (c_P_hasFunction_ok l dC dI cI h H.size yn yt yg ym aK eB eE eA eL eN eC eS eW eT nF nC pl cf ct (nI j1) (by omega)) (cwV 1 hk g_X_53 rfl rfl rfl (by decide +kernel) ⟨Nat.le_of_ble_eq_true rfl, Nat.le_of_ble_eq_true rfl⟩) ⟨fun a U g mk q => by obtain ⟨q0, q1, qP, qK, qD⟩ := q; exact ⟨q0, q1, qP, va_K.moved (u := U) (U := U.calling g mk a) (Vm.Alike.refl U.vm) qK, qD⟩, va_recv hK hP (ci := 1) (q0 := 1) rfl rfl, fun U hU hW => ⟨rfl, by rw [hU], by rw [hU]; exact hP, va_K.moved hW.alike hK, hD.weaken (fun _ _ _ _ => trivial)⟩⟩ rfl rfl hl.1 rfl (lv_room (Nat.le_of_ble_eq_true rfl)) d_X_call_16 ⟨Nat.le_of_ble_eq_true rfl, Nat.le_of_ble_eq_true rfl⟩) hS (fun q _ h => hFc q h) hFc (fun r2 u9 t H1 locs ht hvm hw hB hz1 hk1 hS => ?_)
    obtain ⟨hP1, hK1, hD1⟩ := hB
    rw [ht] at hP1
    try dsimp only at hw
    obtain ⟨hP, hD⟩ := va_join (wr := []) (w1 := wC h cI (nI nF) (nI nC) yn yt yg ym (fun c => nI (pl c)) (fun c => nI (cf c)) (fun c => nI (ct c)) aK eB eE eA eL eN eC eS eW eT) hP hD [0, 1, 2, 3, 4, 5, 6, 7, 8, 9, 10, 11, 12, 13, 14, 15, 16] [] rfl rfl (by decide) (by decide) hk1 hFc hP1 hD1
    generalize H1 = H at hP hS ⊢
    have hP : va_P (dC, dI) kls (wC h cI (nI nF) (nI nC) yn yt yg ym (fun c => nI (pl c)) (fun c => nI (cf c)) (fun c => nI (ct c)) aK eB eE eA eL eN eC eS eW eT) H := hP
    have hD : va_D A (wC h cI (nI nF) (nI nC) yn yt yg ym (fun c => nI (pl c)) (fun c => nI (cf c)) (fun c => nI (ct c)) aK eB eE eA eL eN eC eS eW eT) := hD
    rcases hw with ⟨hr9, -⟩ | ⟨hr9, hno9⟩
    · subst hr9
      refine lv_if_ne (tgt := 32) hx hb d_X_call_19 (by decide) (fun _ => ?_) (fun c9 => absurd c9 (by decide +kernel))
      refine lv_aload_n hx hb d_X_call_32 rfl (lv_at hl 0 rfl) ?_
      refine va_get (D := (dC, dI)) (ci := 4) (v := .ref (h 1)) (C := R_X) (T := F_X) (N := 3) hx hb hk k_f_X hown hK hP 0 rfl rfl 0 (by decide) (hk _ k_C_67) (fun _ h9 => h9) rfl d_X_call_33 ?_
      refine va_get (D := (dC, dI)) (ci := 1) (v := .int (nI nC)) (C := R_P) (T := F_P) (N := 6) hx hb hk k_f_P hown hK hP 1 rfl rfl 5 (by decide) (hk _ k_C_37) (fun _ h9 => h9) rfl d_X_call_36 ?_
      refine lv_bipush (v := nI 20) hx hb d_X_call_39 (by decide +kernel) ?_
      refine lv_icmp_lt (tgt := 54) hx hb d_X_call_41 (by decide) (fun c_41 => ?_) (fun c_41 => ?_)
      · have c_41 : nC < 20 := (nI_ltI (a := nC) (b := 20) (by omega) (by omega)).mp c_41
        exfalso; omega
      · have c_41 : ¬ nC < 20 := fun z9 => c_41 ((nI_ltI (a := nC) (b := 20) (by omega) (by omega)).mpr z9)
        exact vx_throwS (own := R_X) (cls := "java/lang/IllegalStateException") (text := "there are 20 calls") (names := ["java/lang/RuntimeException", "java/lang/Exception"]) (A := A) hx hb hst hown (by decide +kernel) (by decide +kernel) (hkx _ kx_c_IllegalStateException) (hkx _ kx_i_IllegalStateException) hT.2.2.2.2.2.2.2.2.2.2.1 (xa_IllegalStateException hkx hT) xg_IllegalStateException hZ.1 hZ.2 hS (hl.1.trans hml.symm) d_X_call_44 d_X_call_47 d_X_call_48 d_X_call_50 d_X_call_53 (fun x h9 => (htab x h9).elim) (Nat.le_of_ble_eq_true rfl) (Nat.le_of_ble_eq_true rfl) (Nat.le_of_ble_eq_true rfl) (Nat.le_of_ble_eq_true rfl) hlocks (fun t ha hz hq => ⟨(), trivial, ⟨rfl, hP.kept (fun k q h9 => hq _ (vx_lt hP h9)), va_K.moved ha hK, hD⟩, xF hS hz hq⟩) hS.2.2 (Nat.le_of_ble_eq_true rfl) (Nat.le_of_ble_eq_true rfl)
    · exact absurd ⟨j1, by omega, rfl⟩ hno9
  · exact absurd ⟨i1, by omega, rfl⟩ hno9
set_option maxHeartbeats 4000000 in
set_option maxRecDepth 100000 in
theorem c_X_needClosure_x (l : Launch) (hst : l.stackTraces = false) (dC : Nat → ClassId) (dI : Nat → Nat → Nat) (cI : ClassId) (h : Nat → Nat) (sz : Nat) (yn yt ym : Int32) (aK eB eE eA eL eN eC eS eW eT : Nat → Int32) (nF nC : Nat) (pl cf ct : Nat → Nat) (K ga : Nat) (sa : Nat → Nat) (hF : nF ≤ 10) (hC : nC ≤ 20) (hS0 : ∀ c, c < nC → cf c < nF ∧ ct c < nF) (hpl : ∀ i, i < nF → 1 ≤ pl i ∧ pl i ≤ 4) (hK8 : 801 ≤ K) (hcl : ∀ c, c < nC → clN (aK c)) (hga : ga = 0 ∨ (ga = 1 ∧ GI nC cf ct aK K nF yn yt eB eE eA eL eS eW)) (hmany : 800 < gN nC cf ct aK cj K nF) : vx_Met l y_X_needClosure wx_X_needClosure ({ frames := 6, cells := 1, slots := 6, locals := 117 }) (va_Pc [.ref (h 0)] (fun U => U.heap.size = sz ∧ va_P (dC, dI) kls (wC h cI (nI nF) (nI nC) yn yt (nI ga) ym (fun c => nI (pl c)) (fun c => nI (cf c)) (fun c => nI (ct c)) aK eB eE eA eL eN eC eS eW eT) U.heap ∧ va_K (dC, dI) kls (tyC cI) U ∧ va_D (fun _ => True) (wC h cI (nI nF) (nI nC) yn yt (nI ga) ym (fun c => nI (pl c)) (fun c => nI (cf c)) (fun c => nI (ct c)) aK eB eE eA eL eN eC eS eW eT) ∧ xT sa U ∧ xZ (va_A (wC h cI (nI nF) (nI nC) yn yt (nI ga) ym (fun c => nI (pl c)) (fun c => nI (cf c)) (fun c => nI (ct c)) aK eB eE eA eL eN eC eS eW eT) sz) U U.heap)) (va_Qv (fun (_ : Unit) => False) (fun _ _ => True) (va_A (wC h cI (nI nF) (nI nC) yn yt (nI ga) ym (fun c => nI (pl c)) (fun c => nI (cf c)) (fun c => nI (ct c)) aK eB eE eA eL eN eC eS eW eT) sz)) (vx_X (fun (u : Int32 × Int32 × Int32 × (Nat → Int32) × (Nat → Int32) × (Nat → Int32) × (Nat → Int32) × (Nat → Int32) × (Nat → Int32) × (Nat → Int32) × (Nat → Int32)) => u.2.2.1 = nI 1 ∧ GI nC cf ct aK K nF u.1 u.2.1 u.2.2.2.1 u.2.2.2.2.1 u.2.2.2.2.2.1 u.2.2.2.2.2.2.1 u.2.2.2.2.2.2.2.2.2.1 u.2.2.2.2.2.2.2.2.2.2) (fun (E : String) (u : Int32 × Int32 × Int32 × (Nat → Int32) × (Nat → Int32) × (Nat → Int32) × (Nat → Int32) × (Nat → Int32) × (Nat → Int32) × (Nat → Int32) × (Nat → Int32)) (t : State) => E = "java/lang/UnsupportedOperationException" ∧ va_P (dC, dI) kls (wC h cI (nI nF) (nI nC) u.1 u.2.1 u.2.2.1 ym (fun c => nI (pl c)) (fun c => nI (cf c)) (fun c => nI (ct c)) aK u.2.2.2.1 u.2.2.2.2.1 u.2.2.2.2.2.1 u.2.2.2.2.2.2.1 u.2.2.2.2.2.2.2.1 u.2.2.2.2.2.2.2.2.1 u.2.2.2.2.2.2.2.2.2.1 u.2.2.2.2.2.2.2.2.2.2 eT) t.heap ∧ va_K (dC, dI) kls (tyC cI) t ∧ va_D (va_A (wC h cI (nI nF) (nI nC) yn yt (nI ga) ym (fun c => nI (pl c)) (fun c => nI (cf c)) (fun c => nI (ct c)) aK eB eE eA eL eN eC eS eW eT) sz) (wC h cI (nI nF) (nI nC) u.1 u.2.1 u.2.2.1 ym (fun c => nI (pl c)) (fun c => nI (cf c)) (fun c => nI (ct c)) aK u.2.2.2.1 u.2.2.2.2.1 u.2.2.2.2.2.1 u.2.2.2.2.2.2.1 u.2.2.2.2.2.2.2.1 u.2.2.2.2.2.2.2.2.1 u.2.2.2.2.2.2.2.2.2.1 u.2.2.2.2.2.2.2.2.2.2 eT)) (va_A (wC h cI (nI nF) (nI nC) yn yt (nI ga) ym (fun c => nI (pl c)) (fun c => nI (cf c)) (fun c => nI (ct c)) aK eB eE eA eL eN eC eS eW eT) sz)) 1 6 (va_A (wC h cI (nI nF) (nI nC) yn yt (nI ga) ym (fun c => nI (pl c)) (fun c => nI (cf c)) (fun c => nI (ct c)) aK eB eE eA eL eN eC eS eW eT) sz) := by
  refine vx_ofW (cc := c_X_needClosure) (maxL := 1) (ret := none) (by decide) rfl ?_
  intro p e s m args below meth c s₁ B hml htab hv
  obtain ⟨rfl, hsz, hP, hK, hD0, hT, hZ⟩ := hv
  have hx := B.exec
  have hb := B.bytes
  have hr := B.returns
  have hts := atoms_spec (ws := wx_X_needClosure) B.pre
  have hkx : ∀ w ∈ wXw, w.before _ s = true := fun w h => hts w (List.mem_cons_of_mem _ h)
  have hk : ∀ w ∈ wCw, w.before _ s = true := fun w h => hkx w (List.mem_append_right _ h)
  have hown : s.vm.findClass R_X = some m.cls := findClass_of_methodNamed B.named
  have hlocks := B.notSynchronized
  subst hsz
  have hD := hD0.self (sz := s.heap.size)
  generalize hAe : va_A (wC h cI (nI nF) (nI nC) yn yt (nI ga) ym (fun c => nI (pl c)) (fun c => nI (cf c)) (fun c => nI (ct c)) aK eB eE eA eL eN eC eS eW eT) s.heap.size = A at hD hZ ⊢
  have hA : ∀ q : Nat, s.heap.size ≤ q → A q := fun q h => by rw [← hAe]; exact Or.inr h
  have hS : va_S A s.heap s.heap [] := va_S.rf
  have hl := lv_entry ([.ref (h 0)]) (n := 1) (Nat.le_of_ble_eq_true rfl)
  rw [lg_entry_eq]
  generalize (lg_sl ([.ref (h 0)]) ++ List.replicate (1 - (lg_sl ([.ref (h 0)])).length) Slot.unset).toArray = ls at hl ⊢
  have hl : lv_has ls 1 [(0, .ref (h 0))] := hl
  refine lv_aload_n hx hb d_X_needClosure_0 rfl (lv_at hl 0 rfl) ?_
  refine va_get (D := (dC, dI)) (ci := 4) (v := .ref (h 6)) (C := R_X) (T := F_X) (N := 3) hx hb hk k_f_X hown hK hP 0 rfl rfl 1 (by decide) (hk _ k_C_68) (fun _ h9 => h9) rfl d_X_needClosure_1 ?_
  refine lv_aload_n hx hb d_X_needClosure_4 rfl (lv_at hl 0 rfl) ?_
  refine va_get (D := (dC, dI)) (ci := 4) (v := .ref (h 1)) (C := R_X) (T := F_X) (N := 3) hx hb hk k_f_X hown hK hP 0 rfl rfl 0 (by decide) (hk _ k_C_67) (fun _ h9 => h9) rfl d_X_needClosure_5 ?_
  have hFc := va_free (wc := wC h cI (nI nF) (nI nC) yn yt (nI ga) ym (fun c => nI (pl c)) (fun c => nI (cf c)) (fun c => nI (ct c)) aK eB eE eA eL eN eC eS eW eT) hD hS hA [0, 1, 2, 3, 4, 5, 6, 7, 8, 9, 10, 11, 12, 13, 14, 15, 16] rfl
  refine va_callv (va_runV (As := [.ref (h 1)]) (rest := []) ⟨hx, hb, hml, hown, hk⟩ (c_C_gather_ok l dC dI cI h s.heap.size yn yt ym aK eB eE eA eL eN eC eS eW eT nF nC pl cf ct K ga (hF) (hC) (hS0) (hpl) (hK8) (hcl) (hga)) (cwV 1 hk g_X_127 rfl rfl rfl (by decide +kernel) ⟨Nat.le_of_ble_eq_true rfl, Nat.le_of_ble_eq_true rfl⟩) ⟨fun a U g mk q => by obtain ⟨q0, q1, qP, qK, qD⟩ := q; exact ⟨q0, q1, qP, va_K.moved (u := U) (U := U.calling g mk a) (Vm.Alike.refl U.vm) qK, qD⟩, va_recv hK hP (ci := 2) (q0 := 6) rfl rfl, fun U hU hW => ⟨rfl, by rw [hU], by rw [hU]; exact hP, va_K.moved hW.alike hK, hD.weaken (fun _ _ _ _ => trivial)⟩⟩ rfl rfl hl.1 rfl (lv_room (Nat.le_of_ble_eq_true rfl)) d_X_needClosure_8 ⟨Nat.le_of_ble_eq_true rfl, Nat.le_of_ble_eq_true rfl⟩) hS (fun q _ h => hFc q h) hFc (fun u9 t H1 locs ht hvm hw hB hz1 hk1 hS => ?_)
  obtain ⟨yn9, yt9, yg9, eB9, eE9, eA9, eL9, eN9, eC9, eS9, eW9⟩ := u9
  obtain ⟨hP1, hK1, hD1⟩ := hB
  rw [ht] at hP1
  try dsimp only at hw
  obtain ⟨hP, hD⟩ := va_join (wr := []) (w1 := wC h cI (nI nF) (nI nC) yn9 yt9 yg9 ym (fun c => nI (pl c)) (fun c => nI (cf c)) (fun c => nI (ct c)) aK eB9 eE9 eA9 eL9 eN9 eC9 eS9 eW9 eT) hP hD [0, 1, 2, 3, 4, 5, 6, 7, 8, 9, 10, 11, 12, 13, 14, 15, 16] [] rfl rfl (by decide) (by decide) hk1 hFc hP1 hD1
  generalize H1 = H at hP hS ⊢
  have hP : va_P (dC, dI) kls (wC h cI (nI nF) (nI nC) yn9 yt9 yg9 ym (fun c => nI (pl c)) (fun c => nI (cf c)) (fun c => nI (ct c)) aK eB9 eE9 eA9 eL9 eN9 eC9 eS9 eW9 eT) H := hP
  have hD : va_D A (wC h cI (nI nF) (nI nC) yn9 yt9 yg9 ym (fun c => nI (pl c)) (fun c => nI (cf c)) (fun c => nI (ct c)) aK eB9 eE9 eA9 eL9 eN9 eC9 eS9 eW9 eT) := hD
  obtain ⟨hg1, hGI⟩ := hw
  rcases hGI with ⟨ht0, hgo⟩ | ⟨ht1, hgt⟩
  · exact absurd hgo.1 (by omega)
  · subst hg1
    subst ht1
    refine lv_aload_n hx hb d_X_needClosure_11 rfl (lv_at hl 0 rfl) ?_
    refine va_get (D := (dC, dI)) (ci := 4) (v := .ref (h 6)) (C := R_X) (T := F_X) (N := 3) hx hb hk k_f_X hown hK hP 0 rfl rfl 1 (by decide) (hk _ k_C_68) (fun _ h9 => h9) rfl d_X_needClosure_12 ?_
    refine va_get (D := (dC, dI)) (ci := 2) (v := .int (nI 1)) (C := R_C) (T := F_C) (N := 11) hx hb hk k_f_C hown hK hP 6 rfl rfl 9 (by decide) (hk _ k_C_56) (fun _ h9 => h9) rfl d_X_needClosure_15 ?_
    refine lv_if_eq (tgt := 31) hx hb d_X_needClosure_18 (by decide) (fun c9 => absurd c9 (by decide +kernel)) (fun _ => ?_)
    exact vx_throwS (own := R_X) (cls := "java/lang/UnsupportedOperationException") (text := "there are more than 800 graphs") (names := ["java/lang/RuntimeException", "java/lang/Exception"]) (A := A) hx hb hst hown (by decide +kernel) (by decide +kernel) (hkx _ kx_c_UnsupportedOperationException) (hkx _ kx_i_UnsupportedOperationException) hT.2.2.2.2.2.2.2.2.2.2.2.2 (xa_UnsupportedOperationException hkx hT) xg_UnsupportedOperationException hZ.1 hZ.2 hS (hl.1.trans hml.symm) d_X_needClosure_21 d_X_needClosure_24 d_X_needClosure_25 d_X_needClosure_27 d_X_needClosure_30 (fun x h9 => (htab x h9).elim) (Nat.le_of_ble_eq_true rfl) (Nat.le_of_ble_eq_true rfl) (Nat.le_of_ble_eq_true rfl) (Nat.le_of_ble_eq_true rfl) hlocks (fun t ha hz hq => ⟨(yn9, nI 1, nI 1, eB9, eE9, eA9, eL9, eN9, eC9, eS9, eW9), ⟨rfl, Or.inr ⟨rfl, hgt⟩⟩, ⟨rfl, hP.kept (fun k q h9 => hq _ (vx_lt hP h9)), va_K.moved ha hK, hD⟩, xF hS hz hq⟩) hS.2.2 (Nat.le_of_ble_eq_true rfl) (Nat.le_of_ble_eq_true rfl)
set_option maxHeartbeats 4000000 in
set_option maxRecDepth 100000 in
theorem c_X_graphs_many (l : Launch) (hst : l.stackTraces = false) (dC : Nat → ClassId) (dI : Nat → Nat → Nat) (cI : ClassId) (h : Nat → Nat) (sz : Nat) (yn yt ym : Int32) (aK eB eE eA eL eN eC eS eW eT : Nat → Int32) (nF nC : Nat) (pl cf ct : Nat → Nat) (K ga : Nat) (i1 j1 : Nat) (sa : Nat → Nat) (hF : nF ≤ 10) (hC : nC ≤ 20) (hS0 : ∀ c, c < nC → cf c < nF ∧ ct c < nF) (hpl : ∀ i, i < nF → 1 ≤ pl i ∧ pl i ≤ 4) (hK8 : 801 ≤ K) (hcl : ∀ c, c < nC → clN (aK c)) (hga : ga = 0 ∨ (ga = 1 ∧ GI nC cf ct aK K nF yn yt eB eE eA eL eS eW)) (hmany : 800 < gN nC cf ct aK cj K nF) (hi1 : i1 < nF) (hj1 : j1 < nF) : vx_Met l y_X_graphs wx_X_graphs ({ frames := 7, cells := 1, slots := 6, locals := 137 }) (va_Pc [.ref (h 0), .int (nI i1), .int (nI j1)] (fun U => U.heap.size = sz ∧ va_P (dC, dI) kls (wC h cI (nI nF) (nI nC) yn yt (nI ga) ym (fun c => nI (pl c)) (fun c => nI (cf c)) (fun c => nI (ct c)) aK eB eE eA eL eN eC eS eW eT) U.heap ∧ va_K (dC, dI) kls (tyC cI) U ∧ va_D (fun _ => True) (wC h cI (nI nF) (nI nC) yn yt (nI ga) ym (fun c => nI (pl c)) (fun c => nI (cf c)) (fun c => nI (ct c)) aK eB eE eA eL eN eC eS eW eT) ∧ xT sa U ∧ xZ (va_A (wC h cI (nI nF) (nI nC) yn yt (nI ga) ym (fun c => nI (pl c)) (fun c => nI (cf c)) (fun c => nI (ct c)) aK eB eE eA eL eN eC eS eW eT) sz) U U.heap)) (va_Qi (fun (_ : Int32) (_ : Unit) => False) (fun _ _ => True) (va_A (wC h cI (nI nF) (nI nC) yn yt (nI ga) ym (fun c => nI (pl c)) (fun c => nI (cf c)) (fun c => nI (ct c)) aK eB eE eA eL eN eC eS eW eT) sz)) (vx_X (fun (u : Int32 × Int32 × Int32 × (Nat → Int32) × (Nat → Int32) × (Nat → Int32) × (Nat → Int32) × (Nat → Int32) × (Nat → Int32) × (Nat → Int32) × (Nat → Int32)) => u.2.2.1 = nI 1 ∧ GI nC cf ct aK K nF u.1 u.2.1 u.2.2.2.1 u.2.2.2.2.1 u.2.2.2.2.2.1 u.2.2.2.2.2.2.1 u.2.2.2.2.2.2.2.2.2.1 u.2.2.2.2.2.2.2.2.2.2) (fun (E : String) (u : Int32 × Int32 × Int32 × (Nat → Int32) × (Nat → Int32) × (Nat → Int32) × (Nat → Int32) × (Nat → Int32) × (Nat → Int32) × (Nat → Int32) × (Nat → Int32)) (t : State) => E = "java/lang/UnsupportedOperationException" ∧ va_P (dC, dI) kls (wC h cI (nI nF) (nI nC) u.1 u.2.1 u.2.2.1 ym (fun c => nI (pl c)) (fun c => nI (cf c)) (fun c => nI (ct c)) aK u.2.2.2.1 u.2.2.2.2.1 u.2.2.2.2.2.1 u.2.2.2.2.2.2.1 u.2.2.2.2.2.2.2.1 u.2.2.2.2.2.2.2.2.1 u.2.2.2.2.2.2.2.2.2.1 u.2.2.2.2.2.2.2.2.2.2 eT) t.heap ∧ va_K (dC, dI) kls (tyC cI) t ∧ va_D (va_A (wC h cI (nI nF) (nI nC) yn yt (nI ga) ym (fun c => nI (pl c)) (fun c => nI (cf c)) (fun c => nI (ct c)) aK eB eE eA eL eN eC eS eW eT) sz) (wC h cI (nI nF) (nI nC) u.1 u.2.1 u.2.2.1 ym (fun c => nI (pl c)) (fun c => nI (cf c)) (fun c => nI (ct c)) aK u.2.2.2.1 u.2.2.2.2.1 u.2.2.2.2.2.1 u.2.2.2.2.2.2.1 u.2.2.2.2.2.2.2.1 u.2.2.2.2.2.2.2.2.1 u.2.2.2.2.2.2.2.2.2.1 u.2.2.2.2.2.2.2.2.2.2 eT)) (va_A (wC h cI (nI nF) (nI nC) yn yt (nI ga) ym (fun c => nI (pl c)) (fun c => nI (cf c)) (fun c => nI (ct c)) aK eB eE eA eL eN eC eS eW eT) sz)) 1 6 (va_A (wC h cI (nI nF) (nI nC) yn yt (nI ga) ym (fun c => nI (pl c)) (fun c => nI (cf c)) (fun c => nI (ct c)) aK eB eE eA eL eN eC eS eW eT) sz) := by
  refine vx_ofW (cc := c_X_graphs) (maxL := 3) (ret := (some .int)) (by decide) rfl ?_
  intro p e s m args below meth c s₁ B hml htab hv
  obtain ⟨rfl, hsz, hP, hK, hD0, hT, hZ⟩ := hv
  have hx := B.exec
  have hb := B.bytes
  have hr := B.returns
  have hts := atoms_spec (ws := wx_X_graphs) B.pre
  have hkx : ∀ w ∈ wXw, w.before _ s = true := fun w h => hts w (List.mem_cons_of_mem _ h)
  have hk : ∀ w ∈ wCw, w.before _ s = true := fun w h => hkx w (List.mem_append_right _ h)
  have hown : s.vm.findClass R_X = some m.cls := findClass_of_methodNamed B.named
  have hlocks := B.notSynchronized
  subst hsz
  have hD := hD0.self (sz := s.heap.size)
  generalize hAe : va_A (wC h cI (nI nF) (nI nC) yn yt (nI ga) ym (fun c => nI (pl c)) (fun c => nI (cf c)) (fun c => nI (ct c)) aK eB eE eA eL eN eC eS eW eT) s.heap.size = A at hD hZ ⊢
  have hA : ∀ q : Nat, s.heap.size ≤ q → A q := fun q h => by rw [← hAe]; exact Or.inr h
  have hS : va_S A s.heap s.heap [] := va_S.rf
  have hl := lv_entry ([.ref (h 0), .int (nI i1), .int (nI j1)]) (n := 3) (Nat.le_of_ble_eq_true rfl)
  rw [lg_entry_eq]
  generalize (lg_sl ([.ref (h 0), .int (nI i1), .int (nI j1)]) ++ List.replicate (3 - (lg_sl ([.ref (h 0), .int (nI i1), .int (nI j1)])).length) Slot.unset).toArray = ls at hl ⊢
  have hl : lv_has ls 3 [(0, .ref (h 0)), (1, .int (nI i1)), (2, .int (nI j1))] := hl
  refine lv_aload_n hx hb d_X_graphs_0 rfl (lv_at hl 0 rfl) ?_
  refine va_get (D := (dC, dI)) (ci := 4) (v := .ref (h 1)) (C := R_X) (T := F_X) (N := 3) hx hb hk k_f_X hown hK hP 0 rfl rfl 0 (by decide) (hk _ k_C_67) (fun _ h9 => h9) rfl d_X_graphs_1 ?_
  refine lv_iload_n hx hb d_X_graphs_4 rfl (lv_at hl 1 rfl) ?_
  have hFc := va_free (wc := wC h cI (nI nF) (nI nC) yn yt (nI ga) ym (fun c => nI (pl c)) (fun c => nI (cf c)) (fun c => nI (ct c)) aK eB eE eA eL eN eC eS eW eT) hD hS hA [0, 1, 2, 3, 4, 5, 6, 7, 8, 9, 10, 11, 12, 13, 14, 15, 16] rfl
  refine va_calli (va_runV (As := [.int (nI i1)]) (rest := []) ⟨hx, hb, hml, hown, hk⟩ (c_P_hasFunction_ok l dC dI cI h s.heap.size yn yt (nI ga) ym aK eB eE eA eL eN eC eS eW eT nF nC pl cf ct (nI i1) (by omega)) (cwV 1 hk g_X_53 rfl rfl rfl (by decide +kernel) ⟨Nat.le_of_ble_eq_true rfl, Nat.le_of_ble_eq_true rfl⟩) ⟨fun a U g mk q => by obtain ⟨q0, q1, qP, qK, qD⟩ := q; exact ⟨q0, q1, qP, va_K.moved (u := U) (U := U.calling g mk a) (Vm.Alike.refl U.vm) qK, qD⟩, va_recv hK hP (ci := 1) (q0 := 1) rfl rfl, fun U hU hW => ⟨rfl, by rw [hU], by rw [hU]; exact hP, va_K.moved hW.alike hK, hD.weaken (fun _ _ _ _ => trivial)⟩⟩ rfl rfl hl.1 rfl (lv_room (Nat.le_of_ble_eq_true rfl)) d_X_graphs_5 ⟨Nat.le_of_ble_eq_true rfl, Nat.le_of_ble_eq_true rfl⟩) hS (fun q _ h => hFc q h) hFc (fun r1 u9 t H1 locs ht hvm hw hB hz1 hk1 hS => ?_)
  obtain ⟨hP1, hK1, hD1⟩ := hB
  rw [ht] at hP1
  try dsimp only at hw
  obtain ⟨hP, hD⟩ := va_join (wr := []) (w1 := wC h cI (nI nF) (nI nC) yn yt (nI ga) ym (fun c => nI (pl c)) (fun c => nI (cf c)) (fun c => nI (ct c)) aK eB eE eA eL eN eC eS eW eT) hP hD [0, 1, 2, 3, 4, 5, 6, 7, 8, 9, 10, 11, 12, 13, 14, 15, 16] [] rfl rfl (by decide) (by decide) hk1 hFc hP1 hD1
  generalize H1 = H at hP hS ⊢
  have hP : va_P (dC, dI) kls (wC h cI (nI nF) (nI nC) yn yt (nI ga) ym (fun c => nI (pl c)) (fun c => nI (cf c)) (fun c => nI (ct c)) aK eB eE eA eL eN eC eS eW eT) H := hP
  have hD : va_D A (wC h cI (nI nF) (nI nC) yn yt (nI ga) ym (fun c => nI (pl c)) (fun c => nI (cf c)) (fun c => nI (ct c)) aK eB eE eA eL eN eC eS eW eT) := hD
  rcases hw with ⟨hr9, -⟩ | ⟨hr9, hno9⟩
  · subst hr9
    refine lv_if_eq (tgt := 22) hx hb d_X_graphs_8 (by decide) (fun c9 => absurd c9 (by decide +kernel)) (fun _ => ?_)
    refine lv_aload_n hx hb d_X_graphs_11 rfl (lv_at hl 0 rfl) ?_
    refine va_get (D := (dC, dI)) (ci := 4) (v := .ref (h 1)) (C := R_X) (T := F_X) (N := 3) hx hb hk k_f_X hown hK hP 0 rfl rfl 0 (by decide) (hk _ k_C_67) (fun _ h9 => h9) rfl d_X_graphs_12 ?_
    refine lv_iload_n hx hb d_X_graphs_15 rfl (lv_at hl 2 rfl) ?_
    have hFc := va_free (wc := wC h cI (nI nF) (nI nC) yn yt (nI ga) ym (fun c => nI (pl c)) (fun c => nI (cf c)) (fun c => nI (ct c)) aK eB eE eA eL eN eC eS eW eT) hD hS hA [0, 1, 2, 3, 4, 5, 6, 7, 8, 9, 10, 11, 12, 13, 14, 15, 16] rfl
    refine va_calli (va_runV (As := [.int (nI j1)]) (rest := []) ⟨hx, hb, hml, hown, hk⟩ (c_P_hasFunction_ok l dC dI cI h H.size yn yt (nI ga) ym aK eB eE eA eL eN eC eS eW eT nF nC pl cf ct (nI j1) (by omega)) (cwV 1 hk g_X_53 rfl rfl rfl (by decide +kernel) ⟨Nat.le_of_ble_eq_true rfl, Nat.le_of_ble_eq_true rfl⟩) ⟨fun a U g mk q => by obtain ⟨q0, q1, qP, qK, qD⟩ := q; exact ⟨q0, q1, qP, va_K.moved (u := U) (U := U.calling g mk a) (Vm.Alike.refl U.vm) qK, qD⟩, va_recv hK hP (ci := 1) (q0 := 1) rfl rfl, fun U hU hW => ⟨rfl, by rw [hU], by rw [hU]; exact hP, va_K.moved hW.alike hK, hD.weaken (fun _ _ _ _ => trivial)⟩⟩ rfl rfl hl.1 rfl (lv_room (Nat.le_of_ble_eq_true rfl)) d_X_graphs_16 ⟨Nat.le_of_ble_eq_true rfl, Nat.le_of_ble_eq_true rfl⟩) hS (fun q _ h => hFc q h) hFc (fun r2 u9 t H1 locs ht hvm hw hB hz1 hk1 hS => ?_)
    obtain ⟨hP1, hK1, hD1⟩ := hB
    rw [ht] at hP1
    try dsimp only at hw
    obtain ⟨hP, hD⟩ := va_join (wr := []) (w1 := wC h cI (nI nF) (nI nC) yn yt (nI ga) ym (fun c => nI (pl c)) (fun c => nI (cf c)) (fun c => nI (ct c)) aK eB eE eA eL eN eC eS eW eT) hP hD [0, 1, 2, 3, 4, 5, 6, 7, 8, 9, 10, 11, 12, 13, 14, 15, 16] [] rfl rfl (by decide) (by decide) hk1 hFc hP1 hD1
    generalize H1 = H at hP hS ⊢
    have hP : va_P (dC, dI) kls (wC h cI (nI nF) (nI nC) yn yt (nI ga) ym (fun c => nI (pl c)) (fun c => nI (cf c)) (fun c => nI (ct c)) aK eB eE eA eL eN eC eS eW eT) H := hP
    have hD : va_D A (wC h cI (nI nF) (nI nC) yn yt (nI ga) ym (fun c => nI (pl c)) (fun c => nI (cf c)) (fun c => nI (ct c)) aK eB eE eA eL eN eC eS eW eT) := hD
    rcases hw with ⟨hr9, -⟩ | ⟨hr9, hno9⟩
    · subst hr9
      refine lv_if_ne (tgt := 24) hx hb d_X_graphs_19 (by decide) (fun _ => ?_) (fun c9 => absurd c9 (by decide +kernel))
      refine lv_aload_n hx hb d_X_graphs_24 rfl (lv_at hl 0 rfl) ?_
      have hFc := va_free (wc := wC h cI (nI nF) (nI nC) yn yt (nI ga) ym (fun c => nI (pl c)) (fun c => nI (cf c)) (fun c => nI (ct c)) aK eB eE eA eL eN eC eS eW eT) hD hS hA [0, 1, 2, 3, 4, 5, 6, 7, 8, 9, 10, 11, 12, 13, 14, 15, 16] rfl
      refine vx_callv (vx_runV (As := []) (rest := []) ⟨hx, hb, hml, hown, hkx⟩ (c_X_needClosure_x l hst dC dI cI h H.size yn yt ym aK eB eE eA eL eN eC eS eW eT nF nC pl cf ct K ga sa (hF) (hC) (hS0) (hpl) (hK8) (hcl) (hga) (hmany)) (cwV 0 hkx gx_X_84 rfl rfl rfl (by decide +kernel) ⟨Nat.le_of_ble_eq_true rfl, Nat.le_of_ble_eq_true rfl⟩) ⟨fun a U g mk q => by obtain ⟨q0, q1, qP, qK, qD, qT, qZ⟩ := q; exact ⟨q0, q1, qP, va_K.moved (u := U) (U := U.calling g mk a) (Vm.Alike.refl U.vm) qK, qD, xT.same rfl qT, xZ.blind (u := U) (U := U.calling g mk a) (Vm.Alike.refl U.vm) qZ⟩, va_recv hK hP (ci := 4) (q0 := 0) rfl rfl, fun U hU hW => ⟨rfl, by rw [hU], by rw [hU]; exact hP, va_K.moved hW.alike hK, hD.weaken (fun _ _ _ _ => trivial), xT.warm hW hT, xZ.here hZ hS hFc hW.alike hU⟩⟩ rfl rfl hl.1 rfl (lv_room (Nat.le_of_ble_eq_true rfl)) d_X_graphs_25 ⟨Nat.le_of_ble_eq_true rfl, Nat.le_of_ble_eq_true rfl⟩) hS (fun q _ h => hFc q h) hFc (fun q _ h => hFc q h) (fun E ce q9 u9 t H1 locs ht hvm hw hB hz1 hk1 hS hce hcv hcl9 => ?_) (fun u9 t H1 locs ht hvm hf9 => hf9.elim)
      obtain ⟨yn9, yt9, yg9, eB9, eE9, eA9, eL9, eN9, eC9, eS9, eW9⟩ := u9
      obtain ⟨hE, hP1, hK1, hD1⟩ := hB
      rw [ht] at hP1
      dsimp only at hw hP1 hD1
      obtain ⟨hP, hD⟩ := va_join (wr := []) (w1 := wC h cI (nI nF) (nI nC) yn9 yt9 yg9 ym (fun c => nI (pl c)) (fun c => nI (cf c)) (fun c => nI (ct c)) aK eB9 eE9 eA9 eL9 eN9 eC9 eS9 eW9 eT) hP hD [0, 1, 2, 3, 4, 5, 6, 7, 8, 9, 10, 11, 12, 13, 14, 15, 16] [] rfl rfl (by decide) (by decide) hk1 hFc hP1 hD1
      exact vx_out (fun x h9 => (htab x h9).elim) hlocks hce hcv hcl9 (fun t ht ha => ⟨(yn9, yt9, yg9, eB9, eE9, eA9, eL9, eN9, eC9, eS9, eW9), hw, ⟨hE, by rw [ht]; exact hP, va_K.moved ha hK, hD⟩, hS.F ht⟩) hS.2.2 (Nat.le_of_ble_eq_true rfl) (Nat.le_of_ble_eq_true rfl)
    · exact absurd ⟨j1, by omega, rfl⟩ hno9
  · exact absurd ⟨i1, by omega, rfl⟩ hno9
set_option maxHeartbeats 4000000 in
set_option maxRecDepth 100000 in
theorem c_X_graph_many (l : Launch) (hst : l.stackTraces = false) (dC : Nat → ClassId) (dI : Nat → Nat → Nat) (cI : ClassId) (h : Nat → Nat) (sz : Nat) (yn yt ym : Int32) (aK eB eE eA eL eN eC eS eW eT : Nat → Int32) (nF nC : Nat) (pl cf ct : Nat → Nat) (K ga : Nat) (i1 j1 : Nat) (q : Int32) (sa : Nat → Nat) (hF : nF ≤ 10) (hC : nC ≤ 20) (hS0 : ∀ c, c < nC → cf c < nF ∧ ct c < nF) (hpl : ∀ i, i < nF → 1 ≤ pl i ∧ pl i ≤ 4) (hK8 : 801 ≤ K) (hcl : ∀ c, c < nC → clN (aK c)) (hga : ga = 0 ∨ (ga = 1 ∧ GI nC cf ct aK K nF yn yt eB eE eA eL eS eW)) (hmany : 800 < gN nC cf ct aK cj K nF) (hi1 : i1 < nF) (hj1 : j1 < nF) : vx_Met l y_X_graph wx_X_graph ({ frames := 7, cells := 1, slots := 6, locals := 137 }) (va_Pc [.ref (h 0), .int (nI i1), .int (nI j1), .int q] (fun U => U.heap.size = sz ∧ va_P (dC, dI) kls (wC h cI (nI nF) (nI nC) yn yt (nI ga) ym (fun c => nI (pl c)) (fun c => nI (cf c)) (fun c => nI (ct c)) aK eB eE eA eL eN eC eS eW eT) U.heap ∧ va_K (dC, dI) kls (tyC cI) U ∧ va_D (fun _ => True) (wC h cI (nI nF) (nI nC) yn yt (nI ga) ym (fun c => nI (pl c)) (fun c => nI (cf c)) (fun c => nI (ct c)) aK eB eE eA eL eN eC eS eW eT) ∧ xT sa U ∧ xZ (va_A (wC h cI (nI nF) (nI nC) yn yt (nI ga) ym (fun c => nI (pl c)) (fun c => nI (cf c)) (fun c => nI (ct c)) aK eB eE eA eL eN eC eS eW eT) sz) U U.heap)) (va_Qi (fun (_ : Int32) (_ : Unit) => False) (fun _ _ => True) (va_A (wC h cI (nI nF) (nI nC) yn yt (nI ga) ym (fun c => nI (pl c)) (fun c => nI (cf c)) (fun c => nI (ct c)) aK eB eE eA eL eN eC eS eW eT) sz)) (vx_X (fun (u : Int32 × Int32 × Int32 × (Nat → Int32) × (Nat → Int32) × (Nat → Int32) × (Nat → Int32) × (Nat → Int32) × (Nat → Int32) × (Nat → Int32) × (Nat → Int32)) => u.2.2.1 = nI 1 ∧ GI nC cf ct aK K nF u.1 u.2.1 u.2.2.2.1 u.2.2.2.2.1 u.2.2.2.2.2.1 u.2.2.2.2.2.2.1 u.2.2.2.2.2.2.2.2.2.1 u.2.2.2.2.2.2.2.2.2.2) (fun (E : String) (u : Int32 × Int32 × Int32 × (Nat → Int32) × (Nat → Int32) × (Nat → Int32) × (Nat → Int32) × (Nat → Int32) × (Nat → Int32) × (Nat → Int32) × (Nat → Int32)) (t : State) => E = "java/lang/UnsupportedOperationException" ∧ va_P (dC, dI) kls (wC h cI (nI nF) (nI nC) u.1 u.2.1 u.2.2.1 ym (fun c => nI (pl c)) (fun c => nI (cf c)) (fun c => nI (ct c)) aK u.2.2.2.1 u.2.2.2.2.1 u.2.2.2.2.2.1 u.2.2.2.2.2.2.1 u.2.2.2.2.2.2.2.1 u.2.2.2.2.2.2.2.2.1 u.2.2.2.2.2.2.2.2.2.1 u.2.2.2.2.2.2.2.2.2.2 eT) t.heap ∧ va_K (dC, dI) kls (tyC cI) t ∧ va_D (va_A (wC h cI (nI nF) (nI nC) yn yt (nI ga) ym (fun c => nI (pl c)) (fun c => nI (cf c)) (fun c => nI (ct c)) aK eB eE eA eL eN eC eS eW eT) sz) (wC h cI (nI nF) (nI nC) u.1 u.2.1 u.2.2.1 ym (fun c => nI (pl c)) (fun c => nI (cf c)) (fun c => nI (ct c)) aK u.2.2.2.1 u.2.2.2.2.1 u.2.2.2.2.2.1 u.2.2.2.2.2.2.1 u.2.2.2.2.2.2.2.1 u.2.2.2.2.2.2.2.2.1 u.2.2.2.2.2.2.2.2.2.1 u.2.2.2.2.2.2.2.2.2.2 eT)) (va_A (wC h cI (nI nF) (nI nC) yn yt (nI ga) ym (fun c => nI (pl c)) (fun c => nI (cf c)) (fun c => nI (ct c)) aK eB eE eA eL eN eC eS eW eT) sz)) 1 6 (va_A (wC h cI (nI nF) (nI nC) yn yt (nI ga) ym (fun c => nI (pl c)) (fun c => nI (cf c)) (fun c => nI (ct c)) aK eB eE eA eL eN eC eS eW eT) sz) := by
  refine vx_ofW (cc := c_X_graph) (maxL := 4) (ret := (some .int)) (by decide) rfl ?_
  intro p e s m args below meth c s₁ B hml htab hv
  obtain ⟨rfl, hsz, hP, hK, hD0, hT, hZ⟩ := hv
  have hx := B.exec
  have hb := B.bytes
  have hr := B.returns
  have hts := atoms_spec (ws := wx_X_graph) B.pre
  have hkx : ∀ w ∈ wXw, w.before _ s = true := fun w h => hts w (List.mem_cons_of_mem _ h)
  have hk : ∀ w ∈ wCw, w.before _ s = true := fun w h => hkx w (List.mem_append_right _ h)
  have hown : s.vm.findClass R_X = some m.cls := findClass_of_methodNamed B.named
  have hlocks := B.notSynchronized
  subst hsz
  have hD := hD0.self (sz := s.heap.size)
  generalize hAe : va_A (wC h cI (nI nF) (nI nC) yn yt (nI ga) ym (fun c => nI (pl c)) (fun c => nI (cf c)) (fun c => nI (ct c)) aK eB eE eA eL eN eC eS eW eT) s.heap.size = A at hD hZ ⊢
  have hA : ∀ q : Nat, s.heap.size ≤ q → A q := fun q h => by rw [← hAe]; exact Or.inr h
  have hS : va_S A s.heap s.heap [] := va_S.rf
  have hl := lv_entry ([.ref (h 0), .int (nI i1), .int (nI j1), .int q]) (n := 4) (Nat.le_of_ble_eq_true rfl)
  rw [lg_entry_eq]
  generalize (lg_sl ([.ref (h 0), .int (nI i1), .int (nI j1), .int q]) ++ List.replicate (4 - (lg_sl ([.ref (h 0), .int (nI i1), .int (nI j1), .int q])).length) Slot.unset).toArray = ls at hl ⊢
  have hl : lv_has ls 4 [(0, .ref (h 0)), (1, .int (nI i1)), (2, .int (nI j1)), (3, .int q)] := hl
  refine lv_aload_n hx hb d_X_graph_0 rfl (lv_at hl 0 rfl) ?_
  refine va_get (D := (dC, dI)) (ci := 4) (v := .ref (h 1)) (C := R_X) (T := F_X) (N := 3) hx hb hk k_f_X hown hK hP 0 rfl rfl 0 (by decide) (hk _ k_C_67) (fun _ h9 => h9) rfl d_X_graph_1 ?_
  refine lv_iload_n hx hb d_X_graph_4 rfl (lv_at hl 1 rfl) ?_
  have hFc := va_free (wc := wC h cI (nI nF) (nI nC) yn yt (nI ga) ym (fun c => nI (pl c)) (fun c => nI (cf c)) (fun c => nI (ct c)) aK eB eE eA eL eN eC eS eW eT) hD hS hA [0, 1, 2, 3, 4, 5, 6, 7, 8, 9, 10, 11, 12, 13, 14, 15, 16] rfl
  refine va_calli (va_runV (As := [.int (nI i1)]) (rest := []) ⟨hx, hb, hml, hown, hk⟩ (c_P_hasFunction_ok l dC dI cI h s.heap.size yn yt (nI ga) ym aK eB eE eA eL eN eC eS eW eT nF nC pl cf ct (nI i1) (by omega)) (cwV 1 hk g_X_53 rfl rfl rfl (by decide +kernel) ⟨Nat.le_of_ble_eq_true rfl, Nat.le_of_ble_eq_true rfl⟩) ⟨fun a U g mk q => by obtain ⟨q0, q1, qP, qK, qD⟩ := q; exact ⟨q0, q1, qP, va_K.moved (u := U) (U := U.calling g mk a) (Vm.Alike.refl U.vm) qK, qD⟩, va_recv hK hP (ci := 1) (q0 := 1) rfl rfl, fun U hU hW => ⟨rfl, by rw [hU], by rw [hU]; exact hP, va_K.moved hW.alike hK, hD.weaken (fun _ _ _ _ => trivial)⟩⟩ rfl rfl hl.1 rfl (lv_room (Nat.le_of_ble_eq_true rfl)) d_X_graph_5 ⟨Nat.le_of_ble_eq_true rfl, Nat.le_of_ble_eq_true rfl⟩) hS (fun q _ h => hFc q h) hFc (fun r1 u9 t H1 locs ht hvm hw hB hz1 hk1 hS => ?_)
  obtain ⟨hP1, hK1, hD1⟩ := hB
  rw [ht] at hP1
  try dsimp only at hw
  obtain ⟨hP, hD⟩ := va_join (wr := []) (w1 := wC h cI (nI nF) (nI nC) yn yt (nI ga) ym (fun c => nI (pl c)) (fun c => nI (cf c)) (fun c => nI (ct c)) aK eB eE eA eL eN eC eS eW eT) hP hD [0, 1, 2, 3, 4, 5, 6, 7, 8, 9, 10, 11, 12, 13, 14, 15, 16] [] rfl rfl (by decide) (by decide) hk1 hFc hP1 hD1
  generalize H1 = H at hP hS ⊢
  have hP : va_P (dC, dI) kls (wC h cI (nI nF) (nI nC) yn yt (nI ga) ym (fun c => nI (pl c)) (fun c => nI (cf c)) (fun c => nI (ct c)) aK eB eE eA eL eN eC eS eW eT) H := hP
  have hD : va_D A (wC h cI (nI nF) (nI nC) yn yt (nI ga) ym (fun c => nI (pl c)) (fun c => nI (cf c)) (fun c => nI (ct c)) aK eB eE eA eL eN eC eS eW eT) := hD
  rcases hw with ⟨hr9, -⟩ | ⟨hr9, hno9⟩
  · subst hr9
    refine lv_if_eq (tgt := 22) hx hb d_X_graph_8 (by decide) (fun c9 => absurd c9 (by decide +kernel)) (fun _ => ?_)
    refine lv_aload_n hx hb d_X_graph_11 rfl (lv_at hl 0 rfl) ?_
    refine va_get (D := (dC, dI)) (ci := 4) (v := .ref (h 1)) (C := R_X) (T := F_X) (N := 3) hx hb hk k_f_X hown hK hP 0 rfl rfl 0 (by decide) (hk _ k_C_67) (fun _ h9 => h9) rfl d_X_graph_12 ?_
    refine lv_iload_n hx hb d_X_graph_15 rfl (lv_at hl 2 rfl) ?_
    have hFc := va_free (wc := wC h cI (nI nF) (nI nC) yn yt (nI ga) ym (fun c => nI (pl c)) (fun c => nI (cf c)) (fun c => nI (ct c)) aK eB eE eA eL eN eC eS eW eT) hD hS hA [0, 1, 2, 3, 4, 5, 6, 7, 8, 9, 10, 11, 12, 13, 14, 15, 16] rfl
    refine va_calli (va_runV (As := [.int (nI j1)]) (rest := []) ⟨hx, hb, hml, hown, hk⟩ (c_P_hasFunction_ok l dC dI cI h H.size yn yt (nI ga) ym aK eB eE eA eL eN eC eS eW eT nF nC pl cf ct (nI j1) (by omega)) (cwV 1 hk g_X_53 rfl rfl rfl (by decide +kernel) ⟨Nat.le_of_ble_eq_true rfl, Nat.le_of_ble_eq_true rfl⟩) ⟨fun a U g mk q => by obtain ⟨q0, q1, qP, qK, qD⟩ := q; exact ⟨q0, q1, qP, va_K.moved (u := U) (U := U.calling g mk a) (Vm.Alike.refl U.vm) qK, qD⟩, va_recv hK hP (ci := 1) (q0 := 1) rfl rfl, fun U hU hW => ⟨rfl, by rw [hU], by rw [hU]; exact hP, va_K.moved hW.alike hK, hD.weaken (fun _ _ _ _ => trivial)⟩⟩ rfl rfl hl.1 rfl (lv_room (Nat.le_of_ble_eq_true rfl)) d_X_graph_16 ⟨Nat.le_of_ble_eq_true rfl, Nat.le_of_ble_eq_true rfl⟩) hS (fun q _ h => hFc q h) hFc (fun r2 u9 t H1 locs ht hvm hw hB hz1 hk1 hS => ?_)
    obtain ⟨hP1, hK1, hD1⟩ := hB
    rw [ht] at hP1
    try dsimp only at hw
    obtain ⟨hP, hD⟩ := va_join (wr := []) (w1 := wC h cI (nI nF) (nI nC) yn yt (nI ga) ym (fun c => nI (pl c)) (fun c => nI (cf c)) (fun c => nI (ct c)) aK eB eE eA eL eN eC eS eW eT) hP hD [0, 1, 2, 3, 4, 5, 6, 7, 8, 9, 10, 11, 12, 13, 14, 15, 16] [] rfl rfl (by decide) (by decide) hk1 hFc hP1 hD1
    generalize H1 = H at hP hS ⊢
    have hP : va_P (dC, dI) kls (wC h cI (nI nF) (nI nC) yn yt (nI ga) ym (fun c => nI (pl c)) (fun c => nI (cf c)) (fun c => nI (ct c)) aK eB eE eA eL eN eC eS eW eT) H := hP
    have hD : va_D A (wC h cI (nI nF) (nI nC) yn yt (nI ga) ym (fun c => nI (pl c)) (fun c => nI (cf c)) (fun c => nI (ct c)) aK eB eE eA eL eN eC eS eW eT) := hD
    rcases hw with ⟨hr9, -⟩ | ⟨hr9, hno9⟩
    · subst hr9
      refine lv_if_ne (tgt := 32) hx hb d_X_graph_19 (by decide) (fun _ => ?_) (fun c9 => absurd c9 (by decide +kernel))
      refine lv_aload_n hx hb d_X_graph_32 rfl (lv_at hl 0 rfl) ?_
      have hFc := va_free (wc := wC h cI (nI nF) (nI nC) yn yt (nI ga) ym (fun c => nI (pl c)) (fun c => nI (cf c)) (fun c => nI (ct c)) aK eB eE eA eL eN eC eS eW eT) hD hS hA [0, 1, 2, 3, 4, 5, 6, 7, 8, 9, 10, 11, 12, 13, 14, 15, 16] rfl
      refine vx_callv (vx_runV (As := []) (rest := []) ⟨hx, hb, hml, hown, hkx⟩ (c_X_needClosure_x l hst dC dI cI h H.size yn yt ym aK eB eE eA eL eN eC eS eW eT nF nC pl cf ct K ga sa (hF) (hC) (hS0) (hpl) (hK8) (hcl) (hga) (hmany)) (cwV 0 hkx gx_X_84 rfl rfl rfl (by decide +kernel) ⟨Nat.le_of_ble_eq_true rfl, Nat.le_of_ble_eq_true rfl⟩) ⟨fun a U g mk q => by obtain ⟨q0, q1, qP, qK, qD, qT, qZ⟩ := q; exact ⟨q0, q1, qP, va_K.moved (u := U) (U := U.calling g mk a) (Vm.Alike.refl U.vm) qK, qD, xT.same rfl qT, xZ.blind (u := U) (U := U.calling g mk a) (Vm.Alike.refl U.vm) qZ⟩, va_recv hK hP (ci := 4) (q0 := 0) rfl rfl, fun U hU hW => ⟨rfl, by rw [hU], by rw [hU]; exact hP, va_K.moved hW.alike hK, hD.weaken (fun _ _ _ _ => trivial), xT.warm hW hT, xZ.here hZ hS hFc hW.alike hU⟩⟩ rfl rfl hl.1 rfl (lv_room (Nat.le_of_ble_eq_true rfl)) d_X_graph_33 ⟨Nat.le_of_ble_eq_true rfl, Nat.le_of_ble_eq_true rfl⟩) hS (fun q _ h => hFc q h) hFc (fun q _ h => hFc q h) (fun E ce q9 u9 t H1 locs ht hvm hw hB hz1 hk1 hS hce hcv hcl9 => ?_) (fun u9 t H1 locs ht hvm hf9 => hf9.elim)
      obtain ⟨yn9, yt9, yg9, eB9, eE9, eA9, eL9, eN9, eC9, eS9, eW9⟩ := u9
      obtain ⟨hE, hP1, hK1, hD1⟩ := hB
      rw [ht] at hP1
      dsimp only at hw hP1 hD1
      obtain ⟨hP, hD⟩ := va_join (wr := []) (w1 := wC h cI (nI nF) (nI nC) yn9 yt9 yg9 ym (fun c => nI (pl c)) (fun c => nI (cf c)) (fun c => nI (ct c)) aK eB9 eE9 eA9 eL9 eN9 eC9 eS9 eW9 eT) hP hD [0, 1, 2, 3, 4, 5, 6, 7, 8, 9, 10, 11, 12, 13, 14, 15, 16] [] rfl rfl (by decide) (by decide) hk1 hFc hP1 hD1
      exact vx_out (fun x h9 => (htab x h9).elim) hlocks hce hcv hcl9 (fun t ht ha => ⟨(yn9, yt9, yg9, eB9, eE9, eA9, eL9, eN9, eC9, eS9, eW9), hw, ⟨hE, by rw [ht]; exact hP, va_K.moved ha hK, hD⟩, hS.F ht⟩) hS.2.2 (Nat.le_of_ble_eq_true rfl) (Nat.le_of_ble_eq_true rfl)
    · exact absurd ⟨j1, by omega, rfl⟩ hno9
  · exact absurd ⟨i1, by omega, rfl⟩ hno9
set_option maxHeartbeats 4000000 in
set_option maxRecDepth 100000 in
theorem c_X_falls_many (l : Launch) (hst : l.stackTraces = false) (dC : Nat → ClassId) (dI : Nat → Nat → Nat) (cI : ClassId) (h : Nat → Nat) (sz : Nat) (yn yt ym : Int32) (aK eB eE eA eL eN eC eS eW eT : Nat → Int32) (nF nC : Nat) (pl cf ct : Nat → Nat) (K ga : Nat) (i1 : Nat) (sa : Nat → Nat) (hF : nF ≤ 10) (hC : nC ≤ 20) (hS0 : ∀ c, c < nC → cf c < nF ∧ ct c < nF) (hpl : ∀ i, i < nF → 1 ≤ pl i ∧ pl i ≤ 4) (hK8 : 801 ≤ K) (hcl : ∀ c, c < nC → clN (aK c)) (hga : ga = 0 ∨ (ga = 1 ∧ GI nC cf ct aK K nF yn yt eB eE eA eL eS eW)) (hmany : 800 < gN nC cf ct aK cj K nF) (hi1 : i1 < nF) : vx_Met l y_X_falls wx_X_falls ({ frames := 7, cells := 1, slots := 6, locals := 137 }) (va_Pc [.ref (h 0), .int (nI i1)] (fun U => U.heap.size = sz ∧ va_P (dC, dI) kls (wC h cI (nI nF) (nI nC) yn yt (nI ga) ym (fun c => nI (pl c)) (fun c => nI (cf c)) (fun c => nI (ct c)) aK eB eE eA eL eN eC eS eW eT) U.heap ∧ va_K (dC, dI) kls (tyC cI) U ∧ va_D (fun _ => True) (wC h cI (nI nF) (nI nC) yn yt (nI ga) ym (fun c => nI (pl c)) (fun c => nI (cf c)) (fun c => nI (ct c)) aK eB eE eA eL eN eC eS eW eT) ∧ xT sa U ∧ xZ (va_A (wC h cI (nI nF) (nI nC) yn yt (nI ga) ym (fun c => nI (pl c)) (fun c => nI (cf c)) (fun c => nI (ct c)) aK eB eE eA eL eN eC eS eW eT) sz) U U.heap)) (va_Qi (fun (_ : Int32) (_ : Unit) => False) (fun _ _ => True) (va_A (wC h cI (nI nF) (nI nC) yn yt (nI ga) ym (fun c => nI (pl c)) (fun c => nI (cf c)) (fun c => nI (ct c)) aK eB eE eA eL eN eC eS eW eT) sz)) (vx_X (fun (u : Int32 × Int32 × Int32 × (Nat → Int32) × (Nat → Int32) × (Nat → Int32) × (Nat → Int32) × (Nat → Int32) × (Nat → Int32) × (Nat → Int32) × (Nat → Int32)) => u.2.2.1 = nI 1 ∧ GI nC cf ct aK K nF u.1 u.2.1 u.2.2.2.1 u.2.2.2.2.1 u.2.2.2.2.2.1 u.2.2.2.2.2.2.1 u.2.2.2.2.2.2.2.2.2.1 u.2.2.2.2.2.2.2.2.2.2) (fun (E : String) (u : Int32 × Int32 × Int32 × (Nat → Int32) × (Nat → Int32) × (Nat → Int32) × (Nat → Int32) × (Nat → Int32) × (Nat → Int32) × (Nat → Int32) × (Nat → Int32)) (t : State) => E = "java/lang/UnsupportedOperationException" ∧ va_P (dC, dI) kls (wC h cI (nI nF) (nI nC) u.1 u.2.1 u.2.2.1 ym (fun c => nI (pl c)) (fun c => nI (cf c)) (fun c => nI (ct c)) aK u.2.2.2.1 u.2.2.2.2.1 u.2.2.2.2.2.1 u.2.2.2.2.2.2.1 u.2.2.2.2.2.2.2.1 u.2.2.2.2.2.2.2.2.1 u.2.2.2.2.2.2.2.2.2.1 u.2.2.2.2.2.2.2.2.2.2 eT) t.heap ∧ va_K (dC, dI) kls (tyC cI) t ∧ va_D (va_A (wC h cI (nI nF) (nI nC) yn yt (nI ga) ym (fun c => nI (pl c)) (fun c => nI (cf c)) (fun c => nI (ct c)) aK eB eE eA eL eN eC eS eW eT) sz) (wC h cI (nI nF) (nI nC) u.1 u.2.1 u.2.2.1 ym (fun c => nI (pl c)) (fun c => nI (cf c)) (fun c => nI (ct c)) aK u.2.2.2.1 u.2.2.2.2.1 u.2.2.2.2.2.1 u.2.2.2.2.2.2.1 u.2.2.2.2.2.2.2.1 u.2.2.2.2.2.2.2.2.1 u.2.2.2.2.2.2.2.2.2.1 u.2.2.2.2.2.2.2.2.2.2 eT)) (va_A (wC h cI (nI nF) (nI nC) yn yt (nI ga) ym (fun c => nI (pl c)) (fun c => nI (cf c)) (fun c => nI (ct c)) aK eB eE eA eL eN eC eS eW eT) sz)) 1 6 (va_A (wC h cI (nI nF) (nI nC) yn yt (nI ga) ym (fun c => nI (pl c)) (fun c => nI (cf c)) (fun c => nI (ct c)) aK eB eE eA eL eN eC eS eW eT) sz) := by
  refine vx_ofW (cc := c_X_falls) (maxL := 2) (ret := (some .boolean)) (by decide) rfl ?_
  intro p e s m args below meth c s₁ B hml htab hv
  obtain ⟨rfl, hsz, hP, hK, hD0, hT, hZ⟩ := hv
  have hx := B.exec
  have hb := B.bytes
  have hr := B.returns
  have hts := atoms_spec (ws := wx_X_falls) B.pre
  have hkx : ∀ w ∈ wXw, w.before _ s = true := fun w h => hts w (List.mem_cons_of_mem _ h)
  have hk : ∀ w ∈ wCw, w.before _ s = true := fun w h => hkx w (List.mem_append_right _ h)
  have hown : s.vm.findClass R_X = some m.cls := findClass_of_methodNamed B.named
  have hlocks := B.notSynchronized
  subst hsz
  have hD := hD0.self (sz := s.heap.size)
  generalize hAe : va_A (wC h cI (nI nF) (nI nC) yn yt (nI ga) ym (fun c => nI (pl c)) (fun c => nI (cf c)) (fun c => nI (ct c)) aK eB eE eA eL eN eC eS eW eT) s.heap.size = A at hD hZ ⊢
  have hA : ∀ q : Nat, s.heap.size ≤ q → A q := fun q h => by rw [← hAe]; exact Or.inr h
  have hS : va_S A s.heap s.heap [] := va_S.rf
  have hl := lv_entry ([.ref (h 0), .int (nI i1)]) (n := 2) (Nat.le_of_ble_eq_true rfl)
  rw [lg_entry_eq]
  generalize (lg_sl ([.ref (h 0), .int (nI i1)]) ++ List.replicate (2 - (lg_sl ([.ref (h 0), .int (nI i1)])).length) Slot.unset).toArray = ls at hl ⊢
  have hl : lv_has ls 2 [(0, .ref (h 0)), (1, .int (nI i1))] := hl
  refine lv_aload_n hx hb d_X_falls_0 rfl (lv_at hl 0 rfl) ?_
  refine va_get (D := (dC, dI)) (ci := 4) (v := .ref (h 1)) (C := R_X) (T := F_X) (N := 3) hx hb hk k_f_X hown hK hP 0 rfl rfl 0 (by decide) (hk _ k_C_67) (fun _ h9 => h9) rfl d_X_falls_1 ?_
  refine lv_iload_n hx hb d_X_falls_4 rfl (lv_at hl 1 rfl) ?_
  have hFc := va_free (wc := wC h cI (nI nF) (nI nC) yn yt (nI ga) ym (fun c => nI (pl c)) (fun c => nI (cf c)) (fun c => nI (ct c)) aK eB eE eA eL eN eC eS eW eT) hD hS hA [0, 1, 2, 3, 4, 5, 6, 7, 8, 9, 10, 11, 12, 13, 14, 15, 16] rfl
  refine va_calli (va_runV (As := [.int (nI i1)]) (rest := []) ⟨hx, hb, hml, hown, hk⟩ (c_P_hasFunction_ok l dC dI cI h s.heap.size yn yt (nI ga) ym aK eB eE eA eL eN eC eS eW eT nF nC pl cf ct (nI i1) (by omega)) (cwV 1 hk g_X_53 rfl rfl rfl (by decide +kernel) ⟨Nat.le_of_ble_eq_true rfl, Nat.le_of_ble_eq_true rfl⟩) ⟨fun a U g mk q => by obtain ⟨q0, q1, qP, qK, qD⟩ := q; exact ⟨q0, q1, qP, va_K.moved (u := U) (U := U.calling g mk a) (Vm.Alike.refl U.vm) qK, qD⟩, va_recv hK hP (ci := 1) (q0 := 1) rfl rfl, fun U hU hW => ⟨rfl, by rw [hU], by rw [hU]; exact hP, va_K.moved hW.alike hK, hD.weaken (fun _ _ _ _ => trivial)⟩⟩ rfl rfl hl.1 rfl (lv_room (Nat.le_of_ble_eq_true rfl)) d_X_falls_5 ⟨Nat.le_of_ble_eq_true rfl, Nat.le_of_ble_eq_true rfl⟩) hS (fun q _ h => hFc q h) hFc (fun r1 u9 t H1 locs ht hvm hw hB hz1 hk1 hS => ?_)
  obtain ⟨hP1, hK1, hD1⟩ := hB
  rw [ht] at hP1
  try dsimp only at hw
  obtain ⟨hP, hD⟩ := va_join (wr := []) (w1 := wC h cI (nI nF) (nI nC) yn yt (nI ga) ym (fun c => nI (pl c)) (fun c => nI (cf c)) (fun c => nI (ct c)) aK eB eE eA eL eN eC eS eW eT) hP hD [0, 1, 2, 3, 4, 5, 6, 7, 8, 9, 10, 11, 12, 13, 14, 15, 16] [] rfl rfl (by decide) (by decide) hk1 hFc hP1 hD1
  generalize H1 = H at hP hS ⊢
  have hP : va_P (dC, dI) kls (wC h cI (nI nF) (nI nC) yn yt (nI ga) ym (fun c => nI (pl c)) (fun c => nI (cf c)) (fun c => nI (ct c)) aK eB eE eA eL eN eC eS eW eT) H := hP
  have hD : va_D A (wC h cI (nI nF) (nI nC) yn yt (nI ga) ym (fun c => nI (pl c)) (fun c => nI (cf c)) (fun c => nI (ct c)) aK eB eE eA eL eN eC eS eW eT) := hD
  rcases hw with ⟨hr9, -⟩ | ⟨hr9, hno9⟩
  · subst hr9
    refine lv_if_ne (tgt := 21) hx hb d_X_falls_8 (by decide) (fun _ => ?_) (fun c9 => absurd c9 (by decide +kernel))
    refine lv_aload_n hx hb d_X_falls_21 rfl (lv_at hl 0 rfl) ?_
    have hFc := va_free (wc := wC h cI (nI nF) (nI nC) yn yt (nI ga) ym (fun c => nI (pl c)) (fun c => nI (cf c)) (fun c => nI (ct c)) aK eB eE eA eL eN eC eS eW eT) hD hS hA [0, 1, 2, 3, 4, 5, 6, 7, 8, 9, 10, 11, 12, 13, 14, 15, 16] rfl
    refine vx_callv (vx_runV (As := []) (rest := []) ⟨hx, hb, hml, hown, hkx⟩ (c_X_needClosure_x l hst dC dI cI h H.size yn yt ym aK eB eE eA eL eN eC eS eW eT nF nC pl cf ct K ga sa (hF) (hC) (hS0) (hpl) (hK8) (hcl) (hga) (hmany)) (cwV 0 hkx gx_X_84 rfl rfl rfl (by decide +kernel) ⟨Nat.le_of_ble_eq_true rfl, Nat.le_of_ble_eq_true rfl⟩) ⟨fun a U g mk q => by obtain ⟨q0, q1, qP, qK, qD, qT, qZ⟩ := q; exact ⟨q0, q1, qP, va_K.moved (u := U) (U := U.calling g mk a) (Vm.Alike.refl U.vm) qK, qD, xT.same rfl qT, xZ.blind (u := U) (U := U.calling g mk a) (Vm.Alike.refl U.vm) qZ⟩, va_recv hK hP (ci := 4) (q0 := 0) rfl rfl, fun U hU hW => ⟨rfl, by rw [hU], by rw [hU]; exact hP, va_K.moved hW.alike hK, hD.weaken (fun _ _ _ _ => trivial), xT.warm hW hT, xZ.here hZ hS hFc hW.alike hU⟩⟩ rfl rfl hl.1 rfl (lv_room (Nat.le_of_ble_eq_true rfl)) d_X_falls_22 ⟨Nat.le_of_ble_eq_true rfl, Nat.le_of_ble_eq_true rfl⟩) hS (fun q _ h => hFc q h) hFc (fun q _ h => hFc q h) (fun E ce q9 u9 t H1 locs ht hvm hw hB hz1 hk1 hS hce hcv hcl9 => ?_) (fun u9 t H1 locs ht hvm hf9 => hf9.elim)
    obtain ⟨yn9, yt9, yg9, eB9, eE9, eA9, eL9, eN9, eC9, eS9, eW9⟩ := u9
    obtain ⟨hE, hP1, hK1, hD1⟩ := hB
    rw [ht] at hP1
    dsimp only at hw hP1 hD1
    obtain ⟨hP, hD⟩ := va_join (wr := []) (w1 := wC h cI (nI nF) (nI nC) yn9 yt9 yg9 ym (fun c => nI (pl c)) (fun c => nI (cf c)) (fun c => nI (ct c)) aK eB9 eE9 eA9 eL9 eN9 eC9 eS9 eW9 eT) hP hD [0, 1, 2, 3, 4, 5, 6, 7, 8, 9, 10, 11, 12, 13, 14, 15, 16] [] rfl rfl (by decide) (by decide) hk1 hFc hP1 hD1
    exact vx_out (fun x h9 => (htab x h9).elim) hlocks hce hcv hcl9 (fun t ht ha => ⟨(yn9, yt9, yg9, eB9, eE9, eA9, eL9, eN9, eC9, eS9, eW9), hw, ⟨hE, by rw [ht]; exact hP, va_K.moved ha hK, hD⟩, hS.F ht⟩) hS.2.2 (Nat.le_of_ble_eq_true rfl) (Nat.le_of_ble_eq_true rfl)
  · exact absurd ⟨i1, by omega, rfl⟩ hno9
set_option maxHeartbeats 4000000 in
set_option maxRecDepth 100000 in
theorem c_X_isSafe_many (l : Launch) (hst : l.stackTraces = false) (dC : Nat → ClassId) (dI : Nat → Nat → Nat) (cI : ClassId) (h : Nat → Nat) (sz : Nat) (yn yt ym : Int32) (aK eB eE eA eL eN eC eS eW eT : Nat → Int32) (nF nC : Nat) (pl cf ct : Nat → Nat) (K ga : Nat) (i1 : Nat) (sa : Nat → Nat) (hF : nF ≤ 10) (hC : nC ≤ 20) (hS0 : ∀ c, c < nC → cf c < nF ∧ ct c < nF) (hpl : ∀ i, i < nF → 1 ≤ pl i ∧ pl i ≤ 4) (hK8 : 801 ≤ K) (hcl : ∀ c, c < nC → clN (aK c)) (hga : ga = 0 ∨ (ga = 1 ∧ GI nC cf ct aK K nF yn yt eB eE eA eL eS eW)) (hmany : 800 < gN nC cf ct aK cj K nF) (hi1 : i1 < nF) : vx_Met l y_X_isSafe wx_X_isSafe ({ frames := 7, cells := 1, slots := 6, locals := 137 }) (va_Pc [.ref (h 0), .int (nI i1)] (fun U => U.heap.size = sz ∧ va_P (dC, dI) kls (wC h cI (nI nF) (nI nC) yn yt (nI ga) ym (fun c => nI (pl c)) (fun c => nI (cf c)) (fun c => nI (ct c)) aK eB eE eA eL eN eC eS eW eT) U.heap ∧ va_K (dC, dI) kls (tyC cI) U ∧ va_D (fun _ => True) (wC h cI (nI nF) (nI nC) yn yt (nI ga) ym (fun c => nI (pl c)) (fun c => nI (cf c)) (fun c => nI (ct c)) aK eB eE eA eL eN eC eS eW eT) ∧ xT sa U ∧ xZ (va_A (wC h cI (nI nF) (nI nC) yn yt (nI ga) ym (fun c => nI (pl c)) (fun c => nI (cf c)) (fun c => nI (ct c)) aK eB eE eA eL eN eC eS eW eT) sz) U U.heap)) (va_Qi (fun (_ : Int32) (_ : Unit) => False) (fun _ _ => True) (va_A (wC h cI (nI nF) (nI nC) yn yt (nI ga) ym (fun c => nI (pl c)) (fun c => nI (cf c)) (fun c => nI (ct c)) aK eB eE eA eL eN eC eS eW eT) sz)) (vx_X (fun (u : Int32 × Int32 × Int32 × (Nat → Int32) × (Nat → Int32) × (Nat → Int32) × (Nat → Int32) × (Nat → Int32) × (Nat → Int32) × (Nat → Int32) × (Nat → Int32)) => u.2.2.1 = nI 1 ∧ GI nC cf ct aK K nF u.1 u.2.1 u.2.2.2.1 u.2.2.2.2.1 u.2.2.2.2.2.1 u.2.2.2.2.2.2.1 u.2.2.2.2.2.2.2.2.2.1 u.2.2.2.2.2.2.2.2.2.2) (fun (E : String) (u : Int32 × Int32 × Int32 × (Nat → Int32) × (Nat → Int32) × (Nat → Int32) × (Nat → Int32) × (Nat → Int32) × (Nat → Int32) × (Nat → Int32) × (Nat → Int32)) (t : State) => E = "java/lang/UnsupportedOperationException" ∧ va_P (dC, dI) kls (wC h cI (nI nF) (nI nC) u.1 u.2.1 u.2.2.1 ym (fun c => nI (pl c)) (fun c => nI (cf c)) (fun c => nI (ct c)) aK u.2.2.2.1 u.2.2.2.2.1 u.2.2.2.2.2.1 u.2.2.2.2.2.2.1 u.2.2.2.2.2.2.2.1 u.2.2.2.2.2.2.2.2.1 u.2.2.2.2.2.2.2.2.2.1 u.2.2.2.2.2.2.2.2.2.2 eT) t.heap ∧ va_K (dC, dI) kls (tyC cI) t ∧ va_D (va_A (wC h cI (nI nF) (nI nC) yn yt (nI ga) ym (fun c => nI (pl c)) (fun c => nI (cf c)) (fun c => nI (ct c)) aK eB eE eA eL eN eC eS eW eT) sz) (wC h cI (nI nF) (nI nC) u.1 u.2.1 u.2.2.1 ym (fun c => nI (pl c)) (fun c => nI (cf c)) (fun c => nI (ct c)) aK u.2.2.2.1 u.2.2.2.2.1 u.2.2.2.2.2.1 u.2.2.2.2.2.2.1 u.2.2.2.2.2.2.2.1 u.2.2.2.2.2.2.2.2.1 u.2.2.2.2.2.2.2.2.2.1 u.2.2.2.2.2.2.2.2.2.2 eT)) (va_A (wC h cI (nI nF) (nI nC) yn yt (nI ga) ym (fun c => nI (pl c)) (fun c => nI (cf c)) (fun c => nI (ct c)) aK eB eE eA eL eN eC eS eW eT) sz)) 1 6 (va_A (wC h cI (nI nF) (nI nC) yn yt (nI ga) ym (fun c => nI (pl c)) (fun c => nI (cf c)) (fun c => nI (ct c)) aK eB eE eA eL eN eC eS eW eT) sz) := by
  refine vx_ofW (cc := c_X_isSafe) (maxL := 4) (ret := (some .boolean)) (by decide) rfl ?_
  intro p e s m args below meth c s₁ B hml htab hv
  obtain ⟨rfl, hsz, hP, hK, hD0, hT, hZ⟩ := hv
  have hx := B.exec
  have hb := B.bytes
  have hr := B.returns
  have hts := atoms_spec (ws := wx_X_isSafe) B.pre
  have hkx : ∀ w ∈ wXw, w.before _ s = true := fun w h => hts w (List.mem_cons_of_mem _ h)
  have hk : ∀ w ∈ wCw, w.before _ s = true := fun w h => hkx w (List.mem_append_right _ h)
  have hown : s.vm.findClass R_X = some m.cls := findClass_of_methodNamed B.named
  have hlocks := B.notSynchronized
  subst hsz
  have hD := hD0.self (sz := s.heap.size)
  generalize hAe : va_A (wC h cI (nI nF) (nI nC) yn yt (nI ga) ym (fun c => nI (pl c)) (fun c => nI (cf c)) (fun c => nI (ct c)) aK eB eE eA eL eN eC eS eW eT) s.heap.size = A at hD hZ ⊢
  have hA : ∀ q : Nat, s.heap.size ≤ q → A q := fun q h => by rw [← hAe]; exact Or.inr h
  have hS : va_S A s.heap s.heap [] := va_S.rf
  have hl := lv_entry ([.ref (h 0), .int (nI i1)]) (n := 4) (Nat.le_of_ble_eq_true rfl)
  rw [lg_entry_eq]
  generalize (lg_sl ([.ref (h 0), .int (nI i1)]) ++ List.replicate (4 - (lg_sl ([.ref (h 0), .int (nI i1)])).length) Slot.unset).toArray = ls at hl ⊢
  have hl : lv_has ls 4 [(0, .ref (h 0)), (1, .int (nI i1))] := hl
  refine lv_aload_n hx hb d_X_isSafe_0 rfl (lv_at hl 0 rfl) ?_
  refine va_get (D := (dC, dI)) (ci := 4) (v := .ref (h 1)) (C := R_X) (T := F_X) (N := 3) hx hb hk k_f_X hown hK hP 0 rfl rfl 0 (by decide) (hk _ k_C_67) (fun _ h9 => h9) rfl d_X_isSafe_1 ?_
  refine lv_iload_n hx hb d_X_isSafe_4 rfl (lv_at hl 1 rfl) ?_
  have hFc := va_free (wc := wC h cI (nI nF) (nI nC) yn yt (nI ga) ym (fun c => nI (pl c)) (fun c => nI (cf c)) (fun c => nI (ct c)) aK eB eE eA eL eN eC eS eW eT) hD hS hA [0, 1, 2, 3, 4, 5, 6, 7, 8, 9, 10, 11, 12, 13, 14, 15, 16] rfl
  refine va_calli (va_runV (As := [.int (nI i1)]) (rest := []) ⟨hx, hb, hml, hown, hk⟩ (c_P_hasFunction_ok l dC dI cI h s.heap.size yn yt (nI ga) ym aK eB eE eA eL eN eC eS eW eT nF nC pl cf ct (nI i1) (by omega)) (cwV 1 hk g_X_53 rfl rfl rfl (by decide +kernel) ⟨Nat.le_of_ble_eq_true rfl, Nat.le_of_ble_eq_true rfl⟩) ⟨fun a U g mk q => by obtain ⟨q0, q1, qP, qK, qD⟩ := q; exact ⟨q0, q1, qP, va_K.moved (u := U) (U := U.calling g mk a) (Vm.Alike.refl U.vm) qK, qD⟩, va_recv hK hP (ci := 1) (q0 := 1) rfl rfl, fun U hU hW => ⟨rfl, by rw [hU], by rw [hU]; exact hP, va_K.moved hW.alike hK, hD.weaken (fun _ _ _ _ => trivial)⟩⟩ rfl rfl hl.1 rfl (lv_room (Nat.le_of_ble_eq_true rfl)) d_X_isSafe_5 ⟨Nat.le_of_ble_eq_true rfl, Nat.le_of_ble_eq_true rfl⟩) hS (fun q _ h => hFc q h) hFc (fun r1 u9 t H1 locs ht hvm hw hB hz1 hk1 hS => ?_)
  obtain ⟨hP1, hK1, hD1⟩ := hB
  rw [ht] at hP1
  try dsimp only at hw
  obtain ⟨hP, hD⟩ := va_join (wr := []) (w1 := wC h cI (nI nF) (nI nC) yn yt (nI ga) ym (fun c => nI (pl c)) (fun c => nI (cf c)) (fun c => nI (ct c)) aK eB eE eA eL eN eC eS eW eT) hP hD [0, 1, 2, 3, 4, 5, 6, 7, 8, 9, 10, 11, 12, 13, 14, 15, 16] [] rfl rfl (by decide) (by decide) hk1 hFc hP1 hD1
  generalize H1 = H at hP hS ⊢
  have hP : va_P (dC, dI) kls (wC h cI (nI nF) (nI nC) yn yt (nI ga) ym (fun c => nI (pl c)) (fun c => nI (cf c)) (fun c => nI (ct c)) aK eB eE eA eL eN eC eS eW eT) H := hP
  have hD : va_D A (wC h cI (nI nF) (nI nC) yn yt (nI ga) ym (fun c => nI (pl c)) (fun c => nI (cf c)) (fun c => nI (ct c)) aK eB eE eA eL eN eC eS eW eT) := hD
  rcases hw with ⟨hr9, -⟩ | ⟨hr9, hno9⟩
  · subst hr9
    refine lv_if_ne (tgt := 21) hx hb d_X_isSafe_8 (by decide) (fun _ => ?_) (fun c9 => absurd c9 (by decide +kernel))
    refine lv_aload_n hx hb d_X_isSafe_21 rfl (lv_at hl 0 rfl) ?_
    have hFc := va_free (wc := wC h cI (nI nF) (nI nC) yn yt (nI ga) ym (fun c => nI (pl c)) (fun c => nI (cf c)) (fun c => nI (ct c)) aK eB eE eA eL eN eC eS eW eT) hD hS hA [0, 1, 2, 3, 4, 5, 6, 7, 8, 9, 10, 11, 12, 13, 14, 15, 16] rfl
    refine vx_callv (vx_runV (As := []) (rest := []) ⟨hx, hb, hml, hown, hkx⟩ (c_X_needClosure_x l hst dC dI cI h H.size yn yt ym aK eB eE eA eL eN eC eS eW eT nF nC pl cf ct K ga sa (hF) (hC) (hS0) (hpl) (hK8) (hcl) (hga) (hmany)) (cwV 0 hkx gx_X_84 rfl rfl rfl (by decide +kernel) ⟨Nat.le_of_ble_eq_true rfl, Nat.le_of_ble_eq_true rfl⟩) ⟨fun a U g mk q => by obtain ⟨q0, q1, qP, qK, qD, qT, qZ⟩ := q; exact ⟨q0, q1, qP, va_K.moved (u := U) (U := U.calling g mk a) (Vm.Alike.refl U.vm) qK, qD, xT.same rfl qT, xZ.blind (u := U) (U := U.calling g mk a) (Vm.Alike.refl U.vm) qZ⟩, va_recv hK hP (ci := 4) (q0 := 0) rfl rfl, fun U hU hW => ⟨rfl, by rw [hU], by rw [hU]; exact hP, va_K.moved hW.alike hK, hD.weaken (fun _ _ _ _ => trivial), xT.warm hW hT, xZ.here hZ hS hFc hW.alike hU⟩⟩ rfl rfl hl.1 rfl (lv_room (Nat.le_of_ble_eq_true rfl)) d_X_isSafe_22 ⟨Nat.le_of_ble_eq_true rfl, Nat.le_of_ble_eq_true rfl⟩) hS (fun q _ h => hFc q h) hFc (fun q _ h => hFc q h) (fun E ce q9 u9 t H1 locs ht hvm hw hB hz1 hk1 hS hce hcv hcl9 => ?_) (fun u9 t H1 locs ht hvm hf9 => hf9.elim)
    obtain ⟨yn9, yt9, yg9, eB9, eE9, eA9, eL9, eN9, eC9, eS9, eW9⟩ := u9
    obtain ⟨hE, hP1, hK1, hD1⟩ := hB
    rw [ht] at hP1
    dsimp only at hw hP1 hD1
    obtain ⟨hP, hD⟩ := va_join (wr := []) (w1 := wC h cI (nI nF) (nI nC) yn9 yt9 yg9 ym (fun c => nI (pl c)) (fun c => nI (cf c)) (fun c => nI (ct c)) aK eB9 eE9 eA9 eL9 eN9 eC9 eS9 eW9 eT) hP hD [0, 1, 2, 3, 4, 5, 6, 7, 8, 9, 10, 11, 12, 13, 14, 15, 16] [] rfl rfl (by decide) (by decide) hk1 hFc hP1 hD1
    exact vx_out (fun x h9 => (htab x h9).elim) hlocks hce hcv hcl9 (fun t ht ha => ⟨(yn9, yt9, yg9, eB9, eE9, eA9, eL9, eN9, eC9, eS9, eW9), hw, ⟨hE, by rw [ht]; exact hP, va_K.moved ha hK, hD⟩, hS.F ht⟩) hS.2.2 (Nat.le_of_ble_eq_true rfl) (Nat.le_of_ble_eq_true rfl)
  · exact absurd ⟨i1, by omega, rfl⟩ hno9
set_option maxHeartbeats 4000000 in
set_option maxRecDepth 100000 in
theorem c_X_bad_many (l : Launch) (hst : l.stackTraces = false) (dC : Nat → ClassId) (dI : Nat → Nat → Nat) (cI : ClassId) (h : Nat → Nat) (sz : Nat) (yn yt ym : Int32) (aK eB eE eA eL eN eC eS eW eT : Nat → Int32) (nF nC : Nat) (pl cf ct : Nat → Nat) (K ga : Nat) (i1 : Nat) (q : Int32) (sa : Nat → Nat) (hF : nF ≤ 10) (hC : nC ≤ 20) (hS0 : ∀ c, c < nC → cf c < nF ∧ ct c < nF) (hpl : ∀ i, i < nF → 1 ≤ pl i ∧ pl i ≤ 4) (hK8 : 801 ≤ K) (hcl : ∀ c, c < nC → clN (aK c)) (hga : ga = 0 ∨ (ga = 1 ∧ GI nC cf ct aK K nF yn yt eB eE eA eL eS eW)) (hmany : 800 < gN nC cf ct aK cj K nF) (hi1 : i1 < nF) : vx_Met l y_X_bad wx_X_bad ({ frames := 7, cells := 1, slots := 6, locals := 137 }) (va_Pc [.ref (h 0), .int (nI i1), .int q] (fun U => U.heap.size = sz ∧ va_P (dC, dI) kls (wC h cI (nI nF) (nI nC) yn yt (nI ga) ym (fun c => nI (pl c)) (fun c => nI (cf c)) (fun c => nI (ct c)) aK eB eE eA eL eN eC eS eW eT) U.heap ∧ va_K (dC, dI) kls (tyC cI) U ∧ va_D (fun _ => True) (wC h cI (nI nF) (nI nC) yn yt (nI ga) ym (fun c => nI (pl c)) (fun c => nI (cf c)) (fun c => nI (ct c)) aK eB eE eA eL eN eC eS eW eT) ∧ xT sa U ∧ xZ (va_A (wC h cI (nI nF) (nI nC) yn yt (nI ga) ym (fun c => nI (pl c)) (fun c => nI (cf c)) (fun c => nI (ct c)) aK eB eE eA eL eN eC eS eW eT) sz) U U.heap)) (va_Qi (fun (_ : Int32) (_ : Unit) => False) (fun _ _ => True) (va_A (wC h cI (nI nF) (nI nC) yn yt (nI ga) ym (fun c => nI (pl c)) (fun c => nI (cf c)) (fun c => nI (ct c)) aK eB eE eA eL eN eC eS eW eT) sz)) (vx_X (fun (u : Int32 × Int32 × Int32 × (Nat → Int32) × (Nat → Int32) × (Nat → Int32) × (Nat → Int32) × (Nat → Int32) × (Nat → Int32) × (Nat → Int32) × (Nat → Int32)) => u.2.2.1 = nI 1 ∧ GI nC cf ct aK K nF u.1 u.2.1 u.2.2.2.1 u.2.2.2.2.1 u.2.2.2.2.2.1 u.2.2.2.2.2.2.1 u.2.2.2.2.2.2.2.2.2.1 u.2.2.2.2.2.2.2.2.2.2) (fun (E : String) (u : Int32 × Int32 × Int32 × (Nat → Int32) × (Nat → Int32) × (Nat → Int32) × (Nat → Int32) × (Nat → Int32) × (Nat → Int32) × (Nat → Int32) × (Nat → Int32)) (t : State) => E = "java/lang/UnsupportedOperationException" ∧ va_P (dC, dI) kls (wC h cI (nI nF) (nI nC) u.1 u.2.1 u.2.2.1 ym (fun c => nI (pl c)) (fun c => nI (cf c)) (fun c => nI (ct c)) aK u.2.2.2.1 u.2.2.2.2.1 u.2.2.2.2.2.1 u.2.2.2.2.2.2.1 u.2.2.2.2.2.2.2.1 u.2.2.2.2.2.2.2.2.1 u.2.2.2.2.2.2.2.2.2.1 u.2.2.2.2.2.2.2.2.2.2 eT) t.heap ∧ va_K (dC, dI) kls (tyC cI) t ∧ va_D (va_A (wC h cI (nI nF) (nI nC) yn yt (nI ga) ym (fun c => nI (pl c)) (fun c => nI (cf c)) (fun c => nI (ct c)) aK eB eE eA eL eN eC eS eW eT) sz) (wC h cI (nI nF) (nI nC) u.1 u.2.1 u.2.2.1 ym (fun c => nI (pl c)) (fun c => nI (cf c)) (fun c => nI (ct c)) aK u.2.2.2.1 u.2.2.2.2.1 u.2.2.2.2.2.1 u.2.2.2.2.2.2.1 u.2.2.2.2.2.2.2.1 u.2.2.2.2.2.2.2.2.1 u.2.2.2.2.2.2.2.2.2.1 u.2.2.2.2.2.2.2.2.2.2 eT)) (va_A (wC h cI (nI nF) (nI nC) yn yt (nI ga) ym (fun c => nI (pl c)) (fun c => nI (cf c)) (fun c => nI (ct c)) aK eB eE eA eL eN eC eS eW eT) sz)) 1 6 (va_A (wC h cI (nI nF) (nI nC) yn yt (nI ga) ym (fun c => nI (pl c)) (fun c => nI (cf c)) (fun c => nI (ct c)) aK eB eE eA eL eN eC eS eW eT) sz) := by
  refine vx_ofW (cc := c_X_bad) (maxL := 4) (ret := (some .int)) (by decide) rfl ?_
  intro p e s m args below meth c s₁ B hml htab hv
  obtain ⟨rfl, hsz, hP, hK, hD0, hT, hZ⟩ := hv
  have hx := B.exec
  have hb := B.bytes
  have hr := B.returns
  have hts := atoms_spec (ws := wx_X_bad) B.pre
  have hkx : ∀ w ∈ wXw, w.before _ s = true := fun w h => hts w (List.mem_cons_of_mem _ h)
  have hk : ∀ w ∈ wCw, w.before _ s = true := fun w h => hkx w (List.mem_append_right _ h)
  have hown : s.vm.findClass R_X = some m.cls := findClass_of_methodNamed B.named
  have hlocks := B.notSynchronized
  subst hsz
  have hD := hD0.self (sz := s.heap.size)
  generalize hAe : va_A (wC h cI (nI nF) (nI nC) yn yt (nI ga) ym (fun c => nI (pl c)) (fun c => nI (cf c)) (fun c => nI (ct c)) aK eB eE eA eL eN eC eS eW eT) s.heap.size = A at hD hZ ⊢
  have hA : ∀ q : Nat, s.heap.size ≤ q → A q := fun q h => by rw [← hAe]; exact Or.inr h
  have hS : va_S A s.heap s.heap [] := va_S.rf
  have hl := lv_entry ([.ref (h 0), .int (nI i1), .int q]) (n := 4) (Nat.le_of_ble_eq_true rfl)
  rw [lg_entry_eq]
  generalize (lg_sl ([.ref (h 0), .int (nI i1), .int q]) ++ List.replicate (4 - (lg_sl ([.ref (h 0), .int (nI i1), .int q])).length) Slot.unset).toArray = ls at hl ⊢
  have hl : lv_has ls 4 [(0, .ref (h 0)), (1, .int (nI i1)), (2, .int q)] := hl
  refine lv_aload_n hx hb d_X_bad_0 rfl (lv_at hl 0 rfl) ?_
  refine va_get (D := (dC, dI)) (ci := 4) (v := .ref (h 1)) (C := R_X) (T := F_X) (N := 3) hx hb hk k_f_X hown hK hP 0 rfl rfl 0 (by decide) (hk _ k_C_67) (fun _ h9 => h9) rfl d_X_bad_1 ?_
  refine lv_iload_n hx hb d_X_bad_4 rfl (lv_at hl 1 rfl) ?_
  have hFc := va_free (wc := wC h cI (nI nF) (nI nC) yn yt (nI ga) ym (fun c => nI (pl c)) (fun c => nI (cf c)) (fun c => nI (ct c)) aK eB eE eA eL eN eC eS eW eT) hD hS hA [0, 1, 2, 3, 4, 5, 6, 7, 8, 9, 10, 11, 12, 13, 14, 15, 16] rfl
  refine va_calli (va_runV (As := [.int (nI i1)]) (rest := []) ⟨hx, hb, hml, hown, hk⟩ (c_P_hasFunction_ok l dC dI cI h s.heap.size yn yt (nI ga) ym aK eB eE eA eL eN eC eS eW eT nF nC pl cf ct (nI i1) (by omega)) (cwV 1 hk g_X_53 rfl rfl rfl (by decide +kernel) ⟨Nat.le_of_ble_eq_true rfl, Nat.le_of_ble_eq_true rfl⟩) ⟨fun a U g mk q => by obtain ⟨q0, q1, qP, qK, qD⟩ := q; exact ⟨q0, q1, qP, va_K.moved (u := U) (U := U.calling g mk a) (Vm.Alike.refl U.vm) qK, qD⟩, va_recv hK hP (ci := 1) (q0 := 1) rfl rfl, fun U hU hW => ⟨rfl, by rw [hU], by rw [hU]; exact hP, va_K.moved hW.alike hK, hD.weaken (fun _ _ _ _ => trivial)⟩⟩ rfl rfl hl.1 rfl (lv_room (Nat.le_of_ble_eq_true rfl)) d_X_bad_5 ⟨Nat.le_of_ble_eq_true rfl, Nat.le_of_ble_eq_true rfl⟩) hS (fun q _ h => hFc q h) hFc (fun r1 u9 t H1 locs ht hvm hw hB hz1 hk1 hS => ?_)
  obtain ⟨hP1, hK1, hD1⟩ := hB
  rw [ht] at hP1
  try dsimp only at hw
  obtain ⟨hP, hD⟩ := va_join (wr := []) (w1 := wC h cI (nI nF) (nI nC) yn yt (nI ga) ym (fun c => nI (pl c)) (fun c => nI (cf c)) (fun c => nI (ct c)) aK eB eE eA eL eN eC eS eW eT) hP hD [0, 1, 2, 3, 4, 5, 6, 7, 8, 9, 10, 11, 12, 13, 14, 15, 16] [] rfl rfl (by decide) (by decide) hk1 hFc hP1 hD1
  generalize H1 = H at hP hS ⊢
  have hP : va_P (dC, dI) kls (wC h cI (nI nF) (nI nC) yn yt (nI ga) ym (fun c => nI (pl c)) (fun c => nI (cf c)) (fun c => nI (ct c)) aK eB eE eA eL eN eC eS eW eT) H := hP
  have hD : va_D A (wC h cI (nI nF) (nI nC) yn yt (nI ga) ym (fun c => nI (pl c)) (fun c => nI (cf c)) (fun c => nI (ct c)) aK eB eE eA eL eN eC eS eW eT) := hD
  rcases hw with ⟨hr9, -⟩ | ⟨hr9, hno9⟩
  · subst hr9
    refine lv_if_ne (tgt := 13) hx hb d_X_bad_8 (by decide) (fun _ => ?_) (fun c9 => absurd c9 (by decide +kernel))
    refine lv_aload_n hx hb d_X_bad_13 rfl (lv_at hl 0 rfl) ?_
    have hFc := va_free (wc := wC h cI (nI nF) (nI nC) yn yt (nI ga) ym (fun c => nI (pl c)) (fun c => nI (cf c)) (fun c => nI (ct c)) aK eB eE eA eL eN eC eS eW eT) hD hS hA [0, 1, 2, 3, 4, 5, 6, 7, 8, 9, 10, 11, 12, 13, 14, 15, 16] rfl
    refine vx_callv (vx_runV (As := []) (rest := []) ⟨hx, hb, hml, hown, hkx⟩ (c_X_needClosure_x l hst dC dI cI h H.size yn yt ym aK eB eE eA eL eN eC eS eW eT nF nC pl cf ct K ga sa (hF) (hC) (hS0) (hpl) (hK8) (hcl) (hga) (hmany)) (cwV 0 hkx gx_X_84 rfl rfl rfl (by decide +kernel) ⟨Nat.le_of_ble_eq_true rfl, Nat.le_of_ble_eq_true rfl⟩) ⟨fun a U g mk q => by obtain ⟨q0, q1, qP, qK, qD, qT, qZ⟩ := q; exact ⟨q0, q1, qP, va_K.moved (u := U) (U := U.calling g mk a) (Vm.Alike.refl U.vm) qK, qD, xT.same rfl qT, xZ.blind (u := U) (U := U.calling g mk a) (Vm.Alike.refl U.vm) qZ⟩, va_recv hK hP (ci := 4) (q0 := 0) rfl rfl, fun U hU hW => ⟨rfl, by rw [hU], by rw [hU]; exact hP, va_K.moved hW.alike hK, hD.weaken (fun _ _ _ _ => trivial), xT.warm hW hT, xZ.here hZ hS hFc hW.alike hU⟩⟩ rfl rfl hl.1 rfl (lv_room (Nat.le_of_ble_eq_true rfl)) d_X_bad_14 ⟨Nat.le_of_ble_eq_true rfl, Nat.le_of_ble_eq_true rfl⟩) hS (fun q _ h => hFc q h) hFc (fun q _ h => hFc q h) (fun E ce q9 u9 t H1 locs ht hvm hw hB hz1 hk1 hS hce hcv hcl9 => ?_) (fun u9 t H1 locs ht hvm hf9 => hf9.elim)
    obtain ⟨yn9, yt9, yg9, eB9, eE9, eA9, eL9, eN9, eC9, eS9, eW9⟩ := u9
    obtain ⟨hE, hP1, hK1, hD1⟩ := hB
    rw [ht] at hP1
    dsimp only at hw hP1 hD1
    obtain ⟨hP, hD⟩ := va_join (wr := []) (w1 := wC h cI (nI nF) (nI nC) yn9 yt9 yg9 ym (fun c => nI (pl c)) (fun c => nI (cf c)) (fun c => nI (ct c)) aK eB9 eE9 eA9 eL9 eN9 eC9 eS9 eW9 eT) hP hD [0, 1, 2, 3, 4, 5, 6, 7, 8, 9, 10, 11, 12, 13, 14, 15, 16] [] rfl rfl (by decide) (by decide) hk1 hFc hP1 hD1
    exact vx_out (fun x h9 => (htab x h9).elim) hlocks hce hcv hcl9 (fun t ht ha => ⟨(yn9, yt9, yg9, eB9, eE9, eA9, eL9, eN9, eC9, eS9, eW9), hw, ⟨hE, by rw [ht]; exact hP, va_K.moved ha hK, hD⟩, hS.F ht⟩) hS.2.2 (Nat.le_of_ble_eq_true rfl) (Nat.le_of_ble_eq_true rfl)
  · exact absurd ⟨i1, by omega, rfl⟩ hno9
set_option maxHeartbeats 4000000 in
set_option maxRecDepth 100000 in
theorem c_X_graph_x1 (l : Launch) (hst : l.stackTraces = false) (dC : Nat → ClassId) (dI : Nat → Nat → Nat) (cI : ClassId) (h : Nat → Nat) (sz : Nat) (yn yt yg ym : Int32) (aK eB eE eA eL eN eC eS eW eT : Nat → Int32) (nF nC : Nat) (pl cf ct : Nat → Nat) (f g q : Int32) (sa : Nat → Nat) (hF : nF ≤ 10) (hno : ¬ ((∃ i, i < nF ∧ f = nI i) ∧ (∃ j, j < nF ∧ g = nI j))) : vx_Met l y_X_graph wx_X_graph ({ frames := 6, cells := 1, slots := 6, locals := 82 }) (va_Pc [.ref (h 0), .int f, .int g, .int q] (fun U => U.heap.size = sz ∧ va_P (dC, dI) kls (wC h cI (nI nF) (nI nC) yn yt yg ym (fun c => nI (pl c)) (fun c => nI (cf c)) (fun c => nI (ct c)) aK eB eE eA eL eN eC eS eW eT) U.heap ∧ va_K (dC, dI) kls (tyC cI) U ∧ va_D (fun _ => True) (wC h cI (nI nF) (nI nC) yn yt yg ym (fun c => nI (pl c)) (fun c => nI (cf c)) (fun c => nI (ct c)) aK eB eE eA eL eN eC eS eW eT) ∧ xT sa U ∧ xZ (va_A (wC h cI (nI nF) (nI nC) yn yt yg ym (fun c => nI (pl c)) (fun c => nI (cf c)) (fun c => nI (ct c)) aK eB eE eA eL eN eC eS eW eT) sz) U U.heap)) (va_Qi (fun (_ : Int32) (_ : Unit) => False) (fun _ _ => True) (va_A (wC h cI (nI nF) (nI nC) yn yt yg ym (fun c => nI (pl c)) (fun c => nI (cf c)) (fun c => nI (ct c)) aK eB eE eA eL eN eC eS eW eT) sz)) (vx_X (fun (u : Unit) => True) (fun (E : String) (u : Unit) (t : State) => E = "java/lang/IndexOutOfBoundsException" ∧ va_P (dC, dI) kls (wC h cI (nI nF) (nI nC) yn yt yg ym (fun c => nI (pl c)) (fun c => nI (cf c)) (fun c => nI (ct c)) aK eB eE eA eL eN eC eS eW eT) t.heap ∧ va_K (dC, dI) kls (tyC cI) t ∧ va_D (va_A (wC h cI (nI nF) (nI nC) yn yt yg ym (fun c => nI (pl c)) (fun c => nI (cf c)) (fun c => nI (ct c)) aK eB eE eA eL eN eC eS eW eT) sz) (wC h cI (nI nF) (nI nC) yn yt yg ym (fun c => nI (pl c)) (fun c => nI (cf c)) (fun c => nI (ct c)) aK eB eE eA eL eN eC eS eW eT)) (va_A (wC h cI (nI nF) (nI nC) yn yt yg ym (fun c => nI (pl c)) (fun c => nI (cf c)) (fun c => nI (ct c)) aK eB eE eA eL eN eC eS eW eT) sz)) 1 6 (va_A (wC h cI (nI nF) (nI nC) yn yt yg ym (fun c => nI (pl c)) (fun c => nI (cf c)) (fun c => nI (ct c)) aK eB eE eA eL eN eC eS eW eT) sz) := by
  refine vx_ofW (cc := c_X_graph) (maxL := 4) (ret := (some .int)) (by decide) rfl ?_
  intro p e s m args below meth c s₁ B hml htab hv
  obtain ⟨rfl, hsz, hP, hK, hD0, hT, hZ⟩ := hv
  have hx := B.exec
  have hb := B.bytes
  have hr := B.returns
  have hts := atoms_spec (ws := wx_X_graph) B.pre
  have hkx : ∀ w ∈ wXw, w.before _ s = true := fun w h => hts w (List.mem_cons_of_mem _ h)
  have hk : ∀ w ∈ wCw, w.before _ s = true := fun w h => hkx w (List.mem_append_right _ h)
  have hown : s.vm.findClass R_X = some m.cls := findClass_of_methodNamed B.named
  have hlocks := B.notSynchronized
  subst hsz
  have hD := hD0.self (sz := s.heap.size)
  generalize hAe : va_A (wC h cI (nI nF) (nI nC) yn yt yg ym (fun c => nI (pl c)) (fun c => nI (cf c)) (fun c => nI (ct c)) aK eB eE eA eL eN eC eS eW eT) s.heap.size = A at hD hZ ⊢
  have hA : ∀ q : Nat, s.heap.size ≤ q → A q := fun q h => by rw [← hAe]; exact Or.inr h
  have hS : va_S A s.heap s.heap [] := va_S.rf
  have hl := lv_entry ([.ref (h 0), .int f, .int g, .int q]) (n := 4) (Nat.le_of_ble_eq_true rfl)
  rw [lg_entry_eq]
  generalize (lg_sl ([.ref (h 0), .int f, .int g, .int q]) ++ List.replicate (4 - (lg_sl ([.ref (h 0), .int f, .int g, .int q])).length) Slot.unset).toArray = ls at hl ⊢
  have hl : lv_has ls 4 [(0, .ref (h 0)), (1, .int f), (2, .int g), (3, .int q)] := hl
  refine lv_aload_n hx hb d_X_graph_0 rfl (lv_at hl 0 rfl) ?_
  refine va_get (D := (dC, dI)) (ci := 4) (v := .ref (h 1)) (C := R_X) (T := F_X) (N := 3) hx hb hk k_f_X hown hK hP 0 rfl rfl 0 (by decide) (hk _ k_C_67) (fun _ h9 => h9) rfl d_X_graph_1 ?_
  refine lv_iload_n hx hb d_X_graph_4 rfl (lv_at hl 1 rfl) ?_
  have hFc := va_free (wc := wC h cI (nI nF) (nI nC) yn yt yg ym (fun c => nI (pl c)) (fun c => nI (cf c)) (fun c => nI (ct c)) aK eB eE eA eL eN eC eS eW eT) hD hS hA [0, 1, 2, 3, 4, 5, 6, 7, 8, 9, 10, 11, 12, 13, 14, 15, 16] rfl
  refine va_calli (va_runV (As := [.int f]) (rest := []) ⟨hx, hb, hml, hown, hk⟩ (c_P_hasFunction_ok l dC dI cI h s.heap.size yn yt yg ym aK eB eE eA eL eN eC eS eW eT nF nC pl cf ct f (by omega)) (cwV 1 hk g_X_53 rfl rfl rfl (by decide +kernel) ⟨Nat.le_of_ble_eq_true rfl, Nat.le_of_ble_eq_true rfl⟩) ⟨fun a U g mk q => by obtain ⟨q0, q1, qP, qK, qD⟩ := q; exact ⟨q0, q1, qP, va_K.moved (u := U) (U := U.calling g mk a) (Vm.Alike.refl U.vm) qK, qD⟩, va_recv hK hP (ci := 1) (q0 := 1) rfl rfl, fun U hU hW => ⟨rfl, by rw [hU], by rw [hU]; exact hP, va_K.moved hW.alike hK, hD.weaken (fun _ _ _ _ => trivial)⟩⟩ rfl rfl hl.1 rfl (lv_room (Nat.le_of_ble_eq_true rfl)) d_X_graph_5 ⟨Nat.le_of_ble_eq_true rfl, Nat.le_of_ble_eq_true rfl⟩) hS (fun q _ h => hFc q h) hFc (fun r1 u9 t H1 locs ht hvm hw hB hz1 hk1 hS => ?_)
  obtain ⟨hP1, hK1, hD1⟩ := hB
  rw [ht] at hP1
  try dsimp only at hw
  obtain ⟨hP, hD⟩ := va_join (wr := []) (w1 := wC h cI (nI nF) (nI nC) yn yt yg ym (fun c => nI (pl c)) (fun c => nI (cf c)) (fun c => nI (ct c)) aK eB eE eA eL eN eC eS eW eT) hP hD [0, 1, 2, 3, 4, 5, 6, 7, 8, 9, 10, 11, 12, 13, 14, 15, 16] [] rfl rfl (by decide) (by decide) hk1 hFc hP1 hD1
  generalize H1 = H at hP hS ⊢
  have hP : va_P (dC, dI) kls (wC h cI (nI nF) (nI nC) yn yt yg ym (fun c => nI (pl c)) (fun c => nI (cf c)) (fun c => nI (ct c)) aK eB eE eA eL eN eC eS eW eT) H := hP
  have hD : va_D A (wC h cI (nI nF) (nI nC) yn yt yg ym (fun c => nI (pl c)) (fun c => nI (cf c)) (fun c => nI (ct c)) aK eB eE eA eL eN eC eS eW eT) := hD
  rcases hw with ⟨hr9, i1, hi1, hfj⟩ | ⟨hr9, hno_f⟩
  · subst hr9
    subst hfj
    refine lv_if_eq (tgt := 22) hx hb d_X_graph_8 (by decide) (fun c9 => absurd c9 (by decide +kernel)) (fun _ => ?_)
    refine lv_aload_n hx hb d_X_graph_11 rfl (lv_at hl 0 rfl) ?_
    refine va_get (D := (dC, dI)) (ci := 4) (v := .ref (h 1)) (C := R_X) (T := F_X) (N := 3) hx hb hk k_f_X hown hK hP 0 rfl rfl 0 (by decide) (hk _ k_C_67) (fun _ h9 => h9) rfl d_X_graph_12 ?_
    refine lv_iload_n hx hb d_X_graph_15 rfl (lv_at hl 2 rfl) ?_
    have hFc := va_free (wc := wC h cI (nI nF) (nI nC) yn yt yg ym (fun c => nI (pl c)) (fun c => nI (cf c)) (fun c => nI (ct c)) aK eB eE eA eL eN eC eS eW eT) hD hS hA [0, 1, 2, 3, 4, 5, 6, 7, 8, 9, 10, 11, 12, 13, 14, 15, 16] rfl
    refine va_calli (va_runV (As := [.int g]) (rest := []) ⟨hx, hb, hml, hown, hk⟩ (c_P_hasFunction_ok l dC dI cI h H.size yn yt yg ym aK eB eE eA eL eN eC eS eW eT nF nC pl cf ct g (by omega)) (cwV 1 hk g_X_53 rfl rfl rfl (by decide +kernel) ⟨Nat.le_of_ble_eq_true rfl, Nat.le_of_ble_eq_true rfl⟩) ⟨fun a U g mk q => by obtain ⟨q0, q1, qP, qK, qD⟩ := q; exact ⟨q0, q1, qP, va_K.moved (u := U) (U := U.calling g mk a) (Vm.Alike.refl U.vm) qK, qD⟩, va_recv hK hP (ci := 1) (q0 := 1) rfl rfl, fun U hU hW => ⟨rfl, by rw [hU], by rw [hU]; exact hP, va_K.moved hW.alike hK, hD.weaken (fun _ _ _ _ => trivial)⟩⟩ rfl rfl hl.1 rfl (lv_room (Nat.le_of_ble_eq_true rfl)) d_X_graph_16 ⟨Nat.le_of_ble_eq_true rfl, Nat.le_of_ble_eq_true rfl⟩) hS (fun q _ h => hFc q h) hFc (fun r2 u9 t H1 locs ht hvm hw hB hz1 hk1 hS => ?_)
    obtain ⟨hP1, hK1, hD1⟩ := hB
    rw [ht] at hP1
    try dsimp only at hw
    obtain ⟨hP, hD⟩ := va_join (wr := []) (w1 := wC h cI (nI nF) (nI nC) yn yt yg ym (fun c => nI (pl c)) (fun c => nI (cf c)) (fun c => nI (ct c)) aK eB eE eA eL eN eC eS eW eT) hP hD [0, 1, 2, 3, 4, 5, 6, 7, 8, 9, 10, 11, 12, 13, 14, 15, 16] [] rfl rfl (by decide) (by decide) hk1 hFc hP1 hD1
    generalize H1 = H at hP hS ⊢
    have hP : va_P (dC, dI) kls (wC h cI (nI nF) (nI nC) yn yt yg ym (fun c => nI (pl c)) (fun c => nI (cf c)) (fun c => nI (ct c)) aK eB eE eA eL eN eC eS eW eT) H := hP
    have hD : va_D A (wC h cI (nI nF) (nI nC) yn yt yg ym (fun c => nI (pl c)) (fun c => nI (cf c)) (fun c => nI (ct c)) aK eB eE eA eL eN eC eS eW eT) := hD
    rcases hw with ⟨hr9, j1, hj1, hfj⟩ | ⟨hr9, hno_g⟩
    · subst hr9
      subst hfj
      refine lv_if_ne (tgt := 32) hx hb d_X_graph_19 (by decide) (fun _ => ?_) (fun c9 => absurd c9 (by decide +kernel))
      exact absurd ⟨⟨i1, hi1, rfl⟩, ⟨j1, hj1, rfl⟩⟩ hno
    · subst hr9
      refine lv_if_ne (tgt := 32) hx hb d_X_graph_19 (by decide) (fun c9 => absurd c9 (by decide +kernel)) (fun _ => ?_)
      exact vx_throwS (own := R_X) (cls := "java/lang/IndexOutOfBoundsException") (text := "no such function") (names := ["java/lang/RuntimeException", "java/lang/Exception"]) (A := A) hx hb hst hown (by decide +kernel) (by decide +kernel) (hkx _ kx_c_IndexOutOfBoundsException) (hkx _ kx_i_IndexOutOfBoundsException) hT.2.2.2.2.2.2.2.2.2.1 (xa_IndexOutOfBoundsException hkx hT) xg_IndexOutOfBoundsException hZ.1 hZ.2 hS (hl.1.trans hml.symm) d_X_graph_22 d_X_graph_25 d_X_graph_26 d_X_graph_28 d_X_graph_31 (fun x h9 => (htab x h9).elim) (Nat.le_of_ble_eq_true rfl) (Nat.le_of_ble_eq_true rfl) (Nat.le_of_ble_eq_true rfl) (Nat.le_of_ble_eq_true rfl) hlocks (fun t ha hz hq => ⟨(), trivial, ⟨rfl, hP.kept (fun k q h9 => hq _ (vx_lt hP h9)), va_K.moved ha hK, hD⟩, xF hS hz hq⟩) hS.2.2 (Nat.le_of_ble_eq_true rfl) (Nat.le_of_ble_eq_true rfl)
  · subst hr9
    refine lv_if_eq (tgt := 22) hx hb d_X_graph_8 (by decide) (fun _ => ?_) (fun c9 => absurd c9 (by decide +kernel))
    exact vx_throwS (own := R_X) (cls := "java/lang/IndexOutOfBoundsException") (text := "no such function") (names := ["java/lang/RuntimeException", "java/lang/Exception"]) (A := A) hx hb hst hown (by decide +kernel) (by decide +kernel) (hkx _ kx_c_IndexOutOfBoundsException) (hkx _ kx_i_IndexOutOfBoundsException) hT.2.2.2.2.2.2.2.2.2.1 (xa_IndexOutOfBoundsException hkx hT) xg_IndexOutOfBoundsException hZ.1 hZ.2 hS (hl.1.trans hml.symm) d_X_graph_22 d_X_graph_25 d_X_graph_26 d_X_graph_28 d_X_graph_31 (fun x h9 => (htab x h9).elim) (Nat.le_of_ble_eq_true rfl) (Nat.le_of_ble_eq_true rfl) (Nat.le_of_ble_eq_true rfl) (Nat.le_of_ble_eq_true rfl) hlocks (fun t ha hz hq => ⟨(), trivial, ⟨rfl, hP.kept (fun k q h9 => hq _ (vx_lt hP h9)), va_K.moved ha hK, hD⟩, xF hS hz hq⟩) hS.2.2 (Nat.le_of_ble_eq_true rfl) (Nat.le_of_ble_eq_true rfl)
set_option maxHeartbeats 4000000 in
set_option maxRecDepth 100000 in
theorem c_X_falls_x1 (l : Launch) (hst : l.stackTraces = false) (dC : Nat → ClassId) (dI : Nat → Nat → Nat) (cI : ClassId) (h : Nat → Nat) (sz : Nat) (yn yt yg ym : Int32) (aK eB eE eA eL eN eC eS eW eT : Nat → Int32) (nF nC : Nat) (pl cf ct : Nat → Nat) (f : Int32) (sa : Nat → Nat) (hF : nF ≤ 10) (hno : ¬ ∃ i, i < nF ∧ f = nI i) : vx_Met l y_X_falls wx_X_falls ({ frames := 6, cells := 1, slots := 6, locals := 82 }) (va_Pc [.ref (h 0), .int f] (fun U => U.heap.size = sz ∧ va_P (dC, dI) kls (wC h cI (nI nF) (nI nC) yn yt yg ym (fun c => nI (pl c)) (fun c => nI (cf c)) (fun c => nI (ct c)) aK eB eE eA eL eN eC eS eW eT) U.heap ∧ va_K (dC, dI) kls (tyC cI) U ∧ va_D (fun _ => True) (wC h cI (nI nF) (nI nC) yn yt yg ym (fun c => nI (pl c)) (fun c => nI (cf c)) (fun c => nI (ct c)) aK eB eE eA eL eN eC eS eW eT) ∧ xT sa U ∧ xZ (va_A (wC h cI (nI nF) (nI nC) yn yt yg ym (fun c => nI (pl c)) (fun c => nI (cf c)) (fun c => nI (ct c)) aK eB eE eA eL eN eC eS eW eT) sz) U U.heap)) (va_Qi (fun (_ : Int32) (_ : Unit) => False) (fun _ _ => True) (va_A (wC h cI (nI nF) (nI nC) yn yt yg ym (fun c => nI (pl c)) (fun c => nI (cf c)) (fun c => nI (ct c)) aK eB eE eA eL eN eC eS eW eT) sz)) (vx_X (fun (u : Unit) => True) (fun (E : String) (u : Unit) (t : State) => E = "java/lang/IndexOutOfBoundsException" ∧ va_P (dC, dI) kls (wC h cI (nI nF) (nI nC) yn yt yg ym (fun c => nI (pl c)) (fun c => nI (cf c)) (fun c => nI (ct c)) aK eB eE eA eL eN eC eS eW eT) t.heap ∧ va_K (dC, dI) kls (tyC cI) t ∧ va_D (va_A (wC h cI (nI nF) (nI nC) yn yt yg ym (fun c => nI (pl c)) (fun c => nI (cf c)) (fun c => nI (ct c)) aK eB eE eA eL eN eC eS eW eT) sz) (wC h cI (nI nF) (nI nC) yn yt yg ym (fun c => nI (pl c)) (fun c => nI (cf c)) (fun c => nI (ct c)) aK eB eE eA eL eN eC eS eW eT)) (va_A (wC h cI (nI nF) (nI nC) yn yt yg ym (fun c => nI (pl c)) (fun c => nI (cf c)) (fun c => nI (ct c)) aK eB eE eA eL eN eC eS eW eT) sz)) 1 6 (va_A (wC h cI (nI nF) (nI nC) yn yt yg ym (fun c => nI (pl c)) (fun c => nI (cf c)) (fun c => nI (ct c)) aK eB eE eA eL eN eC eS eW eT) sz) := by
  refine vx_ofW (cc := c_X_falls) (maxL := 2) (ret := (some .boolean)) (by decide) rfl ?_
  intro p e s m args below meth c s₁ B hml htab hv
  obtain ⟨rfl, hsz, hP, hK, hD0, hT, hZ⟩ := hv
  have hx := B.exec
  have hb := B.bytes
  have hr := B.returns
  have hts := atoms_spec (ws := wx_X_falls) B.pre
  have hkx : ∀ w ∈ wXw, w.before _ s = true := fun w h => hts w (List.mem_cons_of_mem _ h)
  have hk : ∀ w ∈ wCw, w.before _ s = true := fun w h => hkx w (List.mem_append_right _ h)
  have hown : s.vm.findClass R_X = some m.cls := findClass_of_methodNamed B.named
  have hlocks := B.notSynchronized
  subst hsz
  have hD := hD0.self (sz := s.heap.size)
  generalize hAe : va_A (wC h cI (nI nF) (nI nC) yn yt yg ym (fun c => nI (pl c)) (fun c => nI (cf c)) (fun c => nI (ct c)) aK eB eE eA eL eN eC eS eW eT) s.heap.size = A at hD hZ ⊢
  have hA : ∀ q : Nat, s.heap.size ≤ q → A q := fun q h => by rw [← hAe]; exact Or.inr h
  have hS : va_S A s.heap s.heap [] := va_S.rf
  have hl := lv_entry ([.ref (h 0), .int f]) (n := 2) (Nat.le_of_ble_eq_true rfl)
  rw [lg_entry_eq]
  generalize (lg_sl ([.ref (h 0), .int f]) ++ List.replicate (2 - (lg_sl ([.ref (h 0), .int f])).length) Slot.unset).toArray = ls at hl ⊢
  have hl : lv_has ls 2 [(0, .ref (h 0)), (1, .int f)] := hl
  refine lv_aload_n hx hb d_X_falls_0 rfl (lv_at hl 0 rfl) ?_
  refine va_get (D := (dC, dI)) (ci := 4) (v := .ref (h 1)) (C := R_X) (T := F_X) (N := 3) hx hb hk k_f_X hown hK hP 0 rfl rfl 0 (by decide) (hk _ k_C_67) (fun _ h9 => h9) rfl d_X_falls_1 ?_
  refine lv_iload_n hx hb d_X_falls_4 rfl (lv_at hl 1 rfl) ?_
  have hFc := va_free (wc := wC h cI (nI nF) (nI nC) yn yt yg ym (fun c => nI (pl c)) (fun c => nI (cf c)) (fun c => nI (ct c)) aK eB eE eA eL eN eC eS eW eT) hD hS hA [0, 1, 2, 3, 4, 5, 6, 7, 8, 9, 10, 11, 12, 13, 14, 15, 16] rfl
  refine va_calli (va_runV (As := [.int f]) (rest := []) ⟨hx, hb, hml, hown, hk⟩ (c_P_hasFunction_ok l dC dI cI h s.heap.size yn yt yg ym aK eB eE eA eL eN eC eS eW eT nF nC pl cf ct f (by omega)) (cwV 1 hk g_X_53 rfl rfl rfl (by decide +kernel) ⟨Nat.le_of_ble_eq_true rfl, Nat.le_of_ble_eq_true rfl⟩) ⟨fun a U g mk q => by obtain ⟨q0, q1, qP, qK, qD⟩ := q; exact ⟨q0, q1, qP, va_K.moved (u := U) (U := U.calling g mk a) (Vm.Alike.refl U.vm) qK, qD⟩, va_recv hK hP (ci := 1) (q0 := 1) rfl rfl, fun U hU hW => ⟨rfl, by rw [hU], by rw [hU]; exact hP, va_K.moved hW.alike hK, hD.weaken (fun _ _ _ _ => trivial)⟩⟩ rfl rfl hl.1 rfl (lv_room (Nat.le_of_ble_eq_true rfl)) d_X_falls_5 ⟨Nat.le_of_ble_eq_true rfl, Nat.le_of_ble_eq_true rfl⟩) hS (fun q _ h => hFc q h) hFc (fun r1 u9 t H1 locs ht hvm hw hB hz1 hk1 hS => ?_)
  obtain ⟨hP1, hK1, hD1⟩ := hB
  rw [ht] at hP1
  try dsimp only at hw
  obtain ⟨hP, hD⟩ := va_join (wr := []) (w1 := wC h cI (nI nF) (nI nC) yn yt yg ym (fun c => nI (pl c)) (fun c => nI (cf c)) (fun c => nI (ct c)) aK eB eE eA eL eN eC eS eW eT) hP hD [0, 1, 2, 3, 4, 5, 6, 7, 8, 9, 10, 11, 12, 13, 14, 15, 16] [] rfl rfl (by decide) (by decide) hk1 hFc hP1 hD1
  generalize H1 = H at hP hS ⊢
  have hP : va_P (dC, dI) kls (wC h cI (nI nF) (nI nC) yn yt yg ym (fun c => nI (pl c)) (fun c => nI (cf c)) (fun c => nI (ct c)) aK eB eE eA eL eN eC eS eW eT) H := hP
  have hD : va_D A (wC h cI (nI nF) (nI nC) yn yt yg ym (fun c => nI (pl c)) (fun c => nI (cf c)) (fun c => nI (ct c)) aK eB eE eA eL eN eC eS eW eT) := hD
  rcases hw with ⟨hr9, i1, hi1, hfj⟩ | ⟨hr9, hno_f⟩
  · subst hr9
    subst hfj
    refine lv_if_ne (tgt := 21) hx hb d_X_falls_8 (by decide) (fun _ => ?_) (fun c9 => absurd c9 (by decide +kernel))
    exact absurd ⟨i1, hi1, rfl⟩ hno
  · subst hr9
    refine lv_if_ne (tgt := 21) hx hb d_X_falls_8 (by decide) (fun c9 => absurd c9 (by decide +kernel)) (fun _ => ?_)
    exact vx_throwS (own := R_X) (cls := "java/lang/IndexOutOfBoundsException") (text := "no such function") (names := ["java/lang/RuntimeException", "java/lang/Exception"]) (A := A) hx hb hst hown (by decide +kernel) (by decide +kernel) (hkx _ kx_c_IndexOutOfBoundsException) (hkx _ kx_i_IndexOutOfBoundsException) hT.2.2.2.2.2.2.2.2.2.1 (xa_IndexOutOfBoundsException hkx hT) xg_IndexOutOfBoundsException hZ.1 hZ.2 hS (hl.1.trans hml.symm) d_X_falls_11 d_X_falls_14 d_X_falls_15 d_X_falls_17 d_X_falls_20 (fun x h9 => (htab x h9).elim) (Nat.le_of_ble_eq_true rfl) (Nat.le_of_ble_eq_true rfl) (Nat.le_of_ble_eq_true rfl) (Nat.le_of_ble_eq_true rfl) hlocks (fun t ha hz hq => ⟨(), trivial, ⟨rfl, hP.kept (fun k q h9 => hq _ (vx_lt hP h9)), va_K.moved ha hK, hD⟩, xF hS hz hq⟩) hS.2.2 (Nat.le_of_ble_eq_true rfl) (Nat.le_of_ble_eq_true rfl)
set_option maxHeartbeats 4000000 in
set_option maxRecDepth 100000 in
theorem c_X_isSafe_x1 (l : Launch) (hst : l.stackTraces = false) (dC : Nat → ClassId) (dI : Nat → Nat → Nat) (cI : ClassId) (h : Nat → Nat) (sz : Nat) (yn yt yg ym : Int32) (aK eB eE eA eL eN eC eS eW eT : Nat → Int32) (nF nC : Nat) (pl cf ct : Nat → Nat) (f : Int32) (sa : Nat → Nat) (hF : nF ≤ 10) (hno : ¬ ∃ i, i < nF ∧ f = nI i) : vx_Met l y_X_isSafe wx_X_isSafe ({ frames := 6, cells := 1, slots := 6, locals := 82 }) (va_Pc [.ref (h 0), .int f] (fun U => U.heap.size = sz ∧ va_P (dC, dI) kls (wC h cI (nI nF) (nI nC) yn yt yg ym (fun c => nI (pl c)) (fun c => nI (cf c)) (fun c => nI (ct c)) aK eB eE eA eL eN eC eS eW eT) U.heap ∧ va_K (dC, dI) kls (tyC cI) U ∧ va_D (fun _ => True) (wC h cI (nI nF) (nI nC) yn yt yg ym (fun c => nI (pl c)) (fun c => nI (cf c)) (fun c => nI (ct c)) aK eB eE eA eL eN eC eS eW eT) ∧ xT sa U ∧ xZ (va_A (wC h cI (nI nF) (nI nC) yn yt yg ym (fun c => nI (pl c)) (fun c => nI (cf c)) (fun c => nI (ct c)) aK eB eE eA eL eN eC eS eW eT) sz) U U.heap)) (va_Qi (fun (_ : Int32) (_ : Unit) => False) (fun _ _ => True) (va_A (wC h cI (nI nF) (nI nC) yn yt yg ym (fun c => nI (pl c)) (fun c => nI (cf c)) (fun c => nI (ct c)) aK eB eE eA eL eN eC eS eW eT) sz)) (vx_X (fun (u : Unit) => True) (fun (E : String) (u : Unit) (t : State) => E = "java/lang/IndexOutOfBoundsException" ∧ va_P (dC, dI) kls (wC h cI (nI nF) (nI nC) yn yt yg ym (fun c => nI (pl c)) (fun c => nI (cf c)) (fun c => nI (ct c)) aK eB eE eA eL eN eC eS eW eT) t.heap ∧ va_K (dC, dI) kls (tyC cI) t ∧ va_D (va_A (wC h cI (nI nF) (nI nC) yn yt yg ym (fun c => nI (pl c)) (fun c => nI (cf c)) (fun c => nI (ct c)) aK eB eE eA eL eN eC eS eW eT) sz) (wC h cI (nI nF) (nI nC) yn yt yg ym (fun c => nI (pl c)) (fun c => nI (cf c)) (fun c => nI (ct c)) aK eB eE eA eL eN eC eS eW eT)) (va_A (wC h cI (nI nF) (nI nC) yn yt yg ym (fun c => nI (pl c)) (fun c => nI (cf c)) (fun c => nI (ct c)) aK eB eE eA eL eN eC eS eW eT) sz)) 1 6 (va_A (wC h cI (nI nF) (nI nC) yn yt yg ym (fun c => nI (pl c)) (fun c => nI (cf c)) (fun c => nI (ct c)) aK eB eE eA eL eN eC eS eW eT) sz) := by
  refine vx_ofW (cc := c_X_isSafe) (maxL := 4) (ret := (some .boolean)) (by decide) rfl ?_
  intro p e s m args below meth c s₁ B hml htab hv
  obtain ⟨rfl, hsz, hP, hK, hD0, hT, hZ⟩ := hv
  have hx := B.exec
  have hb := B.bytes
  have hr := B.returns
  have hts := atoms_spec (ws := wx_X_isSafe) B.pre
  have hkx : ∀ w ∈ wXw, w.before _ s = true := fun w h => hts w (List.mem_cons_of_mem _ h)
  have hk : ∀ w ∈ wCw, w.before _ s = true := fun w h => hkx w (List.mem_append_right _ h)
  have hown : s.vm.findClass R_X = some m.cls := findClass_of_methodNamed B.named
  have hlocks := B.notSynchronized
  subst hsz
  have hD := hD0.self (sz := s.heap.size)
  generalize hAe : va_A (wC h cI (nI nF) (nI nC) yn yt yg ym (fun c => nI (pl c)) (fun c => nI (cf c)) (fun c => nI (ct c)) aK eB eE eA eL eN eC eS eW eT) s.heap.size = A at hD hZ ⊢
  have hA : ∀ q : Nat, s.heap.size ≤ q → A q := fun q h => by rw [← hAe]; exact Or.inr h
  have hS : va_S A s.heap s.heap [] := va_S.rf
  have hl := lv_entry ([.ref (h 0), .int f]) (n := 4) (Nat.le_of_ble_eq_true rfl)
  rw [lg_entry_eq]
  generalize (lg_sl ([.ref (h 0), .int f]) ++ List.replicate (4 - (lg_sl ([.ref (h 0), .int f])).length) Slot.unset).toArray = ls at hl ⊢
  have hl : lv_has ls 4 [(0, .ref (h 0)), (1, .int f)] := hl
  refine lv_aload_n hx hb d_X_isSafe_0 rfl (lv_at hl 0 rfl) ?_
  refine va_get (D := (dC, dI)) (ci := 4) (v := .ref (h 1)) (C := R_X) (T := F_X) (N := 3) hx hb hk k_f_X hown hK hP 0 rfl rfl 0 (by decide) (hk _ k_C_67) (fun _ h9 => h9) rfl d_X_isSafe_1 ?_
  refine lv_iload_n hx hb d_X_isSafe_4 rfl (lv_at hl 1 rfl) ?_
  have hFc := va_free (wc := wC h cI (nI nF) (nI nC) yn yt yg ym (fun c => nI (pl c)) (fun c => nI (cf c)) (fun c => nI (ct c)) aK eB eE eA eL eN eC eS eW eT) hD hS hA [0, 1, 2, 3, 4, 5, 6, 7, 8, 9, 10, 11, 12, 13, 14, 15, 16] rfl
  refine va_calli (va_runV (As := [.int f]) (rest := []) ⟨hx, hb, hml, hown, hk⟩ (c_P_hasFunction_ok l dC dI cI h s.heap.size yn yt yg ym aK eB eE eA eL eN eC eS eW eT nF nC pl cf ct f (by omega)) (cwV 1 hk g_X_53 rfl rfl rfl (by decide +kernel) ⟨Nat.le_of_ble_eq_true rfl, Nat.le_of_ble_eq_true rfl⟩) ⟨fun a U g mk q => by obtain ⟨q0, q1, qP, qK, qD⟩ := q; exact ⟨q0, q1, qP, va_K.moved (u := U) (U := U.calling g mk a) (Vm.Alike.refl U.vm) qK, qD⟩, va_recv hK hP (ci := 1) (q0 := 1) rfl rfl, fun U hU hW => ⟨rfl, by rw [hU], by rw [hU]; exact hP, va_K.moved hW.alike hK, hD.weaken (fun _ _ _ _ => trivial)⟩⟩ rfl rfl hl.1 rfl (lv_room (Nat.le_of_ble_eq_true rfl)) d_X_isSafe_5 ⟨Nat.le_of_ble_eq_true rfl, Nat.le_of_ble_eq_true rfl⟩) hS (fun q _ h => hFc q h) hFc (fun r1 u9 t H1 locs ht hvm hw hB hz1 hk1 hS => ?_)
  obtain ⟨hP1, hK1, hD1⟩ := hB
  rw [ht] at hP1
  try dsimp only at hw
  obtain ⟨hP, hD⟩ := va_join (wr := []) (w1 := wC h cI (nI nF) (nI nC) yn yt yg ym (fun c => nI (pl c)) (fun c => nI (cf c)) (fun c => nI (ct c)) aK eB eE eA eL eN eC eS eW eT) hP hD [0, 1, 2, 3, 4, 5, 6, 7, 8, 9, 10, 11, 12, 13, 14, 15, 16] [] rfl rfl (by decide) (by decide) hk1 hFc hP1 hD1
  generalize H1 = H at hP hS ⊢
  have hP : va_P (dC, dI) kls (wC h cI (nI nF) (nI nC) yn yt yg ym (fun c => nI (pl c)) (fun c => nI (cf c)) (fun c => nI (ct c)) aK eB eE eA eL eN eC eS eW eT) H := hP
  have hD : va_D A (wC h cI (nI nF) (nI nC) yn yt yg ym (fun c => nI (pl c)) (fun c => nI (cf c)) (fun c => nI (ct c)) aK eB eE eA eL eN eC eS eW eT) := hD
  rcases hw with ⟨hr9, i1, hi1, hfj⟩ | ⟨hr9, hno_f⟩
  · subst hr9
    subst hfj
    refine lv_if_ne (tgt := 21) hx hb d_X_isSafe_8 (by decide) (fun _ => ?_) (fun c9 => absurd c9 (by decide +kernel))
    exact absurd ⟨i1, hi1, rfl⟩ hno
  · subst hr9
    refine lv_if_ne (tgt := 21) hx hb d_X_isSafe_8 (by decide) (fun c9 => absurd c9 (by decide +kernel)) (fun _ => ?_)
    exact vx_throwS (own := R_X) (cls := "java/lang/IndexOutOfBoundsException") (text := "no such function") (names := ["java/lang/RuntimeException", "java/lang/Exception"]) (A := A) hx hb hst hown (by decide +kernel) (by decide +kernel) (hkx _ kx_c_IndexOutOfBoundsException) (hkx _ kx_i_IndexOutOfBoundsException) hT.2.2.2.2.2.2.2.2.2.1 (xa_IndexOutOfBoundsException hkx hT) xg_IndexOutOfBoundsException hZ.1 hZ.2 hS (hl.1.trans hml.symm) d_X_isSafe_11 d_X_isSafe_14 d_X_isSafe_15 d_X_isSafe_17 d_X_isSafe_20 (fun x h9 => (htab x h9).elim) (Nat.le_of_ble_eq_true rfl) (Nat.le_of_ble_eq_true rfl) (Nat.le_of_ble_eq_true rfl) (Nat.le_of_ble_eq_true rfl) hlocks (fun t ha hz hq => ⟨(), trivial, ⟨rfl, hP.kept (fun k q h9 => hq _ (vx_lt hP h9)), va_K.moved ha hK, hD⟩, xF hS hz hq⟩) hS.2.2 (Nat.le_of_ble_eq_true rfl) (Nat.le_of_ble_eq_true rfl)
set_option maxHeartbeats 4000000 in
set_option maxRecDepth 100000 in
theorem c_X_graph_x2 (l : Launch) (hst : l.stackTraces = false) (dC : Nat → ClassId) (dI : Nat → Nat → Nat) (cI : ClassId) (h : Nat → Nat) (sz : Nat) (yn yt ym : Int32) (aK eB eE eA eL eN eC eS eW eT : Nat → Int32) (nF nC : Nat) (pl cf ct : Nat → Nat) (K ga : Nat) (i1 j1 : Nat) (q : Int32) (sa : Nat → Nat) (hF : nF ≤ 10) (hC : nC ≤ 20) (hS0 : ∀ c, c < nC → cf c < nF ∧ ct c < nF) (hpl : ∀ i, i < nF → 1 ≤ pl i ∧ pl i ≤ 4) (hK8 : 801 ≤ K) (hcl : ∀ c, c < nC → clN (aK c)) (hga : ga = 0 ∨ (ga = 1 ∧ GI nC cf ct aK K nF yn yt eB eE eA eL eS eW)) (hfew : gN nC cf ct aK cj K nF ≤ 800) (hi1 : i1 < nF) (hj1 : j1 < nF) (hq : ¬ ∃ k, k < (bitsL (gF nC cf ct aK cj K i1) j1).length ∧ q = nI k) : vx_Met l y_X_graph wx_X_graph ({ frames := 7, cells := 1, slots := 6, locals := 137 }) (va_Pc [.ref (h 0), .int (nI i1), .int (nI j1), .int q] (fun U => U.heap.size = sz ∧ va_P (dC, dI) kls (wC h cI (nI nF) (nI nC) yn yt (nI ga) ym (fun c => nI (pl c)) (fun c => nI (cf c)) (fun c => nI (ct c)) aK eB eE eA eL eN eC eS eW eT) U.heap ∧ va_K (dC, dI) kls (tyC cI) U ∧ va_D (fun _ => True) (wC h cI (nI nF) (nI nC) yn yt (nI ga) ym (fun c => nI (pl c)) (fun c => nI (cf c)) (fun c => nI (ct c)) aK eB eE eA eL eN eC eS eW eT) ∧ xT sa U ∧ xZ (va_A (wC h cI (nI nF) (nI nC) yn yt (nI ga) ym (fun c => nI (pl c)) (fun c => nI (cf c)) (fun c => nI (ct c)) aK eB eE eA eL eN eC eS eW eT) sz) U U.heap)) (va_Qi (fun (_ : Int32) (_ : Unit) => False) (fun _ _ => True) (va_A (wC h cI (nI nF) (nI nC) yn yt (nI ga) ym (fun c => nI (pl c)) (fun c => nI (cf c)) (fun c => nI (ct c)) aK eB eE eA eL eN eC eS eW eT) sz)) (vx_X (fun (u : Int32 × Int32 × Int32 × (Nat → Int32) × (Nat → Int32) × (Nat → Int32) × (Nat → Int32) × (Nat → Int32) × (Nat → Int32) × (Nat → Int32) × (Nat → Int32)) => u.2.1 = nI 0 ∧ u.2.2.1 = nI 1 ∧ gOk nC cf ct aK K nF u.1 u.2.2.2.1 u.2.2.2.2.1 u.2.2.2.2.2.1 u.2.2.2.2.2.2.1 u.2.2.2.2.2.2.2.2.2.1 u.2.2.2.2.2.2.2.2.2.2) (fun (E : String) (u : Int32 × Int32 × Int32 × (Nat → Int32) × (Nat → Int32) × (Nat → Int32) × (Nat → Int32) × (Nat → Int32) × (Nat → Int32) × (Nat → Int32) × (Nat → Int32)) (t : State) => E = "java/lang/IndexOutOfBoundsException" ∧ va_P (dC, dI) kls (wC h cI (nI nF) (nI nC) u.1 u.2.1 u.2.2.1 ym (fun c => nI (pl c)) (fun c => nI (cf c)) (fun c => nI (ct c)) aK u.2.2.2.1 u.2.2.2.2.1 u.2.2.2.2.2.1 u.2.2.2.2.2.2.1 u.2.2.2.2.2.2.2.1 u.2.2.2.2.2.2.2.2.1 u.2.2.2.2.2.2.2.2.2.1 u.2.2.2.2.2.2.2.2.2.2 eT) t.heap ∧ va_K (dC, dI) kls (tyC cI) t ∧ va_D (va_A (wC h cI (nI nF) (nI nC) yn yt (nI ga) ym (fun c => nI (pl c)) (fun c => nI (cf c)) (fun c => nI (ct c)) aK eB eE eA eL eN eC eS eW eT) sz) (wC h cI (nI nF) (nI nC) u.1 u.2.1 u.2.2.1 ym (fun c => nI (pl c)) (fun c => nI (cf c)) (fun c => nI (ct c)) aK u.2.2.2.1 u.2.2.2.2.1 u.2.2.2.2.2.1 u.2.2.2.2.2.2.1 u.2.2.2.2.2.2.2.1 u.2.2.2.2.2.2.2.2.1 u.2.2.2.2.2.2.2.2.2.1 u.2.2.2.2.2.2.2.2.2.2 eT)) (va_A (wC h cI (nI nF) (nI nC) yn yt (nI ga) ym (fun c => nI (pl c)) (fun c => nI (cf c)) (fun c => nI (ct c)) aK eB eE eA eL eN eC eS eW eT) sz)) 1 6 (va_A (wC h cI (nI nF) (nI nC) yn yt (nI ga) ym (fun c => nI (pl c)) (fun c => nI (cf c)) (fun c => nI (ct c)) aK eB eE eA eL eN eC eS eW eT) sz) := by
  refine vx_ofW (cc := c_X_graph) (maxL := 4) (ret := (some .int)) (by decide) rfl ?_
  intro p e s m args below meth c s₁ B hml htab hv
  obtain ⟨rfl, hsz, hP, hK, hD0, hT, hZ⟩ := hv
  have hx := B.exec
  have hb := B.bytes
  have hr := B.returns
  have hts := atoms_spec (ws := wx_X_graph) B.pre
  have hkx : ∀ w ∈ wXw, w.before _ s = true := fun w h => hts w (List.mem_cons_of_mem _ h)
  have hk : ∀ w ∈ wCw, w.before _ s = true := fun w h => hkx w (List.mem_append_right _ h)
  have hown : s.vm.findClass R_X = some m.cls := findClass_of_methodNamed B.named
  have hlocks := B.notSynchronized
  subst hsz
  have hD := hD0.self (sz := s.heap.size)
  generalize hAe : va_A (wC h cI (nI nF) (nI nC) yn yt (nI ga) ym (fun c => nI (pl c)) (fun c => nI (cf c)) (fun c => nI (ct c)) aK eB eE eA eL eN eC eS eW eT) s.heap.size = A at hD hZ ⊢
  have hA : ∀ q : Nat, s.heap.size ≤ q → A q := fun q h => by rw [← hAe]; exact Or.inr h
  have hS : va_S A s.heap s.heap [] := va_S.rf
  have hl := lv_entry ([.ref (h 0), .int (nI i1), .int (nI j1), .int q]) (n := 4) (Nat.le_of_ble_eq_true rfl)
  rw [lg_entry_eq]
  generalize (lg_sl ([.ref (h 0), .int (nI i1), .int (nI j1), .int q]) ++ List.replicate (4 - (lg_sl ([.ref (h 0), .int (nI i1), .int (nI j1), .int q])).length) Slot.unset).toArray = ls at hl ⊢
  have hl : lv_has ls 4 [(0, .ref (h 0)), (1, .int (nI i1)), (2, .int (nI j1)), (3, .int q)] := hl
  refine lv_aload_n hx hb d_X_graph_0 rfl (lv_at hl 0 rfl) ?_
  refine va_get (D := (dC, dI)) (ci := 4) (v := .ref (h 1)) (C := R_X) (T := F_X) (N := 3) hx hb hk k_f_X hown hK hP 0 rfl rfl 0 (by decide) (hk _ k_C_67) (fun _ h9 => h9) rfl d_X_graph_1 ?_
  refine lv_iload_n hx hb d_X_graph_4 rfl (lv_at hl 1 rfl) ?_
  have hFc := va_free (wc := wC h cI (nI nF) (nI nC) yn yt (nI ga) ym (fun c => nI (pl c)) (fun c => nI (cf c)) (fun c => nI (ct c)) aK eB eE eA eL eN eC eS eW eT) hD hS hA [0, 1, 2, 3, 4, 5, 6, 7, 8, 9, 10, 11, 12, 13, 14, 15, 16] rfl
  refine va_calli (va_runV (As := [.int (nI i1)]) (rest := []) ⟨hx, hb, hml, hown, hk⟩ (c_P_hasFunction_ok l dC dI cI h s.heap.size yn yt (nI ga) ym aK eB eE eA eL eN eC eS eW eT nF nC pl cf ct (nI i1) (by omega)) (cwV 1 hk g_X_53 rfl rfl rfl (by decide +kernel) ⟨Nat.le_of_ble_eq_true rfl, Nat.le_of_ble_eq_true rfl⟩) ⟨fun a U g mk q => by obtain ⟨q0, q1, qP, qK, qD⟩ := q; exact ⟨q0, q1, qP, va_K.moved (u := U) (U := U.calling g mk a) (Vm.Alike.refl U.vm) qK, qD⟩, va_recv hK hP (ci := 1) (q0 := 1) rfl rfl, fun U hU hW => ⟨rfl, by rw [hU], by rw [hU]; exact hP, va_K.moved hW.alike hK, hD.weaken (fun _ _ _ _ => trivial)⟩⟩ rfl rfl hl.1 rfl (lv_room (Nat.le_of_ble_eq_true rfl)) d_X_graph_5 ⟨Nat.le_of_ble_eq_true rfl, Nat.le_of_ble_eq_true rfl⟩) hS (fun q _ h => hFc q h) hFc (fun r1 u9 t H1 locs ht hvm hw hB hz1 hk1 hS => ?_)
  obtain ⟨hP1, hK1, hD1⟩ := hB
  rw [ht] at hP1
  try dsimp only at hw
  obtain ⟨hP, hD⟩ := va_join (wr := []) (w1 := wC h cI (nI nF) (nI nC) yn yt (nI ga) ym (fun c => nI (pl c)) (fun c => nI (cf c)) (fun c => nI (ct c)) aK eB eE eA eL eN eC eS eW eT) hP hD [0, 1, 2, 3, 4, 5, 6, 7, 8, 9, 10, 11, 12, 13, 14, 15, 16] [] rfl rfl (by decide) (by decide) hk1 hFc hP1 hD1
  generalize H1 = H at hP hS ⊢
  have hP : va_P (dC, dI) kls (wC h cI (nI nF) (nI nC) yn yt (nI ga) ym (fun c => nI (pl c)) (fun c => nI (cf c)) (fun c => nI (ct c)) aK eB eE eA eL eN eC eS eW eT) H := hP
  have hD : va_D A (wC h cI (nI nF) (nI nC) yn yt (nI ga) ym (fun c => nI (pl c)) (fun c => nI (cf c)) (fun c => nI (ct c)) aK eB eE eA eL eN eC eS eW eT) := hD
  rcases hw with ⟨hr9, -⟩ | ⟨hr9, hno9⟩
  · subst hr9
    refine lv_if_eq (tgt := 22) hx hb d_X_graph_8 (by decide) (fun c9 => absurd c9 (by decide +kernel)) (fun _ => ?_)
    refine lv_aload_n hx hb d_X_graph_11 rfl (lv_at hl 0 rfl) ?_
    refine va_get (D := (dC, dI)) (ci := 4) (v := .ref (h 1)) (C := R_X) (T := F_X) (N := 3) hx hb hk k_f_X hown hK hP 0 rfl rfl 0 (by decide) (hk _ k_C_67) (fun _ h9 => h9) rfl d_X_graph_12 ?_
    refine lv_iload_n hx hb d_X_graph_15 rfl (lv_at hl 2 rfl) ?_
    have hFc := va_free (wc := wC h cI (nI nF) (nI nC) yn yt (nI ga) ym (fun c => nI (pl c)) (fun c => nI (cf c)) (fun c => nI (ct c)) aK eB eE eA eL eN eC eS eW eT) hD hS hA [0, 1, 2, 3, 4, 5, 6, 7, 8, 9, 10, 11, 12, 13, 14, 15, 16] rfl
    refine va_calli (va_runV (As := [.int (nI j1)]) (rest := []) ⟨hx, hb, hml, hown, hk⟩ (c_P_hasFunction_ok l dC dI cI h H.size yn yt (nI ga) ym aK eB eE eA eL eN eC eS eW eT nF nC pl cf ct (nI j1) (by omega)) (cwV 1 hk g_X_53 rfl rfl rfl (by decide +kernel) ⟨Nat.le_of_ble_eq_true rfl, Nat.le_of_ble_eq_true rfl⟩) ⟨fun a U g mk q => by obtain ⟨q0, q1, qP, qK, qD⟩ := q; exact ⟨q0, q1, qP, va_K.moved (u := U) (U := U.calling g mk a) (Vm.Alike.refl U.vm) qK, qD⟩, va_recv hK hP (ci := 1) (q0 := 1) rfl rfl, fun U hU hW => ⟨rfl, by rw [hU], by rw [hU]; exact hP, va_K.moved hW.alike hK, hD.weaken (fun _ _ _ _ => trivial)⟩⟩ rfl rfl hl.1 rfl (lv_room (Nat.le_of_ble_eq_true rfl)) d_X_graph_16 ⟨Nat.le_of_ble_eq_true rfl, Nat.le_of_ble_eq_true rfl⟩) hS (fun q _ h => hFc q h) hFc (fun r2 u9 t H1 locs ht hvm hw hB hz1 hk1 hS => ?_)
    obtain ⟨hP1, hK1, hD1⟩ := hB
    rw [ht] at hP1
    try dsimp only at hw
    obtain ⟨hP, hD⟩ := va_join (wr := []) (w1 := wC h cI (nI nF) (nI nC) yn yt (nI ga) ym (fun c => nI (pl c)) (fun c => nI (cf c)) (fun c => nI (ct c)) aK eB eE eA eL eN eC eS eW eT) hP hD [0, 1, 2, 3, 4, 5, 6, 7, 8, 9, 10, 11, 12, 13, 14, 15, 16] [] rfl rfl (by decide) (by decide) hk1 hFc hP1 hD1
    generalize H1 = H at hP hS ⊢
    have hP : va_P (dC, dI) kls (wC h cI (nI nF) (nI nC) yn yt (nI ga) ym (fun c => nI (pl c)) (fun c => nI (cf c)) (fun c => nI (ct c)) aK eB eE eA eL eN eC eS eW eT) H := hP
    have hD : va_D A (wC h cI (nI nF) (nI nC) yn yt (nI ga) ym (fun c => nI (pl c)) (fun c => nI (cf c)) (fun c => nI (ct c)) aK eB eE eA eL eN eC eS eW eT) := hD
    rcases hw with ⟨hr9, -⟩ | ⟨hr9, hno9⟩
    · subst hr9
      refine lv_if_ne (tgt := 32) hx hb d_X_graph_19 (by decide) (fun _ => ?_) (fun c9 => absurd c9 (by decide +kernel))
      refine lv_aload_n hx hb d_X_graph_32 rfl (lv_at hl 0 rfl) ?_
      have hFc := va_free (wc := wC h cI (nI nF) (nI nC) yn yt (nI ga) ym (fun c => nI (pl c)) (fun c => nI (cf c)) (fun c => nI (ct c)) aK eB eE eA eL eN eC eS eW eT) hD hS hA [0, 1, 2, 3, 4, 5, 6, 7, 8, 9, 10, 11, 12, 13, 14, 15, 16] rfl
      refine va_callv (va_runV (As := []) (rest := []) ⟨hx, hb, hml, hown, hk⟩ (c_X_needClosure_ok l dC dI cI h H.size yn yt ym aK eB eE eA eL eN eC eS eW eT nF nC pl cf ct K ga (hF) (hC) (hS0) (hpl) (hK8) (hcl) (hga) (hfew)) (cwV 0 hk g_X_84 rfl rfl rfl (by decide +kernel) ⟨Nat.le_of_ble_eq_true rfl, Nat.le_of_ble_eq_true rfl⟩) ⟨fun a U g mk q => by obtain ⟨q0, q1, qP, qK, qD⟩ := q; exact ⟨q0, q1, qP, va_K.moved (u := U) (U := U.calling g mk a) (Vm.Alike.refl U.vm) qK, qD⟩, va_recv hK hP (ci := 4) (q0 := 0) rfl rfl, fun U hU hW => ⟨rfl, by rw [hU], by rw [hU]; exact hP, va_K.moved hW.alike hK, hD.weaken (fun _ _ _ _ => trivial)⟩⟩ rfl rfl hl.1 rfl (lv_room (Nat.le_of_ble_eq_true rfl)) d_X_graph_33 ⟨Nat.le_of_ble_eq_true rfl, Nat.le_of_ble_eq_true rfl⟩) hS (fun q _ h => hFc q h) hFc (fun u9 t H1 locs ht hvm hw hB hz1 hk1 hS => ?_)
      obtain ⟨yn9, yt9, yg9, eB9, eE9, eA9, eL9, eN9, eC9, eS9, eW9⟩ := u9
      obtain ⟨hP1, hK1, hD1⟩ := hB
      rw [ht] at hP1
      try dsimp only at hw
      obtain ⟨hP, hD⟩ := va_join (wr := []) (w1 := wC h cI (nI nF) (nI nC) yn9 yt9 yg9 ym (fun c => nI (pl c)) (fun c => nI (cf c)) (fun c => nI (ct c)) aK eB9 eE9 eA9 eL9 eN9 eC9 eS9 eW9 eT) hP hD [0, 1, 2, 3, 4, 5, 6, 7, 8, 9, 10, 11, 12, 13, 14, 15, 16] [] rfl rfl (by decide) (by decide) hk1 hFc hP1 hD1
      generalize H1 = H at hP hS ⊢
      have hP : va_P (dC, dI) kls (wC h cI (nI nF) (nI nC) yn9 yt9 yg9 ym (fun c => nI (pl c)) (fun c => nI (cf c)) (fun c => nI (ct c)) aK eB9 eE9 eA9 eL9 eN9 eC9 eS9 eW9 eT) H := hP
      have hD : va_D A (wC h cI (nI nF) (nI nC) yn9 yt9 yg9 ym (fun c => nI (pl c)) (fun c => nI (cf c)) (fun c => nI (ct c)) aK eB9 eE9 eA9 eL9 eN9 eC9 eS9 eW9 eT) := hD
      obtain ⟨ht0, hg1, hgo⟩ := hw
      subst ht0
      subst hg1
      have hgo2 := hgo
      obtain ⟨hle8, hyn, hrw, hsm, hclr, hold⟩ := hgo
      subst hyn
      have hln := RSf_len nC cf ct aK K nF
      have hmo := gN_mono nC cf ct aK cj K (show i1 + 1 ≤ nF by omega)
      have hgs : gN nC cf ct aK cj K (i1 + 1) = gN nC cf ct aK cj K i1 + (gF nC cf ct aK cj K i1).length := rfl
      have hsg := g_sg nC cf ct aK K hrw hi1
      have hsmL := g_sm nC cf ct aK K hsm hi1
      have hbl : (bitsL (gF nC cf ct aK cj K i1) j1).length ≤ (gF nC cf ct aK cj K i1).length := by unfold bitsL; rw [List.length_map]; exact List.length_filter_le _ _
      refine lv_iload_n hx hb d_X_graph_36 rfl (lv_at hl 3 rfl) ?_
      refine lv_if_lt (tgt := 53) hx hb d_X_graph_37 (by decide) (fun c_37 => ?_) (fun c_37 => ?_)
      · exact vx_throwS (own := R_X) (cls := "java/lang/IndexOutOfBoundsException") (text := "no such graph") (names := ["java/lang/RuntimeException", "java/lang/Exception"]) (A := A) hx hb hst hown (by decide +kernel) (by decide +kernel) (hkx _ kx_c_IndexOutOfBoundsException) (hkx _ kx_i_IndexOutOfBoundsException) hT.2.2.2.2.2.2.2.2.2.2.2.1 (xa_IndexOutOfBoundsException hkx hT) xg_IndexOutOfBoundsException hZ.1 hZ.2 hS (hl.1.trans hml.symm) d_X_graph_53 d_X_graph_56 d_X_graph_57 d_X_graph_59 d_X_graph_62 (fun x h9 => (htab x h9).elim) (Nat.le_of_ble_eq_true rfl) (Nat.le_of_ble_eq_true rfl) (Nat.le_of_ble_eq_true rfl) (Nat.le_of_ble_eq_true rfl) hlocks (fun t ha hz hq => ⟨(nI (RSf nC cf ct aK K nF).length, nI 0, nI 1, eB9, eE9, eA9, eL9, eN9, eC9, eS9, eW9), ⟨rfl, rfl, hgo2⟩, ⟨rfl, hP.kept (fun k q h9 => hq _ (vx_lt hP h9)), va_K.moved ha hK, hD⟩, xF hS hz hq⟩) hS.2.2 (Nat.le_of_ble_eq_true rfl) (Nat.le_of_ble_eq_true rfl)
      · obtain ⟨q1, hq1, rfl⟩ := nI_of c_37
        refine lv_iload_n hx hb d_X_graph_40 rfl (lv_at hl 3 rfl) ?_
        refine lv_aload_n hx hb d_X_graph_41 rfl (lv_at hl 0 rfl) ?_
        refine va_get (D := (dC, dI)) (ci := 4) (v := .ref (h 6)) (C := R_X) (T := F_X) (N := 3) hx hb hk k_f_X hown hK hP 0 rfl rfl 1 (by decide) (hk _ k_C_68) (fun _ h9 => h9) rfl d_X_graph_42 ?_
        refine lv_iload_n hx hb d_X_graph_45 rfl (lv_at hl 1 rfl) ?_
        refine lv_iload_n hx hb d_X_graph_46 rfl (lv_at hl 2 rfl) ?_
        have hFc := va_free (wc := wC h cI (nI nF) (nI nC) (nI ((RSf nC cf ct aK K nF).length)) (nI 0) (nI 1) ym (fun c => nI (pl c)) (fun c => nI (cf c)) (fun c => nI (ct c)) aK eB9 eE9 eA9 eL9 eN9 eC9 eS9 eW9 eT) hD hS hA [0, 1, 2, 3, 4, 5, 6, 7, 8, 9, 10, 11, 12, 13, 14, 15, 16] rfl
        refine va_calli (va_runV (As := [.int (nI i1), .int (nI j1)]) (rest := [.int (nI q1)]) ⟨hx, hb, hml, hown, hk⟩ (c_C_countGraphs_ok l dC dI cI h H.size (nI nF) (nI nC) (nI ((RSf nC cf ct aK K nF).length)) (nI 0) (nI 1) ym (fun c => nI (pl c)) (fun c => nI (cf c)) (fun c => nI (ct c)) aK eB9 eE9 eA9 eL9 eN9 eC9 eS9 eW9 eT (gF nC cf ct aK cj K i1) i1 j1 (gN nC cf ct aK cj K i1) (by omega) (by omega) ((hold i1 hi1).1) ((hold i1 hi1).2.1) (by omega) (hsg) (hsmL)) (cwV 2 hk g_X_87 rfl rfl rfl (by decide +kernel) ⟨Nat.le_of_ble_eq_true rfl, Nat.le_of_ble_eq_true rfl⟩) ⟨fun a U g mk q => by obtain ⟨q0, q1, qP, qK, qD⟩ := q; exact ⟨q0, q1, qP, va_K.moved (u := U) (U := U.calling g mk a) (Vm.Alike.refl U.vm) qK, qD⟩, va_recv hK hP (ci := 2) (q0 := 6) rfl rfl, fun U hU hW => ⟨rfl, by rw [hU], by rw [hU]; exact hP, va_K.moved hW.alike hK, hD.weaken (fun _ _ _ _ => trivial)⟩⟩ rfl rfl hl.1 rfl (lv_room (Nat.le_of_ble_eq_true rfl)) d_X_graph_47 ⟨Nat.le_of_ble_eq_true rfl, Nat.le_of_ble_eq_true rfl⟩) hS (fun q _ h => hFc q h) hFc (fun r4 u9 t H1 locs ht hvm hw hB hz1 hk1 hS => ?_)
        obtain ⟨hP1, hK1, hD1⟩ := hB
        rw [ht] at hP1
        try dsimp only at hw
        obtain ⟨hP, hD⟩ := va_join (wr := []) (w1 := wC h cI (nI nF) (nI nC) (nI ((RSf nC cf ct aK K nF).length)) (nI 0) (nI 1) ym (fun c => nI (pl c)) (fun c => nI (cf c)) (fun c => nI (ct c)) aK eB9 eE9 eA9 eL9 eN9 eC9 eS9 eW9 eT) hP hD [0, 1, 2, 3, 4, 5, 6, 7, 8, 9, 10, 11, 12, 13, 14, 15, 16] [] rfl rfl (by decide) (by decide) hk1 hFc hP1 hD1
        generalize H1 = H at hP hS ⊢
        have hP : va_P (dC, dI) kls (wC h cI (nI nF) (nI nC) (nI ((RSf nC cf ct aK K nF).length)) (nI 0) (nI 1) ym (fun c => nI (pl c)) (fun c => nI (cf c)) (fun c => nI (ct c)) aK eB9 eE9 eA9 eL9 eN9 eC9 eS9 eW9 eT) H := hP
        have hD : va_D A (wC h cI (nI nF) (nI nC) (nI ((RSf nC cf ct aK K nF).length)) (nI 0) (nI 1) ym (fun c => nI (pl c)) (fun c => nI (cf c)) (fun c => nI (ct c)) aK eB9 eE9 eA9 eL9 eN9 eC9 eS9 eW9 eT) := hD
        subst hw
        refine lv_icmp_lt (tgt := 63) hx hb d_X_graph_50 (by decide) (fun c_50 => ?_) (fun c_50 => ?_)
        · have c_50 : q1 < (bitsL (gF nC cf ct aK cj K i1) j1).length := (nI_ltI (a := q1) (b := (bitsL (gF nC cf ct aK cj K i1) j1).length) (by omega) (by omega)).mp c_50
          exact absurd ⟨q1, c_50, rfl⟩ hq
        · have c_50 : ¬ q1 < (bitsL (gF nC cf ct aK cj K i1) j1).length := fun z9 => c_50 ((nI_ltI (a := q1) (b := (bitsL (gF nC cf ct aK cj K i1) j1).length) (by omega) (by omega)).mpr z9)
          exact vx_throwS (own := R_X) (cls := "java/lang/IndexOutOfBoundsException") (text := "no such graph") (names := ["java/lang/RuntimeException", "java/lang/Exception"]) (A := A) hx hb hst hown (by decide +kernel) (by decide +kernel) (hkx _ kx_c_IndexOutOfBoundsException) (hkx _ kx_i_IndexOutOfBoundsException) hT.2.2.2.2.2.2.2.2.2.2.2.1 (xa_IndexOutOfBoundsException hkx hT) xg_IndexOutOfBoundsException hZ.1 hZ.2 hS (hl.1.trans hml.symm) d_X_graph_53 d_X_graph_56 d_X_graph_57 d_X_graph_59 d_X_graph_62 (fun x h9 => (htab x h9).elim) (Nat.le_of_ble_eq_true rfl) (Nat.le_of_ble_eq_true rfl) (Nat.le_of_ble_eq_true rfl) (Nat.le_of_ble_eq_true rfl) hlocks (fun t ha hz hq => ⟨(nI (RSf nC cf ct aK K nF).length, nI 0, nI 1, eB9, eE9, eA9, eL9, eN9, eC9, eS9, eW9), ⟨rfl, rfl, hgo2⟩, ⟨rfl, hP.kept (fun k q h9 => hq _ (vx_lt hP h9)), va_K.moved ha hK, hD⟩, xF hS hz hq⟩) hS.2.2 (Nat.le_of_ble_eq_true rfl) (Nat.le_of_ble_eq_true rfl)
    · exact absurd ⟨j1, by omega, rfl⟩ hno9
  · exact absurd ⟨i1, by omega, rfl⟩ hno9
