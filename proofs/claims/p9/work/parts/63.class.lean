def R_J : String := "java/util/Arrays"
abbrev c_J_fill : ByteArray := prog_17_method_103_code
def y_J_fill : MethodName := ⟨R_J, "fill", "([II)V"⟩
abbrev w_J_fill : List Cond := .code y_J_fill c_J_fill 4 none :: wCw
theorem d_J_fill_0 : decode c_J_fill 0 = .ok (.iconst 0, 1) := by decide +kernel
theorem d_J_fill_1 : decode c_J_fill 1 = .ok (.istore_n 2, 1) := by decide +kernel
theorem d_J_fill_2 : decode c_J_fill 2 = .ok (.aload_n 0, 1) := by decide +kernel
theorem d_J_fill_3 : decode c_J_fill 3 = .ok (.arraylength, 1) := by decide +kernel
theorem d_J_fill_4 : decode c_J_fill 4 = .ok (.istore_n 3, 1) := by decide +kernel
theorem d_J_fill_5 : decode c_J_fill 5 = .ok (.iload_n 2, 1) := by decide +kernel
theorem d_J_fill_6 : decode c_J_fill 6 = .ok (.iload_n 3, 1) := by decide +kernel
theorem d_J_fill_7 : decode c_J_fill 7 = .ok (.if_icmp .ge 13, 3) := by decide +kernel
theorem d_J_fill_10 : decode c_J_fill 10 = .ok (.aload_n 0, 1) := by decide +kernel
theorem d_J_fill_11 : decode c_J_fill 11 = .ok (.iload_n 2, 1) := by decide +kernel
theorem d_J_fill_12 : decode c_J_fill 12 = .ok (.iload_n 1, 1) := by decide +kernel
theorem d_J_fill_13 : decode c_J_fill 13 = .ok (.iastore, 1) := by decide +kernel
theorem d_J_fill_14 : decode c_J_fill 14 = .ok (.iinc 2 1, 3) := by decide +kernel
theorem d_J_fill_17 : decode c_J_fill 17 = .ok (.goto (-12), 3) := by decide +kernel
theorem d_J_fill_20 : decode c_J_fill 20 = .ok (.return_, 1) := by decide +kernel
theorem g_C_60 : GoodIn wCw (va_wsS R_C 60 y_J_fill w_J_fill) := gc_S k_C_169 k_C_170 k_C_5 k_C_171
def shE (st0 : Nat) (e : En) : En := (e.1, e.2.1, e.2.2.1, e.2.2.2.1.map (fun k => st0 + k), e.2.2.2.2)
/-- the rows of the functions ahead, and of this one as far as there is room; whether it was too small -/
def rowsC (R0 : List En) (L : List En) : List En := R0 ++ (L.take (800 - R0.length)).map (shE R0.length)
def tmC (R0 : List En) (L : List En) : Nat := if 800 - R0.length < L.length then 1 else 0
theorem rowsC_len {R0 L : List En} (h : R0.length ≤ 800) : (rowsC R0 L).length ≤ 800 ∧ R0.length ≤ (rowsC R0 L).length := by
  unfold rowsC
  rw [List.length_append, List.length_map, List.length_take]
  omega
theorem rowsC_at {R0 L : List En} {k : Nat} {en : En} (h : L[k]? = some en) (hk : k < 800 - R0.length) : (rowsC R0 L)[R0.length + k]? = some (shE R0.length en) := by
  unfold rowsC
  rw [List.getElem?_append_right (by omega), show R0.length + k - R0.length = k by omega, List.getElem?_map, List.getElem?_take_of_lt hk, h]
  rfl
theorem rowsC_in {R0 L : List En} {g : Nat} {b : Int32} : isIn R0.length (rowsC R0 L) g b ↔ ∃ x ∈ L.take (800 - R0.length), x.2.1 = g ∧ x.2.2.1 = b := by
  unfold isIn rowsC
  constructor
  · rintro ⟨j, e, h1, h2, rfl, rfl⟩
    rw [List.getElem?_append_right h1, List.getElem?_map] at h2
    cases hx : (L.take (800 - R0.length))[j - R0.length]? with
    | none => rw [hx] at h2; cases h2
    | some x =>
      rw [hx] at h2
      cases h2
      exact ⟨x, List.mem_of_getElem? hx, rfl, rfl⟩
  · rintro ⟨x, hx, rfl, rfl⟩
    obtain ⟨j, hj⟩ := List.getElem?_of_mem hx
    refine ⟨R0.length + j, shE R0.length x, by omega, ?_, rfl, rfl⟩
    rw [List.getElem?_append_right (by omega), show R0.length + j - R0.length = j by omega, List.getElem?_map, hj]
    rfl
theorem keep_rows {R0 L : List En} {e : En} (h0 : R0.length ≤ 800) (hf : ∀ x ∈ L, x.1 = e.1) : keepP R0.length (rowsC R0 L) (tmC R0 L) (shE R0.length e) = (rowsC R0 (addE L e), tmC R0 (addE L e)) := by
  have hkey : ∀ (M : List En), (∀ x ∈ M, x ∈ L) → ((∃ x ∈ M, x.2.1 = e.2.1 ∧ x.2.2.1 = e.2.2.1) ↔ kyE e ∈ M.map kyE) := by
    intro M hM
    rw [List.mem_map]
    constructor
    · rintro ⟨x, hx, h1, h2⟩
      exact ⟨x, hx, by unfold kyE; rw [hf x (hM x hx), h1, h2]⟩
    · rintro ⟨x, hx, h1⟩
      unfold kyE at h1
      simp only [Prod.mk.injEq] at h1
      exact ⟨x, hx, h1.2.1, h1.2.2⟩
  have hlen : (rowsC R0 L).length = R0.length + min (800 - R0.length) L.length := by
    unfold rowsC
    rw [List.length_append, List.length_map, List.length_take]
  by_cases hin : isIn R0.length (rowsC R0 L) (shE R0.length e).2.1 (shE R0.length e).2.2.1
  · rw [keepP_in hin]
    have h1 := (hkey _ (fun x hx => List.mem_of_mem_take hx)).mp (rowsC_in.mp hin)
    have h2 : kyE e ∈ L.map kyE := by
      obtain ⟨x, hx, hx2⟩ := List.mem_map.mp h1
      exact List.mem_map.mpr ⟨x, List.mem_of_mem_take hx, hx2⟩
    rw [addE, if_pos h2]
  · rw [keepP_no hin, hlen]
    by_cases hc : 800 - R0.length < L.length
    · have e1 : rowsC R0 (addE L e) = rowsC R0 L := by
        unfold rowsC addE
        split
        · rfl
        · rw [List.take_append_of_le_length (by omega)]
      have e2 : tmC R0 (addE L e) = 1 := by
        unfold tmC
        rw [if_pos (Nat.lt_of_lt_of_le hc (ext_len (addE_ext L e)))]
      rw [if_pos (by omega), e1, e2]
    · have htk : L.take (800 - R0.length) = L := List.take_of_length_le (by omega)
      have h2 : kyE e ∉ L.map kyE := fun z => hin (rowsC_in.mpr ((hkey _ (fun x hx => List.mem_of_mem_take hx)).mpr (by rw [htk]; exact z)))
      have ha : addE L e = L ++ [e] := by unfold addE; rw [if_neg h2]
      rw [ha]
      by_cases hc2 : L.length = 800 - R0.length
      · rw [if_pos (by omega)]
        have e1 : rowsC R0 (L ++ [e]) = rowsC R0 L := by unfold rowsC; rw [List.take_append_of_le_length (by omega)]
        have e2 : tmC R0 (L ++ [e]) = 1 := by unfold tmC; rw [if_pos (by rw [List.length_append]; simp; omega)]
        rw [e1, e2]
      · rw [if_neg (by omega)]
        have e1 : rowsC R0 (L ++ [e]) = rowsC R0 L ++ [shE R0.length e] := by
          unfold rowsC
          rw [htk, List.take_of_length_le (by rw [List.length_append]; simp; omega), List.map_append, List.append_assoc]
          rfl
        have e2 : tmC R0 (L ++ [e]) = tmC R0 L := by unfold tmC; rw [if_neg (by rw [List.length_append]; simp; omega), if_neg hc]
        rw [e1, e2]
theorem smR_rows {R0 L : List En} (h0 : smR R0) (hL : smE L) : smR (rowsC R0 L) := by
  intro e he
  unfold rowsC at he
  rcases List.mem_append.mp he with h | h
  · exact h0 e h
  · obtain ⟨x, hx, rfl⟩ := List.mem_map.mp h
    exact (hL x (List.mem_of_mem_take hx)).2
def clR9 (rs : List En) : Prop := ∀ e ∈ rs, clN e.2.2.1
theorem clR_rows {R0 L : List En} (h0 : clR9 R0) (hL : clR9 L) : clR9 (rowsC R0 L) := by
  intro e he
  unfold rowsC at he
  rcases List.mem_append.mp he with h | h
  · exact h0 e h
  · obtain ⟨x, hx, rfl⟩ := List.mem_map.mp h
    exact hL x (List.mem_of_mem_take hx)
theorem cl_bs {nC : Nat} {cf ct : Nat → Nat} {ck : Nat → Int32} {ok : Nat → Bool} (hc : ∀ c, c < nC → clN (ck c)) {es : List En} (h : ∀ e ∈ es, bsOk nC cf ct ck cj ok e) : clR9 es := by
  intro e he
  obtain ⟨-, n, hn⟩ := h e he
  cases n with
  | zero => obtain ⟨c, h1, -, -, h2⟩ := hn; rw [← h2]; exact hc c h1
  | succ n => obtain ⟨g', b', c, -, -, -, -, h2⟩ := hn; rw [← h2]; exact cj_cl _ _
theorem rowsC_nil (R0 : List En) : rowsC R0 [] = R0 := by unfold rowsC; simp
theorem tmC_nil (R0 : List En) : tmC R0 [] = 0 := by unfold tmC; rw [if_neg (by simp)]
set_option maxHeartbeats 4000000 in
set_option maxRecDepth 100000 in
theorem c_J_fill_ok (l : Launch) (dC : Nat → ClassId) (dI : Nat → Nat → Nat) (cI : ClassId) (h : Nat → Nat) (sz : Nat) (yf yc yn yt yg ym : Int32) (aP aF aT aK eB eE eA eL eN eC eS eW eT : Nat → Int32) : Met l y_J_fill w_J_fill ({ frames := 0, cells := 0, slots := 0, locals := 0 }) (va_Pc [.ref (h 12), .int (-1)] (fun U => U.heap.size = sz ∧ va_P (dC, dI) kls (wC h cI yf yc yn yt yg ym aP aF aT aK eB eE eA eL eN eC eS eW eT) U.heap ∧ va_K (dC, dI) kls (tyC cI) U ∧ va_D (fun _ => True) (wC h cI yf yc yn yt yg ym aP aF aT aK eB eE eA eL eN eC eS eW eT))) (va_Qv (fun (u : (Nat → Int32)) => ∀ c, c < 256 → u c = -1) (fun (u : (Nat → Int32)) (t : State) => va_P (dC, dI) kls (wC h cI yf yc yn yt yg ym aP aF aT aK eB eE eA eL eN u eS eW eT) t.heap ∧ va_K (dC, dI) kls (tyC cI) t ∧ va_D (va_A (wC h cI yf yc yn yt yg ym aP aF aT aK eB eE eA eL eN eC eS eW eT) sz) (wC h cI yf yc yn yt yg ym aP aF aT aK eB eE eA eL eN u eS eW eT)) (va_A (wC h cI yf yc yn yt yg ym aP aF aT aK eB eE eA eL eN eC eS eW eT) sz)) 0 0 (va_A (wC h cI yf yc yn yt yg ym aP aF aT aK eB eE eA eL eN eC eS eW eT) sz) := by
  refine Met.ofW (cc := c_J_fill) (maxL := 4) (ret := none) (by decide) rfl ?_
  intro p e s m args below meth c s₁ B hml hv
  obtain ⟨rfl, hsz, hP, hK, hD0⟩ := hv
  have hx := B.exec
  have hb := B.bytes
  have hr := B.returns
  have hts := atoms_spec (ws := w_J_fill) B.pre
  have hk : ∀ w ∈ wCw, w.before _ s = true := fun w h => hts w (List.mem_cons_of_mem _ h)
  have hown : s.vm.findClass R_J = some m.cls := findClass_of_methodNamed B.named
  have hlocks := B.notSynchronized
  subst hsz
  have hD := hD0.self (sz := s.heap.size)
  generalize hAe : va_A (wC h cI yf yc yn yt yg ym aP aF aT aK eB eE eA eL eN eC eS eW eT) s.heap.size = A at hD ⊢
  have hA : ∀ q : Nat, s.heap.size ≤ q → A q := fun q h => by rw [← hAe]; exact Or.inr h
  have hS : va_S A s.heap s.heap [] := va_S.rf
  have hl := lv_entry ([.ref (h 12), .int (-1)]) (n := 4) (Nat.le_of_ble_eq_true rfl)
  rw [lg_entry_eq]
  generalize (lg_sl ([.ref (h 12), .int (-1)]) ++ List.replicate (4 - (lg_sl ([.ref (h 12), .int (-1)])).length) Slot.unset).toArray = ls at hl ⊢
  have hl : lv_has ls 4 [(0, .ref (h 12)), (1, .int (-1))] := hl
  refine lv_iconst (v := nI 0) hx hb d_J_fill_0 (by decide +kernel) ?_
  refine lv_istore_n (lv' := [(2, .int (nI 0)), (0, .ref (h 12)), (1, .int (-1))]) hx hb d_J_fill_1 rfl hl (by decide) rfl (fun ls hl => ?_)
  refine lv_aload_n hx hb d_J_fill_2 rfl (lv_at hl 1 rfl) ?_
  refine va_alen (v := nI 256) hx hb hK hP 12 0 rfl rfl rfl d_J_fill_3 ?_
  refine lv_istore_n (lv' := [(3, .int (nI 256)), (2, .int (nI 0)), (0, .ref (h 12)), (1, .int (-1))]) hx hb d_J_fill_4 rfl hl (by decide) rfl (fun ls hl => ?_)
  have lp : ∀ (n_lp : Nat) (k : Nat) (eC : Nat → Int32), (k ≤ 256) → (∀ c, c < k → eC c = -1) → 256 - k < n_lp → ∀ (H : Heap) (locs : List Loc) (ls : Array Slot), va_P (dC, dI) kls (wC h cI yf yc yn yt yg ym aP aF aT aK eB eE eA eL eN eC eS eW eT) H → va_D A (wC h cI yf yc yn yt yg ym aP aF aT aK eB eE eA eL eN eC eS eW eT) → va_S A s.heap H locs → lv_has ls 4 [(0, .ref (h 12)), (1, .int (-1)), (2, .int (nI k)), (3, .int (nI 256))] → W p l e (headSpec w_J_fill ({ frames := 0, cells := 0, slots := 0, locals := 0 })).room s m ([.ref (h 12), .int (-1)]).toArray below meth c H locs 0 0 (MQ below (va_Qv (fun (u : (Nat → Int32)) => ∀ c, c < 256 → u c = -1) (fun (u : (Nat → Int32)) (t : State) => va_P (dC, dI) kls (wC h cI yf yc yn yt yg ym aP aF aT aK eB eE eA eL eN u eS eW eT) t.heap ∧ va_K (dC, dI) kls (tyC cI) t ∧ va_D (A) (wC h cI yf yc yn yt yg ym aP aF aT aK eB eE eA eL eN u eS eW eT)) A) ([.ref (h 12), .int (-1)]).toArray s 0 0 A) (F0 m 5 ls []) := by
    intro n_lp
    induction n_lp with
    | zero => intro k eC hk0 hz hn; exact absurd hn (Nat.not_lt_zero _)
    | succ n_lp ih_lp =>
      intro k eC hk0 hz hn H locs ls hP hD hS hl
      refine lv_iload_n hx hb d_J_fill_5 rfl (lv_at hl 2 rfl) ?_
      refine lv_iload_n hx hb d_J_fill_6 rfl (lv_at hl 3 rfl) ?_
      refine lv_icmp_ge (tgt := 20) hx hb d_J_fill_7 (by decide) (fun c_7 => ?_) (fun c_7 => ?_)
      · have c_7 : 256 ≤ k := (nI_leI (a := 256) (b := k) (by omega) (by omega)).mp c_7
        exact W.vret hx hb hr (fun t ht hW => ⟨⟨eC, rfl, fun c9 hc9 => hz c9 (by omega), by rw [ht]; exact hP, va_K.moved hW.alike hK, hD⟩, hS.F ht⟩) hS.2.2 d_J_fill_20
      · have c_7 : ¬ 256 ≤ k := fun z9 => c_7 ((nI_leI (a := 256) (b := k) (by omega) (by omega)).mpr z9)
        refine lv_aload_n hx hb d_J_fill_10 rfl (lv_at hl 0 rfl) ?_
        refine lv_iload_n hx hb d_J_fill_11 rfl (lv_at hl 2 rfl) ?_
        refine lv_iload_n hx hb d_J_fill_12 rfl (lv_at hl 1 rfl) ?_
        refine va_iast hx hb hK hP hD hS 12 0 rfl rfl (pk_in k 256 (by omega)) d_J_fill_13 (fun H locs hP hD hS => ?_)
        rw [nI_clamp (n := k) (by omega)] at hP hD
        have hP : va_P (dC, dI) kls (wC h cI yf yc yn yt yg ym aP aF aT aK eB eE eA eL eN (upd eC k (-1)) eS eW eT) H := hP
        have hD : va_D A (wC h cI yf yc yn yt yg ym aP aF aT aK eB eE eA eL eN (upd eC k (-1)) eS eW eT) := hD
        refine lv_iinc (v := nI (k + 1)) (lv' := [(2, .int (nI (k + 1))), (0, .ref (h 12)), (1, .int (-1)), (3, .int (nI 256))]) hx hb d_J_fill_14 hl (k := 2) rfl (nI_add k 1) (by decide) rfl (fun ls hl => ?_)
        refine lv_goto (tgt := 5) hx hb d_J_fill_17 (by decide) ?_
        have hz2 : ∀ c, c < k + 1 → upd eC k (-1) c = -1 := fun c hc => by by_cases q9 : c = k; rw [q9, pk_us]; rw [pk_un q9]; exact hz c (by omega)
        exact ih_lp (k + 1) (upd eC k (-1)) (by omega) (hz2) (by omega) _ _ _ hP hD hS (lv_sub hl [1, 2, 0, 3] rfl)
  exact lp _ 0 eC (Nat.zero_le _) (fun c hc => absurd hc (Nat.not_lt_zero _)) (Nat.lt_succ_self _) _ _ _ hP hD hS (lv_sub hl [2, 3, 1, 0] rfl)
set_option maxHeartbeats 4000000 in
set_option maxRecDepth 100000 in
theorem c_C_gatherFrom_ok (l : Launch) (dC : Nat → ClassId) (dI : Nat → Nat → Nat) (cI : ClassId) (h : Nat → Nat) (sz : Nat) (yg ym : Int32) (aK eB eE eA eL eN eC eS eW eT : Nat → Int32) (nF nC : Nat) (pl cf ct : Nat → Nat) (K f : Nat) (R0 : List En) (hF : nF ≤ 10) (hC : nC ≤ 20) (hS0 : ∀ c, c < nC → cf c < nF ∧ ct c < nF) (hpl : ∀ i, i < nF → 1 ≤ pl i ∧ pl i ≤ 4) (hK8 : 801 ≤ K) (hf : f < nF) (h0 : R0.length ≤ 800) (hes : eS f = nI R0.length) (hrw : hRw R0 eB eE eA eL) (hsm0 : smR R0) (hcl0 : clR9 R0) (hcl : ∀ c, c < nC → clN (aK c)) : Met l y_C_gatherFrom w_C_gatherFrom ({ frames := 3, cells := 0, slots := 0, locals := 71 }) (va_Pc [.ref (h 6), .ref (h 1), .int (nI f)] (fun U => U.heap.size = sz ∧ va_P (dC, dI) kls (wC h cI (nI nF) (nI nC) (nI R0.length) (nI 0) yg ym (fun c => nI (pl c)) (fun c => nI (cf c)) (fun c => nI (ct c)) aK eB eE eA eL eN eC eS eW eT) U.heap ∧ va_K (dC, dI) kls (tyC cI) U ∧ va_D (fun _ => True) (wC h cI (nI nF) (nI nC) (nI R0.length) (nI 0) yg ym (fun c => nI (pl c)) (fun c => nI (cf c)) (fun c => nI (ct c)) aK eB eE eA eL eN eC eS eW eT))) (va_Qv (fun (u : Int32 × Int32 × (Nat → Int32) × (Nat → Int32) × (Nat → Int32) × (Nat → Int32) × (Nat → Int32) × (Nat → Int32)) => ∃ rs, u.1 = nI rs.length ∧ rs.length ≤ 800 ∧ R0.length ≤ rs.length ∧ hRw rs u.2.2.1 u.2.2.2.1 u.2.2.2.2.1 u.2.2.2.2.2.1 ∧ smR rs ∧ clR9 rs ∧ ((u.2.1 = nI 0 ∧ (gF nC cf ct aK cj K f).length ≤ 800 - R0.length ∧ rs = R0 ++ (gF nC cf ct aK cj K f).map (shE R0.length)) ∨ (u.2.1 = nI 1 ∧ 800 - R0.length < (gF nC cf ct aK cj K f).length))) (fun (u : Int32 × Int32 × (Nat → Int32) × (Nat → Int32) × (Nat → Int32) × (Nat → Int32) × (Nat → Int32) × (Nat → Int32)) (t : State) => va_P (dC, dI) kls (wC h cI (nI nF) (nI nC) u.1 u.2.1 yg ym (fun c => nI (pl c)) (fun c => nI (cf c)) (fun c => nI (ct c)) aK u.2.2.1 u.2.2.2.1 u.2.2.2.2.1 u.2.2.2.2.2.1 u.2.2.2.2.2.2.1 u.2.2.2.2.2.2.2 eS eW eT) t.heap ∧ va_K (dC, dI) kls (tyC cI) t ∧ va_D (va_A (wC h cI (nI nF) (nI nC) (nI R0.length) (nI 0) yg ym (fun c => nI (pl c)) (fun c => nI (cf c)) (fun c => nI (ct c)) aK eB eE eA eL eN eC eS eW eT) sz) (wC h cI (nI nF) (nI nC) u.1 u.2.1 yg ym (fun c => nI (pl c)) (fun c => nI (cf c)) (fun c => nI (ct c)) aK u.2.2.1 u.2.2.2.1 u.2.2.2.2.1 u.2.2.2.2.2.1 u.2.2.2.2.2.2.1 u.2.2.2.2.2.2.2 eS eW eT)) (va_A (wC h cI (nI nF) (nI nC) (nI R0.length) (nI 0) yg ym (fun c => nI (pl c)) (fun c => nI (cf c)) (fun c => nI (ct c)) aK eB eE eA eL eN eC eS eW eT) sz)) 0 0 (va_A (wC h cI (nI nF) (nI nC) (nI R0.length) (nI 0) yg ym (fun c => nI (pl c)) (fun c => nI (cf c)) (fun c => nI (ct c)) aK eB eE eA eL eN eC eS eW eT) sz) := by
  refine Met.ofW (cc := c_C_gatherFrom) (maxL := 5) (ret := none) (by decide) rfl ?_
  intro p e s m args below meth c s₁ B hml hv
  obtain ⟨rfl, hsz, hP, hK, hD0⟩ := hv
  have hx := B.exec
  have hb := B.bytes
  have hr := B.returns
  have hts := atoms_spec (ws := w_C_gatherFrom) B.pre
  have hk : ∀ w ∈ wCw, w.before _ s = true := fun w h => hts w (List.mem_cons_of_mem _ h)
  have hown : s.vm.findClass R_C = some m.cls := findClass_of_methodNamed B.named
  have hlocks := B.notSynchronized
  subst hsz
  have hD := hD0.self (sz := s.heap.size)
  generalize hAe : va_A (wC h cI (nI nF) (nI nC) (nI R0.length) (nI 0) yg ym (fun c => nI (pl c)) (fun c => nI (cf c)) (fun c => nI (ct c)) aK eB eE eA eL eN eC eS eW eT) s.heap.size = A at hD ⊢
  have hA : ∀ q : Nat, s.heap.size ≤ q → A q := fun q h => by rw [← hAe]; exact Or.inr h
  have hS : va_S A s.heap s.heap [] := va_S.rf
  have hl := lv_entry ([.ref (h 6), .ref (h 1), .int (nI f)]) (n := 5) (Nat.le_of_ble_eq_true rfl)
  rw [lg_entry_eq]
  generalize (lg_sl ([.ref (h 6), .ref (h 1), .int (nI f)]) ++ List.replicate (5 - (lg_sl ([.ref (h 6), .ref (h 1), .int (nI f)])).length) Slot.unset).toArray = ls at hl ⊢
  have hl : lv_has ls 5 [(0, .ref (h 6)), (1, .ref (h 1)), (2, .int (nI f))] := hl
  have hS16 : ∀ c, c < nC → cf c < 16 ∧ ct c < 16 := fun c hc => ⟨by have := hS0 c hc; omega, by have := hS0 c hc; omega⟩
  refine lv_aload_n hx hb d_C_gatherFrom_0 rfl (lv_at hl 0 rfl) ?_
  refine va_get (D := (dC, dI)) (ci := 2) (v := .ref (h 12)) (C := R_C) (T := F_C) (N := 11) hx hb hk k_f_C hown hK hP 6 rfl rfl 5 (by decide) (hk _ k_C_50) (fun _ h9 => h9) rfl d_C_gatherFrom_1 ?_
  refine lv_iconst (v := (-1)) hx hb d_C_gatherFrom_4 (by decide +kernel) ?_
  have hFc := va_free (wc := wC h cI (nI nF) (nI nC) (nI R0.length) (nI 0) yg ym (fun c => nI (pl c)) (fun c => nI (cf c)) (fun c => nI (ct c)) aK eB eE eA eL eN eC eS eW eT) hD hS hA [0, 1, 2, 3, 4, 5, 6, 7, 8, 9, 10, 11, 12, 13, 14, 15, 16] rfl
  refine va_callv (va_runS (As := [.ref (h 12), .int (-1)]) (rest := []) ⟨hx, hb, hml, hown, hk⟩ (c_J_fill_ok l dC dI cI h s.heap.size (nI nF) (nI nC) (nI R0.length) (nI 0) yg ym (fun c => nI (pl c)) (fun c => nI (cf c)) (fun c => nI (ct c)) aK eB eE eA eL eN eC eS eW eT  ) (va_cwS 2 hk g_C_60 rfl rfl rfl (by decide +kernel) ⟨Nat.le_of_ble_eq_true rfl, Nat.le_of_ble_eq_true rfl⟩) ⟨fun a U g mk q => by obtain ⟨q0, q1, qP, qK, qD⟩ := q; exact ⟨q0, q1, qP, va_K.moved (u := U) (U := U.calling g mk a) (Vm.Alike.refl U.vm) qK, qD⟩, fun U hU hW => ⟨rfl, by rw [hU], by rw [hU]; exact hP, va_K.moved hW.alike hK, hD.weaken (fun _ _ _ _ => trivial)⟩⟩ rfl rfl hl.1 rfl (lv_room (Nat.le_of_ble_eq_true rfl)) d_C_gatherFrom_5 ⟨Nat.le_of_ble_eq_true rfl, Nat.le_of_ble_eq_true rfl⟩) hS (fun q _ h => hFc q h) hFc (fun u9 t H1 locs ht hvm hw hB hz1 hk1 hS => ?_)
  obtain ⟨eC9, rfl⟩ : ∃ z, z = u9 := ⟨_, rfl⟩
  obtain ⟨hP1, hK1, hD1⟩ := hB
  rw [ht] at hP1
  try dsimp only at hw
  obtain ⟨hP, hD⟩ := va_join (wr := []) (w1 := wC h cI (nI nF) (nI nC) (nI R0.length) (nI 0) yg ym (fun c => nI (pl c)) (fun c => nI (cf c)) (fun c => nI (ct c)) aK eB eE eA eL eN eC9 eS eW eT) hP hD [0, 1, 2, 3, 4, 5, 6, 7, 8, 9, 10, 11, 12, 13, 14, 15, 16] [] rfl rfl (by decide) (by decide) hk1 hFc hP1 hD1
  generalize H1 = H at hP hS ⊢
  have hP : va_P (dC, dI) kls (wC h cI (nI nF) (nI nC) (nI R0.length) (nI 0) yg ym (fun c => nI (pl c)) (fun c => nI (cf c)) (fun c => nI (ct c)) aK eB eE eA eL eN eC9 eS eW eT) H := hP
  have hD : va_D A (wC h cI (nI nF) (nI nC) (nI R0.length) (nI 0) yg ym (fun c => nI (pl c)) (fun c => nI (cf c)) (fun c => nI (ct c)) aK eB eE eA eL eN eC9 eS eW eT) := hD
  refine lv_iconst (v := nI 0) hx hb d_C_gatherFrom_8 (by decide +kernel) ?_
  refine lv_istore_n (lv' := [(3, .int (nI 0)), (0, .ref (h 6)), (1, .ref (h 1)), (2, .int (nI f))]) hx hb d_C_gatherFrom_9 rfl hl (by decide) rfl (fun ls hl => ?_)
  have hn0 : bs0 cf ct aK (fun x => x == f) 0 = [] := rfl
  have hrw1 : hRw (rowsC R0 (bs0 cf ct aK (fun x => x == f) 0)) eB eE eA eL := by rw [hn0, rowsC_nil]; exact hrw
  have hch1 : hCh R0.length (rowsC R0 (bs0 cf ct aK (fun x => x == f) 0)).length (hsF eB eE) eC9 eN := by rw [hn0, rowsC_nil]; exact hCh_0 _ _ _ hw
  have hl0 : R0.length = (rowsC R0 (bs0 cf ct aK (fun x => x == f) 0)).length := by rw [hn0, rowsC_nil]
  have ht0 : 0 = tmC R0 (bs0 cf ct aK (fun x => x == f) 0) := by rw [hn0, tmC_nil]
  have hP : va_P (dC, dI) kls (wC h cI (nI nF) (nI nC) (nI ((rowsC R0 (bs0 cf ct aK (fun x => x == f) 0)).length)) (nI (tmC R0 (bs0 cf ct aK (fun x => x == f) 0))) yg ym (fun c => nI (pl c)) (fun c => nI (cf c)) (fun c => nI (ct c)) aK eB eE eA eL eN eC9 eS eW eT) H := by rw [← hl0, ← ht0]; exact hP
  have hD : va_D A (wC h cI (nI nF) (nI nC) (nI ((rowsC R0 (bs0 cf ct aK (fun x => x == f) 0)).length)) (nI (tmC R0 (bs0 cf ct aK (fun x => x == f) 0))) yg ym (fun c => nI (pl c)) (fun c => nI (cf c)) (fun c => nI (ct c)) aK eB eE eA eL eN eC9 eS eW eT) := by rw [← hl0, ← ht0]; exact hD
  have lpA : ∀ (n_lpA : Nat) (k : Nat) (eB : Nat → Int32) (eE : Nat → Int32) (eA : Nat → Int32) (eL : Nat → Int32) (eN : Nat → Int32) (eC : Nat → Int32), (k ≤ nC) → (hRw (rowsC R0 (bs0 cf ct aK (fun x => x == f) k)) eB eE eA eL) → (hCh R0.length (rowsC R0 (bs0 cf ct aK (fun x => x == f) k)).length (hsF eB eE) eC eN) → nC - k < n_lpA → ∀ (H : Heap) (locs : List Loc) (ls : Array Slot), va_P (dC, dI) kls (wC h cI (nI nF) (nI nC) (nI ((rowsC R0 (bs0 cf ct aK (fun x => x == f) k)).length)) (nI (tmC R0 (bs0 cf ct aK (fun x => x == f) k))) yg ym (fun c => nI (pl c)) (fun c => nI (cf c)) (fun c => nI (ct c)) aK eB eE eA eL eN eC eS eW eT) H → va_D A (wC h cI (nI nF) (nI nC) (nI ((rowsC R0 (bs0 cf ct aK (fun x => x == f) k)).length)) (nI (tmC R0 (bs0 cf ct aK (fun x => x == f) k))) yg ym (fun c => nI (pl c)) (fun c => nI (cf c)) (fun c => nI (ct c)) aK eB eE eA eL eN eC eS eW eT) → va_S A s.heap H locs → lv_has ls 5 [(0, .ref (h 6)), (1, .ref (h 1)), (2, .int (nI f)), (3, .int (nI k))] → W p l e (headSpec w_C_gatherFrom ({ frames := 3, cells := 0, slots := 0, locals := 71 })).room s m ([.ref (h 6), .ref (h 1), .int (nI f)]).toArray below meth c H locs 0 0 (MQ below (va_Qv (fun (u : Int32 × Int32 × (Nat → Int32) × (Nat → Int32) × (Nat → Int32) × (Nat → Int32) × (Nat → Int32) × (Nat → Int32)) => ∃ rs, u.1 = nI rs.length ∧ rs.length ≤ 800 ∧ R0.length ≤ rs.length ∧ hRw rs u.2.2.1 u.2.2.2.1 u.2.2.2.2.1 u.2.2.2.2.2.1 ∧ smR rs ∧ clR9 rs ∧ ((u.2.1 = nI 0 ∧ (gF nC cf ct aK cj K f).length ≤ 800 - R0.length ∧ rs = R0 ++ (gF nC cf ct aK cj K f).map (shE R0.length)) ∨ (u.2.1 = nI 1 ∧ 800 - R0.length < (gF nC cf ct aK cj K f).length))) (fun (u : Int32 × Int32 × (Nat → Int32) × (Nat → Int32) × (Nat → Int32) × (Nat → Int32) × (Nat → Int32) × (Nat → Int32)) (t : State) => va_P (dC, dI) kls (wC h cI (nI nF) (nI nC) u.1 u.2.1 yg ym (fun c => nI (pl c)) (fun c => nI (cf c)) (fun c => nI (ct c)) aK u.2.2.1 u.2.2.2.1 u.2.2.2.2.1 u.2.2.2.2.2.1 u.2.2.2.2.2.2.1 u.2.2.2.2.2.2.2 eS eW eT) t.heap ∧ va_K (dC, dI) kls (tyC cI) t ∧ va_D (A) (wC h cI (nI nF) (nI nC) u.1 u.2.1 yg ym (fun c => nI (pl c)) (fun c => nI (cf c)) (fun c => nI (ct c)) aK u.2.2.1 u.2.2.2.1 u.2.2.2.2.1 u.2.2.2.2.2.1 u.2.2.2.2.2.2.1 u.2.2.2.2.2.2.2 eS eW eT)) A) ([.ref (h 6), .ref (h 1), .int (nI f)]).toArray s 0 0 A) (F0 m 10 ls []) := by
    intro n_lpA
    induction n_lpA with
    | zero => intro k eB eE eA eL eN eC hk0 hrw hch hn; exact absurd hn (Nat.not_lt_zero _)
    | succ n_lpA ih_lpA =>
      intro k eB eE eA eL eN eC hk0 hrw hch hn H locs ls hP hD hS hl
      refine lv_iload_n hx hb d_C_gatherFrom_10 rfl (lv_at hl 3 rfl) ?_
      refine lv_aload_n hx hb d_C_gatherFrom_11 rfl (lv_at hl 1 rfl) ?_
      refine va_get (D := (dC, dI)) (ci := 1) (v := .int (nI nC)) (C := R_P) (T := F_P) (N := 6) hx hb hk k_f_P hown hK hP 1 rfl rfl 5 (by decide) (hk _ k_C_38) (fun _ h9 => h9) rfl d_C_gatherFrom_12 ?_
      refine lv_icmp_ge (tgt := 52) hx hb d_C_gatherFrom_15 (by decide) (fun c_15 => ?_) (fun c_15 => ?_)
      · have c_15 : nC ≤ k := (nI_leI (a := nC) (b := k) (by omega) (by omega)).mp c_15
        have hkn : k = nC := by omega
        rw [hkn] at hrw hch hP hD
        clear hkn hk0 hn
        refine lv_aload_n hx hb d_C_gatherFrom_52 rfl (lv_at hl 0 rfl) ?_
        refine va_get (D := (dC, dI)) (ci := 2) (v := .ref (h 13)) (C := R_C) (T := F_C) (N := 11) hx hb hk k_f_C hown hK hP 6 rfl rfl 6 (by decide) (hk _ k_C_51) (fun _ h9 => h9) rfl d_C_gatherFrom_53 ?_
        refine lv_iload_n hx hb d_C_gatherFrom_56 rfl (lv_at hl 2 rfl) ?_
        refine va_iald hx hb hK hP 13 0 rfl rfl (pk_in f 11 (by omega)) d_C_gatherFrom_57 ?_
        refine lv_topi (fun z2 ez2 => ?_)
        obtain rfl : z2 = nI R0.length := ez2.trans ((rd (f := eS) (k := f) (by omega)).trans hes)
        refine lv_istore_n (lv' := [(3, .int (nI R0.length)), (0, .ref (h 6)), (1, .ref (h 1)), (2, .int (nI f))]) hx hb d_C_gatherFrom_58 rfl hl (by decide) rfl (fun ls hl => ?_)
        have lpB : ∀ (n_lpB : Nat) (k : Nat) (eB : Nat → Int32) (eE : Nat → Int32) (eA : Nat → Int32) (eL : Nat → Int32) (eN : Nat → Int32) (eC : Nat → Int32), (k ≤ 801) → (hRw (rowsC R0 (bsG nC cf ct aK cj (fun x => x == f) k)) eB eE eA eL) → (hCh R0.length (rowsC R0 (bsG nC cf ct aK cj (fun x => x == f) k)).length (hsF eB eE) eC eN) → 801 - k < n_lpB → ∀ (H : Heap) (locs : List Loc) (ls : Array Slot), va_P (dC, dI) kls (wC h cI (nI nF) (nI nC) (nI ((rowsC R0 (bsG nC cf ct aK cj (fun x => x == f) k)).length)) (nI (tmC R0 (bsG nC cf ct aK cj (fun x => x == f) k))) yg ym (fun c => nI (pl c)) (fun c => nI (cf c)) (fun c => nI (ct c)) aK eB eE eA eL eN eC eS eW eT) H → va_D A (wC h cI (nI nF) (nI nC) (nI ((rowsC R0 (bsG nC cf ct aK cj (fun x => x == f) k)).length)) (nI (tmC R0 (bsG nC cf ct aK cj (fun x => x == f) k))) yg ym (fun c => nI (pl c)) (fun c => nI (cf c)) (fun c => nI (ct c)) aK eB eE eA eL eN eC eS eW eT) → va_S A s.heap H locs → lv_has ls 5 [(0, .ref (h 6)), (1, .ref (h 1)), (2, .int (nI f)), (3, .int (nI (R0.length + k)))] → W p l e (headSpec w_C_gatherFrom ({ frames := 3, cells := 0, slots := 0, locals := 71 })).room s m ([.ref (h 6), .ref (h 1), .int (nI f)]).toArray below meth c H locs 0 0 (MQ below (va_Qv (fun (u : Int32 × Int32 × (Nat → Int32) × (Nat → Int32) × (Nat → Int32) × (Nat → Int32) × (Nat → Int32) × (Nat → Int32)) => ∃ rs, u.1 = nI rs.length ∧ rs.length ≤ 800 ∧ R0.length ≤ rs.length ∧ hRw rs u.2.2.1 u.2.2.2.1 u.2.2.2.2.1 u.2.2.2.2.2.1 ∧ smR rs ∧ clR9 rs ∧ ((u.2.1 = nI 0 ∧ (gF nC cf ct aK cj K f).length ≤ 800 - R0.length ∧ rs = R0 ++ (gF nC cf ct aK cj K f).map (shE R0.length)) ∨ (u.2.1 = nI 1 ∧ 800 - R0.length < (gF nC cf ct aK cj K f).length))) (fun (u : Int32 × Int32 × (Nat → Int32) × (Nat → Int32) × (Nat → Int32) × (Nat → Int32) × (Nat → Int32) × (Nat → Int32)) (t : State) => va_P (dC, dI) kls (wC h cI (nI nF) (nI nC) u.1 u.2.1 yg ym (fun c => nI (pl c)) (fun c => nI (cf c)) (fun c => nI (ct c)) aK u.2.2.1 u.2.2.2.1 u.2.2.2.2.1 u.2.2.2.2.2.1 u.2.2.2.2.2.2.1 u.2.2.2.2.2.2.2 eS eW eT) t.heap ∧ va_K (dC, dI) kls (tyC cI) t ∧ va_D (A) (wC h cI (nI nF) (nI nC) u.1 u.2.1 yg ym (fun c => nI (pl c)) (fun c => nI (cf c)) (fun c => nI (ct c)) aK u.2.2.1 u.2.2.2.1 u.2.2.2.2.1 u.2.2.2.2.2.1 u.2.2.2.2.2.2.1 u.2.2.2.2.2.2.2 eS eW eT)) A) ([.ref (h 6), .ref (h 1), .int (nI f)]).toArray s 0 0 A) (F0 m 59 ls []) := by
          intro n_lpB
          induction n_lpB with
          | zero => intro k eB eE eA eL eN eC hk0 hrw hch hn; exact absurd hn (Nat.not_lt_zero _)
          | succ n_lpB ih_lpB =>
            intro k eB eE eA eL eN eC hk0 hrw hch hn H locs ls hP hD hS hl
            have hrl9 := rowsC_len (L := bsG nC cf ct aK cj (fun x => x == f) k) h0
            have htm9 : tmC R0 (bsG nC cf ct aK cj (fun x => x == f) k) < 2 := by unfold tmC; split <;> omega
            refine lv_iload_n hx hb d_C_gatherFrom_59 rfl (lv_at hl 3 rfl) ?_
            refine lv_sipush (v := nI 800) hx hb d_C_gatherFrom_60 (by decide +kernel) ?_
            refine lv_icmp_ge (tgt := 151) hx hb d_C_gatherFrom_63 (by decide) (fun c_63 => ?_) (fun c_63 => ?_)
            · have c_63 : 800 ≤ R0.length + k := (nI_leI (a := 800) (b := R0.length + k) (by omega) (by omega)).mp c_63
              have hfin : (tmC R0 (bsG nC cf ct aK cj (fun x => x == f) k) = 0 ∧ (bsG nC cf ct aK cj (fun x => x == f) k).length ≤ 800 - R0.length) ∨ (tmC R0 (bsG nC cf ct aK cj (fun x => x == f) k) = 1 ∧ 800 - R0.length < (bsG nC cf ct aK cj (fun x => x == f) k).length) := by
                unfold tmC
                by_cases z : 800 - R0.length < (bsG nC cf ct aK cj (fun x => x == f) k).length
                · rw [if_pos z]; exact Or.inr ⟨rfl, z⟩
                · rw [if_neg z]; exact Or.inl ⟨rfl, by omega⟩
              have hq9 : (nI (tmC R0 (bsG nC cf ct aK cj (fun x => x == f) k)) = nI 0 ∧ (gF nC cf ct aK cj K f).length ≤ 800 - R0.length ∧ rowsC R0 (bsG nC cf ct aK cj (fun x => x == f) k) = R0 ++ (gF nC cf ct aK cj K f).map (shE R0.length)) ∨ (nI (tmC R0 (bsG nC cf ct aK cj (fun x => x == f) k)) = nI 1 ∧ 800 - R0.length < (gF nC cf ct aK cj K f).length) := by
                rcases hfin with ⟨z1, z2⟩ | ⟨z1, z2⟩
                · have hend : (bsG nC cf ct aK cj (fun x => x == f) k).length ≤ k := by
                    have hrl : (rowsC R0 (bsG nC cf ct aK cj (fun x => x == f) k)).length = R0.length + (bsG nC cf ct aK cj (fun x => x == f) k).length := by unfold rowsC; rw [List.length_append, List.length_map, List.length_take]; omega
                    first
                      | omega
                      | (rw [z1] at c_78; exact absurd rfl c_78)
                  have hKk : gF nC cf ct aK cj K f = bsG nC cf ct aK cj (fun x => x == f) k := bsG_stay nC cf ct aK cj (fun x => x == f) hend (by omega)
                  have hre : rowsC R0 (bsG nC cf ct aK cj (fun x => x == f) k) = R0 ++ (gF nC cf ct aK cj K f).map (shE R0.length) := by unfold rowsC; rw [hKk, List.take_of_length_le z2]
                  exact Or.inl ⟨by rw [z1], by rw [hKk]; exact z2, hre⟩
                · have hKk : (bsG nC cf ct aK cj (fun x => x == f) k).length ≤ (gF nC cf ct aK cj K f).length := ext_len (bsG_ext nC cf ct aK cj (fun x => x == f) (show k ≤ K by omega))
                  exact Or.inr ⟨by rw [z1], by omega⟩
              exact W.vret hx hb hr (fun t ht hW => ⟨⟨(nI (rowsC R0 (bsG nC cf ct aK cj (fun x => x == f) k)).length, nI (tmC R0 (bsG nC cf ct aK cj (fun x => x == f) k)), eB, eE, eA, eL, eN, eC), rfl, ⟨rowsC R0 (bsG nC cf ct aK cj (fun x => x == f) k), rfl, (rowsC_len h0).1, (rowsC_len h0).2, hrw, smR_rows hsm0 (sm_of (J := cj) hS16 (bsG_ok nC cf ct aK cj (fun x => x == f) k)), clR_rows hcl0 (cl_bs hcl (bsG_ok nC cf ct aK cj (fun x => x == f) k)), hq9⟩, by rw [ht]; exact hP, va_K.moved hW.alike hK, hD⟩, hS.F ht⟩) hS.2.2 d_C_gatherFrom_151
            · have c_63 : ¬ 800 ≤ R0.length + k := fun z9 => c_63 ((nI_leI (a := 800) (b := R0.length + k) (by omega) (by omega)).mpr z9)
              refine lv_iload_n hx hb d_C_gatherFrom_66 rfl (lv_at hl 3 rfl) ?_
              refine lv_aload_n hx hb d_C_gatherFrom_67 rfl (lv_at hl 0 rfl) ?_
              refine va_get (D := (dC, dI)) (ci := 2) (v := .int (nI ((rowsC R0 (bsG nC cf ct aK cj (fun x => x == f) k)).length))) (C := R_C) (T := F_C) (N := 11) hx hb hk k_f_C hown hK hP 6 rfl rfl 8 (by decide) (hk _ k_C_54) (fun _ h9 => h9) rfl d_C_gatherFrom_68 ?_
              refine lv_icmp_ge (tgt := 151) hx hb d_C_gatherFrom_71 (by decide) (fun c_71 => ?_) (fun c_71 => ?_)
              · have c_71 : (rowsC R0 (bsG nC cf ct aK cj (fun x => x == f) k)).length ≤ R0.length + k := (nI_leI (a := (rowsC R0 (bsG nC cf ct aK cj (fun x => x == f) k)).length) (b := R0.length + k) (by omega) (by omega)).mp c_71
                have hfin : (tmC R0 (bsG nC cf ct aK cj (fun x => x == f) k) = 0 ∧ (bsG nC cf ct aK cj (fun x => x == f) k).length ≤ 800 - R0.length) ∨ (tmC R0 (bsG nC cf ct aK cj (fun x => x == f) k) = 1 ∧ 800 - R0.length < (bsG nC cf ct aK cj (fun x => x == f) k).length) := by
                  unfold tmC
                  by_cases z : 800 - R0.length < (bsG nC cf ct aK cj (fun x => x == f) k).length
                  · rw [if_pos z]; exact Or.inr ⟨rfl, z⟩
                  · rw [if_neg z]; exact Or.inl ⟨rfl, by omega⟩
                have hq9 : (nI (tmC R0 (bsG nC cf ct aK cj (fun x => x == f) k)) = nI 0 ∧ (gF nC cf ct aK cj K f).length ≤ 800 - R0.length ∧ rowsC R0 (bsG nC cf ct aK cj (fun x => x == f) k) = R0 ++ (gF nC cf ct aK cj K f).map (shE R0.length)) ∨ (nI (tmC R0 (bsG nC cf ct aK cj (fun x => x == f) k)) = nI 1 ∧ 800 - R0.length < (gF nC cf ct aK cj K f).length) := by
                  rcases hfin with ⟨z1, z2⟩ | ⟨z1, z2⟩
                  · have hend : (bsG nC cf ct aK cj (fun x => x == f) k).length ≤ k := by
                      have hrl : (rowsC R0 (bsG nC cf ct aK cj (fun x => x == f) k)).length = R0.length + (bsG nC cf ct aK cj (fun x => x == f) k).length := by unfold rowsC; rw [List.length_append, List.length_map, List.length_take]; omega
                      first
                        | omega
                        | (rw [z1] at c_78; exact absurd rfl c_78)
                    have hKk : gF nC cf ct aK cj K f = bsG nC cf ct aK cj (fun x => x == f) k := bsG_stay nC cf ct aK cj (fun x => x == f) hend (by omega)
                    have hre : rowsC R0 (bsG nC cf ct aK cj (fun x => x == f) k) = R0 ++ (gF nC cf ct aK cj K f).map (shE R0.length) := by unfold rowsC; rw [hKk, List.take_of_length_le z2]
                    exact Or.inl ⟨by rw [z1], by rw [hKk]; exact z2, hre⟩
                  · have hKk : (bsG nC cf ct aK cj (fun x => x == f) k).length ≤ (gF nC cf ct aK cj K f).length := ext_len (bsG_ext nC cf ct aK cj (fun x => x == f) (show k ≤ K by omega))
                    exact Or.inr ⟨by rw [z1], by omega⟩
                exact W.vret hx hb hr (fun t ht hW => ⟨⟨(nI (rowsC R0 (bsG nC cf ct aK cj (fun x => x == f) k)).length, nI (tmC R0 (bsG nC cf ct aK cj (fun x => x == f) k)), eB, eE, eA, eL, eN, eC), rfl, ⟨rowsC R0 (bsG nC cf ct aK cj (fun x => x == f) k), rfl, (rowsC_len h0).1, (rowsC_len h0).2, hrw, smR_rows hsm0 (sm_of (J := cj) hS16 (bsG_ok nC cf ct aK cj (fun x => x == f) k)), clR_rows hcl0 (cl_bs hcl (bsG_ok nC cf ct aK cj (fun x => x == f) k)), hq9⟩, by rw [ht]; exact hP, va_K.moved hW.alike hK, hD⟩, hS.F ht⟩) hS.2.2 d_C_gatherFrom_151
              · have c_71 : ¬ (rowsC R0 (bsG nC cf ct aK cj (fun x => x == f) k)).length ≤ R0.length + k := fun z9 => c_71 ((nI_leI (a := (rowsC R0 (bsG nC cf ct aK cj (fun x => x == f) k)).length) (b := R0.length + k) (by omega) (by omega)).mpr z9)
                refine lv_aload_n hx hb d_C_gatherFrom_74 rfl (lv_at hl 0 rfl) ?_
                refine va_get (D := (dC, dI)) (ci := 2) (v := .int (nI (tmC R0 (bsG nC cf ct aK cj (fun x => x == f) k)))) (C := R_C) (T := F_C) (N := 11) hx hb hk k_f_C hown hK hP 6 rfl rfl 9 (by decide) (hk _ k_C_55) (fun _ h9 => h9) rfl d_C_gatherFrom_75 ?_
                refine lv_if_ne (tgt := 151) hx hb d_C_gatherFrom_78 (by decide) (fun c_78 => ?_) (fun c_78 => ?_)
                · have c_78 : ¬ tmC R0 (bsG nC cf ct aK cj (fun x => x == f) k) = 0 := fun z9 => c_78 ((nI_eq (a := tmC R0 (bsG nC cf ct aK cj (fun x => x == f) k)) (b := 0) (by omega) (by omega)).mpr z9)
                  have hfin : (tmC R0 (bsG nC cf ct aK cj (fun x => x == f) k) = 0 ∧ (bsG nC cf ct aK cj (fun x => x == f) k).length ≤ 800 - R0.length) ∨ (tmC R0 (bsG nC cf ct aK cj (fun x => x == f) k) = 1 ∧ 800 - R0.length < (bsG nC cf ct aK cj (fun x => x == f) k).length) := by
                    unfold tmC
                    by_cases z : 800 - R0.length < (bsG nC cf ct aK cj (fun x => x == f) k).length
                    · rw [if_pos z]; exact Or.inr ⟨rfl, z⟩
                    · rw [if_neg z]; exact Or.inl ⟨rfl, by omega⟩
                  have hq9 : (nI (tmC R0 (bsG nC cf ct aK cj (fun x => x == f) k)) = nI 0 ∧ (gF nC cf ct aK cj K f).length ≤ 800 - R0.length ∧ rowsC R0 (bsG nC cf ct aK cj (fun x => x == f) k) = R0 ++ (gF nC cf ct aK cj K f).map (shE R0.length)) ∨ (nI (tmC R0 (bsG nC cf ct aK cj (fun x => x == f) k)) = nI 1 ∧ 800 - R0.length < (gF nC cf ct aK cj K f).length) := by
                    rcases hfin with ⟨z1, z2⟩ | ⟨z1, z2⟩
                    · have hend : (bsG nC cf ct aK cj (fun x => x == f) k).length ≤ k := by
                        have hrl : (rowsC R0 (bsG nC cf ct aK cj (fun x => x == f) k)).length = R0.length + (bsG nC cf ct aK cj (fun x => x == f) k).length := by unfold rowsC; rw [List.length_append, List.length_map, List.length_take]; omega
                        first
                          | omega
                          | (rw [z1] at c_78; exact absurd rfl c_78)
                      have hKk : gF nC cf ct aK cj K f = bsG nC cf ct aK cj (fun x => x == f) k := bsG_stay nC cf ct aK cj (fun x => x == f) hend (by omega)
                      have hre : rowsC R0 (bsG nC cf ct aK cj (fun x => x == f) k) = R0 ++ (gF nC cf ct aK cj K f).map (shE R0.length) := by unfold rowsC; rw [hKk, List.take_of_length_le z2]
                      exact Or.inl ⟨by rw [z1], by rw [hKk]; exact z2, hre⟩
                    · have hKk : (bsG nC cf ct aK cj (fun x => x == f) k).length ≤ (gF nC cf ct aK cj K f).length := ext_len (bsG_ext nC cf ct aK cj (fun x => x == f) (show k ≤ K by omega))
                      exact Or.inr ⟨by rw [z1], by omega⟩
                  exact W.vret hx hb hr (fun t ht hW => ⟨⟨(nI (rowsC R0 (bsG nC cf ct aK cj (fun x => x == f) k)).length, nI (tmC R0 (bsG nC cf ct aK cj (fun x => x == f) k)), eB, eE, eA, eL, eN, eC), rfl, ⟨rowsC R0 (bsG nC cf ct aK cj (fun x => x == f) k), rfl, (rowsC_len h0).1, (rowsC_len h0).2, hrw, smR_rows hsm0 (sm_of (J := cj) hS16 (bsG_ok nC cf ct aK cj (fun x => x == f) k)), clR_rows hcl0 (cl_bs hcl (bsG_ok nC cf ct aK cj (fun x => x == f) k)), hq9⟩, by rw [ht]; exact hP, va_K.moved hW.alike hK, hD⟩, hS.F ht⟩) hS.2.2 d_C_gatherFrom_151
                · have c_78 : tmC R0 (bsG nC cf ct aK cj (fun x => x == f) k) = 0 := (nI_eq (a := tmC R0 (bsG nC cf ct aK cj (fun x => x == f) k)) (b := 0) (by omega) (by omega)).mp c_78
                  refine lv_iconst (v := nI 0) hx hb d_C_gatherFrom_81 (by decide +kernel) ?_
                  refine lv_istore (lv' := [(4, .int (nI 0)), (0, .ref (h 6)), (1, .ref (h 1)), (2, .int (nI f)), (3, .int (nI (R0.length + k)))]) hx hb d_C_gatherFrom_82 hl (by decide) rfl (fun ls hl => ?_)
                  have hcap : ¬ 800 - R0.length < (bsG nC cf ct aK cj (fun x => x == f) k).length := by intro z; unfold tmC at c_78; rw [if_pos z] at c_78; exact absurd c_78 (by decide)
                  have hlk : k < (bsG nC cf ct aK cj (fun x => x == f) k).length := by have := c_71; unfold rowsC at this; rw [List.length_append, List.length_map, List.length_take] at this; omega
                  obtain ⟨en, hen⟩ : ∃ en, (bsG nC cf ct aK cj (fun x => x == f) k)[k]? = some en := ⟨_, List.getElem?_eq_getElem hlk⟩
                  have heo := bsG_ok nC cf ct aK cj (fun x => x == f) k en (List.mem_of_getElem? hen)
                  have hef : en.1 = f := beq_iff_eq.mp heo.1
                  have hsn := sm_of (J := cj) hS16 (bsG_ok nC cf ct aK cj (fun x => x == f) k) en (List.mem_of_getElem? hen)
                  have lpC : ∀ (n_lpC : Nat) (i : Nat) (eB : Nat → Int32) (eE : Nat → Int32) (eA : Nat → Int32) (eL : Nat → Int32) (eN : Nat → Int32) (eC : Nat → Int32), (i ≤ nC) → (hRw (rowsC R0 (bsI cf ct aK cj k en (bsG nC cf ct aK cj (fun x => x == f) k) i)) eB eE eA eL) → (hCh R0.length (rowsC R0 (bsI cf ct aK cj k en (bsG nC cf ct aK cj (fun x => x == f) k) i)).length (hsF eB eE) eC eN) → nC - i < n_lpC → ∀ (H : Heap) (locs : List Loc) (ls : Array Slot), va_P (dC, dI) kls (wC h cI (nI nF) (nI nC) (nI ((rowsC R0 (bsI cf ct aK cj k en (bsG nC cf ct aK cj (fun x => x == f) k) i)).length)) (nI (tmC R0 (bsI cf ct aK cj k en (bsG nC cf ct aK cj (fun x => x == f) k) i))) yg ym (fun c => nI (pl c)) (fun c => nI (cf c)) (fun c => nI (ct c)) aK eB eE eA eL eN eC eS eW eT) H → va_D A (wC h cI (nI nF) (nI nC) (nI ((rowsC R0 (bsI cf ct aK cj k en (bsG nC cf ct aK cj (fun x => x == f) k) i)).length)) (nI (tmC R0 (bsI cf ct aK cj k en (bsG nC cf ct aK cj (fun x => x == f) k) i))) yg ym (fun c => nI (pl c)) (fun c => nI (cf c)) (fun c => nI (ct c)) aK eB eE eA eL eN eC eS eW eT) → va_S A s.heap H locs → lv_has ls 5 [(0, .ref (h 6)), (1, .ref (h 1)), (2, .int (nI f)), (3, .int (nI (R0.length + k))), (4, .int (nI i))] → W p l e (headSpec w_C_gatherFrom ({ frames := 3, cells := 0, slots := 0, locals := 71 })).room s m ([.ref (h 6), .ref (h 1), .int (nI f)]).toArray below meth c H locs 0 0 (MQ below (va_Qv (fun (u : Int32 × Int32 × (Nat → Int32) × (Nat → Int32) × (Nat → Int32) × (Nat → Int32) × (Nat → Int32) × (Nat → Int32)) => ∃ rs, u.1 = nI rs.length ∧ rs.length ≤ 800 ∧ R0.length ≤ rs.length ∧ hRw rs u.2.2.1 u.2.2.2.1 u.2.2.2.2.1 u.2.2.2.2.2.1 ∧ smR rs ∧ clR9 rs ∧ ((u.2.1 = nI 0 ∧ (gF nC cf ct aK cj K f).length ≤ 800 - R0.length ∧ rs = R0 ++ (gF nC cf ct aK cj K f).map (shE R0.length)) ∨ (u.2.1 = nI 1 ∧ 800 - R0.length < (gF nC cf ct aK cj K f).length))) (fun (u : Int32 × Int32 × (Nat → Int32) × (Nat → Int32) × (Nat → Int32) × (Nat → Int32) × (Nat → Int32) × (Nat → Int32)) (t : State) => va_P (dC, dI) kls (wC h cI (nI nF) (nI nC) u.1 u.2.1 yg ym (fun c => nI (pl c)) (fun c => nI (cf c)) (fun c => nI (ct c)) aK u.2.2.1 u.2.2.2.1 u.2.2.2.2.1 u.2.2.2.2.2.1 u.2.2.2.2.2.2.1 u.2.2.2.2.2.2.2 eS eW eT) t.heap ∧ va_K (dC, dI) kls (tyC cI) t ∧ va_D (A) (wC h cI (nI nF) (nI nC) u.1 u.2.1 yg ym (fun c => nI (pl c)) (fun c => nI (cf c)) (fun c => nI (ct c)) aK u.2.2.1 u.2.2.2.1 u.2.2.2.2.1 u.2.2.2.2.2.1 u.2.2.2.2.2.2.1 u.2.2.2.2.2.2.2 eS eW eT)) A) ([.ref (h 6), .ref (h 1), .int (nI f)]).toArray s 0 0 A) (F0 m 84 ls []) := by
                    intro n_lpC
                    induction n_lpC with
                    | zero => intro i eB eE eA eL eN eC hi0 hrw hch hn; exact absurd hn (Nat.not_lt_zero _)
                    | succ n_lpC ih_lpC =>
                      intro i eB eE eA eL eN eC hi0 hrw hch hn H locs ls hP hD hS hl
                      refine lv_iload hx hb d_C_gatherFrom_84 (lv_at hl 4 rfl) ?_
                      refine lv_aload_n hx hb d_C_gatherFrom_86 rfl (lv_at hl 1 rfl) ?_
                      refine va_get (D := (dC, dI)) (ci := 1) (v := .int (nI nC)) (C := R_P) (T := F_P) (N := 6) hx hb hk k_f_P hown hK hP 1 rfl rfl 5 (by decide) (hk _ k_C_38) (fun _ h9 => h9) rfl d_C_gatherFrom_87 ?_
                      refine lv_icmp_ge (tgt := 145) hx hb d_C_gatherFrom_90 (by decide) (fun c_90 => ?_) (fun c_90 => ?_)
                      · have c_90 : nC ≤ i := (nI_leI (a := nC) (b := i) (by omega) (by omega)).mp c_90
                        have hin : i = nC := by omega
                        rw [hin] at hrw hch hP hD
                        refine lv_iinc (v := nI (R0.length + k + 1)) (lv' := [(3, .int (nI (R0.length + k + 1))), (0, .ref (h 6)), (1, .ref (h 1)), (2, .int (nI f)), (4, .int (nI i))]) hx hb d_C_gatherFrom_145 hl (k := 3) rfl (nI_add (R0.length + k) 1) (by decide) rfl (fun ls hl => ?_)
                        refine lv_goto (tgt := 59) hx hb d_C_gatherFrom_148 (by decide) ?_
                        have hbs : bsG nC cf ct aK cj (fun x => x == f) (k + 1) = bsI cf ct aK cj k en (bsG nC cf ct aK cj (fun x => x == f) k) nC := by rw [bsG, hen]
                        rw [← hbs] at hrw hch hP hD
                        rw [Nat.add_assoc] at hl
                        exact ih_lpB (k + 1) eB eE eA eL eN eC (by omega) (hrw) (hch) (by omega) _ _ _ hP hD hS (lv_sub hl [1, 2, 3, 0] rfl)
                      · have c_90 : ¬ nC ≤ i := fun z9 => c_90 ((nI_leI (a := nC) (b := i) (by omega) (by omega)).mpr z9)
                        have hrk := hrw _ _ (rowsC_at (R0 := R0) (ext_at (bsI_ext cf ct aK cj k en (bsG nC cf ct aK cj (fun x => x == f) k) i) hen) (by omega))
                        have hci := hS0 i (by omega)
                        refine lv_aload_n hx hb d_C_gatherFrom_93 rfl (lv_at hl 1 rfl) ?_
                        refine va_get (D := (dC, dI)) (ci := 1) (v := .ref (h 3)) (C := R_P) (T := F_P) (N := 6) hx hb hk k_f_P hown hK hP 1 rfl rfl 1 (by decide) (hk _ k_C_22) (fun _ h9 => h9) rfl d_C_gatherFrom_94 ?_
                        refine lv_iload hx hb d_C_gatherFrom_97 (lv_at hl 4 rfl) ?_
                        refine va_iald hx hb hK hP 3 0 rfl rfl (pk_in i 20 (by omega)) d_C_gatherFrom_99 ?_
                        refine lv_topi (fun z3 ez3 => ?_)
                        obtain rfl : z3 = nI (cf i) := ez3.trans (rd (f := fun c => nI (cf c)) (k := i) (by omega))
                        refine lv_aload_n hx hb d_C_gatherFrom_100 rfl (lv_at hl 0 rfl) ?_
                        refine va_get (D := (dC, dI)) (ci := 2) (v := .ref (h 8)) (C := R_C) (T := F_C) (N := 11) hx hb hk k_f_C hown hK hP 6 rfl rfl 1 (by decide) (hk _ k_C_46) (fun _ h9 => h9) rfl d_C_gatherFrom_101 ?_
                        refine lv_iload_n hx hb d_C_gatherFrom_104 rfl (lv_at hl 3 rfl) ?_
                        refine va_iald hx hb hK hP 8 0 rfl rfl (pk_in (R0.length + k) 800 (by omega)) d_C_gatherFrom_105 ?_
                        refine lv_topi (fun z4 ez4 => ?_)
                        obtain rfl : z4 = nI en.2.1 := ez4.trans ((rd (f := eE) (k := R0.length + k) (by omega)).trans hrk.2.1)
                        refine lv_icmp_ne (tgt := 139) hx hb d_C_gatherFrom_106 (by decide) (fun c_106 => ?_) (fun c_106 => ?_)
                        · have c_106 : ¬ cf i = en.2.1 := fun z9 => c_106 ((nI_eq (a := cf i) (b := en.2.1) (by omega) (by omega)).mpr z9)
                          refine lv_iinc (v := nI (i + 1)) (lv' := [(4, .int (nI (i + 1))), (0, .ref (h 6)), (1, .ref (h 1)), (2, .int (nI f)), (3, .int (nI (R0.length + k)))]) hx hb d_C_gatherFrom_139 hl (k := 4) rfl (nI_add i 1) (by decide) rfl (fun ls hl => ?_)
                          refine lv_goto (tgt := 84) hx hb d_C_gatherFrom_142 (by decide) ?_
                          have hb0 : bsI cf ct aK cj k en (bsG nC cf ct aK cj (fun x => x == f) k) (i + 1) = bsI cf ct aK cj k en (bsG nC cf ct aK cj (fun x => x == f) k) i := by rw [bsI, if_neg c_106]
                          rw [← hb0] at hrw hch hP hD
                          exact ih_lpC (i + 1) eB eE eA eL eN eC (by omega) (hrw) (hch) (by omega) _ _ _ hP hD hS (lv_sub hl [1, 2, 3, 4, 0] rfl)
                        · have c_106 : cf i = en.2.1 := (nI_eq (a := cf i) (b := en.2.1) (by omega) (by omega)).mp c_106
                          refine lv_aload_n hx hb d_C_gatherFrom_109 rfl (lv_at hl 0 rfl) ?_
                          refine lv_aload_n hx hb d_C_gatherFrom_110 rfl (lv_at hl 0 rfl) ?_
                          refine va_get (D := (dC, dI)) (ci := 2) (v := .ref (h 7)) (C := R_C) (T := F_C) (N := 11) hx hb hk k_f_C hown hK hP 6 rfl rfl 0 (by decide) (hk _ k_C_45) (fun _ h9 => h9) rfl d_C_gatherFrom_111 ?_
                          refine lv_iload_n hx hb d_C_gatherFrom_114 rfl (lv_at hl 3 rfl) ?_
                          refine va_iald hx hb hK hP 7 0 rfl rfl (pk_in (R0.length + k) 800 (by omega)) d_C_gatherFrom_115 ?_
                          refine lv_topi (fun z5 ez5 => ?_)
                          obtain rfl : z5 = en.2.2.1 := ez5.trans ((rd (f := eB) (k := R0.length + k) (by omega)).trans hrk.1)
                          refine lv_aload_n hx hb d_C_gatherFrom_116 rfl (lv_at hl 1 rfl) ?_
                          refine va_get (D := (dC, dI)) (ci := 1) (v := .ref (h 5)) (C := R_P) (T := F_P) (N := 6) hx hb hk k_f_P hown hK hP 1 rfl rfl 3 (by decide) (hk _ k_C_30) (fun _ h9 => h9) rfl d_C_gatherFrom_117 ?_
                          refine lv_iload hx hb d_C_gatherFrom_120 (lv_at hl 4 rfl) ?_
                          refine va_iald hx hb hK hP 5 0 rfl rfl (pk_in i 20 (by omega)) d_C_gatherFrom_122 ?_
                          refine lv_topi (fun z6 ez6 => ?_)
                          obtain rfl : z6 = aK i := ez6.trans (rd (f := aK) (k := i) (by omega))
                          refine vp_callSi (W.runS (As := [.int en.2.2.1, .int (aK i)]) (rest := [.ref (h 6)]) ⟨hx, hb, hml, hown, hk⟩ (c_G_join_ok l en.2.2.1 (aK i)) (va_cwS 2 hk g_C_82 rfl rfl rfl (by decide +kernel) ⟨Nat.le_of_ble_eq_true rfl, Nat.le_of_ble_eq_true rfl⟩) ⟨fun a U g mk q => q, fun U hU hW => ⟨rfl, trivial⟩⟩ rfl rfl hl.1 rfl (lv_room (Nat.le_of_ble_eq_true rfl)) d_C_gatherFrom_123 ⟨Nat.le_of_ble_eq_true rfl, Nat.le_of_ble_eq_true rfl⟩) (fun r7 hw => ?_)
                          subst hw
                          refine lv_aload_n hx hb d_C_gatherFrom_126 rfl (lv_at hl 1 rfl) ?_
                          refine va_get (D := (dC, dI)) (ci := 1) (v := .ref (h 4)) (C := R_P) (T := F_P) (N := 6) hx hb hk k_f_P hown hK hP 1 rfl rfl 2 (by decide) (hk _ k_C_26) (fun _ h9 => h9) rfl d_C_gatherFrom_127 ?_
                          refine lv_iload hx hb d_C_gatherFrom_130 (lv_at hl 4 rfl) ?_
                          refine va_iald hx hb hK hP 4 0 rfl rfl (pk_in i 20 (by omega)) d_C_gatherFrom_132 ?_
                          refine lv_topi (fun z8 ez8 => ?_)
                          obtain rfl : z8 = nI (ct i) := ez8.trans (rd (f := fun c => nI (ct c)) (k := i) (by omega))
                          refine lv_iload_n hx hb d_C_gatherFrom_133 rfl (lv_at hl 3 rfl) ?_
                          refine lv_iload hx hb d_C_gatherFrom_134 (lv_at hl 4 rfl) ?_
                          have hFc := va_free (wc := wC h cI (nI nF) (nI nC) (nI ((rowsC R0 (bsI cf ct aK cj k en (bsG nC cf ct aK cj (fun x => x == f) k) i)).length)) (nI (tmC R0 (bsI cf ct aK cj k en (bsG nC cf ct aK cj (fun x => x == f) k) i))) yg ym (fun c => nI (pl c)) (fun c => nI (cf c)) (fun c => nI (ct c)) aK eB eE eA eL eN eC eS eW eT) hD hS hA [0, 1, 2, 3, 4, 5, 6, 7, 8, 9, 10, 11, 12, 13, 14, 15, 16] rfl
                          refine va_callv (va_runV (As := [.int (cj en.2.2.1 (aK i)), .int (nI (ct i)), .int (nI (R0.length + k)), .int (nI i)]) (rest := []) ⟨hx, hb, hml, hown, hk⟩ (c_C_keep_ok l dC dI cI h H.size (nI nF) (nI nC) yg ym (fun c => nI (pl c)) (fun c => nI (cf c)) (fun c => nI (ct c)) aK eB eE eA eL eN eC eS eW eT (rowsC R0 (bsI cf ct aK cj k en (bsG nC cf ct aK cj (fun x => x == f) k) i)) R0.length (tmC R0 (bsI cf ct aK cj k en (bsG nC cf ct aK cj (fun x => x == f) k) i)) f (ct i) i (cj en.2.2.1 (aK i)) (some (R0.length + k)) ((rowsC_len h0).1) ((rowsC_len h0).2) (hch) (hrw) (smR_rows hsm0 (sm_of (J := cj) hS16 (bsI_ok nC cf ct aK cj (fun x => x == f) k (bsG_ok nC cf ct aK cj (fun x => x == f) k en (List.mem_of_getElem? hen)) (bsG_ok nC cf ct aK cj (fun x => x == f) k) i (by omega)))) (by omega)) (cwV 4 hk g_C_78 rfl rfl rfl (by decide +kernel) ⟨Nat.le_of_ble_eq_true rfl, Nat.le_of_ble_eq_true rfl⟩) ⟨fun a U g mk q => by obtain ⟨q0, q1, qP, qK, qD⟩ := q; exact ⟨q0, q1, qP, va_K.moved (u := U) (U := U.calling g mk a) (Vm.Alike.refl U.vm) qK, qD⟩, va_recv hK hP (ci := 2) (q0 := 6) rfl rfl, fun U hU hW => ⟨rfl, by rw [hU], by rw [hU]; exact hP, va_K.moved hW.alike hK, hD.weaken (fun _ _ _ _ => trivial)⟩⟩ rfl rfl hl.1 rfl (lv_room (Nat.le_of_ble_eq_true rfl)) d_C_gatherFrom_136 ⟨Nat.le_of_ble_eq_true rfl, Nat.le_of_ble_eq_true rfl⟩) hS (fun q _ h => hFc q h) hFc (fun u9 t H1 locs ht hvm hw hB hz1 hk1 hS => ?_)
                          obtain ⟨yn9, yt9, eB9, eE9, eA9, eL9, eN9, eC8⟩ := u9
                          obtain ⟨hP1, hK1, hD1⟩ := hB
                          rw [ht] at hP1
                          try dsimp only at hw
                          obtain ⟨hP, hD⟩ := va_join (wr := []) (w1 := wC h cI (nI nF) (nI nC) yn9 yt9 yg ym (fun c => nI (pl c)) (fun c => nI (cf c)) (fun c => nI (ct c)) aK eB9 eE9 eA9 eL9 eN9 eC8 eS eW eT) hP hD [0, 1, 2, 3, 4, 5, 6, 7, 8, 9, 10, 11, 12, 13, 14, 15, 16] [] rfl rfl (by decide) (by decide) hk1 hFc hP1 hD1
                          generalize H1 = H at hP hS ⊢
                          have hP : va_P (dC, dI) kls (wC h cI (nI nF) (nI nC) yn9 yt9 yg ym (fun c => nI (pl c)) (fun c => nI (cf c)) (fun c => nI (ct c)) aK eB9 eE9 eA9 eL9 eN9 eC8 eS eW eT) H := hP
                          have hD : va_D A (wC h cI (nI nF) (nI nC) yn9 yt9 yg ym (fun c => nI (pl c)) (fun c => nI (cf c)) (fun c => nI (ct c)) aK eB9 eE9 eA9 eL9 eN9 eC8 eS eW eT) := hD
                          have hnx : bsI cf ct aK cj k en (bsG nC cf ct aK cj (fun x => x == f) k) (i + 1) = addE (bsI cf ct aK cj k en (bsG nC cf ct aK cj (fun x => x == f) k) i) (f, ct i, cj en.2.2.1 (aK i), some k, i) := by rw [bsI, if_pos c_106, hef]
                          have hkp := keep_rows (R0 := R0) (L := bsI cf ct aK cj k en (bsG nC cf ct aK cj (fun x => x == f) k) i) (e := (f, ct i, cj en.2.2.1 (aK i), some k, i)) h0 (fun x hx9 => beq_iff_eq.mp ((bsI_ok nC cf ct aK cj (fun x => x == f) k (bsG_ok nC cf ct aK cj (fun x => x == f) k en (List.mem_of_getElem? hen)) (bsG_ok nC cf ct aK cj (fun x => x == f) k) i (by omega)) x hx9).1)
                          rw [← hnx] at hkp
                          have hw : yn9 = nI (keepP R0.length (rowsC R0 (bsI cf ct aK cj k en (bsG nC cf ct aK cj (fun x => x == f) k) i)) (tmC R0 (bsI cf ct aK cj k en (bsG nC cf ct aK cj (fun x => x == f) k) i)) (shE R0.length (f, ct i, cj en.2.2.1 (aK i), some k, i))).1.length ∧ yt9 = nI (keepP R0.length (rowsC R0 (bsI cf ct aK cj k en (bsG nC cf ct aK cj (fun x => x == f) k) i)) (tmC R0 (bsI cf ct aK cj k en (bsG nC cf ct aK cj (fun x => x == f) k) i)) (shE R0.length (f, ct i, cj en.2.2.1 (aK i), some k, i))).2 ∧ hRw (keepP R0.length (rowsC R0 (bsI cf ct aK cj k en (bsG nC cf ct aK cj (fun x => x == f) k) i)) (tmC R0 (bsI cf ct aK cj k en (bsG nC cf ct aK cj (fun x => x == f) k) i)) (shE R0.length (f, ct i, cj en.2.2.1 (aK i), some k, i))).1 eB9 eE9 eA9 eL9 ∧ hCh R0.length (keepP R0.length (rowsC R0 (bsI cf ct aK cj k en (bsG nC cf ct aK cj (fun x => x == f) k) i)) (tmC R0 (bsI cf ct aK cj k en (bsG nC cf ct aK cj (fun x => x == f) k) i)) (shE R0.length (f, ct i, cj en.2.2.1 (aK i), some k, i))).1.length (hsF eB9 eE9) eC8 eN9 := hw
                          rw [hkp] at hw
                          obtain ⟨hg9, ht9, hrw9, hch9⟩ := hw
                          subst hg9
                          subst ht9
                          refine lv_iinc (v := nI (i + 1)) (lv' := [(4, .int (nI (i + 1))), (0, .ref (h 6)), (1, .ref (h 1)), (2, .int (nI f)), (3, .int (nI (R0.length + k)))]) hx hb d_C_gatherFrom_139 hl (k := 4) rfl (nI_add i 1) (by decide) rfl (fun ls hl => ?_)
                          refine lv_goto (tgt := 84) hx hb d_C_gatherFrom_142 (by decide) ?_
                          exact ih_lpC (i + 1) eB9 eE9 eA9 eL9 eN9 eC8 (by omega) (hrw9) (hch9) (by omega) _ _ _ hP hD hS (lv_sub hl [1, 2, 3, 4, 0] rfl)
                  exact lpC _ 0 eB eE eA eL eN eC (Nat.zero_le _) (hrw) (hch) (Nat.lt_succ_self _) _ _ _ hP hD hS (lv_sub hl [1, 2, 3, 4, 0] rfl)
        exact lpB _ 0 eB eE eA eL eN eC (Nat.zero_le _) (hrw) (hch) (Nat.lt_succ_self _) _ _ _ hP hD hS (lv_sub hl [1, 2, 3, 0] rfl)
      · have c_15 : ¬ nC ≤ k := fun z9 => c_15 ((nI_leI (a := nC) (b := k) (by omega) (by omega)).mpr z9)
        have hck := hS0 k (by omega)
        refine lv_aload_n hx hb d_C_gatherFrom_18 rfl (lv_at hl 1 rfl) ?_
        refine va_get (D := (dC, dI)) (ci := 1) (v := .ref (h 3)) (C := R_P) (T := F_P) (N := 6) hx hb hk k_f_P hown hK hP 1 rfl rfl 1 (by decide) (hk _ k_C_22) (fun _ h9 => h9) rfl d_C_gatherFrom_19 ?_
        refine lv_iload_n hx hb d_C_gatherFrom_22 rfl (lv_at hl 3 rfl) ?_
        refine va_iald hx hb hK hP 3 0 rfl rfl (pk_in k 20 (by omega)) d_C_gatherFrom_23 ?_
        refine lv_topi (fun z10 ez10 => ?_)
        obtain rfl : z10 = nI (cf k) := ez10.trans (rd (f := fun c => nI (cf c)) (k := k) (by omega))
        refine lv_iload_n hx hb d_C_gatherFrom_24 rfl (lv_at hl 2 rfl) ?_
        refine lv_icmp_ne (tgt := 46) hx hb d_C_gatherFrom_25 (by decide) (fun c_25 => ?_) (fun c_25 => ?_)
        · have c_25 : ¬ cf k = f := fun z9 => c_25 ((nI_eq (a := cf k) (b := f) (by omega) (by omega)).mpr z9)
          refine lv_iinc (v := nI (k + 1)) (lv' := [(3, .int (nI (k + 1))), (0, .ref (h 6)), (1, .ref (h 1)), (2, .int (nI f))]) hx hb d_C_gatherFrom_46 hl (k := 3) rfl (nI_add k 1) (by decide) rfl (fun ls hl => ?_)
          refine lv_goto (tgt := 10) hx hb d_C_gatherFrom_49 (by decide) ?_
          have hb0 : bs0 cf ct aK (fun x => x == f) (k + 1) = bs0 cf ct aK (fun x => x == f) k := by rw [bs0, if_neg (fun z9 => c_25 (beq_iff_eq.mp z9))]
          rw [← hb0] at hrw hch hP hD
          exact ih_lpA (k + 1) eB eE eA eL eN eC (by omega) (hrw) (hch) (by omega) _ _ _ hP hD hS (lv_sub hl [1, 2, 3, 0] rfl)
        · have c_25 : cf k = f := (nI_eq (a := cf k) (b := f) (by omega) (by omega)).mp c_25
          refine lv_aload_n hx hb d_C_gatherFrom_28 rfl (lv_at hl 0 rfl) ?_
          refine lv_aload_n hx hb d_C_gatherFrom_29 rfl (lv_at hl 1 rfl) ?_
          refine va_get (D := (dC, dI)) (ci := 1) (v := .ref (h 5)) (C := R_P) (T := F_P) (N := 6) hx hb hk k_f_P hown hK hP 1 rfl rfl 3 (by decide) (hk _ k_C_30) (fun _ h9 => h9) rfl d_C_gatherFrom_30 ?_
          refine lv_iload_n hx hb d_C_gatherFrom_33 rfl (lv_at hl 3 rfl) ?_
          refine va_iald hx hb hK hP 5 0 rfl rfl (pk_in k 20 (by omega)) d_C_gatherFrom_34 ?_
          refine lv_topi (fun z11 ez11 => ?_)
          obtain rfl : z11 = aK k := ez11.trans (rd (f := aK) (k := k) (by omega))
          refine lv_aload_n hx hb d_C_gatherFrom_35 rfl (lv_at hl 1 rfl) ?_
          refine va_get (D := (dC, dI)) (ci := 1) (v := .ref (h 4)) (C := R_P) (T := F_P) (N := 6) hx hb hk k_f_P hown hK hP 1 rfl rfl 2 (by decide) (hk _ k_C_26) (fun _ h9 => h9) rfl d_C_gatherFrom_36 ?_
          refine lv_iload_n hx hb d_C_gatherFrom_39 rfl (lv_at hl 3 rfl) ?_
          refine va_iald hx hb hK hP 4 0 rfl rfl (pk_in k 20 (by omega)) d_C_gatherFrom_40 ?_
          refine lv_topi (fun z12 ez12 => ?_)
          obtain rfl : z12 = nI (ct k) := ez12.trans (rd (f := fun c => nI (ct c)) (k := k) (by omega))
          refine lv_iconst (v := (-1)) hx hb d_C_gatherFrom_41 (by decide +kernel) ?_
          refine lv_iload_n hx hb d_C_gatherFrom_42 rfl (lv_at hl 3 rfl) ?_
          have hFc := va_free (wc := wC h cI (nI nF) (nI nC) (nI ((rowsC R0 (bs0 cf ct aK (fun x => x == f) k)).length)) (nI (tmC R0 (bs0 cf ct aK (fun x => x == f) k))) yg ym (fun c => nI (pl c)) (fun c => nI (cf c)) (fun c => nI (ct c)) aK eB eE eA eL eN eC eS eW eT) hD hS hA [0, 1, 2, 3, 4, 5, 6, 7, 8, 9, 10, 11, 12, 13, 14, 15, 16] rfl
          refine va_callv (va_runV (As := [.int (aK k), .int (nI (ct k)), .int (-1), .int (nI k)]) (rest := []) ⟨hx, hb, hml, hown, hk⟩ (c_C_keep_ok l dC dI cI h H.size (nI nF) (nI nC) yg ym (fun c => nI (pl c)) (fun c => nI (cf c)) (fun c => nI (ct c)) aK eB eE eA eL eN eC eS eW eT (rowsC R0 (bs0 cf ct aK (fun x => x == f) k)) R0.length (tmC R0 (bs0 cf ct aK (fun x => x == f) k)) f (ct k) k (aK k) none ((rowsC_len h0).1) ((rowsC_len h0).2) (hch) (hrw) (smR_rows hsm0 (sm_of (J := cj) hS16 (bs0_ok nC cf ct aK cj (fun x => x == f) k (by omega)))) (by omega)) (cwV 4 hk g_C_78 rfl rfl rfl (by decide +kernel) ⟨Nat.le_of_ble_eq_true rfl, Nat.le_of_ble_eq_true rfl⟩) ⟨fun a U g mk q => by obtain ⟨q0, q1, qP, qK, qD⟩ := q; exact ⟨q0, q1, qP, va_K.moved (u := U) (U := U.calling g mk a) (Vm.Alike.refl U.vm) qK, qD⟩, va_recv hK hP (ci := 2) (q0 := 6) rfl rfl, fun U hU hW => ⟨rfl, by rw [hU], by rw [hU]; exact hP, va_K.moved hW.alike hK, hD.weaken (fun _ _ _ _ => trivial)⟩⟩ rfl rfl hl.1 rfl (lv_room (Nat.le_of_ble_eq_true rfl)) d_C_gatherFrom_43 ⟨Nat.le_of_ble_eq_true rfl, Nat.le_of_ble_eq_true rfl⟩) hS (fun q _ h => hFc q h) hFc (fun u9 t H1 locs ht hvm hw hB hz1 hk1 hS => ?_)
          obtain ⟨yn9, yt9, eB9, eE9, eA9, eL9, eN9, eC8⟩ := u9
          obtain ⟨hP1, hK1, hD1⟩ := hB
          rw [ht] at hP1
          try dsimp only at hw
          obtain ⟨hP, hD⟩ := va_join (wr := []) (w1 := wC h cI (nI nF) (nI nC) yn9 yt9 yg ym (fun c => nI (pl c)) (fun c => nI (cf c)) (fun c => nI (ct c)) aK eB9 eE9 eA9 eL9 eN9 eC8 eS eW eT) hP hD [0, 1, 2, 3, 4, 5, 6, 7, 8, 9, 10, 11, 12, 13, 14, 15, 16] [] rfl rfl (by decide) (by decide) hk1 hFc hP1 hD1
          generalize H1 = H at hP hS ⊢
          have hP : va_P (dC, dI) kls (wC h cI (nI nF) (nI nC) yn9 yt9 yg ym (fun c => nI (pl c)) (fun c => nI (cf c)) (fun c => nI (ct c)) aK eB9 eE9 eA9 eL9 eN9 eC8 eS eW eT) H := hP
          have hD : va_D A (wC h cI (nI nF) (nI nC) yn9 yt9 yg ym (fun c => nI (pl c)) (fun c => nI (cf c)) (fun c => nI (ct c)) aK eB9 eE9 eA9 eL9 eN9 eC8 eS eW eT) := hD
          have hnx : bs0 cf ct aK (fun x => x == f) (k + 1) = addE (bs0 cf ct aK (fun x => x == f) k) (f, ct k, aK k, none, k) := by rw [bs0, if_pos (beq_iff_eq.mpr c_25)]; rw [c_25]
          have hkp := keep_rows (R0 := R0) (L := bs0 cf ct aK (fun x => x == f) k) (e := (f, ct k, aK k, none, k)) h0 (fun x hx9 => beq_iff_eq.mp (bs0_ok nC cf ct aK cj (fun x => x == f) k (by omega) x hx9).1)
          rw [← hnx] at hkp
          have hw : yn9 = nI (keepP R0.length (rowsC R0 (bs0 cf ct aK (fun x => x == f) k)) (tmC R0 (bs0 cf ct aK (fun x => x == f) k)) (shE R0.length (f, ct k, aK k, none, k))).1.length ∧ yt9 = nI (keepP R0.length (rowsC R0 (bs0 cf ct aK (fun x => x == f) k)) (tmC R0 (bs0 cf ct aK (fun x => x == f) k)) (shE R0.length (f, ct k, aK k, none, k))).2 ∧ hRw (keepP R0.length (rowsC R0 (bs0 cf ct aK (fun x => x == f) k)) (tmC R0 (bs0 cf ct aK (fun x => x == f) k)) (shE R0.length (f, ct k, aK k, none, k))).1 eB9 eE9 eA9 eL9 ∧ hCh R0.length (keepP R0.length (rowsC R0 (bs0 cf ct aK (fun x => x == f) k)) (tmC R0 (bs0 cf ct aK (fun x => x == f) k)) (shE R0.length (f, ct k, aK k, none, k))).1.length (hsF eB9 eE9) eC8 eN9 := hw
          rw [hkp] at hw
          obtain ⟨hg9, ht9, hrw9, hch9⟩ := hw
          subst hg9
          subst ht9
          refine lv_iinc (v := nI (k + 1)) (lv' := [(3, .int (nI (k + 1))), (0, .ref (h 6)), (1, .ref (h 1)), (2, .int (nI f))]) hx hb d_C_gatherFrom_46 hl (k := 3) rfl (nI_add k 1) (by decide) rfl (fun ls hl => ?_)
          refine lv_goto (tgt := 10) hx hb d_C_gatherFrom_49 (by decide) ?_
          exact ih_lpA (k + 1) eB9 eE9 eA9 eL9 eN9 eC8 (by omega) (hrw9) (hch9) (by omega) _ _ _ hP hD hS (lv_sub hl [1, 2, 3, 0] rfl)
  exact lpA _ 0 eB eE eA eL eN eC9 (Nat.zero_le _) (hrw1) (hch1) (Nat.lt_succ_self _) _ _ _ hP hD hS (lv_sub hl [1, 2, 3, 0] rfl)
