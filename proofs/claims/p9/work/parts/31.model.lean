def uN (x : Int32) : Nat := x.toBitVec.toNat
theorem uN_lt (x : Int32) : uN x < 2 ^ 32 := x.toBitVec.isLt
theorem uN_inj {x y : Int32} (h : uN x = uN y) : x = y := Int32.toBitVec_inj.mp (BitVec.eq_of_toNat_eq h)
theorem uI (x : Int32) : x.toInt = if 2 * uN x < 2 ^ 32 then (uN x : Int) else (uN x : Int) - 2 ^ 32 := BitVec.toInt_eq_toNat_cond x.toBitVec
theorem in14 {x : Int32} (h1 : ¬ x < nI 1) (h4 : x ≤ nI 4) : ∃ j, 1 ≤ j ∧ j ≤ 4 ∧ x = nI j := by
  have h0 : ¬ x < 0 := by
    intro h
    rw [Int32.lt_iff_toInt_lt] at h h1
    have e1 : (nI 1).toInt = 1 := by decide +kernel
    have e0 : (0 : Int32).toInt = 0 := by decide +kernel
    omega
  obtain ⟨j, hj, rfl⟩ := nI_of2 (M := nI 4) (n := 4) (by decide +kernel) h0 h4
  refine ⟨j, ?_, hj, rfl⟩
  rcases Nat.eq_zero_or_pos j with rfl | h
  · exact absurd (show nI 0 < nI 1 from nI_lt (by omega) (by omega)) h1
  · exact h
theorem no14 {x : Int32} (h : x < nI 1 ∨ ¬ x ≤ nI 4) : ¬ ∃ j, 1 ≤ j ∧ j ≤ 4 ∧ x = nI j := by
  rintro ⟨j, h1, h4, rfl⟩
  rcases h with h | h
  · exact absurd ((nI_ltI (by omega) (by omega)).mp h) (by omega)
  · exact h (nI_le h4 (by omega))
def ahI (o : Option Nat) : Int32 := match o with
  | none => -1
  | some k => nI k
/-- the arrays hold the entries -/
def hE (es : List En) (bF bL bB bA bY : Nat → Int32) : Prop := ∀ k e, es[k]? = some e → bF k = nI e.1 ∧ bL k = nI e.2.1 ∧ bB k = e.2.2.1 ∧ bA k = ahI e.2.2.2.1 ∧ bY k = nI e.2.2.2.2
/-- their functions are small -/
def smE (es : List En) : Prop := ∀ e ∈ es, e.1 < 16 ∧ e.2.1 < 16
def addC (cap : Nat) (es : List En) (e : En) : List En := if kyE e ∈ es.map kyE ∨ cap ≤ es.length then es else es ++ [e]
theorem hE_snoc {es : List En} {bF bL bB bA bY : Nat → Int32} (h : hE es bF bL bB bA bY) (e : En) : hE (es ++ [e]) (upd bF es.length (nI e.1)) (upd bL es.length (nI e.2.1)) (upd bB es.length e.2.2.1) (upd bA es.length (ahI e.2.2.2.1)) (upd bY es.length (nI e.2.2.2.2)) := by
  intro k x hk
  rcases Nat.lt_trichotomy k es.length with h1 | h1 | h1
  · rw [List.getElem?_append_left h1] at hk
    have hne : k ≠ es.length := by omega
    rw [pk_un hne, pk_un hne, pk_un hne, pk_un hne, pk_un hne]
    exact h k x hk
  · subst h1
    rw [List.getElem?_append_right (Nat.le_refl _), Nat.sub_self] at hk
    cases hk
    rw [pk_us, pk_us, pk_us, pk_us, pk_us]
    exact ⟨rfl, rfl, rfl, rfl, rfl⟩
  · rw [List.getElem?_eq_none (by rw [List.length_append]; simp; omega)] at hk
    cases hk
theorem hE_not {es : List En} {bF bL bB bA bY : Nat → Int32} (h : hE es bF bL bB bA bY) (hs : smE es) {f g k : Nat} {b : Int32} (hf : f < 16) (hg : g < 16) (hne : ¬ bF k = nI f ∨ ¬ bL k = nI g ∨ ¬ bB k = b) : ∀ e, es[k]? = some e → kyE e ≠ (f, g, b) := by
  intro e he heq
  obtain ⟨h1, h2, h3, -, -⟩ := h k e he
  obtain ⟨rfl, rfl, rfl⟩ : e.1 = f ∧ e.2.1 = g ∧ e.2.2.1 = b := by
    have := heq; simp only [kyE, Prod.mk.injEq] at this; exact this
  rcases hne with q | q | q
  · exact q h1
  · exact q h2
  · exact q h3
theorem hE_yes {es : List En} {bF bL bB bA bY : Nat → Int32} (h : hE es bF bL bB bA bY) (hs : smE es) {f g k : Nat} {b : Int32} (hf : f < 16) (hg : g < 16) (hk : k < es.length) (h1 : bF k = nI f) (h2 : bL k = nI g) (h3 : bB k = b) : (f, g, b) ∈ es.map kyE := by
  obtain ⟨e, he⟩ : ∃ e, es[k]? = some e := ⟨_, List.getElem?_eq_getElem hk⟩
  obtain ⟨q1, q2, q3, -, -⟩ := h k e he
  have hm := List.mem_of_getElem? he
  have hsm := hs e hm
  refine List.mem_map.mpr ⟨e, hm, ?_⟩
  have e1 : e.1 = f := (nI_eq (by omega) (by omega)).mp (q1.symm.trans h1)
  have e2 : e.2.1 = g := (nI_eq (by omega) (by omega)).mp (q2.symm.trans h2)
  have e3 : e.2.2.1 = b := q3.symm.trans h3
  rw [kyE, e1, e2, e3]
theorem ky_none {es : List En} {q : Ky} (h : ∀ j e, j < es.length → es[j]? = some e → kyE e ≠ q) : q ∉ es.map kyE := by
  intro hq
  obtain ⟨e, he, rfl⟩ := List.mem_map.mp hq
  obtain ⟨j, hj⟩ := List.getElem?_of_mem he
  exact h j e (List.getElem?_eq_some_iff.mp hj).1 hj rfl
/-- the bounded list of the growing one -/
theorem addC_take (cap : Nat) (es : List En) (e : En) : addC cap (es.take cap) e = (addE es e).take cap := by
  unfold addC addE
  have hsub : ∀ q, q ∈ (es.take cap).map kyE → q ∈ es.map kyE := by
    intro q hq
    obtain ⟨x, hx, rfl⟩ := List.mem_map.mp hq
    exact List.mem_map.mpr ⟨x, List.mem_of_mem_take hx, rfl⟩
  by_cases h1 : kyE e ∈ (es.take cap).map kyE
  · rw [if_pos (Or.inl h1), if_pos (hsub _ h1)]
  · by_cases h2 : cap ≤ es.length
    · rw [if_pos (Or.inr (by rw [List.length_take]; omega))]
      split
      · rfl
      · rw [List.take_append_of_le_length h2]
    · have h3 : es.take cap = es := List.take_of_length_le (by omega)
      rw [h3] at h1 ⊢
      rw [if_neg (by intro q; rcases q with q | q; exact h1 q; exact h2 q), if_neg h1, List.take_of_length_le (by rw [List.length_append]; simp; omega)]
set_option maxHeartbeats 4000000 in
set_option maxRecDepth 100000 in
theorem m_function (l : Launch) (dC : Nat → ClassId) (dI : Nat → Nat → Nat) (cI cZ : ClassId) (h : Nat → Nat) (sz : Nat) (xt xc xg : Int32) (aP aF aT aK bF bL bB bA bY bR oT oO oR bS : Nat → Int32) (nF : Nat) (n : Int32) (hF : nF ≤ 10) : Met l y_M_function w_M_function ({ frames := 0, cells := 0, slots := 0, locals := 0 }) (va_Pc [.ref (h 0), .int n] (fun U => U.heap.size = sz ∧ va_P (dC, dI) kls (wM h cI cZ xt (nI nF) xc xg aP aF aT aK bF bL bB bA bY bR oT oO oR bS) U.heap ∧ va_K (dC, dI) kls (tyM cI cZ) U ∧ va_D (fun _ => True) (wM h cI cZ xt (nI nF) xc xg aP aF aT aK bF bL bB bA bY bR oT oO oR bS))) (va_Qi (fun (r : Int32) (u : Int32 × Int32 × (Nat → Int32)) => ((¬ ∃ j, 1 ≤ j ∧ j ≤ 4 ∧ n = nI j) ∧ u.1 = nI 1 ∧ u.2.1 = nI nF ∧ u.2.2 = aP) ∨ ((∃ j, 1 ≤ j ∧ j ≤ 4 ∧ n = nI j) ∧ nF = 10 ∧ u.1 = nI 2 ∧ u.2.1 = nI nF ∧ u.2.2 = aP) ∨ ((∃ j, 1 ≤ j ∧ j ≤ 4 ∧ n = nI j) ∧ nF < 10 ∧ u.1 = nI 0 ∧ u.2.1 = nI (nF + 1) ∧ u.2.2 = upd aP nF n ∧ r = nI nF)) (fun (u : Int32 × Int32 × (Nat → Int32)) (t : State) => va_P (dC, dI) kls (wM h cI cZ u.1 u.2.1 xc xg u.2.2 aF aT aK bF bL bB bA bY bR oT oO oR bS) t.heap ∧ va_K (dC, dI) kls (tyM cI cZ) t ∧ va_D (va_A (wM h cI cZ xt (nI nF) xc xg aP aF aT aK bF bL bB bA bY bR oT oO oR bS) sz) (wM h cI cZ u.1 u.2.1 xc xg u.2.2 aF aT aK bF bL bB bA bY bR oT oO oR bS)) (va_A (wM h cI cZ xt (nI nF) xc xg aP aF aT aK bF bL bB bA bY bR oT oO oR bS) sz)) 0 0 (va_A (wM h cI cZ xt (nI nF) xc xg aP aF aT aK bF bL bB bA bY bR oT oO oR bS) sz) := by
  refine Met.ofW (cc := c_M_function) (maxL := 2) (ret := (some .int)) (by decide) rfl ?_
  intro p e s m args below meth c s₁ B hml hv
  obtain ⟨rfl, hsz, hP, hK, hD0⟩ := hv
  have hx := B.exec
  have hb := B.bytes
  have hr := B.returns
  have hts := atoms_spec (ws := w_M_function) B.pre
  have hk : ∀ w ∈ wMw, w.before _ s = true := fun w h => hts w (List.mem_cons_of_mem _ h)
  have hown : s.vm.findClass R_M = some m.cls := findClass_of_methodNamed B.named
  have hlocks := B.notSynchronized
  subst hsz
  have hD := hD0.self (sz := s.heap.size)
  generalize hAe : va_A (wM h cI cZ xt (nI nF) xc xg aP aF aT aK bF bL bB bA bY bR oT oO oR bS) s.heap.size = A at hD ⊢
  have hA : ∀ q : Nat, s.heap.size ≤ q → A q := fun q h => by rw [← hAe]; exact Or.inr h
  have hS : va_S A s.heap s.heap [] := va_S.rf
  have hl := lv_entry ([.ref (h 0), .int n]) (n := 2) (Nat.le_of_ble_eq_true rfl)
  rw [lg_entry_eq]
  generalize (lg_sl ([.ref (h 0), .int n]) ++ List.replicate (2 - (lg_sl ([.ref (h 0), .int n])).length) Slot.unset).toArray = ls at hl ⊢
  have hl : lv_has ls 2 [(0, .ref (h 0)), (1, .int n)] := hl
  refine lv_aload_n hx hb d_M_function_0 rfl (lv_at hl 0 rfl) ?_
  refine lv_iload_n hx hb d_M_function_1 rfl (lv_at hl 1 rfl) ?_
  refine lv_iconst (v := nI 1) hx hb d_M_function_2 (by decide +kernel) ?_
  refine lv_icmp_lt (tgt := 11) hx hb d_M_function_3 (by decide) (fun c_3 => ?_) (fun c_3 => ?_)
  · refine lv_iconst (v := nI 1) hx hb d_M_function_11 (by decide +kernel) ?_
    refine lv_goto (tgt := 29) hx hb d_M_function_12 (by decide) ?_
    refine va_put (D := (dC, dI)) (ci := 0) (v := .int (nI 1)) (ty := .int) (C := R_M) (T := F_M) (N := 18) hx hb hk k_M_f t_M t_M_ok n_M hown hK hP hD hS 0 rfl rfl 0 (by decide) (hk _ k_M_8) (fun _ h9 => h9) rfl (by decide +kernel) rfl rfl (Nat.le_of_ble_eq_true rfl) d_M_function_29 (fun H locs hP hD hS => ?_)
    have hP : va_P (dC, dI) kls (wM h cI cZ (nI 1) (nI nF) xc xg aP aF aT aK bF bL bB bA bY bR oT oO oR bS) H := hP
    have hD : va_D A (wM h cI cZ (nI 1) (nI nF) xc xg aP aF aT aK bF bL bB bA bY bR oT oO oR bS) := hD
    refine lv_aload_n hx hb d_M_function_32 rfl (lv_at hl 0 rfl) ?_
    refine va_get (D := (dC, dI)) (ci := 0) (v := .int (nI 1)) (C := R_M) (T := F_M) (N := 18) hx hb hk k_M_f hown hK hP 0 rfl rfl 0 (by decide) (hk _ k_M_8) (fun _ h9 => h9) rfl d_M_function_33 ?_
    refine lv_if_le (tgt := 41) hx hb d_M_function_36 (by decide) (fun c9 => absurd c9 (by decide +kernel)) (fun _ => ?_)
    refine lv_iconst (v := nI 0) hx hb d_M_function_39 (by decide +kernel) ?_
    exact W.iret (v := nI 0) hx hb hr (fun t ht hW => ⟨⟨nI 0, (nI 1, nI nF, aP), rfl, Or.inl ⟨no14 (by first | exact Or.inl c_3 | exact Or.inr c_8), rfl, rfl, rfl⟩, by rw [ht]; exact hP, va_K.moved hW.alike hK, hD⟩, hS.F ht⟩) hS.2.2 d_M_function_40
  · refine lv_iload_n hx hb d_M_function_6 rfl (lv_at hl 1 rfl) ?_
    refine lv_iconst (v := nI 4) hx hb d_M_function_7 (by decide +kernel) ?_
    refine lv_icmp_le (tgt := 15) hx hb d_M_function_8 (by decide) (fun c_8 => ?_) (fun c_8 => ?_)
    · refine lv_aload_n hx hb d_M_function_15 rfl (lv_at hl 0 rfl) ?_
      refine va_get (D := (dC, dI)) (ci := 0) (v := .int (nI nF)) (C := R_M) (T := F_M) (N := 18) hx hb hk k_M_f hown hK hP 0 rfl rfl 1 (by decide) (hk _ k_M_9) (fun _ h9 => h9) rfl d_M_function_16 ?_
      refine lv_bipush (v := nI 10) hx hb d_M_function_19 (by decide +kernel) ?_
      refine lv_icmp_ne (tgt := 28) hx hb d_M_function_21 (by decide) (fun c_21 => ?_) (fun c_21 => ?_)
      · have c_21 : ¬ nF = 10 := fun z9 => c_21 ((nI_eq (a := nF) (b := 10) (by omega) (by omega)).mpr z9)
        refine lv_iconst (v := nI 0) hx hb d_M_function_28 (by decide +kernel) ?_
        refine va_put (D := (dC, dI)) (ci := 0) (v := .int (nI 0)) (ty := .int) (C := R_M) (T := F_M) (N := 18) hx hb hk k_M_f t_M t_M_ok n_M hown hK hP hD hS 0 rfl rfl 0 (by decide) (hk _ k_M_8) (fun _ h9 => h9) rfl (by decide +kernel) rfl rfl (Nat.le_of_ble_eq_true rfl) d_M_function_29 (fun H locs hP hD hS => ?_)
        have hP : va_P (dC, dI) kls (wM h cI cZ (nI 0) (nI nF) xc xg aP aF aT aK bF bL bB bA bY bR oT oO oR bS) H := hP
        have hD : va_D A (wM h cI cZ (nI 0) (nI nF) xc xg aP aF aT aK bF bL bB bA bY bR oT oO oR bS) := hD
        refine lv_aload_n hx hb d_M_function_32 rfl (lv_at hl 0 rfl) ?_
        refine va_get (D := (dC, dI)) (ci := 0) (v := .int (nI 0)) (C := R_M) (T := F_M) (N := 18) hx hb hk k_M_f hown hK hP 0 rfl rfl 0 (by decide) (hk _ k_M_8) (fun _ h9 => h9) rfl d_M_function_33 ?_
        refine lv_if_le (tgt := 41) hx hb d_M_function_36 (by decide) (fun _ => ?_) (fun c9 => absurd c9 (by decide +kernel))
        refine lv_aload_n hx hb d_M_function_41 rfl (lv_at hl 0 rfl) ?_
        refine va_get (D := (dC, dI)) (ci := 0) (v := .ref (h 1)) (C := R_M) (T := F_M) (N := 18) hx hb hk k_M_f hown hK hP 0 rfl rfl 3 (by decide) (hk _ k_M_11) (fun _ h9 => h9) rfl d_M_function_42 ?_
        refine lv_aload_n hx hb d_M_function_45 rfl (lv_at hl 0 rfl) ?_
        refine va_get (D := (dC, dI)) (ci := 0) (v := .int (nI nF)) (C := R_M) (T := F_M) (N := 18) hx hb hk k_M_f hown hK hP 0 rfl rfl 1 (by decide) (hk _ k_M_9) (fun _ h9 => h9) rfl d_M_function_46 ?_
        refine lv_iload_n hx hb d_M_function_49 rfl (lv_at hl 1 rfl) ?_
        refine va_iast hx hb hK hP hD hS 1 0 rfl rfl (pk_in nF 10 (by omega)) d_M_function_50 (fun H locs hP hD hS => ?_)
        rw [nI_clamp (n := nF) (by omega)] at hP hD
        have hP : va_P (dC, dI) kls (wM h cI cZ (nI 0) (nI nF) xc xg (upd aP nF n) aF aT aK bF bL bB bA bY bR oT oO oR bS) H := hP
        have hD : va_D A (wM h cI cZ (nI 0) (nI nF) xc xg (upd aP nF n) aF aT aK bF bL bB bA bY bR oT oO oR bS) := hD
        refine lv_aload_n hx hb d_M_function_51 rfl (lv_at hl 0 rfl) ?_
        refine lv_dup hx hb d_M_function_52 rfl ?_
        refine va_get (D := (dC, dI)) (ci := 0) (v := .int (nI nF)) (C := R_M) (T := F_M) (N := 18) hx hb hk k_M_f hown hK hP 0 rfl rfl 1 (by decide) (hk _ k_M_9) (fun _ h9 => h9) rfl d_M_function_53 ?_
        refine lv_iconst (v := nI 1) hx hb d_M_function_56 (by decide +kernel) ?_
        refine lv_iadd hx hb d_M_function_57 ?_
        refine lv_topi (fun z1 ez1 => ?_)
        obtain rfl : z1 = nI (nF + 1) := ez1.trans (nI_add _ _)
        refine va_put (D := (dC, dI)) (ci := 0) (v := .int (nI (nF + 1))) (ty := .int) (C := R_M) (T := F_M) (N := 18) hx hb hk k_M_f t_M t_M_ok n_M hown hK hP hD hS 0 rfl rfl 1 (by decide) (hk _ k_M_9) (fun _ h9 => h9) rfl (by decide +kernel) rfl rfl (Nat.le_of_ble_eq_true rfl) d_M_function_58 (fun H locs hP hD hS => ?_)
        have hP : va_P (dC, dI) kls (wM h cI cZ (nI 0) (nI (nF + 1)) xc xg (upd aP nF n) aF aT aK bF bL bB bA bY bR oT oO oR bS) H := hP
        have hD : va_D A (wM h cI cZ (nI 0) (nI (nF + 1)) xc xg (upd aP nF n) aF aT aK bF bL bB bA bY bR oT oO oR bS) := hD
        refine lv_aload_n hx hb d_M_function_61 rfl (lv_at hl 0 rfl) ?_
        refine va_get (D := (dC, dI)) (ci := 0) (v := .int (nI (nF + 1))) (C := R_M) (T := F_M) (N := 18) hx hb hk k_M_f hown hK hP 0 rfl rfl 1 (by decide) (hk _ k_M_9) (fun _ h9 => h9) rfl d_M_function_62 ?_
        refine lv_iconst (v := nI 1) hx hb d_M_function_65 (by decide +kernel) ?_
        refine lv_isub hx hb d_M_function_66 ?_
        refine lv_topi (fun z2 ez2 => ?_)
        obtain rfl : z2 = nI nF := ez2.trans (pk_sub (by omega))
        exact W.iret (v := nI nF) hx hb hr (fun t ht hW => ⟨⟨nI nF, (nI 0, nI (nF + 1), upd aP nF n), rfl, Or.inr (Or.inr ⟨in14 c_3 c_8, by omega, rfl, rfl, rfl, rfl⟩), by rw [ht]; exact hP, va_K.moved hW.alike hK, hD⟩, hS.F ht⟩) hS.2.2 d_M_function_67
      · have c_21 : nF = 10 := (nI_eq (a := nF) (b := 10) (by omega) (by omega)).mp c_21
        refine lv_iconst (v := nI 2) hx hb d_M_function_24 (by decide +kernel) ?_
        refine lv_goto (tgt := 29) hx hb d_M_function_25 (by decide) ?_
        refine va_put (D := (dC, dI)) (ci := 0) (v := .int (nI 2)) (ty := .int) (C := R_M) (T := F_M) (N := 18) hx hb hk k_M_f t_M t_M_ok n_M hown hK hP hD hS 0 rfl rfl 0 (by decide) (hk _ k_M_8) (fun _ h9 => h9) rfl (by decide +kernel) rfl rfl (Nat.le_of_ble_eq_true rfl) d_M_function_29 (fun H locs hP hD hS => ?_)
        have hP : va_P (dC, dI) kls (wM h cI cZ (nI 2) (nI nF) xc xg aP aF aT aK bF bL bB bA bY bR oT oO oR bS) H := hP
        have hD : va_D A (wM h cI cZ (nI 2) (nI nF) xc xg aP aF aT aK bF bL bB bA bY bR oT oO oR bS) := hD
        refine lv_aload_n hx hb d_M_function_32 rfl (lv_at hl 0 rfl) ?_
        refine va_get (D := (dC, dI)) (ci := 0) (v := .int (nI 2)) (C := R_M) (T := F_M) (N := 18) hx hb hk k_M_f hown hK hP 0 rfl rfl 0 (by decide) (hk _ k_M_8) (fun _ h9 => h9) rfl d_M_function_33 ?_
        refine lv_if_le (tgt := 41) hx hb d_M_function_36 (by decide) (fun c9 => absurd c9 (by decide +kernel)) (fun _ => ?_)
        refine lv_iconst (v := nI 0) hx hb d_M_function_39 (by decide +kernel) ?_
        exact W.iret (v := nI 0) hx hb hr (fun t ht hW => ⟨⟨nI 0, (nI 2, nI nF, aP), rfl, Or.inr (Or.inl ⟨in14 c_3 c_8, c_21, rfl, rfl, rfl⟩), by rw [ht]; exact hP, va_K.moved hW.alike hK, hD⟩, hS.F ht⟩) hS.2.2 d_M_function_40
    · refine lv_iconst (v := nI 1) hx hb d_M_function_11 (by decide +kernel) ?_
      refine lv_goto (tgt := 29) hx hb d_M_function_12 (by decide) ?_
      refine va_put (D := (dC, dI)) (ci := 0) (v := .int (nI 1)) (ty := .int) (C := R_M) (T := F_M) (N := 18) hx hb hk k_M_f t_M t_M_ok n_M hown hK hP hD hS 0 rfl rfl 0 (by decide) (hk _ k_M_8) (fun _ h9 => h9) rfl (by decide +kernel) rfl rfl (Nat.le_of_ble_eq_true rfl) d_M_function_29 (fun H locs hP hD hS => ?_)
      have hP : va_P (dC, dI) kls (wM h cI cZ (nI 1) (nI nF) xc xg aP aF aT aK bF bL bB bA bY bR oT oO oR bS) H := hP
      have hD : va_D A (wM h cI cZ (nI 1) (nI nF) xc xg aP aF aT aK bF bL bB bA bY bR oT oO oR bS) := hD
      refine lv_aload_n hx hb d_M_function_32 rfl (lv_at hl 0 rfl) ?_
      refine va_get (D := (dC, dI)) (ci := 0) (v := .int (nI 1)) (C := R_M) (T := F_M) (N := 18) hx hb hk k_M_f hown hK hP 0 rfl rfl 0 (by decide) (hk _ k_M_8) (fun _ h9 => h9) rfl d_M_function_33 ?_
      refine lv_if_le (tgt := 41) hx hb d_M_function_36 (by decide) (fun c9 => absurd c9 (by decide +kernel)) (fun _ => ?_)
      refine lv_iconst (v := nI 0) hx hb d_M_function_39 (by decide +kernel) ?_
      exact W.iret (v := nI 0) hx hb hr (fun t ht hW => ⟨⟨nI 0, (nI 1, nI nF, aP), rfl, Or.inl ⟨no14 (by first | exact Or.inl c_3 | exact Or.inr c_8), rfl, rfl, rfl⟩, by rw [ht]; exact hP, va_K.moved hW.alike hK, hD⟩, hS.F ht⟩) hS.2.2 d_M_function_40
set_option maxHeartbeats 4000000 in
set_option maxRecDepth 100000 in
theorem m_told (l : Launch) (dC : Nat → ClassId) (dI : Nat → Nat → Nat) (cI cZ : ClassId) (h : Nat → Nat) (sz : Nat) (xt xf xg : Int32) (aP aF aT aK bF bL bB bA bY bR oT oO oR bS : Nat → Int32) (nC : Nat) (q w : Int32) (hC : nC ≤ 20) : Met l y_M_told w_M_told ({ frames := 0, cells := 0, slots := 0, locals := 0 }) (va_Pc [.ref (h 0), .int q, .int w] (fun U => U.heap.size = sz ∧ va_P (dC, dI) kls (wM h cI cZ xt xf (nI nC) xg aP aF aT aK bF bL bB bA bY bR oT oO oR bS) U.heap ∧ va_K (dC, dI) kls (tyM cI cZ) U ∧ va_D (fun _ => True) (wM h cI cZ xt xf (nI nC) xg aP aF aT aK bF bL bB bA bY bR oT oO oR bS))) (va_Qi (fun (r : Int32) (u : Int32) => u = nI 0 ∧ (((¬ ∃ j, j < nC ∧ q = nI j) ∧ r = -1) ∨ ∃ j, j < nC ∧ q = nI j ∧ r = (if w = 0 then aF j else if w = nI 1 then aT j else if w = nI 2 then aK j else -1))) (fun (u : Int32) (t : State) => va_P (dC, dI) kls (wM h cI cZ u xf (nI nC) xg aP aF aT aK bF bL bB bA bY bR oT oO oR bS) t.heap ∧ va_K (dC, dI) kls (tyM cI cZ) t ∧ va_D (va_A (wM h cI cZ xt xf (nI nC) xg aP aF aT aK bF bL bB bA bY bR oT oO oR bS) sz) (wM h cI cZ u xf (nI nC) xg aP aF aT aK bF bL bB bA bY bR oT oO oR bS)) (va_A (wM h cI cZ xt xf (nI nC) xg aP aF aT aK bF bL bB bA bY bR oT oO oR bS) sz)) 0 0 (va_A (wM h cI cZ xt xf (nI nC) xg aP aF aT aK bF bL bB bA bY bR oT oO oR bS) sz) := by
  refine Met.ofW (cc := c_M_told) (maxL := 3) (ret := (some .int)) (by decide) rfl ?_
  intro p e s m args below meth c s₁ B hml hv
  obtain ⟨rfl, hsz, hP, hK, hD0⟩ := hv
  have hx := B.exec
  have hb := B.bytes
  have hr := B.returns
  have hts := atoms_spec (ws := w_M_told) B.pre
  have hk : ∀ w ∈ wMw, w.before _ s = true := fun w h => hts w (List.mem_cons_of_mem _ h)
  have hown : s.vm.findClass R_M = some m.cls := findClass_of_methodNamed B.named
  have hlocks := B.notSynchronized
  subst hsz
  have hD := hD0.self (sz := s.heap.size)
  generalize hAe : va_A (wM h cI cZ xt xf (nI nC) xg aP aF aT aK bF bL bB bA bY bR oT oO oR bS) s.heap.size = A at hD ⊢
  have hA : ∀ q : Nat, s.heap.size ≤ q → A q := fun q h => by rw [← hAe]; exact Or.inr h
  have hS : va_S A s.heap s.heap [] := va_S.rf
  have hl := lv_entry ([.ref (h 0), .int q, .int w]) (n := 3) (Nat.le_of_ble_eq_true rfl)
  rw [lg_entry_eq]
  generalize (lg_sl ([.ref (h 0), .int q, .int w]) ++ List.replicate (3 - (lg_sl ([.ref (h 0), .int q, .int w])).length) Slot.unset).toArray = ls at hl ⊢
  have hl : lv_has ls 3 [(0, .ref (h 0)), (1, .int q), (2, .int w)] := hl
  refine lv_aload_n hx hb d_M_told_0 rfl (lv_at hl 0 rfl) ?_
  refine lv_iconst (v := nI 0) hx hb d_M_told_1 (by decide +kernel) ?_
  refine va_put (D := (dC, dI)) (ci := 0) (v := .int (nI 0)) (ty := .int) (C := R_M) (T := F_M) (N := 18) hx hb hk k_M_f t_M t_M_ok n_M hown hK hP hD hS 0 rfl rfl 0 (by decide) (hk _ k_M_8) (fun _ h9 => h9) rfl (by decide +kernel) rfl rfl (Nat.le_of_ble_eq_true rfl) d_M_told_2 (fun H locs hP hD hS => ?_)
  have hP : va_P (dC, dI) kls (wM h cI cZ (nI 0) xf (nI nC) xg aP aF aT aK bF bL bB bA bY bR oT oO oR bS) H := hP
  have hD : va_D A (wM h cI cZ (nI 0) xf (nI nC) xg aP aF aT aK bF bL bB bA bY bR oT oO oR bS) := hD
  refine lv_iload_n hx hb d_M_told_5 rfl (lv_at hl 1 rfl) ?_
  refine lv_if_lt (tgt := 17) hx hb d_M_told_6 (by decide) (fun c_6 => ?_) (fun c_6 => ?_)
  · refine lv_iconst (v := (-1)) hx hb d_M_told_17 (by decide +kernel) ?_
    have hno : ¬ ∃ j, j < nC ∧ q = nI j := by
      rintro ⟨j, hj, rfl⟩
      first
        | exact nI_pos (by omega) c_6
        | exact c_14 (nI_lt hj (by omega))
    exact W.iret (v := (-1)) hx hb hr (fun t ht hW => ⟨⟨(-1), nI 0, rfl, ⟨rfl, Or.inl ⟨hno, rfl⟩⟩, by rw [ht]; exact hP, va_K.moved hW.alike hK, hD⟩, hS.F ht⟩) hS.2.2 d_M_told_18
  · refine lv_iload_n hx hb d_M_told_9 rfl (lv_at hl 1 rfl) ?_
    refine lv_aload_n hx hb d_M_told_10 rfl (lv_at hl 0 rfl) ?_
    refine va_get (D := (dC, dI)) (ci := 0) (v := .int (nI nC)) (C := R_M) (T := F_M) (N := 18) hx hb hk k_M_f hown hK hP 0 rfl rfl 2 (by decide) (hk _ k_M_10) (fun _ h9 => h9) rfl d_M_told_11 ?_
    refine lv_icmp_lt (tgt := 19) hx hb d_M_told_14 (by decide) (fun c_14 => ?_) (fun c_14 => ?_)
    · obtain ⟨j, hj9, rfl⟩ := nI_of c_6
      have hj : j < nC := (nI_ltI hj9 (by omega)).mp c_14
      refine lv_iload_n hx hb d_M_told_19 rfl (lv_at hl 2 rfl) ?_
      refine lv_if_ne (tgt := 32) hx hb d_M_told_20 (by decide) (fun c_20 => ?_) (fun c_20 => ?_)
      · refine lv_iload_n hx hb d_M_told_32 rfl (lv_at hl 2 rfl) ?_
        refine lv_iconst (v := nI 1) hx hb d_M_told_33 (by decide +kernel) ?_
        refine lv_icmp_ne (tgt := 46) hx hb d_M_told_34 (by decide) (fun c_34 => ?_) (fun c_34 => ?_)
        · refine lv_iload_n hx hb d_M_told_46 rfl (lv_at hl 2 rfl) ?_
          refine lv_iconst (v := nI 2) hx hb d_M_told_47 (by decide +kernel) ?_
          refine lv_icmp_ne (tgt := 60) hx hb d_M_told_48 (by decide) (fun c_48 => ?_) (fun c_48 => ?_)
          · refine lv_iconst (v := (-1)) hx hb d_M_told_60 (by decide +kernel) ?_
            have hq : (-1) = (if w = 0 then aF j else if w = nI 1 then aT j else if w = nI 2 then aK j else -1) := by
              first
                | rw [if_pos c_20]
                | rw [if_neg c_20, if_pos c_34]
                | rw [if_neg c_20, if_neg c_34, if_pos c_48]
                | rw [if_neg c_20, if_neg c_34, if_neg c_48]
            exact W.iret (v := (-1)) hx hb hr (fun t ht hW => ⟨⟨(-1), nI 0, rfl, ⟨rfl, Or.inr ⟨j, hj, rfl, hq⟩⟩, by rw [ht]; exact hP, va_K.moved hW.alike hK, hD⟩, hS.F ht⟩) hS.2.2 d_M_told_61
          · refine lv_aload_n hx hb d_M_told_51 rfl (lv_at hl 0 rfl) ?_
            refine va_get (D := (dC, dI)) (ci := 0) (v := .ref (h 4)) (C := R_M) (T := F_M) (N := 18) hx hb hk k_M_f hown hK hP 0 rfl rfl 6 (by decide) (hk _ k_M_14) (fun _ h9 => h9) rfl d_M_told_52 ?_
            refine lv_iload_n hx hb d_M_told_55 rfl (lv_at hl 1 rfl) ?_
            refine va_iald hx hb hK hP 4 0 rfl rfl (pk_in j 20 (by omega)) d_M_told_56 ?_
            refine lv_topi (fun z1 ez1 => ?_)
            obtain rfl : z1 = aK j := ez1.trans (rd (f := aK) (k := j) (by omega))
            refine lv_goto (tgt := 61) hx hb d_M_told_57 (by decide) ?_
            have hq : aK j = (if w = 0 then aF j else if w = nI 1 then aT j else if w = nI 2 then aK j else -1) := by
              first
                | rw [if_pos c_20]
                | rw [if_neg c_20, if_pos c_34]
                | rw [if_neg c_20, if_neg c_34, if_pos c_48]
                | rw [if_neg c_20, if_neg c_34, if_neg c_48]
            exact W.iret (v := aK j) hx hb hr (fun t ht hW => ⟨⟨aK j, nI 0, rfl, ⟨rfl, Or.inr ⟨j, hj, rfl, hq⟩⟩, by rw [ht]; exact hP, va_K.moved hW.alike hK, hD⟩, hS.F ht⟩) hS.2.2 d_M_told_61
        · refine lv_aload_n hx hb d_M_told_37 rfl (lv_at hl 0 rfl) ?_
          refine va_get (D := (dC, dI)) (ci := 0) (v := .ref (h 3)) (C := R_M) (T := F_M) (N := 18) hx hb hk k_M_f hown hK hP 0 rfl rfl 5 (by decide) (hk _ k_M_13) (fun _ h9 => h9) rfl d_M_told_38 ?_
          refine lv_iload_n hx hb d_M_told_41 rfl (lv_at hl 1 rfl) ?_
          refine va_iald hx hb hK hP 3 0 rfl rfl (pk_in j 20 (by omega)) d_M_told_42 ?_
          refine lv_topi (fun z2 ez2 => ?_)
          obtain rfl : z2 = aT j := ez2.trans (rd (f := aT) (k := j) (by omega))
          refine lv_goto (tgt := 61) hx hb d_M_told_43 (by decide) ?_
          have hq : aT j = (if w = 0 then aF j else if w = nI 1 then aT j else if w = nI 2 then aK j else -1) := by
            first
              | rw [if_pos c_20]
              | rw [if_neg c_20, if_pos c_34]
              | rw [if_neg c_20, if_neg c_34, if_pos c_48]
              | rw [if_neg c_20, if_neg c_34, if_neg c_48]
          exact W.iret (v := aT j) hx hb hr (fun t ht hW => ⟨⟨aT j, nI 0, rfl, ⟨rfl, Or.inr ⟨j, hj, rfl, hq⟩⟩, by rw [ht]; exact hP, va_K.moved hW.alike hK, hD⟩, hS.F ht⟩) hS.2.2 d_M_told_61
      · refine lv_aload_n hx hb d_M_told_23 rfl (lv_at hl 0 rfl) ?_
        refine va_get (D := (dC, dI)) (ci := 0) (v := .ref (h 2)) (C := R_M) (T := F_M) (N := 18) hx hb hk k_M_f hown hK hP 0 rfl rfl 4 (by decide) (hk _ k_M_12) (fun _ h9 => h9) rfl d_M_told_24 ?_
        refine lv_iload_n hx hb d_M_told_27 rfl (lv_at hl 1 rfl) ?_
        refine va_iald hx hb hK hP 2 0 rfl rfl (pk_in j 20 (by omega)) d_M_told_28 ?_
        refine lv_topi (fun z3 ez3 => ?_)
        obtain rfl : z3 = aF j := ez3.trans (rd (f := aF) (k := j) (by omega))
        refine lv_goto (tgt := 61) hx hb d_M_told_29 (by decide) ?_
        have hq : aF j = (if w = 0 then aF j else if w = nI 1 then aT j else if w = nI 2 then aK j else -1) := by
          first
            | rw [if_pos c_20]
            | rw [if_neg c_20, if_pos c_34]
            | rw [if_neg c_20, if_neg c_34, if_pos c_48]
            | rw [if_neg c_20, if_neg c_34, if_neg c_48]
        exact W.iret (v := aF j) hx hb hr (fun t ht hW => ⟨⟨aF j, nI 0, rfl, ⟨rfl, Or.inr ⟨j, hj, rfl, hq⟩⟩, by rw [ht]; exact hP, va_K.moved hW.alike hK, hD⟩, hS.F ht⟩) hS.2.2 d_M_told_61
    · refine lv_iconst (v := (-1)) hx hb d_M_told_17 (by decide +kernel) ?_
      have hno : ¬ ∃ j, j < nC ∧ q = nI j := by
        rintro ⟨j, hj, rfl⟩
        first
          | exact nI_pos (by omega) c_6
          | exact c_14 (nI_lt hj (by omega))
      exact W.iret (v := (-1)) hx hb hr (fun t ht hW => ⟨⟨(-1), nI 0, rfl, ⟨rfl, Or.inl ⟨hno, rfl⟩⟩, by rw [ht]; exact hP, va_K.moved hW.alike hK, hD⟩, hS.F ht⟩) hS.2.2 d_M_told_18
set_option maxHeartbeats 4000000 in
set_option maxRecDepth 100000 in
theorem m_isLess (l : Launch) (a b : Int32) : Met l y_M_isLess w_M_isLess ({ frames := 0, cells := 0, slots := 0, locals := 0 }) (va_Pc [.int a, .int b] (fun _ => True)) (vp_Si (fun r => (r = nI 1 ∧ uN a < uN b) ∨ (r = nI 0 ∧ ¬ uN a < uN b))) 0 0 (fun _ => False) := by
  refine Met.ofW (cc := c_M_isLess) (maxL := 2) (ret := (some .boolean)) (by decide) rfl ?_
  intro p e s m args below meth c s₁ B hml hv
  obtain ⟨rfl, -⟩ := hv
  have hx := B.exec
  have hb := B.bytes
  have hr := B.returns
  have hts := atoms_spec (ws := w_M_isLess) B.pre
  have hk : ∀ w ∈ wMw, w.before _ s = true := fun w h => hts w (List.mem_cons_of_mem _ h)
  have hown : s.vm.findClass R_M = some m.cls := findClass_of_methodNamed B.named
  have hlocks := B.notSynchronized
  have hl := lv_entry ([.int a, .int b]) (n := 2) (Nat.le_of_ble_eq_true rfl)
  rw [lg_entry_eq]
  generalize (lg_sl ([.int a, .int b]) ++ List.replicate (2 - (lg_sl ([.int a, .int b])).length) Slot.unset).toArray = ls at hl ⊢
  have hl : lv_has ls 2 [(0, .int a), (1, .int b)] := hl
  refine lv_iload_n hx hb d_M_isLess_0 rfl (lv_at hl 0 rfl) ?_
  refine lv_if_ge (tgt := 8) hx hb d_M_isLess_1 (by decide) (fun c_1 => ?_) (fun c_1 => ?_)
  · refine lv_iconst (v := nI 0) hx hb d_M_isLess_8 (by decide +kernel) ?_
    refine lv_iload_n hx hb d_M_isLess_9 rfl (lv_at hl 1 rfl) ?_
    refine lv_if_ge (tgt := 17) hx hb d_M_isLess_10 (by decide) (fun c_10 => ?_) (fun c_10 => ?_)
    · refine lv_iconst (v := nI 0) hx hb d_M_isLess_17 (by decide +kernel) ?_
      refine lv_icmp_ne (tgt := 34) hx hb d_M_isLess_18 (by decide) (fun c9 => absurd c9 (by decide +kernel)) (fun _ => ?_)
      refine lv_iload_n hx hb d_M_isLess_21 rfl (lv_at hl 0 rfl) ?_
      refine lv_iload_n hx hb d_M_isLess_22 rfl (lv_at hl 1 rfl) ?_
      refine lv_icmp_ge (tgt := 30) hx hb d_M_isLess_23 (by decide) (fun c_23 => ?_) (fun c_23 => ?_)
      · refine lv_iconst (v := nI 0) hx hb d_M_isLess_30 (by decide +kernel) ?_
        refine lv_goto (tgt := 43) hx hb d_M_isLess_31 (by decide) ?_
        have hq : ¬ uN a < uN b := by
          have ha := uI a
          have hb9 := uI b
          have ha2 := uN_lt a
          have hb2 := uN_lt b
          have e0 : (0 : Int32).toInt = 0 := by decide +kernel
          rw [Int32.le_iff_toInt_le] at c_1 c_10
          try rw [Int32.le_iff_toInt_le] at c_23
          try rw [Int32.le_iff_toInt_le] at c_35
          split at ha <;> split at hb9 <;> omega
        exact W.zret (v := nI 0) (ty := .boolean) hx hb hr rfl (fun t ht hW => ⟨nI 0, rfl, Or.inr ⟨rfl, hq⟩, ht⟩) (fun q h9 => absurd h9 List.not_mem_nil) d_M_isLess_43
      · refine lv_iconst (v := nI 1) hx hb d_M_isLess_26 (by decide +kernel) ?_
        refine lv_goto (tgt := 43) hx hb d_M_isLess_27 (by decide) ?_
        have hq : uN a < uN b := by
          have ha := uI a
          have hb9 := uI b
          have ha2 := uN_lt a
          have hb2 := uN_lt b
          have e0 : (0 : Int32).toInt = 0 := by decide +kernel
          rw [Int32.le_iff_toInt_le] at c_1 c_10
          try rw [Int32.le_iff_toInt_le] at c_23
          try rw [Int32.le_iff_toInt_le] at c_35
          split at ha <;> split at hb9 <;> omega
        exact W.zret (v := nI 1) (ty := .boolean) hx hb hr rfl (fun t ht hW => ⟨nI 1, rfl, Or.inl ⟨rfl, hq⟩, ht⟩) (fun q h9 => absurd h9 List.not_mem_nil) d_M_isLess_43
    · refine lv_iconst (v := nI 1) hx hb d_M_isLess_13 (by decide +kernel) ?_
      refine lv_goto (tgt := 18) hx hb d_M_isLess_14 (by decide) ?_
      refine lv_icmp_ne (tgt := 34) hx hb d_M_isLess_18 (by decide) (fun _ => ?_) (fun c9 => absurd c9 (by decide +kernel))
      refine lv_iload_n hx hb d_M_isLess_34 rfl (lv_at hl 1 rfl) ?_
      refine lv_if_ge (tgt := 42) hx hb d_M_isLess_35 (by decide) (fun c_35 => ?_) (fun c_35 => ?_)
      · refine lv_iconst (v := nI 0) hx hb d_M_isLess_42 (by decide +kernel) ?_
        have hq : ¬ uN a < uN b := by
          have ha := uI a
          have hb9 := uI b
          have ha2 := uN_lt a
          have hb2 := uN_lt b
          have e0 : (0 : Int32).toInt = 0 := by decide +kernel
          rw [Int32.le_iff_toInt_le] at c_1 c_10
          try rw [Int32.le_iff_toInt_le] at c_23
          try rw [Int32.le_iff_toInt_le] at c_35
          split at ha <;> split at hb9 <;> omega
        exact W.zret (v := nI 0) (ty := .boolean) hx hb hr rfl (fun t ht hW => ⟨nI 0, rfl, Or.inr ⟨rfl, hq⟩, ht⟩) (fun q h9 => absurd h9 List.not_mem_nil) d_M_isLess_43
      · refine lv_iconst (v := nI 1) hx hb d_M_isLess_38 (by decide +kernel) ?_
        refine lv_goto (tgt := 43) hx hb d_M_isLess_39 (by decide) ?_
        have hq : uN a < uN b := by
          have ha := uI a
          have hb9 := uI b
          have ha2 := uN_lt a
          have hb2 := uN_lt b
          have e0 : (0 : Int32).toInt = 0 := by decide +kernel
          rw [Int32.le_iff_toInt_le] at c_1 c_10
          try rw [Int32.le_iff_toInt_le] at c_23
          try rw [Int32.le_iff_toInt_le] at c_35
          split at ha <;> split at hb9 <;> omega
        exact W.zret (v := nI 1) (ty := .boolean) hx hb hr rfl (fun t ht hW => ⟨nI 1, rfl, Or.inl ⟨rfl, hq⟩, ht⟩) (fun q h9 => absurd h9 List.not_mem_nil) d_M_isLess_43
  · refine lv_iconst (v := nI 1) hx hb d_M_isLess_4 (by decide +kernel) ?_
    refine lv_goto (tgt := 9) hx hb d_M_isLess_5 (by decide) ?_
    refine lv_iload_n hx hb d_M_isLess_9 rfl (lv_at hl 1 rfl) ?_
    refine lv_if_ge (tgt := 17) hx hb d_M_isLess_10 (by decide) (fun c_10 => ?_) (fun c_10 => ?_)
    · refine lv_iconst (v := nI 0) hx hb d_M_isLess_17 (by decide +kernel) ?_
      refine lv_icmp_ne (tgt := 34) hx hb d_M_isLess_18 (by decide) (fun _ => ?_) (fun c9 => absurd c9 (by decide +kernel))
      refine lv_iload_n hx hb d_M_isLess_34 rfl (lv_at hl 1 rfl) ?_
      refine lv_if_ge (tgt := 42) hx hb d_M_isLess_35 (by decide) (fun c_35 => ?_) (fun c_35 => ?_)
      · refine lv_iconst (v := nI 0) hx hb d_M_isLess_42 (by decide +kernel) ?_
        have hq : ¬ uN a < uN b := by
          have ha := uI a
          have hb9 := uI b
          have ha2 := uN_lt a
          have hb2 := uN_lt b
          have e0 : (0 : Int32).toInt = 0 := by decide +kernel
          rw [Int32.le_iff_toInt_le] at c_1 c_10
          try rw [Int32.le_iff_toInt_le] at c_23
          try rw [Int32.le_iff_toInt_le] at c_35
          split at ha <;> split at hb9 <;> omega
        exact W.zret (v := nI 0) (ty := .boolean) hx hb hr rfl (fun t ht hW => ⟨nI 0, rfl, Or.inr ⟨rfl, hq⟩, ht⟩) (fun q h9 => absurd h9 List.not_mem_nil) d_M_isLess_43
      · refine lv_iconst (v := nI 1) hx hb d_M_isLess_38 (by decide +kernel) ?_
        refine lv_goto (tgt := 43) hx hb d_M_isLess_39 (by decide) ?_
        have hq : uN a < uN b := by
          have ha := uI a
          have hb9 := uI b
          have ha2 := uN_lt a
          have hb2 := uN_lt b
          have e0 : (0 : Int32).toInt = 0 := by decide +kernel
          rw [Int32.le_iff_toInt_le] at c_1 c_10
          try rw [Int32.le_iff_toInt_le] at c_23
          try rw [Int32.le_iff_toInt_le] at c_35
          split at ha <;> split at hb9 <;> omega
        exact W.zret (v := nI 1) (ty := .boolean) hx hb hr rfl (fun t ht hW => ⟨nI 1, rfl, Or.inl ⟨rfl, hq⟩, ht⟩) (fun q h9 => absurd h9 List.not_mem_nil) d_M_isLess_43
    · refine lv_iconst (v := nI 1) hx hb d_M_isLess_13 (by decide +kernel) ?_
      refine lv_goto (tgt := 18) hx hb d_M_isLess_14 (by decide) ?_
      refine lv_icmp_ne (tgt := 34) hx hb d_M_isLess_18 (by decide) (fun c9 => absurd c9 (by decide +kernel)) (fun _ => ?_)
      refine lv_iload_n hx hb d_M_isLess_21 rfl (lv_at hl 0 rfl) ?_
      refine lv_iload_n hx hb d_M_isLess_22 rfl (lv_at hl 1 rfl) ?_
      refine lv_icmp_ge (tgt := 30) hx hb d_M_isLess_23 (by decide) (fun c_23 => ?_) (fun c_23 => ?_)
      · refine lv_iconst (v := nI 0) hx hb d_M_isLess_30 (by decide +kernel) ?_
        refine lv_goto (tgt := 43) hx hb d_M_isLess_31 (by decide) ?_
        have hq : ¬ uN a < uN b := by
          have ha := uI a
          have hb9 := uI b
          have ha2 := uN_lt a
          have hb2 := uN_lt b
          have e0 : (0 : Int32).toInt = 0 := by decide +kernel
          rw [Int32.le_iff_toInt_le] at c_1 c_10
          try rw [Int32.le_iff_toInt_le] at c_23
          try rw [Int32.le_iff_toInt_le] at c_35
          split at ha <;> split at hb9 <;> omega
        exact W.zret (v := nI 0) (ty := .boolean) hx hb hr rfl (fun t ht hW => ⟨nI 0, rfl, Or.inr ⟨rfl, hq⟩, ht⟩) (fun q h9 => absurd h9 List.not_mem_nil) d_M_isLess_43
      · refine lv_iconst (v := nI 1) hx hb d_M_isLess_26 (by decide +kernel) ?_
        refine lv_goto (tgt := 43) hx hb d_M_isLess_27 (by decide) ?_
        have hq : uN a < uN b := by
          have ha := uI a
          have hb9 := uI b
          have ha2 := uN_lt a
          have hb2 := uN_lt b
          have e0 : (0 : Int32).toInt = 0 := by decide +kernel
          rw [Int32.le_iff_toInt_le] at c_1 c_10
          try rw [Int32.le_iff_toInt_le] at c_23
          try rw [Int32.le_iff_toInt_le] at c_35
          split at ha <;> split at hb9 <;> omega
        exact W.zret (v := nI 1) (ty := .boolean) hx hb hr rfl (fun t ht hW => ⟨nI 1, rfl, Or.inl ⟨rfl, hq⟩, ht⟩) (fun q h9 => absurd h9 List.not_mem_nil) d_M_isLess_43
set_option maxHeartbeats 4000000 in
set_option maxRecDepth 100000 in
theorem m_joined (l : Launch) (a b : Int32) : Met l y_M_joined w_M_joined ({ frames := 1, cells := 0, slots := 0, locals := 22 }) (va_Pc [.int a, .int b] (fun _ => True)) (vp_Si (fun r => r = rj a b)) 0 0 (fun _ => False) := by
  refine Met.ofW (cc := c_M_joined) (maxL := 10) (ret := (some .int)) (by decide) rfl ?_
  intro p e s m args below meth c s₁ B hml hv
  obtain ⟨rfl, -⟩ := hv
  have hx := B.exec
  have hb := B.bytes
  have hr := B.returns
  have hts := atoms_spec (ws := w_M_joined) B.pre
  have hk : ∀ w ∈ wMw, w.before _ s = true := fun w h => hts w (List.mem_cons_of_mem _ h)
  have hown : s.vm.findClass R_M = some m.cls := findClass_of_methodNamed B.named
  have hlocks := B.notSynchronized
  have hl := lv_entry ([.int a, .int b]) (n := 10) (Nat.le_of_ble_eq_true rfl)
  rw [lg_entry_eq]
  generalize (lg_sl ([.int a, .int b]) ++ List.replicate (10 - (lg_sl ([.int a, .int b])).length) Slot.unset).toArray = ls at hl ⊢
  have hl : lv_has ls 10 [(0, .int a), (1, .int b)] := hl
  refine lv_iconst (v := nI 0) hx hb d_M_joined_0 (by decide +kernel) ?_
  refine lv_istore_n (lv' := [(2, .int (nI 0)), (0, .int a), (1, .int b)]) hx hb d_M_joined_1 rfl hl (by decide) rfl (fun ls hl => ?_)
  refine lv_iconst (v := nI 0) hx hb d_M_joined_2 (by decide +kernel) ?_
  refine lv_istore_n (lv' := [(3, .int (nI 0)), (2, .int (nI 0)), (0, .int a), (1, .int b)]) hx hb d_M_joined_3 rfl hl (by decide) rfl (fun ls hl => ?_)
  have lp1 : ∀ (n_lp1 : Nat) (i : Nat), (i ≤ 4) → 4 - i < n_lp1 → ∀ (ls : Array Slot), lv_has ls 10 [(0, .int a), (1, .int b), (2, .int (pkI (fun x y => moN a b x y 4) 4 i)), (3, .int (nI i))] → W p l e (headSpec w_M_joined ({ frames := 1, cells := 0, slots := 0, locals := 22 })).room s m ([.int a, .int b]).toArray below meth c s.heap [] 0 0 (MQ below (vp_Si (fun r => r = rj a b)) ([.int a, .int b]).toArray s 0 0 (fun _ => False)) (F0 m 4 ls []) := by
    intro n_lp1
    induction n_lp1 with
    | zero => intro i hi hn; exact absurd hn (Nat.not_lt_zero _)
    | succ n_lp1 ih_lp1 =>
      intro i hi hn ls hl
      refine lv_iload_n hx hb d_M_joined_4 rfl (lv_at hl 3 rfl) ?_
      refine lv_iconst (v := nI 4) hx hb d_M_joined_5 (by decide +kernel) ?_
      refine lv_icmp_ge (tgt := 128) hx hb d_M_joined_6 (by decide) (fun c_6 => ?_) (fun c_6 => ?_)
      · have c_6 : 4 ≤ i := (nI_leI (a := 4) (b := i) (by omega) (by omega)).mp c_6
        have hi4 : i = 4 := by omega
        subst hi4
        refine lv_iload_n hx hb d_M_joined_128 rfl (lv_at hl 2 rfl) ?_
        exact W.iret (v := pkI (fun x y => moN a b x y 4) 4 4) hx hb hr (fun t ht hW => ⟨pkI (fun x y => moN a b x y 4) 4 4, rfl, rfl, ht⟩) (fun q h9 => absurd h9 List.not_mem_nil) d_M_joined_129
      · have c_6 : ¬ 4 ≤ i := fun z9 => c_6 ((nI_leI (a := 4) (b := i) (by omega) (by omega)).mpr z9)
        refine lv_iconst (v := nI 0) hx hb d_M_joined_9 (by decide +kernel) ?_
        refine lv_istore (lv' := [(4, .int (nI 0)), (0, .int a), (1, .int b), (2, .int (pkI (fun x y => moN a b x y 4) 4 i)), (3, .int (nI i))]) hx hb d_M_joined_10 hl (by decide) rfl (fun ls hl => ?_)
        have lp2 : ∀ (n_lp2 : Nat) (k : Nat), (k ≤ 4) → 4 - k < n_lp2 → ∀ (ls : Array Slot), lv_has ls 10 [(0, .int a), (1, .int b), (2, .int (pkK (fun y => moN a b i y 4) i (pkI (fun x y => moN a b x y 4) 4 i) k)), (3, .int (nI i)), (4, .int (nI k))] → W p l e (headSpec w_M_joined ({ frames := 1, cells := 0, slots := 0, locals := 22 })).room s m ([.int a, .int b]).toArray below meth c s.heap [] 0 0 (MQ below (vp_Si (fun r => r = rj a b)) ([.int a, .int b]).toArray s 0 0 (fun _ => False)) (F0 m 12 ls []) := by
          intro n_lp2
          induction n_lp2 with
          | zero => intro k hk4 hn; exact absurd hn (Nat.not_lt_zero _)
          | succ n_lp2 ih_lp2 =>
            intro k hk4 hn ls hl
            refine lv_iload hx hb d_M_joined_12 (lv_at hl 4 rfl) ?_
            refine lv_iconst (v := nI 4) hx hb d_M_joined_14 (by decide +kernel) ?_
            refine lv_icmp_ge (tgt := 122) hx hb d_M_joined_15 (by decide) (fun c_15 => ?_) (fun c_15 => ?_)
            · have c_15 : 4 ≤ k := (nI_leI (a := 4) (b := k) (by omega) (by omega)).mp c_15
              have hk5 : k = 4 := by omega
              subst hk5
              refine lv_iinc (v := nI (i + 1)) (lv' := [(3, .int (nI (i + 1))), (0, .int a), (1, .int b), (2, .int (pkK (fun y => moN a b i y 4) i (pkI (fun x y => moN a b x y 4) 4 i) 4)), (4, .int (nI 4))]) hx hb d_M_joined_122 hl (k := 3) rfl (nI_add i 1) (by decide) rfl (fun ls hl => ?_)
              refine lv_goto (tgt := 4) hx hb d_M_joined_125 (by decide) ?_
              exact ih_lp1 (i + 1) (by omega) (by omega) _ (lv_sub hl [1, 2, 3, 0] rfl)
            · have c_15 : ¬ 4 ≤ k := fun z9 => c_15 ((nI_leI (a := 4) (b := k) (by omega) (by omega)).mpr z9)
              refine lv_iconst (v := nI 0) hx hb d_M_joined_18 (by decide +kernel) ?_
              refine lv_istore (lv' := [(5, .int (nI 0)), (0, .int a), (1, .int b), (2, .int (pkK (fun y => moN a b i y 4) i (pkI (fun x y => moN a b x y 4) 4 i) k)), (3, .int (nI i)), (4, .int (nI k))]) hx hb d_M_joined_19 hl (by decide) rfl (fun ls hl => ?_)
              refine lv_iconst (v := nI 0) hx hb d_M_joined_21 (by decide +kernel) ?_
              refine lv_istore (lv' := [(6, .int (nI 0)), (5, .int (nI 0)), (0, .int a), (1, .int b), (2, .int (pkK (fun y => moN a b i y 4) i (pkI (fun x y => moN a b x y 4) 4 i) k)), (3, .int (nI i)), (4, .int (nI k))]) hx hb d_M_joined_22 hl (by decide) rfl (fun ls hl => ?_)
              have lp3 : ∀ (n_lp3 : Nat) (j : Nat), (j ≤ 4) → 4 - j < n_lp3 → ∀ (ls : Array Slot), lv_has ls 10 [(0, .int a), (1, .int b), (2, .int (pkK (fun y => moN a b i y 4) i (pkI (fun x y => moN a b x y 4) 4 i) k)), (3, .int (nI i)), (4, .int (nI k)), (5, .int (nI (moN a b i k j))), (6, .int (nI j))] → W p l e (headSpec w_M_joined ({ frames := 1, cells := 0, slots := 0, locals := 22 })).room s m ([.int a, .int b]).toArray below meth c s.heap [] 0 0 (MQ below (vp_Si (fun r => r = rj a b)) ([.int a, .int b]).toArray s 0 0 (fun _ => False)) (F0 m 24 ls []) := by
                intro n_lp3
                induction n_lp3 with
                | zero => intro j hj hn; exact absurd hn (Nat.not_lt_zero _)
                | succ n_lp3 ih_lp3 =>
                  intro j hj hn ls hl
                  refine lv_iload hx hb d_M_joined_24 (lv_at hl 6 rfl) ?_
                  refine lv_iconst (v := nI 4) hx hb d_M_joined_26 (by decide +kernel) ?_
                  refine lv_icmp_ge (tgt := 101) hx hb d_M_joined_27 (by decide) (fun c_27 => ?_) (fun c_27 => ?_)
                  · have c_27 : 4 ≤ j := (nI_leI (a := 4) (b := j) (by omega) (by omega)).mp c_27
                    have hj4 : j = 4 := by omega
                    subst hj4
                    refine lv_iload_n hx hb d_M_joined_101 rfl (lv_at hl 2 rfl) ?_
                    refine lv_iload hx hb d_M_joined_102 (lv_at hl 5 rfl) ?_
                    refine lv_bipush (v := nI 8) hx hb d_M_joined_104 (by decide +kernel) ?_
                    refine lv_iload_n hx hb d_M_joined_106 rfl (lv_at hl 3 rfl) ?_
                    refine lv_imul hx hb d_M_joined_107 ?_
                    refine lv_topi (fun z1 ez1 => ?_)
                    obtain rfl : z1 = nI (8 * i) := ez1.trans (pk_mul _ _)
                    refine lv_iconst (v := nI 2) hx hb d_M_joined_108 (by decide +kernel) ?_
                    refine lv_iload hx hb d_M_joined_109 (lv_at hl 4 rfl) ?_
                    refine lv_imul hx hb d_M_joined_111 ?_
                    refine lv_topi (fun z2 ez2 => ?_)
                    obtain rfl : z2 = nI (2 * k) := ez2.trans (pk_mul _ _)
                    refine lv_iadd hx hb d_M_joined_112 ?_
                    refine lv_topi (fun z3 ez3 => ?_)
                    obtain rfl : z3 = nI (8 * i + (2 * k)) := ez3.trans (nI_add _ _)
                    refine lv_ishl hx hb d_M_joined_113 ?_
                    refine lv_topi (fun z4 ez4 => ?_)
                    obtain rfl : z4 = shl (nI (moN a b i k 4)) (8 * i + (2 * k)) := ez4.trans (rfl)
                    refine lv_ior hx hb d_M_joined_114 ?_
                    refine lv_istore_n (lv' := [(2, .int ((pkK (fun y => moN a b i y 4) i (pkI (fun x y => moN a b x y 4) 4 i) k) ||| (shl (nI (moN a b i k 4)) (8 * i + (2 * k))))), (0, .int a), (1, .int b), (3, .int (nI i)), (4, .int (nI k)), (5, .int (nI (moN a b i k 4))), (6, .int (nI 4))]) hx hb d_M_joined_115 rfl hl (by decide) rfl (fun ls hl => ?_)
                    refine lv_iinc (v := nI (k + 1)) (lv' := [(4, .int (nI (k + 1))), (2, .int ((pkK (fun y => moN a b i y 4) i (pkI (fun x y => moN a b x y 4) 4 i) k) ||| (shl (nI (moN a b i k 4)) (8 * i + (2 * k))))), (0, .int a), (1, .int b), (3, .int (nI i)), (5, .int (nI (moN a b i k 4))), (6, .int (nI 4))]) hx hb d_M_joined_116 hl (k := 4) rfl (nI_add k 1) (by decide) rfl (fun ls hl => ?_)
                    refine lv_goto (tgt := 12) hx hb d_M_joined_119 (by decide) ?_
                    exact ih_lp2 (k + 1) (by omega) (by omega) _ (lv_sub hl [2, 3, 1, 4, 0] rfl)
                  · have c_27 : ¬ 4 ≤ j := fun z9 => c_27 ((nI_leI (a := 4) (b := j) (by omega) (by omega)).mpr z9)
                    refine lv_iload_n hx hb d_M_joined_30 rfl (lv_at hl 0 rfl) ?_
                    refine lv_iload_n hx hb d_M_joined_31 rfl (lv_at hl 3 rfl) ?_
                    refine lv_iload hx hb d_M_joined_32 (lv_at hl 6 rfl) ?_
                    refine vp_callSi (W.runS (As := [.int a, .int (nI i), .int (nI j)]) (rest := []) ⟨hx, hb, hml, hown, hk⟩ (m_at l a i j (by omega) (by omega)) (cwS 3 hk g_M_at rfl rfl rfl (by decide +kernel) ⟨Nat.le_of_ble_eq_true rfl, Nat.le_of_ble_eq_true rfl⟩) ⟨fun a U g mk q => q, fun U hU hW => ⟨rfl, trivial⟩⟩ rfl rfl hl.1 rfl (lv_room (Nat.le_of_ble_eq_true rfl)) d_M_joined_34 ⟨Nat.le_of_ble_eq_true rfl, Nat.le_of_ble_eq_true rfl⟩) (fun r5 hw => ?_)
                    subst hw
                    refine lv_istore (lv' := [(7, .int (nI (atN a i j))), (0, .int a), (1, .int b), (2, .int (pkK (fun y => moN a b i y 4) i (pkI (fun x y => moN a b x y 4) 4 i) k)), (3, .int (nI i)), (4, .int (nI k)), (5, .int (nI (moN a b i k j))), (6, .int (nI j))]) hx hb d_M_joined_37 hl (by decide) rfl (fun ls hl => ?_)
                    refine lv_iload_n hx hb d_M_joined_39 rfl (lv_at hl 2 rfl) ?_
                    refine lv_iload hx hb d_M_joined_40 (lv_at hl 7 rfl) ?_
                    refine lv_iload hx hb d_M_joined_42 (lv_at hl 5 rfl) ?_
                    refine vp_callSi (W.runS (As := [.int b, .int (nI j), .int (nI k)]) (rest := []) ⟨hx, hb, hml, hown, hk⟩ (m_at l b j k (by omega) (by omega)) (cwS 3 hk g_M_at rfl rfl rfl (by decide +kernel) ⟨Nat.le_of_ble_eq_true rfl, Nat.le_of_ble_eq_true rfl⟩) ⟨fun a U g mk q => q, fun U hU hW => ⟨rfl, trivial⟩⟩ rfl rfl hl.1 rfl (lv_room (Nat.le_of_ble_eq_true rfl)) d_M_joined_44 ⟨Nat.le_of_ble_eq_true rfl, Nat.le_of_ble_eq_true rfl⟩) (fun r6 hw => ?_)
                    subst hw
                    refine lv_istore (lv' := [(8, .int (nI (atN b j k))), (7, .int (nI (atN a i j))), (0, .int a), (1, .int b), (2, .int (pkK (fun y => moN a b i y 4) i (pkI (fun x y => moN a b x y 4) 4 i) k)), (3, .int (nI i)), (4, .int (nI k)), (5, .int (nI (moN a b i k j))), (6, .int (nI j))]) hx hb d_M_joined_47 hl (by decide) rfl (fun ls hl => ?_)
                    have hx9 := atN_lt a i j
                    have hy9 := atN_lt b j k
                    have hm9 := mo_lt a b i k j
                    refine lv_iload hx hb d_M_joined_49 (lv_at hl 1 rfl) ?_
                    refine lv_if_eq (tgt := 59) hx hb d_M_joined_51 (by decide) (fun c_51 => ?_) (fun c_51 => ?_)
                    · have c_51 : atN a i j = 0 := (nI_eq (a := atN a i j) (b := 0) (by omega) (by omega)).mp c_51
                      refine lv_iconst (v := nI 0) hx hb d_M_joined_59 (by decide +kernel) ?_
                      refine lv_goto (tgt := 77) hx hb d_M_joined_60 (by decide) ?_
                      refine lv_istore (lv' := [(9, .int (nI 0)), (8, .int (nI (atN b j k))), (7, .int (nI (atN a i j))), (0, .int a), (1, .int b), (2, .int (pkK (fun y => moN a b i y 4) i (pkI (fun x y => moN a b x y 4) 4 i) k)), (3, .int (nI i)), (4, .int (nI k)), (5, .int (nI (moN a b i k j))), (6, .int (nI j))]) hx hb d_M_joined_77 hl (by decide) rfl (fun ls hl => ?_)
                      refine lv_iload hx hb d_M_joined_79 (lv_at hl 0 rfl) ?_
                      refine lv_iload hx hb d_M_joined_81 (lv_at hl 8 rfl) ?_
                      refine lv_icmp_le (tgt := 91) hx hb d_M_joined_83 (by decide) (fun c_83 => ?_) (fun c_83 => ?_)
                      · have c_83 : 0 ≤ moN a b i k j := (nI_leI (a := 0) (b := moN a b i k j) (by omega) (by omega)).mp c_83
                        refine lv_iload hx hb d_M_joined_91 (lv_at hl 8 rfl) ?_
                        refine lv_topi (fun z7 ez7 => ?_)
                        obtain rfl : z7 = nI (moN a b i k (j + 1)) := ez7.trans (congrArg nI (by rw [moN]; unfold mxN; first | omega | grind))
                        refine lv_istore (lv' := [(5, .int (nI (moN a b i k (j + 1)))), (9, .int (nI 0)), (8, .int (nI (atN b j k))), (7, .int (nI (atN a i j))), (0, .int a), (1, .int b), (2, .int (pkK (fun y => moN a b i y 4) i (pkI (fun x y => moN a b x y 4) 4 i) k)), (3, .int (nI i)), (4, .int (nI k)), (6, .int (nI j))]) hx hb d_M_joined_93 hl (by decide) rfl (fun ls hl => ?_)
                        refine lv_iinc (v := nI (j + 1)) (lv' := [(6, .int (nI (j + 1))), (5, .int (nI (moN a b i k (j + 1)))), (9, .int (nI 0)), (8, .int (nI (atN b j k))), (7, .int (nI (atN a i j))), (0, .int a), (1, .int b), (2, .int (pkK (fun y => moN a b i y 4) i (pkI (fun x y => moN a b x y 4) 4 i) k)), (3, .int (nI i)), (4, .int (nI k))]) hx hb d_M_joined_95 hl (k := 9) rfl (nI_add j 1) (by decide) rfl (fun ls hl => ?_)
                        refine lv_goto (tgt := 24) hx hb d_M_joined_98 (by decide) ?_
                        exact ih_lp3 (j + 1) (by omega) (by omega) _ (lv_sub hl [5, 6, 7, 8, 9, 1, 0] rfl)
                      · have c_83 : ¬ 0 ≤ moN a b i k j := fun z9 => c_83 ((nI_leI (a := 0) (b := moN a b i k j) (by omega) (by omega)).mpr z9)
                        refine lv_iload hx hb d_M_joined_86 (lv_at hl 0 rfl) ?_
                        refine lv_goto (tgt := 93) hx hb d_M_joined_88 (by decide) ?_
                        refine lv_topi (fun z8 ez8 => ?_)
                        obtain rfl : z8 = nI (moN a b i k (j + 1)) := ez8.trans (congrArg nI (by rw [moN]; unfold mxN; first | omega | grind))
                        refine lv_istore (lv' := [(5, .int (nI (moN a b i k (j + 1)))), (9, .int (nI 0)), (8, .int (nI (atN b j k))), (7, .int (nI (atN a i j))), (0, .int a), (1, .int b), (2, .int (pkK (fun y => moN a b i y 4) i (pkI (fun x y => moN a b x y 4) 4 i) k)), (3, .int (nI i)), (4, .int (nI k)), (6, .int (nI j))]) hx hb d_M_joined_93 hl (by decide) rfl (fun ls hl => ?_)
                        refine lv_iinc (v := nI (j + 1)) (lv' := [(6, .int (nI (j + 1))), (5, .int (nI (moN a b i k (j + 1)))), (9, .int (nI 0)), (8, .int (nI (atN b j k))), (7, .int (nI (atN a i j))), (0, .int a), (1, .int b), (2, .int (pkK (fun y => moN a b i y 4) i (pkI (fun x y => moN a b x y 4) 4 i) k)), (3, .int (nI i)), (4, .int (nI k))]) hx hb d_M_joined_95 hl (k := 9) rfl (nI_add j 1) (by decide) rfl (fun ls hl => ?_)
                        refine lv_goto (tgt := 24) hx hb d_M_joined_98 (by decide) ?_
                        exact ih_lp3 (j + 1) (by omega) (by omega) _ (lv_sub hl [5, 6, 7, 8, 9, 1, 0] rfl)
                    · have c_51 : ¬ atN a i j = 0 := fun z9 => c_51 ((nI_eq (a := atN a i j) (b := 0) (by omega) (by omega)).mpr z9)
                      refine lv_iload hx hb d_M_joined_54 (lv_at hl 0 rfl) ?_
                      refine lv_if_ne (tgt := 63) hx hb d_M_joined_56 (by decide) (fun c_56 => ?_) (fun c_56 => ?_)
                      · have c_56 : ¬ atN b j k = 0 := fun z9 => c_56 ((nI_eq (a := atN b j k) (b := 0) (by omega) (by omega)).mpr z9)
                        refine lv_iload hx hb d_M_joined_63 (lv_at hl 1 rfl) ?_
                        refine lv_iload hx hb d_M_joined_65 (lv_at hl 0 rfl) ?_
                        refine lv_icmp_le (tgt := 75) hx hb d_M_joined_67 (by decide) (fun c_67 => ?_) (fun c_67 => ?_)
                        · have c_67 : atN a i j ≤ atN b j k := (nI_leI (a := atN a i j) (b := atN b j k) (by omega) (by omega)).mp c_67
                          refine lv_iload hx hb d_M_joined_75 (lv_at hl 0 rfl) ?_
                          refine lv_istore (lv' := [(9, .int (nI (atN b j k))), (8, .int (nI (atN b j k))), (7, .int (nI (atN a i j))), (0, .int a), (1, .int b), (2, .int (pkK (fun y => moN a b i y 4) i (pkI (fun x y => moN a b x y 4) 4 i) k)), (3, .int (nI i)), (4, .int (nI k)), (5, .int (nI (moN a b i k j))), (6, .int (nI j))]) hx hb d_M_joined_77 hl (by decide) rfl (fun ls hl => ?_)
                          refine lv_iload hx hb d_M_joined_79 (lv_at hl 0 rfl) ?_
                          refine lv_iload hx hb d_M_joined_81 (lv_at hl 8 rfl) ?_
                          refine lv_icmp_le (tgt := 91) hx hb d_M_joined_83 (by decide) (fun c_83 => ?_) (fun c_83 => ?_)
                          · have c_83 : atN b j k ≤ moN a b i k j := (nI_leI (a := atN b j k) (b := moN a b i k j) (by omega) (by omega)).mp c_83
                            refine lv_iload hx hb d_M_joined_91 (lv_at hl 8 rfl) ?_
                            refine lv_topi (fun z9 ez9 => ?_)
                            obtain rfl : z9 = nI (moN a b i k (j + 1)) := ez9.trans (congrArg nI (by rw [moN]; unfold mxN; first | omega | grind))
                            refine lv_istore (lv' := [(5, .int (nI (moN a b i k (j + 1)))), (9, .int (nI (atN b j k))), (8, .int (nI (atN b j k))), (7, .int (nI (atN a i j))), (0, .int a), (1, .int b), (2, .int (pkK (fun y => moN a b i y 4) i (pkI (fun x y => moN a b x y 4) 4 i) k)), (3, .int (nI i)), (4, .int (nI k)), (6, .int (nI j))]) hx hb d_M_joined_93 hl (by decide) rfl (fun ls hl => ?_)
                            refine lv_iinc (v := nI (j + 1)) (lv' := [(6, .int (nI (j + 1))), (5, .int (nI (moN a b i k (j + 1)))), (9, .int (nI (atN b j k))), (8, .int (nI (atN b j k))), (7, .int (nI (atN a i j))), (0, .int a), (1, .int b), (2, .int (pkK (fun y => moN a b i y 4) i (pkI (fun x y => moN a b x y 4) 4 i) k)), (3, .int (nI i)), (4, .int (nI k))]) hx hb d_M_joined_95 hl (k := 9) rfl (nI_add j 1) (by decide) rfl (fun ls hl => ?_)
                            refine lv_goto (tgt := 24) hx hb d_M_joined_98 (by decide) ?_
                            exact ih_lp3 (j + 1) (by omega) (by omega) _ (lv_sub hl [5, 6, 7, 8, 9, 1, 0] rfl)
                          · have c_83 : ¬ atN b j k ≤ moN a b i k j := fun z9 => c_83 ((nI_leI (a := atN b j k) (b := moN a b i k j) (by omega) (by omega)).mpr z9)
                            refine lv_iload hx hb d_M_joined_86 (lv_at hl 0 rfl) ?_
                            refine lv_goto (tgt := 93) hx hb d_M_joined_88 (by decide) ?_
                            refine lv_topi (fun z10 ez10 => ?_)
                            obtain rfl : z10 = nI (moN a b i k (j + 1)) := ez10.trans (congrArg nI (by rw [moN]; unfold mxN; first | omega | grind))
                            refine lv_istore (lv' := [(5, .int (nI (moN a b i k (j + 1)))), (9, .int (nI (atN b j k))), (8, .int (nI (atN b j k))), (7, .int (nI (atN a i j))), (0, .int a), (1, .int b), (2, .int (pkK (fun y => moN a b i y 4) i (pkI (fun x y => moN a b x y 4) 4 i) k)), (3, .int (nI i)), (4, .int (nI k)), (6, .int (nI j))]) hx hb d_M_joined_93 hl (by decide) rfl (fun ls hl => ?_)
                            refine lv_iinc (v := nI (j + 1)) (lv' := [(6, .int (nI (j + 1))), (5, .int (nI (moN a b i k (j + 1)))), (9, .int (nI (atN b j k))), (8, .int (nI (atN b j k))), (7, .int (nI (atN a i j))), (0, .int a), (1, .int b), (2, .int (pkK (fun y => moN a b i y 4) i (pkI (fun x y => moN a b x y 4) 4 i) k)), (3, .int (nI i)), (4, .int (nI k))]) hx hb d_M_joined_95 hl (k := 9) rfl (nI_add j 1) (by decide) rfl (fun ls hl => ?_)
                            refine lv_goto (tgt := 24) hx hb d_M_joined_98 (by decide) ?_
                            exact ih_lp3 (j + 1) (by omega) (by omega) _ (lv_sub hl [5, 6, 7, 8, 9, 1, 0] rfl)
                        · have c_67 : ¬ atN a i j ≤ atN b j k := fun z9 => c_67 ((nI_leI (a := atN a i j) (b := atN b j k) (by omega) (by omega)).mpr z9)
                          refine lv_iload hx hb d_M_joined_70 (lv_at hl 1 rfl) ?_
                          refine lv_goto (tgt := 77) hx hb d_M_joined_72 (by decide) ?_
                          refine lv_istore (lv' := [(9, .int (nI (atN a i j))), (8, .int (nI (atN b j k))), (7, .int (nI (atN a i j))), (0, .int a), (1, .int b), (2, .int (pkK (fun y => moN a b i y 4) i (pkI (fun x y => moN a b x y 4) 4 i) k)), (3, .int (nI i)), (4, .int (nI k)), (5, .int (nI (moN a b i k j))), (6, .int (nI j))]) hx hb d_M_joined_77 hl (by decide) rfl (fun ls hl => ?_)
                          refine lv_iload hx hb d_M_joined_79 (lv_at hl 0 rfl) ?_
                          refine lv_iload hx hb d_M_joined_81 (lv_at hl 8 rfl) ?_
                          refine lv_icmp_le (tgt := 91) hx hb d_M_joined_83 (by decide) (fun c_83 => ?_) (fun c_83 => ?_)
                          · have c_83 : atN a i j ≤ moN a b i k j := (nI_leI (a := atN a i j) (b := moN a b i k j) (by omega) (by omega)).mp c_83
                            refine lv_iload hx hb d_M_joined_91 (lv_at hl 8 rfl) ?_
                            refine lv_topi (fun z11 ez11 => ?_)
                            obtain rfl : z11 = nI (moN a b i k (j + 1)) := ez11.trans (congrArg nI (by rw [moN]; unfold mxN; first | omega | grind))
                            refine lv_istore (lv' := [(5, .int (nI (moN a b i k (j + 1)))), (9, .int (nI (atN a i j))), (8, .int (nI (atN b j k))), (7, .int (nI (atN a i j))), (0, .int a), (1, .int b), (2, .int (pkK (fun y => moN a b i y 4) i (pkI (fun x y => moN a b x y 4) 4 i) k)), (3, .int (nI i)), (4, .int (nI k)), (6, .int (nI j))]) hx hb d_M_joined_93 hl (by decide) rfl (fun ls hl => ?_)
                            refine lv_iinc (v := nI (j + 1)) (lv' := [(6, .int (nI (j + 1))), (5, .int (nI (moN a b i k (j + 1)))), (9, .int (nI (atN a i j))), (8, .int (nI (atN b j k))), (7, .int (nI (atN a i j))), (0, .int a), (1, .int b), (2, .int (pkK (fun y => moN a b i y 4) i (pkI (fun x y => moN a b x y 4) 4 i) k)), (3, .int (nI i)), (4, .int (nI k))]) hx hb d_M_joined_95 hl (k := 9) rfl (nI_add j 1) (by decide) rfl (fun ls hl => ?_)
                            refine lv_goto (tgt := 24) hx hb d_M_joined_98 (by decide) ?_
                            exact ih_lp3 (j + 1) (by omega) (by omega) _ (lv_sub hl [5, 6, 7, 8, 9, 1, 0] rfl)
                          · have c_83 : ¬ atN a i j ≤ moN a b i k j := fun z9 => c_83 ((nI_leI (a := atN a i j) (b := moN a b i k j) (by omega) (by omega)).mpr z9)
                            refine lv_iload hx hb d_M_joined_86 (lv_at hl 0 rfl) ?_
                            refine lv_goto (tgt := 93) hx hb d_M_joined_88 (by decide) ?_
                            refine lv_topi (fun z12 ez12 => ?_)
                            obtain rfl : z12 = nI (moN a b i k (j + 1)) := ez12.trans (congrArg nI (by rw [moN]; unfold mxN; first | omega | grind))
                            refine lv_istore (lv' := [(5, .int (nI (moN a b i k (j + 1)))), (9, .int (nI (atN a i j))), (8, .int (nI (atN b j k))), (7, .int (nI (atN a i j))), (0, .int a), (1, .int b), (2, .int (pkK (fun y => moN a b i y 4) i (pkI (fun x y => moN a b x y 4) 4 i) k)), (3, .int (nI i)), (4, .int (nI k)), (6, .int (nI j))]) hx hb d_M_joined_93 hl (by decide) rfl (fun ls hl => ?_)
                            refine lv_iinc (v := nI (j + 1)) (lv' := [(6, .int (nI (j + 1))), (5, .int (nI (moN a b i k (j + 1)))), (9, .int (nI (atN a i j))), (8, .int (nI (atN b j k))), (7, .int (nI (atN a i j))), (0, .int a), (1, .int b), (2, .int (pkK (fun y => moN a b i y 4) i (pkI (fun x y => moN a b x y 4) 4 i) k)), (3, .int (nI i)), (4, .int (nI k))]) hx hb d_M_joined_95 hl (k := 9) rfl (nI_add j 1) (by decide) rfl (fun ls hl => ?_)
                            refine lv_goto (tgt := 24) hx hb d_M_joined_98 (by decide) ?_
                            exact ih_lp3 (j + 1) (by omega) (by omega) _ (lv_sub hl [5, 6, 7, 8, 9, 1, 0] rfl)
                      · have c_56 : atN b j k = 0 := (nI_eq (a := atN b j k) (b := 0) (by omega) (by omega)).mp c_56
                        refine lv_iconst (v := nI 0) hx hb d_M_joined_59 (by decide +kernel) ?_
                        refine lv_goto (tgt := 77) hx hb d_M_joined_60 (by decide) ?_
                        refine lv_istore (lv' := [(9, .int (nI 0)), (8, .int (nI (atN b j k))), (7, .int (nI (atN a i j))), (0, .int a), (1, .int b), (2, .int (pkK (fun y => moN a b i y 4) i (pkI (fun x y => moN a b x y 4) 4 i) k)), (3, .int (nI i)), (4, .int (nI k)), (5, .int (nI (moN a b i k j))), (6, .int (nI j))]) hx hb d_M_joined_77 hl (by decide) rfl (fun ls hl => ?_)
                        refine lv_iload hx hb d_M_joined_79 (lv_at hl 0 rfl) ?_
                        refine lv_iload hx hb d_M_joined_81 (lv_at hl 8 rfl) ?_
                        refine lv_icmp_le (tgt := 91) hx hb d_M_joined_83 (by decide) (fun c_83 => ?_) (fun c_83 => ?_)
                        · have c_83 : 0 ≤ moN a b i k j := (nI_leI (a := 0) (b := moN a b i k j) (by omega) (by omega)).mp c_83
                          refine lv_iload hx hb d_M_joined_91 (lv_at hl 8 rfl) ?_
                          refine lv_topi (fun z13 ez13 => ?_)
                          obtain rfl : z13 = nI (moN a b i k (j + 1)) := ez13.trans (congrArg nI (by rw [moN]; unfold mxN; first | omega | grind))
                          refine lv_istore (lv' := [(5, .int (nI (moN a b i k (j + 1)))), (9, .int (nI 0)), (8, .int (nI (atN b j k))), (7, .int (nI (atN a i j))), (0, .int a), (1, .int b), (2, .int (pkK (fun y => moN a b i y 4) i (pkI (fun x y => moN a b x y 4) 4 i) k)), (3, .int (nI i)), (4, .int (nI k)), (6, .int (nI j))]) hx hb d_M_joined_93 hl (by decide) rfl (fun ls hl => ?_)
                          refine lv_iinc (v := nI (j + 1)) (lv' := [(6, .int (nI (j + 1))), (5, .int (nI (moN a b i k (j + 1)))), (9, .int (nI 0)), (8, .int (nI (atN b j k))), (7, .int (nI (atN a i j))), (0, .int a), (1, .int b), (2, .int (pkK (fun y => moN a b i y 4) i (pkI (fun x y => moN a b x y 4) 4 i) k)), (3, .int (nI i)), (4, .int (nI k))]) hx hb d_M_joined_95 hl (k := 9) rfl (nI_add j 1) (by decide) rfl (fun ls hl => ?_)
                          refine lv_goto (tgt := 24) hx hb d_M_joined_98 (by decide) ?_
                          exact ih_lp3 (j + 1) (by omega) (by omega) _ (lv_sub hl [5, 6, 7, 8, 9, 1, 0] rfl)
                        · have c_83 : ¬ 0 ≤ moN a b i k j := fun z9 => c_83 ((nI_leI (a := 0) (b := moN a b i k j) (by omega) (by omega)).mpr z9)
                          refine lv_iload hx hb d_M_joined_86 (lv_at hl 0 rfl) ?_
                          refine lv_goto (tgt := 93) hx hb d_M_joined_88 (by decide) ?_
                          refine lv_topi (fun z14 ez14 => ?_)
                          obtain rfl : z14 = nI (moN a b i k (j + 1)) := ez14.trans (congrArg nI (by rw [moN]; unfold mxN; first | omega | grind))
                          refine lv_istore (lv' := [(5, .int (nI (moN a b i k (j + 1)))), (9, .int (nI 0)), (8, .int (nI (atN b j k))), (7, .int (nI (atN a i j))), (0, .int a), (1, .int b), (2, .int (pkK (fun y => moN a b i y 4) i (pkI (fun x y => moN a b x y 4) 4 i) k)), (3, .int (nI i)), (4, .int (nI k)), (6, .int (nI j))]) hx hb d_M_joined_93 hl (by decide) rfl (fun ls hl => ?_)
                          refine lv_iinc (v := nI (j + 1)) (lv' := [(6, .int (nI (j + 1))), (5, .int (nI (moN a b i k (j + 1)))), (9, .int (nI 0)), (8, .int (nI (atN b j k))), (7, .int (nI (atN a i j))), (0, .int a), (1, .int b), (2, .int (pkK (fun y => moN a b i y 4) i (pkI (fun x y => moN a b x y 4) 4 i) k)), (3, .int (nI i)), (4, .int (nI k))]) hx hb d_M_joined_95 hl (k := 9) rfl (nI_add j 1) (by decide) rfl (fun ls hl => ?_)
                          refine lv_goto (tgt := 24) hx hb d_M_joined_98 (by decide) ?_
                          exact ih_lp3 (j + 1) (by omega) (by omega) _ (lv_sub hl [5, 6, 7, 8, 9, 1, 0] rfl)
              exact lp3 _ 0 (Nat.zero_le _) (Nat.lt_succ_self _) _ (lv_sub hl [2, 3, 4, 5, 6, 1, 0] rfl)
        exact lp2 _ 0 (Nat.zero_le _) (Nat.lt_succ_self _) _ (lv_sub hl [1, 2, 3, 4, 0] rfl)
  exact lp1 _ 0 (Nat.zero_le _) (Nat.lt_succ_self _) _ (lv_sub hl [2, 3, 1, 0] rfl)
set_option maxHeartbeats 4000000 in
set_option maxRecDepth 100000 in
theorem m_add (l : Launch) (dC : Nat → ClassId) (dI : Nat → Nat → Nat) (cI cZ : ClassId) (h : Nat → Nat) (sz : Nat) (xt xf xc : Int32) (aP aF aT aK bF bL bB bA bY bR oT oO oR bS : Nat → Int32) (es : List En) (f g y : Nat) (b : Int32) (a : Option Nat) (hL : es.length ≤ 801) (hE0 : hE es bF bL bB bA bY) (hs : smE es) (hf : f < 16) (hg : g < 16) : Met l y_M_add w_M_add ({ frames := 0, cells := 0, slots := 0, locals := 0 }) (va_Pc [.ref (h 0), .int (nI f), .int (nI g), .int b, .int (ahI a), .int (nI y)] (fun U => U.heap.size = sz ∧ va_P (dC, dI) kls (wM h cI cZ xt xf xc (nI es.length) aP aF aT aK bF bL bB bA bY bR oT oO oR bS) U.heap ∧ va_K (dC, dI) kls (tyM cI cZ) U ∧ va_D (fun _ => True) (wM h cI cZ xt xf xc (nI es.length) aP aF aT aK bF bL bB bA bY bR oT oO oR bS))) (va_Qv (fun (u : Int32 × (Nat → Int32) × (Nat → Int32) × (Nat → Int32) × (Nat → Int32) × (Nat → Int32)) => u.1 = nI (addC 801 es (f, g, b, a, y)).length ∧ hE (addC 801 es (f, g, b, a, y)) u.2.1 u.2.2.1 u.2.2.2.1 u.2.2.2.2.1 u.2.2.2.2.2) (fun (u : Int32 × (Nat → Int32) × (Nat → Int32) × (Nat → Int32) × (Nat → Int32) × (Nat → Int32)) (t : State) => va_P (dC, dI) kls (wM h cI cZ xt xf xc u.1 aP aF aT aK u.2.1 u.2.2.1 u.2.2.2.1 u.2.2.2.2.1 u.2.2.2.2.2 bR oT oO oR bS) t.heap ∧ va_K (dC, dI) kls (tyM cI cZ) t ∧ va_D (va_A (wM h cI cZ xt xf xc (nI es.length) aP aF aT aK bF bL bB bA bY bR oT oO oR bS) sz) (wM h cI cZ xt xf xc u.1 aP aF aT aK u.2.1 u.2.2.1 u.2.2.2.1 u.2.2.2.2.1 u.2.2.2.2.2 bR oT oO oR bS)) (va_A (wM h cI cZ xt xf xc (nI es.length) aP aF aT aK bF bL bB bA bY bR oT oO oR bS) sz)) 0 0 (va_A (wM h cI cZ xt xf xc (nI es.length) aP aF aT aK bF bL bB bA bY bR oT oO oR bS) sz) := by
  refine Met.ofW (cc := c_M_add) (maxL := 7) (ret := none) (by decide) rfl ?_
  intro p e s m args below meth c s₁ B hml hv
  obtain ⟨rfl, hsz, hP, hK, hD0⟩ := hv
  have hx := B.exec
  have hb := B.bytes
  have hr := B.returns
  have hts := atoms_spec (ws := w_M_add) B.pre
  have hk : ∀ w ∈ wMw, w.before _ s = true := fun w h => hts w (List.mem_cons_of_mem _ h)
  have hown : s.vm.findClass R_M = some m.cls := findClass_of_methodNamed B.named
  have hlocks := B.notSynchronized
  subst hsz
  have hD := hD0.self (sz := s.heap.size)
  generalize hAe : va_A (wM h cI cZ xt xf xc (nI es.length) aP aF aT aK bF bL bB bA bY bR oT oO oR bS) s.heap.size = A at hD ⊢
  have hA : ∀ q : Nat, s.heap.size ≤ q → A q := fun q h => by rw [← hAe]; exact Or.inr h
  have hS : va_S A s.heap s.heap [] := va_S.rf
  have hl := lv_entry ([.ref (h 0), .int (nI f), .int (nI g), .int b, .int (ahI a), .int (nI y)]) (n := 7) (Nat.le_of_ble_eq_true rfl)
  rw [lg_entry_eq]
  generalize (lg_sl ([.ref (h 0), .int (nI f), .int (nI g), .int b, .int (ahI a), .int (nI y)]) ++ List.replicate (7 - (lg_sl ([.ref (h 0), .int (nI f), .int (nI g), .int b, .int (ahI a), .int (nI y)])).length) Slot.unset).toArray = ls at hl ⊢
  have hl : lv_has ls 7 [(0, .ref (h 0)), (1, .int (nI f)), (2, .int (nI g)), (3, .int b), (4, .int (ahI a)), (5, .int (nI y))] := hl
  refine lv_iconst (v := nI 0) hx hb d_M_add_0 (by decide +kernel) ?_
  refine lv_istore (lv' := [(6, .int (nI 0)), (0, .ref (h 0)), (1, .int (nI f)), (2, .int (nI g)), (3, .int b), (4, .int (ahI a)), (5, .int (nI y))]) hx hb d_M_add_1 hl (by decide) rfl (fun ls hl => ?_)
  have lp : ∀ (n_lp : Nat) (k : Nat), (k ≤ es.length) → (∀ j e, j < k → es[j]? = some e → kyE e ≠ (f, g, b)) → es.length - k < n_lp → ∀ (H : Heap) (locs : List Loc) (ls : Array Slot), va_P (dC, dI) kls (wM h cI cZ xt xf xc (nI es.length) aP aF aT aK bF bL bB bA bY bR oT oO oR bS) H → va_D A (wM h cI cZ xt xf xc (nI es.length) aP aF aT aK bF bL bB bA bY bR oT oO oR bS) → va_S A s.heap H locs → lv_has ls 7 [(0, .ref (h 0)), (1, .int (nI f)), (2, .int (nI g)), (3, .int b), (4, .int (ahI a)), (5, .int (nI y)), (6, .int (nI k))] → W p l e (headSpec w_M_add ({ frames := 0, cells := 0, slots := 0, locals := 0 })).room s m ([.ref (h 0), .int (nI f), .int (nI g), .int b, .int (ahI a), .int (nI y)]).toArray below meth c H locs 0 0 (MQ below (va_Qv (fun (u : Int32 × (Nat → Int32) × (Nat → Int32) × (Nat → Int32) × (Nat → Int32) × (Nat → Int32)) => u.1 = nI (addC 801 es (f, g, b, a, y)).length ∧ hE (addC 801 es (f, g, b, a, y)) u.2.1 u.2.2.1 u.2.2.2.1 u.2.2.2.2.1 u.2.2.2.2.2) (fun (u : Int32 × (Nat → Int32) × (Nat → Int32) × (Nat → Int32) × (Nat → Int32) × (Nat → Int32)) (t : State) => va_P (dC, dI) kls (wM h cI cZ xt xf xc u.1 aP aF aT aK u.2.1 u.2.2.1 u.2.2.2.1 u.2.2.2.2.1 u.2.2.2.2.2 bR oT oO oR bS) t.heap ∧ va_K (dC, dI) kls (tyM cI cZ) t ∧ va_D (A) (wM h cI cZ xt xf xc u.1 aP aF aT aK u.2.1 u.2.2.1 u.2.2.2.1 u.2.2.2.2.1 u.2.2.2.2.2 bR oT oO oR bS)) A) ([.ref (h 0), .int (nI f), .int (nI g), .int b, .int (ahI a), .int (nI y)]).toArray s 0 0 A) (F0 m 3 ls []) := by
    intro n_lp
    induction n_lp with
    | zero => intro k hk9 hno hn; exact absurd hn (Nat.not_lt_zero _)
    | succ n_lp ih_lp =>
      intro k hk9 hno hn H locs ls hP hD hS hl
      refine lv_iload hx hb d_M_add_3 (lv_at hl 6 rfl) ?_
      refine lv_aload_n hx hb d_M_add_5 rfl (lv_at hl 0 rfl) ?_
      refine va_get (D := (dC, dI)) (ci := 0) (v := .int (nI es.length)) (C := R_M) (T := F_M) (N := 18) hx hb hk k_M_f hown hK hP 0 rfl rfl 7 (by decide) (hk _ k_M_15) (fun _ h9 => h9) rfl d_M_add_6 ?_
      refine lv_icmp_ge (tgt := 51) hx hb d_M_add_9 (by decide) (fun c_9 => ?_) (fun c_9 => ?_)
      · have c_9 : es.length ≤ k := (nI_leI (a := es.length) (b := k) (by omega) (by omega)).mp c_9
        have hke : k = es.length := by omega
        subst hke
        refine lv_iload hx hb d_M_add_51 (lv_at hl 6 rfl) ?_
        refine lv_aload_n hx hb d_M_add_53 rfl (lv_at hl 0 rfl) ?_
        refine va_get (D := (dC, dI)) (ci := 0) (v := .int (nI es.length)) (C := R_M) (T := F_M) (N := 18) hx hb hk k_M_f hown hK hP 0 rfl rfl 7 (by decide) (hk _ k_M_15) (fun _ h9 => h9) rfl d_M_add_54 ?_
        refine lv_icmp_lt (tgt := 70) hx hb d_M_add_57 (by decide) (fun c_57 => ?_) (fun c_57 => ?_)
        · have c_57 : es.length < es.length := (nI_ltI (a := es.length) (b := es.length) (by omega) (by omega)).mp c_57
          exfalso; omega
        · have c_57 : ¬ es.length < es.length := fun z9 => c_57 ((nI_ltI (a := es.length) (b := es.length) (by omega) (by omega)).mpr z9)
          refine lv_aload_n hx hb d_M_add_60 rfl (lv_at hl 0 rfl) ?_
          refine va_get (D := (dC, dI)) (ci := 0) (v := .int (nI es.length)) (C := R_M) (T := F_M) (N := 18) hx hb hk k_M_f hown hK hP 0 rfl rfl 7 (by decide) (hk _ k_M_15) (fun _ h9 => h9) rfl d_M_add_61 ?_
          refine lv_sipush (v := nI 800) hx hb d_M_add_64 (by decide +kernel) ?_
          refine lv_icmp_le (tgt := 71) hx hb d_M_add_67 (by decide) (fun c_67 => ?_) (fun c_67 => ?_)
          · have c_67 : es.length ≤ 800 := (nI_leI (a := es.length) (b := 800) (by omega) (by omega)).mp c_67
            refine lv_aload_n hx hb d_M_add_71 rfl (lv_at hl 0 rfl) ?_
            refine va_get (D := (dC, dI)) (ci := 0) (v := .ref (h 5)) (C := R_M) (T := F_M) (N := 18) hx hb hk k_M_f hown hK hP 0 rfl rfl 8 (by decide) (hk _ k_M_16) (fun _ h9 => h9) rfl d_M_add_72 ?_
            refine lv_iload hx hb d_M_add_75 (lv_at hl 6 rfl) ?_
            refine lv_iload_n hx hb d_M_add_77 rfl (lv_at hl 1 rfl) ?_
            refine va_iast hx hb hK hP hD hS 5 0 rfl rfl (pk_in es.length 801 (by omega)) d_M_add_78 (fun H locs hP hD hS => ?_)
            rw [nI_clamp (n := es.length) (by omega)] at hP hD
            have hP : va_P (dC, dI) kls (wM h cI cZ xt xf xc (nI es.length) aP aF aT aK (upd bF es.length (nI f)) bL bB bA bY bR oT oO oR bS) H := hP
            have hD : va_D A (wM h cI cZ xt xf xc (nI es.length) aP aF aT aK (upd bF es.length (nI f)) bL bB bA bY bR oT oO oR bS) := hD
            refine lv_aload_n hx hb d_M_add_79 rfl (lv_at hl 0 rfl) ?_
            refine va_get (D := (dC, dI)) (ci := 0) (v := .ref (h 6)) (C := R_M) (T := F_M) (N := 18) hx hb hk k_M_f hown hK hP 0 rfl rfl 9 (by decide) (hk _ k_M_17) (fun _ h9 => h9) rfl d_M_add_80 ?_
            refine lv_iload hx hb d_M_add_83 (lv_at hl 6 rfl) ?_
            refine lv_iload_n hx hb d_M_add_85 rfl (lv_at hl 2 rfl) ?_
            refine va_iast hx hb hK hP hD hS 6 0 rfl rfl (pk_in es.length 801 (by omega)) d_M_add_86 (fun H locs hP hD hS => ?_)
            rw [nI_clamp (n := es.length) (by omega)] at hP hD
            have hP : va_P (dC, dI) kls (wM h cI cZ xt xf xc (nI es.length) aP aF aT aK (upd bF es.length (nI f)) (upd bL es.length (nI g)) bB bA bY bR oT oO oR bS) H := hP
            have hD : va_D A (wM h cI cZ xt xf xc (nI es.length) aP aF aT aK (upd bF es.length (nI f)) (upd bL es.length (nI g)) bB bA bY bR oT oO oR bS) := hD
            refine lv_aload_n hx hb d_M_add_87 rfl (lv_at hl 0 rfl) ?_
            refine va_get (D := (dC, dI)) (ci := 0) (v := .ref (h 7)) (C := R_M) (T := F_M) (N := 18) hx hb hk k_M_f hown hK hP 0 rfl rfl 10 (by decide) (hk _ k_M_18) (fun _ h9 => h9) rfl d_M_add_88 ?_
            refine lv_iload hx hb d_M_add_91 (lv_at hl 6 rfl) ?_
            refine lv_iload_n hx hb d_M_add_93 rfl (lv_at hl 3 rfl) ?_
            refine va_iast hx hb hK hP hD hS 7 0 rfl rfl (pk_in es.length 801 (by omega)) d_M_add_94 (fun H locs hP hD hS => ?_)
            rw [nI_clamp (n := es.length) (by omega)] at hP hD
            have hP : va_P (dC, dI) kls (wM h cI cZ xt xf xc (nI es.length) aP aF aT aK (upd bF es.length (nI f)) (upd bL es.length (nI g)) (upd bB es.length b) bA bY bR oT oO oR bS) H := hP
            have hD : va_D A (wM h cI cZ xt xf xc (nI es.length) aP aF aT aK (upd bF es.length (nI f)) (upd bL es.length (nI g)) (upd bB es.length b) bA bY bR oT oO oR bS) := hD
            refine lv_aload_n hx hb d_M_add_95 rfl (lv_at hl 0 rfl) ?_
            refine va_get (D := (dC, dI)) (ci := 0) (v := .ref (h 8)) (C := R_M) (T := F_M) (N := 18) hx hb hk k_M_f hown hK hP 0 rfl rfl 11 (by decide) (hk _ k_M_19) (fun _ h9 => h9) rfl d_M_add_96 ?_
            refine lv_iload hx hb d_M_add_99 (lv_at hl 6 rfl) ?_
            refine lv_iload hx hb d_M_add_101 (lv_at hl 4 rfl) ?_
            refine va_iast hx hb hK hP hD hS 8 0 rfl rfl (pk_in es.length 801 (by omega)) d_M_add_103 (fun H locs hP hD hS => ?_)
            rw [nI_clamp (n := es.length) (by omega)] at hP hD
            have hP : va_P (dC, dI) kls (wM h cI cZ xt xf xc (nI es.length) aP aF aT aK (upd bF es.length (nI f)) (upd bL es.length (nI g)) (upd bB es.length b) (upd bA es.length (ahI a)) bY bR oT oO oR bS) H := hP
            have hD : va_D A (wM h cI cZ xt xf xc (nI es.length) aP aF aT aK (upd bF es.length (nI f)) (upd bL es.length (nI g)) (upd bB es.length b) (upd bA es.length (ahI a)) bY bR oT oO oR bS) := hD
            refine lv_aload_n hx hb d_M_add_104 rfl (lv_at hl 0 rfl) ?_
            refine va_get (D := (dC, dI)) (ci := 0) (v := .ref (h 9)) (C := R_M) (T := F_M) (N := 18) hx hb hk k_M_f hown hK hP 0 rfl rfl 12 (by decide) (hk _ k_M_20) (fun _ h9 => h9) rfl d_M_add_105 ?_
            refine lv_iload hx hb d_M_add_108 (lv_at hl 6 rfl) ?_
            refine lv_iload hx hb d_M_add_110 (lv_at hl 5 rfl) ?_
            refine va_iast hx hb hK hP hD hS 9 0 rfl rfl (pk_in es.length 801 (by omega)) d_M_add_112 (fun H locs hP hD hS => ?_)
            rw [nI_clamp (n := es.length) (by omega)] at hP hD
            have hP : va_P (dC, dI) kls (wM h cI cZ xt xf xc (nI es.length) aP aF aT aK (upd bF es.length (nI f)) (upd bL es.length (nI g)) (upd bB es.length b) (upd bA es.length (ahI a)) (upd bY es.length (nI y)) bR oT oO oR bS) H := hP
            have hD : va_D A (wM h cI cZ xt xf xc (nI es.length) aP aF aT aK (upd bF es.length (nI f)) (upd bL es.length (nI g)) (upd bB es.length b) (upd bA es.length (ahI a)) (upd bY es.length (nI y)) bR oT oO oR bS) := hD
            refine lv_aload_n hx hb d_M_add_113 rfl (lv_at hl 0 rfl) ?_
            refine lv_dup hx hb d_M_add_114 rfl ?_
            refine va_get (D := (dC, dI)) (ci := 0) (v := .int (nI es.length)) (C := R_M) (T := F_M) (N := 18) hx hb hk k_M_f hown hK hP 0 rfl rfl 7 (by decide) (hk _ k_M_15) (fun _ h9 => h9) rfl d_M_add_115 ?_
            refine lv_iconst (v := nI 1) hx hb d_M_add_118 (by decide +kernel) ?_
            refine lv_iadd hx hb d_M_add_119 ?_
            refine lv_topi (fun z1 ez1 => ?_)
            obtain rfl : z1 = nI (es.length + 1) := ez1.trans (nI_add _ _)
            refine va_put (D := (dC, dI)) (ci := 0) (v := .int (nI (es.length + 1))) (ty := .int) (C := R_M) (T := F_M) (N := 18) hx hb hk k_M_f t_M t_M_ok n_M hown hK hP hD hS 0 rfl rfl 7 (by decide) (hk _ k_M_15) (fun _ h9 => h9) rfl (by decide +kernel) rfl rfl (Nat.le_of_ble_eq_true rfl) d_M_add_120 (fun H locs hP hD hS => ?_)
            have hP : va_P (dC, dI) kls (wM h cI cZ xt xf xc (nI (es.length + 1)) aP aF aT aK (upd bF es.length (nI f)) (upd bL es.length (nI g)) (upd bB es.length b) (upd bA es.length (ahI a)) (upd bY es.length (nI y)) bR oT oO oR bS) H := hP
            have hD : va_D A (wM h cI cZ xt xf xc (nI (es.length + 1)) aP aF aT aK (upd bF es.length (nI f)) (upd bL es.length (nI g)) (upd bB es.length b) (upd bA es.length (ahI a)) (upd bY es.length (nI y)) bR oT oO oR bS) := hD
            have hq : addC 801 es (f, g, b, a, y) = es ++ [(f, g, b, a, y)] := if_neg (by
              intro q
              rcases q with q | q
              · exact ky_none (fun j e hj he => hno j e hj he) q
              · omega)
            exact W.vret hx hb hr (fun t ht hW => ⟨⟨(nI (es.length + 1), upd bF es.length (nI f), upd bL es.length (nI g), upd bB es.length b, upd bA es.length (ahI a), upd bY es.length (nI y)), rfl, by rw [hq, List.length_append]; exact ⟨rfl, hE_snoc hE0 (f, g, b, a, y)⟩, by rw [ht]; exact hP, va_K.moved hW.alike hK, hD⟩, hS.F ht⟩) hS.2.2 d_M_add_123
          · have c_67 : ¬ es.length ≤ 800 := fun z9 => c_67 ((nI_leI (a := es.length) (b := 800) (by omega) (by omega)).mpr z9)
            have hq : addC 801 es (f, g, b, a, y) = es := by
              first
                | exact if_pos (Or.inl (hE_yes hE0 hs hf hg (by omega) c_20 c_31 c_42))
                | exact if_pos (Or.inr (by omega))
            exact W.vret hx hb hr (fun t ht hW => ⟨⟨(nI es.length, bF, bL, bB, bA, bY), rfl, by rw [hq]; exact ⟨rfl, hE0⟩, by rw [ht]; exact hP, va_K.moved hW.alike hK, hD⟩, hS.F ht⟩) hS.2.2 d_M_add_70
      · have c_9 : ¬ es.length ≤ k := fun z9 => c_9 ((nI_leI (a := es.length) (b := k) (by omega) (by omega)).mpr z9)
        refine lv_aload_n hx hb d_M_add_12 rfl (lv_at hl 0 rfl) ?_
        refine va_get (D := (dC, dI)) (ci := 0) (v := .ref (h 5)) (C := R_M) (T := F_M) (N := 18) hx hb hk k_M_f hown hK hP 0 rfl rfl 8 (by decide) (hk _ k_M_16) (fun _ h9 => h9) rfl d_M_add_13 ?_
        refine lv_iload hx hb d_M_add_16 (lv_at hl 6 rfl) ?_
        refine va_iald hx hb hK hP 5 0 rfl rfl (pk_in k 801 (by omega)) d_M_add_18 ?_
        refine lv_topi (fun z2 ez2 => ?_)
        obtain rfl : z2 = bF k := ez2.trans (rd (f := bF) (k := k) (by omega))
        refine lv_iload_n hx hb d_M_add_19 rfl (lv_at hl 1 rfl) ?_
        refine lv_icmp_ne (tgt := 45) hx hb d_M_add_20 (by decide) (fun c_20 => ?_) (fun c_20 => ?_)
        · refine lv_iinc (v := nI (k + 1)) (lv' := [(6, .int (nI (k + 1))), (0, .ref (h 0)), (1, .int (nI f)), (2, .int (nI g)), (3, .int b), (4, .int (ahI a)), (5, .int (nI y))]) hx hb d_M_add_45 hl (k := 6) rfl (nI_add k 1) (by decide) rfl (fun ls hl => ?_)
          refine lv_goto (tgt := 3) hx hb d_M_add_48 (by decide) ?_
          have hne := hE_not hE0 hs (k := k) (b := b) hf hg (by first | exact Or.inl c_20 | exact Or.inr (Or.inl c_31) | exact Or.inr (Or.inr c_42))
          have hno2 : ∀ j e, j < k + 1 → es[j]? = some e → kyE e ≠ (f, g, b) := by
            intro j e hj he
            rcases Nat.lt_or_ge j k with q | q
            · exact hno j e q he
            · obtain rfl : j = k := by omega
              exact hne e he
          exact ih_lp (k + 1) (by omega) (hno2) (by omega) _ _ _ hP hD hS (lv_sub hl [1, 2, 3, 4, 5, 6, 0] rfl)
        · refine lv_aload_n hx hb d_M_add_23 rfl (lv_at hl 0 rfl) ?_
          refine va_get (D := (dC, dI)) (ci := 0) (v := .ref (h 6)) (C := R_M) (T := F_M) (N := 18) hx hb hk k_M_f hown hK hP 0 rfl rfl 9 (by decide) (hk _ k_M_17) (fun _ h9 => h9) rfl d_M_add_24 ?_
          refine lv_iload hx hb d_M_add_27 (lv_at hl 6 rfl) ?_
          refine va_iald hx hb hK hP 6 0 rfl rfl (pk_in k 801 (by omega)) d_M_add_29 ?_
          refine lv_topi (fun z3 ez3 => ?_)
          obtain rfl : z3 = bL k := ez3.trans (rd (f := bL) (k := k) (by omega))
          refine lv_iload_n hx hb d_M_add_30 rfl (lv_at hl 2 rfl) ?_
          refine lv_icmp_ne (tgt := 45) hx hb d_M_add_31 (by decide) (fun c_31 => ?_) (fun c_31 => ?_)
          · refine lv_iinc (v := nI (k + 1)) (lv' := [(6, .int (nI (k + 1))), (0, .ref (h 0)), (1, .int (nI f)), (2, .int (nI g)), (3, .int b), (4, .int (ahI a)), (5, .int (nI y))]) hx hb d_M_add_45 hl (k := 6) rfl (nI_add k 1) (by decide) rfl (fun ls hl => ?_)
            refine lv_goto (tgt := 3) hx hb d_M_add_48 (by decide) ?_
            have hne := hE_not hE0 hs (k := k) (b := b) hf hg (by first | exact Or.inl c_20 | exact Or.inr (Or.inl c_31) | exact Or.inr (Or.inr c_42))
            have hno2 : ∀ j e, j < k + 1 → es[j]? = some e → kyE e ≠ (f, g, b) := by
              intro j e hj he
              rcases Nat.lt_or_ge j k with q | q
              · exact hno j e q he
              · obtain rfl : j = k := by omega
                exact hne e he
            exact ih_lp (k + 1) (by omega) (hno2) (by omega) _ _ _ hP hD hS (lv_sub hl [1, 2, 3, 4, 5, 6, 0] rfl)
          · refine lv_aload_n hx hb d_M_add_34 rfl (lv_at hl 0 rfl) ?_
            refine va_get (D := (dC, dI)) (ci := 0) (v := .ref (h 7)) (C := R_M) (T := F_M) (N := 18) hx hb hk k_M_f hown hK hP 0 rfl rfl 10 (by decide) (hk _ k_M_18) (fun _ h9 => h9) rfl d_M_add_35 ?_
            refine lv_iload hx hb d_M_add_38 (lv_at hl 6 rfl) ?_
            refine va_iald hx hb hK hP 7 0 rfl rfl (pk_in k 801 (by omega)) d_M_add_40 ?_
            refine lv_topi (fun z4 ez4 => ?_)
            obtain rfl : z4 = bB k := ez4.trans (rd (f := bB) (k := k) (by omega))
            refine lv_iload_n hx hb d_M_add_41 rfl (lv_at hl 3 rfl) ?_
            refine lv_icmp_eq (tgt := 51) hx hb d_M_add_42 (by decide) (fun c_42 => ?_) (fun c_42 => ?_)
            · refine lv_iload hx hb d_M_add_51 (lv_at hl 6 rfl) ?_
              refine lv_aload_n hx hb d_M_add_53 rfl (lv_at hl 0 rfl) ?_
              refine va_get (D := (dC, dI)) (ci := 0) (v := .int (nI es.length)) (C := R_M) (T := F_M) (N := 18) hx hb hk k_M_f hown hK hP 0 rfl rfl 7 (by decide) (hk _ k_M_15) (fun _ h9 => h9) rfl d_M_add_54 ?_
              refine lv_icmp_lt (tgt := 70) hx hb d_M_add_57 (by decide) (fun c_57 => ?_) (fun c_57 => ?_)
              · have c_57 : k < es.length := (nI_ltI (a := k) (b := es.length) (by omega) (by omega)).mp c_57
                have hq : addC 801 es (f, g, b, a, y) = es := by
                  first
                    | exact if_pos (Or.inl (hE_yes hE0 hs hf hg (by omega) c_20 c_31 c_42))
                    | exact if_pos (Or.inr (by omega))
                exact W.vret hx hb hr (fun t ht hW => ⟨⟨(nI es.length, bF, bL, bB, bA, bY), rfl, by rw [hq]; exact ⟨rfl, hE0⟩, by rw [ht]; exact hP, va_K.moved hW.alike hK, hD⟩, hS.F ht⟩) hS.2.2 d_M_add_70
              · have c_57 : ¬ k < es.length := fun z9 => c_57 ((nI_ltI (a := k) (b := es.length) (by omega) (by omega)).mpr z9)
                exfalso; omega
            · refine lv_iinc (v := nI (k + 1)) (lv' := [(6, .int (nI (k + 1))), (0, .ref (h 0)), (1, .int (nI f)), (2, .int (nI g)), (3, .int b), (4, .int (ahI a)), (5, .int (nI y))]) hx hb d_M_add_45 hl (k := 6) rfl (nI_add k 1) (by decide) rfl (fun ls hl => ?_)
              refine lv_goto (tgt := 3) hx hb d_M_add_48 (by decide) ?_
              have hne := hE_not hE0 hs (k := k) (b := b) hf hg (by first | exact Or.inl c_20 | exact Or.inr (Or.inl c_31) | exact Or.inr (Or.inr c_42))
              have hno2 : ∀ j e, j < k + 1 → es[j]? = some e → kyE e ≠ (f, g, b) := by
                intro j e hj he
                rcases Nat.lt_or_ge j k with q | q
                · exact hno j e q he
                · obtain rfl : j = k := by omega
                  exact hne e he
              exact ih_lp (k + 1) (by omega) (hno2) (by omega) _ _ _ hP hD hS (lv_sub hl [1, 2, 3, 4, 5, 6, 0] rfl)
  exact lp _ 0 (Nat.zero_le _) (fun j e hj => absurd hj (Nat.not_lt_zero _)) (Nat.lt_succ_self _) _ _ _ hP hD hS (lv_sub hl [1, 2, 3, 4, 5, 6, 0] rfl)
