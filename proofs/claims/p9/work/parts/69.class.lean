section PX
variable (nC : Nat) (cf ct : Nat → Nat) (ck : Nat → Int32) (K : Nat)
theorem RSf_ah : ∀ f, ahOk (RSf nC cf ct ck K f)
  | 0 => fun j i e h _ => by simp [RSf] at h
  | f + 1 => by
    intro j i e h1 h2
    have hg : ahOk (gF nC cf ct ck cj K f) := bsG_ahead nC cf ct ck cj (fun x => x == f) K
    rcases Nat.lt_or_ge j (RSf nC cf ct ck K f).length with z | z
    · rw [RSf, List.getElem?_append_left z] at h1
      exact RSf_ah f j i e h1 h2
    · rw [RSf, List.getElem?_append_right z, List.getElem?_map] at h1
      cases hz : (gF nC cf ct ck cj K f)[j - (RSf nC cf ct ck K f).length]? with
      | none => rw [hz] at h1; cases h1
      | some e2 =>
        rw [hz] at h1
        cases h1
        cases h3 : e2.2.2.2.1 with
        | none => rw [show (shE (RSf nC cf ct ck K f).length e2).2.2.2.1 = e2.2.2.2.1.map (fun k => (RSf nC cf ct ck K f).length + k) from rfl, h3] at h2; cases h2
        | some i2 =>
          rw [show (shE (RSf nC cf ct ck K f).length e2).2.2.2.1 = e2.2.2.2.1.map (fun k => (RSf nC cf ct ck K f).length + k) from rfl, h3] at h2
          cases h2
          have := hg _ i2 e2 hz h3
          show (RSf nC cf ct ck K f).length + i2 < j
          omega
theorem g_sg {n i : Nat} {eB eE eA eL : Nat → Int32} (hrw : hRw (RSf nC cf ct ck K n) eB eE eA eL) (hi : i < n) : hSg (gF nC cf ct ck cj K i) (gN nC cf ct ck cj K i) eB eE := fun k e h => by
  have h1 := hrw _ _ (RSf_at nC cf ct ck K hi h)
  exact ⟨h1.1, h1.2.1⟩
theorem g_sm {n i : Nat} (hsm : smR (RSf nC cf ct ck K n)) (hi : i < n) : smR (gF nC cf ct ck cj K i) := fun e he => by
  obtain ⟨k, hk⟩ := List.getElem?_of_mem he
  exact hsm (shE (gN nC cf ct ck cj K i) e) (List.mem_of_getElem? (RSf_at nC cf ct ck K hi hk))
/-- a function's first bad row: none, or its place among all rows -/
def fbO (f : Nat) (a0 : Option Nat) : Prop := (a0 = none ∧ ∀ en ∈ gF nC cf ct ck cj K f, ¬ (en.2.1 = f ∧ badC en.2.2.1)) ∨ ∃ k en, a0 = some (gN nC cf ct ck cj K f + k) ∧ (gF nC cf ct ck cj K f)[k]? = some en ∧ (en.2.1 = f ∧ badC en.2.2.1) ∧ ∀ j x, j < k → (gF nC cf ct ck cj K f)[j]? = some x → ¬ (x.2.1 = f ∧ badC x.2.2.1)
theorem fb_opt {f n : Nat} {w : Int32} (hf : f < n) (h : fbOk nC cf ct ck K f w) : ∃ a0, w = ahI a0 ∧ (∀ j, a0 = some j → j < (RSf nC cf ct ck K n).length) ∧ fbO nC cf ct ck K f a0 := by
  rcases h with ⟨h1, h2⟩ | ⟨k, en, h1, h2, h3, h4⟩
  · exact ⟨none, h1, fun j z => (by cases z), Or.inl ⟨rfl, h2⟩⟩
  · refine ⟨some (gN nC cf ct ck cj K f + k), h1, fun j z => ?_, Or.inr ⟨k, en, rfl, h2, h3, h4⟩⟩
    cases z
    exact (List.getElem?_eq_some_iff.mp (RSf_at nC cf ct ck K hf h2)).1
theorem ahI_n {a0 : Option Nat} {n : Nat} (hn : n < 2 ^ 31) (h : ∀ j, a0 = some j → j < n) : ahI a0 = -1 ↔ a0 = none := by
  cases a0 with
  | none => exact ⟨fun _ => rfl, fun _ => rfl⟩
  | some j =>
    have := h j rfl
    exact ⟨fun z => absurd z (ah_neg (by omega)), fun z => by cases z⟩
end PX
set_option maxHeartbeats 4000000 in
set_option maxRecDepth 100000 in
theorem c_X_needClosure_ok (l : Launch) (dC : Nat → ClassId) (dI : Nat → Nat → Nat) (cI : ClassId) (h : Nat → Nat) (sz : Nat) (yn yt ym : Int32) (aK eB eE eA eL eN eC eS eW eT : Nat → Int32) (nF nC : Nat) (pl cf ct : Nat → Nat) (K ga : Nat) (hF : nF ≤ 10) (hC : nC ≤ 20) (hS0 : ∀ c, c < nC → cf c < nF ∧ ct c < nF) (hpl : ∀ i, i < nF → 1 ≤ pl i ∧ pl i ≤ 4) (hK8 : 801 ≤ K) (hcl : ∀ c, c < nC → clN (aK c)) (hga : ga = 0 ∨ (ga = 1 ∧ GI nC cf ct aK K nF yn yt eB eE eA eL eS eW)) (hfew : gN nC cf ct aK cj K nF ≤ 800) : Met l y_X_needClosure w_X_needClosure ({ frames := 5, cells := 0, slots := 0, locals := 117 }) (va_Pc [.ref (h 0)] (fun U => U.heap.size = sz ∧ va_P (dC, dI) kls (wC h cI (nI nF) (nI nC) yn yt (nI ga) ym (fun c => nI (pl c)) (fun c => nI (cf c)) (fun c => nI (ct c)) aK eB eE eA eL eN eC eS eW eT) U.heap ∧ va_K (dC, dI) kls (tyC cI) U ∧ va_D (fun _ => True) (wC h cI (nI nF) (nI nC) yn yt (nI ga) ym (fun c => nI (pl c)) (fun c => nI (cf c)) (fun c => nI (ct c)) aK eB eE eA eL eN eC eS eW eT))) (va_Qv (fun (u : Int32 × Int32 × Int32 × (Nat → Int32) × (Nat → Int32) × (Nat → Int32) × (Nat → Int32) × (Nat → Int32) × (Nat → Int32) × (Nat → Int32) × (Nat → Int32)) => u.2.1 = nI 0 ∧ u.2.2.1 = nI 1 ∧ gOk nC cf ct aK K nF u.1 u.2.2.2.1 u.2.2.2.2.1 u.2.2.2.2.2.1 u.2.2.2.2.2.2.1 u.2.2.2.2.2.2.2.2.2.1 u.2.2.2.2.2.2.2.2.2.2) (fun (u : Int32 × Int32 × Int32 × (Nat → Int32) × (Nat → Int32) × (Nat → Int32) × (Nat → Int32) × (Nat → Int32) × (Nat → Int32) × (Nat → Int32) × (Nat → Int32)) (t : State) => va_P (dC, dI) kls (wC h cI (nI nF) (nI nC) u.1 u.2.1 u.2.2.1 ym (fun c => nI (pl c)) (fun c => nI (cf c)) (fun c => nI (ct c)) aK u.2.2.2.1 u.2.2.2.2.1 u.2.2.2.2.2.1 u.2.2.2.2.2.2.1 u.2.2.2.2.2.2.2.1 u.2.2.2.2.2.2.2.2.1 u.2.2.2.2.2.2.2.2.2.1 u.2.2.2.2.2.2.2.2.2.2 eT) t.heap ∧ va_K (dC, dI) kls (tyC cI) t ∧ va_D (va_A (wC h cI (nI nF) (nI nC) yn yt (nI ga) ym (fun c => nI (pl c)) (fun c => nI (cf c)) (fun c => nI (ct c)) aK eB eE eA eL eN eC eS eW eT) sz) (wC h cI (nI nF) (nI nC) u.1 u.2.1 u.2.2.1 ym (fun c => nI (pl c)) (fun c => nI (cf c)) (fun c => nI (ct c)) aK u.2.2.2.1 u.2.2.2.2.1 u.2.2.2.2.2.1 u.2.2.2.2.2.2.1 u.2.2.2.2.2.2.2.1 u.2.2.2.2.2.2.2.2.1 u.2.2.2.2.2.2.2.2.2.1 u.2.2.2.2.2.2.2.2.2.2 eT)) (va_A (wC h cI (nI nF) (nI nC) yn yt (nI ga) ym (fun c => nI (pl c)) (fun c => nI (cf c)) (fun c => nI (ct c)) aK eB eE eA eL eN eC eS eW eT) sz)) 0 0 (va_A (wC h cI (nI nF) (nI nC) yn yt (nI ga) ym (fun c => nI (pl c)) (fun c => nI (cf c)) (fun c => nI (ct c)) aK eB eE eA eL eN eC eS eW eT) sz) := by
  refine Met.ofW (cc := c_X_needClosure) (maxL := 1) (ret := none) (by decide) rfl ?_
  intro p e s m args below meth c s₁ B hml hv
  obtain ⟨rfl, hsz, hP, hK, hD0⟩ := hv
  have hx := B.exec
  have hb := B.bytes
  have hr := B.returns
  have hts := atoms_spec (ws := w_X_needClosure) B.pre
  have hk : ∀ w ∈ wCw, w.before _ s = true := fun w h => hts w (List.mem_cons_of_mem _ h)
  have hown : s.vm.findClass R_X = some m.cls := findClass_of_methodNamed B.named
  have hlocks := B.notSynchronized
  subst hsz
  have hD := hD0.self (sz := s.heap.size)
  generalize hAe : va_A (wC h cI (nI nF) (nI nC) yn yt (nI ga) ym (fun c => nI (pl c)) (fun c => nI (cf c)) (fun c => nI (ct c)) aK eB eE eA eL eN eC eS eW eT) s.heap.size = A at hD ⊢
  have hA : ∀ q : Nat, s.heap.size ≤ q → A q := fun q h => by rw [← hAe]; exact Or.inr h
  have hS : va_S A s.heap s.heap [] := va_S.rf
  have hl := lv_entry ([.ref (h 0)]) (n := 1) (Nat.le_of_ble_eq_true rfl)
  rw [lg_entry_eq]
  generalize (lg_sl ([.ref (h 0)]) ++ List.replicate (1 - (lg_sl ([.ref (h 0)])).length) Slot.unset).toArray = ls at hl ⊢
  have hl : lv_has ls 1 [(0, .ref (h 0))] := hl
  refine lv_aload_n hx hb d_X_needClosure_0 rfl (lv_at hl 0 rfl) ?_
  refine va_get (D := (dC, dI)) (ci := 4) (v := .ref (h 6)) (C := R_X) (T := F_X) (N := 3) hx hb hk k_f_X hown hK hP 0 rfl rfl 1 (by decide) (hk _ k_C_68) (fun _ h9 => h9) rfl d_X_needClosure_1 ?_
  refine lv_aload_n hx hb d_X_needClosure_4 rfl (lv_at hl 0 rfl) ?_
  refine va_get (D := (dC, dI)) (ci := 4) (v := .ref (h 1)) (C := R_X) (T := F_X) (N := 3) hx hb hk k_f_X hown hK hP 0 rfl rfl 0 (by decide) (hk _ k_C_67) (fun _ h9 => h9) rfl d_X_needClosure_5 ?_
  have hFc := va_free (wc := wC h cI (nI nF) (nI nC) yn yt (nI ga) ym (fun c => nI (pl c)) (fun c => nI (cf c)) (fun c => nI (ct c)) aK eB eE eA eL eN eC eS eW eT) hD hS hA [0, 1, 2, 3, 4, 5, 6, 7, 8, 9, 10, 11, 12, 13, 14, 15, 16] rfl
  refine va_callv (va_runV (As := [.ref (h 1)]) (rest := []) ⟨hx, hb, hml, hown, hk⟩ (c_C_gather_ok l dC dI cI h s.heap.size yn yt ym aK eB eE eA eL eN eC eS eW eT nF nC pl cf ct K ga (hF) (hC) (hS0) (hpl) (hK8) (hcl) (hga)) (cwV 1 hk g_X_127 rfl rfl rfl (by decide +kernel) ⟨Nat.le_of_ble_eq_true rfl, Nat.le_of_ble_eq_true rfl⟩) ⟨fun a U g mk q => by obtain ⟨q0, q1, qP, qK, qD⟩ := q; exact ⟨q0, q1, qP, va_K.moved (u := U) (U := U.calling g mk a) (Vm.Alike.refl U.vm) qK, qD⟩, va_recv hK hP (ci := 2) (q0 := 6) rfl rfl, fun U hU hW => ⟨rfl, by rw [hU], by rw [hU]; exact hP, va_K.moved hW.alike hK, hD.weaken (fun _ _ _ _ => trivial)⟩⟩ rfl rfl hl.1 rfl (lv_room (Nat.le_of_ble_eq_true rfl)) d_X_needClosure_8 ⟨Nat.le_of_ble_eq_true rfl, Nat.le_of_ble_eq_true rfl⟩) hS (fun q _ h => hFc q h) hFc (fun u9 t H1 locs ht hvm hw hB hz1 hk1 hS => ?_)
  obtain ⟨yn9, yt9, yg9, eB9, eE9, eA9, eL9, eN9, eC9, eS9, eW9⟩ := u9
  obtain ⟨hP1, hK1, hD1⟩ := hB
  rw [ht] at hP1
  try dsimp only at hw
  obtain ⟨hP, hD⟩ := va_join (wr := []) (w1 := wC h cI (nI nF) (nI nC) yn9 yt9 yg9 ym (fun c => nI (pl c)) (fun c => nI (cf c)) (fun c => nI (ct c)) aK eB9 eE9 eA9 eL9 eN9 eC9 eS9 eW9 eT) hP hD [0, 1, 2, 3, 4, 5, 6, 7, 8, 9, 10, 11, 12, 13, 14, 15, 16] [] rfl rfl (by decide) (by decide) hk1 hFc hP1 hD1
  generalize H1 = H at hP hS ⊢
  have hP : va_P (dC, dI) kls (wC h cI (nI nF) (nI nC) yn9 yt9 yg9 ym (fun c => nI (pl c)) (fun c => nI (cf c)) (fun c => nI (ct c)) aK eB9 eE9 eA9 eL9 eN9 eC9 eS9 eW9 eT) H := hP
  have hD : va_D A (wC h cI (nI nF) (nI nC) yn9 yt9 yg9 ym (fun c => nI (pl c)) (fun c => nI (cf c)) (fun c => nI (ct c)) aK eB9 eE9 eA9 eL9 eN9 eC9 eS9 eW9 eT) := hD
  obtain ⟨hg1, hGI⟩ := hw
  rcases hGI with ⟨ht0, hgo⟩ | ⟨ht1, hgt⟩
  · subst hg1
    subst ht0
    refine lv_aload_n hx hb d_X_needClosure_11 rfl (lv_at hl 0 rfl) ?_
    refine va_get (D := (dC, dI)) (ci := 4) (v := .ref (h 6)) (C := R_X) (T := F_X) (N := 3) hx hb hk k_f_X hown hK hP 0 rfl rfl 1 (by decide) (hk _ k_C_68) (fun _ h9 => h9) rfl d_X_needClosure_12 ?_
    refine va_get (D := (dC, dI)) (ci := 2) (v := .int (nI 0)) (C := R_C) (T := F_C) (N := 11) hx hb hk k_f_C hown hK hP 6 rfl rfl 9 (by decide) (hk _ k_C_56) (fun _ h9 => h9) rfl d_X_needClosure_15 ?_
    refine lv_if_eq (tgt := 31) hx hb d_X_needClosure_18 (by decide) (fun _ => ?_) (fun c9 => absurd c9 (by decide +kernel))
    exact W.vret hx hb hr (fun t ht hW => ⟨⟨(yn9, nI 0, nI 1, eB9, eE9, eA9, eL9, eN9, eC9, eS9, eW9), rfl, ⟨rfl, rfl, hgo⟩, by rw [ht]; exact hP, va_K.moved hW.alike hK, hD⟩, hS.F ht⟩) hS.2.2 d_X_needClosure_31
  · exfalso; omega
set_option maxHeartbeats 4000000 in
set_option maxRecDepth 100000 in
theorem c_X_function_ok (l : Launch) (dC : Nat → ClassId) (dI : Nat → Nat → Nat) (cI : ClassId) (h : Nat → Nat) (sz : Nat) (yn yt yg ym : Int32) (aK eB eE eA eL eN eC eS eW eT : Nat → Int32) (nF nC : Nat) (pl cf ct : Nat → Nat) (q : Nat) (hF : nF < 10) (hq1 : 1 ≤ q) (hq4 : q ≤ 4) : Met l y_X_function w_X_function ({ frames := 1, cells := 0, slots := 0, locals := 21 }) (va_Pc [.ref (h 0), .int (nI q)] (fun U => U.heap.size = sz ∧ va_P (dC, dI) kls (wC h cI (nI nF) (nI nC) yn yt yg ym (fun c => nI (pl c)) (fun c => nI (cf c)) (fun c => nI (ct c)) aK eB eE eA eL eN eC eS eW eT) U.heap ∧ va_K (dC, dI) kls (tyC cI) U ∧ va_D (fun _ => True) (wC h cI (nI nF) (nI nC) yn yt yg ym (fun c => nI (pl c)) (fun c => nI (cf c)) (fun c => nI (ct c)) aK eB eE eA eL eN eC eS eW eT))) (va_Qi (fun (r : Int32) (u : Int32 × (Nat → Int32) × Int32) => u.1 = nI (nF + 1) ∧ u.2.1 = (fun c => nI (updN pl nF q c)) ∧ u.2.2 = nI 0 ∧ r = nI nF) (fun (u : Int32 × (Nat → Int32) × Int32) (t : State) => va_P (dC, dI) kls (wC h cI u.1 (nI nC) yn yt u.2.2 ym u.2.1 (fun c => nI (cf c)) (fun c => nI (ct c)) aK eB eE eA eL eN eC eS eW eT) t.heap ∧ va_K (dC, dI) kls (tyC cI) t ∧ va_D (va_A (wC h cI (nI nF) (nI nC) yn yt yg ym (fun c => nI (pl c)) (fun c => nI (cf c)) (fun c => nI (ct c)) aK eB eE eA eL eN eC eS eW eT) sz) (wC h cI u.1 (nI nC) yn yt u.2.2 ym u.2.1 (fun c => nI (cf c)) (fun c => nI (ct c)) aK eB eE eA eL eN eC eS eW eT)) (va_A (wC h cI (nI nF) (nI nC) yn yt yg ym (fun c => nI (pl c)) (fun c => nI (cf c)) (fun c => nI (ct c)) aK eB eE eA eL eN eC eS eW eT) sz)) 0 0 (va_A (wC h cI (nI nF) (nI nC) yn yt yg ym (fun c => nI (pl c)) (fun c => nI (cf c)) (fun c => nI (ct c)) aK eB eE eA eL eN eC eS eW eT) sz) := by
  refine Met.ofW (cc := c_X_function) (maxL := 2) (ret := (some .int)) (by decide) rfl ?_
  intro p e s m args below meth c s₁ B hml hv
  obtain ⟨rfl, hsz, hP, hK, hD0⟩ := hv
  have hx := B.exec
  have hb := B.bytes
  have hr := B.returns
  have hts := atoms_spec (ws := w_X_function) B.pre
  have hk : ∀ w ∈ wCw, w.before _ s = true := fun w h => hts w (List.mem_cons_of_mem _ h)
  have hown : s.vm.findClass R_X = some m.cls := findClass_of_methodNamed B.named
  have hlocks := B.notSynchronized
  subst hsz
  have hD := hD0.self (sz := s.heap.size)
  generalize hAe : va_A (wC h cI (nI nF) (nI nC) yn yt yg ym (fun c => nI (pl c)) (fun c => nI (cf c)) (fun c => nI (ct c)) aK eB eE eA eL eN eC eS eW eT) s.heap.size = A at hD ⊢
  have hA : ∀ q : Nat, s.heap.size ≤ q → A q := fun q h => by rw [← hAe]; exact Or.inr h
  have hS : va_S A s.heap s.heap [] := va_S.rf
  have hl := lv_entry ([.ref (h 0), .int (nI q)]) (n := 2) (Nat.le_of_ble_eq_true rfl)
  rw [lg_entry_eq]
  generalize (lg_sl ([.ref (h 0), .int (nI q)]) ++ List.replicate (2 - (lg_sl ([.ref (h 0), .int (nI q)])).length) Slot.unset).toArray = ls at hl ⊢
  have hl : lv_has ls 2 [(0, .ref (h 0)), (1, .int (nI q))] := hl
  refine lv_iload_n hx hb d_X_function_0 rfl (lv_at hl 1 rfl) ?_
  refine lv_iconst (v := nI 1) hx hb d_X_function_1 (by decide +kernel) ?_
  refine lv_icmp_lt (tgt := 10) hx hb d_X_function_2 (by decide) (fun c_2 => ?_) (fun c_2 => ?_)
  · have c_2 : q < 1 := (nI_ltI (a := q) (b := 1) (by omega) (by omega)).mp c_2
    exfalso; omega
  · have c_2 : ¬ q < 1 := fun z9 => c_2 ((nI_ltI (a := q) (b := 1) (by omega) (by omega)).mpr z9)
    refine lv_iload_n hx hb d_X_function_5 rfl (lv_at hl 1 rfl) ?_
    refine lv_iconst (v := nI 4) hx hb d_X_function_6 (by decide +kernel) ?_
    refine lv_icmp_le (tgt := 20) hx hb d_X_function_7 (by decide) (fun c_7 => ?_) (fun c_7 => ?_)
    · have c_7 : q ≤ 4 := (nI_leI (a := q) (b := 4) (by omega) (by omega)).mp c_7
      refine lv_aload_n hx hb d_X_function_20 rfl (lv_at hl 0 rfl) ?_
      refine va_get (D := (dC, dI)) (ci := 4) (v := .ref (h 1)) (C := R_X) (T := F_X) (N := 3) hx hb hk k_f_X hown hK hP 0 rfl rfl 0 (by decide) (hk _ k_C_67) (fun _ h9 => h9) rfl d_X_function_21 ?_
      refine va_get (D := (dC, dI)) (ci := 1) (v := .int (nI nF)) (C := R_P) (T := F_P) (N := 6) hx hb hk k_f_P hown hK hP 1 rfl rfl 4 (by decide) (hk _ k_C_33) (fun _ h9 => h9) rfl d_X_function_24 ?_
      refine lv_bipush (v := nI 10) hx hb d_X_function_27 (by decide +kernel) ?_
      refine lv_icmp_lt (tgt := 42) hx hb d_X_function_29 (by decide) (fun c_29 => ?_) (fun c_29 => ?_)
      · have c_29 : nF < 10 := (nI_ltI (a := nF) (b := 10) (by omega) (by omega)).mp c_29
        refine lv_aload_n hx hb d_X_function_42 rfl (lv_at hl 0 rfl) ?_
        refine va_get (D := (dC, dI)) (ci := 4) (v := .ref (h 6)) (C := R_X) (T := F_X) (N := 3) hx hb hk k_f_X hown hK hP 0 rfl rfl 1 (by decide) (hk _ k_C_68) (fun _ h9 => h9) rfl d_X_function_43 ?_
        have hFc := va_free (wc := wC h cI (nI nF) (nI nC) yn yt yg ym (fun c => nI (pl c)) (fun c => nI (cf c)) (fun c => nI (ct c)) aK eB eE eA eL eN eC eS eW eT) hD hS hA [0, 1, 2, 3, 4, 5, 6, 7, 8, 9, 10, 11, 12, 13, 14, 15, 16] rfl
        refine va_callv (va_runV (As := []) (rest := []) ⟨hx, hb, hml, hown, hk⟩ (c_C_forget_ok l dC dI cI h s.heap.size (nI nF) (nI nC) yn yt yg ym (fun c => nI (pl c)) (fun c => nI (cf c)) (fun c => nI (ct c)) aK eB eE eA eL eN eC eS eW eT  ) (cwV 0 hk g_X_46 rfl rfl rfl (by decide +kernel) ⟨Nat.le_of_ble_eq_true rfl, Nat.le_of_ble_eq_true rfl⟩) ⟨fun a U g mk q => by obtain ⟨q0, q1, qP, qK, qD⟩ := q; exact ⟨q0, q1, qP, va_K.moved (u := U) (U := U.calling g mk a) (Vm.Alike.refl U.vm) qK, qD⟩, va_recv hK hP (ci := 2) (q0 := 6) rfl rfl, fun U hU hW => ⟨rfl, by rw [hU], by rw [hU]; exact hP, va_K.moved hW.alike hK, hD.weaken (fun _ _ _ _ => trivial)⟩⟩ rfl rfl hl.1 rfl (lv_room (Nat.le_of_ble_eq_true rfl)) d_X_function_46 ⟨Nat.le_of_ble_eq_true rfl, Nat.le_of_ble_eq_true rfl⟩) hS (fun q _ h => hFc q h) hFc (fun u9 t H1 locs ht hvm hw hB hz1 hk1 hS => ?_)
        obtain ⟨yg9, rfl⟩ : ∃ z, z = u9 := ⟨_, rfl⟩
        obtain ⟨hP1, hK1, hD1⟩ := hB
        rw [ht] at hP1
        try dsimp only at hw
        obtain ⟨hP, hD⟩ := va_join (wr := []) (w1 := wC h cI (nI nF) (nI nC) yn yt yg9 ym (fun c => nI (pl c)) (fun c => nI (cf c)) (fun c => nI (ct c)) aK eB eE eA eL eN eC eS eW eT) hP hD [0, 1, 2, 3, 4, 5, 6, 7, 8, 9, 10, 11, 12, 13, 14, 15, 16] [] rfl rfl (by decide) (by decide) hk1 hFc hP1 hD1
        generalize H1 = H at hP hS ⊢
        have hP : va_P (dC, dI) kls (wC h cI (nI nF) (nI nC) yn yt yg9 ym (fun c => nI (pl c)) (fun c => nI (cf c)) (fun c => nI (ct c)) aK eB eE eA eL eN eC eS eW eT) H := hP
        have hD : va_D A (wC h cI (nI nF) (nI nC) yn yt yg9 ym (fun c => nI (pl c)) (fun c => nI (cf c)) (fun c => nI (ct c)) aK eB eE eA eL eN eC eS eW eT) := hD
        subst hw
        refine lv_aload_n hx hb d_X_function_49 rfl (lv_at hl 0 rfl) ?_
        refine va_get (D := (dC, dI)) (ci := 4) (v := .ref (h 1)) (C := R_X) (T := F_X) (N := 3) hx hb hk k_f_X hown hK hP 0 rfl rfl 0 (by decide) (hk _ k_C_67) (fun _ h9 => h9) rfl d_X_function_50 ?_
        refine lv_iload_n hx hb d_X_function_53 rfl (lv_at hl 1 rfl) ?_
        have hFc := va_free (wc := wC h cI (nI nF) (nI nC) yn yt (nI 0) ym (fun c => nI (pl c)) (fun c => nI (cf c)) (fun c => nI (ct c)) aK eB eE eA eL eN eC eS eW eT) hD hS hA [0, 1, 2, 3, 4, 5, 6, 7, 8, 9, 10, 11, 12, 13, 14, 15, 16] rfl
        refine va_calli (va_runV (As := [.int (nI q)]) (rest := []) ⟨hx, hb, hml, hown, hk⟩ (c_P_addFunction_ok l dC dI cI h H.size yn yt (nI 0) ym aK eB eE eA eL eN eC eS eW eT nF nC pl cf ct q (by omega)) (cwV 1 hk g_X_49 rfl rfl rfl (by decide +kernel) ⟨Nat.le_of_ble_eq_true rfl, Nat.le_of_ble_eq_true rfl⟩) ⟨fun a U g mk q => by obtain ⟨q0, q1, qP, qK, qD⟩ := q; exact ⟨q0, q1, qP, va_K.moved (u := U) (U := U.calling g mk a) (Vm.Alike.refl U.vm) qK, qD⟩, va_recv hK hP (ci := 1) (q0 := 1) rfl rfl, fun U hU hW => ⟨rfl, by rw [hU], by rw [hU]; exact hP, va_K.moved hW.alike hK, hD.weaken (fun _ _ _ _ => trivial)⟩⟩ rfl rfl hl.1 rfl (lv_room (Nat.le_of_ble_eq_true rfl)) d_X_function_54 ⟨Nat.le_of_ble_eq_true rfl, Nat.le_of_ble_eq_true rfl⟩) hS (fun q _ h => hFc q h) hFc (fun r2 u9 t H1 locs ht hvm hw hB hz1 hk1 hS => ?_)
        obtain ⟨yf9, aP9⟩ := u9
        obtain ⟨hP1, hK1, hD1⟩ := hB
        rw [ht] at hP1
        try dsimp only at hw
        obtain ⟨hP, hD⟩ := va_join (wr := []) (w1 := wC h cI yf9 (nI nC) yn yt (nI 0) ym aP9 (fun c => nI (cf c)) (fun c => nI (ct c)) aK eB eE eA eL eN eC eS eW eT) hP hD [0, 1, 2, 3, 4, 5, 6, 7, 8, 9, 10, 11, 12, 13, 14, 15, 16] [] rfl rfl (by decide) (by decide) hk1 hFc hP1 hD1
        generalize H1 = H at hP hS ⊢
        have hP : va_P (dC, dI) kls (wC h cI yf9 (nI nC) yn yt (nI 0) ym aP9 (fun c => nI (cf c)) (fun c => nI (ct c)) aK eB eE eA eL eN eC eS eW eT) H := hP
        have hD : va_D A (wC h cI yf9 (nI nC) yn yt (nI 0) ym aP9 (fun c => nI (cf c)) (fun c => nI (ct c)) aK eB eE eA eL eN eC eS eW eT) := hD
        obtain ⟨hu1, hu2, hr9⟩ := hw
        subst hu1
        subst hu2
        subst hr9
        exact W.iret (v := nI nF) hx hb hr (fun t ht hW => ⟨⟨nI nF, (nI (nF + 1), fun c => nI (updN pl nF q c), nI 0), rfl, ⟨rfl, rfl, rfl, rfl⟩, by rw [ht]; exact hP, va_K.moved hW.alike hK, hD⟩, hS.F ht⟩) hS.2.2 d_X_function_57
      · have c_29 : ¬ nF < 10 := fun z9 => c_29 ((nI_ltI (a := nF) (b := 10) (by omega) (by omega)).mpr z9)
        exfalso; omega
    · have c_7 : ¬ q ≤ 4 := fun z9 => c_7 ((nI_leI (a := q) (b := 4) (by omega) (by omega)).mpr z9)
      exfalso; omega
set_option maxHeartbeats 4000000 in
set_option maxRecDepth 100000 in
theorem c_X_call_ok (l : Launch) (dC : Nat → ClassId) (dI : Nat → Nat → Nat) (cI : ClassId) (h : Nat → Nat) (sz : Nat) (yn yt yg ym : Int32) (aK eB eE eA eL eN eC eS eW eT : Nat → Int32) (nF nC : Nat) (pl cf ct : Nat → Nat) (i1 j1 : Nat) (q : Int32) (hF : nF ≤ 10) (hC : nC < 20) (hi1 : i1 < nF) (hj1 : j1 < nF) (hpl : ∀ i, i < nF → 1 ≤ pl i ∧ pl i ≤ 4) : Met l y_X_call w_X_call ({ frames := 3, cells := 0, slots := 0, locals := 68 }) (va_Pc [.ref (h 0), .int (nI i1), .int (nI j1), .int q] (fun U => U.heap.size = sz ∧ va_P (dC, dI) kls (wC h cI (nI nF) (nI nC) yn yt yg ym (fun c => nI (pl c)) (fun c => nI (cf c)) (fun c => nI (ct c)) aK eB eE eA eL eN eC eS eW eT) U.heap ∧ va_K (dC, dI) kls (tyC cI) U ∧ va_D (fun _ => True) (wC h cI (nI nF) (nI nC) yn yt yg ym (fun c => nI (pl c)) (fun c => nI (cf c)) (fun c => nI (ct c)) aK eB eE eA eL eN eC eS eW eT))) (va_Qi (fun (r : Int32) (u : Int32 × (Nat → Int32) × (Nat → Int32) × (Nat → Int32) × Int32) => u.1 = nI (nC + 1) ∧ u.2.1 = (fun c => nI (updN cf nC i1 c)) ∧ u.2.2.1 = (fun c => nI (updN ct nC j1 c)) ∧ u.2.2.2.1 = upd aK nC (clC q (pl i1) (pl j1)) ∧ u.2.2.2.2 = nI 0 ∧ r = nI nC) (fun (u : Int32 × (Nat → Int32) × (Nat → Int32) × (Nat → Int32) × Int32) (t : State) => va_P (dC, dI) kls (wC h cI (nI nF) u.1 yn yt u.2.2.2.2 ym (fun c => nI (pl c)) u.2.1 u.2.2.1 u.2.2.2.1 eB eE eA eL eN eC eS eW eT) t.heap ∧ va_K (dC, dI) kls (tyC cI) t ∧ va_D (va_A (wC h cI (nI nF) (nI nC) yn yt yg ym (fun c => nI (pl c)) (fun c => nI (cf c)) (fun c => nI (ct c)) aK eB eE eA eL eN eC eS eW eT) sz) (wC h cI (nI nF) u.1 yn yt u.2.2.2.2 ym (fun c => nI (pl c)) u.2.1 u.2.2.1 u.2.2.2.1 eB eE eA eL eN eC eS eW eT)) (va_A (wC h cI (nI nF) (nI nC) yn yt yg ym (fun c => nI (pl c)) (fun c => nI (cf c)) (fun c => nI (ct c)) aK eB eE eA eL eN eC eS eW eT) sz)) 0 0 (va_A (wC h cI (nI nF) (nI nC) yn yt yg ym (fun c => nI (pl c)) (fun c => nI (cf c)) (fun c => nI (ct c)) aK eB eE eA eL eN eC eS eW eT) sz) := by
  refine Met.ofW (cc := c_X_call) (maxL := 4) (ret := (some .int)) (by decide) rfl ?_
  intro p e s m args below meth c s₁ B hml hv
  obtain ⟨rfl, hsz, hP, hK, hD0⟩ := hv
  have hx := B.exec
  have hb := B.bytes
  have hr := B.returns
  have hts := atoms_spec (ws := w_X_call) B.pre
  have hk : ∀ w ∈ wCw, w.before _ s = true := fun w h => hts w (List.mem_cons_of_mem _ h)
  have hown : s.vm.findClass R_X = some m.cls := findClass_of_methodNamed B.named
  have hlocks := B.notSynchronized
  subst hsz
  have hD := hD0.self (sz := s.heap.size)
  generalize hAe : va_A (wC h cI (nI nF) (nI nC) yn yt yg ym (fun c => nI (pl c)) (fun c => nI (cf c)) (fun c => nI (ct c)) aK eB eE eA eL eN eC eS eW eT) s.heap.size = A at hD ⊢
  have hA : ∀ q : Nat, s.heap.size ≤ q → A q := fun q h => by rw [← hAe]; exact Or.inr h
  have hS : va_S A s.heap s.heap [] := va_S.rf
  have hl := lv_entry ([.ref (h 0), .int (nI i1), .int (nI j1), .int q]) (n := 4) (Nat.le_of_ble_eq_true rfl)
  rw [lg_entry_eq]
  generalize (lg_sl ([.ref (h 0), .int (nI i1), .int (nI j1), .int q]) ++ List.replicate (4 - (lg_sl ([.ref (h 0), .int (nI i1), .int (nI j1), .int q])).length) Slot.unset).toArray = ls at hl ⊢
  have hl : lv_has ls 4 [(0, .ref (h 0)), (1, .int (nI i1)), (2, .int (nI j1)), (3, .int q)] := hl
  refine lv_aload_n hx hb d_X_call_0 rfl (lv_at hl 0 rfl) ?_
  refine va_get (D := (dC, dI)) (ci := 4) (v := .ref (h 1)) (C := R_X) (T := F_X) (N := 3) hx hb hk k_f_X hown hK hP 0 rfl rfl 0 (by decide) (hk _ k_C_67) (fun _ h9 => h9) rfl d_X_call_1 ?_
  refine lv_iload_n hx hb d_X_call_4 rfl (lv_at hl 1 rfl) ?_
  have hFc := va_free (wc := wC h cI (nI nF) (nI nC) yn yt yg ym (fun c => nI (pl c)) (fun c => nI (cf c)) (fun c => nI (ct c)) aK eB eE eA eL eN eC eS eW eT) hD hS hA [0, 1, 2, 3, 4, 5, 6, 7, 8, 9, 10, 11, 12, 13, 14, 15, 16] rfl
  refine va_calli (va_runV (As := [.int (nI i1)]) (rest := []) ⟨hx, hb, hml, hown, hk⟩ (c_P_hasFunction_ok l dC dI cI h s.heap.size yn yt yg ym aK eB eE eA eL eN eC eS eW eT nF nC pl cf ct (nI i1) (by omega)) (cwV 1 hk g_X_53 rfl rfl rfl (by decide +kernel) ⟨Nat.le_of_ble_eq_true rfl, Nat.le_of_ble_eq_true rfl⟩) ⟨fun a U g mk q => by obtain ⟨q0, q1, qP, qK, qD⟩ := q; exact ⟨q0, q1, qP, va_K.moved (u := U) (U := U.calling g mk a) (Vm.Alike.refl U.vm) qK, qD⟩, va_recv hK hP (ci := 1) (q0 := 1) rfl rfl, fun U hU hW => ⟨rfl, by rw [hU], by rw [hU]; exact hP, va_K.moved hW.alike hK, hD.weaken (fun _ _ _ _ => trivial)⟩⟩ rfl rfl hl.1 rfl (lv_room (Nat.le_of_ble_eq_true rfl)) d_X_call_5 ⟨Nat.le_of_ble_eq_true rfl, Nat.le_of_ble_eq_true rfl⟩) hS (fun q _ h => hFc q h) hFc (fun r1 u9 t H1 locs ht hvm hw hB hz1 hk1 hS => ?_)
  obtain ⟨hP1, hK1, hD1⟩ := hB
  rw [ht] at hP1
  try dsimp only at hw
  obtain ⟨hP, hD⟩ := va_join (wr := []) (w1 := wC h cI (nI nF) (nI nC) yn yt yg ym (fun c => nI (pl c)) (fun c => nI (cf c)) (fun c => nI (ct c)) aK eB eE eA eL eN eC eS eW eT) hP hD [0, 1, 2, 3, 4, 5, 6, 7, 8, 9, 10, 11, 12, 13, 14, 15, 16] [] rfl rfl (by decide) (by decide) hk1 hFc hP1 hD1
  generalize H1 = H at hP hS ⊢
  have hP : va_P (dC, dI) kls (wC h cI (nI nF) (nI nC) yn yt yg ym (fun c => nI (pl c)) (fun c => nI (cf c)) (fun c => nI (ct c)) aK eB eE eA eL eN eC eS eW eT) H := hP
  have hD : va_D A (wC h cI (nI nF) (nI nC) yn yt yg ym (fun c => nI (pl c)) (fun c => nI (cf c)) (fun c => nI (ct c)) aK eB eE eA eL eN eC eS eW eT) := hD
  rcases hw with ⟨hr9, -⟩ | ⟨hr9, hno9⟩
  · subst hr9
    refine lv_if_eq (tgt := 22) hx hb d_X_call_8 (by decide) (fun c9 => absurd c9 (by decide +kernel)) (fun _ => ?_)
    refine lv_aload_n hx hb d_X_call_11 rfl (lv_at hl 0 rfl) ?_
    refine va_get (D := (dC, dI)) (ci := 4) (v := .ref (h 1)) (C := R_X) (T := F_X) (N := 3) hx hb hk k_f_X hown hK hP 0 rfl rfl 0 (by decide) (hk _ k_C_67) (fun _ h9 => h9) rfl d_X_call_12 ?_
    refine lv_iload_n hx hb d_X_call_15 rfl (lv_at hl 2 rfl) ?_
    have hFc := va_free (wc := wC h cI (nI nF) (nI nC) yn yt yg ym (fun c => nI (pl c)) (fun c => nI (cf c)) (fun c => nI (ct c)) aK eB eE eA eL eN eC eS eW eT) hD hS hA [0, 1, 2, 3, 4, 5, 6, 7, 8, 9, 10, 11, 12, 13, 14, 15, 16] rfl
    refine va_calli (va_runV (As := [.int (nI j1)]) (rest := []) ⟨hx, hb, hml, hown, hk⟩ (c_P_hasFunction_ok l dC dI cI h H.size yn yt yg ym aK eB eE eA eL eN eC eS eW eT nF nC pl cf ct (nI j1) (by omega)) (cwV 1 hk g_X_53 rfl rfl rfl (by decide +kernel) ⟨Nat.le_of_ble_eq_true rfl, Nat.le_of_ble_eq_true rfl⟩) ⟨fun a U g mk q => by obtain ⟨q0, q1, qP, qK, qD⟩ := q; exact ⟨q0, q1, qP, va_K.moved (u := U) (U := U.calling g mk a) (Vm.Alike.refl U.vm) qK, qD⟩, va_recv hK hP (ci := 1) (q0 := 1) rfl rfl, fun U hU hW => ⟨rfl, by rw [hU], by rw [hU]; exact hP, va_K.moved hW.alike hK, hD.weaken (fun _ _ _ _ => trivial)⟩⟩ rfl rfl hl.1 rfl (lv_room (Nat.le_of_ble_eq_true rfl)) d_X_call_16 ⟨Nat.le_of_ble_eq_true rfl, Nat.le_of_ble_eq_true rfl⟩) hS (fun q _ h => hFc q h) hFc (fun r2 u9 t H1 locs ht hvm hw hB hz1 hk1 hS => ?_)
    obtain ⟨hP1, hK1, hD1⟩ := hB
    rw [ht] at hP1
    try dsimp only at hw
    obtain ⟨hP, hD⟩ := va_join (wr := []) (w1 := wC h cI (nI nF) (nI nC) yn yt yg ym (fun c => nI (pl c)) (fun c => nI (cf c)) (fun c => nI (ct c)) aK eB eE eA eL eN eC eS eW eT) hP hD [0, 1, 2, 3, 4, 5, 6, 7, 8, 9, 10, 11, 12, 13, 14, 15, 16] [] rfl rfl (by decide) (by decide) hk1 hFc hP1 hD1
    generalize H1 = H at hP hS ⊢
    have hP : va_P (dC, dI) kls (wC h cI (nI nF) (nI nC) yn yt yg ym (fun c => nI (pl c)) (fun c => nI (cf c)) (fun c => nI (ct c)) aK eB eE eA eL eN eC eS eW eT) H := hP
    have hD : va_D A (wC h cI (nI nF) (nI nC) yn yt yg ym (fun c => nI (pl c)) (fun c => nI (cf c)) (fun c => nI (ct c)) aK eB eE eA eL eN eC eS eW eT) := hD
    rcases hw with ⟨hr9, -⟩ | ⟨hr9, hno9⟩
    · subst hr9
      refine lv_if_ne (tgt := 32) hx hb d_X_call_19 (by decide) (fun _ => ?_) (fun c9 => absurd c9 (by decide +kernel))
      refine lv_aload_n hx hb d_X_call_32 rfl (lv_at hl 0 rfl) ?_
      refine va_get (D := (dC, dI)) (ci := 4) (v := .ref (h 1)) (C := R_X) (T := F_X) (N := 3) hx hb hk k_f_X hown hK hP 0 rfl rfl 0 (by decide) (hk _ k_C_67) (fun _ h9 => h9) rfl d_X_call_33 ?_
      refine va_get (D := (dC, dI)) (ci := 1) (v := .int (nI nC)) (C := R_P) (T := F_P) (N := 6) hx hb hk k_f_P hown hK hP 1 rfl rfl 5 (by decide) (hk _ k_C_37) (fun _ h9 => h9) rfl d_X_call_36 ?_
      refine lv_bipush (v := nI 20) hx hb d_X_call_39 (by decide +kernel) ?_
      refine lv_icmp_lt (tgt := 54) hx hb d_X_call_41 (by decide) (fun c_41 => ?_) (fun c_41 => ?_)
      · have c_41 : nC < 20 := (nI_ltI (a := nC) (b := 20) (by omega) (by omega)).mp c_41
        refine lv_aload_n hx hb d_X_call_54 rfl (lv_at hl 0 rfl) ?_
        refine va_get (D := (dC, dI)) (ci := 4) (v := .ref (h 6)) (C := R_X) (T := F_X) (N := 3) hx hb hk k_f_X hown hK hP 0 rfl rfl 1 (by decide) (hk _ k_C_68) (fun _ h9 => h9) rfl d_X_call_55 ?_
        have hFc := va_free (wc := wC h cI (nI nF) (nI nC) yn yt yg ym (fun c => nI (pl c)) (fun c => nI (cf c)) (fun c => nI (ct c)) aK eB eE eA eL eN eC eS eW eT) hD hS hA [0, 1, 2, 3, 4, 5, 6, 7, 8, 9, 10, 11, 12, 13, 14, 15, 16] rfl
        refine va_callv (va_runV (As := []) (rest := []) ⟨hx, hb, hml, hown, hk⟩ (c_C_forget_ok l dC dI cI h H.size (nI nF) (nI nC) yn yt yg ym (fun c => nI (pl c)) (fun c => nI (cf c)) (fun c => nI (ct c)) aK eB eE eA eL eN eC eS eW eT  ) (cwV 0 hk g_X_46 rfl rfl rfl (by decide +kernel) ⟨Nat.le_of_ble_eq_true rfl, Nat.le_of_ble_eq_true rfl⟩) ⟨fun a U g mk q => by obtain ⟨q0, q1, qP, qK, qD⟩ := q; exact ⟨q0, q1, qP, va_K.moved (u := U) (U := U.calling g mk a) (Vm.Alike.refl U.vm) qK, qD⟩, va_recv hK hP (ci := 2) (q0 := 6) rfl rfl, fun U hU hW => ⟨rfl, by rw [hU], by rw [hU]; exact hP, va_K.moved hW.alike hK, hD.weaken (fun _ _ _ _ => trivial)⟩⟩ rfl rfl hl.1 rfl (lv_room (Nat.le_of_ble_eq_true rfl)) d_X_call_58 ⟨Nat.le_of_ble_eq_true rfl, Nat.le_of_ble_eq_true rfl⟩) hS (fun q _ h => hFc q h) hFc (fun u9 t H1 locs ht hvm hw hB hz1 hk1 hS => ?_)
        obtain ⟨yg9, rfl⟩ : ∃ z, z = u9 := ⟨_, rfl⟩
        obtain ⟨hP1, hK1, hD1⟩ := hB
        rw [ht] at hP1
        try dsimp only at hw
        obtain ⟨hP, hD⟩ := va_join (wr := []) (w1 := wC h cI (nI nF) (nI nC) yn yt yg9 ym (fun c => nI (pl c)) (fun c => nI (cf c)) (fun c => nI (ct c)) aK eB eE eA eL eN eC eS eW eT) hP hD [0, 1, 2, 3, 4, 5, 6, 7, 8, 9, 10, 11, 12, 13, 14, 15, 16] [] rfl rfl (by decide) (by decide) hk1 hFc hP1 hD1
        generalize H1 = H at hP hS ⊢
        have hP : va_P (dC, dI) kls (wC h cI (nI nF) (nI nC) yn yt yg9 ym (fun c => nI (pl c)) (fun c => nI (cf c)) (fun c => nI (ct c)) aK eB eE eA eL eN eC eS eW eT) H := hP
        have hD : va_D A (wC h cI (nI nF) (nI nC) yn yt yg9 ym (fun c => nI (pl c)) (fun c => nI (cf c)) (fun c => nI (ct c)) aK eB eE eA eL eN eC eS eW eT) := hD
        subst hw
        refine lv_aload_n hx hb d_X_call_61 rfl (lv_at hl 0 rfl) ?_
        refine va_get (D := (dC, dI)) (ci := 4) (v := .ref (h 1)) (C := R_X) (T := F_X) (N := 3) hx hb hk k_f_X hown hK hP 0 rfl rfl 0 (by decide) (hk _ k_C_67) (fun _ h9 => h9) rfl d_X_call_62 ?_
        refine lv_iload_n hx hb d_X_call_65 rfl (lv_at hl 1 rfl) ?_
        refine lv_iload_n hx hb d_X_call_66 rfl (lv_at hl 2 rfl) ?_
        refine lv_iload_n hx hb d_X_call_67 rfl (lv_at hl 3 rfl) ?_
        have hFc := va_free (wc := wC h cI (nI nF) (nI nC) yn yt (nI 0) ym (fun c => nI (pl c)) (fun c => nI (cf c)) (fun c => nI (ct c)) aK eB eE eA eL eN eC eS eW eT) hD hS hA [0, 1, 2, 3, 4, 5, 6, 7, 8, 9, 10, 11, 12, 13, 14, 15, 16] rfl
        refine va_calli (va_runV (As := [.int (nI i1), .int (nI j1), .int q]) (rest := []) ⟨hx, hb, hml, hown, hk⟩ (c_P_addCall_ok l dC dI cI h H.size yn yt (nI 0) ym aK eB eE eA eL eN eC eS eW eT nF nC pl cf ct i1 j1 q (hF) (hC) (hi1) (hj1) (hpl)) (cwV 3 hk g_X_67 rfl rfl rfl (by decide +kernel) ⟨Nat.le_of_ble_eq_true rfl, Nat.le_of_ble_eq_true rfl⟩) ⟨fun a U g mk q => by obtain ⟨q0, q1, qP, qK, qD⟩ := q; exact ⟨q0, q1, qP, va_K.moved (u := U) (U := U.calling g mk a) (Vm.Alike.refl U.vm) qK, qD⟩, va_recv hK hP (ci := 1) (q0 := 1) rfl rfl, fun U hU hW => ⟨rfl, by rw [hU], by rw [hU]; exact hP, va_K.moved hW.alike hK, hD.weaken (fun _ _ _ _ => trivial)⟩⟩ rfl rfl hl.1 rfl (lv_room (Nat.le_of_ble_eq_true rfl)) d_X_call_68 ⟨Nat.le_of_ble_eq_true rfl, Nat.le_of_ble_eq_true rfl⟩) hS (fun q _ h => hFc q h) hFc (fun r4 u9 t H1 locs ht hvm hw hB hz1 hk1 hS => ?_)
        obtain ⟨yc9, aF9, aT9, aK9⟩ := u9
        obtain ⟨hP1, hK1, hD1⟩ := hB
        rw [ht] at hP1
        try dsimp only at hw
        obtain ⟨hP, hD⟩ := va_join (wr := []) (w1 := wC h cI (nI nF) yc9 yn yt (nI 0) ym (fun c => nI (pl c)) aF9 aT9 aK9 eB eE eA eL eN eC eS eW eT) hP hD [0, 1, 2, 3, 4, 5, 6, 7, 8, 9, 10, 11, 12, 13, 14, 15, 16] [] rfl rfl (by decide) (by decide) hk1 hFc hP1 hD1
        generalize H1 = H at hP hS ⊢
        have hP : va_P (dC, dI) kls (wC h cI (nI nF) yc9 yn yt (nI 0) ym (fun c => nI (pl c)) aF9 aT9 aK9 eB eE eA eL eN eC eS eW eT) H := hP
        have hD : va_D A (wC h cI (nI nF) yc9 yn yt (nI 0) ym (fun c => nI (pl c)) aF9 aT9 aK9 eB eE eA eL eN eC eS eW eT) := hD
        obtain ⟨hu1, hu2, hu3, hu4, hr9⟩ := hw
        subst hu1
        subst hu2
        subst hu3
        subst hu4
        subst hr9
        exact W.iret (v := nI nC) hx hb hr (fun t ht hW => ⟨⟨nI nC, (nI (nC + 1), fun c => nI (updN cf nC i1 c), fun c => nI (updN ct nC j1 c), upd aK nC (clC q (pl i1) (pl j1)), nI 0), rfl, ⟨rfl, rfl, rfl, rfl, rfl, rfl⟩, by rw [ht]; exact hP, va_K.moved hW.alike hK, hD⟩, hS.F ht⟩) hS.2.2 d_X_call_71
      · have c_41 : ¬ nC < 20 := fun z9 => c_41 ((nI_ltI (a := nC) (b := 20) (by omega) (by omega)).mpr z9)
        exfalso; omega
    · exact absurd ⟨j1, by omega, rfl⟩ hno9
  · exact absurd ⟨i1, by omega, rfl⟩ hno9
set_option maxHeartbeats 4000000 in
set_option maxRecDepth 100000 in
theorem c_X_graphs_ok (l : Launch) (dC : Nat → ClassId) (dI : Nat → Nat → Nat) (cI : ClassId) (h : Nat → Nat) (sz : Nat) (yn yt ym : Int32) (aK eB eE eA eL eN eC eS eW eT : Nat → Int32) (nF nC : Nat) (pl cf ct : Nat → Nat) (K ga : Nat) (i1 j1 : Nat) (hF : nF ≤ 10) (hC : nC ≤ 20) (hS0 : ∀ c, c < nC → cf c < nF ∧ ct c < nF) (hpl : ∀ i, i < nF → 1 ≤ pl i ∧ pl i ≤ 4) (hK8 : 801 ≤ K) (hcl : ∀ c, c < nC → clN (aK c)) (hga : ga = 0 ∨ (ga = 1 ∧ GI nC cf ct aK K nF yn yt eB eE eA eL eS eW)) (hfew : gN nC cf ct aK cj K nF ≤ 800) (hi1 : i1 < nF) (hj1 : j1 < nF) : Met l y_X_graphs w_X_graphs ({ frames := 6, cells := 0, slots := 0, locals := 137 }) (va_Pc [.ref (h 0), .int (nI i1), .int (nI j1)] (fun U => U.heap.size = sz ∧ va_P (dC, dI) kls (wC h cI (nI nF) (nI nC) yn yt (nI ga) ym (fun c => nI (pl c)) (fun c => nI (cf c)) (fun c => nI (ct c)) aK eB eE eA eL eN eC eS eW eT) U.heap ∧ va_K (dC, dI) kls (tyC cI) U ∧ va_D (fun _ => True) (wC h cI (nI nF) (nI nC) yn yt (nI ga) ym (fun c => nI (pl c)) (fun c => nI (cf c)) (fun c => nI (ct c)) aK eB eE eA eL eN eC eS eW eT))) (va_Qi (fun (r : Int32) (u : Int32 × Int32 × Int32 × (Nat → Int32) × (Nat → Int32) × (Nat → Int32) × (Nat → Int32) × (Nat → Int32) × (Nat → Int32) × (Nat → Int32) × (Nat → Int32)) => u.2.1 = nI 0 ∧ u.2.2.1 = nI 1 ∧ gOk nC cf ct aK K nF u.1 u.2.2.2.1 u.2.2.2.2.1 u.2.2.2.2.2.1 u.2.2.2.2.2.2.1 u.2.2.2.2.2.2.2.2.2.1 u.2.2.2.2.2.2.2.2.2.2 ∧ r = nI (bitsL (gF nC cf ct aK cj K i1) j1).length) (fun (u : Int32 × Int32 × Int32 × (Nat → Int32) × (Nat → Int32) × (Nat → Int32) × (Nat → Int32) × (Nat → Int32) × (Nat → Int32) × (Nat → Int32) × (Nat → Int32)) (t : State) => va_P (dC, dI) kls (wC h cI (nI nF) (nI nC) u.1 u.2.1 u.2.2.1 ym (fun c => nI (pl c)) (fun c => nI (cf c)) (fun c => nI (ct c)) aK u.2.2.2.1 u.2.2.2.2.1 u.2.2.2.2.2.1 u.2.2.2.2.2.2.1 u.2.2.2.2.2.2.2.1 u.2.2.2.2.2.2.2.2.1 u.2.2.2.2.2.2.2.2.2.1 u.2.2.2.2.2.2.2.2.2.2 eT) t.heap ∧ va_K (dC, dI) kls (tyC cI) t ∧ va_D (va_A (wC h cI (nI nF) (nI nC) yn yt (nI ga) ym (fun c => nI (pl c)) (fun c => nI (cf c)) (fun c => nI (ct c)) aK eB eE eA eL eN eC eS eW eT) sz) (wC h cI (nI nF) (nI nC) u.1 u.2.1 u.2.2.1 ym (fun c => nI (pl c)) (fun c => nI (cf c)) (fun c => nI (ct c)) aK u.2.2.2.1 u.2.2.2.2.1 u.2.2.2.2.2.1 u.2.2.2.2.2.2.1 u.2.2.2.2.2.2.2.1 u.2.2.2.2.2.2.2.2.1 u.2.2.2.2.2.2.2.2.2.1 u.2.2.2.2.2.2.2.2.2.2 eT)) (va_A (wC h cI (nI nF) (nI nC) yn yt (nI ga) ym (fun c => nI (pl c)) (fun c => nI (cf c)) (fun c => nI (ct c)) aK eB eE eA eL eN eC eS eW eT) sz)) 0 0 (va_A (wC h cI (nI nF) (nI nC) yn yt (nI ga) ym (fun c => nI (pl c)) (fun c => nI (cf c)) (fun c => nI (ct c)) aK eB eE eA eL eN eC eS eW eT) sz) := by
  refine Met.ofW (cc := c_X_graphs) (maxL := 3) (ret := (some .int)) (by decide) rfl ?_
  intro p e s m args below meth c s₁ B hml hv
  obtain ⟨rfl, hsz, hP, hK, hD0⟩ := hv
  have hx := B.exec
  have hb := B.bytes
  have hr := B.returns
  have hts := atoms_spec (ws := w_X_graphs) B.pre
  have hk : ∀ w ∈ wCw, w.before _ s = true := fun w h => hts w (List.mem_cons_of_mem _ h)
  have hown : s.vm.findClass R_X = some m.cls := findClass_of_methodNamed B.named
  have hlocks := B.notSynchronized
  subst hsz
  have hD := hD0.self (sz := s.heap.size)
  generalize hAe : va_A (wC h cI (nI nF) (nI nC) yn yt (nI ga) ym (fun c => nI (pl c)) (fun c => nI (cf c)) (fun c => nI (ct c)) aK eB eE eA eL eN eC eS eW eT) s.heap.size = A at hD ⊢
  have hA : ∀ q : Nat, s.heap.size ≤ q → A q := fun q h => by rw [← hAe]; exact Or.inr h
  have hS : va_S A s.heap s.heap [] := va_S.rf
  have hl := lv_entry ([.ref (h 0), .int (nI i1), .int (nI j1)]) (n := 3) (Nat.le_of_ble_eq_true rfl)
  rw [lg_entry_eq]
  generalize (lg_sl ([.ref (h 0), .int (nI i1), .int (nI j1)]) ++ List.replicate (3 - (lg_sl ([.ref (h 0), .int (nI i1), .int (nI j1)])).length) Slot.unset).toArray = ls at hl ⊢
  have hl : lv_has ls 3 [(0, .ref (h 0)), (1, .int (nI i1)), (2, .int (nI j1))] := hl
  refine lv_aload_n hx hb d_X_graphs_0 rfl (lv_at hl 0 rfl) ?_
  refine va_get (D := (dC, dI)) (ci := 4) (v := .ref (h 1)) (C := R_X) (T := F_X) (N := 3) hx hb hk k_f_X hown hK hP 0 rfl rfl 0 (by decide) (hk _ k_C_67) (fun _ h9 => h9) rfl d_X_graphs_1 ?_
  refine lv_iload_n hx hb d_X_graphs_4 rfl (lv_at hl 1 rfl) ?_
  have hFc := va_free (wc := wC h cI (nI nF) (nI nC) yn yt (nI ga) ym (fun c => nI (pl c)) (fun c => nI (cf c)) (fun c => nI (ct c)) aK eB eE eA eL eN eC eS eW eT) hD hS hA [0, 1, 2, 3, 4, 5, 6, 7, 8, 9, 10, 11, 12, 13, 14, 15, 16] rfl
  refine va_calli (va_runV (As := [.int (nI i1)]) (rest := []) ⟨hx, hb, hml, hown, hk⟩ (c_P_hasFunction_ok l dC dI cI h s.heap.size yn yt (nI ga) ym aK eB eE eA eL eN eC eS eW eT nF nC pl cf ct (nI i1) (by omega)) (cwV 1 hk g_X_53 rfl rfl rfl (by decide +kernel) ⟨Nat.le_of_ble_eq_true rfl, Nat.le_of_ble_eq_true rfl⟩) ⟨fun a U g mk q => by obtain ⟨q0, q1, qP, qK, qD⟩ := q; exact ⟨q0, q1, qP, va_K.moved (u := U) (U := U.calling g mk a) (Vm.Alike.refl U.vm) qK, qD⟩, va_recv hK hP (ci := 1) (q0 := 1) rfl rfl, fun U hU hW => ⟨rfl, by rw [hU], by rw [hU]; exact hP, va_K.moved hW.alike hK, hD.weaken (fun _ _ _ _ => trivial)⟩⟩ rfl rfl hl.1 rfl (lv_room (Nat.le_of_ble_eq_true rfl)) d_X_graphs_5 ⟨Nat.le_of_ble_eq_true rfl, Nat.le_of_ble_eq_true rfl⟩) hS (fun q _ h => hFc q h) hFc (fun r1 u9 t H1 locs ht hvm hw hB hz1 hk1 hS => ?_)
  obtain ⟨hP1, hK1, hD1⟩ := hB
  rw [ht] at hP1
  try dsimp only at hw
  obtain ⟨hP, hD⟩ := va_join (wr := []) (w1 := wC h cI (nI nF) (nI nC) yn yt (nI ga) ym (fun c => nI (pl c)) (fun c => nI (cf c)) (fun c => nI (ct c)) aK eB eE eA eL eN eC eS eW eT) hP hD [0, 1, 2, 3, 4, 5, 6, 7, 8, 9, 10, 11, 12, 13, 14, 15, 16] [] rfl rfl (by decide) (by decide) hk1 hFc hP1 hD1
  generalize H1 = H at hP hS ⊢
  have hP : va_P (dC, dI) kls (wC h cI (nI nF) (nI nC) yn yt (nI ga) ym (fun c => nI (pl c)) (fun c => nI (cf c)) (fun c => nI (ct c)) aK eB eE eA eL eN eC eS eW eT) H := hP
  have hD : va_D A (wC h cI (nI nF) (nI nC) yn yt (nI ga) ym (fun c => nI (pl c)) (fun c => nI (cf c)) (fun c => nI (ct c)) aK eB eE eA eL eN eC eS eW eT) := hD
  rcases hw with ⟨hr9, -⟩ | ⟨hr9, hno9⟩
  · subst hr9
    refine lv_if_eq (tgt := 22) hx hb d_X_graphs_8 (by decide) (fun c9 => absurd c9 (by decide +kernel)) (fun _ => ?_)
    refine lv_aload_n hx hb d_X_graphs_11 rfl (lv_at hl 0 rfl) ?_
    refine va_get (D := (dC, dI)) (ci := 4) (v := .ref (h 1)) (C := R_X) (T := F_X) (N := 3) hx hb hk k_f_X hown hK hP 0 rfl rfl 0 (by decide) (hk _ k_C_67) (fun _ h9 => h9) rfl d_X_graphs_12 ?_
    refine lv_iload_n hx hb d_X_graphs_15 rfl (lv_at hl 2 rfl) ?_
    have hFc := va_free (wc := wC h cI (nI nF) (nI nC) yn yt (nI ga) ym (fun c => nI (pl c)) (fun c => nI (cf c)) (fun c => nI (ct c)) aK eB eE eA eL eN eC eS eW eT) hD hS hA [0, 1, 2, 3, 4, 5, 6, 7, 8, 9, 10, 11, 12, 13, 14, 15, 16] rfl
    refine va_calli (va_runV (As := [.int (nI j1)]) (rest := []) ⟨hx, hb, hml, hown, hk⟩ (c_P_hasFunction_ok l dC dI cI h H.size yn yt (nI ga) ym aK eB eE eA eL eN eC eS eW eT nF nC pl cf ct (nI j1) (by omega)) (cwV 1 hk g_X_53 rfl rfl rfl (by decide +kernel) ⟨Nat.le_of_ble_eq_true rfl, Nat.le_of_ble_eq_true rfl⟩) ⟨fun a U g mk q => by obtain ⟨q0, q1, qP, qK, qD⟩ := q; exact ⟨q0, q1, qP, va_K.moved (u := U) (U := U.calling g mk a) (Vm.Alike.refl U.vm) qK, qD⟩, va_recv hK hP (ci := 1) (q0 := 1) rfl rfl, fun U hU hW => ⟨rfl, by rw [hU], by rw [hU]; exact hP, va_K.moved hW.alike hK, hD.weaken (fun _ _ _ _ => trivial)⟩⟩ rfl rfl hl.1 rfl (lv_room (Nat.le_of_ble_eq_true rfl)) d_X_graphs_16 ⟨Nat.le_of_ble_eq_true rfl, Nat.le_of_ble_eq_true rfl⟩) hS (fun q _ h => hFc q h) hFc (fun r2 u9 t H1 locs ht hvm hw hB hz1 hk1 hS => ?_)
    obtain ⟨hP1, hK1, hD1⟩ := hB
    rw [ht] at hP1
    try dsimp only at hw
    obtain ⟨hP, hD⟩ := va_join (wr := []) (w1 := wC h cI (nI nF) (nI nC) yn yt (nI ga) ym (fun c => nI (pl c)) (fun c => nI (cf c)) (fun c => nI (ct c)) aK eB eE eA eL eN eC eS eW eT) hP hD [0, 1, 2, 3, 4, 5, 6, 7, 8, 9, 10, 11, 12, 13, 14, 15, 16] [] rfl rfl (by decide) (by decide) hk1 hFc hP1 hD1
    generalize H1 = H at hP hS ⊢
    have hP : va_P (dC, dI) kls (wC h cI (nI nF) (nI nC) yn yt (nI ga) ym (fun c => nI (pl c)) (fun c => nI (cf c)) (fun c => nI (ct c)) aK eB eE eA eL eN eC eS eW eT) H := hP
    have hD : va_D A (wC h cI (nI nF) (nI nC) yn yt (nI ga) ym (fun c => nI (pl c)) (fun c => nI (cf c)) (fun c => nI (ct c)) aK eB eE eA eL eN eC eS eW eT) := hD
    rcases hw with ⟨hr9, -⟩ | ⟨hr9, hno9⟩
    · subst hr9
      refine lv_if_ne (tgt := 24) hx hb d_X_graphs_19 (by decide) (fun _ => ?_) (fun c9 => absurd c9 (by decide +kernel))
      refine lv_aload_n hx hb d_X_graphs_24 rfl (lv_at hl 0 rfl) ?_
      have hFc := va_free (wc := wC h cI (nI nF) (nI nC) yn yt (nI ga) ym (fun c => nI (pl c)) (fun c => nI (cf c)) (fun c => nI (ct c)) aK eB eE eA eL eN eC eS eW eT) hD hS hA [0, 1, 2, 3, 4, 5, 6, 7, 8, 9, 10, 11, 12, 13, 14, 15, 16] rfl
      refine va_callv (va_runV (As := []) (rest := []) ⟨hx, hb, hml, hown, hk⟩ (c_X_needClosure_ok l dC dI cI h H.size yn yt ym aK eB eE eA eL eN eC eS eW eT nF nC pl cf ct K ga (hF) (hC) (hS0) (hpl) (hK8) (hcl) (hga) (hfew)) (cwV 0 hk g_X_84 rfl rfl rfl (by decide +kernel) ⟨Nat.le_of_ble_eq_true rfl, Nat.le_of_ble_eq_true rfl⟩) ⟨fun a U g mk q => by obtain ⟨q0, q1, qP, qK, qD⟩ := q; exact ⟨q0, q1, qP, va_K.moved (u := U) (U := U.calling g mk a) (Vm.Alike.refl U.vm) qK, qD⟩, va_recv hK hP (ci := 4) (q0 := 0) rfl rfl, fun U hU hW => ⟨rfl, by rw [hU], by rw [hU]; exact hP, va_K.moved hW.alike hK, hD.weaken (fun _ _ _ _ => trivial)⟩⟩ rfl rfl hl.1 rfl (lv_room (Nat.le_of_ble_eq_true rfl)) d_X_graphs_25 ⟨Nat.le_of_ble_eq_true rfl, Nat.le_of_ble_eq_true rfl⟩) hS (fun q _ h => hFc q h) hFc (fun u9 t H1 locs ht hvm hw hB hz1 hk1 hS => ?_)
      obtain ⟨yn9, yt9, yg9, eB9, eE9, eA9, eL9, eN9, eC9, eS9, eW9⟩ := u9
      obtain ⟨hP1, hK1, hD1⟩ := hB
      rw [ht] at hP1
      try dsimp only at hw
      obtain ⟨hP, hD⟩ := va_join (wr := []) (w1 := wC h cI (nI nF) (nI nC) yn9 yt9 yg9 ym (fun c => nI (pl c)) (fun c => nI (cf c)) (fun c => nI (ct c)) aK eB9 eE9 eA9 eL9 eN9 eC9 eS9 eW9 eT) hP hD [0, 1, 2, 3, 4, 5, 6, 7, 8, 9, 10, 11, 12, 13, 14, 15, 16] [] rfl rfl (by decide) (by decide) hk1 hFc hP1 hD1
      generalize H1 = H at hP hS ⊢
      have hP : va_P (dC, dI) kls (wC h cI (nI nF) (nI nC) yn9 yt9 yg9 ym (fun c => nI (pl c)) (fun c => nI (cf c)) (fun c => nI (ct c)) aK eB9 eE9 eA9 eL9 eN9 eC9 eS9 eW9 eT) H := hP
      have hD : va_D A (wC h cI (nI nF) (nI nC) yn9 yt9 yg9 ym (fun c => nI (pl c)) (fun c => nI (cf c)) (fun c => nI (ct c)) aK eB9 eE9 eA9 eL9 eN9 eC9 eS9 eW9 eT) := hD
      obtain ⟨ht0, hg1, hgo⟩ := hw
      subst ht0
      subst hg1
      have hgo2 := hgo
      obtain ⟨hle8, hyn, hrw, hsm, hclr, hold⟩ := hgo
      subst hyn
      have hln := RSf_len nC cf ct aK K nF
      have hmo := gN_mono nC cf ct aK cj K (show i1 + 1 ≤ nF by omega)
      have hgs : gN nC cf ct aK cj K (i1 + 1) = gN nC cf ct aK cj K i1 + (gF nC cf ct aK cj K i1).length := rfl
      have hsg := g_sg nC cf ct aK K hrw hi1
      have hsmL := g_sm nC cf ct aK K hsm hi1
      refine lv_aload_n hx hb d_X_graphs_28 rfl (lv_at hl 0 rfl) ?_
      refine va_get (D := (dC, dI)) (ci := 4) (v := .ref (h 6)) (C := R_X) (T := F_X) (N := 3) hx hb hk k_f_X hown hK hP 0 rfl rfl 1 (by decide) (hk _ k_C_68) (fun _ h9 => h9) rfl d_X_graphs_29 ?_
      refine lv_iload_n hx hb d_X_graphs_32 rfl (lv_at hl 1 rfl) ?_
      refine lv_iload_n hx hb d_X_graphs_33 rfl (lv_at hl 2 rfl) ?_
      have hFc := va_free (wc := wC h cI (nI nF) (nI nC) (nI ((RSf nC cf ct aK K nF).length)) (nI 0) (nI 1) ym (fun c => nI (pl c)) (fun c => nI (cf c)) (fun c => nI (ct c)) aK eB9 eE9 eA9 eL9 eN9 eC9 eS9 eW9 eT) hD hS hA [0, 1, 2, 3, 4, 5, 6, 7, 8, 9, 10, 11, 12, 13, 14, 15, 16] rfl
      refine va_calli (va_runV (As := [.int (nI i1), .int (nI j1)]) (rest := []) ⟨hx, hb, hml, hown, hk⟩ (c_C_countGraphs_ok l dC dI cI h H.size (nI nF) (nI nC) (nI ((RSf nC cf ct aK K nF).length)) (nI 0) (nI 1) ym (fun c => nI (pl c)) (fun c => nI (cf c)) (fun c => nI (ct c)) aK eB9 eE9 eA9 eL9 eN9 eC9 eS9 eW9 eT (gF nC cf ct aK cj K i1) i1 j1 (gN nC cf ct aK cj K i1) (by omega) (by omega) ((hold i1 hi1).1) ((hold i1 hi1).2.1) (by omega) (hsg) (hsmL)) (cwV 2 hk g_X_87 rfl rfl rfl (by decide +kernel) ⟨Nat.le_of_ble_eq_true rfl, Nat.le_of_ble_eq_true rfl⟩) ⟨fun a U g mk q => by obtain ⟨q0, q1, qP, qK, qD⟩ := q; exact ⟨q0, q1, qP, va_K.moved (u := U) (U := U.calling g mk a) (Vm.Alike.refl U.vm) qK, qD⟩, va_recv hK hP (ci := 2) (q0 := 6) rfl rfl, fun U hU hW => ⟨rfl, by rw [hU], by rw [hU]; exact hP, va_K.moved hW.alike hK, hD.weaken (fun _ _ _ _ => trivial)⟩⟩ rfl rfl hl.1 rfl (lv_room (Nat.le_of_ble_eq_true rfl)) d_X_graphs_34 ⟨Nat.le_of_ble_eq_true rfl, Nat.le_of_ble_eq_true rfl⟩) hS (fun q _ h => hFc q h) hFc (fun r4 u9 t H1 locs ht hvm hw hB hz1 hk1 hS => ?_)
      obtain ⟨hP1, hK1, hD1⟩ := hB
      rw [ht] at hP1
      try dsimp only at hw
      obtain ⟨hP, hD⟩ := va_join (wr := []) (w1 := wC h cI (nI nF) (nI nC) (nI ((RSf nC cf ct aK K nF).length)) (nI 0) (nI 1) ym (fun c => nI (pl c)) (fun c => nI (cf c)) (fun c => nI (ct c)) aK eB9 eE9 eA9 eL9 eN9 eC9 eS9 eW9 eT) hP hD [0, 1, 2, 3, 4, 5, 6, 7, 8, 9, 10, 11, 12, 13, 14, 15, 16] [] rfl rfl (by decide) (by decide) hk1 hFc hP1 hD1
      generalize H1 = H at hP hS ⊢
      have hP : va_P (dC, dI) kls (wC h cI (nI nF) (nI nC) (nI ((RSf nC cf ct aK K nF).length)) (nI 0) (nI 1) ym (fun c => nI (pl c)) (fun c => nI (cf c)) (fun c => nI (ct c)) aK eB9 eE9 eA9 eL9 eN9 eC9 eS9 eW9 eT) H := hP
      have hD : va_D A (wC h cI (nI nF) (nI nC) (nI ((RSf nC cf ct aK K nF).length)) (nI 0) (nI 1) ym (fun c => nI (pl c)) (fun c => nI (cf c)) (fun c => nI (ct c)) aK eB9 eE9 eA9 eL9 eN9 eC9 eS9 eW9 eT) := hD
      subst hw
      exact W.iret (v := nI ((bitsL (gF nC cf ct aK cj K i1) j1).length)) hx hb hr (fun t ht hW => ⟨⟨nI ((bitsL (gF nC cf ct aK cj K i1) j1).length), (nI (RSf nC cf ct aK K nF).length, nI 0, nI 1, eB9, eE9, eA9, eL9, eN9, eC9, eS9, eW9), rfl, ⟨rfl, rfl, hgo2, rfl⟩, by rw [ht]; exact hP, va_K.moved hW.alike hK, hD⟩, hS.F ht⟩) hS.2.2 d_X_graphs_37
    · exact absurd ⟨j1, by omega, rfl⟩ hno9
  · exact absurd ⟨i1, by omega, rfl⟩ hno9
set_option maxHeartbeats 4000000 in
set_option maxRecDepth 100000 in
theorem c_X_graphs_no (l : Launch) (dC : Nat → ClassId) (dI : Nat → Nat → Nat) (cI : ClassId) (h : Nat → Nat) (sz : Nat) (yn yt yg ym : Int32) (aK eB eE eA eL eN eC eS eW eT : Nat → Int32) (nF nC : Nat) (pl cf ct : Nat → Nat) (f g : Int32) (hF : nF ≤ 10) (hno : ¬ ((∃ i, i < nF ∧ f = nI i) ∧ (∃ j, j < nF ∧ g = nI j))) : Met l y_X_graphs w_X_graphs ({ frames := 1, cells := 0, slots := 0, locals := 21 }) (va_Pc [.ref (h 0), .int f, .int g] (fun U => U.heap.size = sz ∧ va_P (dC, dI) kls (wC h cI (nI nF) (nI nC) yn yt yg ym (fun c => nI (pl c)) (fun c => nI (cf c)) (fun c => nI (ct c)) aK eB eE eA eL eN eC eS eW eT) U.heap ∧ va_K (dC, dI) kls (tyC cI) U ∧ va_D (fun _ => True) (wC h cI (nI nF) (nI nC) yn yt yg ym (fun c => nI (pl c)) (fun c => nI (cf c)) (fun c => nI (ct c)) aK eB eE eA eL eN eC eS eW eT))) (va_Qi (fun (r : Int32) (u : Unit) => r = -1) (fun (u : Unit) (t : State) => va_P (dC, dI) kls (wC h cI (nI nF) (nI nC) yn yt yg ym (fun c => nI (pl c)) (fun c => nI (cf c)) (fun c => nI (ct c)) aK eB eE eA eL eN eC eS eW eT) t.heap ∧ va_K (dC, dI) kls (tyC cI) t ∧ va_D (va_A (wC h cI (nI nF) (nI nC) yn yt yg ym (fun c => nI (pl c)) (fun c => nI (cf c)) (fun c => nI (ct c)) aK eB eE eA eL eN eC eS eW eT) sz) (wC h cI (nI nF) (nI nC) yn yt yg ym (fun c => nI (pl c)) (fun c => nI (cf c)) (fun c => nI (ct c)) aK eB eE eA eL eN eC eS eW eT)) (va_A (wC h cI (nI nF) (nI nC) yn yt yg ym (fun c => nI (pl c)) (fun c => nI (cf c)) (fun c => nI (ct c)) aK eB eE eA eL eN eC eS eW eT) sz)) 0 0 (va_A (wC h cI (nI nF) (nI nC) yn yt yg ym (fun c => nI (pl c)) (fun c => nI (cf c)) (fun c => nI (ct c)) aK eB eE eA eL eN eC eS eW eT) sz) := by
  refine Met.ofW (cc := c_X_graphs) (maxL := 3) (ret := (some .int)) (by decide) rfl ?_
  intro p e s m args below meth c s₁ B hml hv
  obtain ⟨rfl, hsz, hP, hK, hD0⟩ := hv
  have hx := B.exec
  have hb := B.bytes
  have hr := B.returns
  have hts := atoms_spec (ws := w_X_graphs) B.pre
  have hk : ∀ w ∈ wCw, w.before _ s = true := fun w h => hts w (List.mem_cons_of_mem _ h)
  have hown : s.vm.findClass R_X = some m.cls := findClass_of_methodNamed B.named
  have hlocks := B.notSynchronized
  subst hsz
  have hD := hD0.self (sz := s.heap.size)
  generalize hAe : va_A (wC h cI (nI nF) (nI nC) yn yt yg ym (fun c => nI (pl c)) (fun c => nI (cf c)) (fun c => nI (ct c)) aK eB eE eA eL eN eC eS eW eT) s.heap.size = A at hD ⊢
  have hA : ∀ q : Nat, s.heap.size ≤ q → A q := fun q h => by rw [← hAe]; exact Or.inr h
  have hS : va_S A s.heap s.heap [] := va_S.rf
  have hl := lv_entry ([.ref (h 0), .int f, .int g]) (n := 3) (Nat.le_of_ble_eq_true rfl)
  rw [lg_entry_eq]
  generalize (lg_sl ([.ref (h 0), .int f, .int g]) ++ List.replicate (3 - (lg_sl ([.ref (h 0), .int f, .int g])).length) Slot.unset).toArray = ls at hl ⊢
  have hl : lv_has ls 3 [(0, .ref (h 0)), (1, .int f), (2, .int g)] := hl
  refine lv_aload_n hx hb d_X_graphs_0 rfl (lv_at hl 0 rfl) ?_
  refine va_get (D := (dC, dI)) (ci := 4) (v := .ref (h 1)) (C := R_X) (T := F_X) (N := 3) hx hb hk k_f_X hown hK hP 0 rfl rfl 0 (by decide) (hk _ k_C_67) (fun _ h9 => h9) rfl d_X_graphs_1 ?_
  refine lv_iload_n hx hb d_X_graphs_4 rfl (lv_at hl 1 rfl) ?_
  have hFc := va_free (wc := wC h cI (nI nF) (nI nC) yn yt yg ym (fun c => nI (pl c)) (fun c => nI (cf c)) (fun c => nI (ct c)) aK eB eE eA eL eN eC eS eW eT) hD hS hA [0, 1, 2, 3, 4, 5, 6, 7, 8, 9, 10, 11, 12, 13, 14, 15, 16] rfl
  refine va_calli (va_runV (As := [.int f]) (rest := []) ⟨hx, hb, hml, hown, hk⟩ (c_P_hasFunction_ok l dC dI cI h s.heap.size yn yt yg ym aK eB eE eA eL eN eC eS eW eT nF nC pl cf ct f (by omega)) (cwV 1 hk g_X_53 rfl rfl rfl (by decide +kernel) ⟨Nat.le_of_ble_eq_true rfl, Nat.le_of_ble_eq_true rfl⟩) ⟨fun a U g mk q => by obtain ⟨q0, q1, qP, qK, qD⟩ := q; exact ⟨q0, q1, qP, va_K.moved (u := U) (U := U.calling g mk a) (Vm.Alike.refl U.vm) qK, qD⟩, va_recv hK hP (ci := 1) (q0 := 1) rfl rfl, fun U hU hW => ⟨rfl, by rw [hU], by rw [hU]; exact hP, va_K.moved hW.alike hK, hD.weaken (fun _ _ _ _ => trivial)⟩⟩ rfl rfl hl.1 rfl (lv_room (Nat.le_of_ble_eq_true rfl)) d_X_graphs_5 ⟨Nat.le_of_ble_eq_true rfl, Nat.le_of_ble_eq_true rfl⟩) hS (fun q _ h => hFc q h) hFc (fun r1 u9 t H1 locs ht hvm hw hB hz1 hk1 hS => ?_)
  obtain ⟨hP1, hK1, hD1⟩ := hB
  rw [ht] at hP1
  try dsimp only at hw
  obtain ⟨hP, hD⟩ := va_join (wr := []) (w1 := wC h cI (nI nF) (nI nC) yn yt yg ym (fun c => nI (pl c)) (fun c => nI (cf c)) (fun c => nI (ct c)) aK eB eE eA eL eN eC eS eW eT) hP hD [0, 1, 2, 3, 4, 5, 6, 7, 8, 9, 10, 11, 12, 13, 14, 15, 16] [] rfl rfl (by decide) (by decide) hk1 hFc hP1 hD1
  generalize H1 = H at hP hS ⊢
  have hP : va_P (dC, dI) kls (wC h cI (nI nF) (nI nC) yn yt yg ym (fun c => nI (pl c)) (fun c => nI (cf c)) (fun c => nI (ct c)) aK eB eE eA eL eN eC eS eW eT) H := hP
  have hD : va_D A (wC h cI (nI nF) (nI nC) yn yt yg ym (fun c => nI (pl c)) (fun c => nI (cf c)) (fun c => nI (ct c)) aK eB eE eA eL eN eC eS eW eT) := hD
  rcases hw with ⟨hr9, i1, hi1, hfj⟩ | ⟨hr9, hno_f⟩
  · subst hr9
    subst hfj
    refine lv_if_eq (tgt := 22) hx hb d_X_graphs_8 (by decide) (fun c9 => absurd c9 (by decide +kernel)) (fun _ => ?_)
    refine lv_aload_n hx hb d_X_graphs_11 rfl (lv_at hl 0 rfl) ?_
    refine va_get (D := (dC, dI)) (ci := 4) (v := .ref (h 1)) (C := R_X) (T := F_X) (N := 3) hx hb hk k_f_X hown hK hP 0 rfl rfl 0 (by decide) (hk _ k_C_67) (fun _ h9 => h9) rfl d_X_graphs_12 ?_
    refine lv_iload_n hx hb d_X_graphs_15 rfl (lv_at hl 2 rfl) ?_
    have hFc := va_free (wc := wC h cI (nI nF) (nI nC) yn yt yg ym (fun c => nI (pl c)) (fun c => nI (cf c)) (fun c => nI (ct c)) aK eB eE eA eL eN eC eS eW eT) hD hS hA [0, 1, 2, 3, 4, 5, 6, 7, 8, 9, 10, 11, 12, 13, 14, 15, 16] rfl
    refine va_calli (va_runV (As := [.int g]) (rest := []) ⟨hx, hb, hml, hown, hk⟩ (c_P_hasFunction_ok l dC dI cI h H.size yn yt yg ym aK eB eE eA eL eN eC eS eW eT nF nC pl cf ct g (by omega)) (cwV 1 hk g_X_53 rfl rfl rfl (by decide +kernel) ⟨Nat.le_of_ble_eq_true rfl, Nat.le_of_ble_eq_true rfl⟩) ⟨fun a U g mk q => by obtain ⟨q0, q1, qP, qK, qD⟩ := q; exact ⟨q0, q1, qP, va_K.moved (u := U) (U := U.calling g mk a) (Vm.Alike.refl U.vm) qK, qD⟩, va_recv hK hP (ci := 1) (q0 := 1) rfl rfl, fun U hU hW => ⟨rfl, by rw [hU], by rw [hU]; exact hP, va_K.moved hW.alike hK, hD.weaken (fun _ _ _ _ => trivial)⟩⟩ rfl rfl hl.1 rfl (lv_room (Nat.le_of_ble_eq_true rfl)) d_X_graphs_16 ⟨Nat.le_of_ble_eq_true rfl, Nat.le_of_ble_eq_true rfl⟩) hS (fun q _ h => hFc q h) hFc (fun r2 u9 t H1 locs ht hvm hw hB hz1 hk1 hS => ?_)
    obtain ⟨hP1, hK1, hD1⟩ := hB
    rw [ht] at hP1
    try dsimp only at hw
    obtain ⟨hP, hD⟩ := va_join (wr := []) (w1 := wC h cI (nI nF) (nI nC) yn yt yg ym (fun c => nI (pl c)) (fun c => nI (cf c)) (fun c => nI (ct c)) aK eB eE eA eL eN eC eS eW eT) hP hD [0, 1, 2, 3, 4, 5, 6, 7, 8, 9, 10, 11, 12, 13, 14, 15, 16] [] rfl rfl (by decide) (by decide) hk1 hFc hP1 hD1
    generalize H1 = H at hP hS ⊢
    have hP : va_P (dC, dI) kls (wC h cI (nI nF) (nI nC) yn yt yg ym (fun c => nI (pl c)) (fun c => nI (cf c)) (fun c => nI (ct c)) aK eB eE eA eL eN eC eS eW eT) H := hP
    have hD : va_D A (wC h cI (nI nF) (nI nC) yn yt yg ym (fun c => nI (pl c)) (fun c => nI (cf c)) (fun c => nI (ct c)) aK eB eE eA eL eN eC eS eW eT) := hD
    rcases hw with ⟨hr9, j1, hj1, hfj⟩ | ⟨hr9, hno_g⟩
    · subst hr9
      subst hfj
      refine lv_if_ne (tgt := 24) hx hb d_X_graphs_19 (by decide) (fun _ => ?_) (fun c9 => absurd c9 (by decide +kernel))
      exact absurd ⟨⟨i1, hi1, rfl⟩, ⟨j1, hj1, rfl⟩⟩ hno
    · subst hr9
      refine lv_if_ne (tgt := 24) hx hb d_X_graphs_19 (by decide) (fun c9 => absurd c9 (by decide +kernel)) (fun _ => ?_)
      refine lv_iconst (v := (-1)) hx hb d_X_graphs_22 (by decide +kernel) ?_
      exact W.iret (v := (-1)) hx hb hr (fun t ht hW => ⟨⟨(-1), (), rfl, rfl, by rw [ht]; exact hP, va_K.moved hW.alike hK, hD⟩, hS.F ht⟩) hS.2.2 d_X_graphs_23
  · subst hr9
    refine lv_if_eq (tgt := 22) hx hb d_X_graphs_8 (by decide) (fun _ => ?_) (fun c9 => absurd c9 (by decide +kernel))
    refine lv_iconst (v := (-1)) hx hb d_X_graphs_22 (by decide +kernel) ?_
    exact W.iret (v := (-1)) hx hb hr (fun t ht hW => ⟨⟨(-1), (), rfl, rfl, by rw [ht]; exact hP, va_K.moved hW.alike hK, hD⟩, hS.F ht⟩) hS.2.2 d_X_graphs_23
set_option maxHeartbeats 4000000 in
set_option maxRecDepth 100000 in
theorem c_X_graph_ok (l : Launch) (dC : Nat → ClassId) (dI : Nat → Nat → Nat) (cI : ClassId) (h : Nat → Nat) (sz : Nat) (yn yt ym : Int32) (aK eB eE eA eL eN eC eS eW eT : Nat → Int32) (nF nC : Nat) (pl cf ct : Nat → Nat) (K ga : Nat) (i1 j1 k1 : Nat) (hF : nF ≤ 10) (hC : nC ≤ 20) (hS0 : ∀ c, c < nC → cf c < nF ∧ ct c < nF) (hpl : ∀ i, i < nF → 1 ≤ pl i ∧ pl i ≤ 4) (hK8 : 801 ≤ K) (hcl : ∀ c, c < nC → clN (aK c)) (hga : ga = 0 ∨ (ga = 1 ∧ GI nC cf ct aK K nF yn yt eB eE eA eL eS eW)) (hfew : gN nC cf ct aK cj K nF ≤ 800) (hi1 : i1 < nF) (hj1 : j1 < nF) (hkq : k1 < (bitsL (gF nC cf ct aK cj K i1) j1).length) : Met l y_X_graph w_X_graph ({ frames := 6, cells := 0, slots := 0, locals := 137 }) (va_Pc [.ref (h 0), .int (nI i1), .int (nI j1), .int (nI k1)] (fun U => U.heap.size = sz ∧ va_P (dC, dI) kls (wC h cI (nI nF) (nI nC) yn yt (nI ga) ym (fun c => nI (pl c)) (fun c => nI (cf c)) (fun c => nI (ct c)) aK eB eE eA eL eN eC eS eW eT) U.heap ∧ va_K (dC, dI) kls (tyC cI) U ∧ va_D (fun _ => True) (wC h cI (nI nF) (nI nC) yn yt (nI ga) ym (fun c => nI (pl c)) (fun c => nI (cf c)) (fun c => nI (ct c)) aK eB eE eA eL eN eC eS eW eT))) (va_Qi (fun (r : Int32) (u : Int32 × Int32 × Int32 × (Nat → Int32) × (Nat → Int32) × (Nat → Int32) × (Nat → Int32) × (Nat → Int32) × (Nat → Int32) × (Nat → Int32) × (Nat → Int32)) => u.2.1 = nI 0 ∧ u.2.2.1 = nI 1 ∧ gOk nC cf ct aK K nF u.1 u.2.2.2.1 u.2.2.2.2.1 u.2.2.2.2.2.1 u.2.2.2.2.2.2.1 u.2.2.2.2.2.2.2.2.2.1 u.2.2.2.2.2.2.2.2.2.2 ∧ ∃ F left, F < 2 ^ 32 ∧ r = nI F ∧ selOk (bitsL (gF nC cf ct aK cj K i1) j1) k1 0 F left) (fun (u : Int32 × Int32 × Int32 × (Nat → Int32) × (Nat → Int32) × (Nat → Int32) × (Nat → Int32) × (Nat → Int32) × (Nat → Int32) × (Nat → Int32) × (Nat → Int32)) (t : State) => va_P (dC, dI) kls (wC h cI (nI nF) (nI nC) u.1 u.2.1 u.2.2.1 ym (fun c => nI (pl c)) (fun c => nI (cf c)) (fun c => nI (ct c)) aK u.2.2.2.1 u.2.2.2.2.1 u.2.2.2.2.2.1 u.2.2.2.2.2.2.1 u.2.2.2.2.2.2.2.1 u.2.2.2.2.2.2.2.2.1 u.2.2.2.2.2.2.2.2.2.1 u.2.2.2.2.2.2.2.2.2.2 eT) t.heap ∧ va_K (dC, dI) kls (tyC cI) t ∧ va_D (va_A (wC h cI (nI nF) (nI nC) yn yt (nI ga) ym (fun c => nI (pl c)) (fun c => nI (cf c)) (fun c => nI (ct c)) aK eB eE eA eL eN eC eS eW eT) sz) (wC h cI (nI nF) (nI nC) u.1 u.2.1 u.2.2.1 ym (fun c => nI (pl c)) (fun c => nI (cf c)) (fun c => nI (ct c)) aK u.2.2.2.1 u.2.2.2.2.1 u.2.2.2.2.2.1 u.2.2.2.2.2.2.1 u.2.2.2.2.2.2.2.1 u.2.2.2.2.2.2.2.2.1 u.2.2.2.2.2.2.2.2.2.1 u.2.2.2.2.2.2.2.2.2.2 eT)) (va_A (wC h cI (nI nF) (nI nC) yn yt (nI ga) ym (fun c => nI (pl c)) (fun c => nI (cf c)) (fun c => nI (ct c)) aK eB eE eA eL eN eC eS eW eT) sz)) 0 0 (va_A (wC h cI (nI nF) (nI nC) yn yt (nI ga) ym (fun c => nI (pl c)) (fun c => nI (cf c)) (fun c => nI (ct c)) aK eB eE eA eL eN eC eS eW eT) sz) := by
  refine Met.ofW (cc := c_X_graph) (maxL := 4) (ret := (some .int)) (by decide) rfl ?_
  intro p e s m args below meth c s₁ B hml hv
  obtain ⟨rfl, hsz, hP, hK, hD0⟩ := hv
  have hx := B.exec
  have hb := B.bytes
  have hr := B.returns
  have hts := atoms_spec (ws := w_X_graph) B.pre
  have hk : ∀ w ∈ wCw, w.before _ s = true := fun w h => hts w (List.mem_cons_of_mem _ h)
  have hown : s.vm.findClass R_X = some m.cls := findClass_of_methodNamed B.named
  have hlocks := B.notSynchronized
  subst hsz
  have hD := hD0.self (sz := s.heap.size)
  generalize hAe : va_A (wC h cI (nI nF) (nI nC) yn yt (nI ga) ym (fun c => nI (pl c)) (fun c => nI (cf c)) (fun c => nI (ct c)) aK eB eE eA eL eN eC eS eW eT) s.heap.size = A at hD ⊢
  have hA : ∀ q : Nat, s.heap.size ≤ q → A q := fun q h => by rw [← hAe]; exact Or.inr h
  have hS : va_S A s.heap s.heap [] := va_S.rf
  have hl := lv_entry ([.ref (h 0), .int (nI i1), .int (nI j1), .int (nI k1)]) (n := 4) (Nat.le_of_ble_eq_true rfl)
  rw [lg_entry_eq]
  generalize (lg_sl ([.ref (h 0), .int (nI i1), .int (nI j1), .int (nI k1)]) ++ List.replicate (4 - (lg_sl ([.ref (h 0), .int (nI i1), .int (nI j1), .int (nI k1)])).length) Slot.unset).toArray = ls at hl ⊢
  have hl : lv_has ls 4 [(0, .ref (h 0)), (1, .int (nI i1)), (2, .int (nI j1)), (3, .int (nI k1))] := hl
  refine lv_aload_n hx hb d_X_graph_0 rfl (lv_at hl 0 rfl) ?_
  refine va_get (D := (dC, dI)) (ci := 4) (v := .ref (h 1)) (C := R_X) (T := F_X) (N := 3) hx hb hk k_f_X hown hK hP 0 rfl rfl 0 (by decide) (hk _ k_C_67) (fun _ h9 => h9) rfl d_X_graph_1 ?_
  refine lv_iload_n hx hb d_X_graph_4 rfl (lv_at hl 1 rfl) ?_
  have hFc := va_free (wc := wC h cI (nI nF) (nI nC) yn yt (nI ga) ym (fun c => nI (pl c)) (fun c => nI (cf c)) (fun c => nI (ct c)) aK eB eE eA eL eN eC eS eW eT) hD hS hA [0, 1, 2, 3, 4, 5, 6, 7, 8, 9, 10, 11, 12, 13, 14, 15, 16] rfl
  refine va_calli (va_runV (As := [.int (nI i1)]) (rest := []) ⟨hx, hb, hml, hown, hk⟩ (c_P_hasFunction_ok l dC dI cI h s.heap.size yn yt (nI ga) ym aK eB eE eA eL eN eC eS eW eT nF nC pl cf ct (nI i1) (by omega)) (cwV 1 hk g_X_53 rfl rfl rfl (by decide +kernel) ⟨Nat.le_of_ble_eq_true rfl, Nat.le_of_ble_eq_true rfl⟩) ⟨fun a U g mk q => by obtain ⟨q0, q1, qP, qK, qD⟩ := q; exact ⟨q0, q1, qP, va_K.moved (u := U) (U := U.calling g mk a) (Vm.Alike.refl U.vm) qK, qD⟩, va_recv hK hP (ci := 1) (q0 := 1) rfl rfl, fun U hU hW => ⟨rfl, by rw [hU], by rw [hU]; exact hP, va_K.moved hW.alike hK, hD.weaken (fun _ _ _ _ => trivial)⟩⟩ rfl rfl hl.1 rfl (lv_room (Nat.le_of_ble_eq_true rfl)) d_X_graph_5 ⟨Nat.le_of_ble_eq_true rfl, Nat.le_of_ble_eq_true rfl⟩) hS (fun q _ h => hFc q h) hFc (fun r1 u9 t H1 locs ht hvm hw hB hz1 hk1 hS => ?_)
  obtain ⟨hP1, hK1, hD1⟩ := hB
  rw [ht] at hP1
  try dsimp only at hw
  obtain ⟨hP, hD⟩ := va_join (wr := []) (w1 := wC h cI (nI nF) (nI nC) yn yt (nI ga) ym (fun c => nI (pl c)) (fun c => nI (cf c)) (fun c => nI (ct c)) aK eB eE eA eL eN eC eS eW eT) hP hD [0, 1, 2, 3, 4, 5, 6, 7, 8, 9, 10, 11, 12, 13, 14, 15, 16] [] rfl rfl (by decide) (by decide) hk1 hFc hP1 hD1
  generalize H1 = H at hP hS ⊢
  have hP : va_P (dC, dI) kls (wC h cI (nI nF) (nI nC) yn yt (nI ga) ym (fun c => nI (pl c)) (fun c => nI (cf c)) (fun c => nI (ct c)) aK eB eE eA eL eN eC eS eW eT) H := hP
  have hD : va_D A (wC h cI (nI nF) (nI nC) yn yt (nI ga) ym (fun c => nI (pl c)) (fun c => nI (cf c)) (fun c => nI (ct c)) aK eB eE eA eL eN eC eS eW eT) := hD
  rcases hw with ⟨hr9, -⟩ | ⟨hr9, hno9⟩
  · subst hr9
    refine lv_if_eq (tgt := 22) hx hb d_X_graph_8 (by decide) (fun c9 => absurd c9 (by decide +kernel)) (fun _ => ?_)
    refine lv_aload_n hx hb d_X_graph_11 rfl (lv_at hl 0 rfl) ?_
    refine va_get (D := (dC, dI)) (ci := 4) (v := .ref (h 1)) (C := R_X) (T := F_X) (N := 3) hx hb hk k_f_X hown hK hP 0 rfl rfl 0 (by decide) (hk _ k_C_67) (fun _ h9 => h9) rfl d_X_graph_12 ?_
    refine lv_iload_n hx hb d_X_graph_15 rfl (lv_at hl 2 rfl) ?_
    have hFc := va_free (wc := wC h cI (nI nF) (nI nC) yn yt (nI ga) ym (fun c => nI (pl c)) (fun c => nI (cf c)) (fun c => nI (ct c)) aK eB eE eA eL eN eC eS eW eT) hD hS hA [0, 1, 2, 3, 4, 5, 6, 7, 8, 9, 10, 11, 12, 13, 14, 15, 16] rfl
    refine va_calli (va_runV (As := [.int (nI j1)]) (rest := []) ⟨hx, hb, hml, hown, hk⟩ (c_P_hasFunction_ok l dC dI cI h H.size yn yt (nI ga) ym aK eB eE eA eL eN eC eS eW eT nF nC pl cf ct (nI j1) (by omega)) (cwV 1 hk g_X_53 rfl rfl rfl (by decide +kernel) ⟨Nat.le_of_ble_eq_true rfl, Nat.le_of_ble_eq_true rfl⟩) ⟨fun a U g mk q => by obtain ⟨q0, q1, qP, qK, qD⟩ := q; exact ⟨q0, q1, qP, va_K.moved (u := U) (U := U.calling g mk a) (Vm.Alike.refl U.vm) qK, qD⟩, va_recv hK hP (ci := 1) (q0 := 1) rfl rfl, fun U hU hW => ⟨rfl, by rw [hU], by rw [hU]; exact hP, va_K.moved hW.alike hK, hD.weaken (fun _ _ _ _ => trivial)⟩⟩ rfl rfl hl.1 rfl (lv_room (Nat.le_of_ble_eq_true rfl)) d_X_graph_16 ⟨Nat.le_of_ble_eq_true rfl, Nat.le_of_ble_eq_true rfl⟩) hS (fun q _ h => hFc q h) hFc (fun r2 u9 t H1 locs ht hvm hw hB hz1 hk1 hS => ?_)
    obtain ⟨hP1, hK1, hD1⟩ := hB
    rw [ht] at hP1
    try dsimp only at hw
    obtain ⟨hP, hD⟩ := va_join (wr := []) (w1 := wC h cI (nI nF) (nI nC) yn yt (nI ga) ym (fun c => nI (pl c)) (fun c => nI (cf c)) (fun c => nI (ct c)) aK eB eE eA eL eN eC eS eW eT) hP hD [0, 1, 2, 3, 4, 5, 6, 7, 8, 9, 10, 11, 12, 13, 14, 15, 16] [] rfl rfl (by decide) (by decide) hk1 hFc hP1 hD1
    generalize H1 = H at hP hS ⊢
    have hP : va_P (dC, dI) kls (wC h cI (nI nF) (nI nC) yn yt (nI ga) ym (fun c => nI (pl c)) (fun c => nI (cf c)) (fun c => nI (ct c)) aK eB eE eA eL eN eC eS eW eT) H := hP
    have hD : va_D A (wC h cI (nI nF) (nI nC) yn yt (nI ga) ym (fun c => nI (pl c)) (fun c => nI (cf c)) (fun c => nI (ct c)) aK eB eE eA eL eN eC eS eW eT) := hD
    rcases hw with ⟨hr9, -⟩ | ⟨hr9, hno9⟩
    · subst hr9
      refine lv_if_ne (tgt := 32) hx hb d_X_graph_19 (by decide) (fun _ => ?_) (fun c9 => absurd c9 (by decide +kernel))
      refine lv_aload_n hx hb d_X_graph_32 rfl (lv_at hl 0 rfl) ?_
      have hFc := va_free (wc := wC h cI (nI nF) (nI nC) yn yt (nI ga) ym (fun c => nI (pl c)) (fun c => nI (cf c)) (fun c => nI (ct c)) aK eB eE eA eL eN eC eS eW eT) hD hS hA [0, 1, 2, 3, 4, 5, 6, 7, 8, 9, 10, 11, 12, 13, 14, 15, 16] rfl
      refine va_callv (va_runV (As := []) (rest := []) ⟨hx, hb, hml, hown, hk⟩ (c_X_needClosure_ok l dC dI cI h H.size yn yt ym aK eB eE eA eL eN eC eS eW eT nF nC pl cf ct K ga (hF) (hC) (hS0) (hpl) (hK8) (hcl) (hga) (hfew)) (cwV 0 hk g_X_84 rfl rfl rfl (by decide +kernel) ⟨Nat.le_of_ble_eq_true rfl, Nat.le_of_ble_eq_true rfl⟩) ⟨fun a U g mk q => by obtain ⟨q0, q1, qP, qK, qD⟩ := q; exact ⟨q0, q1, qP, va_K.moved (u := U) (U := U.calling g mk a) (Vm.Alike.refl U.vm) qK, qD⟩, va_recv hK hP (ci := 4) (q0 := 0) rfl rfl, fun U hU hW => ⟨rfl, by rw [hU], by rw [hU]; exact hP, va_K.moved hW.alike hK, hD.weaken (fun _ _ _ _ => trivial)⟩⟩ rfl rfl hl.1 rfl (lv_room (Nat.le_of_ble_eq_true rfl)) d_X_graph_33 ⟨Nat.le_of_ble_eq_true rfl, Nat.le_of_ble_eq_true rfl⟩) hS (fun q _ h => hFc q h) hFc (fun u9 t H1 locs ht hvm hw hB hz1 hk1 hS => ?_)
      obtain ⟨yn9, yt9, yg9, eB9, eE9, eA9, eL9, eN9, eC9, eS9, eW9⟩ := u9
      obtain ⟨hP1, hK1, hD1⟩ := hB
      rw [ht] at hP1
      try dsimp only at hw
      obtain ⟨hP, hD⟩ := va_join (wr := []) (w1 := wC h cI (nI nF) (nI nC) yn9 yt9 yg9 ym (fun c => nI (pl c)) (fun c => nI (cf c)) (fun c => nI (ct c)) aK eB9 eE9 eA9 eL9 eN9 eC9 eS9 eW9 eT) hP hD [0, 1, 2, 3, 4, 5, 6, 7, 8, 9, 10, 11, 12, 13, 14, 15, 16] [] rfl rfl (by decide) (by decide) hk1 hFc hP1 hD1
      generalize H1 = H at hP hS ⊢
      have hP : va_P (dC, dI) kls (wC h cI (nI nF) (nI nC) yn9 yt9 yg9 ym (fun c => nI (pl c)) (fun c => nI (cf c)) (fun c => nI (ct c)) aK eB9 eE9 eA9 eL9 eN9 eC9 eS9 eW9 eT) H := hP
      have hD : va_D A (wC h cI (nI nF) (nI nC) yn9 yt9 yg9 ym (fun c => nI (pl c)) (fun c => nI (cf c)) (fun c => nI (ct c)) aK eB9 eE9 eA9 eL9 eN9 eC9 eS9 eW9 eT) := hD
      obtain ⟨ht0, hg1, hgo⟩ := hw
      subst ht0
      subst hg1
      have hgo2 := hgo
      obtain ⟨hle8, hyn, hrw, hsm, hclr, hold⟩ := hgo
      subst hyn
      have hln := RSf_len nC cf ct aK K nF
      have hmo := gN_mono nC cf ct aK cj K (show i1 + 1 ≤ nF by omega)
      have hgs : gN nC cf ct aK cj K (i1 + 1) = gN nC cf ct aK cj K i1 + (gF nC cf ct aK cj K i1).length := rfl
      have hsg := g_sg nC cf ct aK K hrw hi1
      have hsmL := g_sm nC cf ct aK K hsm hi1
      have hbl : (bitsL (gF nC cf ct aK cj K i1) j1).length ≤ (gF nC cf ct aK cj K i1).length := by unfold bitsL; rw [List.length_map]; exact List.length_filter_le _ _
      refine lv_iload_n hx hb d_X_graph_36 rfl (lv_at hl 3 rfl) ?_
      refine lv_if_lt (tgt := 53) hx hb d_X_graph_37 (by decide) (fun c_37 => ?_) (fun c_37 => ?_)
      · exact absurd c_37 (nI_pos (by omega))
      · have c_37 : ¬ k1 < 0 := fun z9 => c_37 ((nI_ltI (a := k1) (b := 0) (by omega) (by omega)).mpr z9)
        refine lv_iload_n hx hb d_X_graph_40 rfl (lv_at hl 3 rfl) ?_
        refine lv_aload_n hx hb d_X_graph_41 rfl (lv_at hl 0 rfl) ?_
        refine va_get (D := (dC, dI)) (ci := 4) (v := .ref (h 6)) (C := R_X) (T := F_X) (N := 3) hx hb hk k_f_X hown hK hP 0 rfl rfl 1 (by decide) (hk _ k_C_68) (fun _ h9 => h9) rfl d_X_graph_42 ?_
        refine lv_iload_n hx hb d_X_graph_45 rfl (lv_at hl 1 rfl) ?_
        refine lv_iload_n hx hb d_X_graph_46 rfl (lv_at hl 2 rfl) ?_
        have hFc := va_free (wc := wC h cI (nI nF) (nI nC) (nI ((RSf nC cf ct aK K nF).length)) (nI 0) (nI 1) ym (fun c => nI (pl c)) (fun c => nI (cf c)) (fun c => nI (ct c)) aK eB9 eE9 eA9 eL9 eN9 eC9 eS9 eW9 eT) hD hS hA [0, 1, 2, 3, 4, 5, 6, 7, 8, 9, 10, 11, 12, 13, 14, 15, 16] rfl
        refine va_calli (va_runV (As := [.int (nI i1), .int (nI j1)]) (rest := [.int (nI k1)]) ⟨hx, hb, hml, hown, hk⟩ (c_C_countGraphs_ok l dC dI cI h H.size (nI nF) (nI nC) (nI ((RSf nC cf ct aK K nF).length)) (nI 0) (nI 1) ym (fun c => nI (pl c)) (fun c => nI (cf c)) (fun c => nI (ct c)) aK eB9 eE9 eA9 eL9 eN9 eC9 eS9 eW9 eT (gF nC cf ct aK cj K i1) i1 j1 (gN nC cf ct aK cj K i1) (by omega) (by omega) ((hold i1 hi1).1) ((hold i1 hi1).2.1) (by omega) (hsg) (hsmL)) (cwV 2 hk g_X_87 rfl rfl rfl (by decide +kernel) ⟨Nat.le_of_ble_eq_true rfl, Nat.le_of_ble_eq_true rfl⟩) ⟨fun a U g mk q => by obtain ⟨q0, q1, qP, qK, qD⟩ := q; exact ⟨q0, q1, qP, va_K.moved (u := U) (U := U.calling g mk a) (Vm.Alike.refl U.vm) qK, qD⟩, va_recv hK hP (ci := 2) (q0 := 6) rfl rfl, fun U hU hW => ⟨rfl, by rw [hU], by rw [hU]; exact hP, va_K.moved hW.alike hK, hD.weaken (fun _ _ _ _ => trivial)⟩⟩ rfl rfl hl.1 rfl (lv_room (Nat.le_of_ble_eq_true rfl)) d_X_graph_47 ⟨Nat.le_of_ble_eq_true rfl, Nat.le_of_ble_eq_true rfl⟩) hS (fun q _ h => hFc q h) hFc (fun r4 u9 t H1 locs ht hvm hw hB hz1 hk1 hS => ?_)
        obtain ⟨hP1, hK1, hD1⟩ := hB
        rw [ht] at hP1
        try dsimp only at hw
        obtain ⟨hP, hD⟩ := va_join (wr := []) (w1 := wC h cI (nI nF) (nI nC) (nI ((RSf nC cf ct aK K nF).length)) (nI 0) (nI 1) ym (fun c => nI (pl c)) (fun c => nI (cf c)) (fun c => nI (ct c)) aK eB9 eE9 eA9 eL9 eN9 eC9 eS9 eW9 eT) hP hD [0, 1, 2, 3, 4, 5, 6, 7, 8, 9, 10, 11, 12, 13, 14, 15, 16] [] rfl rfl (by decide) (by decide) hk1 hFc hP1 hD1
        generalize H1 = H at hP hS ⊢
        have hP : va_P (dC, dI) kls (wC h cI (nI nF) (nI nC) (nI ((RSf nC cf ct aK K nF).length)) (nI 0) (nI 1) ym (fun c => nI (pl c)) (fun c => nI (cf c)) (fun c => nI (ct c)) aK eB9 eE9 eA9 eL9 eN9 eC9 eS9 eW9 eT) H := hP
        have hD : va_D A (wC h cI (nI nF) (nI nC) (nI ((RSf nC cf ct aK K nF).length)) (nI 0) (nI 1) ym (fun c => nI (pl c)) (fun c => nI (cf c)) (fun c => nI (ct c)) aK eB9 eE9 eA9 eL9 eN9 eC9 eS9 eW9 eT) := hD
        subst hw
        refine lv_icmp_lt (tgt := 63) hx hb d_X_graph_50 (by decide) (fun c_50 => ?_) (fun c_50 => ?_)
        · have c_50 : k1 < (bitsL (gF nC cf ct aK cj K i1) j1).length := (nI_ltI (a := k1) (b := (bitsL (gF nC cf ct aK cj K i1) j1).length) (by omega) (by omega)).mp c_50
          refine lv_aload_n hx hb d_X_graph_63 rfl (lv_at hl 0 rfl) ?_
          refine va_get (D := (dC, dI)) (ci := 4) (v := .ref (h 6)) (C := R_X) (T := F_X) (N := 3) hx hb hk k_f_X hown hK hP 0 rfl rfl 1 (by decide) (hk _ k_C_68) (fun _ h9 => h9) rfl d_X_graph_64 ?_
          refine lv_iload_n hx hb d_X_graph_67 rfl (lv_at hl 1 rfl) ?_
          refine lv_iload_n hx hb d_X_graph_68 rfl (lv_at hl 2 rfl) ?_
          refine lv_iload_n hx hb d_X_graph_69 rfl (lv_at hl 3 rfl) ?_
          have hFc := va_free (wc := wC h cI (nI nF) (nI nC) (nI ((RSf nC cf ct aK K nF).length)) (nI 0) (nI 1) ym (fun c => nI (pl c)) (fun c => nI (cf c)) (fun c => nI (ct c)) aK eB9 eE9 eA9 eL9 eN9 eC9 eS9 eW9 eT) hD hS hA [0, 1, 2, 3, 4, 5, 6, 7, 8, 9, 10, 11, 12, 13, 14, 15, 16] rfl
          refine va_calli (va_runV (As := [.int (nI i1), .int (nI j1), .int (nI k1)]) (rest := []) ⟨hx, hb, hml, hown, hk⟩ (c_C_graphInOrder_ok l dC dI cI h H.size (nI nF) (nI nC) (nI ((RSf nC cf ct aK K nF).length)) (nI 0) (nI 1) ym (fun c => nI (pl c)) (fun c => nI (cf c)) (fun c => nI (ct c)) aK eB9 eE9 eA9 eL9 eN9 eC9 eS9 eW9 eT (gF nC cf ct aK cj K i1) i1 j1 (gN nC cf ct aK cj K i1) k1 (by omega) (by omega) ((hold i1 hi1).1) ((hold i1 hi1).2.1) (by omega) (hsg) (hsmL) (hkq)) (cwV 3 hk g_X_93 rfl rfl rfl (by decide +kernel) ⟨Nat.le_of_ble_eq_true rfl, Nat.le_of_ble_eq_true rfl⟩) ⟨fun a U g mk q => by obtain ⟨q0, q1, qP, qK, qD⟩ := q; exact ⟨q0, q1, qP, va_K.moved (u := U) (U := U.calling g mk a) (Vm.Alike.refl U.vm) qK, qD⟩, va_recv hK hP (ci := 2) (q0 := 6) rfl rfl, fun U hU hW => ⟨rfl, by rw [hU], by rw [hU]; exact hP, va_K.moved hW.alike hK, hD.weaken (fun _ _ _ _ => trivial)⟩⟩ rfl rfl hl.1 rfl (lv_room (Nat.le_of_ble_eq_true rfl)) d_X_graph_70 ⟨Nat.le_of_ble_eq_true rfl, Nat.le_of_ble_eq_true rfl⟩) hS (fun q _ h => hFc q h) hFc (fun r5 u9 t H1 locs ht hvm hw hB hz1 hk1 hS => ?_)
          obtain ⟨hP1, hK1, hD1⟩ := hB
          rw [ht] at hP1
          try dsimp only at hw
          obtain ⟨hP, hD⟩ := va_join (wr := []) (w1 := wC h cI (nI nF) (nI nC) (nI ((RSf nC cf ct aK K nF).length)) (nI 0) (nI 1) ym (fun c => nI (pl c)) (fun c => nI (cf c)) (fun c => nI (ct c)) aK eB9 eE9 eA9 eL9 eN9 eC9 eS9 eW9 eT) hP hD [0, 1, 2, 3, 4, 5, 6, 7, 8, 9, 10, 11, 12, 13, 14, 15, 16] [] rfl rfl (by decide) (by decide) hk1 hFc hP1 hD1
          generalize H1 = H at hP hS ⊢
          have hP : va_P (dC, dI) kls (wC h cI (nI nF) (nI nC) (nI ((RSf nC cf ct aK K nF).length)) (nI 0) (nI 1) ym (fun c => nI (pl c)) (fun c => nI (cf c)) (fun c => nI (ct c)) aK eB9 eE9 eA9 eL9 eN9 eC9 eS9 eW9 eT) H := hP
          have hD : va_D A (wC h cI (nI nF) (nI nC) (nI ((RSf nC cf ct aK K nF).length)) (nI 0) (nI 1) ym (fun c => nI (pl c)) (fun c => nI (cf c)) (fun c => nI (ct c)) aK eB9 eE9 eA9 eL9 eN9 eC9 eS9 eW9 eT) := hD
          have hgr := hw
          exact W.iret (v := r5) hx hb hr (fun t ht hW => ⟨⟨r5, (nI (RSf nC cf ct aK K nF).length, nI 0, nI 1, eB9, eE9, eA9, eL9, eN9, eC9, eS9, eW9), rfl, ⟨rfl, rfl, hgo2, hgr⟩, by rw [ht]; exact hP, va_K.moved hW.alike hK, hD⟩, hS.F ht⟩) hS.2.2 d_X_graph_73
        · have c_50 : ¬ k1 < (bitsL (gF nC cf ct aK cj K i1) j1).length := fun z9 => c_50 ((nI_ltI (a := k1) (b := (bitsL (gF nC cf ct aK cj K i1) j1).length) (by omega) (by omega)).mpr z9)
          exfalso; omega
    · exact absurd ⟨j1, by omega, rfl⟩ hno9
  · exact absurd ⟨i1, by omega, rfl⟩ hno9
set_option maxHeartbeats 4000000 in
set_option maxRecDepth 100000 in
theorem c_X_falls_ok (l : Launch) (dC : Nat → ClassId) (dI : Nat → Nat → Nat) (cI : ClassId) (h : Nat → Nat) (sz : Nat) (yn yt ym : Int32) (aK eB eE eA eL eN eC eS eW eT : Nat → Int32) (nF nC : Nat) (pl cf ct : Nat → Nat) (K ga : Nat) (i1 : Nat) (hF : nF ≤ 10) (hC : nC ≤ 20) (hS0 : ∀ c, c < nC → cf c < nF ∧ ct c < nF) (hpl : ∀ i, i < nF → 1 ≤ pl i ∧ pl i ≤ 4) (hK8 : 801 ≤ K) (hcl : ∀ c, c < nC → clN (aK c)) (hga : ga = 0 ∨ (ga = 1 ∧ GI nC cf ct aK K nF yn yt eB eE eA eL eS eW)) (hfew : gN nC cf ct aK cj K nF ≤ 800) (hi1 : i1 < nF) : Met l y_X_falls w_X_falls ({ frames := 6, cells := 0, slots := 0, locals := 137 }) (va_Pc [.ref (h 0), .int (nI i1)] (fun U => U.heap.size = sz ∧ va_P (dC, dI) kls (wC h cI (nI nF) (nI nC) yn yt (nI ga) ym (fun c => nI (pl c)) (fun c => nI (cf c)) (fun c => nI (ct c)) aK eB eE eA eL eN eC eS eW eT) U.heap ∧ va_K (dC, dI) kls (tyC cI) U ∧ va_D (fun _ => True) (wC h cI (nI nF) (nI nC) yn yt (nI ga) ym (fun c => nI (pl c)) (fun c => nI (cf c)) (fun c => nI (ct c)) aK eB eE eA eL eN eC eS eW eT))) (va_Qi (fun (r : Int32) (u : Int32 × Int32 × Int32 × (Nat → Int32) × (Nat → Int32) × (Nat → Int32) × (Nat → Int32) × (Nat → Int32) × (Nat → Int32) × (Nat → Int32) × (Nat → Int32)) => u.2.1 = nI 0 ∧ u.2.2.1 = nI 1 ∧ gOk nC cf ct aK K nF u.1 u.2.2.2.1 u.2.2.2.2.1 u.2.2.2.2.2.1 u.2.2.2.2.2.2.1 u.2.2.2.2.2.2.2.2.2.1 u.2.2.2.2.2.2.2.2.2.2 ∧ ((r = nI 1 ∧ fbO nC cf ct aK K i1 none) ∨ (r = nI 0 ∧ ∃ j, fbO nC cf ct aK K i1 (some j)))) (fun (u : Int32 × Int32 × Int32 × (Nat → Int32) × (Nat → Int32) × (Nat → Int32) × (Nat → Int32) × (Nat → Int32) × (Nat → Int32) × (Nat → Int32) × (Nat → Int32)) (t : State) => va_P (dC, dI) kls (wC h cI (nI nF) (nI nC) u.1 u.2.1 u.2.2.1 ym (fun c => nI (pl c)) (fun c => nI (cf c)) (fun c => nI (ct c)) aK u.2.2.2.1 u.2.2.2.2.1 u.2.2.2.2.2.1 u.2.2.2.2.2.2.1 u.2.2.2.2.2.2.2.1 u.2.2.2.2.2.2.2.2.1 u.2.2.2.2.2.2.2.2.2.1 u.2.2.2.2.2.2.2.2.2.2 eT) t.heap ∧ va_K (dC, dI) kls (tyC cI) t ∧ va_D (va_A (wC h cI (nI nF) (nI nC) yn yt (nI ga) ym (fun c => nI (pl c)) (fun c => nI (cf c)) (fun c => nI (ct c)) aK eB eE eA eL eN eC eS eW eT) sz) (wC h cI (nI nF) (nI nC) u.1 u.2.1 u.2.2.1 ym (fun c => nI (pl c)) (fun c => nI (cf c)) (fun c => nI (ct c)) aK u.2.2.2.1 u.2.2.2.2.1 u.2.2.2.2.2.1 u.2.2.2.2.2.2.1 u.2.2.2.2.2.2.2.1 u.2.2.2.2.2.2.2.2.1 u.2.2.2.2.2.2.2.2.2.1 u.2.2.2.2.2.2.2.2.2.2 eT)) (va_A (wC h cI (nI nF) (nI nC) yn yt (nI ga) ym (fun c => nI (pl c)) (fun c => nI (cf c)) (fun c => nI (ct c)) aK eB eE eA eL eN eC eS eW eT) sz)) 0 0 (va_A (wC h cI (nI nF) (nI nC) yn yt (nI ga) ym (fun c => nI (pl c)) (fun c => nI (cf c)) (fun c => nI (ct c)) aK eB eE eA eL eN eC eS eW eT) sz) := by
  refine Met.ofW (cc := c_X_falls) (maxL := 2) (ret := (some .boolean)) (by decide) rfl ?_
  intro p e s m args below meth c s₁ B hml hv
  obtain ⟨rfl, hsz, hP, hK, hD0⟩ := hv
  have hx := B.exec
  have hb := B.bytes
  have hr := B.returns
  have hts := atoms_spec (ws := w_X_falls) B.pre
  have hk : ∀ w ∈ wCw, w.before _ s = true := fun w h => hts w (List.mem_cons_of_mem _ h)
  have hown : s.vm.findClass R_X = some m.cls := findClass_of_methodNamed B.named
  have hlocks := B.notSynchronized
  subst hsz
  have hD := hD0.self (sz := s.heap.size)
  generalize hAe : va_A (wC h cI (nI nF) (nI nC) yn yt (nI ga) ym (fun c => nI (pl c)) (fun c => nI (cf c)) (fun c => nI (ct c)) aK eB eE eA eL eN eC eS eW eT) s.heap.size = A at hD ⊢
  have hA : ∀ q : Nat, s.heap.size ≤ q → A q := fun q h => by rw [← hAe]; exact Or.inr h
  have hS : va_S A s.heap s.heap [] := va_S.rf
  have hl := lv_entry ([.ref (h 0), .int (nI i1)]) (n := 2) (Nat.le_of_ble_eq_true rfl)
  rw [lg_entry_eq]
  generalize (lg_sl ([.ref (h 0), .int (nI i1)]) ++ List.replicate (2 - (lg_sl ([.ref (h 0), .int (nI i1)])).length) Slot.unset).toArray = ls at hl ⊢
  have hl : lv_has ls 2 [(0, .ref (h 0)), (1, .int (nI i1))] := hl
  refine lv_aload_n hx hb d_X_falls_0 rfl (lv_at hl 0 rfl) ?_
  refine va_get (D := (dC, dI)) (ci := 4) (v := .ref (h 1)) (C := R_X) (T := F_X) (N := 3) hx hb hk k_f_X hown hK hP 0 rfl rfl 0 (by decide) (hk _ k_C_67) (fun _ h9 => h9) rfl d_X_falls_1 ?_
  refine lv_iload_n hx hb d_X_falls_4 rfl (lv_at hl 1 rfl) ?_
  have hFc := va_free (wc := wC h cI (nI nF) (nI nC) yn yt (nI ga) ym (fun c => nI (pl c)) (fun c => nI (cf c)) (fun c => nI (ct c)) aK eB eE eA eL eN eC eS eW eT) hD hS hA [0, 1, 2, 3, 4, 5, 6, 7, 8, 9, 10, 11, 12, 13, 14, 15, 16] rfl
  refine va_calli (va_runV (As := [.int (nI i1)]) (rest := []) ⟨hx, hb, hml, hown, hk⟩ (c_P_hasFunction_ok l dC dI cI h s.heap.size yn yt (nI ga) ym aK eB eE eA eL eN eC eS eW eT nF nC pl cf ct (nI i1) (by omega)) (cwV 1 hk g_X_53 rfl rfl rfl (by decide +kernel) ⟨Nat.le_of_ble_eq_true rfl, Nat.le_of_ble_eq_true rfl⟩) ⟨fun a U g mk q => by obtain ⟨q0, q1, qP, qK, qD⟩ := q; exact ⟨q0, q1, qP, va_K.moved (u := U) (U := U.calling g mk a) (Vm.Alike.refl U.vm) qK, qD⟩, va_recv hK hP (ci := 1) (q0 := 1) rfl rfl, fun U hU hW => ⟨rfl, by rw [hU], by rw [hU]; exact hP, va_K.moved hW.alike hK, hD.weaken (fun _ _ _ _ => trivial)⟩⟩ rfl rfl hl.1 rfl (lv_room (Nat.le_of_ble_eq_true rfl)) d_X_falls_5 ⟨Nat.le_of_ble_eq_true rfl, Nat.le_of_ble_eq_true rfl⟩) hS (fun q _ h => hFc q h) hFc (fun r1 u9 t H1 locs ht hvm hw hB hz1 hk1 hS => ?_)
  obtain ⟨hP1, hK1, hD1⟩ := hB
  rw [ht] at hP1
  try dsimp only at hw
  obtain ⟨hP, hD⟩ := va_join (wr := []) (w1 := wC h cI (nI nF) (nI nC) yn yt (nI ga) ym (fun c => nI (pl c)) (fun c => nI (cf c)) (fun c => nI (ct c)) aK eB eE eA eL eN eC eS eW eT) hP hD [0, 1, 2, 3, 4, 5, 6, 7, 8, 9, 10, 11, 12, 13, 14, 15, 16] [] rfl rfl (by decide) (by decide) hk1 hFc hP1 hD1
  generalize H1 = H at hP hS ⊢
  have hP : va_P (dC, dI) kls (wC h cI (nI nF) (nI nC) yn yt (nI ga) ym (fun c => nI (pl c)) (fun c => nI (cf c)) (fun c => nI (ct c)) aK eB eE eA eL eN eC eS eW eT) H := hP
  have hD : va_D A (wC h cI (nI nF) (nI nC) yn yt (nI ga) ym (fun c => nI (pl c)) (fun c => nI (cf c)) (fun c => nI (ct c)) aK eB eE eA eL eN eC eS eW eT) := hD
  rcases hw with ⟨hr9, -⟩ | ⟨hr9, hno9⟩
  · subst hr9
    refine lv_if_ne (tgt := 21) hx hb d_X_falls_8 (by decide) (fun _ => ?_) (fun c9 => absurd c9 (by decide +kernel))
    refine lv_aload_n hx hb d_X_falls_21 rfl (lv_at hl 0 rfl) ?_
    have hFc := va_free (wc := wC h cI (nI nF) (nI nC) yn yt (nI ga) ym (fun c => nI (pl c)) (fun c => nI (cf c)) (fun c => nI (ct c)) aK eB eE eA eL eN eC eS eW eT) hD hS hA [0, 1, 2, 3, 4, 5, 6, 7, 8, 9, 10, 11, 12, 13, 14, 15, 16] rfl
    refine va_callv (va_runV (As := []) (rest := []) ⟨hx, hb, hml, hown, hk⟩ (c_X_needClosure_ok l dC dI cI h H.size yn yt ym aK eB eE eA eL eN eC eS eW eT nF nC pl cf ct K ga (hF) (hC) (hS0) (hpl) (hK8) (hcl) (hga) (hfew)) (cwV 0 hk g_X_84 rfl rfl rfl (by decide +kernel) ⟨Nat.le_of_ble_eq_true rfl, Nat.le_of_ble_eq_true rfl⟩) ⟨fun a U g mk q => by obtain ⟨q0, q1, qP, qK, qD⟩ := q; exact ⟨q0, q1, qP, va_K.moved (u := U) (U := U.calling g mk a) (Vm.Alike.refl U.vm) qK, qD⟩, va_recv hK hP (ci := 4) (q0 := 0) rfl rfl, fun U hU hW => ⟨rfl, by rw [hU], by rw [hU]; exact hP, va_K.moved hW.alike hK, hD.weaken (fun _ _ _ _ => trivial)⟩⟩ rfl rfl hl.1 rfl (lv_room (Nat.le_of_ble_eq_true rfl)) d_X_falls_22 ⟨Nat.le_of_ble_eq_true rfl, Nat.le_of_ble_eq_true rfl⟩) hS (fun q _ h => hFc q h) hFc (fun u9 t H1 locs ht hvm hw hB hz1 hk1 hS => ?_)
    obtain ⟨yn9, yt9, yg9, eB9, eE9, eA9, eL9, eN9, eC9, eS9, eW9⟩ := u9
    obtain ⟨hP1, hK1, hD1⟩ := hB
    rw [ht] at hP1
    try dsimp only at hw
    obtain ⟨hP, hD⟩ := va_join (wr := []) (w1 := wC h cI (nI nF) (nI nC) yn9 yt9 yg9 ym (fun c => nI (pl c)) (fun c => nI (cf c)) (fun c => nI (ct c)) aK eB9 eE9 eA9 eL9 eN9 eC9 eS9 eW9 eT) hP hD [0, 1, 2, 3, 4, 5, 6, 7, 8, 9, 10, 11, 12, 13, 14, 15, 16] [] rfl rfl (by decide) (by decide) hk1 hFc hP1 hD1
    generalize H1 = H at hP hS ⊢
    have hP : va_P (dC, dI) kls (wC h cI (nI nF) (nI nC) yn9 yt9 yg9 ym (fun c => nI (pl c)) (fun c => nI (cf c)) (fun c => nI (ct c)) aK eB9 eE9 eA9 eL9 eN9 eC9 eS9 eW9 eT) H := hP
    have hD : va_D A (wC h cI (nI nF) (nI nC) yn9 yt9 yg9 ym (fun c => nI (pl c)) (fun c => nI (cf c)) (fun c => nI (ct c)) aK eB9 eE9 eA9 eL9 eN9 eC9 eS9 eW9 eT) := hD
    obtain ⟨ht0, hg1, hgo⟩ := hw
    subst ht0
    subst hg1
    have hgo2 := hgo
    obtain ⟨hle8, hyn, hrw, hsm, hclr, hold⟩ := hgo
    subst hyn
    have hln := RSf_len nC cf ct aK K nF
    obtain ⟨a0, ha0, haj0, hfb⟩ := fb_opt nC cf ct aK K hi1 (hold i1 hi1).2.2
    refine lv_aload_n hx hb d_X_falls_25 rfl (lv_at hl 0 rfl) ?_
    refine va_get (D := (dC, dI)) (ci := 4) (v := .ref (h 6)) (C := R_X) (T := F_X) (N := 3) hx hb hk k_f_X hown hK hP 0 rfl rfl 1 (by decide) (hk _ k_C_68) (fun _ h9 => h9) rfl d_X_falls_26 ?_
    refine va_get (D := (dC, dI)) (ci := 2) (v := .ref (h 14)) (C := R_C) (T := F_C) (N := 11) hx hb hk k_f_C hown hK hP 6 rfl rfl 7 (by decide) (hk _ k_C_53) (fun _ h9 => h9) rfl d_X_falls_29 ?_
    refine lv_iload_n hx hb d_X_falls_32 rfl (lv_at hl 1 rfl) ?_
    refine va_iald hx hb hK hP 14 0 rfl rfl (pk_in i1 10 (by omega)) d_X_falls_33 ?_
    refine lv_topi (fun z3 ez3 => ?_)
    obtain rfl : z3 = ahI a0 := ez3.trans ((rd (f := eW9) (k := i1) (by omega)).trans ha0)
    refine lv_iconst (v := (-1)) hx hb d_X_falls_34 (by decide +kernel) ?_
    refine lv_icmp_ne (tgt := 42) hx hb d_X_falls_35 (by decide) (fun c_35 => ?_) (fun c_35 => ?_)
    · refine lv_iconst (v := nI 0) hx hb d_X_falls_42 (by decide +kernel) ?_
      have hfs : ∃ j, fbO nC cf ct aK K i1 (some j) := by
        cases hz : a0 with
        | none => exact absurd ((ahI_n (by omega) haj0).mpr hz) c_35
        | some j => rw [hz] at hfb; exact ⟨j, hfb⟩
      exact W.zret (v := nI 0) (ty := .boolean) hx hb hr rfl (fun t ht hW => ⟨⟨nI 0, (nI (RSf nC cf ct aK K nF).length, nI 0, nI 1, eB9, eE9, eA9, eL9, eN9, eC9, eS9, eW9), rfl, ⟨rfl, rfl, hgo2, Or.inr ⟨rfl, hfs⟩⟩, by rw [ht]; exact hP, va_K.moved hW.alike hK, hD⟩, hS.F ht⟩) hS.2.2 d_X_falls_43
    · refine lv_iconst (v := nI 1) hx hb d_X_falls_38 (by decide +kernel) ?_
      refine lv_goto (tgt := 43) hx hb d_X_falls_39 (by decide) ?_
      have han := (ahI_n (by omega) haj0).mp c_35
      subst han
      exact W.zret (v := nI 1) (ty := .boolean) hx hb hr rfl (fun t ht hW => ⟨⟨nI 1, (nI (RSf nC cf ct aK K nF).length, nI 0, nI 1, eB9, eE9, eA9, eL9, eN9, eC9, eS9, eW9), rfl, ⟨rfl, rfl, hgo2, Or.inl ⟨rfl, hfb⟩⟩, by rw [ht]; exact hP, va_K.moved hW.alike hK, hD⟩, hS.F ht⟩) hS.2.2 d_X_falls_43
  · exact absurd ⟨i1, by omega, rfl⟩ hno9
set_option maxHeartbeats 4000000 in
set_option maxRecDepth 100000 in
theorem c_X_isSafe_ok (l : Launch) (dC : Nat → ClassId) (dI : Nat → Nat → Nat) (cI : ClassId) (h : Nat → Nat) (sz : Nat) (yn yt ym : Int32) (aK eB eE eA eL eN eC eS eW eT : Nat → Int32) (nF nC : Nat) (pl cf ct : Nat → Nat) (K ga : Nat) (i1 : Nat) (hF : nF ≤ 10) (hC : nC ≤ 20) (hS0 : ∀ c, c < nC → cf c < nF ∧ ct c < nF) (hpl : ∀ i, i < nF → 1 ≤ pl i ∧ pl i ≤ 4) (hK8 : 801 ≤ K) (hcl : ∀ c, c < nC → clN (aK c)) (hga : ga = 0 ∨ (ga = 1 ∧ GI nC cf ct aK K nF yn yt eB eE eA eL eS eW)) (hfew : gN nC cf ct aK cj K nF ≤ 800) (hi1 : i1 < nF) : Met l y_X_isSafe w_X_isSafe ({ frames := 6, cells := 0, slots := 0, locals := 137 }) (va_Pc [.ref (h 0), .int (nI i1)] (fun U => U.heap.size = sz ∧ va_P (dC, dI) kls (wC h cI (nI nF) (nI nC) yn yt (nI ga) ym (fun c => nI (pl c)) (fun c => nI (cf c)) (fun c => nI (ct c)) aK eB eE eA eL eN eC eS eW eT) U.heap ∧ va_K (dC, dI) kls (tyC cI) U ∧ va_D (fun _ => True) (wC h cI (nI nF) (nI nC) yn yt (nI ga) ym (fun c => nI (pl c)) (fun c => nI (cf c)) (fun c => nI (ct c)) aK eB eE eA eL eN eC eS eW eT))) (va_Qi (fun (r : Int32) (u : Int32 × Int32 × Int32 × (Nat → Int32) × (Nat → Int32) × (Nat → Int32) × (Nat → Int32) × (Nat → Int32) × (Nat → Int32) × (Nat → Int32) × (Nat → Int32)) => u.2.1 = nI 0 ∧ u.2.2.1 = nI 1 ∧ gOk nC cf ct aK K nF u.1 u.2.2.2.1 u.2.2.2.2.1 u.2.2.2.2.2.1 u.2.2.2.2.2.2.1 u.2.2.2.2.2.2.2.2.2.1 u.2.2.2.2.2.2.2.2.2.2 ∧ ((r = nI 1 ∧ ∀ g, g < nF → (rcN nC cf ct i1 nF ||| 2 ^ i1).testBit g = true → fbO nC cf ct aK K g none) ∨ (r = nI 0 ∧ ∃ g, g < nF ∧ (rcN nC cf ct i1 nF ||| 2 ^ i1).testBit g = true ∧ ∃ j, fbO nC cf ct aK K g (some j)))) (fun (u : Int32 × Int32 × Int32 × (Nat → Int32) × (Nat → Int32) × (Nat → Int32) × (Nat → Int32) × (Nat → Int32) × (Nat → Int32) × (Nat → Int32) × (Nat → Int32)) (t : State) => va_P (dC, dI) kls (wC h cI (nI nF) (nI nC) u.1 u.2.1 u.2.2.1 ym (fun c => nI (pl c)) (fun c => nI (cf c)) (fun c => nI (ct c)) aK u.2.2.2.1 u.2.2.2.2.1 u.2.2.2.2.2.1 u.2.2.2.2.2.2.1 u.2.2.2.2.2.2.2.1 u.2.2.2.2.2.2.2.2.1 u.2.2.2.2.2.2.2.2.2.1 u.2.2.2.2.2.2.2.2.2.2 eT) t.heap ∧ va_K (dC, dI) kls (tyC cI) t ∧ va_D (va_A (wC h cI (nI nF) (nI nC) yn yt (nI ga) ym (fun c => nI (pl c)) (fun c => nI (cf c)) (fun c => nI (ct c)) aK eB eE eA eL eN eC eS eW eT) sz) (wC h cI (nI nF) (nI nC) u.1 u.2.1 u.2.2.1 ym (fun c => nI (pl c)) (fun c => nI (cf c)) (fun c => nI (ct c)) aK u.2.2.2.1 u.2.2.2.2.1 u.2.2.2.2.2.1 u.2.2.2.2.2.2.1 u.2.2.2.2.2.2.2.1 u.2.2.2.2.2.2.2.2.1 u.2.2.2.2.2.2.2.2.2.1 u.2.2.2.2.2.2.2.2.2.2 eT)) (va_A (wC h cI (nI nF) (nI nC) yn yt (nI ga) ym (fun c => nI (pl c)) (fun c => nI (cf c)) (fun c => nI (ct c)) aK eB eE eA eL eN eC eS eW eT) sz)) 0 0 (va_A (wC h cI (nI nF) (nI nC) yn yt (nI ga) ym (fun c => nI (pl c)) (fun c => nI (cf c)) (fun c => nI (ct c)) aK eB eE eA eL eN eC eS eW eT) sz) := by
  refine Met.ofW (cc := c_X_isSafe) (maxL := 4) (ret := (some .boolean)) (by decide) rfl ?_
  intro p e s m args below meth c s₁ B hml hv
  obtain ⟨rfl, hsz, hP, hK, hD0⟩ := hv
  have hx := B.exec
  have hb := B.bytes
  have hr := B.returns
  have hts := atoms_spec (ws := w_X_isSafe) B.pre
  have hk : ∀ w ∈ wCw, w.before _ s = true := fun w h => hts w (List.mem_cons_of_mem _ h)
  have hown : s.vm.findClass R_X = some m.cls := findClass_of_methodNamed B.named
  have hlocks := B.notSynchronized
  subst hsz
  have hD := hD0.self (sz := s.heap.size)
  generalize hAe : va_A (wC h cI (nI nF) (nI nC) yn yt (nI ga) ym (fun c => nI (pl c)) (fun c => nI (cf c)) (fun c => nI (ct c)) aK eB eE eA eL eN eC eS eW eT) s.heap.size = A at hD ⊢
  have hA : ∀ q : Nat, s.heap.size ≤ q → A q := fun q h => by rw [← hAe]; exact Or.inr h
  have hS : va_S A s.heap s.heap [] := va_S.rf
  have hl := lv_entry ([.ref (h 0), .int (nI i1)]) (n := 4) (Nat.le_of_ble_eq_true rfl)
  rw [lg_entry_eq]
  generalize (lg_sl ([.ref (h 0), .int (nI i1)]) ++ List.replicate (4 - (lg_sl ([.ref (h 0), .int (nI i1)])).length) Slot.unset).toArray = ls at hl ⊢
  have hl : lv_has ls 4 [(0, .ref (h 0)), (1, .int (nI i1))] := hl
  refine lv_aload_n hx hb d_X_isSafe_0 rfl (lv_at hl 0 rfl) ?_
  refine va_get (D := (dC, dI)) (ci := 4) (v := .ref (h 1)) (C := R_X) (T := F_X) (N := 3) hx hb hk k_f_X hown hK hP 0 rfl rfl 0 (by decide) (hk _ k_C_67) (fun _ h9 => h9) rfl d_X_isSafe_1 ?_
  refine lv_iload_n hx hb d_X_isSafe_4 rfl (lv_at hl 1 rfl) ?_
  have hFc := va_free (wc := wC h cI (nI nF) (nI nC) yn yt (nI ga) ym (fun c => nI (pl c)) (fun c => nI (cf c)) (fun c => nI (ct c)) aK eB eE eA eL eN eC eS eW eT) hD hS hA [0, 1, 2, 3, 4, 5, 6, 7, 8, 9, 10, 11, 12, 13, 14, 15, 16] rfl
  refine va_calli (va_runV (As := [.int (nI i1)]) (rest := []) ⟨hx, hb, hml, hown, hk⟩ (c_P_hasFunction_ok l dC dI cI h s.heap.size yn yt (nI ga) ym aK eB eE eA eL eN eC eS eW eT nF nC pl cf ct (nI i1) (by omega)) (cwV 1 hk g_X_53 rfl rfl rfl (by decide +kernel) ⟨Nat.le_of_ble_eq_true rfl, Nat.le_of_ble_eq_true rfl⟩) ⟨fun a U g mk q => by obtain ⟨q0, q1, qP, qK, qD⟩ := q; exact ⟨q0, q1, qP, va_K.moved (u := U) (U := U.calling g mk a) (Vm.Alike.refl U.vm) qK, qD⟩, va_recv hK hP (ci := 1) (q0 := 1) rfl rfl, fun U hU hW => ⟨rfl, by rw [hU], by rw [hU]; exact hP, va_K.moved hW.alike hK, hD.weaken (fun _ _ _ _ => trivial)⟩⟩ rfl rfl hl.1 rfl (lv_room (Nat.le_of_ble_eq_true rfl)) d_X_isSafe_5 ⟨Nat.le_of_ble_eq_true rfl, Nat.le_of_ble_eq_true rfl⟩) hS (fun q _ h => hFc q h) hFc (fun r1 u9 t H1 locs ht hvm hw hB hz1 hk1 hS => ?_)
  obtain ⟨hP1, hK1, hD1⟩ := hB
  rw [ht] at hP1
  try dsimp only at hw
  obtain ⟨hP, hD⟩ := va_join (wr := []) (w1 := wC h cI (nI nF) (nI nC) yn yt (nI ga) ym (fun c => nI (pl c)) (fun c => nI (cf c)) (fun c => nI (ct c)) aK eB eE eA eL eN eC eS eW eT) hP hD [0, 1, 2, 3, 4, 5, 6, 7, 8, 9, 10, 11, 12, 13, 14, 15, 16] [] rfl rfl (by decide) (by decide) hk1 hFc hP1 hD1
  generalize H1 = H at hP hS ⊢
  have hP : va_P (dC, dI) kls (wC h cI (nI nF) (nI nC) yn yt (nI ga) ym (fun c => nI (pl c)) (fun c => nI (cf c)) (fun c => nI (ct c)) aK eB eE eA eL eN eC eS eW eT) H := hP
  have hD : va_D A (wC h cI (nI nF) (nI nC) yn yt (nI ga) ym (fun c => nI (pl c)) (fun c => nI (cf c)) (fun c => nI (ct c)) aK eB eE eA eL eN eC eS eW eT) := hD
  rcases hw with ⟨hr9, -⟩ | ⟨hr9, hno9⟩
  · subst hr9
    refine lv_if_ne (tgt := 21) hx hb d_X_isSafe_8 (by decide) (fun _ => ?_) (fun c9 => absurd c9 (by decide +kernel))
    refine lv_aload_n hx hb d_X_isSafe_21 rfl (lv_at hl 0 rfl) ?_
    have hFc := va_free (wc := wC h cI (nI nF) (nI nC) yn yt (nI ga) ym (fun c => nI (pl c)) (fun c => nI (cf c)) (fun c => nI (ct c)) aK eB eE eA eL eN eC eS eW eT) hD hS hA [0, 1, 2, 3, 4, 5, 6, 7, 8, 9, 10, 11, 12, 13, 14, 15, 16] rfl
    refine va_callv (va_runV (As := []) (rest := []) ⟨hx, hb, hml, hown, hk⟩ (c_X_needClosure_ok l dC dI cI h H.size yn yt ym aK eB eE eA eL eN eC eS eW eT nF nC pl cf ct K ga (hF) (hC) (hS0) (hpl) (hK8) (hcl) (hga) (hfew)) (cwV 0 hk g_X_84 rfl rfl rfl (by decide +kernel) ⟨Nat.le_of_ble_eq_true rfl, Nat.le_of_ble_eq_true rfl⟩) ⟨fun a U g mk q => by obtain ⟨q0, q1, qP, qK, qD⟩ := q; exact ⟨q0, q1, qP, va_K.moved (u := U) (U := U.calling g mk a) (Vm.Alike.refl U.vm) qK, qD⟩, va_recv hK hP (ci := 4) (q0 := 0) rfl rfl, fun U hU hW => ⟨rfl, by rw [hU], by rw [hU]; exact hP, va_K.moved hW.alike hK, hD.weaken (fun _ _ _ _ => trivial)⟩⟩ rfl rfl hl.1 rfl (lv_room (Nat.le_of_ble_eq_true rfl)) d_X_isSafe_22 ⟨Nat.le_of_ble_eq_true rfl, Nat.le_of_ble_eq_true rfl⟩) hS (fun q _ h => hFc q h) hFc (fun u9 t H1 locs ht hvm hw hB hz1 hk1 hS => ?_)
    obtain ⟨yn9, yt9, yg9, eB9, eE9, eA9, eL9, eN9, eC9, eS9, eW9⟩ := u9
    obtain ⟨hP1, hK1, hD1⟩ := hB
    rw [ht] at hP1
    try dsimp only at hw
    obtain ⟨hP, hD⟩ := va_join (wr := []) (w1 := wC h cI (nI nF) (nI nC) yn9 yt9 yg9 ym (fun c => nI (pl c)) (fun c => nI (cf c)) (fun c => nI (ct c)) aK eB9 eE9 eA9 eL9 eN9 eC9 eS9 eW9 eT) hP hD [0, 1, 2, 3, 4, 5, 6, 7, 8, 9, 10, 11, 12, 13, 14, 15, 16] [] rfl rfl (by decide) (by decide) hk1 hFc hP1 hD1
    generalize H1 = H at hP hS ⊢
    have hP : va_P (dC, dI) kls (wC h cI (nI nF) (nI nC) yn9 yt9 yg9 ym (fun c => nI (pl c)) (fun c => nI (cf c)) (fun c => nI (ct c)) aK eB9 eE9 eA9 eL9 eN9 eC9 eS9 eW9 eT) H := hP
    have hD : va_D A (wC h cI (nI nF) (nI nC) yn9 yt9 yg9 ym (fun c => nI (pl c)) (fun c => nI (cf c)) (fun c => nI (ct c)) aK eB9 eE9 eA9 eL9 eN9 eC9 eS9 eW9 eT) := hD
    obtain ⟨ht0, hg1, hgo⟩ := hw
    subst ht0
    subst hg1
    have hgo2 := hgo
    obtain ⟨hle8, hyn, hrw, hsm, hclr, hold⟩ := hgo
    subst hyn
    have hln := RSf_len nC cf ct aK K nF
    refine lv_aload_n hx hb d_X_isSafe_25 rfl (lv_at hl 0 rfl) ?_
    refine va_get (D := (dC, dI)) (ci := 4) (v := .ref (h 1)) (C := R_X) (T := F_X) (N := 3) hx hb hk k_f_X hown hK hP 0 rfl rfl 0 (by decide) (hk _ k_C_67) (fun _ h9 => h9) rfl d_X_isSafe_26 ?_
    refine lv_iload_n hx hb d_X_isSafe_29 rfl (lv_at hl 1 rfl) ?_
    have hFc := va_free (wc := wC h cI (nI nF) (nI nC) (nI ((RSf nC cf ct aK K nF).length)) (nI 0) (nI 1) ym (fun c => nI (pl c)) (fun c => nI (cf c)) (fun c => nI (ct c)) aK eB9 eE9 eA9 eL9 eN9 eC9 eS9 eW9 eT) hD hS hA [0, 1, 2, 3, 4, 5, 6, 7, 8, 9, 10, 11, 12, 13, 14, 15, 16] rfl
    refine va_calli (va_runV (As := [.int (nI i1)]) (rest := []) ⟨hx, hb, hml, hown, hk⟩ (c_P_reachedFrom_ok l dC dI cI h H.size (nI ((RSf nC cf ct aK K nF).length)) (nI 0) (nI 1) ym aK eB9 eE9 eA9 eL9 eN9 eC9 eS9 eW9 eT nF nC pl cf ct i1 (hF) (hC) (hS0) (hpl) (by omega)) (cwV 1 hk g_X_99 rfl rfl rfl (by decide +kernel) ⟨Nat.le_of_ble_eq_true rfl, Nat.le_of_ble_eq_true rfl⟩) ⟨fun a U g mk q => by obtain ⟨q0, q1, qP, qK, qD⟩ := q; exact ⟨q0, q1, qP, va_K.moved (u := U) (U := U.calling g mk a) (Vm.Alike.refl U.vm) qK, qD⟩, va_recv hK hP (ci := 1) (q0 := 1) rfl rfl, fun U hU hW => ⟨rfl, by rw [hU], by rw [hU]; exact hP, va_K.moved hW.alike hK, hD.weaken (fun _ _ _ _ => trivial)⟩⟩ rfl rfl hl.1 rfl (lv_room (Nat.le_of_ble_eq_true rfl)) d_X_isSafe_30 ⟨Nat.le_of_ble_eq_true rfl, Nat.le_of_ble_eq_true rfl⟩) hS (fun q _ h => hFc q h) hFc (fun r3 u9 t H1 locs ht hvm hw hB hz1 hk1 hS => ?_)
    obtain ⟨hP1, hK1, hD1⟩ := hB
    rw [ht] at hP1
    try dsimp only at hw
    obtain ⟨hP, hD⟩ := va_join (wr := []) (w1 := wC h cI (nI nF) (nI nC) (nI ((RSf nC cf ct aK K nF).length)) (nI 0) (nI 1) ym (fun c => nI (pl c)) (fun c => nI (cf c)) (fun c => nI (ct c)) aK eB9 eE9 eA9 eL9 eN9 eC9 eS9 eW9 eT) hP hD [0, 1, 2, 3, 4, 5, 6, 7, 8, 9, 10, 11, 12, 13, 14, 15, 16] [] rfl rfl (by decide) (by decide) hk1 hFc hP1 hD1
    generalize H1 = H at hP hS ⊢
    have hP : va_P (dC, dI) kls (wC h cI (nI nF) (nI nC) (nI ((RSf nC cf ct aK K nF).length)) (nI 0) (nI 1) ym (fun c => nI (pl c)) (fun c => nI (cf c)) (fun c => nI (ct c)) aK eB9 eE9 eA9 eL9 eN9 eC9 eS9 eW9 eT) H := hP
    have hD : va_D A (wC h cI (nI nF) (nI nC) (nI ((RSf nC cf ct aK K nF).length)) (nI 0) (nI 1) ym (fun c => nI (pl c)) (fun c => nI (cf c)) (fun c => nI (ct c)) aK eB9 eE9 eA9 eL9 eN9 eC9 eS9 eW9 eT) := hD
    subst hw
    refine lv_iconst (v := nI 1) hx hb d_X_isSafe_33 (by decide +kernel) ?_
    refine lv_iload_n hx hb d_X_isSafe_34 rfl (lv_at hl 1 rfl) ?_
    refine lv_ishl hx hb d_X_isSafe_35 ?_
    refine lv_topi (fun z4 ez4 => ?_)
    obtain rfl : z4 = shl (nI 1) i1 := ez4.trans (rfl)
    refine lv_ior hx hb d_X_isSafe_36 ?_
    refine lv_topi (fun z5 ez5 => ?_)
    obtain rfl : z5 = nI (rcN nC cf ct i1 nF ||| 2 ^ i1) := ez5.trans (by rw [shl_1 _ (by omega), nx_or])
    have hAl : rcN nC cf ct i1 nF ||| 2 ^ i1 < 2 ^ nF := Nat.or_lt_two_pow (rcN_lt nC cf ct i1 (fun c hc => (hS0 c hc).2) nF) (Nat.pow_lt_pow_right (by omega) hi1)
    have hp2 := p2_lt hF
    refine lv_istore_n (lv' := [(2, .int (nI (rcN nC cf ct i1 nF ||| 2 ^ i1))), (0, .ref (h 0)), (1, .int (nI i1))]) hx hb d_X_isSafe_37 rfl hl (by decide) rfl (fun ls hl => ?_)
    refine lv_iconst (v := nI 0) hx hb d_X_isSafe_38 (by decide +kernel) ?_
    refine lv_istore_n (lv' := [(3, .int (nI 0)), (2, .int (nI (rcN nC cf ct i1 nF ||| 2 ^ i1))), (0, .ref (h 0)), (1, .int (nI i1))]) hx hb d_X_isSafe_39 rfl hl (by decide) rfl (fun ls hl => ?_)
    have lp : ∀ (n_lp : Nat) (k : Nat), (k ≤ nF) → (∀ g, g < k → (rcN nC cf ct i1 nF ||| 2 ^ i1).testBit g = true → fbO nC cf ct aK K g none) → nF - k < n_lp → ∀ (H : Heap) (locs : List Loc) (ls : Array Slot), va_P (dC, dI) kls (wC h cI (nI nF) (nI nC) (nI ((RSf nC cf ct aK K nF).length)) (nI 0) (nI 1) ym (fun c => nI (pl c)) (fun c => nI (cf c)) (fun c => nI (ct c)) aK eB9 eE9 eA9 eL9 eN9 eC9 eS9 eW9 eT) H → va_D A (wC h cI (nI nF) (nI nC) (nI ((RSf nC cf ct aK K nF).length)) (nI 0) (nI 1) ym (fun c => nI (pl c)) (fun c => nI (cf c)) (fun c => nI (ct c)) aK eB9 eE9 eA9 eL9 eN9 eC9 eS9 eW9 eT) → va_S A s.heap H locs → lv_has ls 4 [(0, .ref (h 0)), (1, .int (nI i1)), (2, .int (nI (rcN nC cf ct i1 nF ||| 2 ^ i1))), (3, .int (nI k))] → W p l e (headSpec w_X_isSafe ({ frames := 6, cells := 0, slots := 0, locals := 137 })).room s m ([.ref (h 0), .int (nI i1)]).toArray below meth c H locs 0 0 (MQ below (va_Qi (fun (r : Int32) (u : Int32 × Int32 × Int32 × (Nat → Int32) × (Nat → Int32) × (Nat → Int32) × (Nat → Int32) × (Nat → Int32) × (Nat → Int32) × (Nat → Int32) × (Nat → Int32)) => u.2.1 = nI 0 ∧ u.2.2.1 = nI 1 ∧ gOk nC cf ct aK K nF u.1 u.2.2.2.1 u.2.2.2.2.1 u.2.2.2.2.2.1 u.2.2.2.2.2.2.1 u.2.2.2.2.2.2.2.2.2.1 u.2.2.2.2.2.2.2.2.2.2 ∧ ((r = nI 1 ∧ ∀ g, g < nF → (rcN nC cf ct i1 nF ||| 2 ^ i1).testBit g = true → fbO nC cf ct aK K g none) ∨ (r = nI 0 ∧ ∃ g, g < nF ∧ (rcN nC cf ct i1 nF ||| 2 ^ i1).testBit g = true ∧ ∃ j, fbO nC cf ct aK K g (some j)))) (fun (u : Int32 × Int32 × Int32 × (Nat → Int32) × (Nat → Int32) × (Nat → Int32) × (Nat → Int32) × (Nat → Int32) × (Nat → Int32) × (Nat → Int32) × (Nat → Int32)) (t : State) => va_P (dC, dI) kls (wC h cI (nI nF) (nI nC) u.1 u.2.1 u.2.2.1 ym (fun c => nI (pl c)) (fun c => nI (cf c)) (fun c => nI (ct c)) aK u.2.2.2.1 u.2.2.2.2.1 u.2.2.2.2.2.1 u.2.2.2.2.2.2.1 u.2.2.2.2.2.2.2.1 u.2.2.2.2.2.2.2.2.1 u.2.2.2.2.2.2.2.2.2.1 u.2.2.2.2.2.2.2.2.2.2 eT) t.heap ∧ va_K (dC, dI) kls (tyC cI) t ∧ va_D (A) (wC h cI (nI nF) (nI nC) u.1 u.2.1 u.2.2.1 ym (fun c => nI (pl c)) (fun c => nI (cf c)) (fun c => nI (ct c)) aK u.2.2.2.1 u.2.2.2.2.1 u.2.2.2.2.2.1 u.2.2.2.2.2.2.1 u.2.2.2.2.2.2.2.1 u.2.2.2.2.2.2.2.2.1 u.2.2.2.2.2.2.2.2.2.1 u.2.2.2.2.2.2.2.2.2.2 eT)) A) ([.ref (h 0), .int (nI i1)]).toArray s 0 0 A) (F0 m 40 ls []) := by
      intro n_lp
      induction n_lp with
      | zero => intro k hk0 hyes hn; exact absurd hn (Nat.not_lt_zero _)
      | succ n_lp ih_lp =>
        intro k hk0 hyes hn H locs ls hP hD hS hl
        refine lv_iload_n hx hb d_X_isSafe_40 rfl (lv_at hl 3 rfl) ?_
        refine lv_aload_n hx hb d_X_isSafe_41 rfl (lv_at hl 0 rfl) ?_
        refine va_get (D := (dC, dI)) (ci := 4) (v := .ref (h 1)) (C := R_X) (T := F_X) (N := 3) hx hb hk k_f_X hown hK hP 0 rfl rfl 0 (by decide) (hk _ k_C_67) (fun _ h9 => h9) rfl d_X_isSafe_42 ?_
        refine va_get (D := (dC, dI)) (ci := 1) (v := .int (nI nF)) (C := R_P) (T := F_P) (N := 6) hx hb hk k_f_P hown hK hP 1 rfl rfl 4 (by decide) (hk _ k_C_33) (fun _ h9 => h9) rfl d_X_isSafe_45 ?_
        refine lv_icmp_ge (tgt := 80) hx hb d_X_isSafe_48 (by decide) (fun c_48 => ?_) (fun c_48 => ?_)
        · have c_48 : nF ≤ k := (nI_leI (a := nF) (b := k) (by omega) (by omega)).mp c_48
          refine lv_iconst (v := nI 1) hx hb d_X_isSafe_80 (by decide +kernel) ?_
          exact W.zret (v := nI 1) (ty := .boolean) hx hb hr rfl (fun t ht hW => ⟨⟨nI 1, (nI (RSf nC cf ct aK K nF).length, nI 0, nI 1, eB9, eE9, eA9, eL9, eN9, eC9, eS9, eW9), rfl, ⟨rfl, rfl, hgo2, Or.inl ⟨rfl, fun g hg => hyes g (by omega)⟩⟩, by rw [ht]; exact hP, va_K.moved hW.alike hK, hD⟩, hS.F ht⟩) hS.2.2 d_X_isSafe_81
        · have c_48 : ¬ nF ≤ k := fun z9 => c_48 ((nI_leI (a := nF) (b := k) (by omega) (by omega)).mpr z9)
          refine lv_iload_n hx hb d_X_isSafe_51 rfl (lv_at hl 2 rfl) ?_
          refine lv_iload_n hx hb d_X_isSafe_52 rfl (lv_at hl 3 rfl) ?_
          refine lv_iushr (v := ush (nI (rcN nC cf ct i1 nF ||| 2 ^ i1)) k) hx hb d_X_isSafe_53 rfl ?_
          refine lv_iconst (v := nI 1) hx hb d_X_isSafe_54 (by decide +kernel) ?_
          refine lv_iand hx hb d_X_isSafe_55 ?_
          refine lv_topi (fun z6 ez6 => ?_)
          obtain rfl : z6 = nI (((rcN nC cf ct i1 nF ||| 2 ^ i1).testBit k).toNat) := ez6.trans (ush_bit (by omega) (by omega))
          have hbl : ((rcN nC cf ct i1 nF ||| 2 ^ i1).testBit k).toNat < 2 := by cases (rcN nC cf ct i1 nF ||| 2 ^ i1).testBit k <;> decide
          refine lv_if_eq (tgt := 74) hx hb d_X_isSafe_56 (by decide) (fun c_56 => ?_) (fun c_56 => ?_)
          · have c_56 : ((rcN nC cf ct i1 nF ||| 2 ^ i1).testBit k).toNat = 0 := (nI_eq (a := ((rcN nC cf ct i1 nF ||| 2 ^ i1).testBit k).toNat) (b := 0) (by omega) (by omega)).mp c_56
            refine lv_iinc (v := nI (k + 1)) (lv' := [(3, .int (nI (k + 1))), (0, .ref (h 0)), (1, .int (nI i1)), (2, .int (nI (rcN nC cf ct i1 nF ||| 2 ^ i1)))]) hx hb d_X_isSafe_74 hl (k := 3) rfl (nI_add k 1) (by decide) rfl (fun ls hl => ?_)
            refine lv_goto (tgt := 40) hx hb d_X_isSafe_77 (by decide) ?_
            have hy2 : ∀ g, g < k + 1 → (rcN nC cf ct i1 nF ||| 2 ^ i1).testBit g = true → fbO nC cf ct aK K g none := by
              intro g hg ht
              rcases Nat.lt_or_ge g k with q9 | q9
              · exact hyes g q9 ht
              · obtain rfl : g = k := by omega
                first
                  | (rw [ht] at c_56; exact absurd c_56 (by decide))
                  | (have han := (ahI_n (by omega) haj0).mp c_69; subst han; exact hfb)
            exact ih_lp (k + 1) (by omega) (hy2) (by omega) _ _ _ hP hD hS (lv_sub hl [1, 2, 3, 0] rfl)
          · have c_56 : ¬ ((rcN nC cf ct i1 nF ||| 2 ^ i1).testBit k).toNat = 0 := fun z9 => c_56 ((nI_eq (a := ((rcN nC cf ct i1 nF ||| 2 ^ i1).testBit k).toNat) (b := 0) (by omega) (by omega)).mpr z9)
            obtain ⟨a0, ha0, haj0, hfb⟩ := fb_opt nC cf ct aK K (show k < nF by omega) (hold k (by omega)).2.2
            refine lv_aload_n hx hb d_X_isSafe_59 rfl (lv_at hl 0 rfl) ?_
            refine va_get (D := (dC, dI)) (ci := 4) (v := .ref (h 6)) (C := R_X) (T := F_X) (N := 3) hx hb hk k_f_X hown hK hP 0 rfl rfl 1 (by decide) (hk _ k_C_68) (fun _ h9 => h9) rfl d_X_isSafe_60 ?_
            refine va_get (D := (dC, dI)) (ci := 2) (v := .ref (h 14)) (C := R_C) (T := F_C) (N := 11) hx hb hk k_f_C hown hK hP 6 rfl rfl 7 (by decide) (hk _ k_C_53) (fun _ h9 => h9) rfl d_X_isSafe_63 ?_
            refine lv_iload_n hx hb d_X_isSafe_66 rfl (lv_at hl 3 rfl) ?_
            refine va_iald hx hb hK hP 14 0 rfl rfl (pk_in k 10 (by omega)) d_X_isSafe_67 ?_
            refine lv_topi (fun z7 ez7 => ?_)
            obtain rfl : z7 = ahI a0 := ez7.trans ((rd (f := eW9) (k := k) (by omega)).trans ha0)
            refine lv_iconst (v := (-1)) hx hb d_X_isSafe_68 (by decide +kernel) ?_
            refine lv_icmp_eq (tgt := 74) hx hb d_X_isSafe_69 (by decide) (fun c_69 => ?_) (fun c_69 => ?_)
            · refine lv_iinc (v := nI (k + 1)) (lv' := [(3, .int (nI (k + 1))), (0, .ref (h 0)), (1, .int (nI i1)), (2, .int (nI (rcN nC cf ct i1 nF ||| 2 ^ i1)))]) hx hb d_X_isSafe_74 hl (k := 3) rfl (nI_add k 1) (by decide) rfl (fun ls hl => ?_)
              refine lv_goto (tgt := 40) hx hb d_X_isSafe_77 (by decide) ?_
              have hy2 : ∀ g, g < k + 1 → (rcN nC cf ct i1 nF ||| 2 ^ i1).testBit g = true → fbO nC cf ct aK K g none := by
                intro g hg ht
                rcases Nat.lt_or_ge g k with q9 | q9
                · exact hyes g q9 ht
                · obtain rfl : g = k := by omega
                  first
                    | (rw [ht] at c_56; exact absurd c_56 (by decide))
                    | (have han := (ahI_n (by omega) haj0).mp c_69; subst han; exact hfb)
              exact ih_lp (k + 1) (by omega) (hy2) (by omega) _ _ _ hP hD hS (lv_sub hl [1, 2, 3, 0] rfl)
            · refine lv_iconst (v := nI 0) hx hb d_X_isSafe_72 (by decide +kernel) ?_
              have htk : (rcN nC cf ct i1 nF ||| 2 ^ i1).testBit k = true := by cases hb9 : (rcN nC cf ct i1 nF ||| 2 ^ i1).testBit k; rw [hb9] at c_56; exact absurd rfl c_56; rfl
              have hfs : ∃ j, fbO nC cf ct aK K k (some j) := by
                cases hz : a0 with
                | none => exact absurd ((ahI_n (by omega) haj0).mpr hz) c_69
                | some j => rw [hz] at hfb; exact ⟨j, hfb⟩
              exact W.zret (v := nI 0) (ty := .boolean) hx hb hr rfl (fun t ht hW => ⟨⟨nI 0, (nI (RSf nC cf ct aK K nF).length, nI 0, nI 1, eB9, eE9, eA9, eL9, eN9, eC9, eS9, eW9), rfl, ⟨rfl, rfl, hgo2, Or.inr ⟨rfl, k, by omega, htk, hfs⟩⟩, by rw [ht]; exact hP, va_K.moved hW.alike hK, hD⟩, hS.F ht⟩) hS.2.2 d_X_isSafe_73
    exact lp _ 0 (Nat.zero_le _) (fun g hg => absurd hg (Nat.not_lt_zero _)) (Nat.lt_succ_self _) _ _ _ hP hD hS (lv_sub hl [2, 3, 1, 0] rfl)
  · exact absurd ⟨i1, by omega, rfl⟩ hno9
set_option maxHeartbeats 4000000 in
set_option maxRecDepth 100000 in
theorem c_X_bad_ok (l : Launch) (dC : Nat → ClassId) (dI : Nat → Nat → Nat) (cI : ClassId) (h : Nat → Nat) (sz : Nat) (yn yt ym : Int32) (aK eB eE eA eL eN eC eS eW eT : Nat → Int32) (nF nC : Nat) (pl cf ct : Nat → Nat) (K ga : Nat) (i1 : Nat) (q : Int32) (hF : nF ≤ 10) (hC : nC ≤ 20) (hS0 : ∀ c, c < nC → cf c < nF ∧ ct c < nF) (hpl : ∀ i, i < nF → 1 ≤ pl i ∧ pl i ≤ 4) (hK8 : 801 ≤ K) (hcl : ∀ c, c < nC → clN (aK c)) (hga : ga = 0 ∨ (ga = 1 ∧ GI nC cf ct aK K nF yn yt eB eE eA eL eS eW)) (hfew : gN nC cf ct aK cj K nF ≤ 800) (hi1 : i1 < nF) : Met l y_X_bad w_X_bad ({ frames := 6, cells := 0, slots := 0, locals := 137 }) (va_Pc [.ref (h 0), .int (nI i1), .int q] (fun U => U.heap.size = sz ∧ va_P (dC, dI) kls (wC h cI (nI nF) (nI nC) yn yt (nI ga) ym (fun c => nI (pl c)) (fun c => nI (cf c)) (fun c => nI (ct c)) aK eB eE eA eL eN eC eS eW eT) U.heap ∧ va_K (dC, dI) kls (tyC cI) U ∧ va_D (fun _ => True) (wC h cI (nI nF) (nI nC) yn yt (nI ga) ym (fun c => nI (pl c)) (fun c => nI (cf c)) (fun c => nI (ct c)) aK eB eE eA eL eN eC eS eW eT))) (va_Qi (fun (r : Int32) (u : Int32 × Int32 × Int32 × (Nat → Int32) × (Nat → Int32) × (Nat → Int32) × (Nat → Int32) × (Nat → Int32) × (Nat → Int32) × (Nat → Int32) × (Nat → Int32)) => u.2.1 = nI 0 ∧ u.2.2.1 = nI 1 ∧ gOk nC cf ct aK K nF u.1 u.2.2.2.1 u.2.2.2.2.1 u.2.2.2.2.2.1 u.2.2.2.2.2.2.1 u.2.2.2.2.2.2.2.2.2.1 u.2.2.2.2.2.2.2.2.2.2 ∧ ∃ a0, fbO nC cf ct aK K i1 a0 ∧ ((q = -1 ∧ r = nI (chn (RSf nC cf ct aK K nF) (K + 1) a0).length) ∨ ((¬ q = -1) ∧ q < 0 ∧ r = -1) ∨ ∃ q1, q1 < 2 ^ 31 ∧ q = nI q1 ∧ ((q1 < (chn (RSf nC cf ct aK K nF) (K + 1) a0).length ∧ ∃ y, (chn (RSf nC cf ct aK K nF) (K + 1) a0)[(chn (RSf nC cf ct aK K nF) (K + 1) a0).length - 1 - q1]? = some y ∧ r = nI y) ∨ ((chn (RSf nC cf ct aK K nF) (K + 1) a0).length ≤ q1 ∧ r = -1)))) (fun (u : Int32 × Int32 × Int32 × (Nat → Int32) × (Nat → Int32) × (Nat → Int32) × (Nat → Int32) × (Nat → Int32) × (Nat → Int32) × (Nat → Int32) × (Nat → Int32)) (t : State) => va_P (dC, dI) kls (wC h cI (nI nF) (nI nC) u.1 u.2.1 u.2.2.1 ym (fun c => nI (pl c)) (fun c => nI (cf c)) (fun c => nI (ct c)) aK u.2.2.2.1 u.2.2.2.2.1 u.2.2.2.2.2.1 u.2.2.2.2.2.2.1 u.2.2.2.2.2.2.2.1 u.2.2.2.2.2.2.2.2.1 u.2.2.2.2.2.2.2.2.2.1 u.2.2.2.2.2.2.2.2.2.2 eT) t.heap ∧ va_K (dC, dI) kls (tyC cI) t ∧ va_D (va_A (wC h cI (nI nF) (nI nC) yn yt (nI ga) ym (fun c => nI (pl c)) (fun c => nI (cf c)) (fun c => nI (ct c)) aK eB eE eA eL eN eC eS eW eT) sz) (wC h cI (nI nF) (nI nC) u.1 u.2.1 u.2.2.1 ym (fun c => nI (pl c)) (fun c => nI (cf c)) (fun c => nI (ct c)) aK u.2.2.2.1 u.2.2.2.2.1 u.2.2.2.2.2.1 u.2.2.2.2.2.2.1 u.2.2.2.2.2.2.2.1 u.2.2.2.2.2.2.2.2.1 u.2.2.2.2.2.2.2.2.2.1 u.2.2.2.2.2.2.2.2.2.2 eT)) (va_A (wC h cI (nI nF) (nI nC) yn yt (nI ga) ym (fun c => nI (pl c)) (fun c => nI (cf c)) (fun c => nI (ct c)) aK eB eE eA eL eN eC eS eW eT) sz)) 0 0 (va_A (wC h cI (nI nF) (nI nC) yn yt (nI ga) ym (fun c => nI (pl c)) (fun c => nI (cf c)) (fun c => nI (ct c)) aK eB eE eA eL eN eC eS eW eT) sz) := by
  refine Met.ofW (cc := c_X_bad) (maxL := 4) (ret := (some .int)) (by decide) rfl ?_
  intro p e s m args below meth c s₁ B hml hv
  obtain ⟨rfl, hsz, hP, hK, hD0⟩ := hv
  have hx := B.exec
  have hb := B.bytes
  have hr := B.returns
  have hts := atoms_spec (ws := w_X_bad) B.pre
  have hk : ∀ w ∈ wCw, w.before _ s = true := fun w h => hts w (List.mem_cons_of_mem _ h)
  have hown : s.vm.findClass R_X = some m.cls := findClass_of_methodNamed B.named
  have hlocks := B.notSynchronized
  subst hsz
  have hD := hD0.self (sz := s.heap.size)
  generalize hAe : va_A (wC h cI (nI nF) (nI nC) yn yt (nI ga) ym (fun c => nI (pl c)) (fun c => nI (cf c)) (fun c => nI (ct c)) aK eB eE eA eL eN eC eS eW eT) s.heap.size = A at hD ⊢
  have hA : ∀ q : Nat, s.heap.size ≤ q → A q := fun q h => by rw [← hAe]; exact Or.inr h
  have hS : va_S A s.heap s.heap [] := va_S.rf
  have hl := lv_entry ([.ref (h 0), .int (nI i1), .int q]) (n := 4) (Nat.le_of_ble_eq_true rfl)
  rw [lg_entry_eq]
  generalize (lg_sl ([.ref (h 0), .int (nI i1), .int q]) ++ List.replicate (4 - (lg_sl ([.ref (h 0), .int (nI i1), .int q])).length) Slot.unset).toArray = ls at hl ⊢
  have hl : lv_has ls 4 [(0, .ref (h 0)), (1, .int (nI i1)), (2, .int q)] := hl
  refine lv_aload_n hx hb d_X_bad_0 rfl (lv_at hl 0 rfl) ?_
  refine va_get (D := (dC, dI)) (ci := 4) (v := .ref (h 1)) (C := R_X) (T := F_X) (N := 3) hx hb hk k_f_X hown hK hP 0 rfl rfl 0 (by decide) (hk _ k_C_67) (fun _ h9 => h9) rfl d_X_bad_1 ?_
  refine lv_iload_n hx hb d_X_bad_4 rfl (lv_at hl 1 rfl) ?_
  have hFc := va_free (wc := wC h cI (nI nF) (nI nC) yn yt (nI ga) ym (fun c => nI (pl c)) (fun c => nI (cf c)) (fun c => nI (ct c)) aK eB eE eA eL eN eC eS eW eT) hD hS hA [0, 1, 2, 3, 4, 5, 6, 7, 8, 9, 10, 11, 12, 13, 14, 15, 16] rfl
  refine va_calli (va_runV (As := [.int (nI i1)]) (rest := []) ⟨hx, hb, hml, hown, hk⟩ (c_P_hasFunction_ok l dC dI cI h s.heap.size yn yt (nI ga) ym aK eB eE eA eL eN eC eS eW eT nF nC pl cf ct (nI i1) (by omega)) (cwV 1 hk g_X_53 rfl rfl rfl (by decide +kernel) ⟨Nat.le_of_ble_eq_true rfl, Nat.le_of_ble_eq_true rfl⟩) ⟨fun a U g mk q => by obtain ⟨q0, q1, qP, qK, qD⟩ := q; exact ⟨q0, q1, qP, va_K.moved (u := U) (U := U.calling g mk a) (Vm.Alike.refl U.vm) qK, qD⟩, va_recv hK hP (ci := 1) (q0 := 1) rfl rfl, fun U hU hW => ⟨rfl, by rw [hU], by rw [hU]; exact hP, va_K.moved hW.alike hK, hD.weaken (fun _ _ _ _ => trivial)⟩⟩ rfl rfl hl.1 rfl (lv_room (Nat.le_of_ble_eq_true rfl)) d_X_bad_5 ⟨Nat.le_of_ble_eq_true rfl, Nat.le_of_ble_eq_true rfl⟩) hS (fun q _ h => hFc q h) hFc (fun r1 u9 t H1 locs ht hvm hw hB hz1 hk1 hS => ?_)
  obtain ⟨hP1, hK1, hD1⟩ := hB
  rw [ht] at hP1
  try dsimp only at hw
  obtain ⟨hP, hD⟩ := va_join (wr := []) (w1 := wC h cI (nI nF) (nI nC) yn yt (nI ga) ym (fun c => nI (pl c)) (fun c => nI (cf c)) (fun c => nI (ct c)) aK eB eE eA eL eN eC eS eW eT) hP hD [0, 1, 2, 3, 4, 5, 6, 7, 8, 9, 10, 11, 12, 13, 14, 15, 16] [] rfl rfl (by decide) (by decide) hk1 hFc hP1 hD1
  generalize H1 = H at hP hS ⊢
  have hP : va_P (dC, dI) kls (wC h cI (nI nF) (nI nC) yn yt (nI ga) ym (fun c => nI (pl c)) (fun c => nI (cf c)) (fun c => nI (ct c)) aK eB eE eA eL eN eC eS eW eT) H := hP
  have hD : va_D A (wC h cI (nI nF) (nI nC) yn yt (nI ga) ym (fun c => nI (pl c)) (fun c => nI (cf c)) (fun c => nI (ct c)) aK eB eE eA eL eN eC eS eW eT) := hD
  rcases hw with ⟨hr9, -⟩ | ⟨hr9, hno9⟩
  · subst hr9
    refine lv_if_ne (tgt := 13) hx hb d_X_bad_8 (by decide) (fun _ => ?_) (fun c9 => absurd c9 (by decide +kernel))
    refine lv_aload_n hx hb d_X_bad_13 rfl (lv_at hl 0 rfl) ?_
    have hFc := va_free (wc := wC h cI (nI nF) (nI nC) yn yt (nI ga) ym (fun c => nI (pl c)) (fun c => nI (cf c)) (fun c => nI (ct c)) aK eB eE eA eL eN eC eS eW eT) hD hS hA [0, 1, 2, 3, 4, 5, 6, 7, 8, 9, 10, 11, 12, 13, 14, 15, 16] rfl
    refine va_callv (va_runV (As := []) (rest := []) ⟨hx, hb, hml, hown, hk⟩ (c_X_needClosure_ok l dC dI cI h H.size yn yt ym aK eB eE eA eL eN eC eS eW eT nF nC pl cf ct K ga (hF) (hC) (hS0) (hpl) (hK8) (hcl) (hga) (hfew)) (cwV 0 hk g_X_84 rfl rfl rfl (by decide +kernel) ⟨Nat.le_of_ble_eq_true rfl, Nat.le_of_ble_eq_true rfl⟩) ⟨fun a U g mk q => by obtain ⟨q0, q1, qP, qK, qD⟩ := q; exact ⟨q0, q1, qP, va_K.moved (u := U) (U := U.calling g mk a) (Vm.Alike.refl U.vm) qK, qD⟩, va_recv hK hP (ci := 4) (q0 := 0) rfl rfl, fun U hU hW => ⟨rfl, by rw [hU], by rw [hU]; exact hP, va_K.moved hW.alike hK, hD.weaken (fun _ _ _ _ => trivial)⟩⟩ rfl rfl hl.1 rfl (lv_room (Nat.le_of_ble_eq_true rfl)) d_X_bad_14 ⟨Nat.le_of_ble_eq_true rfl, Nat.le_of_ble_eq_true rfl⟩) hS (fun q _ h => hFc q h) hFc (fun u9 t H1 locs ht hvm hw hB hz1 hk1 hS => ?_)
    obtain ⟨yn9, yt9, yg9, eB9, eE9, eA9, eL9, eN9, eC9, eS9, eW9⟩ := u9
    obtain ⟨hP1, hK1, hD1⟩ := hB
    rw [ht] at hP1
    try dsimp only at hw
    obtain ⟨hP, hD⟩ := va_join (wr := []) (w1 := wC h cI (nI nF) (nI nC) yn9 yt9 yg9 ym (fun c => nI (pl c)) (fun c => nI (cf c)) (fun c => nI (ct c)) aK eB9 eE9 eA9 eL9 eN9 eC9 eS9 eW9 eT) hP hD [0, 1, 2, 3, 4, 5, 6, 7, 8, 9, 10, 11, 12, 13, 14, 15, 16] [] rfl rfl (by decide) (by decide) hk1 hFc hP1 hD1
    generalize H1 = H at hP hS ⊢
    have hP : va_P (dC, dI) kls (wC h cI (nI nF) (nI nC) yn9 yt9 yg9 ym (fun c => nI (pl c)) (fun c => nI (cf c)) (fun c => nI (ct c)) aK eB9 eE9 eA9 eL9 eN9 eC9 eS9 eW9 eT) H := hP
    have hD : va_D A (wC h cI (nI nF) (nI nC) yn9 yt9 yg9 ym (fun c => nI (pl c)) (fun c => nI (cf c)) (fun c => nI (ct c)) aK eB9 eE9 eA9 eL9 eN9 eC9 eS9 eW9 eT) := hD
    obtain ⟨ht0, hg1, hgo⟩ := hw
    subst ht0
    subst hg1
    have hgo2 := hgo
    obtain ⟨hle8, hyn, hrw, hsm, hclr, hold⟩ := hgo
    subst hyn
    have hln := RSf_len nC cf ct aK K nF
    obtain ⟨a0, ha0, haj0, hfb⟩ := fb_opt nC cf ct aK K hi1 (hold i1 hi1).2.2
    refine lv_aload_n hx hb d_X_bad_17 rfl (lv_at hl 0 rfl) ?_
    refine va_get (D := (dC, dI)) (ci := 4) (v := .ref (h 6)) (C := R_X) (T := F_X) (N := 3) hx hb hk k_f_X hown hK hP 0 rfl rfl 1 (by decide) (hk _ k_C_68) (fun _ h9 => h9) rfl d_X_bad_18 ?_
    refine lv_aload_n hx hb d_X_bad_21 rfl (lv_at hl 0 rfl) ?_
    refine va_get (D := (dC, dI)) (ci := 4) (v := .ref (h 6)) (C := R_X) (T := F_X) (N := 3) hx hb hk k_f_X hown hK hP 0 rfl rfl 1 (by decide) (hk _ k_C_68) (fun _ h9 => h9) rfl d_X_bad_22 ?_
    refine va_get (D := (dC, dI)) (ci := 2) (v := .ref (h 14)) (C := R_C) (T := F_C) (N := 11) hx hb hk k_f_C hown hK hP 6 rfl rfl 7 (by decide) (hk _ k_C_53) (fun _ h9 => h9) rfl d_X_bad_25 ?_
    refine lv_iload_n hx hb d_X_bad_28 rfl (lv_at hl 1 rfl) ?_
    refine va_iald hx hb hK hP 14 0 rfl rfl (pk_in i1 10 (by omega)) d_X_bad_29 ?_
    refine lv_topi (fun z3 ez3 => ?_)
    obtain rfl : z3 = ahI a0 := ez3.trans ((rd (f := eW9) (k := i1) (by omega)).trans ha0)
    have hFc := va_free (wc := wC h cI (nI nF) (nI nC) (nI ((RSf nC cf ct aK K nF).length)) (nI 0) (nI 1) ym (fun c => nI (pl c)) (fun c => nI (cf c)) (fun c => nI (ct c)) aK eB9 eE9 eA9 eL9 eN9 eC9 eS9 eW9 eT) hD hS hA [0, 1, 2, 3, 4, 5, 6, 7, 8, 9, 10, 11, 12, 13, 14, 15, 16] rfl
    refine va_calli (va_runV (As := [.int (ahI a0)]) (rest := []) ⟨hx, hb, hml, hown, hk⟩ (c_C_lengthOf_ok l dC dI cI h H.size (nI nF) (nI nC) (nI 0) (nI 1) ym (fun c => nI (pl c)) (fun c => nI (cf c)) (fun c => nI (ct c)) aK eB9 eE9 eA9 eL9 eN9 eC9 eS9 eW9 eT (RSf nC cf ct aK K nF) K a0 (by omega) (hK8) (hrw) (RSf_ah nC cf ct aK K nF) (haj0)) (cwV 1 hk g_X_102 rfl rfl rfl (by decide +kernel) ⟨Nat.le_of_ble_eq_true rfl, Nat.le_of_ble_eq_true rfl⟩) ⟨fun a U g mk q => by obtain ⟨q0, q1, qP, qK, qD⟩ := q; exact ⟨q0, q1, qP, va_K.moved (u := U) (U := U.calling g mk a) (Vm.Alike.refl U.vm) qK, qD⟩, va_recv hK hP (ci := 2) (q0 := 6) rfl rfl, fun U hU hW => ⟨rfl, by rw [hU], by rw [hU]; exact hP, va_K.moved hW.alike hK, hD.weaken (fun _ _ _ _ => trivial)⟩⟩ rfl rfl hl.1 rfl (lv_room (Nat.le_of_ble_eq_true rfl)) d_X_bad_30 ⟨Nat.le_of_ble_eq_true rfl, Nat.le_of_ble_eq_true rfl⟩) hS (fun q _ h => hFc q h) hFc (fun r4 u9 t H1 locs ht hvm hw hB hz1 hk1 hS => ?_)
    obtain ⟨hP1, hK1, hD1⟩ := hB
    rw [ht] at hP1
    try dsimp only at hw
    obtain ⟨hP, hD⟩ := va_join (wr := []) (w1 := wC h cI (nI nF) (nI nC) (nI ((RSf nC cf ct aK K nF).length)) (nI 0) (nI 1) ym (fun c => nI (pl c)) (fun c => nI (cf c)) (fun c => nI (ct c)) aK eB9 eE9 eA9 eL9 eN9 eC9 eS9 eW9 eT) hP hD [0, 1, 2, 3, 4, 5, 6, 7, 8, 9, 10, 11, 12, 13, 14, 15, 16] [] rfl rfl (by decide) (by decide) hk1 hFc hP1 hD1
    generalize H1 = H at hP hS ⊢
    have hP : va_P (dC, dI) kls (wC h cI (nI nF) (nI nC) (nI ((RSf nC cf ct aK K nF).length)) (nI 0) (nI 1) ym (fun c => nI (pl c)) (fun c => nI (cf c)) (fun c => nI (ct c)) aK eB9 eE9 eA9 eL9 eN9 eC9 eS9 eW9 eT) H := hP
    have hD : va_D A (wC h cI (nI nF) (nI nC) (nI ((RSf nC cf ct aK K nF).length)) (nI 0) (nI 1) ym (fun c => nI (pl c)) (fun c => nI (cf c)) (fun c => nI (ct c)) aK eB9 eE9 eA9 eL9 eN9 eC9 eS9 eW9 eT) := hD
    obtain ⟨hw, hl800⟩ := hw
    subst hw
    refine lv_istore_n (lv' := [(3, .int (nI ((chn (RSf nC cf ct aK K nF) (K + 1) a0).length))), (0, .ref (h 0)), (1, .int (nI i1)), (2, .int q)]) hx hb d_X_bad_33 rfl hl (by decide) rfl (fun ls hl => ?_)
    refine lv_iload_n hx hb d_X_bad_34 rfl (lv_at hl 3 rfl) ?_
    refine lv_iconst (v := (-1)) hx hb d_X_bad_35 (by decide +kernel) ?_
    refine lv_icmp_ne (tgt := 41) hx hb d_X_bad_36 (by decide) (fun c_36 => ?_) (fun c_36 => ?_)
    · refine lv_iload_n hx hb d_X_bad_41 rfl (lv_at hl 3 rfl) ?_
      refine lv_if_lt (tgt := 50) hx hb d_X_bad_42 (by decide) (fun c_42 => ?_) (fun c_42 => ?_)
      · refine lv_iconst (v := (-1)) hx hb d_X_bad_50 (by decide +kernel) ?_
        exact W.iret (v := (-1)) hx hb hr (fun t ht hW => ⟨⟨(-1), (nI (RSf nC cf ct aK K nF).length, nI 0, nI 1, eB9, eE9, eA9, eL9, eN9, eC9, eS9, eW9), rfl, ⟨rfl, rfl, hgo2, a0, hfb, Or.inr (Or.inl ⟨c_36, c_42, rfl⟩)⟩, by rw [ht]; exact hP, va_K.moved hW.alike hK, hD⟩, hS.F ht⟩) hS.2.2 d_X_bad_51
      · obtain ⟨q1, hq1, rfl⟩ := nI_of c_42
        refine lv_iload_n hx hb d_X_bad_45 rfl (lv_at hl 3 rfl) ?_
        refine lv_iload_n hx hb d_X_bad_46 rfl (lv_at hl 0 rfl) ?_
        refine lv_icmp_lt (tgt := 52) hx hb d_X_bad_47 (by decide) (fun c_47 => ?_) (fun c_47 => ?_)
        · have c_47 : q1 < (chn (RSf nC cf ct aK K nF) (K + 1) a0).length := (nI_ltI (a := q1) (b := (chn (RSf nC cf ct aK K nF) (K + 1) a0).length) (by omega) (by omega)).mp c_47
          refine lv_aload_n hx hb d_X_bad_52 rfl (lv_at hl 1 rfl) ?_
          refine va_get (D := (dC, dI)) (ci := 4) (v := .ref (h 6)) (C := R_X) (T := F_X) (N := 3) hx hb hk k_f_X hown hK hP 0 rfl rfl 1 (by decide) (hk _ k_C_68) (fun _ h9 => h9) rfl d_X_bad_53 ?_
          refine lv_aload_n hx hb d_X_bad_56 rfl (lv_at hl 1 rfl) ?_
          refine va_get (D := (dC, dI)) (ci := 4) (v := .ref (h 6)) (C := R_X) (T := F_X) (N := 3) hx hb hk k_f_X hown hK hP 0 rfl rfl 1 (by decide) (hk _ k_C_68) (fun _ h9 => h9) rfl d_X_bad_57 ?_
          refine va_get (D := (dC, dI)) (ci := 2) (v := .ref (h 14)) (C := R_C) (T := F_C) (N := 11) hx hb hk k_f_C hown hK hP 6 rfl rfl 7 (by decide) (hk _ k_C_53) (fun _ h9 => h9) rfl d_X_bad_60 ?_
          refine lv_iload_n hx hb d_X_bad_63 rfl (lv_at hl 2 rfl) ?_
          refine va_iald hx hb hK hP 14 0 rfl rfl (pk_in i1 10 (by omega)) d_X_bad_64 ?_
          refine lv_topi (fun z5 ez5 => ?_)
          obtain rfl : z5 = ahI a0 := ez5.trans ((rd (f := eW9) (k := i1) (by omega)).trans ha0)
          refine lv_iload_n hx hb d_X_bad_65 rfl (lv_at hl 0 rfl) ?_
          refine lv_iconst (v := nI 1) hx hb d_X_bad_66 (by decide +kernel) ?_
          refine lv_isub hx hb d_X_bad_67 ?_
          refine lv_topi (fun z6 ez6 => ?_)
          obtain rfl : z6 = nI ((chn (RSf nC cf ct aK K nF) (K + 1) a0).length - 1) := ez6.trans (pk_sub (by omega))
          refine lv_iload_n hx hb d_X_bad_68 rfl (lv_at hl 3 rfl) ?_
          refine lv_isub hx hb d_X_bad_69 ?_
          refine lv_topi (fun z7 ez7 => ?_)
          obtain rfl : z7 = nI ((chn (RSf nC cf ct aK K nF) (K + 1) a0).length - 1 - q1) := ez7.trans (pk_sub (by omega))
          have hFc := va_free (wc := wC h cI (nI nF) (nI nC) (nI ((RSf nC cf ct aK K nF).length)) (nI 0) (nI 1) ym (fun c => nI (pl c)) (fun c => nI (cf c)) (fun c => nI (ct c)) aK eB9 eE9 eA9 eL9 eN9 eC9 eS9 eW9 eT) hD hS hA [0, 1, 2, 3, 4, 5, 6, 7, 8, 9, 10, 11, 12, 13, 14, 15, 16] rfl
          refine va_calli (va_runV (As := [.int (ahI a0), .int (nI ((chn (RSf nC cf ct aK K nF) (K + 1) a0).length - 1 - q1))]) (rest := []) ⟨hx, hb, hml, hown, hk⟩ (c_C_callFromTheEnd_ok l dC dI cI h H.size (nI nF) (nI nC) (nI 0) (nI 1) ym (fun c => nI (pl c)) (fun c => nI (cf c)) (fun c => nI (ct c)) aK eB9 eE9 eA9 eL9 eN9 eC9 eS9 eW9 eT (RSf nC cf ct aK K nF) K ((chn (RSf nC cf ct aK K nF) (K + 1) a0).length - 1 - q1) a0 (by omega) (hK8) (hrw) (RSf_ah nC cf ct aK K nF) (haj0) (by omega)) (cwV 2 hk g_X_105 rfl rfl rfl (by decide +kernel) ⟨Nat.le_of_ble_eq_true rfl, Nat.le_of_ble_eq_true rfl⟩) ⟨fun a U g mk q => by obtain ⟨q0, q1, qP, qK, qD⟩ := q; exact ⟨q0, q1, qP, va_K.moved (u := U) (U := U.calling g mk a) (Vm.Alike.refl U.vm) qK, qD⟩, va_recv hK hP (ci := 2) (q0 := 6) rfl rfl, fun U hU hW => ⟨rfl, by rw [hU], by rw [hU]; exact hP, va_K.moved hW.alike hK, hD.weaken (fun _ _ _ _ => trivial)⟩⟩ rfl rfl hl.1 rfl (lv_room (Nat.le_of_ble_eq_true rfl)) d_X_bad_70 ⟨Nat.le_of_ble_eq_true rfl, Nat.le_of_ble_eq_true rfl⟩) hS (fun q _ h => hFc q h) hFc (fun r8 u9 t H1 locs ht hvm hw hB hz1 hk1 hS => ?_)
          obtain ⟨hP1, hK1, hD1⟩ := hB
          rw [ht] at hP1
          try dsimp only at hw
          obtain ⟨hP, hD⟩ := va_join (wr := []) (w1 := wC h cI (nI nF) (nI nC) (nI ((RSf nC cf ct aK K nF).length)) (nI 0) (nI 1) ym (fun c => nI (pl c)) (fun c => nI (cf c)) (fun c => nI (ct c)) aK eB9 eE9 eA9 eL9 eN9 eC9 eS9 eW9 eT) hP hD [0, 1, 2, 3, 4, 5, 6, 7, 8, 9, 10, 11, 12, 13, 14, 15, 16] [] rfl rfl (by decide) (by decide) hk1 hFc hP1 hD1
          generalize H1 = H at hP hS ⊢
          have hP : va_P (dC, dI) kls (wC h cI (nI nF) (nI nC) (nI ((RSf nC cf ct aK K nF).length)) (nI 0) (nI 1) ym (fun c => nI (pl c)) (fun c => nI (cf c)) (fun c => nI (ct c)) aK eB9 eE9 eA9 eL9 eN9 eC9 eS9 eW9 eT) H := hP
          have hD : va_D A (wC h cI (nI nF) (nI nC) (nI ((RSf nC cf ct aK K nF).length)) (nI 0) (nI 1) ym (fun c => nI (pl c)) (fun c => nI (cf c)) (fun c => nI (ct c)) aK eB9 eE9 eA9 eL9 eN9 eC9 eS9 eW9 eT) := hD
          have hce := hw
          have hce2 : ∃ y, (chn (RSf nC cf ct aK K nF) (K + 1) a0)[(chn (RSf nC cf ct aK K nF) (K + 1) a0).length - 1 - q1]? = some y ∧ r8 = nI y := by
            rcases hce with z | ⟨z, -⟩
            · exact z
            · rw [List.getElem?_eq_none_iff] at z; omega
          exact W.iret (v := r8) hx hb hr (fun t ht hW => ⟨⟨r8, (nI (RSf nC cf ct aK K nF).length, nI 0, nI 1, eB9, eE9, eA9, eL9, eN9, eC9, eS9, eW9), rfl, ⟨rfl, rfl, hgo2, a0, hfb, Or.inr (Or.inr ⟨q1, hq1, rfl, Or.inl ⟨c_47, hce2⟩⟩)⟩, by rw [ht]; exact hP, va_K.moved hW.alike hK, hD⟩, hS.F ht⟩) hS.2.2 d_X_bad_73
        · have c_47 : ¬ q1 < (chn (RSf nC cf ct aK K nF) (K + 1) a0).length := fun z9 => c_47 ((nI_ltI (a := q1) (b := (chn (RSf nC cf ct aK K nF) (K + 1) a0).length) (by omega) (by omega)).mpr z9)
          refine lv_iconst (v := (-1)) hx hb d_X_bad_50 (by decide +kernel) ?_
          exact W.iret (v := (-1)) hx hb hr (fun t ht hW => ⟨⟨(-1), (nI (RSf nC cf ct aK K nF).length, nI 0, nI 1, eB9, eE9, eA9, eL9, eN9, eC9, eS9, eW9), rfl, ⟨rfl, rfl, hgo2, a0, hfb, Or.inr (Or.inr ⟨q1, hq1, rfl, Or.inr ⟨by omega, rfl⟩⟩)⟩, by rw [ht]; exact hP, va_K.moved hW.alike hK, hD⟩, hS.F ht⟩) hS.2.2 d_X_bad_51
    · refine lv_iload_n hx hb d_X_bad_39 rfl (lv_at hl 0 rfl) ?_
      exact W.iret (v := nI ((chn (RSf nC cf ct aK K nF) (K + 1) a0).length)) hx hb hr (fun t ht hW => ⟨⟨nI ((chn (RSf nC cf ct aK K nF) (K + 1) a0).length), (nI (RSf nC cf ct aK K nF).length, nI 0, nI 1, eB9, eE9, eA9, eL9, eN9, eC9, eS9, eW9), rfl, ⟨rfl, rfl, hgo2, a0, hfb, Or.inl ⟨c_36, rfl⟩⟩, by rw [ht]; exact hP, va_K.moved hW.alike hK, hD⟩, hS.F ht⟩) hS.2.2 d_X_bad_40
  · exact absurd ⟨i1, by omega, rfl⟩ hno9
set_option maxHeartbeats 4000000 in
set_option maxRecDepth 100000 in
theorem c_X_bad_no (l : Launch) (dC : Nat → ClassId) (dI : Nat → Nat → Nat) (cI : ClassId) (h : Nat → Nat) (sz : Nat) (yn yt yg ym : Int32) (aK eB eE eA eL eN eC eS eW eT : Nat → Int32) (nF nC : Nat) (pl cf ct : Nat → Nat) (f q : Int32) (hF : nF ≤ 10) (hno : ¬ ∃ i, i < nF ∧ f = nI i) : Met l y_X_bad w_X_bad ({ frames := 1, cells := 0, slots := 0, locals := 21 }) (va_Pc [.ref (h 0), .int f, .int q] (fun U => U.heap.size = sz ∧ va_P (dC, dI) kls (wC h cI (nI nF) (nI nC) yn yt yg ym (fun c => nI (pl c)) (fun c => nI (cf c)) (fun c => nI (ct c)) aK eB eE eA eL eN eC eS eW eT) U.heap ∧ va_K (dC, dI) kls (tyC cI) U ∧ va_D (fun _ => True) (wC h cI (nI nF) (nI nC) yn yt yg ym (fun c => nI (pl c)) (fun c => nI (cf c)) (fun c => nI (ct c)) aK eB eE eA eL eN eC eS eW eT))) (va_Qi (fun (r : Int32) (u : Unit) => r = -1) (fun (u : Unit) (t : State) => va_P (dC, dI) kls (wC h cI (nI nF) (nI nC) yn yt yg ym (fun c => nI (pl c)) (fun c => nI (cf c)) (fun c => nI (ct c)) aK eB eE eA eL eN eC eS eW eT) t.heap ∧ va_K (dC, dI) kls (tyC cI) t ∧ va_D (va_A (wC h cI (nI nF) (nI nC) yn yt yg ym (fun c => nI (pl c)) (fun c => nI (cf c)) (fun c => nI (ct c)) aK eB eE eA eL eN eC eS eW eT) sz) (wC h cI (nI nF) (nI nC) yn yt yg ym (fun c => nI (pl c)) (fun c => nI (cf c)) (fun c => nI (ct c)) aK eB eE eA eL eN eC eS eW eT)) (va_A (wC h cI (nI nF) (nI nC) yn yt yg ym (fun c => nI (pl c)) (fun c => nI (cf c)) (fun c => nI (ct c)) aK eB eE eA eL eN eC eS eW eT) sz)) 0 0 (va_A (wC h cI (nI nF) (nI nC) yn yt yg ym (fun c => nI (pl c)) (fun c => nI (cf c)) (fun c => nI (ct c)) aK eB eE eA eL eN eC eS eW eT) sz) := by
  refine Met.ofW (cc := c_X_bad) (maxL := 4) (ret := (some .int)) (by decide) rfl ?_
  intro p e s m args below meth c s₁ B hml hv
  obtain ⟨rfl, hsz, hP, hK, hD0⟩ := hv
  have hx := B.exec
  have hb := B.bytes
  have hr := B.returns
  have hts := atoms_spec (ws := w_X_bad) B.pre
  have hk : ∀ w ∈ wCw, w.before _ s = true := fun w h => hts w (List.mem_cons_of_mem _ h)
  have hown : s.vm.findClass R_X = some m.cls := findClass_of_methodNamed B.named
  have hlocks := B.notSynchronized
  subst hsz
  have hD := hD0.self (sz := s.heap.size)
  generalize hAe : va_A (wC h cI (nI nF) (nI nC) yn yt yg ym (fun c => nI (pl c)) (fun c => nI (cf c)) (fun c => nI (ct c)) aK eB eE eA eL eN eC eS eW eT) s.heap.size = A at hD ⊢
  have hA : ∀ q : Nat, s.heap.size ≤ q → A q := fun q h => by rw [← hAe]; exact Or.inr h
  have hS : va_S A s.heap s.heap [] := va_S.rf
  have hl := lv_entry ([.ref (h 0), .int f, .int q]) (n := 4) (Nat.le_of_ble_eq_true rfl)
  rw [lg_entry_eq]
  generalize (lg_sl ([.ref (h 0), .int f, .int q]) ++ List.replicate (4 - (lg_sl ([.ref (h 0), .int f, .int q])).length) Slot.unset).toArray = ls at hl ⊢
  have hl : lv_has ls 4 [(0, .ref (h 0)), (1, .int f), (2, .int q)] := hl
  refine lv_aload_n hx hb d_X_bad_0 rfl (lv_at hl 0 rfl) ?_
  refine va_get (D := (dC, dI)) (ci := 4) (v := .ref (h 1)) (C := R_X) (T := F_X) (N := 3) hx hb hk k_f_X hown hK hP 0 rfl rfl 0 (by decide) (hk _ k_C_67) (fun _ h9 => h9) rfl d_X_bad_1 ?_
  refine lv_iload_n hx hb d_X_bad_4 rfl (lv_at hl 1 rfl) ?_
  have hFc := va_free (wc := wC h cI (nI nF) (nI nC) yn yt yg ym (fun c => nI (pl c)) (fun c => nI (cf c)) (fun c => nI (ct c)) aK eB eE eA eL eN eC eS eW eT) hD hS hA [0, 1, 2, 3, 4, 5, 6, 7, 8, 9, 10, 11, 12, 13, 14, 15, 16] rfl
  refine va_calli (va_runV (As := [.int f]) (rest := []) ⟨hx, hb, hml, hown, hk⟩ (c_P_hasFunction_ok l dC dI cI h s.heap.size yn yt yg ym aK eB eE eA eL eN eC eS eW eT nF nC pl cf ct f (by omega)) (cwV 1 hk g_X_53 rfl rfl rfl (by decide +kernel) ⟨Nat.le_of_ble_eq_true rfl, Nat.le_of_ble_eq_true rfl⟩) ⟨fun a U g mk q => by obtain ⟨q0, q1, qP, qK, qD⟩ := q; exact ⟨q0, q1, qP, va_K.moved (u := U) (U := U.calling g mk a) (Vm.Alike.refl U.vm) qK, qD⟩, va_recv hK hP (ci := 1) (q0 := 1) rfl rfl, fun U hU hW => ⟨rfl, by rw [hU], by rw [hU]; exact hP, va_K.moved hW.alike hK, hD.weaken (fun _ _ _ _ => trivial)⟩⟩ rfl rfl hl.1 rfl (lv_room (Nat.le_of_ble_eq_true rfl)) d_X_bad_5 ⟨Nat.le_of_ble_eq_true rfl, Nat.le_of_ble_eq_true rfl⟩) hS (fun q _ h => hFc q h) hFc (fun r1 u9 t H1 locs ht hvm hw hB hz1 hk1 hS => ?_)
  obtain ⟨hP1, hK1, hD1⟩ := hB
  rw [ht] at hP1
  try dsimp only at hw
  obtain ⟨hP, hD⟩ := va_join (wr := []) (w1 := wC h cI (nI nF) (nI nC) yn yt yg ym (fun c => nI (pl c)) (fun c => nI (cf c)) (fun c => nI (ct c)) aK eB eE eA eL eN eC eS eW eT) hP hD [0, 1, 2, 3, 4, 5, 6, 7, 8, 9, 10, 11, 12, 13, 14, 15, 16] [] rfl rfl (by decide) (by decide) hk1 hFc hP1 hD1
  generalize H1 = H at hP hS ⊢
  have hP : va_P (dC, dI) kls (wC h cI (nI nF) (nI nC) yn yt yg ym (fun c => nI (pl c)) (fun c => nI (cf c)) (fun c => nI (ct c)) aK eB eE eA eL eN eC eS eW eT) H := hP
  have hD : va_D A (wC h cI (nI nF) (nI nC) yn yt yg ym (fun c => nI (pl c)) (fun c => nI (cf c)) (fun c => nI (ct c)) aK eB eE eA eL eN eC eS eW eT) := hD
  rcases hw with ⟨hr9, i1, hi1, hfj⟩ | ⟨hr9, hno_f⟩
  · subst hr9
    subst hfj
    refine lv_if_ne (tgt := 13) hx hb d_X_bad_8 (by decide) (fun _ => ?_) (fun c9 => absurd c9 (by decide +kernel))
    exact absurd ⟨i1, hi1, rfl⟩ hno
  · subst hr9
    refine lv_if_ne (tgt := 13) hx hb d_X_bad_8 (by decide) (fun c9 => absurd c9 (by decide +kernel)) (fun _ => ?_)
    refine lv_iconst (v := (-1)) hx hb d_X_bad_11 (by decide +kernel) ?_
    exact W.iret (v := (-1)) hx hb hr (fun t ht hW => ⟨⟨(-1), (), rfl, rfl, by rw [ht]; exact hP, va_K.moved hW.alike hK, hD⟩, hS.F ht⟩) hS.2.2 d_X_bad_12
