/-- the sorted row: its numbers; what it holds of the first entries -/
def hT (T : List Int32) (bS : Nat → Int32) : Prop := ∀ j x, T[j]? = some x → bS j = x
def inT (es : List En) (f g i : Nat) (T : List Int32) : Prop := (T.map uN).Pairwise (· < ·) ∧ (∀ x, x ∈ T ↔ ∃ j en, j < i ∧ es[j]? = some en ∧ qFG f g en = true ∧ en.2.2.1 = x) ∧ T.length = (es.take i).countP (qFG f g)
theorem gp_put {T : List Int32} {p : Nat} {x : Int32} (hS : (T.map uN).Pairwise (· < ·)) (hp : p ≤ T.length) (hx : x ∉ T) (hlo : ∀ y, 0 < p → T[p - 1]? = some y → ¬ uN x < uN y) (hhi : ∀ j y, p ≤ j → T[j]? = some y → uN x < uN y) : ((T.take p ++ x :: T.drop p).map uN).Pairwise (· < ·) := by
  rw [List.map_append, List.map_cons, List.map_take, List.map_drop]
  refine srt_put hS (by rw [List.length_map]; exact hp) ?_ ?_
  · intro j z hj hz
    rw [List.getElem?_map] at hz
    cases hy : T[j]? with
    | none => rw [hy] at hz; cases hz
    | some y =>
      rw [hy] at hz
      cases hz
      obtain ⟨y1, hy1⟩ : ∃ y1, T[p - 1]? = some y1 := ⟨_, List.getElem?_eq_getElem (by omega)⟩
      have h1 := hlo y1 (by omega) hy1
      have hne : uN y1 ≠ uN x := fun q => hx (uN_inj q ▸ List.mem_of_getElem? hy1)
      rcases Nat.lt_or_ge j (p - 1) with h2 | h2
      · have h3 := List.pairwise_iff_getElem.mp hS j (p - 1) (by rw [List.length_map]; omega) (by rw [List.length_map]; omega) h2
        rw [List.getElem_map, List.getElem_map] at h3
        have e1 : T[j] = y := Option.some.inj ((List.getElem?_eq_getElem (by omega)).symm.trans hy)
        have e2 : T[p - 1] = y1 := Option.some.inj ((List.getElem?_eq_getElem (by omega)).symm.trans hy1)
        rw [e1, e2] at h3
        omega
      · obtain rfl : j = p - 1 := by omega
        rw [hy] at hy1
        cases hy1
        omega
  · intro j z hj hz
    rw [List.getElem?_map] at hz
    cases hy : T[j]? with
    | none => rw [hy] at hz; cases hz
    | some y =>
      rw [hy] at hz
      cases hz
      exact hhi j y hj hy
theorem hT_put {T : List Int32} {bS : Nat → Int32} {p : Nat} {x : Int32} (hp : p ≤ T.length) (h1 : ∀ j y, j < p → T[j]? = some y → bS j = y) (h2 : ∀ j y, p ≤ j → T[j]? = some y → bS (j + 1) = y) : hT (T.take p ++ x :: T.drop p) (upd bS p x) := by
  intro j y hy
  have hl : (T.take p).length = p := by rw [List.length_take]; omega
  rcases Nat.lt_trichotomy j p with h | h | h
  · rw [List.getElem?_append_left (by omega), List.getElem?_take_of_lt h] at hy
    rw [pk_un (by omega)]
    exact h1 j y h hy
  · subst h
    rw [List.getElem?_append_right (by omega), hl, Nat.sub_self] at hy
    cases hy
    exact pk_us
  · rw [List.getElem?_append_right (by omega), hl] at hy
    obtain ⟨q, hq⟩ : ∃ q, j - p = q + 1 := ⟨j - p - 1, by omega⟩
    rw [hq, List.getElem?_cons_succ, List.getElem?_drop] at hy
    rw [pk_un (by omega)]
    have := h2 (p + q) y (by omega) hy
    rw [show p + q + 1 = j by omega] at this
    exact this
theorem inT_skip {es : List En} {f g i : Nat} {T : List Int32} {en : En} (h : inT es f g i T) (he : es[i]? = some en) (hq : qFG f g en = false) : inT es f g (i + 1) T := by
  obtain ⟨h1, h2, h3⟩ := h
  refine ⟨h1, fun x => ?_, ?_⟩
  · rw [h2]
    constructor
    · rintro ⟨j, e2, hj, r⟩; exact ⟨j, e2, by omega, r⟩
    · rintro ⟨j, e2, hj, r1, r2, r3⟩
      rcases Nat.lt_or_ge j i with q | q
      · exact ⟨j, e2, q, r1, r2, r3⟩
      · obtain rfl : j = i := by omega
        rw [he] at r1
        cases r1
        rw [hq] at r2
        cases r2
  · rw [cnt_next _ he, hq, h3]; rfl
theorem inT_put {es : List En} {f g i p : Nat} {T : List Int32} {en : En} (h : inT es f g i T) (he : es[i]? = some en) (hq : qFG f g en = true) (hp : p ≤ T.length) (hS : ((T.take p ++ en.2.2.1 :: T.drop p).map uN).Pairwise (· < ·)) : inT es f g (i + 1) (T.take p ++ en.2.2.1 :: T.drop p) := by
  obtain ⟨h1, h2, h3⟩ := h
  refine ⟨hS, fun x => ?_, ?_⟩
  · have hm : x ∈ T.take p ++ en.2.2.1 :: T.drop p ↔ x = en.2.2.1 ∨ x ∈ T := by
      have h9 : x ∈ T ↔ x ∈ T.take p ∨ x ∈ T.drop p := by
        conv => lhs; rw [← List.take_append_drop p T]
        exact List.mem_append
      rw [List.mem_append, List.mem_cons, h9]
      constructor
      · rintro (q | q | q)
        · exact Or.inr (Or.inl q)
        · exact Or.inl q
        · exact Or.inr (Or.inr q)
      · rintro (q | q | q)
        · exact Or.inr (Or.inl q)
        · exact Or.inl q
        · exact Or.inr (Or.inr q)
    rw [hm, h2]
    constructor
    · rintro (rfl | ⟨j, e2, hj, r⟩)
      · exact ⟨i, en, by omega, he, hq, rfl⟩
      · exact ⟨j, e2, by omega, r⟩
    · rintro ⟨j, e2, hj, r1, r2, r3⟩
      rcases Nat.lt_or_ge j i with q | q
      · exact Or.inr ⟨j, e2, q, r1, r2, r3⟩
      · obtain rfl : j = i := by omega
        rw [he] at r1
        cases r1
        exact Or.inl r3.symm
  · rw [cnt_next _ he, hq, ← h3, List.length_append, List.length_cons, List.length_take, List.length_drop]
    show _ = T.length + 1
    omega
/-- a graph that comes again would be another entry of the same key -/
theorem inT_new {es : List En} {f g i : Nat} {T : List Int32} {en : En} (hn : (es.map kyE).Nodup) (h : inT es f g i T) (he : es[i]? = some en) (hq : qFG f g en = true) : en.2.2.1 ∉ T := by
  intro hm
  obtain ⟨j, e2, hj, r1, r2, r3⟩ := (h.2.1 _).mp hm
  have k1 : kyE e2 = kyE en := by
    unfold qFG at hq r2
    rw [Bool.and_eq_true, beq_iff_eq, beq_iff_eq] at hq r2
    unfold kyE
    rw [hq.1, hq.2, r2.1, r2.2, r3]
  have a1 : (es.map kyE)[j]? = some (kyE en) := by rw [List.getElem?_map, r1]; exact congrArg some k1
  have a2 : (es.map kyE)[i]? = some (kyE en) := by rw [List.getElem?_map, he]; rfl
  have hj2 : j < (es.map kyE).length := (List.getElem?_eq_some_iff.mp a1).1
  have hi2 : i < (es.map kyE).length := (List.getElem?_eq_some_iff.mp a2).1
  have := List.pairwise_iff_getElem.mp hn j i hj2 hi2 hj
  exact this ((Option.some.inj ((List.getElem?_eq_getElem hj2).symm.trans a1)).trans (Option.some.inj ((List.getElem?_eq_getElem hi2).symm.trans a2)).symm)
set_option maxHeartbeats 4000000 in
set_option maxRecDepth 100000 in
theorem m_graph (l : Launch) (dC : Nat → ClassId) (dI : Nat → Nat → Nat) (cI cZ : ClassId) (h : Nat → Nat) (sz : Nat) (xt xg : Int32) (aP aK bF bL bB bA bY bR oT oO oR bS : Nat → Int32) (nF nC K : Nat) (cf ct : Nat → Nat) (f g q : Int32) (hF : nF ≤ 10) (hC : nC ≤ 20) (hK8 : 801 ≤ K) (hS0 : ∀ c, c < nC → cf c < nF ∧ ct c < nF) : Met l y_M_graph w_M_graph ({ frames := 4, cells := 0, slots := 0, locals := 96 }) (va_Pc [.ref (h 0), .int f, .int g, .int q] (fun U => U.heap.size = sz ∧ va_P (dC, dI) kls (wM h cI cZ xt (nI nF) (nI nC) xg aP (fun c => nI (cf c)) (fun c => nI (ct c)) aK bF bL bB bA bY bR oT oO oR bS) U.heap ∧ va_K (dC, dI) kls (tyM cI cZ) U ∧ va_D (fun _ => True) (wM h cI cZ xt (nI nF) (nI nC) xg aP (fun c => nI (cf c)) (fun c => nI (ct c)) aK bF bL bB bA bY bR oT oO oR bS))) (va_Qi (fun (r : Int32) (u : Int32 × Int32 × (Nat → Int32) × (Nat → Int32) × (Nat → Int32) × (Nat → Int32) × (Nat → Int32) × (Nat → Int32)) => ((¬ (((∃ i, i < nF ∧ f = nI i) ∧ (∃ j, j < nF ∧ g = nI j)) ∧ 0 ≤ q)) ∧ u.1 = nI 1) ∨ ∃ i j k, i < nF ∧ j < nF ∧ k < 2 ^ 31 ∧ f = nI i ∧ g = nI j ∧ q = nI k ∧ ((800 < (gA nC cf ct aK rj K).length ∧ u.1 = nI 2) ∨ ((gA nC cf ct aK rj K).length ≤ 800 ∧ (((gA nC cf ct aK rj K).countP (qFG i j) ≤ k ∧ u.1 = nI 1) ∨ (k < (gA nC cf ct aK rj K).countP (qFG i j) ∧ u.1 = nI 0 ∧ ∃ T, inT (gA nC cf ct aK rj K) i j (gA nC cf ct aK rj K).length T ∧ T[k]? = some r))))) (fun (u : Int32 × Int32 × (Nat → Int32) × (Nat → Int32) × (Nat → Int32) × (Nat → Int32) × (Nat → Int32) × (Nat → Int32)) (t : State) => va_P (dC, dI) kls (wM h cI cZ u.1 (nI nF) (nI nC) u.2.1 aP (fun c => nI (cf c)) (fun c => nI (ct c)) aK u.2.2.1 u.2.2.2.1 u.2.2.2.2.1 u.2.2.2.2.2.1 u.2.2.2.2.2.2.1 bR oT oO oR u.2.2.2.2.2.2.2) t.heap ∧ va_K (dC, dI) kls (tyM cI cZ) t ∧ va_D (va_A (wM h cI cZ xt (nI nF) (nI nC) xg aP (fun c => nI (cf c)) (fun c => nI (ct c)) aK bF bL bB bA bY bR oT oO oR bS) sz) (wM h cI cZ u.1 (nI nF) (nI nC) u.2.1 aP (fun c => nI (cf c)) (fun c => nI (ct c)) aK u.2.2.1 u.2.2.2.1 u.2.2.2.2.1 u.2.2.2.2.2.1 u.2.2.2.2.2.2.1 bR oT oO oR u.2.2.2.2.2.2.2)) (va_A (wM h cI cZ xt (nI nF) (nI nC) xg aP (fun c => nI (cf c)) (fun c => nI (ct c)) aK bF bL bB bA bY bR oT oO oR bS) sz)) 0 0 (va_A (wM h cI cZ xt (nI nF) (nI nC) xg aP (fun c => nI (cf c)) (fun c => nI (ct c)) aK bF bL bB bA bY bR oT oO oR bS) sz) := by
  refine Met.ofW (cc := c_M_graph) (maxL := 7) (ret := (some .int)) (by decide) rfl ?_
  intro p e s m args below meth c s₁ B hml hv
  obtain ⟨rfl, hsz, hP, hK, hD0⟩ := hv
  have hx := B.exec
  have hb := B.bytes
  have hr := B.returns
  have hts := atoms_spec (ws := w_M_graph) B.pre
  have hk : ∀ w ∈ wMw, w.before _ s = true := fun w h => hts w (List.mem_cons_of_mem _ h)
  have hown : s.vm.findClass R_M = some m.cls := findClass_of_methodNamed B.named
  have hlocks := B.notSynchronized
  subst hsz
  have hD := hD0.self (sz := s.heap.size)
  generalize hAe : va_A (wM h cI cZ xt (nI nF) (nI nC) xg aP (fun c => nI (cf c)) (fun c => nI (ct c)) aK bF bL bB bA bY bR oT oO oR bS) s.heap.size = A at hD ⊢
  have hA : ∀ q : Nat, s.heap.size ≤ q → A q := fun q h => by rw [← hAe]; exact Or.inr h
  have hS : va_S A s.heap s.heap [] := va_S.rf
  have hl := lv_entry ([.ref (h 0), .int f, .int g, .int q]) (n := 7) (Nat.le_of_ble_eq_true rfl)
  rw [lg_entry_eq]
  generalize (lg_sl ([.ref (h 0), .int f, .int g, .int q]) ++ List.replicate (7 - (lg_sl ([.ref (h 0), .int f, .int g, .int q])).length) Slot.unset).toArray = ls at hl ⊢
  have hl : lv_has ls 7 [(0, .ref (h 0)), (1, .int f), (2, .int g), (3, .int q)] := hl
  refine lv_aload_n hx hb d_M_graph_0 rfl (lv_at hl 0 rfl) ?_
  refine lv_aload_n hx hb d_M_graph_1 rfl (lv_at hl 0 rfl) ?_
  refine lv_iload_n hx hb d_M_graph_2 rfl (lv_at hl 1 rfl) ?_
  have hFc := va_free (wc := wM h cI cZ xt (nI nF) (nI nC) xg aP (fun c => nI (cf c)) (fun c => nI (ct c)) aK bF bL bB bA bY bR oT oO oR bS) hD hS hA [0, 1, 2, 3, 4, 5, 6, 7, 8, 9, 10, 11, 12, 13, 14] rfl
  refine va_calli (va_runV (As := [.int f]) (rest := [.ref (h 0)]) ⟨hx, hb, hml, hown, hk⟩ (m_isFunction l dC dI cI cZ h s.heap.size xt (nI nC) xg aP (fun c => nI (cf c)) (fun c => nI (ct c)) aK bF bL bB bA bY bR oT oO oR bS nF f (by omega)) (cwV 1 hk g_M_isFunction rfl rfl rfl (by decide +kernel) ⟨Nat.le_of_ble_eq_true rfl, Nat.le_of_ble_eq_true rfl⟩) ⟨fun a U g mk q => by obtain ⟨q0, q1, qP, qK, qD⟩ := q; exact ⟨q0, q1, qP, va_K.moved (u := U) (U := U.calling g mk a) (Vm.Alike.refl U.vm) qK, qD⟩, va_recv hK hP (ci := 0) (q0 := 0) rfl rfl, fun U hU hW => ⟨rfl, by rw [hU], by rw [hU]; exact hP, va_K.moved hW.alike hK, hD.weaken (fun _ _ _ _ => trivial)⟩⟩ rfl rfl hl.1 rfl (lv_room (Nat.le_of_ble_eq_true rfl)) d_M_graph_3 ⟨Nat.le_of_ble_eq_true rfl, Nat.le_of_ble_eq_true rfl⟩) hS (fun q _ h => hFc q h) hFc (fun r1 u9 t H1 locs ht hvm hw hB hz1 hk1 hS => ?_)
  obtain ⟨hP1, hK1, hD1⟩ := hB
  rw [ht] at hP1
  try dsimp only at hw
  obtain ⟨hP, hD⟩ := va_join (wr := []) (w1 := wM h cI cZ xt (nI nF) (nI nC) xg aP (fun c => nI (cf c)) (fun c => nI (ct c)) aK bF bL bB bA bY bR oT oO oR bS) hP hD [0, 1, 2, 3, 4, 5, 6, 7, 8, 9, 10, 11, 12, 13, 14] [] rfl rfl (by decide) (by decide) hk1 hFc hP1 hD1
  generalize H1 = H at hP hS ⊢
  have hP : va_P (dC, dI) kls (wM h cI cZ xt (nI nF) (nI nC) xg aP (fun c => nI (cf c)) (fun c => nI (ct c)) aK bF bL bB bA bY bR oT oO oR bS) H := hP
  have hD : va_D A (wM h cI cZ xt (nI nF) (nI nC) xg aP (fun c => nI (cf c)) (fun c => nI (ct c)) aK bF bL bB bA bY bR oT oO oR bS) := hD
  rcases hw with ⟨hr9, i1, hi1, hfj⟩ | ⟨hr9, hno_f⟩
  · subst hr9
    subst hfj
    refine lv_if_eq (tgt := 21) hx hb d_M_graph_6 (by decide) (fun c9 => absurd c9 (by decide +kernel)) (fun _ => ?_)
    refine lv_aload_n hx hb d_M_graph_9 rfl (lv_at hl 0 rfl) ?_
    refine lv_iload_n hx hb d_M_graph_10 rfl (lv_at hl 2 rfl) ?_
    have hFc := va_free (wc := wM h cI cZ xt (nI nF) (nI nC) xg aP (fun c => nI (cf c)) (fun c => nI (ct c)) aK bF bL bB bA bY bR oT oO oR bS) hD hS hA [0, 1, 2, 3, 4, 5, 6, 7, 8, 9, 10, 11, 12, 13, 14] rfl
    refine va_calli (va_runV (As := [.int g]) (rest := [.ref (h 0)]) ⟨hx, hb, hml, hown, hk⟩ (m_isFunction l dC dI cI cZ h H.size xt (nI nC) xg aP (fun c => nI (cf c)) (fun c => nI (ct c)) aK bF bL bB bA bY bR oT oO oR bS nF g (by omega)) (cwV 1 hk g_M_isFunction rfl rfl rfl (by decide +kernel) ⟨Nat.le_of_ble_eq_true rfl, Nat.le_of_ble_eq_true rfl⟩) ⟨fun a U g mk q => by obtain ⟨q0, q1, qP, qK, qD⟩ := q; exact ⟨q0, q1, qP, va_K.moved (u := U) (U := U.calling g mk a) (Vm.Alike.refl U.vm) qK, qD⟩, va_recv hK hP (ci := 0) (q0 := 0) rfl rfl, fun U hU hW => ⟨rfl, by rw [hU], by rw [hU]; exact hP, va_K.moved hW.alike hK, hD.weaken (fun _ _ _ _ => trivial)⟩⟩ rfl rfl hl.1 rfl (lv_room (Nat.le_of_ble_eq_true rfl)) d_M_graph_11 ⟨Nat.le_of_ble_eq_true rfl, Nat.le_of_ble_eq_true rfl⟩) hS (fun q _ h => hFc q h) hFc (fun r2 u9 t H1 locs ht hvm hw hB hz1 hk1 hS => ?_)
    obtain ⟨hP1, hK1, hD1⟩ := hB
    rw [ht] at hP1
    try dsimp only at hw
    obtain ⟨hP, hD⟩ := va_join (wr := []) (w1 := wM h cI cZ xt (nI nF) (nI nC) xg aP (fun c => nI (cf c)) (fun c => nI (ct c)) aK bF bL bB bA bY bR oT oO oR bS) hP hD [0, 1, 2, 3, 4, 5, 6, 7, 8, 9, 10, 11, 12, 13, 14] [] rfl rfl (by decide) (by decide) hk1 hFc hP1 hD1
    generalize H1 = H at hP hS ⊢
    have hP : va_P (dC, dI) kls (wM h cI cZ xt (nI nF) (nI nC) xg aP (fun c => nI (cf c)) (fun c => nI (ct c)) aK bF bL bB bA bY bR oT oO oR bS) H := hP
    have hD : va_D A (wM h cI cZ xt (nI nF) (nI nC) xg aP (fun c => nI (cf c)) (fun c => nI (ct c)) aK bF bL bB bA bY bR oT oO oR bS) := hD
    rcases hw with ⟨hr9, j1, hj1, hfj⟩ | ⟨hr9, hno_g⟩
    · subst hr9
      subst hfj
      refine lv_if_eq (tgt := 21) hx hb d_M_graph_14 (by decide) (fun c9 => absurd c9 (by decide +kernel)) (fun _ => ?_)
      refine lv_iload_n hx hb d_M_graph_17 rfl (lv_at hl 3 rfl) ?_
      refine lv_if_ge (tgt := 25) hx hb d_M_graph_18 (by decide) (fun c_18 => ?_) (fun c_18 => ?_)
      · obtain ⟨k1, hkk1, rfl⟩ := nI_of (Int32.not_lt.mpr c_18)
        refine lv_iconst (v := nI 0) hx hb d_M_graph_25 (by decide +kernel) ?_
        refine lv_iconst (v := nI 0) hx hb d_M_graph_26 (by decide +kernel) ?_
        have hFc := va_free (wc := wM h cI cZ xt (nI nF) (nI nC) xg aP (fun c => nI (cf c)) (fun c => nI (ct c)) aK bF bL bB bA bY bR oT oO oR bS) hD hS hA [0, 1, 2, 3, 4, 5, 6, 7, 8, 9, 10, 11, 12, 13, 14] rfl
        refine va_calli (va_runV (As := [.int (nI 0), .int (nI 0)]) (rest := []) ⟨hx, hb, hml, hown, hk⟩ (m_refused l dC dI cI cZ h H.size xt (nI nF) xg aP aK bF bL bB bA bY bR oT oO oR bS nC K cf ct (hC) (hK8) (fun c hc => ⟨by have := hS0 c hc; omega, by have := hS0 c hc; omega⟩)) (cwV 2 hk g_M_refused rfl rfl rfl (by decide +kernel) ⟨Nat.le_of_ble_eq_true rfl, Nat.le_of_ble_eq_true rfl⟩) ⟨fun a U g mk q => by obtain ⟨q0, q1, qP, qK, qD⟩ := q; exact ⟨q0, q1, qP, va_K.moved (u := U) (U := U.calling g mk a) (Vm.Alike.refl U.vm) qK, qD⟩, va_recv hK hP (ci := 0) (q0 := 0) rfl rfl, fun U hU hW => ⟨rfl, by rw [hU], by rw [hU]; exact hP, va_K.moved hW.alike hK, hD.weaken (fun _ _ _ _ => trivial)⟩⟩ rfl rfl hl.1 rfl (lv_room (Nat.le_of_ble_eq_true rfl)) d_M_graph_27 ⟨Nat.le_of_ble_eq_true rfl, Nat.le_of_ble_eq_true rfl⟩) hS (fun q _ h => hFc q h) hFc (fun r3 u9 t H1 locs ht hvm hw hB hz1 hk1 hS => ?_)
        obtain ⟨xt9, xg9, bF9, bL9, bB9, bA9, bY9⟩ := u9
        obtain ⟨hP1, hK1, hD1⟩ := hB
        rw [ht] at hP1
        try dsimp only at hw
        obtain ⟨hP, hD⟩ := va_join (wr := []) (w1 := wM h cI cZ xt9 (nI nF) (nI nC) xg9 aP (fun c => nI (cf c)) (fun c => nI (ct c)) aK bF9 bL9 bB9 bA9 bY9 bR oT oO oR bS) hP hD [0, 1, 2, 3, 4, 5, 6, 7, 8, 9, 10, 11, 12, 13, 14] [] rfl rfl (by decide) (by decide) hk1 hFc hP1 hD1
        generalize H1 = H at hP hS ⊢
        have hP : va_P (dC, dI) kls (wM h cI cZ xt9 (nI nF) (nI nC) xg9 aP (fun c => nI (cf c)) (fun c => nI (ct c)) aK bF9 bL9 bB9 bA9 bY9 bR oT oO oR bS) H := hP
        have hD : va_D A (wM h cI cZ xt9 (nI nF) (nI nC) xg9 aP (fun c => nI (cf c)) (fun c => nI (ct c)) aK bF9 bL9 bB9 bA9 bY9 bR oT oO oR bS) := hD
        rcases hw with ⟨hr9, hu9, hle, hg9, hE9⟩ | ⟨hr9, hu9, hgt⟩
        · subst hr9
          subst hu9
          subst hg9
          have hsm : smE (gA nC cf ct aK rj K) := sm_of (fun c hc => ⟨by have := hS0 c hc; omega, by have := hS0 c hc; omega⟩) (bsG_ok nC cf ct aK rj (fun _ => true) K)
          refine lv_if_eq (tgt := 35) hx hb d_M_graph_30 (by decide) (fun _ => ?_) (fun c9 => absurd c9 (by decide +kernel))
          refine lv_iload_n hx hb d_M_graph_35 rfl (lv_at hl 3 rfl) ?_
          refine lv_aload_n hx hb d_M_graph_36 rfl (lv_at hl 0 rfl) ?_
          refine lv_iload_n hx hb d_M_graph_37 rfl (lv_at hl 1 rfl) ?_
          refine lv_iload_n hx hb d_M_graph_38 rfl (lv_at hl 2 rfl) ?_
          have hFc := va_free (wc := wM h cI cZ (nI 0) (nI nF) (nI nC) (nI ((gA nC cf ct aK rj K).length)) aP (fun c => nI (cf c)) (fun c => nI (ct c)) aK bF9 bL9 bB9 bA9 bY9 bR oT oO oR bS) hD hS hA [0, 1, 2, 3, 4, 5, 6, 7, 8, 9, 10, 11, 12, 13, 14] rfl
          refine va_calli (va_runV (As := [.int (nI i1), .int (nI j1)]) (rest := [.int (nI k1)]) ⟨hx, hb, hml, hown, hk⟩ (m_between l dC dI cI cZ h H.size (nI 0) (nI nF) (nI nC) aP (fun c => nI (cf c)) (fun c => nI (ct c)) aK bF9 bL9 bB9 bA9 bY9 bR oT oO oR bS (gA nC cf ct aK rj K) i1 j1 (by omega) (hE9) (hsm) (by omega) (by omega)) (cwV 2 hk g_M_between rfl rfl rfl (by decide +kernel) ⟨Nat.le_of_ble_eq_true rfl, Nat.le_of_ble_eq_true rfl⟩) ⟨fun a U g mk q => by obtain ⟨q0, q1, qP, qK, qD⟩ := q; exact ⟨q0, q1, qP, va_K.moved (u := U) (U := U.calling g mk a) (Vm.Alike.refl U.vm) qK, qD⟩, va_recv hK hP (ci := 0) (q0 := 0) rfl rfl, fun U hU hW => ⟨rfl, by rw [hU], by rw [hU]; exact hP, va_K.moved hW.alike hK, hD.weaken (fun _ _ _ _ => trivial)⟩⟩ rfl rfl hl.1 rfl (lv_room (Nat.le_of_ble_eq_true rfl)) d_M_graph_39 ⟨Nat.le_of_ble_eq_true rfl, Nat.le_of_ble_eq_true rfl⟩) hS (fun q _ h => hFc q h) hFc (fun r4 u9 t H1 locs ht hvm hw hB hz1 hk1 hS => ?_)
          obtain ⟨hP1, hK1, hD1⟩ := hB
          rw [ht] at hP1
          try dsimp only at hw
          obtain ⟨hP, hD⟩ := va_join (wr := []) (w1 := wM h cI cZ (nI 0) (nI nF) (nI nC) (nI ((gA nC cf ct aK rj K).length)) aP (fun c => nI (cf c)) (fun c => nI (ct c)) aK bF9 bL9 bB9 bA9 bY9 bR oT oO oR bS) hP hD [0, 1, 2, 3, 4, 5, 6, 7, 8, 9, 10, 11, 12, 13, 14] [] rfl rfl (by decide) (by decide) hk1 hFc hP1 hD1
          generalize H1 = H at hP hS ⊢
          have hP : va_P (dC, dI) kls (wM h cI cZ (nI 0) (nI nF) (nI nC) (nI ((gA nC cf ct aK rj K).length)) aP (fun c => nI (cf c)) (fun c => nI (ct c)) aK bF9 bL9 bB9 bA9 bY9 bR oT oO oR bS) H := hP
          have hD : va_D A (wM h cI cZ (nI 0) (nI nF) (nI nC) (nI ((gA nC cf ct aK rj K).length)) aP (fun c => nI (cf c)) (fun c => nI (ct c)) aK bF9 bL9 bB9 bA9 bY9 bR oT oO oR bS) := hD
          subst hw
          have hcl := List.countP_le_length (p := qFG i1 j1) (l := gA nC cf ct aK rj K)
          refine lv_icmp_lt (tgt := 52) hx hb d_M_graph_42 (by decide) (fun c_42 => ?_) (fun c_42 => ?_)
          · have c_42 : k1 < (gA nC cf ct aK rj K).countP (qFG i1 j1) := (nI_ltI (a := k1) (b := (gA nC cf ct aK rj K).countP (qFG i1 j1)) (by omega) (by omega)).mp c_42
            refine lv_iconst (v := nI 0) hx hb d_M_graph_52 (by decide +kernel) ?_
            refine lv_istore (lv' := [(4, .int (nI 0)), (0, .ref (h 0)), (1, .int (nI i1)), (2, .int (nI j1)), (3, .int (nI k1))]) hx hb d_M_graph_53 hl (by decide) rfl (fun ls hl => ?_)
            refine lv_iconst (v := nI 0) hx hb d_M_graph_55 (by decide +kernel) ?_
            refine lv_istore (lv' := [(5, .int (nI 0)), (4, .int (nI 0)), (0, .ref (h 0)), (1, .int (nI i1)), (2, .int (nI j1)), (3, .int (nI k1))]) hx hb d_M_graph_56 hl (by decide) rfl (fun ls hl => ?_)
            have hin0 : inT (gA nC cf ct aK rj K) i1 j1 0 [] := ⟨List.Pairwise.nil, fun x => ⟨fun z => absurd z List.not_mem_nil, fun ⟨j, _, hj, _⟩ => absurd hj (Nat.not_lt_zero _)⟩, rfl⟩
            have lpO : ∀ (n_lpO : Nat) (i : Nat) (T : List Int32) (bS : Nat → Int32), (i ≤ (gA nC cf ct aK rj K).length) → (inT (gA nC cf ct aK rj K) i1 j1 i T) → (hT T bS) → (gA nC cf ct aK rj K).length - i < n_lpO → ∀ (H : Heap) (locs : List Loc) (ls : Array Slot), va_P (dC, dI) kls (wM h cI cZ (nI 0) (nI nF) (nI nC) (nI ((gA nC cf ct aK rj K).length)) aP (fun c => nI (cf c)) (fun c => nI (ct c)) aK bF9 bL9 bB9 bA9 bY9 bR oT oO oR bS) H → va_D A (wM h cI cZ (nI 0) (nI nF) (nI nC) (nI ((gA nC cf ct aK rj K).length)) aP (fun c => nI (cf c)) (fun c => nI (ct c)) aK bF9 bL9 bB9 bA9 bY9 bR oT oO oR bS) → va_S A s.heap H locs → lv_has ls 7 [(0, .ref (h 0)), (1, .int (nI i1)), (2, .int (nI j1)), (3, .int (nI k1)), (4, .int (nI T.length)), (5, .int (nI i))] → W p l e (headSpec w_M_graph ({ frames := 4, cells := 0, slots := 0, locals := 96 })).room s m ([.ref (h 0), .int (nI i1), .int (nI j1), .int (nI k1)]).toArray below meth c H locs 0 0 (MQ below (va_Qi (fun (r : Int32) (u : Int32 × Int32 × (Nat → Int32) × (Nat → Int32) × (Nat → Int32) × (Nat → Int32) × (Nat → Int32) × (Nat → Int32)) => ((¬ (((∃ i, i < nF ∧ (nI i1) = nI i) ∧ (∃ j, j < nF ∧ (nI j1) = nI j)) ∧ 0 ≤ (nI k1))) ∧ u.1 = nI 1) ∨ ∃ i j k, i < nF ∧ j < nF ∧ k < 2 ^ 31 ∧ (nI i1) = nI i ∧ (nI j1) = nI j ∧ (nI k1) = nI k ∧ ((800 < (gA nC cf ct aK rj K).length ∧ u.1 = nI 2) ∨ ((gA nC cf ct aK rj K).length ≤ 800 ∧ (((gA nC cf ct aK rj K).countP (qFG i j) ≤ k ∧ u.1 = nI 1) ∨ (k < (gA nC cf ct aK rj K).countP (qFG i j) ∧ u.1 = nI 0 ∧ ∃ T, inT (gA nC cf ct aK rj K) i j (gA nC cf ct aK rj K).length T ∧ T[k]? = some r))))) (fun (u : Int32 × Int32 × (Nat → Int32) × (Nat → Int32) × (Nat → Int32) × (Nat → Int32) × (Nat → Int32) × (Nat → Int32)) (t : State) => va_P (dC, dI) kls (wM h cI cZ u.1 (nI nF) (nI nC) u.2.1 aP (fun c => nI (cf c)) (fun c => nI (ct c)) aK u.2.2.1 u.2.2.2.1 u.2.2.2.2.1 u.2.2.2.2.2.1 u.2.2.2.2.2.2.1 bR oT oO oR u.2.2.2.2.2.2.2) t.heap ∧ va_K (dC, dI) kls (tyM cI cZ) t ∧ va_D (A) (wM h cI cZ u.1 (nI nF) (nI nC) u.2.1 aP (fun c => nI (cf c)) (fun c => nI (ct c)) aK u.2.2.1 u.2.2.2.1 u.2.2.2.2.1 u.2.2.2.2.2.1 u.2.2.2.2.2.2.1 bR oT oO oR u.2.2.2.2.2.2.2)) A) ([.ref (h 0), .int (nI i1), .int (nI j1), .int (nI k1)]).toArray s 0 0 A) (F0 m 58 ls []) := by
              intro n_lpO
              induction n_lpO with
              | zero => intro i T bS hi0 hin hhT hn; exact absurd hn (Nat.not_lt_zero _)
              | succ n_lpO ih_lpO =>
                intro i T bS hi0 hin hhT hn H locs ls hP hD hS hl
                refine lv_iload hx hb d_M_graph_58 (lv_at hl 5 rfl) ?_
                refine lv_aload_n hx hb d_M_graph_60 rfl (lv_at hl 0 rfl) ?_
                refine va_get (D := (dC, dI)) (ci := 0) (v := .int (nI ((gA nC cf ct aK rj K).length))) (C := R_M) (T := F_M) (N := 18) hx hb hk k_M_f hown hK hP 0 rfl rfl 7 (by decide) (hk _ k_M_15) (fun _ h9 => h9) rfl d_M_graph_61 ?_
                refine lv_icmp_ge (tgt := 168) hx hb d_M_graph_64 (by decide) (fun c_64 => ?_) (fun c_64 => ?_)
                · have c_64 : (gA nC cf ct aK rj K).length ≤ i := (nI_leI (a := (gA nC cf ct aK rj K).length) (b := i) (by omega) (by omega)).mp c_64
                  refine lv_aload_n hx hb d_M_graph_168 rfl (lv_at hl 0 rfl) ?_
                  refine va_get (D := (dC, dI)) (ci := 0) (v := .ref (h 14)) (C := R_M) (T := F_M) (N := 18) hx hb hk k_M_f hown hK hP 0 rfl rfl 17 (by decide) (hk _ k_M_25) (fun _ h9 => h9) rfl d_M_graph_169 ?_
                  refine lv_iload_n hx hb d_M_graph_172 rfl (lv_at hl 3 rfl) ?_
                  refine va_iald hx hb hK hP 14 0 rfl rfl (pk_in k1 801 (by omega)) d_M_graph_173 ?_
                  refine lv_topi (fun z5 ez5 => ?_)
                  obtain rfl : z5 = bS k1 := ez5.trans (rd (f := bS) (k := k1) (by omega))
                  have hil : i = (gA nC cf ct aK rj K).length := by omega
                  rw [hil] at hin
                  have hkl : k1 < T.length := by rw [hin.2.2, List.take_length]; exact c_42
                  obtain ⟨y1, hy1⟩ : ∃ y1, T[k1]? = some y1 := ⟨_, List.getElem?_eq_getElem hkl⟩
                  have hk9 : T[k1]? = some (bS k1) := by rw [hhT k1 y1 hy1]; exact hy1
                  exact W.iret (v := bS k1) hx hb hr (fun t ht hW => ⟨⟨bS k1, (nI 0, nI (gA nC cf ct aK rj K).length, bF9, bL9, bB9, bA9, bY9, bS), rfl, Or.inr ⟨i1, j1, k1, hi1, hj1, hkk1, rfl, rfl, rfl, Or.inr ⟨hle, Or.inr ⟨c_42, rfl, T, hin, hk9⟩⟩⟩, by rw [ht]; exact hP, va_K.moved hW.alike hK, hD⟩, hS.F ht⟩) hS.2.2 d_M_graph_174
                · have c_64 : ¬ (gA nC cf ct aK rj K).length ≤ i := fun z9 => c_64 ((nI_leI (a := (gA nC cf ct aK rj K).length) (b := i) (by omega) (by omega)).mpr z9)
                  obtain ⟨en, hen⟩ : ∃ en, (gA nC cf ct aK rj K)[i]? = some en := ⟨_, List.getElem?_eq_getElem (by omega)⟩
                  obtain ⟨q1, q2, q3, -, -⟩ := hE9 i en hen
                  have hsn := hsm en (List.mem_of_getElem? hen)
                  have hTl : T.length ≤ i := by rw [hin.2.2]; exact Nat.le_trans List.countP_le_length (by rw [List.length_take]; omega)
                  refine lv_aload_n hx hb d_M_graph_67 rfl (lv_at hl 0 rfl) ?_
                  refine va_get (D := (dC, dI)) (ci := 0) (v := .ref (h 5)) (C := R_M) (T := F_M) (N := 18) hx hb hk k_M_f hown hK hP 0 rfl rfl 8 (by decide) (hk _ k_M_16) (fun _ h9 => h9) rfl d_M_graph_68 ?_
                  refine lv_iload hx hb d_M_graph_71 (lv_at hl 5 rfl) ?_
                  refine va_iald hx hb hK hP 5 0 rfl rfl (pk_in i 801 (by omega)) d_M_graph_73 ?_
                  refine lv_topi (fun z6 ez6 => ?_)
                  obtain rfl : z6 = nI en.1 := ez6.trans ((rd (f := bF9) (k := i) (by omega)).trans q1)
                  refine lv_iload_n hx hb d_M_graph_74 rfl (lv_at hl 1 rfl) ?_
                  refine lv_icmp_ne (tgt := 162) hx hb d_M_graph_75 (by decide) (fun c_75 => ?_) (fun c_75 => ?_)
                  · have c_75 : ¬ en.1 = i1 := fun z9 => c_75 ((nI_eq (a := en.1) (b := i1) (by omega) (by omega)).mpr z9)
                    refine lv_iinc (v := nI (i + 1)) (lv' := [(5, .int (nI (i + 1))), (0, .ref (h 0)), (1, .int (nI i1)), (2, .int (nI j1)), (3, .int (nI k1)), (4, .int (nI T.length))]) hx hb d_M_graph_162 hl (k := 5) rfl (nI_add i 1) (by decide) rfl (fun ls hl => ?_)
                    refine lv_goto (tgt := 58) hx hb d_M_graph_165 (by decide) ?_
                    have hq9 : qFG i1 j1 en = false := by unfold qFG; first | (rw [show (en.1 == i1) = false from beq_eq_false_iff_ne.mpr c_75]; rfl) | (rw [show (en.2.1 == j1) = false from beq_eq_false_iff_ne.mpr c_86]; simp)
                    exact ih_lpO (i + 1) T bS (by omega) (inT_skip hin hen hq9) (hhT) (by omega) _ _ _ hP hD hS (lv_sub hl [1, 2, 3, 4, 5, 0] rfl)
                  · have c_75 : en.1 = i1 := (nI_eq (a := en.1) (b := i1) (by omega) (by omega)).mp c_75
                    refine lv_aload_n hx hb d_M_graph_78 rfl (lv_at hl 0 rfl) ?_
                    refine va_get (D := (dC, dI)) (ci := 0) (v := .ref (h 6)) (C := R_M) (T := F_M) (N := 18) hx hb hk k_M_f hown hK hP 0 rfl rfl 9 (by decide) (hk _ k_M_17) (fun _ h9 => h9) rfl d_M_graph_79 ?_
                    refine lv_iload hx hb d_M_graph_82 (lv_at hl 5 rfl) ?_
                    refine va_iald hx hb hK hP 6 0 rfl rfl (pk_in i 801 (by omega)) d_M_graph_84 ?_
                    refine lv_topi (fun z7 ez7 => ?_)
                    obtain rfl : z7 = nI en.2.1 := ez7.trans ((rd (f := bL9) (k := i) (by omega)).trans q2)
                    refine lv_iload_n hx hb d_M_graph_85 rfl (lv_at hl 2 rfl) ?_
                    refine lv_icmp_eq (tgt := 92) hx hb d_M_graph_86 (by decide) (fun c_86 => ?_) (fun c_86 => ?_)
                    · have c_86 : en.2.1 = j1 := (nI_eq (a := en.2.1) (b := j1) (by omega) (by omega)).mp c_86
                      refine lv_iload hx hb d_M_graph_92 (lv_at hl 4 rfl) ?_
                      refine lv_istore (lv' := [(6, .int (nI T.length)), (0, .ref (h 0)), (1, .int (nI i1)), (2, .int (nI j1)), (3, .int (nI k1)), (4, .int (nI T.length)), (5, .int (nI i))]) hx hb d_M_graph_94 hl (by decide) rfl (fun ls hl => ?_)
                      have hq9 : qFG i1 j1 en = true := by unfold qFG; rw [c_75, c_86]; simp
                      have lpI : ∀ (n_lpI : Nat) (p9 : Nat) (bS : Nat → Int32), (p9 ≤ T.length) → (∀ j y, j < p9 → T[j]? = some y → bS j = y) → (∀ j y, p9 ≤ j → T[j]? = some y → bS (j + 1) = y) → (∀ j y, p9 ≤ j → T[j]? = some y → uN en.2.2.1 < uN y) → p9 < n_lpI → ∀ (H : Heap) (locs : List Loc) (ls : Array Slot), va_P (dC, dI) kls (wM h cI cZ (nI 0) (nI nF) (nI nC) (nI ((gA nC cf ct aK rj K).length)) aP (fun c => nI (cf c)) (fun c => nI (ct c)) aK bF9 bL9 bB9 bA9 bY9 bR oT oO oR bS) H → va_D A (wM h cI cZ (nI 0) (nI nF) (nI nC) (nI ((gA nC cf ct aK rj K).length)) aP (fun c => nI (cf c)) (fun c => nI (ct c)) aK bF9 bL9 bB9 bA9 bY9 bR oT oO oR bS) → va_S A s.heap H locs → lv_has ls 7 [(0, .ref (h 0)), (1, .int (nI i1)), (2, .int (nI j1)), (3, .int (nI k1)), (4, .int (nI T.length)), (5, .int (nI i)), (6, .int (nI p9))] → W p l e (headSpec w_M_graph ({ frames := 4, cells := 0, slots := 0, locals := 96 })).room s m ([.ref (h 0), .int (nI i1), .int (nI j1), .int (nI k1)]).toArray below meth c H locs 0 0 (MQ below (va_Qi (fun (r : Int32) (u : Int32 × Int32 × (Nat → Int32) × (Nat → Int32) × (Nat → Int32) × (Nat → Int32) × (Nat → Int32) × (Nat → Int32)) => ((¬ (((∃ i, i < nF ∧ (nI i1) = nI i) ∧ (∃ j, j < nF ∧ (nI j1) = nI j)) ∧ 0 ≤ (nI k1))) ∧ u.1 = nI 1) ∨ ∃ i j k, i < nF ∧ j < nF ∧ k < 2 ^ 31 ∧ (nI i1) = nI i ∧ (nI j1) = nI j ∧ (nI k1) = nI k ∧ ((800 < (gA nC cf ct aK rj K).length ∧ u.1 = nI 2) ∨ ((gA nC cf ct aK rj K).length ≤ 800 ∧ (((gA nC cf ct aK rj K).countP (qFG i j) ≤ k ∧ u.1 = nI 1) ∨ (k < (gA nC cf ct aK rj K).countP (qFG i j) ∧ u.1 = nI 0 ∧ ∃ T, inT (gA nC cf ct aK rj K) i j (gA nC cf ct aK rj K).length T ∧ T[k]? = some r))))) (fun (u : Int32 × Int32 × (Nat → Int32) × (Nat → Int32) × (Nat → Int32) × (Nat → Int32) × (Nat → Int32) × (Nat → Int32)) (t : State) => va_P (dC, dI) kls (wM h cI cZ u.1 (nI nF) (nI nC) u.2.1 aP (fun c => nI (cf c)) (fun c => nI (ct c)) aK u.2.2.1 u.2.2.2.1 u.2.2.2.2.1 u.2.2.2.2.2.1 u.2.2.2.2.2.2.1 bR oT oO oR u.2.2.2.2.2.2.2) t.heap ∧ va_K (dC, dI) kls (tyM cI cZ) t ∧ va_D (A) (wM h cI cZ u.1 (nI nF) (nI nC) u.2.1 aP (fun c => nI (cf c)) (fun c => nI (ct c)) aK u.2.2.1 u.2.2.2.1 u.2.2.2.2.1 u.2.2.2.2.2.1 u.2.2.2.2.2.2.1 bR oT oO oR u.2.2.2.2.2.2.2)) A) ([.ref (h 0), .int (nI i1), .int (nI j1), .int (nI k1)]).toArray s 0 0 A) (F0 m 96 ls []) := by
                        intro n_lpI
                        induction n_lpI with
                        | zero => intro p9 bS hp0 hA1 hA2 hbig hn; exact absurd hn (Nat.not_lt_zero _)
                        | succ n_lpI ih_lpI =>
                          intro p9 bS hp0 hA1 hA2 hbig hn H locs ls hP hD hS hl
                          refine lv_iload hx hb d_M_graph_96 (lv_at hl 6 rfl) ?_
                          refine lv_if_le (tgt := 145) hx hb d_M_graph_98 (by decide) (fun c_98 => ?_) (fun c_98 => ?_)
                          · have c_98 : p9 ≤ 0 := (nI_leI (a := p9) (b := 0) (by omega) (by omega)).mp c_98
                            have hlow : ∀ y, 0 < p9 → T[p9 - 1]? = some y → ¬ uN en.2.2.1 < uN y := by
                              intro y hp hy
                              first
                                | omega
                                | (have := hA1 (p9 - 1) y (by omega) hy; rw [this] at hless; exact hless)
                            refine lv_aload_n hx hb d_M_graph_145 rfl (lv_at hl 0 rfl) ?_
                            refine va_get (D := (dC, dI)) (ci := 0) (v := .ref (h 14)) (C := R_M) (T := F_M) (N := 18) hx hb hk k_M_f hown hK hP 0 rfl rfl 17 (by decide) (hk _ k_M_25) (fun _ h9 => h9) rfl d_M_graph_146 ?_
                            refine lv_iload hx hb d_M_graph_149 (lv_at hl 6 rfl) ?_
                            refine lv_aload_n hx hb d_M_graph_151 rfl (lv_at hl 0 rfl) ?_
                            refine va_get (D := (dC, dI)) (ci := 0) (v := .ref (h 7)) (C := R_M) (T := F_M) (N := 18) hx hb hk k_M_f hown hK hP 0 rfl rfl 10 (by decide) (hk _ k_M_18) (fun _ h9 => h9) rfl d_M_graph_152 ?_
                            refine lv_iload hx hb d_M_graph_155 (lv_at hl 5 rfl) ?_
                            refine va_iald hx hb hK hP 7 0 rfl rfl (pk_in i 801 (by omega)) d_M_graph_157 ?_
                            refine lv_topi (fun z8 ez8 => ?_)
                            obtain rfl : z8 = en.2.2.1 := ez8.trans ((rd (f := bB9) (k := i) (by omega)).trans q3)
                            refine va_iast hx hb hK hP hD hS 14 0 rfl rfl (pk_in p9 801 (by omega)) d_M_graph_158 (fun H locs hP hD hS => ?_)
                            rw [nI_clamp (n := p9) (by omega)] at hP hD
                            have hP : va_P (dC, dI) kls (wM h cI cZ (nI 0) (nI nF) (nI nC) (nI ((gA nC cf ct aK rj K).length)) aP (fun c => nI (cf c)) (fun c => nI (ct c)) aK bF9 bL9 bB9 bA9 bY9 bR oT oO oR (upd bS p9 en.2.2.1)) H := hP
                            have hD : va_D A (wM h cI cZ (nI 0) (nI nF) (nI nC) (nI ((gA nC cf ct aK rj K).length)) aP (fun c => nI (cf c)) (fun c => nI (ct c)) aK bF9 bL9 bB9 bA9 bY9 bR oT oO oR (upd bS p9 en.2.2.1)) := hD
                            refine lv_iinc (v := nI (T.length + 1)) (lv' := [(4, .int (nI (T.length + 1))), (0, .ref (h 0)), (1, .int (nI i1)), (2, .int (nI j1)), (3, .int (nI k1)), (5, .int (nI i)), (6, .int (nI p9))]) hx hb d_M_graph_159 hl (k := 4) rfl (nI_add T.length 1) (by decide) rfl (fun ls hl => ?_)
                            refine lv_iinc (v := nI (i + 1)) (lv' := [(5, .int (nI (i + 1))), (4, .int (nI (T.length + 1))), (0, .ref (h 0)), (1, .int (nI i1)), (2, .int (nI j1)), (3, .int (nI k1)), (6, .int (nI p9))]) hx hb d_M_graph_162 hl (k := 5) rfl (nI_add i 1) (by decide) rfl (fun ls hl => ?_)
                            refine lv_goto (tgt := 58) hx hb d_M_graph_165 (by decide) ?_
                            have hlen9 : (T.take p9 ++ en.2.2.1 :: T.drop p9).length = T.length + 1 := by rw [List.length_append, List.length_cons, List.length_take, List.length_drop]; omega
                            rw [← hlen9] at hl
                            have hput : inT (gA nC cf ct aK rj K) i1 j1 (i + 1) (T.take p9 ++ en.2.2.1 :: T.drop p9) := inT_put hin hen hq9 hp0 (gp_put hin.1 hp0 (inT_new (bsG_nd nC cf ct aK rj (fun _ => true) K) hin hen hq9) hlow hbig)
                            exact ih_lpO (i + 1) (T.take p9 ++ en.2.2.1 :: T.drop p9) (upd bS p9 en.2.2.1) (by omega) (hput) (hT_put hp0 hA1 hA2) (by omega) _ _ _ hP hD hS (lv_sub hl [2, 3, 4, 5, 1, 0] rfl)
                          · have c_98 : ¬ p9 ≤ 0 := fun z9 => c_98 ((nI_leI (a := p9) (b := 0) (by omega) (by omega)).mpr z9)
                            refine lv_aload_n hx hb d_M_graph_101 rfl (lv_at hl 0 rfl) ?_
                            refine va_get (D := (dC, dI)) (ci := 0) (v := .ref (h 7)) (C := R_M) (T := F_M) (N := 18) hx hb hk k_M_f hown hK hP 0 rfl rfl 10 (by decide) (hk _ k_M_18) (fun _ h9 => h9) rfl d_M_graph_102 ?_
                            refine lv_iload hx hb d_M_graph_105 (lv_at hl 5 rfl) ?_
                            refine va_iald hx hb hK hP 7 0 rfl rfl (pk_in i 801 (by omega)) d_M_graph_107 ?_
                            refine lv_topi (fun z9 ez9 => ?_)
                            obtain rfl : z9 = en.2.2.1 := ez9.trans ((rd (f := bB9) (k := i) (by omega)).trans q3)
                            refine lv_aload_n hx hb d_M_graph_108 rfl (lv_at hl 0 rfl) ?_
                            refine va_get (D := (dC, dI)) (ci := 0) (v := .ref (h 14)) (C := R_M) (T := F_M) (N := 18) hx hb hk k_M_f hown hK hP 0 rfl rfl 17 (by decide) (hk _ k_M_25) (fun _ h9 => h9) rfl d_M_graph_109 ?_
                            refine lv_iload hx hb d_M_graph_112 (lv_at hl 6 rfl) ?_
                            refine lv_iconst (v := nI 1) hx hb d_M_graph_114 (by decide +kernel) ?_
                            refine lv_isub hx hb d_M_graph_115 ?_
                            refine lv_topi (fun z10 ez10 => ?_)
                            obtain rfl : z10 = nI (p9 - 1) := ez10.trans (pk_sub (by omega))
                            refine va_iald hx hb hK hP 14 0 rfl rfl (pk_in (p9 - 1) 801 (by omega)) d_M_graph_116 ?_
                            refine lv_topi (fun z11 ez11 => ?_)
                            obtain rfl : z11 = bS (p9 - 1) := ez11.trans (rd (f := bS) (k := p9 - 1) (by omega))
                            refine vp_callSi (W.runS (As := [.int en.2.2.1, .int (bS (p9 - 1))]) (rest := []) ⟨hx, hb, hml, hown, hk⟩ (m_isLess l en.2.2.1 (bS (p9 - 1))) (cwS 2 hk g_M_isLess rfl rfl rfl (by decide +kernel) ⟨Nat.le_of_ble_eq_true rfl, Nat.le_of_ble_eq_true rfl⟩) ⟨fun a U g mk q => q, fun U hU hW => ⟨rfl, trivial⟩⟩ rfl rfl hl.1 rfl (lv_room (Nat.le_of_ble_eq_true rfl)) d_M_graph_117 ⟨Nat.le_of_ble_eq_true rfl, Nat.le_of_ble_eq_true rfl⟩) (fun r12 hw => ?_)
                            rcases hw with ⟨hr9, hless⟩ | ⟨hr9, hless⟩
                            · subst hr9
                              refine lv_if_eq (tgt := 145) hx hb d_M_graph_120 (by decide) (fun c9 => absurd c9 (by decide +kernel)) (fun _ => ?_)
                              refine lv_aload_n hx hb d_M_graph_123 rfl (lv_at hl 0 rfl) ?_
                              refine va_get (D := (dC, dI)) (ci := 0) (v := .ref (h 14)) (C := R_M) (T := F_M) (N := 18) hx hb hk k_M_f hown hK hP 0 rfl rfl 17 (by decide) (hk _ k_M_25) (fun _ h9 => h9) rfl d_M_graph_124 ?_
                              refine lv_iload hx hb d_M_graph_127 (lv_at hl 6 rfl) ?_
                              refine lv_aload_n hx hb d_M_graph_129 rfl (lv_at hl 0 rfl) ?_
                              refine va_get (D := (dC, dI)) (ci := 0) (v := .ref (h 14)) (C := R_M) (T := F_M) (N := 18) hx hb hk k_M_f hown hK hP 0 rfl rfl 17 (by decide) (hk _ k_M_25) (fun _ h9 => h9) rfl d_M_graph_130 ?_
                              refine lv_iload hx hb d_M_graph_133 (lv_at hl 6 rfl) ?_
                              refine lv_iconst (v := nI 1) hx hb d_M_graph_135 (by decide +kernel) ?_
                              refine lv_isub hx hb d_M_graph_136 ?_
                              refine lv_topi (fun z13 ez13 => ?_)
                              obtain rfl : z13 = nI (p9 - 1) := ez13.trans (pk_sub (by omega))
                              refine va_iald hx hb hK hP 14 0 rfl rfl (pk_in (p9 - 1) 801 (by omega)) d_M_graph_137 ?_
                              refine lv_topi (fun z14 ez14 => ?_)
                              obtain rfl : z14 = bS (p9 - 1) := ez14.trans (rd (f := bS) (k := p9 - 1) (by omega))
                              refine va_iast hx hb hK hP hD hS 14 0 rfl rfl (pk_in p9 801 (by omega)) d_M_graph_138 (fun H locs hP hD hS => ?_)
                              rw [nI_clamp (n := p9) (by omega)] at hP hD
                              have hP : va_P (dC, dI) kls (wM h cI cZ (nI 0) (nI nF) (nI nC) (nI ((gA nC cf ct aK rj K).length)) aP (fun c => nI (cf c)) (fun c => nI (ct c)) aK bF9 bL9 bB9 bA9 bY9 bR oT oO oR (upd bS p9 (bS (p9 - 1)))) H := hP
                              have hD : va_D A (wM h cI cZ (nI 0) (nI nF) (nI nC) (nI ((gA nC cf ct aK rj K).length)) aP (fun c => nI (cf c)) (fun c => nI (ct c)) aK bF9 bL9 bB9 bA9 bY9 bR oT oO oR (upd bS p9 (bS (p9 - 1)))) := hD
                              refine lv_iinc (v := nI (p9 - 1)) (lv' := [(6, .int (nI (p9 - 1))), (0, .ref (h 0)), (1, .int (nI i1)), (2, .int (nI j1)), (3, .int (nI k1)), (4, .int (nI T.length)), (5, .int (nI i))]) hx hb d_M_graph_139 hl (k := 6) rfl (sb_m1 (by omega)) (by decide) rfl (fun ls hl => ?_)
                              refine lv_goto (tgt := 96) hx hb d_M_graph_142 (by decide) ?_
                              obtain ⟨y1, hy1⟩ : ∃ y1, T[p9 - 1]? = some y1 := ⟨_, List.getElem?_eq_getElem (by omega)⟩
                              have hb1 := hA1 (p9 - 1) y1 (by omega) hy1
                              rw [hb1] at hless
                              have hB1 : ∀ j y, j < p9 - 1 → T[j]? = some y → upd bS p9 (bS (p9 - 1)) j = y := fun j y hj hy => by rw [pk_un (by omega)]; exact hA1 j y (by omega) hy
                              have hB2 : ∀ j y, p9 - 1 ≤ j → T[j]? = some y → upd bS p9 (bS (p9 - 1)) (j + 1) = y := by
                                intro j y hj hy
                                rcases Nat.lt_or_ge j p9 with z | z
                                · obtain rfl : j = p9 - 1 := by omega
                                  rw [show p9 - 1 + 1 = p9 by omega, pk_us, hb1]
                                  rw [hy1] at hy
                                  exact Option.some.inj hy
                                · rw [pk_un (by omega)]
                                  exact hA2 j y z hy
                              have hB3 : ∀ j y, p9 - 1 ≤ j → T[j]? = some y → uN en.2.2.1 < uN y := by
                                intro j y hj hy
                                rcases Nat.lt_or_ge j p9 with z | z
                                · obtain rfl : j = p9 - 1 := by omega
                                  rw [hy1] at hy
                                  cases hy
                                  exact hless
                                · exact hbig j y z hy
                              exact ih_lpI (p9 - 1) (upd bS p9 (bS (p9 - 1))) (by omega) (hB1) (hB2) (hB3) (by omega) _ _ _ hP hD hS (lv_sub hl [1, 2, 3, 4, 5, 6, 0] rfl)
                            · subst hr9
                              refine lv_if_eq (tgt := 145) hx hb d_M_graph_120 (by decide) (fun _ => ?_) (fun c9 => absurd c9 (by decide +kernel))
                              have hlow : ∀ y, 0 < p9 → T[p9 - 1]? = some y → ¬ uN en.2.2.1 < uN y := by
                                intro y hp hy
                                first
                                  | omega
                                  | (have := hA1 (p9 - 1) y (by omega) hy; rw [this] at hless; exact hless)
                              refine lv_aload_n hx hb d_M_graph_145 rfl (lv_at hl 0 rfl) ?_
                              refine va_get (D := (dC, dI)) (ci := 0) (v := .ref (h 14)) (C := R_M) (T := F_M) (N := 18) hx hb hk k_M_f hown hK hP 0 rfl rfl 17 (by decide) (hk _ k_M_25) (fun _ h9 => h9) rfl d_M_graph_146 ?_
                              refine lv_iload hx hb d_M_graph_149 (lv_at hl 6 rfl) ?_
                              refine lv_aload_n hx hb d_M_graph_151 rfl (lv_at hl 0 rfl) ?_
                              refine va_get (D := (dC, dI)) (ci := 0) (v := .ref (h 7)) (C := R_M) (T := F_M) (N := 18) hx hb hk k_M_f hown hK hP 0 rfl rfl 10 (by decide) (hk _ k_M_18) (fun _ h9 => h9) rfl d_M_graph_152 ?_
                              refine lv_iload hx hb d_M_graph_155 (lv_at hl 5 rfl) ?_
                              refine va_iald hx hb hK hP 7 0 rfl rfl (pk_in i 801 (by omega)) d_M_graph_157 ?_
                              refine lv_topi (fun z15 ez15 => ?_)
                              obtain rfl : z15 = en.2.2.1 := ez15.trans ((rd (f := bB9) (k := i) (by omega)).trans q3)
                              refine va_iast hx hb hK hP hD hS 14 0 rfl rfl (pk_in p9 801 (by omega)) d_M_graph_158 (fun H locs hP hD hS => ?_)
                              rw [nI_clamp (n := p9) (by omega)] at hP hD
                              have hP : va_P (dC, dI) kls (wM h cI cZ (nI 0) (nI nF) (nI nC) (nI ((gA nC cf ct aK rj K).length)) aP (fun c => nI (cf c)) (fun c => nI (ct c)) aK bF9 bL9 bB9 bA9 bY9 bR oT oO oR (upd bS p9 en.2.2.1)) H := hP
                              have hD : va_D A (wM h cI cZ (nI 0) (nI nF) (nI nC) (nI ((gA nC cf ct aK rj K).length)) aP (fun c => nI (cf c)) (fun c => nI (ct c)) aK bF9 bL9 bB9 bA9 bY9 bR oT oO oR (upd bS p9 en.2.2.1)) := hD
                              refine lv_iinc (v := nI (T.length + 1)) (lv' := [(4, .int (nI (T.length + 1))), (0, .ref (h 0)), (1, .int (nI i1)), (2, .int (nI j1)), (3, .int (nI k1)), (5, .int (nI i)), (6, .int (nI p9))]) hx hb d_M_graph_159 hl (k := 4) rfl (nI_add T.length 1) (by decide) rfl (fun ls hl => ?_)
                              refine lv_iinc (v := nI (i + 1)) (lv' := [(5, .int (nI (i + 1))), (4, .int (nI (T.length + 1))), (0, .ref (h 0)), (1, .int (nI i1)), (2, .int (nI j1)), (3, .int (nI k1)), (6, .int (nI p9))]) hx hb d_M_graph_162 hl (k := 5) rfl (nI_add i 1) (by decide) rfl (fun ls hl => ?_)
                              refine lv_goto (tgt := 58) hx hb d_M_graph_165 (by decide) ?_
                              have hlen9 : (T.take p9 ++ en.2.2.1 :: T.drop p9).length = T.length + 1 := by rw [List.length_append, List.length_cons, List.length_take, List.length_drop]; omega
                              rw [← hlen9] at hl
                              have hput : inT (gA nC cf ct aK rj K) i1 j1 (i + 1) (T.take p9 ++ en.2.2.1 :: T.drop p9) := inT_put hin hen hq9 hp0 (gp_put hin.1 hp0 (inT_new (bsG_nd nC cf ct aK rj (fun _ => true) K) hin hen hq9) hlow hbig)
                              exact ih_lpO (i + 1) (T.take p9 ++ en.2.2.1 :: T.drop p9) (upd bS p9 en.2.2.1) (by omega) (hput) (hT_put hp0 hA1 hA2) (by omega) _ _ _ hP hD hS (lv_sub hl [2, 3, 4, 5, 1, 0] rfl)
                      exact lpI _ T.length bS (Nat.le_refl _) (fun j y _ hy => hhT j y hy) (fun j y hj hy => absurd (List.getElem?_eq_some_iff.mp hy).1 (by omega)) (fun j y hj hy => absurd (List.getElem?_eq_some_iff.mp hy).1 (by omega)) (Nat.lt_succ_self _) _ _ _ hP hD hS (lv_sub hl [1, 2, 3, 4, 5, 6, 0] rfl)
                    · have c_86 : ¬ en.2.1 = j1 := fun z9 => c_86 ((nI_eq (a := en.2.1) (b := j1) (by omega) (by omega)).mpr z9)
                      refine lv_goto (tgt := 162) hx hb d_M_graph_89 (by decide) ?_
                      refine lv_iinc (v := nI (i + 1)) (lv' := [(5, .int (nI (i + 1))), (0, .ref (h 0)), (1, .int (nI i1)), (2, .int (nI j1)), (3, .int (nI k1)), (4, .int (nI T.length))]) hx hb d_M_graph_162 hl (k := 5) rfl (nI_add i 1) (by decide) rfl (fun ls hl => ?_)
                      refine lv_goto (tgt := 58) hx hb d_M_graph_165 (by decide) ?_
                      have hq9 : qFG i1 j1 en = false := by unfold qFG; first | (rw [show (en.1 == i1) = false from beq_eq_false_iff_ne.mpr c_75]; rfl) | (rw [show (en.2.1 == j1) = false from beq_eq_false_iff_ne.mpr c_86]; simp)
                      exact ih_lpO (i + 1) T bS (by omega) (inT_skip hin hen hq9) (hhT) (by omega) _ _ _ hP hD hS (lv_sub hl [1, 2, 3, 4, 5, 0] rfl)
            exact lpO _ 0 ([]) bS (Nat.zero_le _) (hin0) (fun j x hj => by simp at hj) (Nat.lt_succ_self _) _ _ _ hP hD hS (lv_sub hl [2, 3, 4, 5, 1, 0] rfl)
          · have c_42 : ¬ k1 < (gA nC cf ct aK rj K).countP (qFG i1 j1) := fun z9 => c_42 ((nI_ltI (a := k1) (b := (gA nC cf ct aK rj K).countP (qFG i1 j1)) (by omega) (by omega)).mpr z9)
            refine lv_aload_n hx hb d_M_graph_45 rfl (lv_at hl 0 rfl) ?_
            refine lv_iconst (v := nI 1) hx hb d_M_graph_46 (by decide +kernel) ?_
            refine va_put (D := (dC, dI)) (ci := 0) (v := .int (nI 1)) (ty := .int) (C := R_M) (T := F_M) (N := 18) hx hb hk k_M_f t_M t_M_ok n_M hown hK hP hD hS 0 rfl rfl 0 (by decide) (hk _ k_M_8) (fun _ h9 => h9) rfl (by decide +kernel) rfl rfl (Nat.le_of_ble_eq_true rfl) d_M_graph_47 (fun H locs hP hD hS => ?_)
            have hP : va_P (dC, dI) kls (wM h cI cZ (nI 1) (nI nF) (nI nC) (nI ((gA nC cf ct aK rj K).length)) aP (fun c => nI (cf c)) (fun c => nI (ct c)) aK bF9 bL9 bB9 bA9 bY9 bR oT oO oR bS) H := hP
            have hD : va_D A (wM h cI cZ (nI 1) (nI nF) (nI nC) (nI ((gA nC cf ct aK rj K).length)) aP (fun c => nI (cf c)) (fun c => nI (ct c)) aK bF9 bL9 bB9 bA9 bY9 bR oT oO oR bS) := hD
            refine lv_iconst (v := nI 0) hx hb d_M_graph_50 (by decide +kernel) ?_
            exact W.iret (v := nI 0) hx hb hr (fun t ht hW => ⟨⟨nI 0, (nI 1, nI (gA nC cf ct aK rj K).length, bF9, bL9, bB9, bA9, bY9, bS), rfl, Or.inr ⟨i1, j1, k1, hi1, hj1, hkk1, rfl, rfl, rfl, Or.inr ⟨hle, Or.inl ⟨by omega, rfl⟩⟩⟩, by rw [ht]; exact hP, va_K.moved hW.alike hK, hD⟩, hS.F ht⟩) hS.2.2 d_M_graph_51
        · subst hr9
          subst hu9
          refine lv_if_eq (tgt := 35) hx hb d_M_graph_30 (by decide) (fun c9 => absurd c9 (by decide +kernel)) (fun _ => ?_)
          refine lv_iconst (v := nI 0) hx hb d_M_graph_33 (by decide +kernel) ?_
          exact W.iret (v := nI 0) hx hb hr (fun t ht hW => ⟨⟨nI 0, (nI 2, xg9, bF9, bL9, bB9, bA9, bY9, bS), rfl, Or.inr ⟨i1, j1, k1, hi1, hj1, hkk1, rfl, rfl, rfl, Or.inl ⟨hgt, rfl⟩⟩, by rw [ht]; exact hP, va_K.moved hW.alike hK, hD⟩, hS.F ht⟩) hS.2.2 d_M_graph_34
      · refine lv_iconst (v := nI 1) hx hb d_M_graph_21 (by decide +kernel) ?_
        refine lv_goto (tgt := 26) hx hb d_M_graph_22 (by decide) ?_
        refine lv_iconst (v := nI 0) hx hb d_M_graph_26 (by decide +kernel) ?_
        have hFc := va_free (wc := wM h cI cZ xt (nI nF) (nI nC) xg aP (fun c => nI (cf c)) (fun c => nI (ct c)) aK bF bL bB bA bY bR oT oO oR bS) hD hS hA [0, 1, 2, 3, 4, 5, 6, 7, 8, 9, 10, 11, 12, 13, 14] rfl
        refine va_calli (va_runV (As := [.int (nI 1), .int (nI 0)]) (rest := []) ⟨hx, hb, hml, hown, hk⟩ (m_refused_o l dC dI cI cZ h H.size xt (nI nF) (nI nC) xg aP (fun c => nI (cf c)) (fun c => nI (ct c)) aK bF bL bB bA bY bR oT oO oR bS  ) (cwV 2 hk g_M_refused rfl rfl rfl (by decide +kernel) ⟨Nat.le_of_ble_eq_true rfl, Nat.le_of_ble_eq_true rfl⟩) ⟨fun a U g mk q => by obtain ⟨q0, q1, qP, qK, qD⟩ := q; exact ⟨q0, q1, qP, va_K.moved (u := U) (U := U.calling g mk a) (Vm.Alike.refl U.vm) qK, qD⟩, va_recv hK hP (ci := 0) (q0 := 0) rfl rfl, fun U hU hW => ⟨rfl, by rw [hU], by rw [hU]; exact hP, va_K.moved hW.alike hK, hD.weaken (fun _ _ _ _ => trivial)⟩⟩ rfl rfl hl.1 rfl (lv_room (Nat.le_of_ble_eq_true rfl)) d_M_graph_27 ⟨Nat.le_of_ble_eq_true rfl, Nat.le_of_ble_eq_true rfl⟩) hS (fun q _ h => hFc q h) hFc (fun r16 u9 t H1 locs ht hvm hw hB hz1 hk1 hS => ?_)
        obtain ⟨xt9, rfl⟩ : ∃ z, z = u9 := ⟨_, rfl⟩
        obtain ⟨hP1, hK1, hD1⟩ := hB
        rw [ht] at hP1
        try dsimp only at hw
        obtain ⟨hP, hD⟩ := va_join (wr := []) (w1 := wM h cI cZ xt9 (nI nF) (nI nC) xg aP (fun c => nI (cf c)) (fun c => nI (ct c)) aK bF bL bB bA bY bR oT oO oR bS) hP hD [0, 1, 2, 3, 4, 5, 6, 7, 8, 9, 10, 11, 12, 13, 14] [] rfl rfl (by decide) (by decide) hk1 hFc hP1 hD1
        generalize H1 = H at hP hS ⊢
        have hP : va_P (dC, dI) kls (wM h cI cZ xt9 (nI nF) (nI nC) xg aP (fun c => nI (cf c)) (fun c => nI (ct c)) aK bF bL bB bA bY bR oT oO oR bS) H := hP
        have hD : va_D A (wM h cI cZ xt9 (nI nF) (nI nC) xg aP (fun c => nI (cf c)) (fun c => nI (ct c)) aK bF bL bB bA bY bR oT oO oR bS) := hD
        obtain ⟨hr9, hu9⟩ := hw
        subst hr9
        subst hu9
        refine lv_if_eq (tgt := 35) hx hb d_M_graph_30 (by decide) (fun c9 => absurd c9 (by decide +kernel)) (fun _ => ?_)
        refine lv_iconst (v := nI 0) hx hb d_M_graph_33 (by decide +kernel) ?_
        have hq9 : ¬ (((∃ i, i < nF ∧ nI i1 = nI i) ∧ (∃ j, j < nF ∧ nI j1 = nI j)) ∧ 0 ≤ q) := by
          rintro ⟨⟨z1, z2⟩, z3⟩
          first
            | exact hno_f z1
            | exact hno_g z2
            | exact c_18 z3
        exact W.iret (v := nI 0) hx hb hr (fun t ht hW => ⟨⟨nI 0, (nI 1, xg, bF, bL, bB, bA, bY, bS), rfl, Or.inl ⟨hq9, rfl⟩, by rw [ht]; exact hP, va_K.moved hW.alike hK, hD⟩, hS.F ht⟩) hS.2.2 d_M_graph_34
    · subst hr9
      refine lv_if_eq (tgt := 21) hx hb d_M_graph_14 (by decide) (fun _ => ?_) (fun c9 => absurd c9 (by decide +kernel))
      refine lv_iconst (v := nI 1) hx hb d_M_graph_21 (by decide +kernel) ?_
      refine lv_goto (tgt := 26) hx hb d_M_graph_22 (by decide) ?_
      refine lv_iconst (v := nI 0) hx hb d_M_graph_26 (by decide +kernel) ?_
      have hFc := va_free (wc := wM h cI cZ xt (nI nF) (nI nC) xg aP (fun c => nI (cf c)) (fun c => nI (ct c)) aK bF bL bB bA bY bR oT oO oR bS) hD hS hA [0, 1, 2, 3, 4, 5, 6, 7, 8, 9, 10, 11, 12, 13, 14] rfl
      refine va_calli (va_runV (As := [.int (nI 1), .int (nI 0)]) (rest := []) ⟨hx, hb, hml, hown, hk⟩ (m_refused_o l dC dI cI cZ h H.size xt (nI nF) (nI nC) xg aP (fun c => nI (cf c)) (fun c => nI (ct c)) aK bF bL bB bA bY bR oT oO oR bS  ) (cwV 2 hk g_M_refused rfl rfl rfl (by decide +kernel) ⟨Nat.le_of_ble_eq_true rfl, Nat.le_of_ble_eq_true rfl⟩) ⟨fun a U g mk q => by obtain ⟨q0, q1, qP, qK, qD⟩ := q; exact ⟨q0, q1, qP, va_K.moved (u := U) (U := U.calling g mk a) (Vm.Alike.refl U.vm) qK, qD⟩, va_recv hK hP (ci := 0) (q0 := 0) rfl rfl, fun U hU hW => ⟨rfl, by rw [hU], by rw [hU]; exact hP, va_K.moved hW.alike hK, hD.weaken (fun _ _ _ _ => trivial)⟩⟩ rfl rfl hl.1 rfl (lv_room (Nat.le_of_ble_eq_true rfl)) d_M_graph_27 ⟨Nat.le_of_ble_eq_true rfl, Nat.le_of_ble_eq_true rfl⟩) hS (fun q _ h => hFc q h) hFc (fun r17 u9 t H1 locs ht hvm hw hB hz1 hk1 hS => ?_)
      obtain ⟨xt9, rfl⟩ : ∃ z, z = u9 := ⟨_, rfl⟩
      obtain ⟨hP1, hK1, hD1⟩ := hB
      rw [ht] at hP1
      try dsimp only at hw
      obtain ⟨hP, hD⟩ := va_join (wr := []) (w1 := wM h cI cZ xt9 (nI nF) (nI nC) xg aP (fun c => nI (cf c)) (fun c => nI (ct c)) aK bF bL bB bA bY bR oT oO oR bS) hP hD [0, 1, 2, 3, 4, 5, 6, 7, 8, 9, 10, 11, 12, 13, 14] [] rfl rfl (by decide) (by decide) hk1 hFc hP1 hD1
      generalize H1 = H at hP hS ⊢
      have hP : va_P (dC, dI) kls (wM h cI cZ xt9 (nI nF) (nI nC) xg aP (fun c => nI (cf c)) (fun c => nI (ct c)) aK bF bL bB bA bY bR oT oO oR bS) H := hP
      have hD : va_D A (wM h cI cZ xt9 (nI nF) (nI nC) xg aP (fun c => nI (cf c)) (fun c => nI (ct c)) aK bF bL bB bA bY bR oT oO oR bS) := hD
      obtain ⟨hr9, hu9⟩ := hw
      subst hr9
      subst hu9
      refine lv_if_eq (tgt := 35) hx hb d_M_graph_30 (by decide) (fun c9 => absurd c9 (by decide +kernel)) (fun _ => ?_)
      refine lv_iconst (v := nI 0) hx hb d_M_graph_33 (by decide +kernel) ?_
      have hq9 : ¬ (((∃ i, i < nF ∧ nI i1 = nI i) ∧ (∃ j, j < nF ∧ g = nI j)) ∧ 0 ≤ q) := by
        rintro ⟨⟨z1, z2⟩, z3⟩
        first
          | exact hno_f z1
          | exact hno_g z2
          | exact c_18 z3
      exact W.iret (v := nI 0) hx hb hr (fun t ht hW => ⟨⟨nI 0, (nI 1, xg, bF, bL, bB, bA, bY, bS), rfl, Or.inl ⟨hq9, rfl⟩, by rw [ht]; exact hP, va_K.moved hW.alike hK, hD⟩, hS.F ht⟩) hS.2.2 d_M_graph_34
  · subst hr9
    refine lv_if_eq (tgt := 21) hx hb d_M_graph_6 (by decide) (fun _ => ?_) (fun c9 => absurd c9 (by decide +kernel))
    refine lv_iconst (v := nI 1) hx hb d_M_graph_21 (by decide +kernel) ?_
    refine lv_goto (tgt := 26) hx hb d_M_graph_22 (by decide) ?_
    refine lv_iconst (v := nI 0) hx hb d_M_graph_26 (by decide +kernel) ?_
    have hFc := va_free (wc := wM h cI cZ xt (nI nF) (nI nC) xg aP (fun c => nI (cf c)) (fun c => nI (ct c)) aK bF bL bB bA bY bR oT oO oR bS) hD hS hA [0, 1, 2, 3, 4, 5, 6, 7, 8, 9, 10, 11, 12, 13, 14] rfl
    refine va_calli (va_runV (As := [.int (nI 1), .int (nI 0)]) (rest := []) ⟨hx, hb, hml, hown, hk⟩ (m_refused_o l dC dI cI cZ h H.size xt (nI nF) (nI nC) xg aP (fun c => nI (cf c)) (fun c => nI (ct c)) aK bF bL bB bA bY bR oT oO oR bS  ) (cwV 2 hk g_M_refused rfl rfl rfl (by decide +kernel) ⟨Nat.le_of_ble_eq_true rfl, Nat.le_of_ble_eq_true rfl⟩) ⟨fun a U g mk q => by obtain ⟨q0, q1, qP, qK, qD⟩ := q; exact ⟨q0, q1, qP, va_K.moved (u := U) (U := U.calling g mk a) (Vm.Alike.refl U.vm) qK, qD⟩, va_recv hK hP (ci := 0) (q0 := 0) rfl rfl, fun U hU hW => ⟨rfl, by rw [hU], by rw [hU]; exact hP, va_K.moved hW.alike hK, hD.weaken (fun _ _ _ _ => trivial)⟩⟩ rfl rfl hl.1 rfl (lv_room (Nat.le_of_ble_eq_true rfl)) d_M_graph_27 ⟨Nat.le_of_ble_eq_true rfl, Nat.le_of_ble_eq_true rfl⟩) hS (fun q _ h => hFc q h) hFc (fun r18 u9 t H1 locs ht hvm hw hB hz1 hk1 hS => ?_)
    obtain ⟨xt9, rfl⟩ : ∃ z, z = u9 := ⟨_, rfl⟩
    obtain ⟨hP1, hK1, hD1⟩ := hB
    rw [ht] at hP1
    try dsimp only at hw
    obtain ⟨hP, hD⟩ := va_join (wr := []) (w1 := wM h cI cZ xt9 (nI nF) (nI nC) xg aP (fun c => nI (cf c)) (fun c => nI (ct c)) aK bF bL bB bA bY bR oT oO oR bS) hP hD [0, 1, 2, 3, 4, 5, 6, 7, 8, 9, 10, 11, 12, 13, 14] [] rfl rfl (by decide) (by decide) hk1 hFc hP1 hD1
    generalize H1 = H at hP hS ⊢
    have hP : va_P (dC, dI) kls (wM h cI cZ xt9 (nI nF) (nI nC) xg aP (fun c => nI (cf c)) (fun c => nI (ct c)) aK bF bL bB bA bY bR oT oO oR bS) H := hP
    have hD : va_D A (wM h cI cZ xt9 (nI nF) (nI nC) xg aP (fun c => nI (cf c)) (fun c => nI (ct c)) aK bF bL bB bA bY bR oT oO oR bS) := hD
    obtain ⟨hr9, hu9⟩ := hw
    subst hr9
    subst hu9
    refine lv_if_eq (tgt := 35) hx hb d_M_graph_30 (by decide) (fun c9 => absurd c9 (by decide +kernel)) (fun _ => ?_)
    refine lv_iconst (v := nI 0) hx hb d_M_graph_33 (by decide +kernel) ?_
    have hq9 : ¬ (((∃ i, i < nF ∧ f = nI i) ∧ (∃ j, j < nF ∧ g = nI j)) ∧ 0 ≤ q) := by
      rintro ⟨⟨z1, z2⟩, z3⟩
      first
        | exact hno_f z1
        | exact hno_g z2
        | exact c_18 z3
    exact W.iret (v := nI 0) hx hb hr (fun t ht hW => ⟨⟨nI 0, (nI 1, xg, bF, bL, bB, bA, bY, bS), rfl, Or.inl ⟨hq9, rfl⟩, by rw [ht]; exact hP, va_K.moved hW.alike hK, hD⟩, hS.F ht⟩) hS.2.2 d_M_graph_34
