def badC (x : Int32) : Prop := cj x x = x ∧ ∀ i, i < 4 → atN x i i ≠ 2
section PG
variable (nC : Nat) (cf ct : Nat → Nat) (ck : Nat → Int32) (K : Nat)
/-- the rows of the first functions, one behind another -/
def RSf : Nat → List En
  | 0 => []
  | f + 1 => RSf f ++ (gF nC cf ct ck cj K f).map (shE (RSf f).length)
theorem RSf_len : ∀ f, (RSf nC cf ct ck K f).length = gN nC cf ct ck cj K f
  | 0 => rfl
  | f + 1 => by rw [RSf, gN, List.length_append, List.length_map, RSf_len f]
theorem RSf_ext {a : Nat} : ∀ {b : Nat}, a ≤ b → ∃ t, RSf nC cf ct ck K b = RSf nC cf ct ck K a ++ t := by
  intro b h
  induction b with
  | zero => obtain rfl : a = 0 := by omega
            exact ⟨[], (List.append_nil _).symm⟩
  | succ b ih =>
    rcases Nat.lt_or_ge b a with h1 | h1
    · obtain rfl : a = b + 1 := by omega
      exact ⟨[], (List.append_nil _).symm⟩
    · exact ext_trans (ih h1) ⟨_, rfl⟩
theorem RSf_at {f n : Nat} (hf : f < n) {k : Nat} {en : En} (h : (gF nC cf ct ck cj K f)[k]? = some en) : (RSf nC cf ct ck K n)[gN nC cf ct ck cj K f + k]? = some (shE (gN nC cf ct ck cj K f) en) := by
  refine ext_at (RSf_ext nC cf ct ck K (show f + 1 ≤ n from hf)) ?_
  rw [RSf, ← RSf_len, List.getElem?_append_right (by omega), show (RSf nC cf ct ck K f).length + k - (RSf nC cf ct ck K f).length = k by omega, List.getElem?_map, h]
  rfl
/-- the first bad row of f, by its place among all -/
def fbOk (f : Nat) (w : Int32) : Prop := (w = -1 ∧ ∀ en ∈ gF nC cf ct ck cj K f, ¬ (en.2.1 = f ∧ badC en.2.2.1)) ∨ ∃ k en, w = nI (gN nC cf ct ck cj K f + k) ∧ (gF nC cf ct ck cj K f)[k]? = some en ∧ (en.2.1 = f ∧ badC en.2.2.1) ∧ ∀ j x, j < k → (gF nC cf ct ck cj K f)[j]? = some x → ¬ (x.2.1 = f ∧ badC x.2.2.1)
/-- what is gathered of the first n functions -/
def gOk (n : Nat) (yn : Int32) (eB eE eA eL eS eW : Nat → Int32) : Prop := gN nC cf ct ck cj K n ≤ 800 ∧ yn = nI (RSf nC cf ct ck K n).length ∧ hRw (RSf nC cf ct ck K n) eB eE eA eL ∧ smR (RSf nC cf ct ck K n) ∧ clR9 (RSf nC cf ct ck K n) ∧ ∀ f, f < n → eS f = nI (gN nC cf ct ck cj K f) ∧ eS (f + 1) = nI (gN nC cf ct ck cj K (f + 1)) ∧ fbOk nC cf ct ck K f (eW f)
def GI (nF : Nat) (yn yt : Int32) (eB eE eA eL eS eW : Nat → Int32) : Prop := (yt = nI 0 ∧ gOk nC cf ct ck K nF yn eB eE eA eL eS eW) ∨ (yt = nI 1 ∧ 800 < gN nC cf ct ck cj K nF)
end PG
set_option maxHeartbeats 4000000 in
set_option maxRecDepth 100000 in
theorem c_C_firstBad_ok (l : Launch) (dC : Nat → ClassId) (dI : Nat → Nat → Nat) (cI : ClassId) (h : Nat → Nat) (sz : Nat) (yf yc yn yt yg ym : Int32) (aP aF aT aK eB eE eA eL eN eC eS eW eT : Nat → Int32) (rs : List En) (f a b : Nat) (hcn : rs.length ≤ 800) (hf : f < 10) (hrw : hRw rs eB eE eA eL) (hsm : smR rs) (hclr : clR9 rs) (ha : eS f = nI a) (hbs : eS (f + 1) = nI b) (hab : a ≤ b) (hbl : b ≤ rs.length) : Met l y_C_firstBad w_C_firstBad ({ frames := 3, cells := 0, slots := 0, locals := 67 }) (va_Pc [.ref (h 6), .int (nI f)] (fun U => U.heap.size = sz ∧ va_P (dC, dI) kls (wC h cI yf yc yn yt yg ym aP aF aT aK eB eE eA eL eN eC eS eW eT) U.heap ∧ va_K (dC, dI) kls (tyC cI) U ∧ va_D (fun _ => True) (wC h cI yf yc yn yt yg ym aP aF aT aK eB eE eA eL eN eC eS eW eT))) (va_Qi (fun (r : Int32) (u : Unit) => ((∀ j x, a ≤ j → j < b → rs[j]? = some x → ¬ (x.2.1 = f ∧ badC x.2.2.1)) ∧ r = -1) ∨ ∃ k en, a ≤ k ∧ k < b ∧ rs[k]? = some en ∧ (en.2.1 = f ∧ badC en.2.2.1) ∧ (∀ j x, a ≤ j → j < k → rs[j]? = some x → ¬ (x.2.1 = f ∧ badC x.2.2.1)) ∧ r = nI k) (fun (u : Unit) (t : State) => va_P (dC, dI) kls (wC h cI yf yc yn yt yg ym aP aF aT aK eB eE eA eL eN eC eS eW eT) t.heap ∧ va_K (dC, dI) kls (tyC cI) t ∧ va_D (va_A (wC h cI yf yc yn yt yg ym aP aF aT aK eB eE eA eL eN eC eS eW eT) sz) (wC h cI yf yc yn yt yg ym aP aF aT aK eB eE eA eL eN eC eS eW eT)) (va_A (wC h cI yf yc yn yt yg ym aP aF aT aK eB eE eA eL eN eC eS eW eT) sz)) 0 0 (va_A (wC h cI yf yc yn yt yg ym aP aF aT aK eB eE eA eL eN eC eS eW eT) sz) := by
  refine Met.ofW (cc := c_C_firstBad) (maxL := 3) (ret := (some .int)) (by decide) rfl ?_
  intro p e s m args below meth c s₁ B hml hv
  obtain ⟨rfl, hsz, hP, hK, hD0⟩ := hv
  have hx := B.exec
  have hb := B.bytes
  have hr := B.returns
  have hts := atoms_spec (ws := w_C_firstBad) B.pre
  have hk : ∀ w ∈ wCw, w.before _ s = true := fun w h => hts w (List.mem_cons_of_mem _ h)
  have hown : s.vm.findClass R_C = some m.cls := findClass_of_methodNamed B.named
  have hlocks := B.notSynchronized
  subst hsz
  have hD := hD0.self (sz := s.heap.size)
  generalize hAe : va_A (wC h cI yf yc yn yt yg ym aP aF aT aK eB eE eA eL eN eC eS eW eT) s.heap.size = A at hD ⊢
  have hA : ∀ q : Nat, s.heap.size ≤ q → A q := fun q h => by rw [← hAe]; exact Or.inr h
  have hS : va_S A s.heap s.heap [] := va_S.rf
  have hl := lv_entry ([.ref (h 6), .int (nI f)]) (n := 3) (Nat.le_of_ble_eq_true rfl)
  rw [lg_entry_eq]
  generalize (lg_sl ([.ref (h 6), .int (nI f)]) ++ List.replicate (3 - (lg_sl ([.ref (h 6), .int (nI f)])).length) Slot.unset).toArray = ls at hl ⊢
  have hl : lv_has ls 3 [(0, .ref (h 6)), (1, .int (nI f))] := hl
  refine lv_aload_n hx hb d_C_firstBad_0 rfl (lv_at hl 0 rfl) ?_
  refine va_get (D := (dC, dI)) (ci := 2) (v := .ref (h 13)) (C := R_C) (T := F_C) (N := 11) hx hb hk k_f_C hown hK hP 6 rfl rfl 6 (by decide) (hk _ k_C_51) (fun _ h9 => h9) rfl d_C_firstBad_1 ?_
  refine lv_iload_n hx hb d_C_firstBad_4 rfl (lv_at hl 1 rfl) ?_
  refine va_iald hx hb hK hP 13 0 rfl rfl (pk_in f 11 (by omega)) d_C_firstBad_5 ?_
  refine lv_topi (fun z1 ez1 => ?_)
  obtain rfl : z1 = nI a := ez1.trans ((rd (f := eS) (k := f) (by omega)).trans ha)
  refine lv_istore_n (lv' := [(2, .int (nI a)), (0, .ref (h 6)), (1, .int (nI f))]) hx hb d_C_firstBad_6 rfl hl (by decide) rfl (fun ls hl => ?_)
  have lp : ∀ (n_lp : Nat) (k : Nat), (a ≤ k) → (k ≤ b) → (∀ j x, a ≤ j → j < k → rs[j]? = some x → ¬ (x.2.1 = f ∧ badC x.2.2.1)) → b - k < n_lp → ∀ (H : Heap) (locs : List Loc) (ls : Array Slot), va_P (dC, dI) kls (wC h cI yf yc yn yt yg ym aP aF aT aK eB eE eA eL eN eC eS eW eT) H → va_D A (wC h cI yf yc yn yt yg ym aP aF aT aK eB eE eA eL eN eC eS eW eT) → va_S A s.heap H locs → lv_has ls 3 [(0, .ref (h 6)), (1, .int (nI f)), (2, .int (nI k))] → W p l e (headSpec w_C_firstBad ({ frames := 3, cells := 0, slots := 0, locals := 67 })).room s m ([.ref (h 6), .int (nI f)]).toArray below meth c H locs 0 0 (MQ below (va_Qi (fun (r : Int32) (u : Unit) => ((∀ j x, a ≤ j → j < b → rs[j]? = some x → ¬ (x.2.1 = f ∧ badC x.2.2.1)) ∧ r = -1) ∨ ∃ k en, a ≤ k ∧ k < b ∧ rs[k]? = some en ∧ (en.2.1 = f ∧ badC en.2.2.1) ∧ (∀ j x, a ≤ j → j < k → rs[j]? = some x → ¬ (x.2.1 = f ∧ badC x.2.2.1)) ∧ r = nI k) (fun (u : Unit) (t : State) => va_P (dC, dI) kls (wC h cI yf yc yn yt yg ym aP aF aT aK eB eE eA eL eN eC eS eW eT) t.heap ∧ va_K (dC, dI) kls (tyC cI) t ∧ va_D (A) (wC h cI yf yc yn yt yg ym aP aF aT aK eB eE eA eL eN eC eS eW eT)) A) ([.ref (h 6), .int (nI f)]).toArray s 0 0 A) (F0 m 7 ls []) := by
    intro n_lp
    induction n_lp with
    | zero => intro k hk0 hk1b hno hn; exact absurd hn (Nat.not_lt_zero _)
    | succ n_lp ih_lp =>
      intro k hk0 hk1b hno hn H locs ls hP hD hS hl
      refine lv_iload_n hx hb d_C_firstBad_7 rfl (lv_at hl 2 rfl) ?_
      refine lv_aload_n hx hb d_C_firstBad_8 rfl (lv_at hl 0 rfl) ?_
      refine va_get (D := (dC, dI)) (ci := 2) (v := .ref (h 13)) (C := R_C) (T := F_C) (N := 11) hx hb hk k_f_C hown hK hP 6 rfl rfl 6 (by decide) (hk _ k_C_51) (fun _ h9 => h9) rfl d_C_firstBad_9 ?_
      refine lv_iload_n hx hb d_C_firstBad_12 rfl (lv_at hl 1 rfl) ?_
      refine lv_iconst (v := nI 1) hx hb d_C_firstBad_13 (by decide +kernel) ?_
      refine lv_iadd hx hb d_C_firstBad_14 ?_
      refine lv_topi (fun z2 ez2 => ?_)
      obtain rfl : z2 = nI (f + 1) := ez2.trans (nI_add _ _)
      refine va_iald hx hb hK hP 13 0 rfl rfl (pk_in (f + 1) 11 (by omega)) d_C_firstBad_15 ?_
      refine lv_topi (fun z3 ez3 => ?_)
      obtain rfl : z3 = nI b := ez3.trans ((rd (f := eS) (k := f + 1) (by omega)).trans hbs)
      refine lv_icmp_ge (tgt := 49) hx hb d_C_firstBad_16 (by decide) (fun c_16 => ?_) (fun c_16 => ?_)
      · have c_16 : b ≤ k := (nI_leI (a := b) (b := k) (by omega) (by omega)).mp c_16
        refine lv_iconst (v := (-1)) hx hb d_C_firstBad_49 (by decide +kernel) ?_
        exact W.iret (v := (-1)) hx hb hr (fun t ht hW => ⟨⟨(-1), (), rfl, Or.inl ⟨fun j x h1 h2 => hno j x h1 (by omega), rfl⟩, by rw [ht]; exact hP, va_K.moved hW.alike hK, hD⟩, hS.F ht⟩) hS.2.2 d_C_firstBad_50
      · have c_16 : ¬ b ≤ k := fun z9 => c_16 ((nI_leI (a := b) (b := k) (by omega) (by omega)).mpr z9)
        obtain ⟨en, hen⟩ : ∃ en, rs[k]? = some en := ⟨_, List.getElem?_eq_getElem (by omega)⟩
        have hrk := hrw k en hen
        have hsn := hsm en (List.mem_of_getElem? hen)
        refine lv_aload_n hx hb d_C_firstBad_19 rfl (lv_at hl 0 rfl) ?_
        refine va_get (D := (dC, dI)) (ci := 2) (v := .ref (h 8)) (C := R_C) (T := F_C) (N := 11) hx hb hk k_f_C hown hK hP 6 rfl rfl 1 (by decide) (hk _ k_C_46) (fun _ h9 => h9) rfl d_C_firstBad_20 ?_
        refine lv_iload_n hx hb d_C_firstBad_23 rfl (lv_at hl 2 rfl) ?_
        refine va_iald hx hb hK hP 8 0 rfl rfl (pk_in k 800 (by omega)) d_C_firstBad_24 ?_
        refine lv_topi (fun z4 ez4 => ?_)
        obtain rfl : z4 = nI en.2.1 := ez4.trans ((rd (f := eE) (k := k) (by omega)).trans hrk.2.1)
        refine lv_iload_n hx hb d_C_firstBad_25 rfl (lv_at hl 1 rfl) ?_
        refine lv_icmp_ne (tgt := 43) hx hb d_C_firstBad_26 (by decide) (fun c_26 => ?_) (fun c_26 => ?_)
        · have c_26 : ¬ en.2.1 = f := fun z9 => c_26 ((nI_eq (a := en.2.1) (b := f) (by omega) (by omega)).mpr z9)
          refine lv_iinc (v := nI (k + 1)) (lv' := [(2, .int (nI (k + 1))), (0, .ref (h 6)), (1, .int (nI f))]) hx hb d_C_firstBad_43 hl (k := 2) rfl (nI_add k 1) (by decide) rfl (fun ls hl => ?_)
          refine lv_goto (tgt := 7) hx hb d_C_firstBad_46 (by decide) ?_
          have hno2 : ∀ j x, a ≤ j → j < k + 1 → rs[j]? = some x → ¬ (x.2.1 = f ∧ badC x.2.2.1) := by
            intro j x h1 h2 h3
            rcases Nat.lt_or_ge j k with z | z
            · exact hno j x h1 z h3
            · obtain rfl : j = k := by omega
              rw [hen] at h3
              cases h3
              rintro ⟨z1, z2⟩
              first
                | exact c_26 z1
                | exact hbad z2
          exact ih_lp (k + 1) (by omega) (by omega) (hno2) (by omega) _ _ _ hP hD hS (lv_sub hl [1, 2, 0] rfl)
        · have c_26 : en.2.1 = f := (nI_eq (a := en.2.1) (b := f) (by omega) (by omega)).mp c_26
          refine lv_aload_n hx hb d_C_firstBad_29 rfl (lv_at hl 0 rfl) ?_
          refine va_get (D := (dC, dI)) (ci := 2) (v := .ref (h 7)) (C := R_C) (T := F_C) (N := 11) hx hb hk k_f_C hown hK hP 6 rfl rfl 0 (by decide) (hk _ k_C_45) (fun _ h9 => h9) rfl d_C_firstBad_30 ?_
          refine lv_iload_n hx hb d_C_firstBad_33 rfl (lv_at hl 2 rfl) ?_
          refine va_iald hx hb hK hP 7 0 rfl rfl (pk_in k 800 (by omega)) d_C_firstBad_34 ?_
          refine lv_topi (fun z5 ez5 => ?_)
          obtain rfl : z5 = en.2.2.1 := ez5.trans ((rd (f := eB) (k := k) (by omega)).trans hrk.1)
          refine vp_callSi (W.runS (As := [.int en.2.2.1]) (rest := []) ⟨hx, hb, hml, hown, hk⟩ (c_G_isBad_ok l en.2.2.1 (hclr en (List.mem_of_getElem? hen))) (va_cwS 1 hk g_C_97 rfl rfl rfl (by decide +kernel) ⟨Nat.le_of_ble_eq_true rfl, Nat.le_of_ble_eq_true rfl⟩) ⟨fun a U g mk q => q, fun U hU hW => ⟨rfl, trivial⟩⟩ rfl rfl hl.1 rfl (lv_room (Nat.le_of_ble_eq_true rfl)) d_C_firstBad_35 ⟨Nat.le_of_ble_eq_true rfl, Nat.le_of_ble_eq_true rfl⟩) (fun r6 hw => ?_)
          rcases hw with ⟨hr9, hbad⟩ | ⟨hr9, hbad⟩
          · subst hr9
            refine lv_if_eq (tgt := 43) hx hb d_C_firstBad_38 (by decide) (fun c9 => absurd c9 (by decide +kernel)) (fun _ => ?_)
            refine lv_iload_n hx hb d_C_firstBad_41 rfl (lv_at hl 2 rfl) ?_
            exact W.iret (v := nI k) hx hb hr (fun t ht hW => ⟨⟨nI k, (), rfl, Or.inr ⟨k, en, hk0, by omega, hen, ⟨c_26, hbad⟩, hno, rfl⟩, by rw [ht]; exact hP, va_K.moved hW.alike hK, hD⟩, hS.F ht⟩) hS.2.2 d_C_firstBad_42
          · subst hr9
            refine lv_if_eq (tgt := 43) hx hb d_C_firstBad_38 (by decide) (fun _ => ?_) (fun c9 => absurd c9 (by decide +kernel))
            refine lv_iinc (v := nI (k + 1)) (lv' := [(2, .int (nI (k + 1))), (0, .ref (h 6)), (1, .int (nI f))]) hx hb d_C_firstBad_43 hl (k := 2) rfl (nI_add k 1) (by decide) rfl (fun ls hl => ?_)
            refine lv_goto (tgt := 7) hx hb d_C_firstBad_46 (by decide) ?_
            have hno2 : ∀ j x, a ≤ j → j < k + 1 → rs[j]? = some x → ¬ (x.2.1 = f ∧ badC x.2.2.1) := by
              intro j x h1 h2 h3
              rcases Nat.lt_or_ge j k with z | z
              · exact hno j x h1 z h3
              · obtain rfl : j = k := by omega
                rw [hen] at h3
                cases h3
                rintro ⟨z1, z2⟩
                first
                  | exact c_26 z1
                  | exact hbad z2
            exact ih_lp (k + 1) (by omega) (by omega) (hno2) (by omega) _ _ _ hP hD hS (lv_sub hl [1, 2, 0] rfl)
  exact lp _ a (Nat.le_refl _) (hab) (fun j x h1 h2 => by omega) (Nat.lt_succ_self _) _ _ _ hP hD hS (lv_sub hl [1, 2, 0] rfl)
set_option maxHeartbeats 4000000 in
set_option maxRecDepth 100000 in
theorem c_C_gather_ok (l : Launch) (dC : Nat → ClassId) (dI : Nat → Nat → Nat) (cI : ClassId) (h : Nat → Nat) (sz : Nat) (yn yt ym : Int32) (aK eB eE eA eL eN eC eS eW eT : Nat → Int32) (nF nC : Nat) (pl cf ct : Nat → Nat) (K ga : Nat) (hF : nF ≤ 10) (hC : nC ≤ 20) (hS0 : ∀ c, c < nC → cf c < nF ∧ ct c < nF) (hpl : ∀ i, i < nF → 1 ≤ pl i ∧ pl i ≤ 4) (hK8 : 801 ≤ K) (hcl : ∀ c, c < nC → clN (aK c)) (hga : ga = 0 ∨ (ga = 1 ∧ GI nC cf ct aK K nF yn yt eB eE eA eL eS eW)) : Met l y_C_gather w_C_gather ({ frames := 4, cells := 0, slots := 0, locals := 95 }) (va_Pc [.ref (h 6), .ref (h 1)] (fun U => U.heap.size = sz ∧ va_P (dC, dI) kls (wC h cI (nI nF) (nI nC) yn yt (nI ga) ym (fun c => nI (pl c)) (fun c => nI (cf c)) (fun c => nI (ct c)) aK eB eE eA eL eN eC eS eW eT) U.heap ∧ va_K (dC, dI) kls (tyC cI) U ∧ va_D (fun _ => True) (wC h cI (nI nF) (nI nC) yn yt (nI ga) ym (fun c => nI (pl c)) (fun c => nI (cf c)) (fun c => nI (ct c)) aK eB eE eA eL eN eC eS eW eT))) (va_Qv (fun (u : Int32 × Int32 × Int32 × (Nat → Int32) × (Nat → Int32) × (Nat → Int32) × (Nat → Int32) × (Nat → Int32) × (Nat → Int32) × (Nat → Int32) × (Nat → Int32)) => u.2.2.1 = nI 1 ∧ GI nC cf ct aK K nF u.1 u.2.1 u.2.2.2.1 u.2.2.2.2.1 u.2.2.2.2.2.1 u.2.2.2.2.2.2.1 u.2.2.2.2.2.2.2.2.2.1 u.2.2.2.2.2.2.2.2.2.2) (fun (u : Int32 × Int32 × Int32 × (Nat → Int32) × (Nat → Int32) × (Nat → Int32) × (Nat → Int32) × (Nat → Int32) × (Nat → Int32) × (Nat → Int32) × (Nat → Int32)) (t : State) => va_P (dC, dI) kls (wC h cI (nI nF) (nI nC) u.1 u.2.1 u.2.2.1 ym (fun c => nI (pl c)) (fun c => nI (cf c)) (fun c => nI (ct c)) aK u.2.2.2.1 u.2.2.2.2.1 u.2.2.2.2.2.1 u.2.2.2.2.2.2.1 u.2.2.2.2.2.2.2.1 u.2.2.2.2.2.2.2.2.1 u.2.2.2.2.2.2.2.2.2.1 u.2.2.2.2.2.2.2.2.2.2 eT) t.heap ∧ va_K (dC, dI) kls (tyC cI) t ∧ va_D (va_A (wC h cI (nI nF) (nI nC) yn yt (nI ga) ym (fun c => nI (pl c)) (fun c => nI (cf c)) (fun c => nI (ct c)) aK eB eE eA eL eN eC eS eW eT) sz) (wC h cI (nI nF) (nI nC) u.1 u.2.1 u.2.2.1 ym (fun c => nI (pl c)) (fun c => nI (cf c)) (fun c => nI (ct c)) aK u.2.2.2.1 u.2.2.2.2.1 u.2.2.2.2.2.1 u.2.2.2.2.2.2.1 u.2.2.2.2.2.2.2.1 u.2.2.2.2.2.2.2.2.1 u.2.2.2.2.2.2.2.2.2.1 u.2.2.2.2.2.2.2.2.2.2 eT)) (va_A (wC h cI (nI nF) (nI nC) yn yt (nI ga) ym (fun c => nI (pl c)) (fun c => nI (cf c)) (fun c => nI (ct c)) aK eB eE eA eL eN eC eS eW eT) sz)) 0 0 (va_A (wC h cI (nI nF) (nI nC) yn yt (nI ga) ym (fun c => nI (pl c)) (fun c => nI (cf c)) (fun c => nI (ct c)) aK eB eE eA eL eN eC eS eW eT) sz) := by
  refine Met.ofW (cc := c_C_gather) (maxL := 3) (ret := none) (by decide) rfl ?_
  intro p e s m args below meth c s₁ B hml hv
  obtain ⟨rfl, hsz, hP, hK, hD0⟩ := hv
  have hx := B.exec
  have hb := B.bytes
  have hr := B.returns
  have hts := atoms_spec (ws := w_C_gather) B.pre
  have hk : ∀ w ∈ wCw, w.before _ s = true := fun w h => hts w (List.mem_cons_of_mem _ h)
  have hown : s.vm.findClass R_C = some m.cls := findClass_of_methodNamed B.named
  have hlocks := B.notSynchronized
  subst hsz
  have hD := hD0.self (sz := s.heap.size)
  generalize hAe : va_A (wC h cI (nI nF) (nI nC) yn yt (nI ga) ym (fun c => nI (pl c)) (fun c => nI (cf c)) (fun c => nI (ct c)) aK eB eE eA eL eN eC eS eW eT) s.heap.size = A at hD ⊢
  have hA : ∀ q : Nat, s.heap.size ≤ q → A q := fun q h => by rw [← hAe]; exact Or.inr h
  have hS : va_S A s.heap s.heap [] := va_S.rf
  have hl := lv_entry ([.ref (h 6), .ref (h 1)]) (n := 3) (Nat.le_of_ble_eq_true rfl)
  rw [lg_entry_eq]
  generalize (lg_sl ([.ref (h 6), .ref (h 1)]) ++ List.replicate (3 - (lg_sl ([.ref (h 6), .ref (h 1)])).length) Slot.unset).toArray = ls at hl ⊢
  have hl : lv_has ls 3 [(0, .ref (h 6)), (1, .ref (h 1))] := hl
  rcases hga with hg0 | ⟨hg1, hgi⟩
  · subst hg0
    refine lv_aload_n hx hb d_C_gather_0 rfl (lv_at hl 0 rfl) ?_
    refine va_get (D := (dC, dI)) (ci := 2) (v := .int (nI 0)) (C := R_C) (T := F_C) (N := 11) hx hb hk k_f_C hown hK hP 6 rfl rfl 10 (by decide) (hk _ k_C_57) (fun _ h9 => h9) rfl d_C_gather_1 ?_
    refine lv_if_eq (tgt := 8) hx hb d_C_gather_4 (by decide) (fun _ => ?_) (fun c9 => absurd c9 (by decide +kernel))
    refine lv_aload_n hx hb d_C_gather_8 rfl (lv_at hl 0 rfl) ?_
    refine lv_iconst (v := nI 0) hx hb d_C_gather_9 (by decide +kernel) ?_
    refine va_put (D := (dC, dI)) (ci := 2) (v := .int (nI 0)) (ty := .int) (C := R_C) (T := F_C) (N := 11) hx hb hk k_f_C t_C t_C_ok n_C hown hK hP hD hS 6 rfl rfl 8 (by decide) (hk _ k_C_54) (fun _ h9 => h9) rfl (by decide +kernel) rfl rfl (Nat.le_of_ble_eq_true rfl) d_C_gather_10 (fun H locs hP hD hS => ?_)
    have hP : va_P (dC, dI) kls (wC h cI (nI nF) (nI nC) (nI 0) yt (nI 0) ym (fun c => nI (pl c)) (fun c => nI (cf c)) (fun c => nI (ct c)) aK eB eE eA eL eN eC eS eW eT) H := hP
    have hD : va_D A (wC h cI (nI nF) (nI nC) (nI 0) yt (nI 0) ym (fun c => nI (pl c)) (fun c => nI (cf c)) (fun c => nI (ct c)) aK eB eE eA eL eN eC eS eW eT) := hD
    refine lv_aload_n hx hb d_C_gather_13 rfl (lv_at hl 0 rfl) ?_
    refine lv_iconst (v := nI 0) hx hb d_C_gather_14 (by decide +kernel) ?_
    refine va_put (D := (dC, dI)) (ci := 2) (v := .int (nI 0)) (ty := .boolean) (C := R_C) (T := F_C) (N := 11) hx hb hk k_f_C t_C t_C_ok n_C hown hK hP hD hS 6 rfl rfl 9 (by decide) (hk _ k_C_55) (fun _ h9 => h9) rfl (by decide +kernel) rfl rfl (Nat.le_of_ble_eq_true rfl) d_C_gather_15 (fun H locs hP hD hS => ?_)
    have hP : va_P (dC, dI) kls (wC h cI (nI nF) (nI nC) (nI 0) (nI 0) (nI 0) ym (fun c => nI (pl c)) (fun c => nI (cf c)) (fun c => nI (ct c)) aK eB eE eA eL eN eC eS eW eT) H := hP
    have hD : va_D A (wC h cI (nI nF) (nI nC) (nI 0) (nI 0) (nI 0) ym (fun c => nI (pl c)) (fun c => nI (cf c)) (fun c => nI (ct c)) aK eB eE eA eL eN eC eS eW eT) := hD
    refine lv_iconst (v := nI 0) hx hb d_C_gather_18 (by decide +kernel) ?_
    refine lv_istore_n (lv' := [(2, .int (nI 0)), (0, .ref (h 6)), (1, .ref (h 1))]) hx hb d_C_gather_19 rfl hl (by decide) rfl (fun ls hl => ?_)
    have h00 : gOk nC cf ct aK K 0 (nI 0) eB eE eA eL eS eW := ⟨Nat.zero_le _, rfl, fun k e9 h9 => by simp [RSf] at h9, fun e9 h9 => absurd h9 List.not_mem_nil, fun e9 h9 => absurd h9 List.not_mem_nil, fun f9 h9 => absurd h9 (Nat.not_lt_zero _)⟩
    have lp : ∀ (n_lp : Nat) (f9 : Nat) (tm : Nat) (yn : Int32) (eB : Nat → Int32) (eE : Nat → Int32) (eA : Nat → Int32) (eL : Nat → Int32) (eN : Nat → Int32) (eC : Nat → Int32) (eS : Nat → Int32) (eW : Nat → Int32), (f9 ≤ nF) → ((tm = 0 ∧ gOk nC cf ct aK K f9 yn eB eE eA eL eS eW) ∨ (tm = 1 ∧ 800 < gN nC cf ct aK cj K nF)) → nF - f9 < n_lp → ∀ (H : Heap) (locs : List Loc) (ls : Array Slot), va_P (dC, dI) kls (wC h cI (nI nF) (nI nC) yn (nI tm) (nI 0) ym (fun c => nI (pl c)) (fun c => nI (cf c)) (fun c => nI (ct c)) aK eB eE eA eL eN eC eS eW eT) H → va_D A (wC h cI (nI nF) (nI nC) yn (nI tm) (nI 0) ym (fun c => nI (pl c)) (fun c => nI (cf c)) (fun c => nI (ct c)) aK eB eE eA eL eN eC eS eW eT) → va_S A s.heap H locs → lv_has ls 3 [(0, .ref (h 6)), (1, .ref (h 1)), (2, .int (nI f9))] → W p l e (headSpec w_C_gather ({ frames := 4, cells := 0, slots := 0, locals := 95 })).room s m ([.ref (h 6), .ref (h 1)]).toArray below meth c H locs 0 0 (MQ below (va_Qv (fun (u : Int32 × Int32 × Int32 × (Nat → Int32) × (Nat → Int32) × (Nat → Int32) × (Nat → Int32) × (Nat → Int32) × (Nat → Int32) × (Nat → Int32) × (Nat → Int32)) => u.2.2.1 = nI 1 ∧ GI nC cf ct aK K nF u.1 u.2.1 u.2.2.2.1 u.2.2.2.2.1 u.2.2.2.2.2.1 u.2.2.2.2.2.2.1 u.2.2.2.2.2.2.2.2.2.1 u.2.2.2.2.2.2.2.2.2.2) (fun (u : Int32 × Int32 × Int32 × (Nat → Int32) × (Nat → Int32) × (Nat → Int32) × (Nat → Int32) × (Nat → Int32) × (Nat → Int32) × (Nat → Int32) × (Nat → Int32)) (t : State) => va_P (dC, dI) kls (wC h cI (nI nF) (nI nC) u.1 u.2.1 u.2.2.1 ym (fun c => nI (pl c)) (fun c => nI (cf c)) (fun c => nI (ct c)) aK u.2.2.2.1 u.2.2.2.2.1 u.2.2.2.2.2.1 u.2.2.2.2.2.2.1 u.2.2.2.2.2.2.2.1 u.2.2.2.2.2.2.2.2.1 u.2.2.2.2.2.2.2.2.2.1 u.2.2.2.2.2.2.2.2.2.2 eT) t.heap ∧ va_K (dC, dI) kls (tyC cI) t ∧ va_D (A) (wC h cI (nI nF) (nI nC) u.1 u.2.1 u.2.2.1 ym (fun c => nI (pl c)) (fun c => nI (cf c)) (fun c => nI (ct c)) aK u.2.2.2.1 u.2.2.2.2.1 u.2.2.2.2.2.1 u.2.2.2.2.2.2.1 u.2.2.2.2.2.2.2.1 u.2.2.2.2.2.2.2.2.1 u.2.2.2.2.2.2.2.2.2.1 u.2.2.2.2.2.2.2.2.2.2 eT)) A) ([.ref (h 6), .ref (h 1)]).toArray s 0 0 A) (F0 m 20 ls []) := by
      intro n_lp
      induction n_lp with
      | zero => intro f9 tm yn eB eE eA eL eN eC eS eW hf0 hinv hn; exact absurd hn (Nat.not_lt_zero _)
      | succ n_lp ih_lp =>
        intro f9 tm yn eB eE eA eL eN eC eS eW hf0 hinv hn H locs ls hP hD hS hl
        refine lv_iload_n hx hb d_C_gather_20 rfl (lv_at hl 2 rfl) ?_
        rcases hinv with ⟨ht0, hle8, hyn, hrw, hsm, hclr, hold⟩ | ⟨ht1, hgt⟩
        · subst ht0
          subst hyn
          have hln0 := RSf_len nC cf ct aK K f9
          refine lv_aload_n hx hb d_C_gather_21 rfl (lv_at hl 1 rfl) ?_
          refine va_get (D := (dC, dI)) (ci := 1) (v := .int (nI nF)) (C := R_P) (T := F_P) (N := 6) hx hb hk k_f_P hown hK hP 1 rfl rfl 4 (by decide) (hk _ k_C_34) (fun _ h9 => h9) rfl d_C_gather_22 ?_
          refine lv_icmp_ge (tgt := 80) hx hb d_C_gather_25 (by decide) (fun c_25 => ?_) (fun c_25 => ?_)
          · have c_25 : nF ≤ f9 := (nI_leI (a := nF) (b := f9) (by omega) (by omega)).mp c_25
            refine lv_aload_n hx hb d_C_gather_80 rfl (lv_at hl 0 rfl) ?_
            refine lv_iconst (v := nI 1) hx hb d_C_gather_81 (by decide +kernel) ?_
            refine va_put (D := (dC, dI)) (ci := 2) (v := .int (nI 1)) (ty := .boolean) (C := R_C) (T := F_C) (N := 11) hx hb hk k_f_C t_C t_C_ok n_C hown hK hP hD hS 6 rfl rfl 10 (by decide) (hk _ k_C_57) (fun _ h9 => h9) rfl (by decide +kernel) rfl rfl (Nat.le_of_ble_eq_true rfl) d_C_gather_82 (fun H locs hP hD hS => ?_)
            have hP : va_P (dC, dI) kls (wC h cI (nI nF) (nI nC) (nI ((RSf nC cf ct aK K f9).length)) (nI 0) (nI 1) ym (fun c => nI (pl c)) (fun c => nI (cf c)) (fun c => nI (ct c)) aK eB eE eA eL eN eC eS eW eT) H := hP
            have hD : va_D A (wC h cI (nI nF) (nI nC) (nI ((RSf nC cf ct aK K f9).length)) (nI 0) (nI 1) ym (fun c => nI (pl c)) (fun c => nI (cf c)) (fun c => nI (ct c)) aK eB eE eA eL eN eC eS eW eT) := hD
            have hfe : f9 = nF := by omega
            have hgi : gOk nC cf ct aK K nF (nI (RSf nC cf ct aK K f9).length) eB eE eA eL eS eW := by rw [← hfe]; exact ⟨hle8, rfl, hrw, hsm, hclr, hold⟩
            exact W.vret hx hb hr (fun t ht hW => ⟨⟨(nI ((RSf nC cf ct aK K f9).length), nI 0, nI 1, eB, eE, eA, eL, eN, eC, eS, eW), rfl, ⟨rfl, Or.inl ⟨rfl, hgi⟩⟩, by rw [ht]; exact hP, va_K.moved hW.alike hK, hD⟩, hS.F ht⟩) hS.2.2 d_C_gather_85
          · have c_25 : ¬ nF ≤ f9 := fun z9 => c_25 ((nI_leI (a := nF) (b := f9) (by omega) (by omega)).mpr z9)
            refine lv_aload_n hx hb d_C_gather_28 rfl (lv_at hl 0 rfl) ?_
            refine va_get (D := (dC, dI)) (ci := 2) (v := .int (nI 0)) (C := R_C) (T := F_C) (N := 11) hx hb hk k_f_C hown hK hP 6 rfl rfl 9 (by decide) (hk _ k_C_55) (fun _ h9 => h9) rfl d_C_gather_29 ?_
            refine lv_if_ne (tgt := 80) hx hb d_C_gather_32 (by decide) (fun c9 => absurd c9 (by decide +kernel)) (fun _ => ?_)
            refine lv_aload_n hx hb d_C_gather_35 rfl (lv_at hl 0 rfl) ?_
            refine va_get (D := (dC, dI)) (ci := 2) (v := .ref (h 13)) (C := R_C) (T := F_C) (N := 11) hx hb hk k_f_C hown hK hP 6 rfl rfl 6 (by decide) (hk _ k_C_51) (fun _ h9 => h9) rfl d_C_gather_36 ?_
            refine lv_iload_n hx hb d_C_gather_39 rfl (lv_at hl 2 rfl) ?_
            refine lv_aload_n hx hb d_C_gather_40 rfl (lv_at hl 0 rfl) ?_
            refine va_get (D := (dC, dI)) (ci := 2) (v := .int (nI ((RSf nC cf ct aK K f9).length))) (C := R_C) (T := F_C) (N := 11) hx hb hk k_f_C hown hK hP 6 rfl rfl 8 (by decide) (hk _ k_C_54) (fun _ h9 => h9) rfl d_C_gather_41 ?_
            refine va_iast hx hb hK hP hD hS 13 0 rfl rfl (pk_in f9 11 (by omega)) d_C_gather_44 (fun H locs hP hD hS => ?_)
            rw [nI_clamp (n := f9) (by omega)] at hP hD
            have hP : va_P (dC, dI) kls (wC h cI (nI nF) (nI nC) (nI ((RSf nC cf ct aK K f9).length)) (nI 0) (nI 0) ym (fun c => nI (pl c)) (fun c => nI (cf c)) (fun c => nI (ct c)) aK eB eE eA eL eN eC (upd eS f9 (nI ((RSf nC cf ct aK K f9).length))) eW eT) H := hP
            have hD : va_D A (wC h cI (nI nF) (nI nC) (nI ((RSf nC cf ct aK K f9).length)) (nI 0) (nI 0) ym (fun c => nI (pl c)) (fun c => nI (cf c)) (fun c => nI (ct c)) aK eB eE eA eL eN eC (upd eS f9 (nI ((RSf nC cf ct aK K f9).length))) eW eT) := hD
            refine lv_aload_n hx hb d_C_gather_45 rfl (lv_at hl 0 rfl) ?_
            refine lv_aload_n hx hb d_C_gather_46 rfl (lv_at hl 1 rfl) ?_
            refine lv_iload_n hx hb d_C_gather_47 rfl (lv_at hl 2 rfl) ?_
            have hFc := va_free (wc := wC h cI (nI nF) (nI nC) (nI ((RSf nC cf ct aK K f9).length)) (nI 0) (nI 0) ym (fun c => nI (pl c)) (fun c => nI (cf c)) (fun c => nI (ct c)) aK eB eE eA eL eN eC (upd eS f9 (nI ((RSf nC cf ct aK K f9).length))) eW eT) hD hS hA [0, 1, 2, 3, 4, 5, 6, 7, 8, 9, 10, 11, 12, 13, 14, 15, 16] rfl
            refine va_callv (va_runV (As := [.ref (h 1), .int (nI f9)]) (rest := []) ⟨hx, hb, hml, hown, hk⟩ (c_C_gatherFrom_ok l dC dI cI h H.size (nI 0) ym aK eB eE eA eL eN eC (upd eS f9 (nI ((RSf nC cf ct aK K f9).length))) eW eT nF nC pl cf ct K f9 (RSf nC cf ct aK K f9) (hF) (hC) (hS0) (hpl) (hK8) (by omega) (by omega) (pk_us) (hrw) (hsm) (hclr) (hcl)) (cwV 2 hk g_C_52 rfl rfl rfl (by decide +kernel) ⟨Nat.le_of_ble_eq_true rfl, Nat.le_of_ble_eq_true rfl⟩) ⟨fun a U g mk q => by obtain ⟨q0, q1, qP, qK, qD⟩ := q; exact ⟨q0, q1, qP, va_K.moved (u := U) (U := U.calling g mk a) (Vm.Alike.refl U.vm) qK, qD⟩, va_recv hK hP (ci := 2) (q0 := 6) rfl rfl, fun U hU hW => ⟨rfl, by rw [hU], by rw [hU]; exact hP, va_K.moved hW.alike hK, hD.weaken (fun _ _ _ _ => trivial)⟩⟩ rfl rfl hl.1 rfl (lv_room (Nat.le_of_ble_eq_true rfl)) d_C_gather_48 ⟨Nat.le_of_ble_eq_true rfl, Nat.le_of_ble_eq_true rfl⟩) hS (fun q _ h => hFc q h) hFc (fun u9 t H1 locs ht hvm hw hB hz1 hk1 hS => ?_)
            obtain ⟨yn9, yt9, eB9, eE9, eA9, eL9, eN9, eC9⟩ := u9
            obtain ⟨hP1, hK1, hD1⟩ := hB
            rw [ht] at hP1
            try dsimp only at hw
            obtain ⟨hP, hD⟩ := va_join (wr := []) (w1 := wC h cI (nI nF) (nI nC) yn9 yt9 (nI 0) ym (fun c => nI (pl c)) (fun c => nI (cf c)) (fun c => nI (ct c)) aK eB9 eE9 eA9 eL9 eN9 eC9 (upd eS f9 (nI ((RSf nC cf ct aK K f9).length))) eW eT) hP hD [0, 1, 2, 3, 4, 5, 6, 7, 8, 9, 10, 11, 12, 13, 14, 15, 16] [] rfl rfl (by decide) (by decide) hk1 hFc hP1 hD1
            generalize H1 = H at hP hS ⊢
            have hP : va_P (dC, dI) kls (wC h cI (nI nF) (nI nC) yn9 yt9 (nI 0) ym (fun c => nI (pl c)) (fun c => nI (cf c)) (fun c => nI (ct c)) aK eB9 eE9 eA9 eL9 eN9 eC9 (upd eS f9 (nI ((RSf nC cf ct aK K f9).length))) eW eT) H := hP
            have hD : va_D A (wC h cI (nI nF) (nI nC) yn9 yt9 (nI 0) ym (fun c => nI (pl c)) (fun c => nI (cf c)) (fun c => nI (ct c)) aK eB9 eE9 eA9 eL9 eN9 eC9 (upd eS f9 (nI ((RSf nC cf ct aK K f9).length))) eW eT) := hD
            obtain ⟨rs, hu1, hrl, hr0, hrw9, hsm9, hcl9, hw⟩ := hw
            rcases hw with ⟨hu2, hgl, hrs⟩ | ⟨hu2, hgl⟩
            · subst hu1
              subst hu2
              refine lv_aload_n hx hb d_C_gather_51 rfl (lv_at hl 0 rfl) ?_
              refine va_get (D := (dC, dI)) (ci := 2) (v := .ref (h 13)) (C := R_C) (T := F_C) (N := 11) hx hb hk k_f_C hown hK hP 6 rfl rfl 6 (by decide) (hk _ k_C_51) (fun _ h9 => h9) rfl d_C_gather_52 ?_
              refine lv_iload_n hx hb d_C_gather_55 rfl (lv_at hl 2 rfl) ?_
              refine lv_iconst (v := nI 1) hx hb d_C_gather_56 (by decide +kernel) ?_
              refine lv_iadd hx hb d_C_gather_57 ?_
              refine lv_topi (fun z2 ez2 => ?_)
              obtain rfl : z2 = nI (f9 + 1) := ez2.trans (nI_add _ _)
              refine lv_aload_n hx hb d_C_gather_58 rfl (lv_at hl 0 rfl) ?_
              refine va_get (D := (dC, dI)) (ci := 2) (v := .int (nI rs.length)) (C := R_C) (T := F_C) (N := 11) hx hb hk k_f_C hown hK hP 6 rfl rfl 8 (by decide) (hk _ k_C_54) (fun _ h9 => h9) rfl d_C_gather_59 ?_
              refine va_iast hx hb hK hP hD hS 13 0 rfl rfl (pk_in (f9 + 1) 11 (by omega)) d_C_gather_62 (fun H locs hP hD hS => ?_)
              rw [nI_clamp (n := f9 + 1) (by omega)] at hP hD
              have hP : va_P (dC, dI) kls (wC h cI (nI nF) (nI nC) (nI rs.length) (nI 0) (nI 0) ym (fun c => nI (pl c)) (fun c => nI (cf c)) (fun c => nI (ct c)) aK eB9 eE9 eA9 eL9 eN9 eC9 (upd (upd eS f9 (nI ((RSf nC cf ct aK K f9).length))) (f9 + 1) (nI rs.length)) eW eT) H := hP
              have hD : va_D A (wC h cI (nI nF) (nI nC) (nI rs.length) (nI 0) (nI 0) ym (fun c => nI (pl c)) (fun c => nI (cf c)) (fun c => nI (ct c)) aK eB9 eE9 eA9 eL9 eN9 eC9 (upd (upd eS f9 (nI ((RSf nC cf ct aK K f9).length))) (f9 + 1) (nI rs.length)) eW eT) := hD
              refine lv_aload_n hx hb d_C_gather_63 rfl (lv_at hl 0 rfl) ?_
              refine va_get (D := (dC, dI)) (ci := 2) (v := .ref (h 14)) (C := R_C) (T := F_C) (N := 11) hx hb hk k_f_C hown hK hP 6 rfl rfl 7 (by decide) (hk _ k_C_52) (fun _ h9 => h9) rfl d_C_gather_64 ?_
              refine lv_iload_n hx hb d_C_gather_67 rfl (lv_at hl 2 rfl) ?_
              refine lv_aload_n hx hb d_C_gather_68 rfl (lv_at hl 0 rfl) ?_
              refine lv_iload_n hx hb d_C_gather_69 rfl (lv_at hl 2 rfl) ?_
              have hFc := va_free (wc := wC h cI (nI nF) (nI nC) (nI rs.length) (nI 0) (nI 0) ym (fun c => nI (pl c)) (fun c => nI (cf c)) (fun c => nI (ct c)) aK eB9 eE9 eA9 eL9 eN9 eC9 (upd (upd eS f9 (nI ((RSf nC cf ct aK K f9).length))) (f9 + 1) (nI rs.length)) eW eT) hD hS hA [0, 1, 2, 3, 4, 5, 6, 7, 8, 9, 10, 11, 12, 13, 14, 15, 16] rfl
              refine va_calli (va_runV (As := [.int (nI f9)]) (rest := [.int (nI f9), .ref (h 14)]) ⟨hx, hb, hml, hown, hk⟩ (c_C_firstBad_ok l dC dI cI h H.size (nI nF) (nI nC) (nI rs.length) (nI 0) (nI 0) ym (fun c => nI (pl c)) (fun c => nI (cf c)) (fun c => nI (ct c)) aK eB9 eE9 eA9 eL9 eN9 eC9 (upd (upd eS f9 (nI ((RSf nC cf ct aK K f9).length))) (f9 + 1) (nI rs.length)) eW eT rs f9 ((RSf nC cf ct aK K f9).length) rs.length (hrl) (by omega) (hrw9) (hsm9) (hcl9) (by rw [pk_un (by omega), pk_us]) (pk_us) (hr0) (Nat.le_refl _)) (cwV 1 hk g_C_56 rfl rfl rfl (by decide +kernel) ⟨Nat.le_of_ble_eq_true rfl, Nat.le_of_ble_eq_true rfl⟩) ⟨fun a U g mk q => by obtain ⟨q0, q1, qP, qK, qD⟩ := q; exact ⟨q0, q1, qP, va_K.moved (u := U) (U := U.calling g mk a) (Vm.Alike.refl U.vm) qK, qD⟩, va_recv hK hP (ci := 2) (q0 := 6) rfl rfl, fun U hU hW => ⟨rfl, by rw [hU], by rw [hU]; exact hP, va_K.moved hW.alike hK, hD.weaken (fun _ _ _ _ => trivial)⟩⟩ rfl rfl hl.1 rfl (lv_room (Nat.le_of_ble_eq_true rfl)) d_C_gather_70 ⟨Nat.le_of_ble_eq_true rfl, Nat.le_of_ble_eq_true rfl⟩) hS (fun q _ h => hFc q h) hFc (fun r3 u9 t H1 locs ht hvm hw hB hz1 hk1 hS => ?_)
              obtain ⟨hP1, hK1, hD1⟩ := hB
              rw [ht] at hP1
              try dsimp only at hw
              obtain ⟨hP, hD⟩ := va_join (wr := []) (w1 := wC h cI (nI nF) (nI nC) (nI rs.length) (nI 0) (nI 0) ym (fun c => nI (pl c)) (fun c => nI (cf c)) (fun c => nI (ct c)) aK eB9 eE9 eA9 eL9 eN9 eC9 (upd (upd eS f9 (nI ((RSf nC cf ct aK K f9).length))) (f9 + 1) (nI rs.length)) eW eT) hP hD [0, 1, 2, 3, 4, 5, 6, 7, 8, 9, 10, 11, 12, 13, 14, 15, 16] [] rfl rfl (by decide) (by decide) hk1 hFc hP1 hD1
              generalize H1 = H at hP hS ⊢
              have hP : va_P (dC, dI) kls (wC h cI (nI nF) (nI nC) (nI rs.length) (nI 0) (nI 0) ym (fun c => nI (pl c)) (fun c => nI (cf c)) (fun c => nI (ct c)) aK eB9 eE9 eA9 eL9 eN9 eC9 (upd (upd eS f9 (nI ((RSf nC cf ct aK K f9).length))) (f9 + 1) (nI rs.length)) eW eT) H := hP
              have hD : va_D A (wC h cI (nI nF) (nI nC) (nI rs.length) (nI 0) (nI 0) ym (fun c => nI (pl c)) (fun c => nI (cf c)) (fun c => nI (ct c)) aK eB9 eE9 eA9 eL9 eN9 eC9 (upd (upd eS f9 (nI ((RSf nC cf ct aK K f9).length))) (f9 + 1) (nI rs.length)) eW eT) := hD
              have hfb := hw
              refine va_iast hx hb hK hP hD hS 14 0 rfl rfl (pk_in f9 10 (by omega)) d_C_gather_73 (fun H locs hP hD hS => ?_)
              rw [nI_clamp (n := f9) (by omega)] at hP hD
              have hP : va_P (dC, dI) kls (wC h cI (nI nF) (nI nC) (nI rs.length) (nI 0) (nI 0) ym (fun c => nI (pl c)) (fun c => nI (cf c)) (fun c => nI (ct c)) aK eB9 eE9 eA9 eL9 eN9 eC9 (upd (upd eS f9 (nI ((RSf nC cf ct aK K f9).length))) (f9 + 1) (nI rs.length)) (upd eW f9 r3) eT) H := hP
              have hD : va_D A (wC h cI (nI nF) (nI nC) (nI rs.length) (nI 0) (nI 0) ym (fun c => nI (pl c)) (fun c => nI (cf c)) (fun c => nI (ct c)) aK eB9 eE9 eA9 eL9 eN9 eC9 (upd (upd eS f9 (nI ((RSf nC cf ct aK K f9).length))) (f9 + 1) (nI rs.length)) (upd eW f9 r3) eT) := hD
              refine lv_iinc (v := nI (f9 + 1)) (lv' := [(2, .int (nI (f9 + 1))), (0, .ref (h 6)), (1, .ref (h 1))]) hx hb d_C_gather_74 hl (k := 2) rfl (nI_add f9 1) (by decide) rfl (fun ls hl => ?_)
              refine lv_goto (tgt := 20) hx hb d_C_gather_77 (by decide) ?_
              have hln := RSf_len nC cf ct aK K f9
              have hln2 := RSf_len nC cf ct aK K (f9 + 1)
              have hrs1 : rs = RSf nC cf ct aK K (f9 + 1) := by rw [hrs]; rfl
              have hgs : gN nC cf ct aK cj K (f9 + 1) = gN nC cf ct aK cj K f9 + (gF nC cf ct aK cj K f9).length := rfl
              have hfbo : fbOk nC cf ct aK K f9 r3 := by
                have hat : ∀ j x, (gF nC cf ct aK cj K f9)[j]? = some x → rs[(RSf nC cf ct aK K f9).length + j]? = some (shE (RSf nC cf ct aK K f9).length x) := by
                  intro j x hx9
                  rw [hrs, List.getElem?_append_right (by omega), show (RSf nC cf ct aK K f9).length + j - (RSf nC cf ct aK K f9).length = j by omega, List.getElem?_map, hx9]
                  rfl
                rcases hfb with ⟨z1, z2⟩ | ⟨k, en, z1, z2, z3, z4, z5, z6⟩
                · refine Or.inl ⟨z2, fun en hm => ?_⟩
                  obtain ⟨j, hj⟩ := List.getElem?_of_mem hm
                  exact z1 ((RSf nC cf ct aK K f9).length + j) (shE (RSf nC cf ct aK K f9).length en) (by omega) (by have := (List.getElem?_eq_some_iff.mp (hat j en hj)).1; exact this) (hat j en hj)
                · have hk2 : k - (RSf nC cf ct aK K f9).length < (gF nC cf ct aK cj K f9).length := by rw [hrs1] at z2; omega
                  obtain ⟨e2, he2⟩ : ∃ e2, (gF nC cf ct aK cj K f9)[k - (RSf nC cf ct aK K f9).length]? = some e2 := ⟨_, List.getElem?_eq_getElem hk2⟩
                  have h7 := hat _ e2 he2
                  rw [show (RSf nC cf ct aK K f9).length + (k - (RSf nC cf ct aK K f9).length) = k by omega, z3] at h7
                  cases h7
                  exact Or.inr ⟨k - (RSf nC cf ct aK K f9).length, e2, by rw [z6]; congr 1; omega, he2, z4, fun j x h1 h2 => z5 ((RSf nC cf ct aK K f9).length + j) (shE (RSf nC cf ct aK K f9).length x) (by omega) (by omega) (hat j x h2)⟩
              have hinv2 : (0 = 0 ∧ gOk nC cf ct aK K (f9 + 1) (nI rs.length) eB9 eE9 eA9 eL9 (upd (upd eS f9 (nI ((RSf nC cf ct aK K f9).length))) (f9 + 1) (nI rs.length)) (upd eW f9 r3)) ∨ (0 = 1 ∧ 800 < gN nC cf ct aK cj K nF) := by
                refine Or.inl ⟨rfl, by omega, by rw [hrs1], by rw [← hrs1]; exact hrw9, by rw [← hrs1]; exact hsm9, by rw [← hrs1]; exact hcl9, fun i hi => ?_⟩
                rcases Nat.lt_or_ge i f9 with z | z
                · obtain ⟨y1, y2, y3⟩ := hold i z
                  refine ⟨by rw [pk_un (by omega), pk_un (by omega)]; exact y1, ?_, by rw [pk_un (by omega)]; exact y3⟩
                  by_cases hif : i + 1 = f9
                  · rw [pk_un (by omega), hif, pk_us, hln]
                  · rw [pk_un (by omega), pk_un hif]; exact y2
                · obtain rfl : i = f9 := by omega
                  exact ⟨by rw [pk_un (by omega), pk_us, hln], by rw [pk_us, hrs1, hln2], by rw [pk_us]; exact hfbo⟩
              exact ih_lp (f9 + 1) 0 (nI rs.length) eB9 eE9 eA9 eL9 eN9 eC9 (upd (upd eS f9 (nI ((RSf nC cf ct aK K f9).length))) (f9 + 1) (nI rs.length)) (upd eW f9 r3) (by omega) (hinv2) (by omega) _ _ _ hP hD hS (lv_sub hl [1, 2, 0] rfl)
            · subst hu1
              subst hu2
              refine lv_aload_n hx hb d_C_gather_51 rfl (lv_at hl 0 rfl) ?_
              refine va_get (D := (dC, dI)) (ci := 2) (v := .ref (h 13)) (C := R_C) (T := F_C) (N := 11) hx hb hk k_f_C hown hK hP 6 rfl rfl 6 (by decide) (hk _ k_C_51) (fun _ h9 => h9) rfl d_C_gather_52 ?_
              refine lv_iload_n hx hb d_C_gather_55 rfl (lv_at hl 2 rfl) ?_
              refine lv_iconst (v := nI 1) hx hb d_C_gather_56 (by decide +kernel) ?_
              refine lv_iadd hx hb d_C_gather_57 ?_
              refine lv_topi (fun z4 ez4 => ?_)
              obtain rfl : z4 = nI (f9 + 1) := ez4.trans (nI_add _ _)
              refine lv_aload_n hx hb d_C_gather_58 rfl (lv_at hl 0 rfl) ?_
              refine va_get (D := (dC, dI)) (ci := 2) (v := .int (nI rs.length)) (C := R_C) (T := F_C) (N := 11) hx hb hk k_f_C hown hK hP 6 rfl rfl 8 (by decide) (hk _ k_C_54) (fun _ h9 => h9) rfl d_C_gather_59 ?_
              refine va_iast hx hb hK hP hD hS 13 0 rfl rfl (pk_in (f9 + 1) 11 (by omega)) d_C_gather_62 (fun H locs hP hD hS => ?_)
              rw [nI_clamp (n := f9 + 1) (by omega)] at hP hD
              have hP : va_P (dC, dI) kls (wC h cI (nI nF) (nI nC) (nI rs.length) (nI 1) (nI 0) ym (fun c => nI (pl c)) (fun c => nI (cf c)) (fun c => nI (ct c)) aK eB9 eE9 eA9 eL9 eN9 eC9 (upd (upd eS f9 (nI ((RSf nC cf ct aK K f9).length))) (f9 + 1) (nI rs.length)) eW eT) H := hP
              have hD : va_D A (wC h cI (nI nF) (nI nC) (nI rs.length) (nI 1) (nI 0) ym (fun c => nI (pl c)) (fun c => nI (cf c)) (fun c => nI (ct c)) aK eB9 eE9 eA9 eL9 eN9 eC9 (upd (upd eS f9 (nI ((RSf nC cf ct aK K f9).length))) (f9 + 1) (nI rs.length)) eW eT) := hD
              refine lv_aload_n hx hb d_C_gather_63 rfl (lv_at hl 0 rfl) ?_
              refine va_get (D := (dC, dI)) (ci := 2) (v := .ref (h 14)) (C := R_C) (T := F_C) (N := 11) hx hb hk k_f_C hown hK hP 6 rfl rfl 7 (by decide) (hk _ k_C_52) (fun _ h9 => h9) rfl d_C_gather_64 ?_
              refine lv_iload_n hx hb d_C_gather_67 rfl (lv_at hl 2 rfl) ?_
              refine lv_aload_n hx hb d_C_gather_68 rfl (lv_at hl 0 rfl) ?_
              refine lv_iload_n hx hb d_C_gather_69 rfl (lv_at hl 2 rfl) ?_
              have hFc := va_free (wc := wC h cI (nI nF) (nI nC) (nI rs.length) (nI 1) (nI 0) ym (fun c => nI (pl c)) (fun c => nI (cf c)) (fun c => nI (ct c)) aK eB9 eE9 eA9 eL9 eN9 eC9 (upd (upd eS f9 (nI ((RSf nC cf ct aK K f9).length))) (f9 + 1) (nI rs.length)) eW eT) hD hS hA [0, 1, 2, 3, 4, 5, 6, 7, 8, 9, 10, 11, 12, 13, 14, 15, 16] rfl
              refine va_calli (va_runV (As := [.int (nI f9)]) (rest := [.int (nI f9), .ref (h 14)]) ⟨hx, hb, hml, hown, hk⟩ (c_C_firstBad_ok l dC dI cI h H.size (nI nF) (nI nC) (nI rs.length) (nI 1) (nI 0) ym (fun c => nI (pl c)) (fun c => nI (cf c)) (fun c => nI (ct c)) aK eB9 eE9 eA9 eL9 eN9 eC9 (upd (upd eS f9 (nI ((RSf nC cf ct aK K f9).length))) (f9 + 1) (nI rs.length)) eW eT rs f9 ((RSf nC cf ct aK K f9).length) rs.length (hrl) (by omega) (hrw9) (hsm9) (hcl9) (by rw [pk_un (by omega), pk_us]) (pk_us) (hr0) (Nat.le_refl _)) (cwV 1 hk g_C_56 rfl rfl rfl (by decide +kernel) ⟨Nat.le_of_ble_eq_true rfl, Nat.le_of_ble_eq_true rfl⟩) ⟨fun a U g mk q => by obtain ⟨q0, q1, qP, qK, qD⟩ := q; exact ⟨q0, q1, qP, va_K.moved (u := U) (U := U.calling g mk a) (Vm.Alike.refl U.vm) qK, qD⟩, va_recv hK hP (ci := 2) (q0 := 6) rfl rfl, fun U hU hW => ⟨rfl, by rw [hU], by rw [hU]; exact hP, va_K.moved hW.alike hK, hD.weaken (fun _ _ _ _ => trivial)⟩⟩ rfl rfl hl.1 rfl (lv_room (Nat.le_of_ble_eq_true rfl)) d_C_gather_70 ⟨Nat.le_of_ble_eq_true rfl, Nat.le_of_ble_eq_true rfl⟩) hS (fun q _ h => hFc q h) hFc (fun r5 u9 t H1 locs ht hvm hw hB hz1 hk1 hS => ?_)
              obtain ⟨hP1, hK1, hD1⟩ := hB
              rw [ht] at hP1
              try dsimp only at hw
              obtain ⟨hP, hD⟩ := va_join (wr := []) (w1 := wC h cI (nI nF) (nI nC) (nI rs.length) (nI 1) (nI 0) ym (fun c => nI (pl c)) (fun c => nI (cf c)) (fun c => nI (ct c)) aK eB9 eE9 eA9 eL9 eN9 eC9 (upd (upd eS f9 (nI ((RSf nC cf ct aK K f9).length))) (f9 + 1) (nI rs.length)) eW eT) hP hD [0, 1, 2, 3, 4, 5, 6, 7, 8, 9, 10, 11, 12, 13, 14, 15, 16] [] rfl rfl (by decide) (by decide) hk1 hFc hP1 hD1
              generalize H1 = H at hP hS ⊢
              have hP : va_P (dC, dI) kls (wC h cI (nI nF) (nI nC) (nI rs.length) (nI 1) (nI 0) ym (fun c => nI (pl c)) (fun c => nI (cf c)) (fun c => nI (ct c)) aK eB9 eE9 eA9 eL9 eN9 eC9 (upd (upd eS f9 (nI ((RSf nC cf ct aK K f9).length))) (f9 + 1) (nI rs.length)) eW eT) H := hP
              have hD : va_D A (wC h cI (nI nF) (nI nC) (nI rs.length) (nI 1) (nI 0) ym (fun c => nI (pl c)) (fun c => nI (cf c)) (fun c => nI (ct c)) aK eB9 eE9 eA9 eL9 eN9 eC9 (upd (upd eS f9 (nI ((RSf nC cf ct aK K f9).length))) (f9 + 1) (nI rs.length)) eW eT) := hD
              have hfb := hw
              refine va_iast hx hb hK hP hD hS 14 0 rfl rfl (pk_in f9 10 (by omega)) d_C_gather_73 (fun H locs hP hD hS => ?_)
              rw [nI_clamp (n := f9) (by omega)] at hP hD
              have hP : va_P (dC, dI) kls (wC h cI (nI nF) (nI nC) (nI rs.length) (nI 1) (nI 0) ym (fun c => nI (pl c)) (fun c => nI (cf c)) (fun c => nI (ct c)) aK eB9 eE9 eA9 eL9 eN9 eC9 (upd (upd eS f9 (nI ((RSf nC cf ct aK K f9).length))) (f9 + 1) (nI rs.length)) (upd eW f9 r5) eT) H := hP
              have hD : va_D A (wC h cI (nI nF) (nI nC) (nI rs.length) (nI 1) (nI 0) ym (fun c => nI (pl c)) (fun c => nI (cf c)) (fun c => nI (ct c)) aK eB9 eE9 eA9 eL9 eN9 eC9 (upd (upd eS f9 (nI ((RSf nC cf ct aK K f9).length))) (f9 + 1) (nI rs.length)) (upd eW f9 r5) eT) := hD
              refine lv_iinc (v := nI (f9 + 1)) (lv' := [(2, .int (nI (f9 + 1))), (0, .ref (h 6)), (1, .ref (h 1))]) hx hb d_C_gather_74 hl (k := 2) rfl (nI_add f9 1) (by decide) rfl (fun ls hl => ?_)
              refine lv_goto (tgt := 20) hx hb d_C_gather_77 (by decide) ?_
              have hgs : gN nC cf ct aK cj K (f9 + 1) = gN nC cf ct aK cj K f9 + (gF nC cf ct aK cj K f9).length := rfl
              have hln := RSf_len nC cf ct aK K f9
              have hmono := gN_mono nC cf ct aK cj K (show f9 + 1 ≤ nF by omega)
              exact ih_lp (f9 + 1) 1 (nI rs.length) eB9 eE9 eA9 eL9 eN9 eC9 (upd (upd eS f9 (nI ((RSf nC cf ct aK K f9).length))) (f9 + 1) (nI rs.length)) (upd eW f9 r5) (by omega) (Or.inr ⟨rfl, by omega⟩) (by omega) _ _ _ hP hD hS (lv_sub hl [1, 2, 0] rfl)
        · subst ht1
          refine lv_aload_n hx hb d_C_gather_21 rfl (lv_at hl 1 rfl) ?_
          refine va_get (D := (dC, dI)) (ci := 1) (v := .int (nI nF)) (C := R_P) (T := F_P) (N := 6) hx hb hk k_f_P hown hK hP 1 rfl rfl 4 (by decide) (hk _ k_C_34) (fun _ h9 => h9) rfl d_C_gather_22 ?_
          refine lv_icmp_ge (tgt := 80) hx hb d_C_gather_25 (by decide) (fun c_25 => ?_) (fun c_25 => ?_)
          · have c_25 : nF ≤ f9 := (nI_leI (a := nF) (b := f9) (by omega) (by omega)).mp c_25
            refine lv_aload_n hx hb d_C_gather_80 rfl (lv_at hl 0 rfl) ?_
            refine lv_iconst (v := nI 1) hx hb d_C_gather_81 (by decide +kernel) ?_
            refine va_put (D := (dC, dI)) (ci := 2) (v := .int (nI 1)) (ty := .boolean) (C := R_C) (T := F_C) (N := 11) hx hb hk k_f_C t_C t_C_ok n_C hown hK hP hD hS 6 rfl rfl 10 (by decide) (hk _ k_C_57) (fun _ h9 => h9) rfl (by decide +kernel) rfl rfl (Nat.le_of_ble_eq_true rfl) d_C_gather_82 (fun H locs hP hD hS => ?_)
            have hP : va_P (dC, dI) kls (wC h cI (nI nF) (nI nC) yn (nI 1) (nI 1) ym (fun c => nI (pl c)) (fun c => nI (cf c)) (fun c => nI (ct c)) aK eB eE eA eL eN eC eS eW eT) H := hP
            have hD : va_D A (wC h cI (nI nF) (nI nC) yn (nI 1) (nI 1) ym (fun c => nI (pl c)) (fun c => nI (cf c)) (fun c => nI (ct c)) aK eB eE eA eL eN eC eS eW eT) := hD
            exact W.vret hx hb hr (fun t ht hW => ⟨⟨(yn, nI 1, nI 1, eB, eE, eA, eL, eN, eC, eS, eW), rfl, ⟨rfl, Or.inr ⟨rfl, hgt⟩⟩, by rw [ht]; exact hP, va_K.moved hW.alike hK, hD⟩, hS.F ht⟩) hS.2.2 d_C_gather_85
          · have c_25 : ¬ nF ≤ f9 := fun z9 => c_25 ((nI_leI (a := nF) (b := f9) (by omega) (by omega)).mpr z9)
            refine lv_aload_n hx hb d_C_gather_28 rfl (lv_at hl 0 rfl) ?_
            refine va_get (D := (dC, dI)) (ci := 2) (v := .int (nI 1)) (C := R_C) (T := F_C) (N := 11) hx hb hk k_f_C hown hK hP 6 rfl rfl 9 (by decide) (hk _ k_C_55) (fun _ h9 => h9) rfl d_C_gather_29 ?_
            refine lv_if_ne (tgt := 80) hx hb d_C_gather_32 (by decide) (fun _ => ?_) (fun c9 => absurd c9 (by decide +kernel))
            refine lv_aload_n hx hb d_C_gather_80 rfl (lv_at hl 0 rfl) ?_
            refine lv_iconst (v := nI 1) hx hb d_C_gather_81 (by decide +kernel) ?_
            refine va_put (D := (dC, dI)) (ci := 2) (v := .int (nI 1)) (ty := .boolean) (C := R_C) (T := F_C) (N := 11) hx hb hk k_f_C t_C t_C_ok n_C hown hK hP hD hS 6 rfl rfl 10 (by decide) (hk _ k_C_57) (fun _ h9 => h9) rfl (by decide +kernel) rfl rfl (Nat.le_of_ble_eq_true rfl) d_C_gather_82 (fun H locs hP hD hS => ?_)
            have hP : va_P (dC, dI) kls (wC h cI (nI nF) (nI nC) yn (nI 1) (nI 1) ym (fun c => nI (pl c)) (fun c => nI (cf c)) (fun c => nI (ct c)) aK eB eE eA eL eN eC eS eW eT) H := hP
            have hD : va_D A (wC h cI (nI nF) (nI nC) yn (nI 1) (nI 1) ym (fun c => nI (pl c)) (fun c => nI (cf c)) (fun c => nI (ct c)) aK eB eE eA eL eN eC eS eW eT) := hD
            exact W.vret hx hb hr (fun t ht hW => ⟨⟨(yn, nI 1, nI 1, eB, eE, eA, eL, eN, eC, eS, eW), rfl, ⟨rfl, Or.inr ⟨rfl, hgt⟩⟩, by rw [ht]; exact hP, va_K.moved hW.alike hK, hD⟩, hS.F ht⟩) hS.2.2 d_C_gather_85
    exact lp _ 0 0 (nI 0) eB eE eA eL eN eC eS eW (Nat.zero_le _) (Or.inl ⟨rfl, h00⟩) (Nat.lt_succ_self _) _ _ _ hP hD hS (lv_sub hl [1, 2, 0] rfl)
  · subst hg1
    refine lv_aload_n hx hb d_C_gather_0 rfl (lv_at hl 0 rfl) ?_
    refine va_get (D := (dC, dI)) (ci := 2) (v := .int (nI 1)) (C := R_C) (T := F_C) (N := 11) hx hb hk k_f_C hown hK hP 6 rfl rfl 10 (by decide) (hk _ k_C_57) (fun _ h9 => h9) rfl d_C_gather_1 ?_
    refine lv_if_eq (tgt := 8) hx hb d_C_gather_4 (by decide) (fun c9 => absurd c9 (by decide +kernel)) (fun _ => ?_)
    exact W.vret hx hb hr (fun t ht hW => ⟨⟨(yn, yt, nI 1, eB, eE, eA, eL, eN, eC, eS, eW), rfl, ⟨rfl, hgi⟩, by rw [ht]; exact hP, va_K.moved hW.alike hK, hD⟩, hS.F ht⟩) hS.2.2 d_C_gather_7
