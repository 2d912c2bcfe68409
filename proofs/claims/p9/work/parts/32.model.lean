theorem take_next {α : Type} {l : List α} {k : Nat} {x : α} (h : l[k]? = some x) : l.take (k + 1) = l.take k ++ [x] := by
  rw [List.take_add_one, h]; rfl
theorem cnt_next {es : List En} {k : Nat} {x : En} (q : En → Bool) (h : es[k]? = some x) : (es.take (k + 1)).countP q = (es.take k).countP q + (if q x = true then 1 else 0) := by
  rw [take_next h, List.countP_append, List.countP_cons, List.countP_nil, Nat.zero_add]
theorem sm_of {nC : Nat} {cf ct : Nat → Nat} {ck : Nat → Int32} {J : Int32 → Int32 → Int32} {ok : Nat → Bool} (hS : ∀ c, c < nC → cf c < 16 ∧ ct c < 16) {es : List En} (h : ∀ e ∈ es, bsOk nC cf ct ck J ok e) : smE es := by
  have key : ∀ n f g b, rwN nC cf ct ck J n f g b → f < 16 ∧ g < 16 := by
    intro n
    induction n with
    | zero => rintro f g b ⟨c, hc, rfl, rfl, -⟩; exact hS c hc
    | succ n ih =>
      rintro f g b ⟨g', b', c, h1, hc, -, rfl, -⟩
      exact ⟨(ih f g' b' h1).1, (hS c hc).2⟩
  intro e he
  obtain ⟨-, n, hn⟩ := h e he
  exact key n _ _ _ hn
theorem sm_take {es : List En} (h : smE es) (n : Nat) : smE (es.take n) := fun e he => h e (List.mem_of_mem_take he)
theorem sm_ext {es fs : List En} (h : smE fs) (hx : ∃ t, fs = es ++ t) : smE es := fun e he => h e (ext_mem hx he)
def badX (x : Int32) : Prop := rj x x = x ∧ ∀ i, i < 4 → atN x i i ≠ 2
set_option maxHeartbeats 4000000 in
set_option maxRecDepth 100000 in
theorem m_find (l : Launch) (dC : Nat → ClassId) (dI : Nat → Nat → Nat) (cI cZ : ClassId) (h : Nat → Nat) (sz : Nat) (xt xf xg : Int32) (aP aK bF bL bB bA bY bR oT oO oR bS : Nat → Int32) (nC K : Nat) (cf ct : Nat → Nat) (ok : Nat → Bool) (q : Int32) (hC : nC ≤ 20) (hK8 : 801 ≤ K) (hS0 : ∀ c, c < nC → cf c < 16 ∧ ct c < 16) (hok : ∀ c, c < nC → (ok (cf c) = true ↔ q = -1 ∨ nI (cf c) = q)) : Met l y_M_find w_M_find ({ frames := 2, cells := 0, slots := 0, locals := 51 }) (va_Pc [.ref (h 0), .int q] (fun U => U.heap.size = sz ∧ va_P (dC, dI) kls (wM h cI cZ xt xf (nI nC) xg aP (fun c => nI (cf c)) (fun c => nI (ct c)) aK bF bL bB bA bY bR oT oO oR bS) U.heap ∧ va_K (dC, dI) kls (tyM cI cZ) U ∧ va_D (fun _ => True) (wM h cI cZ xt xf (nI nC) xg aP (fun c => nI (cf c)) (fun c => nI (ct c)) aK bF bL bB bA bY bR oT oO oR bS))) (va_Qi (fun (r : Int32) (u : Int32 × (Nat → Int32) × (Nat → Int32) × (Nat → Int32) × (Nat → Int32) × (Nat → Int32)) => (r = nI 1 ∧ (bsG nC cf ct aK rj ok K).length ≤ 800 ∧ u.1 = nI (bsG nC cf ct aK rj ok K).length ∧ hE (bsG nC cf ct aK rj ok K) u.2.1 u.2.2.1 u.2.2.2.1 u.2.2.2.2.1 u.2.2.2.2.2) ∨ (r = nI 0 ∧ 800 < (bsG nC cf ct aK rj ok K).length)) (fun (u : Int32 × (Nat → Int32) × (Nat → Int32) × (Nat → Int32) × (Nat → Int32) × (Nat → Int32)) (t : State) => va_P (dC, dI) kls (wM h cI cZ xt xf (nI nC) u.1 aP (fun c => nI (cf c)) (fun c => nI (ct c)) aK u.2.1 u.2.2.1 u.2.2.2.1 u.2.2.2.2.1 u.2.2.2.2.2 bR oT oO oR bS) t.heap ∧ va_K (dC, dI) kls (tyM cI cZ) t ∧ va_D (va_A (wM h cI cZ xt xf (nI nC) xg aP (fun c => nI (cf c)) (fun c => nI (ct c)) aK bF bL bB bA bY bR oT oO oR bS) sz) (wM h cI cZ xt xf (nI nC) u.1 aP (fun c => nI (cf c)) (fun c => nI (ct c)) aK u.2.1 u.2.2.1 u.2.2.2.1 u.2.2.2.2.1 u.2.2.2.2.2 bR oT oO oR bS)) (va_A (wM h cI cZ xt xf (nI nC) xg aP (fun c => nI (cf c)) (fun c => nI (ct c)) aK bF bL bB bA bY bR oT oO oR bS) sz)) 0 0 (va_A (wM h cI cZ xt xf (nI nC) xg aP (fun c => nI (cf c)) (fun c => nI (ct c)) aK bF bL bB bA bY bR oT oO oR bS) sz) := by
  refine Met.ofW (cc := c_M_find) (maxL := 4) (ret := (some .boolean)) (by decide) rfl ?_
  intro p e s m args below meth c s₁ B hml hv
  obtain ⟨rfl, hsz, hP, hK, hD0⟩ := hv
  have hx := B.exec
  have hb := B.bytes
  have hr := B.returns
  have hts := atoms_spec (ws := w_M_find) B.pre
  have hk : ∀ w ∈ wMw, w.before _ s = true := fun w h => hts w (List.mem_cons_of_mem _ h)
  have hown : s.vm.findClass R_M = some m.cls := findClass_of_methodNamed B.named
  have hlocks := B.notSynchronized
  subst hsz
  have hD := hD0.self (sz := s.heap.size)
  generalize hAe : va_A (wM h cI cZ xt xf (nI nC) xg aP (fun c => nI (cf c)) (fun c => nI (ct c)) aK bF bL bB bA bY bR oT oO oR bS) s.heap.size = A at hD ⊢
  have hA : ∀ q : Nat, s.heap.size ≤ q → A q := fun q h => by rw [← hAe]; exact Or.inr h
  have hS : va_S A s.heap s.heap [] := va_S.rf
  have hl := lv_entry ([.ref (h 0), .int q]) (n := 4) (Nat.le_of_ble_eq_true rfl)
  rw [lg_entry_eq]
  generalize (lg_sl ([.ref (h 0), .int q]) ++ List.replicate (4 - (lg_sl ([.ref (h 0), .int q])).length) Slot.unset).toArray = ls at hl ⊢
  have hl : lv_has ls 4 [(0, .ref (h 0)), (1, .int q)] := hl
  refine lv_aload_n hx hb d_M_find_0 rfl (lv_at hl 0 rfl) ?_
  refine lv_iconst (v := nI 0) hx hb d_M_find_1 (by decide +kernel) ?_
  refine va_put (D := (dC, dI)) (ci := 0) (v := .int (nI 0)) (ty := .int) (C := R_M) (T := F_M) (N := 18) hx hb hk k_M_f t_M t_M_ok n_M hown hK hP hD hS 0 rfl rfl 7 (by decide) (hk _ k_M_15) (fun _ h9 => h9) rfl (by decide +kernel) rfl rfl (Nat.le_of_ble_eq_true rfl) d_M_find_2 (fun H locs hP hD hS => ?_)
  have hP : va_P (dC, dI) kls (wM h cI cZ xt xf (nI nC) (nI 0) aP (fun c => nI (cf c)) (fun c => nI (ct c)) aK bF bL bB bA bY bR oT oO oR bS) H := hP
  have hD : va_D A (wM h cI cZ xt xf (nI nC) (nI 0) aP (fun c => nI (cf c)) (fun c => nI (ct c)) aK bF bL bB bA bY bR oT oO oR bS) := hD
  refine lv_iconst (v := nI 0) hx hb d_M_find_5 (by decide +kernel) ?_
  refine lv_istore_n (lv' := [(2, .int (nI 0)), (0, .ref (h 0)), (1, .int q)]) hx hb d_M_find_6 rfl hl (by decide) rfl (fun ls hl => ?_)
  have lpA : ∀ (n_lpA : Nat) (k : Nat) (bF : Nat → Int32) (bL : Nat → Int32) (bB : Nat → Int32) (bA : Nat → Int32) (bY : Nat → Int32), (k ≤ nC) → (hE ((bs0 cf ct aK ok k).take 801) bF bL bB bA bY) → nC - k < n_lpA → ∀ (H : Heap) (locs : List Loc) (ls : Array Slot), va_P (dC, dI) kls (wM h cI cZ xt xf (nI nC) (nI (((bs0 cf ct aK ok k).take 801).length)) aP (fun c => nI (cf c)) (fun c => nI (ct c)) aK bF bL bB bA bY bR oT oO oR bS) H → va_D A (wM h cI cZ xt xf (nI nC) (nI (((bs0 cf ct aK ok k).take 801).length)) aP (fun c => nI (cf c)) (fun c => nI (ct c)) aK bF bL bB bA bY bR oT oO oR bS) → va_S A s.heap H locs → lv_has ls 4 [(0, .ref (h 0)), (1, .int q), (2, .int (nI k))] → W p l e (headSpec w_M_find ({ frames := 2, cells := 0, slots := 0, locals := 51 })).room s m ([.ref (h 0), .int q]).toArray below meth c H locs 0 0 (MQ below (va_Qi (fun (r : Int32) (u : Int32 × (Nat → Int32) × (Nat → Int32) × (Nat → Int32) × (Nat → Int32) × (Nat → Int32)) => (r = nI 1 ∧ (bsG nC cf ct aK rj ok K).length ≤ 800 ∧ u.1 = nI (bsG nC cf ct aK rj ok K).length ∧ hE (bsG nC cf ct aK rj ok K) u.2.1 u.2.2.1 u.2.2.2.1 u.2.2.2.2.1 u.2.2.2.2.2) ∨ (r = nI 0 ∧ 800 < (bsG nC cf ct aK rj ok K).length)) (fun (u : Int32 × (Nat → Int32) × (Nat → Int32) × (Nat → Int32) × (Nat → Int32) × (Nat → Int32)) (t : State) => va_P (dC, dI) kls (wM h cI cZ xt xf (nI nC) u.1 aP (fun c => nI (cf c)) (fun c => nI (ct c)) aK u.2.1 u.2.2.1 u.2.2.2.1 u.2.2.2.2.1 u.2.2.2.2.2 bR oT oO oR bS) t.heap ∧ va_K (dC, dI) kls (tyM cI cZ) t ∧ va_D (A) (wM h cI cZ xt xf (nI nC) u.1 aP (fun c => nI (cf c)) (fun c => nI (ct c)) aK u.2.1 u.2.2.1 u.2.2.2.1 u.2.2.2.2.1 u.2.2.2.2.2 bR oT oO oR bS)) A) ([.ref (h 0), .int q]).toArray s 0 0 A) (F0 m 7 ls []) := by
    intro n_lpA
    induction n_lpA with
    | zero => intro k bF bL bB bA bY hk0 hE0 hn; exact absurd hn (Nat.not_lt_zero _)
    | succ n_lpA ih_lpA =>
      intro k bF bL bB bA bY hk0 hE0 hn H locs ls hP hD hS hl
      refine lv_iload_n hx hb d_M_find_7 rfl (lv_at hl 2 rfl) ?_
      refine lv_aload_n hx hb d_M_find_8 rfl (lv_at hl 0 rfl) ?_
      refine va_get (D := (dC, dI)) (ci := 0) (v := .int (nI nC)) (C := R_M) (T := F_M) (N := 18) hx hb hk k_M_f hown hK hP 0 rfl rfl 2 (by decide) (hk _ k_M_10) (fun _ h9 => h9) rfl d_M_find_9 ?_
      refine lv_icmp_ge (tgt := 60) hx hb d_M_find_12 (by decide) (fun c_12 => ?_) (fun c_12 => ?_)
      · have c_12 : nC ≤ k := (nI_leI (a := nC) (b := k) (by omega) (by omega)).mp c_12
        have hkn : k = nC := by omega
        rw [hkn] at hE0 hP hD
        clear hkn hk0 hn
        refine lv_iconst (v := nI 0) hx hb d_M_find_60 (by decide +kernel) ?_
        refine lv_istore_n (lv' := [(2, .int (nI 0)), (0, .ref (h 0)), (1, .int q)]) hx hb d_M_find_61 rfl hl (by decide) rfl (fun ls hl => ?_)
        have lpB : ∀ (n_lpB : Nat) (k : Nat) (bF : Nat → Int32) (bL : Nat → Int32) (bB : Nat → Int32) (bA : Nat → Int32) (bY : Nat → Int32), (k ≤ 801) → (hE ((bsG nC cf ct aK rj ok k).take 801) bF bL bB bA bY) → 801 - k < n_lpB → ∀ (H : Heap) (locs : List Loc) (ls : Array Slot), va_P (dC, dI) kls (wM h cI cZ xt xf (nI nC) (nI (((bsG nC cf ct aK rj ok k).take 801).length)) aP (fun c => nI (cf c)) (fun c => nI (ct c)) aK bF bL bB bA bY bR oT oO oR bS) H → va_D A (wM h cI cZ xt xf (nI nC) (nI (((bsG nC cf ct aK rj ok k).take 801).length)) aP (fun c => nI (cf c)) (fun c => nI (ct c)) aK bF bL bB bA bY bR oT oO oR bS) → va_S A s.heap H locs → lv_has ls 4 [(0, .ref (h 0)), (2, .int (nI k))] → W p l e (headSpec w_M_find ({ frames := 2, cells := 0, slots := 0, locals := 51 })).room s m ([.ref (h 0), .int q]).toArray below meth c H locs 0 0 (MQ below (va_Qi (fun (r : Int32) (u : Int32 × (Nat → Int32) × (Nat → Int32) × (Nat → Int32) × (Nat → Int32) × (Nat → Int32)) => (r = nI 1 ∧ (bsG nC cf ct aK rj ok K).length ≤ 800 ∧ u.1 = nI (bsG nC cf ct aK rj ok K).length ∧ hE (bsG nC cf ct aK rj ok K) u.2.1 u.2.2.1 u.2.2.2.1 u.2.2.2.2.1 u.2.2.2.2.2) ∨ (r = nI 0 ∧ 800 < (bsG nC cf ct aK rj ok K).length)) (fun (u : Int32 × (Nat → Int32) × (Nat → Int32) × (Nat → Int32) × (Nat → Int32) × (Nat → Int32)) (t : State) => va_P (dC, dI) kls (wM h cI cZ xt xf (nI nC) u.1 aP (fun c => nI (cf c)) (fun c => nI (ct c)) aK u.2.1 u.2.2.1 u.2.2.2.1 u.2.2.2.2.1 u.2.2.2.2.2 bR oT oO oR bS) t.heap ∧ va_K (dC, dI) kls (tyM cI cZ) t ∧ va_D (A) (wM h cI cZ xt xf (nI nC) u.1 aP (fun c => nI (cf c)) (fun c => nI (ct c)) aK u.2.1 u.2.2.1 u.2.2.2.1 u.2.2.2.2.1 u.2.2.2.2.2 bR oT oO oR bS)) A) ([.ref (h 0), .int q]).toArray s 0 0 A) (F0 m 62 ls []) := by
          intro n_lpB
          induction n_lpB with
          | zero => intro k bF bL bB bA bY hk0 hE0 hn; exact absurd hn (Nat.not_lt_zero _)
          | succ n_lpB ih_lpB =>
            intro k bF bL bB bA bY hk0 hE0 hn H locs ls hP hD hS hl
            have hL9 : ((bsG nC cf ct aK rj ok k).take 801).length ≤ 801 := by rw [List.length_take]; omega
            refine lv_iload_n hx hb d_M_find_62 rfl (lv_at hl 1 rfl) ?_
            refine lv_aload_n hx hb d_M_find_63 rfl (lv_at hl 0 rfl) ?_
            refine va_get (D := (dC, dI)) (ci := 0) (v := .int (nI (((bsG nC cf ct aK rj ok k).take 801).length))) (C := R_M) (T := F_M) (N := 18) hx hb hk k_M_f hown hK hP 0 rfl rfl 7 (by decide) (hk _ k_M_15) (fun _ h9 => h9) rfl d_M_find_64 ?_
            refine lv_icmp_ge (tgt := 150) hx hb d_M_find_67 (by decide) (fun c_67 => ?_) (fun c_67 => ?_)
            · have c_67 : ((bsG nC cf ct aK rj ok k).take 801).length ≤ k := (nI_leI (a := ((bsG nC cf ct aK rj ok k).take 801).length) (b := k) (by omega) (by omega)).mp c_67
              refine lv_aload_n hx hb d_M_find_150 rfl (lv_at hl 0 rfl) ?_
              refine va_get (D := (dC, dI)) (ci := 0) (v := .int (nI (((bsG nC cf ct aK rj ok k).take 801).length))) (C := R_M) (T := F_M) (N := 18) hx hb hk k_M_f hown hK hP 0 rfl rfl 7 (by decide) (hk _ k_M_15) (fun _ h9 => h9) rfl d_M_find_151 ?_
              refine lv_sipush (v := nI 800) hx hb d_M_find_154 (by decide +kernel) ?_
              refine lv_icmp_gt (tgt := 164) hx hb d_M_find_157 (by decide) (fun c_157 => ?_) (fun c_157 => ?_)
              · have c_157 : 800 < ((bsG nC cf ct aK rj ok k).take 801).length := (nI_ltI (a := 800) (b := ((bsG nC cf ct aK rj ok k).take 801).length) (by omega) (by omega)).mp c_157
                refine lv_iconst (v := nI 0) hx hb d_M_find_164 (by decide +kernel) ?_
                have hlen : 800 < (bsG nC cf ct aK rj ok k).length := by rw [List.length_take] at c_157; omega
                have hKk := ext_len (bsG_ext nC cf ct aK rj ok (show k ≤ K by omega))
                exact W.zret (v := nI 0) (ty := .boolean) hx hb hr rfl (fun t ht hW => ⟨⟨nI 0, (nI ((bsG nC cf ct aK rj ok k).take 801).length, bF, bL, bB, bA, bY), rfl, Or.inr ⟨rfl, by omega⟩, by rw [ht]; exact hP, va_K.moved hW.alike hK, hD⟩, hS.F ht⟩) hS.2.2 d_M_find_165
              · have c_157 : ¬ 800 < ((bsG nC cf ct aK rj ok k).take 801).length := fun z9 => c_157 ((nI_ltI (a := 800) (b := ((bsG nC cf ct aK rj ok k).take 801).length) (by omega) (by omega)).mpr z9)
                refine lv_iconst (v := nI 1) hx hb d_M_find_160 (by decide +kernel) ?_
                refine lv_goto (tgt := 165) hx hb d_M_find_161 (by decide) ?_
                have hlen : (bsG nC cf ct aK rj ok k).length ≤ 800 := by rw [List.length_take] at c_157; omega
                have htk : (bsG nC cf ct aK rj ok k).take 801 = bsG nC cf ct aK rj ok k := List.take_of_length_le (by omega)
                rw [htk] at hE0 hP hD
                have hend : (bsG nC cf ct aK rj ok k).length ≤ k := by first | (rw [htk] at c_67; exact c_67) | (rw [htk] at c_77; omega)
                have hKk : bsG nC cf ct aK rj ok K = bsG nC cf ct aK rj ok k := bsG_stay nC cf ct aK rj ok hend (by omega)
                exact W.zret (v := nI 1) (ty := .boolean) hx hb hr rfl (fun t ht hW => ⟨⟨nI 1, (nI (bsG nC cf ct aK rj ok k).length, bF, bL, bB, bA, bY), rfl, Or.inl ⟨rfl, by rw [hKk]; exact hlen, by rw [hKk], by rw [hKk]; exact hE0⟩, by rw [ht]; exact hP, va_K.moved hW.alike hK, hD⟩, hS.F ht⟩) hS.2.2 d_M_find_165
            · have c_67 : ¬ ((bsG nC cf ct aK rj ok k).take 801).length ≤ k := fun z9 => c_67 ((nI_leI (a := ((bsG nC cf ct aK rj ok k).take 801).length) (b := k) (by omega) (by omega)).mpr z9)
              refine lv_aload_n hx hb d_M_find_70 rfl (lv_at hl 0 rfl) ?_
              refine va_get (D := (dC, dI)) (ci := 0) (v := .int (nI (((bsG nC cf ct aK rj ok k).take 801).length))) (C := R_M) (T := F_M) (N := 18) hx hb hk k_M_f hown hK hP 0 rfl rfl 7 (by decide) (hk _ k_M_15) (fun _ h9 => h9) rfl d_M_find_71 ?_
              refine lv_sipush (v := nI 800) hx hb d_M_find_74 (by decide +kernel) ?_
              refine lv_icmp_gt (tgt := 150) hx hb d_M_find_77 (by decide) (fun c_77 => ?_) (fun c_77 => ?_)
              · have c_77 : 800 < ((bsG nC cf ct aK rj ok k).take 801).length := (nI_ltI (a := 800) (b := ((bsG nC cf ct aK rj ok k).take 801).length) (by omega) (by omega)).mp c_77
                refine lv_aload_n hx hb d_M_find_150 rfl (lv_at hl 0 rfl) ?_
                refine va_get (D := (dC, dI)) (ci := 0) (v := .int (nI (((bsG nC cf ct aK rj ok k).take 801).length))) (C := R_M) (T := F_M) (N := 18) hx hb hk k_M_f hown hK hP 0 rfl rfl 7 (by decide) (hk _ k_M_15) (fun _ h9 => h9) rfl d_M_find_151 ?_
                refine lv_sipush (v := nI 800) hx hb d_M_find_154 (by decide +kernel) ?_
                refine lv_icmp_gt (tgt := 164) hx hb d_M_find_157 (by decide) (fun c_157 => ?_) (fun c_157 => ?_)
                · have c_157 : 800 < ((bsG nC cf ct aK rj ok k).take 801).length := (nI_ltI (a := 800) (b := ((bsG nC cf ct aK rj ok k).take 801).length) (by omega) (by omega)).mp c_157
                  refine lv_iconst (v := nI 0) hx hb d_M_find_164 (by decide +kernel) ?_
                  have hlen : 800 < (bsG nC cf ct aK rj ok k).length := by rw [List.length_take] at c_157; omega
                  have hKk := ext_len (bsG_ext nC cf ct aK rj ok (show k ≤ K by omega))
                  exact W.zret (v := nI 0) (ty := .boolean) hx hb hr rfl (fun t ht hW => ⟨⟨nI 0, (nI ((bsG nC cf ct aK rj ok k).take 801).length, bF, bL, bB, bA, bY), rfl, Or.inr ⟨rfl, by omega⟩, by rw [ht]; exact hP, va_K.moved hW.alike hK, hD⟩, hS.F ht⟩) hS.2.2 d_M_find_165
                · have c_157 : ¬ 800 < ((bsG nC cf ct aK rj ok k).take 801).length := fun z9 => c_157 ((nI_ltI (a := 800) (b := ((bsG nC cf ct aK rj ok k).take 801).length) (by omega) (by omega)).mpr z9)
                  refine lv_iconst (v := nI 1) hx hb d_M_find_160 (by decide +kernel) ?_
                  refine lv_goto (tgt := 165) hx hb d_M_find_161 (by decide) ?_
                  have hlen : (bsG nC cf ct aK rj ok k).length ≤ 800 := by rw [List.length_take] at c_157; omega
                  have htk : (bsG nC cf ct aK rj ok k).take 801 = bsG nC cf ct aK rj ok k := List.take_of_length_le (by omega)
                  rw [htk] at hE0 hP hD
                  have hend : (bsG nC cf ct aK rj ok k).length ≤ k := by first | (rw [htk] at c_67; exact c_67) | (rw [htk] at c_77; omega)
                  have hKk : bsG nC cf ct aK rj ok K = bsG nC cf ct aK rj ok k := bsG_stay nC cf ct aK rj ok hend (by omega)
                  exact W.zret (v := nI 1) (ty := .boolean) hx hb hr rfl (fun t ht hW => ⟨⟨nI 1, (nI (bsG nC cf ct aK rj ok k).length, bF, bL, bB, bA, bY), rfl, Or.inl ⟨rfl, by rw [hKk]; exact hlen, by rw [hKk], by rw [hKk]; exact hE0⟩, by rw [ht]; exact hP, va_K.moved hW.alike hK, hD⟩, hS.F ht⟩) hS.2.2 d_M_find_165
              · have c_77 : ¬ 800 < ((bsG nC cf ct aK rj ok k).take 801).length := fun z9 => c_77 ((nI_ltI (a := 800) (b := ((bsG nC cf ct aK rj ok k).take 801).length) (by omega) (by omega)).mpr z9)
                refine lv_iconst (v := nI 0) hx hb d_M_find_80 (by decide +kernel) ?_
                refine lv_istore_n (lv' := [(3, .int (nI 0)), (0, .ref (h 0)), (2, .int (nI k))]) hx hb d_M_find_81 rfl hl (by decide) rfl (fun ls hl => ?_)
                have hlk : k < (bsG nC cf ct aK rj ok k).length := by rw [List.length_take] at c_67; omega
                obtain ⟨en, hen⟩ : ∃ en, (bsG nC cf ct aK rj ok k)[k]? = some en := ⟨_, List.getElem?_eq_getElem hlk⟩
                have lpC : ∀ (n_lpC : Nat) (i : Nat) (bF : Nat → Int32) (bL : Nat → Int32) (bB : Nat → Int32) (bA : Nat → Int32) (bY : Nat → Int32), (i ≤ nC) → (hE ((bsI cf ct aK rj k en (bsG nC cf ct aK rj ok k) i).take 801) bF bL bB bA bY) → nC - i < n_lpC → ∀ (H : Heap) (locs : List Loc) (ls : Array Slot), va_P (dC, dI) kls (wM h cI cZ xt xf (nI nC) (nI (((bsI cf ct aK rj k en (bsG nC cf ct aK rj ok k) i).take 801).length)) aP (fun c => nI (cf c)) (fun c => nI (ct c)) aK bF bL bB bA bY bR oT oO oR bS) H → va_D A (wM h cI cZ xt xf (nI nC) (nI (((bsI cf ct aK rj k en (bsG nC cf ct aK rj ok k) i).take 801).length)) aP (fun c => nI (cf c)) (fun c => nI (ct c)) aK bF bL bB bA bY bR oT oO oR bS) → va_S A s.heap H locs → lv_has ls 4 [(0, .ref (h 0)), (2, .int (nI k)), (3, .int (nI i))] → W p l e (headSpec w_M_find ({ frames := 2, cells := 0, slots := 0, locals := 51 })).room s m ([.ref (h 0), .int q]).toArray below meth c H locs 0 0 (MQ below (va_Qi (fun (r : Int32) (u : Int32 × (Nat → Int32) × (Nat → Int32) × (Nat → Int32) × (Nat → Int32) × (Nat → Int32)) => (r = nI 1 ∧ (bsG nC cf ct aK rj ok K).length ≤ 800 ∧ u.1 = nI (bsG nC cf ct aK rj ok K).length ∧ hE (bsG nC cf ct aK rj ok K) u.2.1 u.2.2.1 u.2.2.2.1 u.2.2.2.2.1 u.2.2.2.2.2) ∨ (r = nI 0 ∧ 800 < (bsG nC cf ct aK rj ok K).length)) (fun (u : Int32 × (Nat → Int32) × (Nat → Int32) × (Nat → Int32) × (Nat → Int32) × (Nat → Int32)) (t : State) => va_P (dC, dI) kls (wM h cI cZ xt xf (nI nC) u.1 aP (fun c => nI (cf c)) (fun c => nI (ct c)) aK u.2.1 u.2.2.1 u.2.2.2.1 u.2.2.2.2.1 u.2.2.2.2.2 bR oT oO oR bS) t.heap ∧ va_K (dC, dI) kls (tyM cI cZ) t ∧ va_D (A) (wM h cI cZ xt xf (nI nC) u.1 aP (fun c => nI (cf c)) (fun c => nI (ct c)) aK u.2.1 u.2.2.1 u.2.2.2.1 u.2.2.2.2.1 u.2.2.2.2.2 bR oT oO oR bS)) A) ([.ref (h 0), .int q]).toArray s 0 0 A) (F0 m 82 ls []) := by
                  intro n_lpC
                  induction n_lpC with
                  | zero => intro i bF bL bB bA bY hi0 hE0 hn; exact absurd hn (Nat.not_lt_zero _)
                  | succ n_lpC ih_lpC =>
                    intro i bF bL bB bA bY hi0 hE0 hn H locs ls hP hD hS hl
                    refine lv_iload_n hx hb d_M_find_82 rfl (lv_at hl 2 rfl) ?_
                    refine lv_aload_n hx hb d_M_find_83 rfl (lv_at hl 0 rfl) ?_
                    refine va_get (D := (dC, dI)) (ci := 0) (v := .int (nI nC)) (C := R_M) (T := F_M) (N := 18) hx hb hk k_M_f hown hK hP 0 rfl rfl 2 (by decide) (hk _ k_M_10) (fun _ h9 => h9) rfl d_M_find_84 ?_
                    refine lv_icmp_ge (tgt := 144) hx hb d_M_find_87 (by decide) (fun c_87 => ?_) (fun c_87 => ?_)
                    · have c_87 : nC ≤ i := (nI_leI (a := nC) (b := i) (by omega) (by omega)).mp c_87
                      have hin : i = nC := by omega
                      rw [hin] at hE0 hP hD
                      refine lv_iinc (v := nI (k + 1)) (lv' := [(2, .int (nI (k + 1))), (0, .ref (h 0)), (3, .int (nI i))]) hx hb d_M_find_144 hl (k := 1) rfl (nI_add k 1) (by decide) rfl (fun ls hl => ?_)
                      refine lv_goto (tgt := 62) hx hb d_M_find_147 (by decide) ?_
                      have hbs : bsG nC cf ct aK rj ok (k + 1) = bsI cf ct aK rj k en (bsG nC cf ct aK rj ok k) nC := by rw [bsG, hen]
                      rw [← hbs] at hE0 hP hD
                      exact ih_lpB (k + 1) bF bL bB bA bY (by omega) (hE0) (by omega) _ _ _ hP hD hS (lv_sub hl [1, 0] rfl)
                    · have c_87 : ¬ nC ≤ i := fun z9 => c_87 ((nI_leI (a := nC) (b := i) (by omega) (by omega)).mpr z9)
                      have hek : ((bsI cf ct aK rj k en (bsG nC cf ct aK rj ok k) i).take 801)[k]? = some en := by
                        rw [List.getElem?_take_of_lt (by omega)]
                        exact ext_at (bsI_ext cf ct aK rj k en (bsG nC cf ct aK rj ok k) i) hen
                      obtain ⟨q1, q2, q3, -, -⟩ := hE0 k en hek
                      have hsG : smE (bsG nC cf ct aK rj ok k) := sm_of hS0 (bsG_ok nC cf ct aK rj ok k)
                      have hsn := hsG en (List.mem_of_getElem? hen)
                      have hci := hS0 i (by omega)
                      refine lv_aload_n hx hb d_M_find_90 rfl (lv_at hl 0 rfl) ?_
                      refine va_get (D := (dC, dI)) (ci := 0) (v := .ref (h 2)) (C := R_M) (T := F_M) (N := 18) hx hb hk k_M_f hown hK hP 0 rfl rfl 4 (by decide) (hk _ k_M_12) (fun _ h9 => h9) rfl d_M_find_91 ?_
                      refine lv_iload_n hx hb d_M_find_94 rfl (lv_at hl 2 rfl) ?_
                      refine va_iald hx hb hK hP 2 0 rfl rfl (pk_in i 20 (by omega)) d_M_find_95 ?_
                      refine lv_topi (fun z1 ez1 => ?_)
                      obtain rfl : z1 = nI (cf i) := ez1.trans (rd (f := fun c => nI (cf c)) (k := i) (by omega))
                      refine lv_aload_n hx hb d_M_find_96 rfl (lv_at hl 0 rfl) ?_
                      refine va_get (D := (dC, dI)) (ci := 0) (v := .ref (h 6)) (C := R_M) (T := F_M) (N := 18) hx hb hk k_M_f hown hK hP 0 rfl rfl 9 (by decide) (hk _ k_M_17) (fun _ h9 => h9) rfl d_M_find_97 ?_
                      refine lv_iload_n hx hb d_M_find_100 rfl (lv_at hl 1 rfl) ?_
                      refine va_iald hx hb hK hP 6 0 rfl rfl (pk_in k 801 (by omega)) d_M_find_101 ?_
                      refine lv_topi (fun z2 ez2 => ?_)
                      obtain rfl : z2 = nI en.2.1 := ez2.trans ((rd (f := bL) (k := k) (by omega)).trans q2)
                      refine lv_icmp_ne (tgt := 138) hx hb d_M_find_102 (by decide) (fun c_102 => ?_) (fun c_102 => ?_)
                      · have c_102 : ¬ cf i = en.2.1 := fun z9 => c_102 ((nI_eq (a := cf i) (b := en.2.1) (by omega) (by omega)).mpr z9)
                        refine lv_iinc (v := nI (i + 1)) (lv' := [(3, .int (nI (i + 1))), (0, .ref (h 0)), (2, .int (nI k))]) hx hb d_M_find_138 hl (k := 2) rfl (nI_add i 1) (by decide) rfl (fun ls hl => ?_)
                        refine lv_goto (tgt := 82) hx hb d_M_find_141 (by decide) ?_
                        have hb0 : bsI cf ct aK rj k en (bsG nC cf ct aK rj ok k) (i + 1) = bsI cf ct aK rj k en (bsG nC cf ct aK rj ok k) i := by rw [bsI, if_neg c_102]
                        rw [← hb0] at hE0 hP hD
                        exact ih_lpC (i + 1) bF bL bB bA bY (by omega) (hE0) (by omega) _ _ _ hP hD hS (lv_sub hl [1, 2, 0] rfl)
                      · have c_102 : cf i = en.2.1 := (nI_eq (a := cf i) (b := en.2.1) (by omega) (by omega)).mp c_102
                        refine lv_aload_n hx hb d_M_find_105 rfl (lv_at hl 0 rfl) ?_
                        refine lv_aload_n hx hb d_M_find_106 rfl (lv_at hl 0 rfl) ?_
                        refine va_get (D := (dC, dI)) (ci := 0) (v := .ref (h 5)) (C := R_M) (T := F_M) (N := 18) hx hb hk k_M_f hown hK hP 0 rfl rfl 8 (by decide) (hk _ k_M_16) (fun _ h9 => h9) rfl d_M_find_107 ?_
                        refine lv_iload_n hx hb d_M_find_110 rfl (lv_at hl 1 rfl) ?_
                        refine va_iald hx hb hK hP 5 0 rfl rfl (pk_in k 801 (by omega)) d_M_find_111 ?_
                        refine lv_topi (fun z3 ez3 => ?_)
                        obtain rfl : z3 = nI en.1 := ez3.trans ((rd (f := bF) (k := k) (by omega)).trans q1)
                        refine lv_aload_n hx hb d_M_find_112 rfl (lv_at hl 0 rfl) ?_
                        refine va_get (D := (dC, dI)) (ci := 0) (v := .ref (h 3)) (C := R_M) (T := F_M) (N := 18) hx hb hk k_M_f hown hK hP 0 rfl rfl 5 (by decide) (hk _ k_M_13) (fun _ h9 => h9) rfl d_M_find_113 ?_
                        refine lv_iload_n hx hb d_M_find_116 rfl (lv_at hl 2 rfl) ?_
                        refine va_iald hx hb hK hP 3 0 rfl rfl (pk_in i 20 (by omega)) d_M_find_117 ?_
                        refine lv_topi (fun z4 ez4 => ?_)
                        obtain rfl : z4 = nI (ct i) := ez4.trans (rd (f := fun c => nI (ct c)) (k := i) (by omega))
                        refine lv_aload_n hx hb d_M_find_118 rfl (lv_at hl 0 rfl) ?_
                        refine va_get (D := (dC, dI)) (ci := 0) (v := .ref (h 7)) (C := R_M) (T := F_M) (N := 18) hx hb hk k_M_f hown hK hP 0 rfl rfl 10 (by decide) (hk _ k_M_18) (fun _ h9 => h9) rfl d_M_find_119 ?_
                        refine lv_iload_n hx hb d_M_find_122 rfl (lv_at hl 1 rfl) ?_
                        refine va_iald hx hb hK hP 7 0 rfl rfl (pk_in k 801 (by omega)) d_M_find_123 ?_
                        refine lv_topi (fun z5 ez5 => ?_)
                        obtain rfl : z5 = en.2.2.1 := ez5.trans ((rd (f := bB) (k := k) (by omega)).trans q3)
                        refine lv_aload_n hx hb d_M_find_124 rfl (lv_at hl 0 rfl) ?_
                        refine va_get (D := (dC, dI)) (ci := 0) (v := .ref (h 4)) (C := R_M) (T := F_M) (N := 18) hx hb hk k_M_f hown hK hP 0 rfl rfl 6 (by decide) (hk _ k_M_14) (fun _ h9 => h9) rfl d_M_find_125 ?_
                        refine lv_iload_n hx hb d_M_find_128 rfl (lv_at hl 2 rfl) ?_
                        refine va_iald hx hb hK hP 4 0 rfl rfl (pk_in i 20 (by omega)) d_M_find_129 ?_
                        refine lv_topi (fun z6 ez6 => ?_)
                        obtain rfl : z6 = aK i := ez6.trans (rd (f := aK) (k := i) (by omega))
                        refine vp_callSi (W.runS (As := [.int en.2.2.1, .int (aK i)]) (rest := [.int (nI (ct i)), .int (nI en.1), .ref (h 0)]) ⟨hx, hb, hml, hown, hk⟩ (m_joined l en.2.2.1 (aK i)) (cwS 2 hk g_M_joined rfl rfl rfl (by decide +kernel) ⟨Nat.le_of_ble_eq_true rfl, Nat.le_of_ble_eq_true rfl⟩) ⟨fun a U g mk q => q, fun U hU hW => ⟨rfl, trivial⟩⟩ rfl rfl hl.1 rfl (lv_room (Nat.le_of_ble_eq_true rfl)) d_M_find_130 ⟨Nat.le_of_ble_eq_true rfl, Nat.le_of_ble_eq_true rfl⟩) (fun r7 hw => ?_)
                        subst hw
                        refine lv_iload_n hx hb d_M_find_133 rfl (lv_at hl 1 rfl) ?_
                        refine lv_iload_n hx hb d_M_find_134 rfl (lv_at hl 2 rfl) ?_
                        have hFc := va_free (wc := wM h cI cZ xt xf (nI nC) (nI (((bsI cf ct aK rj k en (bsG nC cf ct aK rj ok k) i).take 801).length)) aP (fun c => nI (cf c)) (fun c => nI (ct c)) aK bF bL bB bA bY bR oT oO oR bS) hD hS hA [0, 1, 2, 3, 4, 5, 6, 7, 8, 9, 10, 11, 12, 13, 14] rfl
                        refine va_callv (va_runV (As := [.int (nI en.1), .int (nI (ct i)), .int (rj en.2.2.1 (aK i)), .int (nI k), .int (nI i)]) (rest := []) ⟨hx, hb, hml, hown, hk⟩ (m_add l dC dI cI cZ h H.size xt xf (nI nC) aP (fun c => nI (cf c)) (fun c => nI (ct c)) aK bF bL bB bA bY bR oT oO oR bS ((bsI cf ct aK rj k en (bsG nC cf ct aK rj ok k) i).take 801) en.1 (ct i) i (rj en.2.2.1 (aK i)) (some k) (by rw [List.length_take]; omega) (hE0) (sm_take (sm_of hS0 (bsI_ok nC cf ct aK rj ok k (bsG_ok nC cf ct aK rj ok k en (List.mem_of_getElem? hen)) (bsG_ok nC cf ct aK rj ok k) i (by omega))) _) (by omega) (by omega)) (cwV 5 hk g_M_add rfl rfl rfl (by decide +kernel) ⟨Nat.le_of_ble_eq_true rfl, Nat.le_of_ble_eq_true rfl⟩) ⟨fun a U g mk q => by obtain ⟨q0, q1, qP, qK, qD⟩ := q; exact ⟨q0, q1, qP, va_K.moved (u := U) (U := U.calling g mk a) (Vm.Alike.refl U.vm) qK, qD⟩, va_recv hK hP (ci := 0) (q0 := 0) rfl rfl, fun U hU hW => ⟨rfl, by rw [hU], by rw [hU]; exact hP, va_K.moved hW.alike hK, hD.weaken (fun _ _ _ _ => trivial)⟩⟩ rfl rfl hl.1 rfl (lv_room (Nat.le_of_ble_eq_true rfl)) d_M_find_135 ⟨Nat.le_of_ble_eq_true rfl, Nat.le_of_ble_eq_true rfl⟩) hS (fun q _ h => hFc q h) hFc (fun u9 t H1 locs ht hvm hw hB hz1 hk1 hS => ?_)
                        obtain ⟨xg9, bF9, bL9, bB9, bA9, bY9⟩ := u9
                        obtain ⟨hP1, hK1, hD1⟩ := hB
                        rw [ht] at hP1
                        try dsimp only at hw
                        obtain ⟨hP, hD⟩ := va_join (wr := []) (w1 := wM h cI cZ xt xf (nI nC) xg9 aP (fun c => nI (cf c)) (fun c => nI (ct c)) aK bF9 bL9 bB9 bA9 bY9 bR oT oO oR bS) hP hD [0, 1, 2, 3, 4, 5, 6, 7, 8, 9, 10, 11, 12, 13, 14] [] rfl rfl (by decide) (by decide) hk1 hFc hP1 hD1
                        generalize H1 = H at hP hS ⊢
                        have hP : va_P (dC, dI) kls (wM h cI cZ xt xf (nI nC) xg9 aP (fun c => nI (cf c)) (fun c => nI (ct c)) aK bF9 bL9 bB9 bA9 bY9 bR oT oO oR bS) H := hP
                        have hD : va_D A (wM h cI cZ xt xf (nI nC) xg9 aP (fun c => nI (cf c)) (fun c => nI (ct c)) aK bF9 bL9 bB9 bA9 bY9 bR oT oO oR bS) := hD
                        have hnx : bsI cf ct aK rj k en (bsG nC cf ct aK rj ok k) (i + 1) = addE (bsI cf ct aK rj k en (bsG nC cf ct aK rj ok k) i) (en.1, ct i, rj en.2.2.1 (aK i), some k, i) := by rw [bsI, if_pos c_102]
                        rw [addC_take, ← hnx] at hw
                        obtain ⟨hg9, hE9⟩ := hw
                        subst hg9
                        refine lv_iinc (v := nI (i + 1)) (lv' := [(3, .int (nI (i + 1))), (0, .ref (h 0)), (2, .int (nI k))]) hx hb d_M_find_138 hl (k := 2) rfl (nI_add i 1) (by decide) rfl (fun ls hl => ?_)
                        refine lv_goto (tgt := 82) hx hb d_M_find_141 (by decide) ?_
                        exact ih_lpC (i + 1) bF9 bL9 bB9 bA9 bY9 (by omega) (hE9) (by omega) _ _ _ hP hD hS (lv_sub hl [1, 2, 0] rfl)
                exact lpC _ 0 bF bL bB bA bY (Nat.zero_le _) (hE0) (Nat.lt_succ_self _) _ _ _ hP hD hS (lv_sub hl [1, 2, 0] rfl)
        exact lpB _ 0 bF bL bB bA bY (Nat.zero_le _) (hE0) (Nat.lt_succ_self _) _ _ _ hP hD hS (lv_sub hl [1, 0] rfl)
      · have c_12 : ¬ nC ≤ k := fun z9 => c_12 ((nI_leI (a := nC) (b := k) (by omega) (by omega)).mpr z9)
        have hck := hS0 k (by omega)
        refine lv_iload_n hx hb d_M_find_15 rfl (lv_at hl 1 rfl) ?_
        refine lv_iconst (v := (-1)) hx hb d_M_find_16 (by decide +kernel) ?_
        refine lv_icmp_eq (tgt := 30) hx hb d_M_find_17 (by decide) (fun c_17 => ?_) (fun c_17 => ?_)
        · refine lv_aload_n hx hb d_M_find_30 rfl (lv_at hl 0 rfl) ?_
          refine lv_aload_n hx hb d_M_find_31 rfl (lv_at hl 0 rfl) ?_
          refine va_get (D := (dC, dI)) (ci := 0) (v := .ref (h 2)) (C := R_M) (T := F_M) (N := 18) hx hb hk k_M_f hown hK hP 0 rfl rfl 4 (by decide) (hk _ k_M_12) (fun _ h9 => h9) rfl d_M_find_32 ?_
          refine lv_iload_n hx hb d_M_find_35 rfl (lv_at hl 2 rfl) ?_
          refine va_iald hx hb hK hP 2 0 rfl rfl (pk_in k 20 (by omega)) d_M_find_36 ?_
          refine lv_topi (fun z9 ez9 => ?_)
          obtain rfl : z9 = nI (cf k) := ez9.trans (rd (f := fun c => nI (cf c)) (k := k) (by omega))
          refine lv_aload_n hx hb d_M_find_37 rfl (lv_at hl 0 rfl) ?_
          refine va_get (D := (dC, dI)) (ci := 0) (v := .ref (h 3)) (C := R_M) (T := F_M) (N := 18) hx hb hk k_M_f hown hK hP 0 rfl rfl 5 (by decide) (hk _ k_M_13) (fun _ h9 => h9) rfl d_M_find_38 ?_
          refine lv_iload_n hx hb d_M_find_41 rfl (lv_at hl 2 rfl) ?_
          refine va_iald hx hb hK hP 3 0 rfl rfl (pk_in k 20 (by omega)) d_M_find_42 ?_
          refine lv_topi (fun z10 ez10 => ?_)
          obtain rfl : z10 = nI (ct k) := ez10.trans (rd (f := fun c => nI (ct c)) (k := k) (by omega))
          refine lv_aload_n hx hb d_M_find_43 rfl (lv_at hl 0 rfl) ?_
          refine va_get (D := (dC, dI)) (ci := 0) (v := .ref (h 4)) (C := R_M) (T := F_M) (N := 18) hx hb hk k_M_f hown hK hP 0 rfl rfl 6 (by decide) (hk _ k_M_14) (fun _ h9 => h9) rfl d_M_find_44 ?_
          refine lv_iload_n hx hb d_M_find_47 rfl (lv_at hl 2 rfl) ?_
          refine va_iald hx hb hK hP 4 0 rfl rfl (pk_in k 20 (by omega)) d_M_find_48 ?_
          refine lv_topi (fun z11 ez11 => ?_)
          obtain rfl : z11 = aK k := ez11.trans (rd (f := aK) (k := k) (by omega))
          refine lv_iconst (v := (-1)) hx hb d_M_find_49 (by decide +kernel) ?_
          refine lv_iload_n hx hb d_M_find_50 rfl (lv_at hl 2 rfl) ?_
          have hFc := va_free (wc := wM h cI cZ xt xf (nI nC) (nI (((bs0 cf ct aK ok k).take 801).length)) aP (fun c => nI (cf c)) (fun c => nI (ct c)) aK bF bL bB bA bY bR oT oO oR bS) hD hS hA [0, 1, 2, 3, 4, 5, 6, 7, 8, 9, 10, 11, 12, 13, 14] rfl
          refine va_callv (va_runV (As := [.int (nI (cf k)), .int (nI (ct k)), .int (aK k), .int (-1), .int (nI k)]) (rest := []) ⟨hx, hb, hml, hown, hk⟩ (m_add l dC dI cI cZ h H.size xt xf (nI nC) aP (fun c => nI (cf c)) (fun c => nI (ct c)) aK bF bL bB bA bY bR oT oO oR bS ((bs0 cf ct aK ok k).take 801) (cf k) (ct k) k (aK k) none (by rw [List.length_take]; omega) (hE0) (sm_take (sm_of (J := rj) hS0 (bs0_ok nC cf ct aK rj ok k (by omega))) _) (by omega) (by omega)) (cwV 5 hk g_M_add rfl rfl rfl (by decide +kernel) ⟨Nat.le_of_ble_eq_true rfl, Nat.le_of_ble_eq_true rfl⟩) ⟨fun a U g mk q => by obtain ⟨q0, q1, qP, qK, qD⟩ := q; exact ⟨q0, q1, qP, va_K.moved (u := U) (U := U.calling g mk a) (Vm.Alike.refl U.vm) qK, qD⟩, va_recv hK hP (ci := 0) (q0 := 0) rfl rfl, fun U hU hW => ⟨rfl, by rw [hU], by rw [hU]; exact hP, va_K.moved hW.alike hK, hD.weaken (fun _ _ _ _ => trivial)⟩⟩ rfl rfl hl.1 rfl (lv_room (Nat.le_of_ble_eq_true rfl)) d_M_find_51 ⟨Nat.le_of_ble_eq_true rfl, Nat.le_of_ble_eq_true rfl⟩) hS (fun q _ h => hFc q h) hFc (fun u9 t H1 locs ht hvm hw hB hz1 hk1 hS => ?_)
          obtain ⟨xg9, bF9, bL9, bB9, bA9, bY9⟩ := u9
          obtain ⟨hP1, hK1, hD1⟩ := hB
          rw [ht] at hP1
          try dsimp only at hw
          obtain ⟨hP, hD⟩ := va_join (wr := []) (w1 := wM h cI cZ xt xf (nI nC) xg9 aP (fun c => nI (cf c)) (fun c => nI (ct c)) aK bF9 bL9 bB9 bA9 bY9 bR oT oO oR bS) hP hD [0, 1, 2, 3, 4, 5, 6, 7, 8, 9, 10, 11, 12, 13, 14] [] rfl rfl (by decide) (by decide) hk1 hFc hP1 hD1
          generalize H1 = H at hP hS ⊢
          have hP : va_P (dC, dI) kls (wM h cI cZ xt xf (nI nC) xg9 aP (fun c => nI (cf c)) (fun c => nI (ct c)) aK bF9 bL9 bB9 bA9 bY9 bR oT oO oR bS) H := hP
          have hD : va_D A (wM h cI cZ xt xf (nI nC) xg9 aP (fun c => nI (cf c)) (fun c => nI (ct c)) aK bF9 bL9 bB9 bA9 bY9 bR oT oO oR bS) := hD
          have hnx : bs0 cf ct aK ok (k + 1) = addE (bs0 cf ct aK ok k) (cf k, ct k, aK k, none, k) := by rw [bs0, if_pos ((hok k (by omega)).mpr (by first | exact Or.inl c_17 | exact Or.inr c_27))]
          rw [addC_take, ← hnx] at hw
          obtain ⟨hg9, hE9⟩ := hw
          subst hg9
          refine lv_iinc (v := nI (k + 1)) (lv' := [(2, .int (nI (k + 1))), (0, .ref (h 0)), (1, .int q)]) hx hb d_M_find_54 hl (k := 2) rfl (nI_add k 1) (by decide) rfl (fun ls hl => ?_)
          refine lv_goto (tgt := 7) hx hb d_M_find_57 (by decide) ?_
          exact ih_lpA (k + 1) bF9 bL9 bB9 bA9 bY9 (by omega) (hE9) (by omega) _ _ _ hP hD hS (lv_sub hl [1, 2, 0] rfl)
        · refine lv_aload_n hx hb d_M_find_20 rfl (lv_at hl 0 rfl) ?_
          refine va_get (D := (dC, dI)) (ci := 0) (v := .ref (h 2)) (C := R_M) (T := F_M) (N := 18) hx hb hk k_M_f hown hK hP 0 rfl rfl 4 (by decide) (hk _ k_M_12) (fun _ h9 => h9) rfl d_M_find_21 ?_
          refine lv_iload_n hx hb d_M_find_24 rfl (lv_at hl 2 rfl) ?_
          refine va_iald hx hb hK hP 2 0 rfl rfl (pk_in k 20 (by omega)) d_M_find_25 ?_
          refine lv_topi (fun z13 ez13 => ?_)
          obtain rfl : z13 = nI (cf k) := ez13.trans (rd (f := fun c => nI (cf c)) (k := k) (by omega))
          refine lv_iload_n hx hb d_M_find_26 rfl (lv_at hl 1 rfl) ?_
          refine lv_icmp_ne (tgt := 54) hx hb d_M_find_27 (by decide) (fun c_27 => ?_) (fun c_27 => ?_)
          · refine lv_iinc (v := nI (k + 1)) (lv' := [(2, .int (nI (k + 1))), (0, .ref (h 0)), (1, .int q)]) hx hb d_M_find_54 hl (k := 2) rfl (nI_add k 1) (by decide) rfl (fun ls hl => ?_)
            refine lv_goto (tgt := 7) hx hb d_M_find_57 (by decide) ?_
            have hb0 : bs0 cf ct aK ok (k + 1) = bs0 cf ct aK ok k := by rw [bs0, if_neg (fun z9 => by rcases (hok k (by omega)).mp z9 with z | z; exact c_17 z; exact c_27 z)]
            rw [← hb0] at hE0 hP hD
            exact ih_lpA (k + 1) bF bL bB bA bY (by omega) (hE0) (by omega) _ _ _ hP hD hS (lv_sub hl [1, 2, 0] rfl)
          · refine lv_aload_n hx hb d_M_find_30 rfl (lv_at hl 0 rfl) ?_
            refine lv_aload_n hx hb d_M_find_31 rfl (lv_at hl 0 rfl) ?_
            refine va_get (D := (dC, dI)) (ci := 0) (v := .ref (h 2)) (C := R_M) (T := F_M) (N := 18) hx hb hk k_M_f hown hK hP 0 rfl rfl 4 (by decide) (hk _ k_M_12) (fun _ h9 => h9) rfl d_M_find_32 ?_
            refine lv_iload_n hx hb d_M_find_35 rfl (lv_at hl 2 rfl) ?_
            refine va_iald hx hb hK hP 2 0 rfl rfl (pk_in k 20 (by omega)) d_M_find_36 ?_
            refine lv_topi (fun z14 ez14 => ?_)
            obtain rfl : z14 = nI (cf k) := ez14.trans (rd (f := fun c => nI (cf c)) (k := k) (by omega))
            refine lv_aload_n hx hb d_M_find_37 rfl (lv_at hl 0 rfl) ?_
            refine va_get (D := (dC, dI)) (ci := 0) (v := .ref (h 3)) (C := R_M) (T := F_M) (N := 18) hx hb hk k_M_f hown hK hP 0 rfl rfl 5 (by decide) (hk _ k_M_13) (fun _ h9 => h9) rfl d_M_find_38 ?_
            refine lv_iload_n hx hb d_M_find_41 rfl (lv_at hl 2 rfl) ?_
            refine va_iald hx hb hK hP 3 0 rfl rfl (pk_in k 20 (by omega)) d_M_find_42 ?_
            refine lv_topi (fun z15 ez15 => ?_)
            obtain rfl : z15 = nI (ct k) := ez15.trans (rd (f := fun c => nI (ct c)) (k := k) (by omega))
            refine lv_aload_n hx hb d_M_find_43 rfl (lv_at hl 0 rfl) ?_
            refine va_get (D := (dC, dI)) (ci := 0) (v := .ref (h 4)) (C := R_M) (T := F_M) (N := 18) hx hb hk k_M_f hown hK hP 0 rfl rfl 6 (by decide) (hk _ k_M_14) (fun _ h9 => h9) rfl d_M_find_44 ?_
            refine lv_iload_n hx hb d_M_find_47 rfl (lv_at hl 2 rfl) ?_
            refine va_iald hx hb hK hP 4 0 rfl rfl (pk_in k 20 (by omega)) d_M_find_48 ?_
            refine lv_topi (fun z16 ez16 => ?_)
            obtain rfl : z16 = aK k := ez16.trans (rd (f := aK) (k := k) (by omega))
            refine lv_iconst (v := (-1)) hx hb d_M_find_49 (by decide +kernel) ?_
            refine lv_iload_n hx hb d_M_find_50 rfl (lv_at hl 2 rfl) ?_
            have hFc := va_free (wc := wM h cI cZ xt xf (nI nC) (nI (((bs0 cf ct aK ok k).take 801).length)) aP (fun c => nI (cf c)) (fun c => nI (ct c)) aK bF bL bB bA bY bR oT oO oR bS) hD hS hA [0, 1, 2, 3, 4, 5, 6, 7, 8, 9, 10, 11, 12, 13, 14] rfl
            refine va_callv (va_runV (As := [.int (nI (cf k)), .int (nI (ct k)), .int (aK k), .int (-1), .int (nI k)]) (rest := []) ⟨hx, hb, hml, hown, hk⟩ (m_add l dC dI cI cZ h H.size xt xf (nI nC) aP (fun c => nI (cf c)) (fun c => nI (ct c)) aK bF bL bB bA bY bR oT oO oR bS ((bs0 cf ct aK ok k).take 801) (cf k) (ct k) k (aK k) none (by rw [List.length_take]; omega) (hE0) (sm_take (sm_of (J := rj) hS0 (bs0_ok nC cf ct aK rj ok k (by omega))) _) (by omega) (by omega)) (cwV 5 hk g_M_add rfl rfl rfl (by decide +kernel) ⟨Nat.le_of_ble_eq_true rfl, Nat.le_of_ble_eq_true rfl⟩) ⟨fun a U g mk q => by obtain ⟨q0, q1, qP, qK, qD⟩ := q; exact ⟨q0, q1, qP, va_K.moved (u := U) (U := U.calling g mk a) (Vm.Alike.refl U.vm) qK, qD⟩, va_recv hK hP (ci := 0) (q0 := 0) rfl rfl, fun U hU hW => ⟨rfl, by rw [hU], by rw [hU]; exact hP, va_K.moved hW.alike hK, hD.weaken (fun _ _ _ _ => trivial)⟩⟩ rfl rfl hl.1 rfl (lv_room (Nat.le_of_ble_eq_true rfl)) d_M_find_51 ⟨Nat.le_of_ble_eq_true rfl, Nat.le_of_ble_eq_true rfl⟩) hS (fun q _ h => hFc q h) hFc (fun u9 t H1 locs ht hvm hw hB hz1 hk1 hS => ?_)
            obtain ⟨xg9, bF9, bL9, bB9, bA9, bY9⟩ := u9
            obtain ⟨hP1, hK1, hD1⟩ := hB
            rw [ht] at hP1
            try dsimp only at hw
            obtain ⟨hP, hD⟩ := va_join (wr := []) (w1 := wM h cI cZ xt xf (nI nC) xg9 aP (fun c => nI (cf c)) (fun c => nI (ct c)) aK bF9 bL9 bB9 bA9 bY9 bR oT oO oR bS) hP hD [0, 1, 2, 3, 4, 5, 6, 7, 8, 9, 10, 11, 12, 13, 14] [] rfl rfl (by decide) (by decide) hk1 hFc hP1 hD1
            generalize H1 = H at hP hS ⊢
            have hP : va_P (dC, dI) kls (wM h cI cZ xt xf (nI nC) xg9 aP (fun c => nI (cf c)) (fun c => nI (ct c)) aK bF9 bL9 bB9 bA9 bY9 bR oT oO oR bS) H := hP
            have hD : va_D A (wM h cI cZ xt xf (nI nC) xg9 aP (fun c => nI (cf c)) (fun c => nI (ct c)) aK bF9 bL9 bB9 bA9 bY9 bR oT oO oR bS) := hD
            have hnx : bs0 cf ct aK ok (k + 1) = addE (bs0 cf ct aK ok k) (cf k, ct k, aK k, none, k) := by rw [bs0, if_pos ((hok k (by omega)).mpr (by first | exact Or.inl c_17 | exact Or.inr c_27))]
            rw [addC_take, ← hnx] at hw
            obtain ⟨hg9, hE9⟩ := hw
            subst hg9
            refine lv_iinc (v := nI (k + 1)) (lv' := [(2, .int (nI (k + 1))), (0, .ref (h 0)), (1, .int q)]) hx hb d_M_find_54 hl (k := 2) rfl (nI_add k 1) (by decide) rfl (fun ls hl => ?_)
            refine lv_goto (tgt := 7) hx hb d_M_find_57 (by decide) ?_
            exact ih_lpA (k + 1) bF9 bL9 bB9 bA9 bY9 (by omega) (hE9) (by omega) _ _ _ hP hD hS (lv_sub hl [1, 2, 0] rfl)
  exact lpA _ 0 bF bL bB bA bY (Nat.zero_le _) (fun k9 e9 h9 => by simp [bs0] at h9) (Nat.lt_succ_self _) _ _ _ hP hD hS (lv_sub hl [1, 2, 0] rfl)
