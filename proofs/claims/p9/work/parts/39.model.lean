set_option maxHeartbeats 4000000 in
set_option maxRecDepth 100000 in
theorem m_findOrder (l : Launch) (dC : Nat → ClassId) (dI : Nat → Nat → Nat) (cI cZ : ClassId) (h : Nat → Nat) (sz : Nat) (xt xg : Int32) (aK bF bL bB bA bY bR oT oO oR bS : Nat → Int32) (nF nC : Nat) (pl cf ct : Nat → Nat) (f : Nat) (hC : nC ≤ 20) (hF : nF ≤ 10) (hS0 : ∀ c, c < nC → cf c < nF ∧ ct c < nF) (hpl : 1 ≤ pl f ∧ pl f ≤ 4) (hf : f < nF) : Met l y_M_findOrder w_M_findOrder ({ frames := 2, cells := 0, slots := 0, locals := 47 }) (va_Pc [.ref (h 0), .int (nI f)] (fun U => U.heap.size = sz ∧ va_P (dC, dI) kls (wM h cI cZ xt (nI nF) (nI nC) xg (fun c => nI (pl c)) (fun c => nI (cf c)) (fun c => nI (ct c)) aK bF bL bB bA bY bR oT oO oR bS) U.heap ∧ va_K (dC, dI) kls (tyM cI cZ) U ∧ va_D (fun _ => True) (wM h cI cZ xt (nI nF) (nI nC) xg (fun c => nI (pl c)) (fun c => nI (cf c)) (fun c => nI (ct c)) aK bF bL bB bA bY bR oT oO oR bS))) (va_Qi (fun (r : Int32) (u : (Nat → Int32) × (Nat → Int32) × (Nat → Int32)) => ∃ tl op, oWay nC (at2 aK) (pl f) tl (op0 cf ct f) op ∧ tl.length ≤ 4 ∧ ((¬ oOpen nC op ∧ r = nI tl.length ∧ hO4 tl u.2.2) ∨ (oOpen nC op ∧ oNone nC (at2 aK) (pl f) op ∧ r = -1))) (fun (u : (Nat → Int32) × (Nat → Int32) × (Nat → Int32)) (t : State) => va_P (dC, dI) kls (wM h cI cZ xt (nI nF) (nI nC) xg (fun c => nI (pl c)) (fun c => nI (cf c)) (fun c => nI (ct c)) aK bF bL bB bA bY bR u.1 u.2.1 u.2.2 bS) t.heap ∧ va_K (dC, dI) kls (tyM cI cZ) t ∧ va_D (va_A (wM h cI cZ xt (nI nF) (nI nC) xg (fun c => nI (pl c)) (fun c => nI (cf c)) (fun c => nI (ct c)) aK bF bL bB bA bY bR oT oO oR bS) sz) (wM h cI cZ xt (nI nF) (nI nC) xg (fun c => nI (pl c)) (fun c => nI (cf c)) (fun c => nI (ct c)) aK bF bL bB bA bY bR u.1 u.2.1 u.2.2 bS)) (va_A (wM h cI cZ xt (nI nF) (nI nC) xg (fun c => nI (pl c)) (fun c => nI (cf c)) (fun c => nI (ct c)) aK bF bL bB bA bY bR oT oO oR bS) sz)) 0 0 (va_A (wM h cI cZ xt (nI nF) (nI nC) xg (fun c => nI (pl c)) (fun c => nI (cf c)) (fun c => nI (ct c)) aK bF bL bB bA bY bR oT oO oR bS) sz) := by
  refine Met.ofW (cc := c_M_findOrder) (maxL := 6) (ret := (some .int)) (by decide) rfl ?_
  intro p e s m args below meth c s₁ B hml hv
  obtain ⟨rfl, hsz, hP, hK, hD0⟩ := hv
  have hx := B.exec
  have hb := B.bytes
  have hr := B.returns
  have hts := atoms_spec (ws := w_M_findOrder) B.pre
  have hk : ∀ w ∈ wMw, w.before _ s = true := fun w h => hts w (List.mem_cons_of_mem _ h)
  have hown : s.vm.findClass R_M = some m.cls := findClass_of_methodNamed B.named
  have hlocks := B.notSynchronized
  subst hsz
  have hD := hD0.self (sz := s.heap.size)
  generalize hAe : va_A (wM h cI cZ xt (nI nF) (nI nC) xg (fun c => nI (pl c)) (fun c => nI (cf c)) (fun c => nI (ct c)) aK bF bL bB bA bY bR oT oO oR bS) s.heap.size = A at hD ⊢
  have hA : ∀ q : Nat, s.heap.size ≤ q → A q := fun q h => by rw [← hAe]; exact Or.inr h
  have hS : va_S A s.heap s.heap [] := va_S.rf
  have hl := lv_entry ([.ref (h 0), .int (nI f)]) (n := 6) (Nat.le_of_ble_eq_true rfl)
  rw [lg_entry_eq]
  generalize (lg_sl ([.ref (h 0), .int (nI f)]) ++ List.replicate (6 - (lg_sl ([.ref (h 0), .int (nI f)])).length) Slot.unset).toArray = ls at hl ⊢
  have hl : lv_has ls 6 [(0, .ref (h 0)), (1, .int (nI f))] := hl
  refine lv_iconst (v := nI 0) hx hb d_M_findOrder_0 (by decide +kernel) ?_
  refine lv_istore_n (lv' := [(2, .int (nI 0)), (0, .ref (h 0)), (1, .int (nI f))]) hx hb d_M_findOrder_1 rfl hl (by decide) rfl (fun ls hl => ?_)
  refine lv_iconst (v := nI 0) hx hb d_M_findOrder_2 (by decide +kernel) ?_
  refine lv_istore_n (lv' := [(3, .int (nI 0)), (2, .int (nI 0)), (0, .ref (h 0)), (1, .int (nI f))]) hx hb d_M_findOrder_3 rfl hl (by decide) rfl (fun ls hl => ?_)
  have lpA : ∀ (n_lpA : Nat) (k : Nat) (oO : Nat → Int32), (k ≤ nC) → (hB k (op0 cf ct f) oO) → nC - k < n_lpA → ∀ (H : Heap) (locs : List Loc) (ls : Array Slot), va_P (dC, dI) kls (wM h cI cZ xt (nI nF) (nI nC) xg (fun c => nI (pl c)) (fun c => nI (cf c)) (fun c => nI (ct c)) aK bF bL bB bA bY bR oT oO oR bS) H → va_D A (wM h cI cZ xt (nI nF) (nI nC) xg (fun c => nI (pl c)) (fun c => nI (cf c)) (fun c => nI (ct c)) aK bF bL bB bA bY bR oT oO oR bS) → va_S A s.heap H locs → lv_has ls 6 [(0, .ref (h 0)), (1, .int (nI f)), (2, .int (nI (cO k (op0 cf ct f)))), (3, .int (nI k))] → W p l e (headSpec w_M_findOrder ({ frames := 2, cells := 0, slots := 0, locals := 47 })).room s m ([.ref (h 0), .int (nI f)]).toArray below meth c H locs 0 0 (MQ below (va_Qi (fun (r : Int32) (u : (Nat → Int32) × (Nat → Int32) × (Nat → Int32)) => ∃ tl op, oWay nC (at2 aK) (pl f) tl (op0 cf ct f) op ∧ tl.length ≤ 4 ∧ ((¬ oOpen nC op ∧ r = nI tl.length ∧ hO4 tl u.2.2) ∨ (oOpen nC op ∧ oNone nC (at2 aK) (pl f) op ∧ r = -1))) (fun (u : (Nat → Int32) × (Nat → Int32) × (Nat → Int32)) (t : State) => va_P (dC, dI) kls (wM h cI cZ xt (nI nF) (nI nC) xg (fun c => nI (pl c)) (fun c => nI (cf c)) (fun c => nI (ct c)) aK bF bL bB bA bY bR u.1 u.2.1 u.2.2 bS) t.heap ∧ va_K (dC, dI) kls (tyM cI cZ) t ∧ va_D (A) (wM h cI cZ xt (nI nF) (nI nC) xg (fun c => nI (pl c)) (fun c => nI (cf c)) (fun c => nI (ct c)) aK bF bL bB bA bY bR u.1 u.2.1 u.2.2 bS)) A) ([.ref (h 0), .int (nI f)]).toArray s 0 0 A) (F0 m 4 ls []) := by
    intro n_lpA
    induction n_lpA with
    | zero => intro k oO hk0 hO hn; exact absurd hn (Nat.not_lt_zero _)
    | succ n_lpA ih_lpA =>
      intro k oO hk0 hO hn H locs ls hP hD hS hl
      refine lv_iload_n hx hb d_M_findOrder_4 rfl (lv_at hl 3 rfl) ?_
      refine lv_aload_n hx hb d_M_findOrder_5 rfl (lv_at hl 0 rfl) ?_
      refine va_get (D := (dC, dI)) (ci := 0) (v := .int (nI nC)) (C := R_M) (T := F_M) (N := 18) hx hb hk k_M_f hown hK hP 0 rfl rfl 2 (by decide) (hk _ k_M_10) (fun _ h9 => h9) rfl d_M_findOrder_6 ?_
      refine lv_icmp_ge (tgt := 66) hx hb d_M_findOrder_9 (by decide) (fun c_9 => ?_) (fun c_9 => ?_)
      · have c_9 : nC ≤ k := (nI_leI (a := nC) (b := k) (by omega) (by omega)).mp c_9
        have hkn : k = nC := by omega
        rw [hkn] at hO hl
        refine lv_iconst (v := nI 0) hx hb d_M_findOrder_66 (by decide +kernel) ?_
        refine lv_istore_n (lv' := [(3, .int (nI 0)), (0, .ref (h 0)), (1, .int (nI f)), (2, .int (nI (cO nC (op0 cf ct f))))]) hx hb d_M_findOrder_67 rfl hl (by decide) rfl (fun ls hl => ?_)
        have lpB : ∀ (n_lpB : Nat) (t9 : Nat) (oT : Nat → Int32), (t9 ≤ 4) → (∀ j, j < t9 → oT j = nI 0) → 4 - t9 < n_lpB → ∀ (H : Heap) (locs : List Loc) (ls : Array Slot), va_P (dC, dI) kls (wM h cI cZ xt (nI nF) (nI nC) xg (fun c => nI (pl c)) (fun c => nI (cf c)) (fun c => nI (ct c)) aK bF bL bB bA bY bR oT oO oR bS) H → va_D A (wM h cI cZ xt (nI nF) (nI nC) xg (fun c => nI (pl c)) (fun c => nI (cf c)) (fun c => nI (ct c)) aK bF bL bB bA bY bR oT oO oR bS) → va_S A s.heap H locs → lv_has ls 6 [(0, .ref (h 0)), (1, .int (nI f)), (2, .int (nI (cO nC (op0 cf ct f)))), (3, .int (nI t9))] → W p l e (headSpec w_M_findOrder ({ frames := 2, cells := 0, slots := 0, locals := 47 })).room s m ([.ref (h 0), .int (nI f)]).toArray below meth c H locs 0 0 (MQ below (va_Qi (fun (r : Int32) (u : (Nat → Int32) × (Nat → Int32) × (Nat → Int32)) => ∃ tl op, oWay nC (at2 aK) (pl f) tl (op0 cf ct f) op ∧ tl.length ≤ 4 ∧ ((¬ oOpen nC op ∧ r = nI tl.length ∧ hO4 tl u.2.2) ∨ (oOpen nC op ∧ oNone nC (at2 aK) (pl f) op ∧ r = -1))) (fun (u : (Nat → Int32) × (Nat → Int32) × (Nat → Int32)) (t : State) => va_P (dC, dI) kls (wM h cI cZ xt (nI nF) (nI nC) xg (fun c => nI (pl c)) (fun c => nI (cf c)) (fun c => nI (ct c)) aK bF bL bB bA bY bR u.1 u.2.1 u.2.2 bS) t.heap ∧ va_K (dC, dI) kls (tyM cI cZ) t ∧ va_D (A) (wM h cI cZ xt (nI nF) (nI nC) xg (fun c => nI (pl c)) (fun c => nI (cf c)) (fun c => nI (ct c)) aK bF bL bB bA bY bR u.1 u.2.1 u.2.2 bS)) A) ([.ref (h 0), .int (nI f)]).toArray s 0 0 A) (F0 m 68 ls []) := by
          intro n_lpB
          induction n_lpB with
          | zero => intro t9 oT ht0 hTz hn; exact absurd hn (Nat.not_lt_zero _)
          | succ n_lpB ih_lpB =>
            intro t9 oT ht0 hTz hn H locs ls hP hD hS hl
            refine lv_iload_n hx hb d_M_findOrder_68 rfl (lv_at hl 3 rfl) ?_
            refine lv_iconst (v := nI 4) hx hb d_M_findOrder_69 (by decide +kernel) ?_
            refine lv_icmp_ge (tgt := 86) hx hb d_M_findOrder_70 (by decide) (fun c_70 => ?_) (fun c_70 => ?_)
            · have c_70 : 4 ≤ t9 := (nI_leI (a := 4) (b := t9) (by omega) (by omega)).mp c_70
              refine lv_iconst (v := nI 0) hx hb d_M_findOrder_86 (by decide +kernel) ?_
              refine lv_istore_n (lv' := [(3, .int (nI 0)), (0, .ref (h 0)), (1, .int (nI f)), (2, .int (nI (cO nC (op0 cf ct f))))]) hx hb d_M_findOrder_87 rfl hl (by decide) rfl (fun ls hl => ?_)
              have ht4 : t9 = 4 := by omega
              have lpC : ∀ (n_lpC : Nat) (tl : List Nat) (op : Nat → Bool) (oT : Nat → Int32) (oO : Nat → Int32) (oR : Nat → Int32), (oWay nC (at2 aK) (pl f) tl (op0 cf ct f) op) → (tl.Nodup) → (∀ i ∈ tl, i < pl f) → (∀ j, j < 4 → oT j = nI (decide (j ∈ tl)).toNat) → (hB nC op oO) → (hO4 tl oR) → 5 - tl.length < n_lpC → ∀ (H : Heap) (locs : List Loc) (ls : Array Slot), va_P (dC, dI) kls (wM h cI cZ xt (nI nF) (nI nC) xg (fun c => nI (pl c)) (fun c => nI (cf c)) (fun c => nI (ct c)) aK bF bL bB bA bY bR oT oO oR bS) H → va_D A (wM h cI cZ xt (nI nF) (nI nC) xg (fun c => nI (pl c)) (fun c => nI (cf c)) (fun c => nI (ct c)) aK bF bL bB bA bY bR oT oO oR bS) → va_S A s.heap H locs → lv_has ls 6 [(0, .ref (h 0)), (1, .int (nI f)), (2, .int (nI (cO nC op))), (3, .int (nI tl.length))] → W p l e (headSpec w_M_findOrder ({ frames := 2, cells := 0, slots := 0, locals := 47 })).room s m ([.ref (h 0), .int (nI f)]).toArray below meth c H locs 0 0 (MQ below (va_Qi (fun (r : Int32) (u : (Nat → Int32) × (Nat → Int32) × (Nat → Int32)) => ∃ tl op, oWay nC (at2 aK) (pl f) tl (op0 cf ct f) op ∧ tl.length ≤ 4 ∧ ((¬ oOpen nC op ∧ r = nI tl.length ∧ hO4 tl u.2.2) ∨ (oOpen nC op ∧ oNone nC (at2 aK) (pl f) op ∧ r = -1))) (fun (u : (Nat → Int32) × (Nat → Int32) × (Nat → Int32)) (t : State) => va_P (dC, dI) kls (wM h cI cZ xt (nI nF) (nI nC) xg (fun c => nI (pl c)) (fun c => nI (cf c)) (fun c => nI (ct c)) aK bF bL bB bA bY bR u.1 u.2.1 u.2.2 bS) t.heap ∧ va_K (dC, dI) kls (tyM cI cZ) t ∧ va_D (A) (wM h cI cZ xt (nI nF) (nI nC) xg (fun c => nI (pl c)) (fun c => nI (cf c)) (fun c => nI (ct c)) aK bF bL bB bA bY bR u.1 u.2.1 u.2.2 bS)) A) ([.ref (h 0), .int (nI f)]).toArray s 0 0 A) (F0 m 88 ls []) := by
                intro n_lpC
                induction n_lpC with
                | zero => intro tl op oT oO oR hway hnd hlt hTk hO hR4 hn; exact absurd hn (Nat.not_lt_zero _)
                | succ n_lpC ih_lpC =>
                  intro tl op oT oO oR hway hnd hlt hTk hO hR4 hn H locs ls hP hD hS hl
                  have hcl := cO_le nC op
                  have hl4 := oLen (pl f) hnd hlt
                  refine lv_iload_n hx hb d_M_findOrder_88 rfl (lv_at hl 2 rfl) ?_
                  refine lv_if_le (tgt := 217) hx hb d_M_findOrder_89 (by decide) (fun c_89 => ?_) (fun c_89 => ?_)
                  · have c_89 : cO nC op ≤ 0 := (nI_leI (a := cO nC op) (b := 0) (by omega) (by omega)).mp c_89
                    refine lv_iload_n hx hb d_M_findOrder_217 rfl (lv_at hl 3 rfl) ?_
                    exact W.iret (v := nI tl.length) hx hb hr (fun t ht hW => ⟨⟨nI tl.length, (oT, oO, oR), rfl, ⟨tl, op, hway, Nat.le_trans (oLen _ hnd hlt) hpl.2, Or.inl ⟨fun z => by have := cO_pos.mpr z; omega, rfl, hR4⟩⟩, by rw [ht]; exact hP, va_K.moved hW.alike hK, hD⟩, hS.F ht⟩) hS.2.2 d_M_findOrder_218
                  · have c_89 : ¬ cO nC op ≤ 0 := fun z9 => c_89 ((nI_leI (a := cO nC op) (b := 0) (by omega) (by omega)).mpr z9)
                    refine lv_iconst (v := nI 0) hx hb d_M_findOrder_92 (by decide +kernel) ?_
                    refine lv_istore (lv' := [(4, .int (nI 0)), (0, .ref (h 0)), (1, .int (nI f)), (2, .int (nI (cO nC op))), (3, .int (nI tl.length))]) hx hb d_M_findOrder_93 hl (by decide) rfl (fun ls hl => ?_)
                    have lpD : ∀ (n_lpD : Nat) (i : Nat), (i ≤ pl f) → (∀ j, j < i → ¬ oCan nC (at2 aK) op j) → pl f - i < n_lpD → ∀ (H : Heap) (locs : List Loc) (ls : Array Slot), va_P (dC, dI) kls (wM h cI cZ xt (nI nF) (nI nC) xg (fun c => nI (pl c)) (fun c => nI (cf c)) (fun c => nI (ct c)) aK bF bL bB bA bY bR oT oO oR bS) H → va_D A (wM h cI cZ xt (nI nF) (nI nC) xg (fun c => nI (pl c)) (fun c => nI (cf c)) (fun c => nI (ct c)) aK bF bL bB bA bY bR oT oO oR bS) → va_S A s.heap H locs → lv_has ls 6 [(0, .ref (h 0)), (1, .int (nI f)), (2, .int (nI (cO nC op))), (3, .int (nI tl.length)), (4, .int (nI i))] → W p l e (headSpec w_M_findOrder ({ frames := 2, cells := 0, slots := 0, locals := 47 })).room s m ([.ref (h 0), .int (nI f)]).toArray below meth c H locs 0 0 (MQ below (va_Qi (fun (r : Int32) (u : (Nat → Int32) × (Nat → Int32) × (Nat → Int32)) => ∃ tl op, oWay nC (at2 aK) (pl f) tl (op0 cf ct f) op ∧ tl.length ≤ 4 ∧ ((¬ oOpen nC op ∧ r = nI tl.length ∧ hO4 tl u.2.2) ∨ (oOpen nC op ∧ oNone nC (at2 aK) (pl f) op ∧ r = -1))) (fun (u : (Nat → Int32) × (Nat → Int32) × (Nat → Int32)) (t : State) => va_P (dC, dI) kls (wM h cI cZ xt (nI nF) (nI nC) xg (fun c => nI (pl c)) (fun c => nI (cf c)) (fun c => nI (ct c)) aK bF bL bB bA bY bR u.1 u.2.1 u.2.2 bS) t.heap ∧ va_K (dC, dI) kls (tyM cI cZ) t ∧ va_D (A) (wM h cI cZ xt (nI nF) (nI nC) xg (fun c => nI (pl c)) (fun c => nI (cf c)) (fun c => nI (ct c)) aK bF bL bB bA bY bR u.1 u.2.1 u.2.2 bS)) A) ([.ref (h 0), .int (nI f)]).toArray s 0 0 A) (F0 m 95 ls []) := by
                      intro n_lpD
                      induction n_lpD with
                      | zero => intro i hi0 hnoc hn; exact absurd hn (Nat.not_lt_zero _)
                      | succ n_lpD ih_lpD =>
                        intro i hi0 hnoc hn H locs ls hP hD hS hl
                        refine lv_iload hx hb d_M_findOrder_95 (lv_at hl 4 rfl) ?_
                        refine lv_aload_n hx hb d_M_findOrder_97 rfl (lv_at hl 0 rfl) ?_
                        refine va_get (D := (dC, dI)) (ci := 0) (v := .ref (h 1)) (C := R_M) (T := F_M) (N := 18) hx hb hk k_M_f hown hK hP 0 rfl rfl 3 (by decide) (hk _ k_M_11) (fun _ h9 => h9) rfl d_M_findOrder_98 ?_
                        refine lv_iload_n hx hb d_M_findOrder_101 rfl (lv_at hl 1 rfl) ?_
                        refine va_iald hx hb hK hP 1 0 rfl rfl (pk_in f 10 (by omega)) d_M_findOrder_102 ?_
                        refine lv_topi (fun z1 ez1 => ?_)
                        obtain rfl : z1 = nI (pl f) := ez1.trans (rd (f := fun c => nI (pl c)) (k := f) (by omega))
                        refine lv_icmp_ge (tgt := 122) hx hb d_M_findOrder_103 (by decide) (fun c_103 => ?_) (fun c_103 => ?_)
                        · have c_103 : pl f ≤ i := (nI_leI (a := pl f) (b := i) (by omega) (by omega)).mp c_103
                          have hie : i = pl f := by omega
                          subst hie
                          refine lv_iload hx hb d_M_findOrder_122 (lv_at hl 4 rfl) ?_
                          refine lv_aload_n hx hb d_M_findOrder_124 rfl (lv_at hl 0 rfl) ?_
                          refine va_get (D := (dC, dI)) (ci := 0) (v := .ref (h 1)) (C := R_M) (T := F_M) (N := 18) hx hb hk k_M_f hown hK hP 0 rfl rfl 3 (by decide) (hk _ k_M_11) (fun _ h9 => h9) rfl d_M_findOrder_125 ?_
                          refine lv_iload_n hx hb d_M_findOrder_128 rfl (lv_at hl 1 rfl) ?_
                          refine va_iald hx hb hK hP 1 0 rfl rfl (pk_in f 10 (by omega)) d_M_findOrder_129 ?_
                          refine lv_topi (fun z2 ez2 => ?_)
                          obtain rfl : z2 = nI (pl f) := ez2.trans (rd (f := fun c => nI (pl c)) (k := f) (by omega))
                          refine lv_icmp_ne (tgt := 135) hx hb d_M_findOrder_130 (by decide) (fun c_130 => ?_) (fun c_130 => ?_)
                          · have c_130 : ¬ pl f = pl f := fun z9 => c_130 ((nI_eq (a := pl f) (b := pl f) (by omega) (by omega)).mpr z9)
                            exfalso; omega
                          · have c_130 : pl f = pl f := (nI_eq (a := pl f) (b := pl f) (by omega) (by omega)).mp c_130
                            refine lv_iconst (v := (-1)) hx hb d_M_findOrder_133 (by decide +kernel) ?_
                            have hno9 : oNone nC (at2 aK) (pl f) op := fun j hj => hnoc j (by omega)
                            exact W.iret (v := (-1)) hx hb hr (fun t ht hW => ⟨⟨(-1), (oT, oO, oR), rfl, ⟨tl, op, hway, Nat.le_trans (oLen _ hnd hlt) hpl.2, Or.inr ⟨cO_pos.mp (by omega), hno9, rfl⟩⟩, by rw [ht]; exact hP, va_K.moved hW.alike hK, hD⟩, hS.F ht⟩) hS.2.2 d_M_findOrder_134
                        · have c_103 : ¬ pl f ≤ i := fun z9 => c_103 ((nI_leI (a := pl f) (b := i) (by omega) (by omega)).mpr z9)
                          refine lv_aload_n hx hb d_M_findOrder_106 rfl (lv_at hl 0 rfl) ?_
                          refine lv_iload hx hb d_M_findOrder_107 (lv_at hl 4 rfl) ?_
                          refine lv_iload_n hx hb d_M_findOrder_109 rfl (lv_at hl 1 rfl) ?_
                          have hFc := va_free (wc := wM h cI cZ xt (nI nF) (nI nC) xg (fun c => nI (pl c)) (fun c => nI (cf c)) (fun c => nI (ct c)) aK bF bL bB bA bY bR oT oO oR bS) hD hS hA [0, 1, 2, 3, 4, 5, 6, 7, 8, 9, 10, 11, 12, 13, 14] rfl
                          refine va_calli (va_runV (As := [.int (nI i), .int (nI f)]) (rest := []) ⟨hx, hb, hml, hown, hk⟩ (m_mayTake l dC dI cI cZ h H.size xt xg aK bF bL bB bA bY bR oT oO oR bS nF nC pl cf ct i f op (decide (i ∈ tl)) (hC) (by omega) (hO) (hTk i (by omega))) (cwV 2 hk g_M_mayTake rfl rfl rfl (by decide +kernel) ⟨Nat.le_of_ble_eq_true rfl, Nat.le_of_ble_eq_true rfl⟩) ⟨fun a U g mk q => by obtain ⟨q0, q1, qP, qK, qD⟩ := q; exact ⟨q0, q1, qP, va_K.moved (u := U) (U := U.calling g mk a) (Vm.Alike.refl U.vm) qK, qD⟩, va_recv hK hP (ci := 0) (q0 := 0) rfl rfl, fun U hU hW => ⟨rfl, by rw [hU], by rw [hU]; exact hP, va_K.moved hW.alike hK, hD.weaken (fun _ _ _ _ => trivial)⟩⟩ rfl rfl hl.1 rfl (lv_room (Nat.le_of_ble_eq_true rfl)) d_M_findOrder_110 ⟨Nat.le_of_ble_eq_true rfl, Nat.le_of_ble_eq_true rfl⟩) hS (fun q _ h => hFc q h) hFc (fun r3 u9 t H1 locs ht hvm hw hB hz1 hk1 hS => ?_)
                          obtain ⟨hP1, hK1, hD1⟩ := hB
                          rw [ht] at hP1
                          try dsimp only at hw
                          obtain ⟨hP, hD⟩ := va_join (wr := []) (w1 := wM h cI cZ xt (nI nF) (nI nC) xg (fun c => nI (pl c)) (fun c => nI (cf c)) (fun c => nI (ct c)) aK bF bL bB bA bY bR oT oO oR bS) hP hD [0, 1, 2, 3, 4, 5, 6, 7, 8, 9, 10, 11, 12, 13, 14] [] rfl rfl (by decide) (by decide) hk1 hFc hP1 hD1
                          generalize H1 = H at hP hS ⊢
                          have hP : va_P (dC, dI) kls (wM h cI cZ xt (nI nF) (nI nC) xg (fun c => nI (pl c)) (fun c => nI (cf c)) (fun c => nI (ct c)) aK bF bL bB bA bY bR oT oO oR bS) H := hP
                          have hD : va_D A (wM h cI cZ xt (nI nF) (nI nC) xg (fun c => nI (pl c)) (fun c => nI (cf c)) (fun c => nI (ct c)) aK bF bL bB bA bY bR oT oO oR bS) := hD
                          rcases hw with ⟨hr9, htk9, hcan⟩ | ⟨hr9, hcan⟩
                          · subst hr9
                            refine lv_if_ne (tgt := 122) hx hb d_M_findOrder_113 (by decide) (fun _ => ?_) (fun c9 => absurd c9 (by decide +kernel))
                            refine lv_iload hx hb d_M_findOrder_122 (lv_at hl 4 rfl) ?_
                            refine lv_aload_n hx hb d_M_findOrder_124 rfl (lv_at hl 0 rfl) ?_
                            refine va_get (D := (dC, dI)) (ci := 0) (v := .ref (h 1)) (C := R_M) (T := F_M) (N := 18) hx hb hk k_M_f hown hK hP 0 rfl rfl 3 (by decide) (hk _ k_M_11) (fun _ h9 => h9) rfl d_M_findOrder_125 ?_
                            refine lv_iload_n hx hb d_M_findOrder_128 rfl (lv_at hl 1 rfl) ?_
                            refine va_iald hx hb hK hP 1 0 rfl rfl (pk_in f 10 (by omega)) d_M_findOrder_129 ?_
                            refine lv_topi (fun z4 ez4 => ?_)
                            obtain rfl : z4 = nI (pl f) := ez4.trans (rd (f := fun c => nI (pl c)) (k := f) (by omega))
                            refine lv_icmp_ne (tgt := 135) hx hb d_M_findOrder_130 (by decide) (fun c_130 => ?_) (fun c_130 => ?_)
                            · have c_130 : ¬ i = pl f := fun z9 => c_130 ((nI_eq (a := i) (b := pl f) (by omega) (by omega)).mpr z9)
                              have hl3 : tl.length < pl f := by rcases Nat.lt_or_ge tl.length (pl f) with z | z; exact z; exact absurd hcan (oFull nC (at2 aK) (pl f) hway hnd hlt z i (by omega))
                              refine lv_aload_n hx hb d_M_findOrder_135 rfl (lv_at hl 0 rfl) ?_
                              refine va_get (D := (dC, dI)) (ci := 0) (v := .ref (h 11)) (C := R_M) (T := F_M) (N := 18) hx hb hk k_M_f hown hK hP 0 rfl rfl 14 (by decide) (hk _ k_M_22) (fun _ h9 => h9) rfl d_M_findOrder_136 ?_
                              refine lv_iload hx hb d_M_findOrder_139 (lv_at hl 4 rfl) ?_
                              refine lv_iconst (v := nI 1) hx hb d_M_findOrder_141 (by decide +kernel) ?_
                              refine va_zast hx hb hK hP hD hS 11 1 rfl rfl (pk_in i 4 (by omega)) d_M_findOrder_142 (fun H locs hP hD hS => ?_)
                              rw [nI_clamp (n := i) (by omega)] at hP hD
                              have hP : va_P (dC, dI) kls (wM h cI cZ xt (nI nF) (nI nC) xg (fun c => nI (pl c)) (fun c => nI (cf c)) (fun c => nI (ct c)) aK bF bL bB bA bY bR (upd oT i (nI 1)) oO oR bS) H := hP
                              have hD : va_D A (wM h cI cZ xt (nI nF) (nI nC) xg (fun c => nI (pl c)) (fun c => nI (cf c)) (fun c => nI (ct c)) aK bF bL bB bA bY bR (upd oT i (nI 1)) oO oR bS) := hD
                              refine lv_aload_n hx hb d_M_findOrder_143 rfl (lv_at hl 0 rfl) ?_
                              refine va_get (D := (dC, dI)) (ci := 0) (v := .ref (h 13)) (C := R_M) (T := F_M) (N := 18) hx hb hk k_M_f hown hK hP 0 rfl rfl 16 (by decide) (hk _ k_M_24) (fun _ h9 => h9) rfl d_M_findOrder_144 ?_
                              refine lv_iload_n hx hb d_M_findOrder_147 rfl (lv_at hl 3 rfl) ?_
                              refine lv_iload hx hb d_M_findOrder_148 (lv_at hl 4 rfl) ?_
                              refine va_iast hx hb hK hP hD hS 13 0 rfl rfl (pk_in tl.length 4 (by omega)) d_M_findOrder_150 (fun H locs hP hD hS => ?_)
                              rw [nI_clamp (n := tl.length) (by omega)] at hP hD
                              have hP : va_P (dC, dI) kls (wM h cI cZ xt (nI nF) (nI nC) xg (fun c => nI (pl c)) (fun c => nI (cf c)) (fun c => nI (ct c)) aK bF bL bB bA bY bR (upd oT i (nI 1)) oO (upd oR tl.length (nI i)) bS) H := hP
                              have hD : va_D A (wM h cI cZ xt (nI nF) (nI nC) xg (fun c => nI (pl c)) (fun c => nI (cf c)) (fun c => nI (ct c)) aK bF bL bB bA bY bR (upd oT i (nI 1)) oO (upd oR tl.length (nI i)) bS) := hD
                              refine lv_iinc (v := nI (tl.length + 1)) (lv' := [(3, .int (nI (tl.length + 1))), (0, .ref (h 0)), (1, .int (nI f)), (2, .int (nI (cO nC op))), (4, .int (nI i))]) hx hb d_M_findOrder_151 hl (k := 3) rfl (nI_add tl.length 1) (by decide) rfl (fun ls hl => ?_)
                              refine lv_iconst (v := nI 0) hx hb d_M_findOrder_154 (by decide +kernel) ?_
                              refine lv_istore (lv' := [(5, .int (nI 0)), (3, .int (nI (tl.length + 1))), (0, .ref (h 0)), (1, .int (nI f)), (2, .int (nI (cO nC op))), (4, .int (nI i))]) hx hb d_M_findOrder_155 hl (by decide) rfl (fun ls hl => ?_)
                              have hm0 : opm (at2 aK) op i 0 = op := by funext j; unfold opm; rw [if_neg (Nat.not_lt_zero _)]
                              have hO2 : hB nC (opm (at2 aK) op i 0) oO := by rw [hm0]; exact hO
                              rw [← hm0] at hl
                              have lpE : ∀ (n_lpE : Nat) (c9 : Nat) (oO : Nat → Int32), (c9 ≤ nC) → (hB nC (opm (at2 aK) op i c9) oO) → nC - c9 < n_lpE → ∀ (H : Heap) (locs : List Loc) (ls : Array Slot), va_P (dC, dI) kls (wM h cI cZ xt (nI nF) (nI nC) xg (fun c => nI (pl c)) (fun c => nI (cf c)) (fun c => nI (ct c)) aK bF bL bB bA bY bR (upd oT i (nI 1)) oO (upd oR tl.length (nI i)) bS) H → va_D A (wM h cI cZ xt (nI nF) (nI nC) xg (fun c => nI (pl c)) (fun c => nI (cf c)) (fun c => nI (ct c)) aK bF bL bB bA bY bR (upd oT i (nI 1)) oO (upd oR tl.length (nI i)) bS) → va_S A s.heap H locs → lv_has ls 6 [(0, .ref (h 0)), (1, .int (nI f)), (2, .int (nI (cO nC (opm (at2 aK) op i c9)))), (3, .int (nI (tl.length + 1))), (4, .int (nI i)), (5, .int (nI c9))] → W p l e (headSpec w_M_findOrder ({ frames := 2, cells := 0, slots := 0, locals := 47 })).room s m ([.ref (h 0), .int (nI f)]).toArray below meth c H locs 0 0 (MQ below (va_Qi (fun (r : Int32) (u : (Nat → Int32) × (Nat → Int32) × (Nat → Int32)) => ∃ tl op, oWay nC (at2 aK) (pl f) tl (op0 cf ct f) op ∧ tl.length ≤ 4 ∧ ((¬ oOpen nC op ∧ r = nI tl.length ∧ hO4 tl u.2.2) ∨ (oOpen nC op ∧ oNone nC (at2 aK) (pl f) op ∧ r = -1))) (fun (u : (Nat → Int32) × (Nat → Int32) × (Nat → Int32)) (t : State) => va_P (dC, dI) kls (wM h cI cZ xt (nI nF) (nI nC) xg (fun c => nI (pl c)) (fun c => nI (cf c)) (fun c => nI (ct c)) aK bF bL bB bA bY bR u.1 u.2.1 u.2.2 bS) t.heap ∧ va_K (dC, dI) kls (tyM cI cZ) t ∧ va_D (A) (wM h cI cZ xt (nI nF) (nI nC) xg (fun c => nI (pl c)) (fun c => nI (cf c)) (fun c => nI (ct c)) aK bF bL bB bA bY bR u.1 u.2.1 u.2.2 bS)) A) ([.ref (h 0), .int (nI f)]).toArray s 0 0 A) (F0 m 157 ls []) := by
                                intro n_lpE
                                induction n_lpE with
                                | zero => intro c9 oO hc0 hO2 hn; exact absurd hn (Nat.not_lt_zero _)
                                | succ n_lpE ih_lpE =>
                                  intro c9 oO hc0 hO2 hn H locs ls hP hD hS hl
                                  have hcl2 := cO_le nC (opm (at2 aK) op i c9)
                                  refine lv_iload hx hb d_M_findOrder_157 (lv_at hl 5 rfl) ?_
                                  refine lv_aload_n hx hb d_M_findOrder_159 rfl (lv_at hl 0 rfl) ?_
                                  refine va_get (D := (dC, dI)) (ci := 0) (v := .int (nI nC)) (C := R_M) (T := F_M) (N := 18) hx hb hk k_M_f hown hK hP 0 rfl rfl 2 (by decide) (hk _ k_M_10) (fun _ h9 => h9) rfl d_M_findOrder_160 ?_
                                  refine lv_icmp_ge (tgt := 214) hx hb d_M_findOrder_163 (by decide) (fun c_163 => ?_) (fun c_163 => ?_)
                                  · have c_163 : nC ≤ c9 := (nI_leI (a := nC) (b := c9) (by omega) (by omega)).mp c_163
                                    refine lv_goto (tgt := 88) hx hb d_M_findOrder_214 (by decide) ?_
                                    have hkn : c9 = nC := by omega
                                    subst hkn
                                    have hO2 := opm_all hO2
                                    rw [cO_all] at hl
                                    have hnew := oNew c9 (at2 aK) (pl f) hway hcan
                                    have hln : (tl ++ [i]).length = tl.length + 1 := by rw [List.length_append]; rfl
                                    rw [← hln] at hl
                                    have hTk2 : ∀ j, j < 4 → upd oT i (nI 1) j = nI (decide (j ∈ tl ++ [i])).toNat := by
                                      intro j hj
                                      by_cases q9 : j = i
                                      · subst q9; rw [pk_us, decide_eq_true (List.mem_append_right _ (List.mem_singleton.mpr rfl))]; rfl
                                      · rw [pk_un q9, hTk j hj]
                                        congr 2
                                        rw [decide_eq_decide, List.mem_append, List.mem_singleton]
                                        exact ⟨Or.inl, fun z => by rcases z with z | z; exact z; exact absurd z q9⟩
                                    have hlt2 : ∀ j ∈ tl ++ [i], j < pl f := by
                                      intro j hj
                                      rcases List.mem_append.mp hj with z | z
                                      · exact hlt j z
                                      · rw [List.mem_singleton.mp z]; omega
                                    have hl4 := oLen (pl f) hnd hlt
                                    exact ih_lpC (tl ++ [i]) (oCut (at2 aK) op i) (upd oT i (nI 1)) oO (upd oR tl.length (nI i)) (oWay_snoc c9 (at2 aK) (pl f) hway (cO_pos.mp (by omega)) ⟨by omega, hcan, hnoc⟩) (nd_snoc hnd hnew) (hlt2) (hTk2) (hO2) (hO4_snoc hR4 i) (by omega) _ _ _ hP hD hS (lv_sub hl [0, 1, 2, 3] rfl)
                                  · have c_163 : ¬ nC ≤ c9 := fun z9 => c_163 ((nI_leI (a := nC) (b := c9) (by omega) (by omega)).mpr z9)
                                    refine lv_aload_n hx hb d_M_findOrder_166 rfl (lv_at hl 0 rfl) ?_
                                    refine va_get (D := (dC, dI)) (ci := 0) (v := .ref (h 12)) (C := R_M) (T := F_M) (N := 18) hx hb hk k_M_f hown hK hP 0 rfl rfl 15 (by decide) (hk _ k_M_23) (fun _ h9 => h9) rfl d_M_findOrder_167 ?_
                                    refine lv_iload hx hb d_M_findOrder_170 (lv_at hl 5 rfl) ?_
                                    refine va_zald hx hb hK hP 12 1 rfl rfl (pk_in c9 20 (by omega)) d_M_findOrder_172 ?_
                                    refine lv_topi (fun z5 ez5 => ?_)
                                    obtain rfl : z5 = nI ((opm (at2 aK) op i c9 c9).toNat) := ez5.trans ((rd (f := oO) (k := c9) (by omega)).trans (hO2 c9 (by omega)))
                                    have hob := bN_lt (opm (at2 aK) op i c9 c9)
                                    refine lv_if_eq (tgt := 208) hx hb d_M_findOrder_173 (by decide) (fun c_173 => ?_) (fun c_173 => ?_)
                                    · have c_173 : (opm (at2 aK) op i c9 c9).toNat = 0 := (nI_eq (a := (opm (at2 aK) op i c9 c9).toNat) (b := 0) (by omega) (by omega)).mp c_173
                                      refine lv_iinc (v := nI (c9 + 1)) (lv' := [(5, .int (nI (c9 + 1))), (0, .ref (h 0)), (1, .int (nI f)), (2, .int (nI (cO nC (opm (at2 aK) op i c9)))), (3, .int (nI (tl.length + 1))), (4, .int (nI i))]) hx hb d_M_findOrder_208 hl (k := 5) rfl (nI_add c9 1) (by decide) rfl (fun ls hl => ?_)
                                      refine lv_goto (tgt := 157) hx hb d_M_findOrder_211 (by decide) ?_
                                      have hmc : opm (at2 aK) op i c9 c9 = op c9 := by unfold opm; rw [if_neg (by omega)]
                                      rw [hmc] at c_173
                                      have hcut : oCut (at2 aK) op i c9 = op c9 := by
                                        unfold oCut
                                        cases hz : op c9
                                        · rfl
                                        · first
                                            | (rw [hz] at c_173; exact absurd c_173 (by decide))
                                            | (rw [show decide ((at2 aK) c9 i = 2) = false from decide_eq_false c_191]; rfl)
                                      rw [← opm_eq hcut] at hO2 hl
                                      exact ih_lpE (c9 + 1) oO (by omega) (hO2) (by omega) _ _ _ hP hD hS (lv_sub hl [1, 2, 3, 4, 5, 0] rfl)
                                    · have c_173 : ¬ (opm (at2 aK) op i c9 c9).toNat = 0 := fun z9 => c_173 ((nI_eq (a := (opm (at2 aK) op i c9 c9).toNat) (b := 0) (by omega) (by omega)).mpr z9)
                                      refine lv_aload_n hx hb d_M_findOrder_176 rfl (lv_at hl 0 rfl) ?_
                                      refine va_get (D := (dC, dI)) (ci := 0) (v := .ref (h 4)) (C := R_M) (T := F_M) (N := 18) hx hb hk k_M_f hown hK hP 0 rfl rfl 6 (by decide) (hk _ k_M_14) (fun _ h9 => h9) rfl d_M_findOrder_177 ?_
                                      refine lv_iload hx hb d_M_findOrder_180 (lv_at hl 5 rfl) ?_
                                      refine va_iald hx hb hK hP 4 0 rfl rfl (pk_in c9 20 (by omega)) d_M_findOrder_182 ?_
                                      refine lv_topi (fun z6 ez6 => ?_)
                                      obtain rfl : z6 = aK c9 := ez6.trans (rd (f := aK) (k := c9) (by omega))
                                      refine lv_iload hx hb d_M_findOrder_183 (lv_at hl 4 rfl) ?_
                                      refine lv_iload hx hb d_M_findOrder_185 (lv_at hl 4 rfl) ?_
                                      refine vp_callSi (W.runS (As := [.int (aK c9), .int (nI i), .int (nI i)]) (rest := []) ⟨hx, hb, hml, hown, hk⟩ (m_at l (aK c9) i i (by omega) (by omega)) (cwS 3 hk g_M_at rfl rfl rfl (by decide +kernel) ⟨Nat.le_of_ble_eq_true rfl, Nat.le_of_ble_eq_true rfl⟩) ⟨fun a U g mk q => q, fun U hU hW => ⟨rfl, trivial⟩⟩ rfl rfl hl.1 rfl (lv_room (Nat.le_of_ble_eq_true rfl)) d_M_findOrder_187 ⟨Nat.le_of_ble_eq_true rfl, Nat.le_of_ble_eq_true rfl⟩) (fun r7 hw => ?_)
                                      subst hw
                                      have hat := atN_lt (aK c9) i i
                                      refine lv_iconst (v := nI 2) hx hb d_M_findOrder_190 (by decide +kernel) ?_
                                      refine lv_icmp_eq (tgt := 197) hx hb d_M_findOrder_191 (by decide) (fun c_191 => ?_) (fun c_191 => ?_)
                                      · have c_191 : atN (aK c9) i i = 2 := (nI_eq (a := atN (aK c9) i i) (b := 2) (by omega) (by omega)).mp c_191
                                        refine lv_aload_n hx hb d_M_findOrder_197 rfl (lv_at hl 0 rfl) ?_
                                        refine va_get (D := (dC, dI)) (ci := 0) (v := .ref (h 12)) (C := R_M) (T := F_M) (N := 18) hx hb hk k_M_f hown hK hP 0 rfl rfl 15 (by decide) (hk _ k_M_23) (fun _ h9 => h9) rfl d_M_findOrder_198 ?_
                                        refine lv_iload hx hb d_M_findOrder_201 (lv_at hl 5 rfl) ?_
                                        refine lv_iconst (v := nI 0) hx hb d_M_findOrder_203 (by decide +kernel) ?_
                                        refine va_zast hx hb hK hP hD hS 12 1 rfl rfl (pk_in c9 20 (by omega)) d_M_findOrder_204 (fun H locs hP hD hS => ?_)
                                        rw [nI_clamp (n := c9) (by omega)] at hP hD
                                        have hP : va_P (dC, dI) kls (wM h cI cZ xt (nI nF) (nI nC) xg (fun c => nI (pl c)) (fun c => nI (cf c)) (fun c => nI (ct c)) aK bF bL bB bA bY bR (upd oT i (nI 1)) (upd oO c9 (nI 0)) (upd oR tl.length (nI i)) bS) H := hP
                                        have hD : va_D A (wM h cI cZ xt (nI nF) (nI nC) xg (fun c => nI (pl c)) (fun c => nI (cf c)) (fun c => nI (ct c)) aK bF bL bB bA bY bR (upd oT i (nI 1)) (upd oO c9 (nI 0)) (upd oR tl.length (nI i)) bS) := hD
                                        have hmc0 : opm (at2 aK) op i c9 c9 = op c9 := by unfold opm; rw [if_neg (by omega)]
                                        have hz0 : opm (at2 aK) op i c9 c9 = true := by cases hz : opm (at2 aK) op i c9 c9; rw [hz] at c_173; exact absurd rfl c_173; rfl
                                        have hpos := (cO_pos (nC := nC)).mpr ⟨c9, by omega, hz0⟩
                                        refine lv_iinc (v := nI (cO nC (opm (at2 aK) op i c9) - 1)) (lv' := [(2, .int (nI (cO nC (opm (at2 aK) op i c9) - 1))), (0, .ref (h 0)), (1, .int (nI f)), (3, .int (nI (tl.length + 1))), (4, .int (nI i)), (5, .int (nI c9))]) hx hb d_M_findOrder_205 hl (k := 2) rfl (sb_m1 (by omega)) (by decide) rfl (fun ls hl => ?_)
                                        refine lv_iinc (v := nI (c9 + 1)) (lv' := [(5, .int (nI (c9 + 1))), (2, .int (nI (cO nC (opm (at2 aK) op i c9) - 1))), (0, .ref (h 0)), (1, .int (nI f)), (3, .int (nI (tl.length + 1))), (4, .int (nI i))]) hx hb d_M_findOrder_208 hl (k := 5) rfl (nI_add c9 1) (by decide) rfl (fun ls hl => ?_)
                                        refine lv_goto (tgt := 157) hx hb d_M_findOrder_211 (by decide) ?_
                                        have hmc : opm (at2 aK) op i c9 c9 = op c9 := by unfold opm; rw [if_neg (by omega)]
                                        rw [hmc] at c_173
                                        have hz : op c9 = true := by cases hz : op c9; rw [hz] at c_173; exact absurd rfl c_173; rfl
                                        have hoff : opm (at2 aK) op i (c9 + 1) c9 = false := by unfold opm oCut; rw [if_pos (by omega), hz, show decide ((at2 aK) c9 i = 2) = true from decide_eq_true c_191]; rfl
                                        have hoth : ∀ j, j < nC → j ≠ c9 → opm (at2 aK) op i (c9 + 1) j = opm (at2 aK) op i c9 j := by
                                          intro j _ hne
                                          unfold opm
                                          rcases Nat.lt_or_ge j c9 with q9 | q9
                                          · rw [if_pos (by omega), if_pos q9]
                                          · rw [if_neg (by omega), if_neg (by omega)]
                                        have hcnt := cO_off (n := nC) (k := c9) (p := opm (at2 aK) op i c9) (q := opm (at2 aK) op i (c9 + 1)) (by omega) (hmc.trans hz) hoff hoth
                                        rw [show cO nC (opm (at2 aK) op i c9) - 1 = cO nC (opm (at2 aK) op i (c9 + 1)) by omega] at hl
                                        exact ih_lpE (c9 + 1) (upd oO c9 (nI 0)) (by omega) (hB_up hoth hO2 (by rw [hoff]; rfl)) (by omega) _ _ _ hP hD hS (lv_sub hl [2, 3, 1, 4, 5, 0] rfl)
                                      · have c_191 : ¬ atN (aK c9) i i = 2 := fun z9 => c_191 ((nI_eq (a := atN (aK c9) i i) (b := 2) (by omega) (by omega)).mpr z9)
                                        refine lv_goto (tgt := 208) hx hb d_M_findOrder_194 (by decide) ?_
                                        refine lv_iinc (v := nI (c9 + 1)) (lv' := [(5, .int (nI (c9 + 1))), (0, .ref (h 0)), (1, .int (nI f)), (2, .int (nI (cO nC (opm (at2 aK) op i c9)))), (3, .int (nI (tl.length + 1))), (4, .int (nI i))]) hx hb d_M_findOrder_208 hl (k := 5) rfl (nI_add c9 1) (by decide) rfl (fun ls hl => ?_)
                                        refine lv_goto (tgt := 157) hx hb d_M_findOrder_211 (by decide) ?_
                                        have hmc : opm (at2 aK) op i c9 c9 = op c9 := by unfold opm; rw [if_neg (by omega)]
                                        rw [hmc] at c_173
                                        have hcut : oCut (at2 aK) op i c9 = op c9 := by
                                          unfold oCut
                                          cases hz : op c9
                                          · rfl
                                          · first
                                              | (rw [hz] at c_173; exact absurd c_173 (by decide))
                                              | (rw [show decide ((at2 aK) c9 i = 2) = false from decide_eq_false c_191]; rfl)
                                        rw [← opm_eq hcut] at hO2 hl
                                        exact ih_lpE (c9 + 1) oO (by omega) (hO2) (by omega) _ _ _ hP hD hS (lv_sub hl [1, 2, 3, 4, 5, 0] rfl)
                              exact lpE _ 0 oO (Nat.zero_le _) (hO2) (Nat.lt_succ_self _) _ _ _ hP hD hS (lv_sub hl [2, 3, 4, 1, 5, 0] rfl)
                            · have c_130 : i = pl f := (nI_eq (a := i) (b := pl f) (by omega) (by omega)).mp c_130
                              exfalso; omega
                          · subst hr9
                            refine lv_if_ne (tgt := 122) hx hb d_M_findOrder_113 (by decide) (fun c9 => absurd c9 (by decide +kernel)) (fun _ => ?_)
                            refine lv_iinc (v := nI (i + 1)) (lv' := [(4, .int (nI (i + 1))), (0, .ref (h 0)), (1, .int (nI f)), (2, .int (nI (cO nC op))), (3, .int (nI tl.length))]) hx hb d_M_findOrder_116 hl (k := 4) rfl (nI_add i 1) (by decide) rfl (fun ls hl => ?_)
                            refine lv_goto (tgt := 95) hx hb d_M_findOrder_119 (by decide) ?_
                            have hnoc2 : ∀ j, j < i + 1 → ¬ oCan nC (at2 aK) op j := by
                              intro j hj hc9
                              rcases Nat.lt_or_ge j i with z | z
                              · exact hnoc j z hc9
                              · obtain rfl : j = i := by omega
                                exact hcan ⟨decide_eq_false (oNew nC (at2 aK) (pl f) hway hc9), hc9⟩
                            exact ih_lpD (i + 1) (by omega) (hnoc2) (by omega) _ _ _ hP hD hS (lv_sub hl [1, 2, 3, 4, 0] rfl)
                    exact lpD _ 0 (Nat.zero_le _) (fun j hj => absurd hj (Nat.not_lt_zero _)) (Nat.lt_succ_self _) _ _ _ hP hD hS (lv_sub hl [1, 2, 3, 4, 0] rfl)
              exact lpC _ ([]) (op0 cf ct f) oT oO oR (rfl) (List.nodup_nil) (fun i hi => absurd hi List.not_mem_nil) (fun j hj => by rw [hTz j (by omega), decide_eq_false List.not_mem_nil]; rfl) (hO) (fun j y hj => by simp at hj) (Nat.lt_succ_self _) _ _ _ hP hD hS (lv_sub hl [1, 2, 3, 0] rfl)
            · have c_70 : ¬ 4 ≤ t9 := fun z9 => c_70 ((nI_leI (a := 4) (b := t9) (by omega) (by omega)).mpr z9)
              refine lv_aload_n hx hb d_M_findOrder_73 rfl (lv_at hl 0 rfl) ?_
              refine va_get (D := (dC, dI)) (ci := 0) (v := .ref (h 11)) (C := R_M) (T := F_M) (N := 18) hx hb hk k_M_f hown hK hP 0 rfl rfl 14 (by decide) (hk _ k_M_22) (fun _ h9 => h9) rfl d_M_findOrder_74 ?_
              refine lv_iload_n hx hb d_M_findOrder_77 rfl (lv_at hl 3 rfl) ?_
              refine lv_iconst (v := nI 0) hx hb d_M_findOrder_78 (by decide +kernel) ?_
              refine va_zast hx hb hK hP hD hS 11 1 rfl rfl (pk_in t9 4 (by omega)) d_M_findOrder_79 (fun H locs hP hD hS => ?_)
              rw [nI_clamp (n := t9) (by omega)] at hP hD
              have hP : va_P (dC, dI) kls (wM h cI cZ xt (nI nF) (nI nC) xg (fun c => nI (pl c)) (fun c => nI (cf c)) (fun c => nI (ct c)) aK bF bL bB bA bY bR (upd oT t9 (nI 0)) oO oR bS) H := hP
              have hD : va_D A (wM h cI cZ xt (nI nF) (nI nC) xg (fun c => nI (pl c)) (fun c => nI (cf c)) (fun c => nI (ct c)) aK bF bL bB bA bY bR (upd oT t9 (nI 0)) oO oR bS) := hD
              refine lv_iinc (v := nI (t9 + 1)) (lv' := [(3, .int (nI (t9 + 1))), (0, .ref (h 0)), (1, .int (nI f)), (2, .int (nI (cO nC (op0 cf ct f))))]) hx hb d_M_findOrder_80 hl (k := 3) rfl (nI_add t9 1) (by decide) rfl (fun ls hl => ?_)
              refine lv_goto (tgt := 68) hx hb d_M_findOrder_83 (by decide) ?_
              have hTz2 : ∀ j, j < t9 + 1 → upd oT t9 (nI 0) j = nI 0 := fun j hj => by by_cases q9 : j = t9; rw [q9, pk_us]; rw [pk_un q9]; exact hTz j (by omega)
              exact ih_lpB (t9 + 1) (upd oT t9 (nI 0)) (by omega) (hTz2) (by omega) _ _ _ hP hD hS (lv_sub hl [1, 2, 3, 0] rfl)
        exact lpB _ 0 oT (Nat.zero_le _) (fun j hj => absurd hj (Nat.not_lt_zero _)) (Nat.lt_succ_self _) _ _ _ hP hD hS (lv_sub hl [1, 2, 3, 0] rfl)
      · have c_9 : ¬ nC ≤ k := fun z9 => c_9 ((nI_leI (a := nC) (b := k) (by omega) (by omega)).mpr z9)
        have hck := hS0 k (by omega)
        have hcl := cO_le k (op0 cf ct f)
        refine lv_aload_n hx hb d_M_findOrder_12 rfl (lv_at hl 0 rfl) ?_
        refine va_get (D := (dC, dI)) (ci := 0) (v := .ref (h 12)) (C := R_M) (T := F_M) (N := 18) hx hb hk k_M_f hown hK hP 0 rfl rfl 15 (by decide) (hk _ k_M_23) (fun _ h9 => h9) rfl d_M_findOrder_13 ?_
        refine lv_iload_n hx hb d_M_findOrder_16 rfl (lv_at hl 3 rfl) ?_
        refine lv_aload_n hx hb d_M_findOrder_17 rfl (lv_at hl 0 rfl) ?_
        refine va_get (D := (dC, dI)) (ci := 0) (v := .ref (h 2)) (C := R_M) (T := F_M) (N := 18) hx hb hk k_M_f hown hK hP 0 rfl rfl 4 (by decide) (hk _ k_M_12) (fun _ h9 => h9) rfl d_M_findOrder_18 ?_
        refine lv_iload_n hx hb d_M_findOrder_21 rfl (lv_at hl 3 rfl) ?_
        refine va_iald hx hb hK hP 2 0 rfl rfl (pk_in k 20 (by omega)) d_M_findOrder_22 ?_
        refine lv_topi (fun z8 ez8 => ?_)
        obtain rfl : z8 = nI (cf k) := ez8.trans (rd (f := fun c => nI (cf c)) (k := k) (by omega))
        refine lv_iload_n hx hb d_M_findOrder_23 rfl (lv_at hl 1 rfl) ?_
        refine lv_icmp_ne (tgt := 41) hx hb d_M_findOrder_24 (by decide) (fun c_24 => ?_) (fun c_24 => ?_)
        · have c_24 : ¬ cf k = f := fun z9 => c_24 ((nI_eq (a := cf k) (b := f) (by omega) (by omega)).mpr z9)
          refine lv_iconst (v := nI 0) hx hb d_M_findOrder_41 (by decide +kernel) ?_
          refine va_zast hx hb hK hP hD hS 12 1 rfl rfl (pk_in k 20 (by omega)) d_M_findOrder_42 (fun H locs hP hD hS => ?_)
          rw [nI_clamp (n := k) (by omega)] at hP hD
          have hP : va_P (dC, dI) kls (wM h cI cZ xt (nI nF) (nI nC) xg (fun c => nI (pl c)) (fun c => nI (cf c)) (fun c => nI (ct c)) aK bF bL bB bA bY bR oT (upd oO k (nI 0)) oR bS) H := hP
          have hD : va_D A (wM h cI cZ xt (nI nF) (nI nC) xg (fun c => nI (pl c)) (fun c => nI (cf c)) (fun c => nI (ct c)) aK bF bL bB bA bY bR oT (upd oO k (nI 0)) oR bS) := hD
          have hk1v : (nI 0 : Int32) = nI (op0 cf ct f k).toNat := by unfold op0; first | rw [decide_eq_true ⟨c_24, c_34⟩]; rfl | rw [decide_eq_false (fun z => c_24 z.1)]; rfl | rw [decide_eq_false (fun z => c_34 z.2)]; rfl
          have hO2 : hB (k + 1) (op0 cf ct f) (upd oO k (nI 0)) := by
            intro j hj
            by_cases q9 : j = k
            · subst q9; rw [pk_us]; exact hk1v
            · rw [pk_un q9]; exact hO j (by omega)
          have hkb := bN_lt (op0 cf ct f k)
          refine lv_iload_n hx hb d_M_findOrder_43 rfl (lv_at hl 2 rfl) ?_
          refine lv_aload_n hx hb d_M_findOrder_44 rfl (lv_at hl 0 rfl) ?_
          refine va_get (D := (dC, dI)) (ci := 0) (v := .ref (h 12)) (C := R_M) (T := F_M) (N := 18) hx hb hk k_M_f hown hK hP 0 rfl rfl 15 (by decide) (hk _ k_M_23) (fun _ h9 => h9) rfl d_M_findOrder_45 ?_
          refine lv_iload_n hx hb d_M_findOrder_48 rfl (lv_at hl 3 rfl) ?_
          refine va_zald hx hb hK hP 12 1 rfl rfl (pk_in k 20 (by omega)) d_M_findOrder_49 ?_
          refine lv_topi (fun z9 ez9 => ?_)
          obtain rfl : z9 = nI ((op0 cf ct f k).toNat) := ez9.trans ((rd (f := upd oO k (nI 0)) (k := k) (by omega)).trans (hO2 k (by omega)))
          refine lv_if_eq (tgt := 57) hx hb d_M_findOrder_50 (by decide) (fun c_50 => ?_) (fun c_50 => ?_)
          · have c_50 : (op0 cf ct f k).toNat = 0 := (nI_eq (a := (op0 cf ct f k).toNat) (b := 0) (by omega) (by omega)).mp c_50
            refine lv_iconst (v := nI 0) hx hb d_M_findOrder_57 (by decide +kernel) ?_
            refine lv_iadd hx hb d_M_findOrder_58 ?_
            refine lv_topi (fun z10 ez10 => ?_)
            obtain rfl : z10 = nI (cO k (op0 cf ct f)) := ez10.trans (nI_add _ _)
            refine lv_topi (fun z11 ez11 => ?_)
            obtain rfl : z11 = nI (cO (k + 1) (op0 cf ct f)) := ez11.trans (congrArg nI (by rw [cO_succ]; omega))
            refine lv_istore_n (lv' := [(2, .int (nI (cO (k + 1) (op0 cf ct f)))), (0, .ref (h 0)), (1, .int (nI f)), (3, .int (nI k))]) hx hb d_M_findOrder_59 rfl hl (by decide) rfl (fun ls hl => ?_)
            refine lv_iinc (v := nI (k + 1)) (lv' := [(3, .int (nI (k + 1))), (2, .int (nI (cO (k + 1) (op0 cf ct f)))), (0, .ref (h 0)), (1, .int (nI f))]) hx hb d_M_findOrder_60 hl (k := 3) rfl (nI_add k 1) (by decide) rfl (fun ls hl => ?_)
            refine lv_goto (tgt := 4) hx hb d_M_findOrder_63 (by decide) ?_
            exact ih_lpA (k + 1) (upd oO k (nI 0)) (by omega) (hO2) (by omega) _ _ _ hP hD hS (lv_sub hl [2, 3, 1, 0] rfl)
          · have c_50 : ¬ (op0 cf ct f k).toNat = 0 := fun z9 => c_50 ((nI_eq (a := (op0 cf ct f k).toNat) (b := 0) (by omega) (by omega)).mpr z9)
            refine lv_iconst (v := nI 1) hx hb d_M_findOrder_53 (by decide +kernel) ?_
            refine lv_goto (tgt := 58) hx hb d_M_findOrder_54 (by decide) ?_
            refine lv_iadd hx hb d_M_findOrder_58 ?_
            refine lv_topi (fun z12 ez12 => ?_)
            obtain rfl : z12 = nI (cO k (op0 cf ct f) + 1) := ez12.trans (nI_add _ _)
            refine lv_topi (fun z13 ez13 => ?_)
            obtain rfl : z13 = nI (cO (k + 1) (op0 cf ct f)) := ez13.trans (congrArg nI (by rw [cO_succ]; omega))
            refine lv_istore_n (lv' := [(2, .int (nI (cO (k + 1) (op0 cf ct f)))), (0, .ref (h 0)), (1, .int (nI f)), (3, .int (nI k))]) hx hb d_M_findOrder_59 rfl hl (by decide) rfl (fun ls hl => ?_)
            refine lv_iinc (v := nI (k + 1)) (lv' := [(3, .int (nI (k + 1))), (2, .int (nI (cO (k + 1) (op0 cf ct f)))), (0, .ref (h 0)), (1, .int (nI f))]) hx hb d_M_findOrder_60 hl (k := 3) rfl (nI_add k 1) (by decide) rfl (fun ls hl => ?_)
            refine lv_goto (tgt := 4) hx hb d_M_findOrder_63 (by decide) ?_
            exact ih_lpA (k + 1) (upd oO k (nI 0)) (by omega) (hO2) (by omega) _ _ _ hP hD hS (lv_sub hl [2, 3, 1, 0] rfl)
        · have c_24 : cf k = f := (nI_eq (a := cf k) (b := f) (by omega) (by omega)).mp c_24
          refine lv_aload_n hx hb d_M_findOrder_27 rfl (lv_at hl 0 rfl) ?_
          refine va_get (D := (dC, dI)) (ci := 0) (v := .ref (h 3)) (C := R_M) (T := F_M) (N := 18) hx hb hk k_M_f hown hK hP 0 rfl rfl 5 (by decide) (hk _ k_M_13) (fun _ h9 => h9) rfl d_M_findOrder_28 ?_
          refine lv_iload_n hx hb d_M_findOrder_31 rfl (lv_at hl 3 rfl) ?_
          refine va_iald hx hb hK hP 3 0 rfl rfl (pk_in k 20 (by omega)) d_M_findOrder_32 ?_
          refine lv_topi (fun z14 ez14 => ?_)
          obtain rfl : z14 = nI (ct k) := ez14.trans (rd (f := fun c => nI (ct c)) (k := k) (by omega))
          refine lv_iload_n hx hb d_M_findOrder_33 rfl (lv_at hl 1 rfl) ?_
          refine lv_icmp_ne (tgt := 41) hx hb d_M_findOrder_34 (by decide) (fun c_34 => ?_) (fun c_34 => ?_)
          · have c_34 : ¬ ct k = f := fun z9 => c_34 ((nI_eq (a := ct k) (b := f) (by omega) (by omega)).mpr z9)
            refine lv_iconst (v := nI 0) hx hb d_M_findOrder_41 (by decide +kernel) ?_
            refine va_zast hx hb hK hP hD hS 12 1 rfl rfl (pk_in k 20 (by omega)) d_M_findOrder_42 (fun H locs hP hD hS => ?_)
            rw [nI_clamp (n := k) (by omega)] at hP hD
            have hP : va_P (dC, dI) kls (wM h cI cZ xt (nI nF) (nI nC) xg (fun c => nI (pl c)) (fun c => nI (cf c)) (fun c => nI (ct c)) aK bF bL bB bA bY bR oT (upd oO k (nI 0)) oR bS) H := hP
            have hD : va_D A (wM h cI cZ xt (nI nF) (nI nC) xg (fun c => nI (pl c)) (fun c => nI (cf c)) (fun c => nI (ct c)) aK bF bL bB bA bY bR oT (upd oO k (nI 0)) oR bS) := hD
            have hk1v : (nI 0 : Int32) = nI (op0 cf ct f k).toNat := by unfold op0; first | rw [decide_eq_true ⟨c_24, c_34⟩]; rfl | rw [decide_eq_false (fun z => c_24 z.1)]; rfl | rw [decide_eq_false (fun z => c_34 z.2)]; rfl
            have hO2 : hB (k + 1) (op0 cf ct f) (upd oO k (nI 0)) := by
              intro j hj
              by_cases q9 : j = k
              · subst q9; rw [pk_us]; exact hk1v
              · rw [pk_un q9]; exact hO j (by omega)
            have hkb := bN_lt (op0 cf ct f k)
            refine lv_iload_n hx hb d_M_findOrder_43 rfl (lv_at hl 2 rfl) ?_
            refine lv_aload_n hx hb d_M_findOrder_44 rfl (lv_at hl 0 rfl) ?_
            refine va_get (D := (dC, dI)) (ci := 0) (v := .ref (h 12)) (C := R_M) (T := F_M) (N := 18) hx hb hk k_M_f hown hK hP 0 rfl rfl 15 (by decide) (hk _ k_M_23) (fun _ h9 => h9) rfl d_M_findOrder_45 ?_
            refine lv_iload_n hx hb d_M_findOrder_48 rfl (lv_at hl 3 rfl) ?_
            refine va_zald hx hb hK hP 12 1 rfl rfl (pk_in k 20 (by omega)) d_M_findOrder_49 ?_
            refine lv_topi (fun z15 ez15 => ?_)
            obtain rfl : z15 = nI ((op0 cf ct f k).toNat) := ez15.trans ((rd (f := upd oO k (nI 0)) (k := k) (by omega)).trans (hO2 k (by omega)))
            refine lv_if_eq (tgt := 57) hx hb d_M_findOrder_50 (by decide) (fun c_50 => ?_) (fun c_50 => ?_)
            · have c_50 : (op0 cf ct f k).toNat = 0 := (nI_eq (a := (op0 cf ct f k).toNat) (b := 0) (by omega) (by omega)).mp c_50
              refine lv_iconst (v := nI 0) hx hb d_M_findOrder_57 (by decide +kernel) ?_
              refine lv_iadd hx hb d_M_findOrder_58 ?_
              refine lv_topi (fun z16 ez16 => ?_)
              obtain rfl : z16 = nI (cO k (op0 cf ct f)) := ez16.trans (nI_add _ _)
              refine lv_topi (fun z17 ez17 => ?_)
              obtain rfl : z17 = nI (cO (k + 1) (op0 cf ct f)) := ez17.trans (congrArg nI (by rw [cO_succ]; omega))
              refine lv_istore_n (lv' := [(2, .int (nI (cO (k + 1) (op0 cf ct f)))), (0, .ref (h 0)), (1, .int (nI f)), (3, .int (nI k))]) hx hb d_M_findOrder_59 rfl hl (by decide) rfl (fun ls hl => ?_)
              refine lv_iinc (v := nI (k + 1)) (lv' := [(3, .int (nI (k + 1))), (2, .int (nI (cO (k + 1) (op0 cf ct f)))), (0, .ref (h 0)), (1, .int (nI f))]) hx hb d_M_findOrder_60 hl (k := 3) rfl (nI_add k 1) (by decide) rfl (fun ls hl => ?_)
              refine lv_goto (tgt := 4) hx hb d_M_findOrder_63 (by decide) ?_
              exact ih_lpA (k + 1) (upd oO k (nI 0)) (by omega) (hO2) (by omega) _ _ _ hP hD hS (lv_sub hl [2, 3, 1, 0] rfl)
            · have c_50 : ¬ (op0 cf ct f k).toNat = 0 := fun z9 => c_50 ((nI_eq (a := (op0 cf ct f k).toNat) (b := 0) (by omega) (by omega)).mpr z9)
              refine lv_iconst (v := nI 1) hx hb d_M_findOrder_53 (by decide +kernel) ?_
              refine lv_goto (tgt := 58) hx hb d_M_findOrder_54 (by decide) ?_
              refine lv_iadd hx hb d_M_findOrder_58 ?_
              refine lv_topi (fun z18 ez18 => ?_)
              obtain rfl : z18 = nI (cO k (op0 cf ct f) + 1) := ez18.trans (nI_add _ _)
              refine lv_topi (fun z19 ez19 => ?_)
              obtain rfl : z19 = nI (cO (k + 1) (op0 cf ct f)) := ez19.trans (congrArg nI (by rw [cO_succ]; omega))
              refine lv_istore_n (lv' := [(2, .int (nI (cO (k + 1) (op0 cf ct f)))), (0, .ref (h 0)), (1, .int (nI f)), (3, .int (nI k))]) hx hb d_M_findOrder_59 rfl hl (by decide) rfl (fun ls hl => ?_)
              refine lv_iinc (v := nI (k + 1)) (lv' := [(3, .int (nI (k + 1))), (2, .int (nI (cO (k + 1) (op0 cf ct f)))), (0, .ref (h 0)), (1, .int (nI f))]) hx hb d_M_findOrder_60 hl (k := 3) rfl (nI_add k 1) (by decide) rfl (fun ls hl => ?_)
              refine lv_goto (tgt := 4) hx hb d_M_findOrder_63 (by decide) ?_
              exact ih_lpA (k + 1) (upd oO k (nI 0)) (by omega) (hO2) (by omega) _ _ _ hP hD hS (lv_sub hl [2, 3, 1, 0] rfl)
          · have c_34 : ct k = f := (nI_eq (a := ct k) (b := f) (by omega) (by omega)).mp c_34
            refine lv_iconst (v := nI 1) hx hb d_M_findOrder_37 (by decide +kernel) ?_
            refine lv_goto (tgt := 42) hx hb d_M_findOrder_38 (by decide) ?_
            refine va_zast hx hb hK hP hD hS 12 1 rfl rfl (pk_in k 20 (by omega)) d_M_findOrder_42 (fun H locs hP hD hS => ?_)
            rw [nI_clamp (n := k) (by omega)] at hP hD
            have hP : va_P (dC, dI) kls (wM h cI cZ xt (nI nF) (nI nC) xg (fun c => nI (pl c)) (fun c => nI (cf c)) (fun c => nI (ct c)) aK bF bL bB bA bY bR oT (upd oO k (nI 1)) oR bS) H := hP
            have hD : va_D A (wM h cI cZ xt (nI nF) (nI nC) xg (fun c => nI (pl c)) (fun c => nI (cf c)) (fun c => nI (ct c)) aK bF bL bB bA bY bR oT (upd oO k (nI 1)) oR bS) := hD
            have hk1v : (nI 1 : Int32) = nI (op0 cf ct f k).toNat := by unfold op0; first | rw [decide_eq_true ⟨c_24, c_34⟩]; rfl | rw [decide_eq_false (fun z => c_24 z.1)]; rfl | rw [decide_eq_false (fun z => c_34 z.2)]; rfl
            have hO2 : hB (k + 1) (op0 cf ct f) (upd oO k (nI 1)) := by
              intro j hj
              by_cases q9 : j = k
              · subst q9; rw [pk_us]; exact hk1v
              · rw [pk_un q9]; exact hO j (by omega)
            have hkb := bN_lt (op0 cf ct f k)
            refine lv_iload_n hx hb d_M_findOrder_43 rfl (lv_at hl 2 rfl) ?_
            refine lv_aload_n hx hb d_M_findOrder_44 rfl (lv_at hl 0 rfl) ?_
            refine va_get (D := (dC, dI)) (ci := 0) (v := .ref (h 12)) (C := R_M) (T := F_M) (N := 18) hx hb hk k_M_f hown hK hP 0 rfl rfl 15 (by decide) (hk _ k_M_23) (fun _ h9 => h9) rfl d_M_findOrder_45 ?_
            refine lv_iload_n hx hb d_M_findOrder_48 rfl (lv_at hl 3 rfl) ?_
            refine va_zald hx hb hK hP 12 1 rfl rfl (pk_in k 20 (by omega)) d_M_findOrder_49 ?_
            refine lv_topi (fun z20 ez20 => ?_)
            obtain rfl : z20 = nI ((op0 cf ct f k).toNat) := ez20.trans ((rd (f := upd oO k (nI 1)) (k := k) (by omega)).trans (hO2 k (by omega)))
            refine lv_if_eq (tgt := 57) hx hb d_M_findOrder_50 (by decide) (fun c_50 => ?_) (fun c_50 => ?_)
            · have c_50 : (op0 cf ct f k).toNat = 0 := (nI_eq (a := (op0 cf ct f k).toNat) (b := 0) (by omega) (by omega)).mp c_50
              refine lv_iconst (v := nI 0) hx hb d_M_findOrder_57 (by decide +kernel) ?_
              refine lv_iadd hx hb d_M_findOrder_58 ?_
              refine lv_topi (fun z21 ez21 => ?_)
              obtain rfl : z21 = nI (cO k (op0 cf ct f)) := ez21.trans (nI_add _ _)
              refine lv_topi (fun z22 ez22 => ?_)
              obtain rfl : z22 = nI (cO (k + 1) (op0 cf ct f)) := ez22.trans (congrArg nI (by rw [cO_succ]; omega))
              refine lv_istore_n (lv' := [(2, .int (nI (cO (k + 1) (op0 cf ct f)))), (0, .ref (h 0)), (1, .int (nI f)), (3, .int (nI k))]) hx hb d_M_findOrder_59 rfl hl (by decide) rfl (fun ls hl => ?_)
              refine lv_iinc (v := nI (k + 1)) (lv' := [(3, .int (nI (k + 1))), (2, .int (nI (cO (k + 1) (op0 cf ct f)))), (0, .ref (h 0)), (1, .int (nI f))]) hx hb d_M_findOrder_60 hl (k := 3) rfl (nI_add k 1) (by decide) rfl (fun ls hl => ?_)
              refine lv_goto (tgt := 4) hx hb d_M_findOrder_63 (by decide) ?_
              exact ih_lpA (k + 1) (upd oO k (nI 1)) (by omega) (hO2) (by omega) _ _ _ hP hD hS (lv_sub hl [2, 3, 1, 0] rfl)
            · have c_50 : ¬ (op0 cf ct f k).toNat = 0 := fun z9 => c_50 ((nI_eq (a := (op0 cf ct f k).toNat) (b := 0) (by omega) (by omega)).mpr z9)
              refine lv_iconst (v := nI 1) hx hb d_M_findOrder_53 (by decide +kernel) ?_
              refine lv_goto (tgt := 58) hx hb d_M_findOrder_54 (by decide) ?_
              refine lv_iadd hx hb d_M_findOrder_58 ?_
              refine lv_topi (fun z23 ez23 => ?_)
              obtain rfl : z23 = nI (cO k (op0 cf ct f) + 1) := ez23.trans (nI_add _ _)
              refine lv_topi (fun z24 ez24 => ?_)
              obtain rfl : z24 = nI (cO (k + 1) (op0 cf ct f)) := ez24.trans (congrArg nI (by rw [cO_succ]; omega))
              refine lv_istore_n (lv' := [(2, .int (nI (cO (k + 1) (op0 cf ct f)))), (0, .ref (h 0)), (1, .int (nI f)), (3, .int (nI k))]) hx hb d_M_findOrder_59 rfl hl (by decide) rfl (fun ls hl => ?_)
              refine lv_iinc (v := nI (k + 1)) (lv' := [(3, .int (nI (k + 1))), (2, .int (nI (cO (k + 1) (op0 cf ct f)))), (0, .ref (h 0)), (1, .int (nI f))]) hx hb d_M_findOrder_60 hl (k := 3) rfl (nI_add k 1) (by decide) rfl (fun ls hl => ?_)
              refine lv_goto (tgt := 4) hx hb d_M_findOrder_63 (by decide) ?_
              exact ih_lpA (k + 1) (upd oO k (nI 1)) (by omega) (hO2) (by omega) _ _ _ hP hD hS (lv_sub hl [2, 3, 1, 0] rfl)
  exact lpA _ 0 oO (Nat.zero_le _) (fun j hj => absurd hj (Nat.not_lt_zero _)) (Nat.lt_succ_self _) _ _ _ hP hD hS (lv_sub hl [2, 3, 1, 0] rfl)
