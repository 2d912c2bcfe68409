def updN (f : Nat → Nat) (k v : Nat) : Nat → Nat := fun j => if j = k then v else f j
theorem updN_eq (f : Nat → Nat) (k v : Nat) : upd (fun c => nI (f c)) k (nI v) = fun c => nI (updN f k v c) := by
  funext j
  unfold updN
  by_cases h : j = k
  · subst h; rw [pk_us, if_pos rfl]
  · rw [pk_un h, if_neg h]
/-- the k-th of the numbers of five bits -/
def numR (x : Int64) (k : Nat) : Nat := x.toBitVec.toNat / 2 ^ (5 * k) % 32
theorem numR_lt (x : Int64) (k : Nat) : numR x k < 32 := Nat.mod_lt _ (by decide)
theorem sh5 : ∀ k, k < 12 → ((nI (5 * k)).toInt64 &&& 63).toBitVec.smod 64 = BitVec.ofNat 64 (5 * k) := by decide +kernel
theorem sh5u : ∀ k, k < 12 → (((nI (5 * k)).toInt64.toUInt64 &&& Int64.toUInt64 63).toBitVec % 64).toNat = 5 * k := by decide +kernel
theorem b31 : ∀ i, i < 64 → (31 : Int64).toBitVec.getLsbD i = decide (i < 5) := by decide +kernel
theorem c31 : ∀ i, i < 32 → (nI 31).toBitVec.getLsbD i = decide (i < 5) := by decide +kernel
theorem nR_bit (x : Int64) {k : Nat} (hk : k < 12) {i : Nat} (hi : i < 32) : (nI (numR x k)).toBitVec.getLsbD i = (decide (i < 5) && x.toBitVec.getLsbD (5 * k + i)) := by
  show (BitVec.ofNat 32 (numR x k)).getLsbD i = _
  rw [BitVec.getLsbD_ofNat, decide_eq_true hi, Bool.true_and]
  unfold numR
  rw [show (32 : Nat) = 2 ^ 5 from rfl, Nat.testBit_mod_two_pow, Nat.testBit_div_two_pow, Nat.add_comm i (5 * k)]
  rfl
theorem num_sar (x : Int64) {k : Nat} (hk : k < 12) : (x >>> ((nI (5 * k)).toInt64 &&& 63) &&& 31).toInt32 = nI (numR x k) := by
  apply Int32.toBitVec_inj.mp
  apply BitVec.eq_of_getLsbD_eq
  intro i hi
  rw [nR_bit x hk hi, Int64.toBitVec_toInt32, BitVec.getLsbD_signExtend, if_pos (show i < 64 by omega), Int64.toBitVec_and, BitVec.getLsbD_and, b31 i (by omega), Int64.toBitVec_shiftRight]
  show (decide (i < 32) && ((x.toBitVec.sshiftRight (((nI (5 * k)).toInt64 &&& 63).toBitVec.smod 64).toNat).getLsbD i && decide (i < 5))) = _
  rw [sh5 k hk, BitVec.toNat_ofNat, Nat.mod_eq_of_lt (by omega), BitVec.getLsbD_sshiftRight, decide_eq_true hi]
  by_cases h5 : i < 5
  · rw [decide_eq_true h5, decide_eq_false (show ¬ 64 ≤ i by omega), if_pos (show 5 * k + i < 64 by omega)]; simp
  · rw [decide_eq_false h5]; simp
theorem num_ush (x : Int64) {k : Nat} (hk : k < 12) : (x.toUInt64 >>> ((nI (5 * k)).toInt64.toUInt64 &&& Int64.toUInt64 63)).toInt64.toInt32 &&& nI 31 = nI (numR x k) := by
  apply Int32.toBitVec_inj.mp
  apply BitVec.eq_of_getLsbD_eq
  intro i hi
  rw [nR_bit x hk hi, Int32.toBitVec_and, BitVec.getLsbD_and, c31 i hi, Int64.toBitVec_toInt32, BitVec.getLsbD_signExtend, if_pos (show i < 64 by omega)]
  show (decide (i < 32) && (x.toUInt64 >>> ((nI (5 * k)).toInt64.toUInt64 &&& Int64.toUInt64 63)).toBitVec.getLsbD i && decide (i < 5)) = _
  rw [UInt64.toBitVec_shiftRight]
  show (decide (i < 32) && (x.toBitVec >>> (((nI (5 * k)).toInt64.toUInt64 &&& Int64.toUInt64 63).toBitVec % 64).toNat).getLsbD i && decide (i < 5)) = _
  rw [sh5u k hk, BitVec.getLsbD_ushiftRight, decide_eq_true hi]
  cases x.toBitVec.getLsbD (5 * k + i) <;> simp
section PP
variable (nC : Nat) (cf ct : Nat → Nat) (ck : Nat → Int32) (Jj : Int32 → Int32 → Int32) (x : Int64)
/-- the graph of the row that the first numbers are, and where it leads to -/
def prN : Nat → Option (Int32 × Nat)
  | 0 => none
  | 1 => if numR x 0 < nC then some (ck (numR x 0), ct (numR x 0)) else none
  | k + 2 => match prN (k + 1) with
    | none => none
    | some q => if numR x (k + 1) < nC ∧ cf (numR x (k + 1)) = q.2 then some (Jj q.1 (ck (numR x (k + 1))), ct (numR x (k + 1))) else none
theorem prN_none {k : Nat} (h1 : 1 ≤ k) (h : prN nC cf ct ck Jj x k = none) : ∀ {d}, k ≤ d → prN nC cf ct ck Jj x d = none := by
  intro d hd
  induction d with
  | zero => omega
  | succ d ih =>
    rcases Nat.lt_or_ge d k with z | z
    · obtain rfl : k = d + 1 := by omega
      exact h
    · obtain ⟨d, rfl⟩ : ∃ a, d = a + 1 := ⟨d - 1, by omega⟩
      rw [prN, ih z]
theorem prN_s {k : Nat} (h : 1 ≤ k) {q : Int32 × Nat} (hq : prN nC cf ct ck Jj x k = some q) : prN nC cf ct ck Jj x (k + 1) = if numR x k < nC ∧ cf (numR x k) = q.2 then some (Jj q.1 (ck (numR x k)), ct (numR x k)) else none := by
  obtain ⟨k, rfl⟩ : ∃ a, k = a + 1 := ⟨k - 1, by omega⟩
  rw [prN, hq]
end PP
theorem in12 {q : Int32} (h1 : ¬ q < nI 1) (h4 : q ≤ nI 12) : ∃ j, 1 ≤ j ∧ j ≤ 12 ∧ q = nI j := by
  have h0 : ¬ q < 0 := by
    intro h
    rw [Int32.lt_iff_toInt_lt] at h h1
    have e1 : (nI 1).toInt = 1 := by decide +kernel
    have e0 : (0 : Int32).toInt = 0 := by decide +kernel
    omega
  obtain ⟨j, hj, rfl⟩ := nI_of2 (M := nI 12) (n := 12) (by decide +kernel) h0 h4
  refine ⟨j, ?_, hj, rfl⟩
  rcases Nat.eq_zero_or_pos j with rfl | h
  · exact absurd (show nI 0 < nI 1 from nI_lt (by omega) (by omega)) h1
  · exact h
theorem no12 {q : Int32} (h : q < nI 1 ∨ ¬ q ≤ nI 12) : ¬ ∃ j, 1 ≤ j ∧ j ≤ 12 ∧ q = nI j := by
  rintro ⟨j, h1, h4, rfl⟩
  rcases h with h | h
  · exact absurd ((nI_ltI (by omega) (by omega)).mp h) (by omega)
  · exact h (nI_le h4 (by omega))
set_option maxHeartbeats 4000000 in
set_option maxRecDepth 100000 in
theorem m_order (l : Launch) (dC : Nat → ClassId) (dI : Nat → Nat → Nat) (cI cZ : ClassId) (h : Nat → Nat) (sz : Nat) (xt xg : Int32) (aK bF bL bB bA bY bR oT oO oR bS : Nat → Int32) (nF nC : Nat) (pl cf ct : Nat → Nat) (f q : Int32) (hF : nF ≤ 10) (hC : nC ≤ 20) (hS0 : ∀ c, c < nC → cf c < nF ∧ ct c < nF) (hpl : ∀ i, i < nF → 1 ≤ pl i ∧ pl i ≤ 4) : Met l y_M_order w_M_order ({ frames := 3, cells := 0, slots := 0, locals := 72 }) (va_Pc [.ref (h 0), .int f, .int q] (fun U => U.heap.size = sz ∧ va_P (dC, dI) kls (wM h cI cZ xt (nI nF) (nI nC) xg (fun c => nI (pl c)) (fun c => nI (cf c)) (fun c => nI (ct c)) aK bF bL bB bA bY bR oT oO oR bS) U.heap ∧ va_K (dC, dI) kls (tyM cI cZ) U ∧ va_D (fun _ => True) (wM h cI cZ xt (nI nF) (nI nC) xg (fun c => nI (pl c)) (fun c => nI (cf c)) (fun c => nI (ct c)) aK bF bL bB bA bY bR oT oO oR bS))) (va_Qi (fun (r : Int32) (u : Int32 × (Nat → Int32) × (Nat → Int32) × (Nat → Int32)) => u.1 = nI 0 ∧ (((¬ ((∃ i, i < nF ∧ f = nI i) ∧ (-1 : Int32) ≤ q)) ∧ r = -1) ∨ ∃ i, i < nF ∧ f = nI i ∧ (-1 : Int32) ≤ q ∧ ∃ tl op, oWay nC (at2 aK) (pl i) tl (op0 cf ct i) op ∧ tl.length ≤ 4 ∧ ((¬ oOpen nC op ∧ ((q = -1 ∧ r = nI tl.length) ∨ ∃ q1, q1 < 2 ^ 31 ∧ q = nI q1 ∧ ((∃ y, tl[q1]? = some y ∧ r = nI y) ∨ (tl.length ≤ q1 ∧ r = -1)))) ∨ (oOpen nC op ∧ oNone nC (at2 aK) (pl i) op ∧ r = -1)))) (fun (u : Int32 × (Nat → Int32) × (Nat → Int32) × (Nat → Int32)) (t : State) => va_P (dC, dI) kls (wM h cI cZ u.1 (nI nF) (nI nC) xg (fun c => nI (pl c)) (fun c => nI (cf c)) (fun c => nI (ct c)) aK bF bL bB bA bY bR u.2.1 u.2.2.1 u.2.2.2 bS) t.heap ∧ va_K (dC, dI) kls (tyM cI cZ) t ∧ va_D (va_A (wM h cI cZ xt (nI nF) (nI nC) xg (fun c => nI (pl c)) (fun c => nI (cf c)) (fun c => nI (ct c)) aK bF bL bB bA bY bR oT oO oR bS) sz) (wM h cI cZ u.1 (nI nF) (nI nC) xg (fun c => nI (pl c)) (fun c => nI (cf c)) (fun c => nI (ct c)) aK bF bL bB bA bY bR u.2.1 u.2.2.1 u.2.2.2 bS)) (va_A (wM h cI cZ xt (nI nF) (nI nC) xg (fun c => nI (pl c)) (fun c => nI (cf c)) (fun c => nI (ct c)) aK bF bL bB bA bY bR oT oO oR bS) sz)) 0 0 (va_A (wM h cI cZ xt (nI nF) (nI nC) xg (fun c => nI (pl c)) (fun c => nI (cf c)) (fun c => nI (ct c)) aK bF bL bB bA bY bR oT oO oR bS) sz) := by
  refine Met.ofW (cc := c_M_order) (maxL := 4) (ret := (some .int)) (by decide) rfl ?_
  intro p e s m args below meth c s₁ B hml hv
  obtain ⟨rfl, hsz, hP, hK, hD0⟩ := hv
  have hx := B.exec
  have hb := B.bytes
  have hr := B.returns
  have hts := atoms_spec (ws := w_M_order) B.pre
  have hk : ∀ w ∈ wMw, w.before _ s = true := fun w h => hts w (List.mem_cons_of_mem _ h)
  have hown : s.vm.findClass R_M = some m.cls := findClass_of_methodNamed B.named
  have hlocks := B.notSynchronized
  subst hsz
  have hD := hD0.self (sz := s.heap.size)
  generalize hAe : va_A (wM h cI cZ xt (nI nF) (nI nC) xg (fun c => nI (pl c)) (fun c => nI (cf c)) (fun c => nI (ct c)) aK bF bL bB bA bY bR oT oO oR bS) s.heap.size = A at hD ⊢
  have hA : ∀ q : Nat, s.heap.size ≤ q → A q := fun q h => by rw [← hAe]; exact Or.inr h
  have hS : va_S A s.heap s.heap [] := va_S.rf
  have hl := lv_entry ([.ref (h 0), .int f, .int q]) (n := 4) (Nat.le_of_ble_eq_true rfl)
  rw [lg_entry_eq]
  generalize (lg_sl ([.ref (h 0), .int f, .int q]) ++ List.replicate (4 - (lg_sl ([.ref (h 0), .int f, .int q])).length) Slot.unset).toArray = ls at hl ⊢
  have hl : lv_has ls 4 [(0, .ref (h 0)), (1, .int f), (2, .int q)] := hl
  refine lv_aload_n hx hb d_M_order_0 rfl (lv_at hl 0 rfl) ?_
  refine lv_iconst (v := nI 0) hx hb d_M_order_1 (by decide +kernel) ?_
  refine va_put (D := (dC, dI)) (ci := 0) (v := .int (nI 0)) (ty := .int) (C := R_M) (T := F_M) (N := 18) hx hb hk k_M_f t_M t_M_ok n_M hown hK hP hD hS 0 rfl rfl 0 (by decide) (hk _ k_M_8) (fun _ h9 => h9) rfl (by decide +kernel) rfl rfl (Nat.le_of_ble_eq_true rfl) d_M_order_2 (fun H locs hP hD hS => ?_)
  have hP : va_P (dC, dI) kls (wM h cI cZ (nI 0) (nI nF) (nI nC) xg (fun c => nI (pl c)) (fun c => nI (cf c)) (fun c => nI (ct c)) aK bF bL bB bA bY bR oT oO oR bS) H := hP
  have hD : va_D A (wM h cI cZ (nI 0) (nI nF) (nI nC) xg (fun c => nI (pl c)) (fun c => nI (cf c)) (fun c => nI (ct c)) aK bF bL bB bA bY bR oT oO oR bS) := hD
  refine lv_aload_n hx hb d_M_order_5 rfl (lv_at hl 0 rfl) ?_
  refine lv_iload_n hx hb d_M_order_6 rfl (lv_at hl 1 rfl) ?_
  have hFc := va_free (wc := wM h cI cZ (nI 0) (nI nF) (nI nC) xg (fun c => nI (pl c)) (fun c => nI (cf c)) (fun c => nI (ct c)) aK bF bL bB bA bY bR oT oO oR bS) hD hS hA [0, 1, 2, 3, 4, 5, 6, 7, 8, 9, 10, 11, 12, 13, 14] rfl
  refine va_calli (va_runV (As := [.int f]) (rest := []) ⟨hx, hb, hml, hown, hk⟩ (m_isFunction l dC dI cI cZ h H.size (nI 0) (nI nC) xg (fun c => nI (pl c)) (fun c => nI (cf c)) (fun c => nI (ct c)) aK bF bL bB bA bY bR oT oO oR bS nF f (by omega)) (cwV 1 hk g_M_isFunction rfl rfl rfl (by decide +kernel) ⟨Nat.le_of_ble_eq_true rfl, Nat.le_of_ble_eq_true rfl⟩) ⟨fun a U g mk q => by obtain ⟨q0, q1, qP, qK, qD⟩ := q; exact ⟨q0, q1, qP, va_K.moved (u := U) (U := U.calling g mk a) (Vm.Alike.refl U.vm) qK, qD⟩, va_recv hK hP (ci := 0) (q0 := 0) rfl rfl, fun U hU hW => ⟨rfl, by rw [hU], by rw [hU]; exact hP, va_K.moved hW.alike hK, hD.weaken (fun _ _ _ _ => trivial)⟩⟩ rfl rfl hl.1 rfl (lv_room (Nat.le_of_ble_eq_true rfl)) d_M_order_7 ⟨Nat.le_of_ble_eq_true rfl, Nat.le_of_ble_eq_true rfl⟩) hS (fun q _ h => hFc q h) hFc (fun r1 u9 t H1 locs ht hvm hw hB hz1 hk1 hS => ?_)
  obtain ⟨hP1, hK1, hD1⟩ := hB
  rw [ht] at hP1
  try dsimp only at hw
  obtain ⟨hP, hD⟩ := va_join (wr := []) (w1 := wM h cI cZ (nI 0) (nI nF) (nI nC) xg (fun c => nI (pl c)) (fun c => nI (cf c)) (fun c => nI (ct c)) aK bF bL bB bA bY bR oT oO oR bS) hP hD [0, 1, 2, 3, 4, 5, 6, 7, 8, 9, 10, 11, 12, 13, 14] [] rfl rfl (by decide) (by decide) hk1 hFc hP1 hD1
  generalize H1 = H at hP hS ⊢
  have hP : va_P (dC, dI) kls (wM h cI cZ (nI 0) (nI nF) (nI nC) xg (fun c => nI (pl c)) (fun c => nI (cf c)) (fun c => nI (ct c)) aK bF bL bB bA bY bR oT oO oR bS) H := hP
  have hD : va_D A (wM h cI cZ (nI 0) (nI nF) (nI nC) xg (fun c => nI (pl c)) (fun c => nI (cf c)) (fun c => nI (ct c)) aK bF bL bB bA bY bR oT oO oR bS) := hD
  rcases hw with ⟨hr9, i1, hi1, hfj⟩ | ⟨hr9, hno_f⟩
  · subst hr9
    subst hfj
    refine lv_if_eq (tgt := 18) hx hb d_M_order_10 (by decide) (fun c9 => absurd c9 (by decide +kernel)) (fun _ => ?_)
    refine lv_iload_n hx hb d_M_order_13 rfl (lv_at hl 2 rfl) ?_
    refine lv_iconst (v := (-1)) hx hb d_M_order_14 (by decide +kernel) ?_
    refine lv_icmp_ge (tgt := 20) hx hb d_M_order_15 (by decide) (fun c_15 => ?_) (fun c_15 => ?_)
    · refine lv_aload_n hx hb d_M_order_20 rfl (lv_at hl 0 rfl) ?_
      refine lv_iload_n hx hb d_M_order_21 rfl (lv_at hl 1 rfl) ?_
      have hFc := va_free (wc := wM h cI cZ (nI 0) (nI nF) (nI nC) xg (fun c => nI (pl c)) (fun c => nI (cf c)) (fun c => nI (ct c)) aK bF bL bB bA bY bR oT oO oR bS) hD hS hA [0, 1, 2, 3, 4, 5, 6, 7, 8, 9, 10, 11, 12, 13, 14] rfl
      refine va_calli (va_runV (As := [.int (nI i1)]) (rest := []) ⟨hx, hb, hml, hown, hk⟩ (m_findOrder l dC dI cI cZ h H.size (nI 0) xg aK bF bL bB bA bY bR oT oO oR bS nF nC pl cf ct i1 (hC) (hF) (hS0) (hpl i1 hi1) (hi1)) (cwV 1 hk g_M_findOrder rfl rfl rfl (by decide +kernel) ⟨Nat.le_of_ble_eq_true rfl, Nat.le_of_ble_eq_true rfl⟩) ⟨fun a U g mk q => by obtain ⟨q0, q1, qP, qK, qD⟩ := q; exact ⟨q0, q1, qP, va_K.moved (u := U) (U := U.calling g mk a) (Vm.Alike.refl U.vm) qK, qD⟩, va_recv hK hP (ci := 0) (q0 := 0) rfl rfl, fun U hU hW => ⟨rfl, by rw [hU], by rw [hU]; exact hP, va_K.moved hW.alike hK, hD.weaken (fun _ _ _ _ => trivial)⟩⟩ rfl rfl hl.1 rfl (lv_room (Nat.le_of_ble_eq_true rfl)) d_M_order_22 ⟨Nat.le_of_ble_eq_true rfl, Nat.le_of_ble_eq_true rfl⟩) hS (fun q _ h => hFc q h) hFc (fun r2 u9 t H1 locs ht hvm hw hB hz1 hk1 hS => ?_)
      obtain ⟨oT9, oO9, oR9⟩ := u9
      obtain ⟨hP1, hK1, hD1⟩ := hB
      rw [ht] at hP1
      try dsimp only at hw
      obtain ⟨hP, hD⟩ := va_join (wr := []) (w1 := wM h cI cZ (nI 0) (nI nF) (nI nC) xg (fun c => nI (pl c)) (fun c => nI (cf c)) (fun c => nI (ct c)) aK bF bL bB bA bY bR oT9 oO9 oR9 bS) hP hD [0, 1, 2, 3, 4, 5, 6, 7, 8, 9, 10, 11, 12, 13, 14] [] rfl rfl (by decide) (by decide) hk1 hFc hP1 hD1
      generalize H1 = H at hP hS ⊢
      have hP : va_P (dC, dI) kls (wM h cI cZ (nI 0) (nI nF) (nI nC) xg (fun c => nI (pl c)) (fun c => nI (cf c)) (fun c => nI (ct c)) aK bF bL bB bA bY bR oT9 oO9 oR9 bS) H := hP
      have hD : va_D A (wM h cI cZ (nI 0) (nI nF) (nI nC) xg (fun c => nI (pl c)) (fun c => nI (cf c)) (fun c => nI (ct c)) aK bF bL bB bA bY bR oT9 oO9 oR9 bS) := hD
      obtain ⟨tl, op, hway, htl4, hw⟩ := hw
      rcases hw with ⟨hopn, hr9, hR9⟩ | ⟨hopn, hnon, hr9⟩
      · subst hr9
        refine lv_istore_n (lv' := [(3, .int (nI tl.length)), (0, .ref (h 0)), (1, .int (nI i1)), (2, .int q)]) hx hb d_M_order_25 rfl hl (by decide) rfl (fun ls hl => ?_)
        refine lv_iload_n hx hb d_M_order_26 rfl (lv_at hl 3 rfl) ?_
        refine lv_iconst (v := (-1)) hx hb d_M_order_27 (by decide +kernel) ?_
        refine lv_icmp_ne (tgt := 35) hx hb d_M_order_28 (by decide) (fun c_28 => ?_) (fun c_28 => ?_)
        · obtain ⟨q1, hq1, rfl⟩ := nI_of (nn_of c_15 c_28)
          refine lv_iload_n hx hb d_M_order_35 rfl (lv_at hl 3 rfl) ?_
          refine lv_iload_n hx hb d_M_order_36 rfl (lv_at hl 0 rfl) ?_
          refine lv_icmp_ge (tgt := 49) hx hb d_M_order_37 (by decide) (fun c_37 => ?_) (fun c_37 => ?_)
          · have c_37 : tl.length ≤ q1 := (nI_leI (a := tl.length) (b := q1) (by omega) (by omega)).mp c_37
            refine lv_iconst (v := (-1)) hx hb d_M_order_49 (by decide +kernel) ?_
            exact W.iret (v := (-1)) hx hb hr (fun t ht hW => ⟨⟨(-1), (nI 0, oT9, oO9, oR9), rfl, ⟨rfl, Or.inr ⟨i1, hi1, rfl, c_15, tl, op, hway, htl4, Or.inl ⟨hopn, Or.inr ⟨q1, hq1, rfl, Or.inr ⟨c_37, rfl⟩⟩⟩⟩⟩, by rw [ht]; exact hP, va_K.moved hW.alike hK, hD⟩, hS.F ht⟩) hS.2.2 d_M_order_50
          · have c_37 : ¬ tl.length ≤ q1 := fun z9 => c_37 ((nI_leI (a := tl.length) (b := q1) (by omega) (by omega)).mpr z9)
            refine lv_aload_n hx hb d_M_order_40 rfl (lv_at hl 1 rfl) ?_
            refine va_get (D := (dC, dI)) (ci := 0) (v := .ref (h 13)) (C := R_M) (T := F_M) (N := 18) hx hb hk k_M_f hown hK hP 0 rfl rfl 16 (by decide) (hk _ k_M_24) (fun _ h9 => h9) rfl d_M_order_41 ?_
            refine lv_iload_n hx hb d_M_order_44 rfl (lv_at hl 3 rfl) ?_
            refine va_iald hx hb hK hP 13 0 rfl rfl (pk_in q1 4 (by omega)) d_M_order_45 ?_
            refine lv_topi (fun z3 ez3 => ?_)
            obtain rfl : z3 = oR9 q1 := ez3.trans (rd (f := oR9) (k := q1) (by omega))
            refine lv_goto (tgt := 50) hx hb d_M_order_46 (by decide) ?_
            obtain ⟨y9, hy9⟩ : ∃ y9, tl[q1]? = some y9 := ⟨_, List.getElem?_eq_getElem (by omega)⟩
            exact W.iret (v := oR9 q1) hx hb hr (fun t ht hW => ⟨⟨oR9 q1, (nI 0, oT9, oO9, oR9), rfl, ⟨rfl, Or.inr ⟨i1, hi1, rfl, c_15, tl, op, hway, htl4, Or.inl ⟨hopn, Or.inr ⟨q1, hq1, rfl, Or.inl ⟨y9, hy9, hR9 q1 y9 hy9⟩⟩⟩⟩⟩, by rw [ht]; exact hP, va_K.moved hW.alike hK, hD⟩, hS.F ht⟩) hS.2.2 d_M_order_50
        · refine lv_iload_n hx hb d_M_order_31 rfl (lv_at hl 0 rfl) ?_
          refine lv_goto (tgt := 50) hx hb d_M_order_32 (by decide) ?_
          exact W.iret (v := nI tl.length) hx hb hr (fun t ht hW => ⟨⟨nI tl.length, (nI 0, oT9, oO9, oR9), rfl, ⟨rfl, Or.inr ⟨i1, hi1, rfl, c_15, tl, op, hway, htl4, Or.inl ⟨hopn, Or.inl ⟨c_28, rfl⟩⟩⟩⟩, by rw [ht]; exact hP, va_K.moved hW.alike hK, hD⟩, hS.F ht⟩) hS.2.2 d_M_order_50
      · subst hr9
        refine lv_istore_n (lv' := [(3, .int (-1)), (0, .ref (h 0)), (1, .int (nI i1)), (2, .int q)]) hx hb d_M_order_25 rfl hl (by decide) rfl (fun ls hl => ?_)
        refine lv_iload_n hx hb d_M_order_26 rfl (lv_at hl 3 rfl) ?_
        refine lv_iconst (v := (-1)) hx hb d_M_order_27 (by decide +kernel) ?_
        refine lv_icmp_ne (tgt := 35) hx hb d_M_order_28 (by decide) (fun c_28 => ?_) (fun c_28 => ?_)
        · refine lv_iload_n hx hb d_M_order_35 rfl (lv_at hl 3 rfl) ?_
          refine lv_iload_n hx hb d_M_order_36 rfl (lv_at hl 0 rfl) ?_
          refine lv_icmp_ge (tgt := 49) hx hb d_M_order_37 (by decide) (fun c_37 => ?_) (fun c_37 => ?_)
          · refine lv_iconst (v := (-1)) hx hb d_M_order_49 (by decide +kernel) ?_
            exact W.iret (v := (-1)) hx hb hr (fun t ht hW => ⟨⟨(-1), (nI 0, oT9, oO9, oR9), rfl, ⟨rfl, Or.inr ⟨i1, hi1, rfl, c_15, tl, op, hway, htl4, Or.inr ⟨hopn, hnon, rfl⟩⟩⟩, by rw [ht]; exact hP, va_K.moved hW.alike hK, hD⟩, hS.F ht⟩) hS.2.2 d_M_order_50
          · exact absurd c_15 c_37
        · refine lv_iload_n hx hb d_M_order_31 rfl (lv_at hl 0 rfl) ?_
          refine lv_goto (tgt := 50) hx hb d_M_order_32 (by decide) ?_
          exact W.iret (v := (-1)) hx hb hr (fun t ht hW => ⟨⟨(-1), (nI 0, oT9, oO9, oR9), rfl, ⟨rfl, Or.inr ⟨i1, hi1, rfl, c_15, tl, op, hway, htl4, Or.inr ⟨hopn, hnon, rfl⟩⟩⟩, by rw [ht]; exact hP, va_K.moved hW.alike hK, hD⟩, hS.F ht⟩) hS.2.2 d_M_order_50
    · refine lv_iconst (v := (-1)) hx hb d_M_order_18 (by decide +kernel) ?_
      have hq9 : ¬ ((∃ i, i < nF ∧ nI i1 = nI i) ∧ (-1 : Int32) ≤ q) := by
        rintro ⟨z1, z2⟩
        first
          | exact hno_f z1
          | exact c_15 z2
      exact W.iret (v := (-1)) hx hb hr (fun t ht hW => ⟨⟨(-1), (nI 0, oT, oO, oR), rfl, ⟨rfl, Or.inl ⟨hq9, rfl⟩⟩, by rw [ht]; exact hP, va_K.moved hW.alike hK, hD⟩, hS.F ht⟩) hS.2.2 d_M_order_19
  · subst hr9
    refine lv_if_eq (tgt := 18) hx hb d_M_order_10 (by decide) (fun _ => ?_) (fun c9 => absurd c9 (by decide +kernel))
    refine lv_iconst (v := (-1)) hx hb d_M_order_18 (by decide +kernel) ?_
    have hq9 : ¬ ((∃ i, i < nF ∧ f = nI i) ∧ (-1 : Int32) ≤ q) := by
      rintro ⟨z1, z2⟩
      first
        | exact hno_f z1
        | exact c_15 z2
    exact W.iret (v := (-1)) hx hb hr (fun t ht hW => ⟨⟨(-1), (nI 0, oT, oO, oR), rfl, ⟨rfl, Or.inl ⟨hq9, rfl⟩⟩, by rw [ht]; exact hP, va_K.moved hW.alike hK, hD⟩, hS.F ht⟩) hS.2.2 d_M_order_19
set_option maxHeartbeats 4000000 in
set_option maxRecDepth 100000 in
theorem m_call (l : Launch) (dC : Nat → ClassId) (dI : Nat → Nat → Nat) (cI cZ : ClassId) (h : Nat → Nat) (sz : Nat) (xt xg : Int32) (aK bF bL bB bA bY bR oT oO oR bS : Nat → Int32) (nF nC : Nat) (pl cf ct : Nat → Nat) (f g q : Int32) (hF : nF ≤ 10) (hC : nC ≤ 20) (hS0 : ∀ c, c < nC → cf c < nF ∧ ct c < nF) (hpl : ∀ i, i < nF → 1 ≤ pl i ∧ pl i ≤ 4) : Met l y_M_call w_M_call ({ frames := 1, cells := 0, slots := 0, locals := 22 }) (va_Pc [.ref (h 0), .int f, .int g, .int q] (fun U => U.heap.size = sz ∧ va_P (dC, dI) kls (wM h cI cZ xt (nI nF) (nI nC) xg (fun c => nI (pl c)) (fun c => nI (cf c)) (fun c => nI (ct c)) aK bF bL bB bA bY bR oT oO oR bS) U.heap ∧ va_K (dC, dI) kls (tyM cI cZ) U ∧ va_D (fun _ => True) (wM h cI cZ xt (nI nF) (nI nC) xg (fun c => nI (pl c)) (fun c => nI (cf c)) (fun c => nI (ct c)) aK bF bL bB bA bY bR oT oO oR bS))) (va_Qi (fun (r : Int32) (u : Int32 × Int32 × (Nat → Int32) × (Nat → Int32) × (Nat → Int32)) => ((¬ ((∃ i, i < nF ∧ f = nI i) ∧ (∃ j, j < nF ∧ g = nI j))) ∧ u.1 = nI 1 ∧ u.2.1 = nI nC ∧ u.2.2.1 = (fun c => nI (cf c)) ∧ u.2.2.2.1 = (fun c => nI (ct c)) ∧ u.2.2.2.2 = aK) ∨ (((∃ i, i < nF ∧ f = nI i) ∧ (∃ j, j < nF ∧ g = nI j)) ∧ nC = 20 ∧ u.1 = nI 2 ∧ u.2.1 = nI nC ∧ u.2.2.1 = (fun c => nI (cf c)) ∧ u.2.2.2.1 = (fun c => nI (ct c)) ∧ u.2.2.2.2 = aK) ∨ ∃ i j, i < nF ∧ j < nF ∧ f = nI i ∧ g = nI j ∧ nC < 20 ∧ u.1 = nI 0 ∧ u.2.1 = nI (nC + 1) ∧ u.2.2.1 = (fun c => nI (updN cf nC i c)) ∧ u.2.2.2.1 = (fun c => nI (updN ct nC j c)) ∧ u.2.2.2.2 = upd aK nC (clR q (pl i) (pl j)) ∧ r = nI nC) (fun (u : Int32 × Int32 × (Nat → Int32) × (Nat → Int32) × (Nat → Int32)) (t : State) => va_P (dC, dI) kls (wM h cI cZ u.1 (nI nF) u.2.1 xg (fun c => nI (pl c)) u.2.2.1 u.2.2.2.1 u.2.2.2.2 bF bL bB bA bY bR oT oO oR bS) t.heap ∧ va_K (dC, dI) kls (tyM cI cZ) t ∧ va_D (va_A (wM h cI cZ xt (nI nF) (nI nC) xg (fun c => nI (pl c)) (fun c => nI (cf c)) (fun c => nI (ct c)) aK bF bL bB bA bY bR oT oO oR bS) sz) (wM h cI cZ u.1 (nI nF) u.2.1 xg (fun c => nI (pl c)) u.2.2.1 u.2.2.2.1 u.2.2.2.2 bF bL bB bA bY bR oT oO oR bS)) (va_A (wM h cI cZ xt (nI nF) (nI nC) xg (fun c => nI (pl c)) (fun c => nI (cf c)) (fun c => nI (ct c)) aK bF bL bB bA bY bR oT oO oR bS) sz)) 0 0 (va_A (wM h cI cZ xt (nI nF) (nI nC) xg (fun c => nI (pl c)) (fun c => nI (cf c)) (fun c => nI (ct c)) aK bF bL bB bA bY bR oT oO oR bS) sz) := by
  refine Met.ofW (cc := c_M_call) (maxL := 8) (ret := (some .int)) (by decide) rfl ?_
  intro p e s m args below meth c s₁ B hml hv
  obtain ⟨rfl, hsz, hP, hK, hD0⟩ := hv
  have hx := B.exec
  have hb := B.bytes
  have hr := B.returns
  have hts := atoms_spec (ws := w_M_call) B.pre
  have hk : ∀ w ∈ wMw, w.before _ s = true := fun w h => hts w (List.mem_cons_of_mem _ h)
  have hown : s.vm.findClass R_M = some m.cls := findClass_of_methodNamed B.named
  have hlocks := B.notSynchronized
  subst hsz
  have hD := hD0.self (sz := s.heap.size)
  generalize hAe : va_A (wM h cI cZ xt (nI nF) (nI nC) xg (fun c => nI (pl c)) (fun c => nI (cf c)) (fun c => nI (ct c)) aK bF bL bB bA bY bR oT oO oR bS) s.heap.size = A at hD ⊢
  have hA : ∀ q : Nat, s.heap.size ≤ q → A q := fun q h => by rw [← hAe]; exact Or.inr h
  have hS : va_S A s.heap s.heap [] := va_S.rf
  have hl := lv_entry ([.ref (h 0), .int f, .int g, .int q]) (n := 8) (Nat.le_of_ble_eq_true rfl)
  rw [lg_entry_eq]
  generalize (lg_sl ([.ref (h 0), .int f, .int g, .int q]) ++ List.replicate (8 - (lg_sl ([.ref (h 0), .int f, .int g, .int q])).length) Slot.unset).toArray = ls at hl ⊢
  have hl : lv_has ls 8 [(0, .ref (h 0)), (1, .int f), (2, .int g), (3, .int q)] := hl
  refine lv_aload_n hx hb d_M_call_0 rfl (lv_at hl 0 rfl) ?_
  refine lv_aload_n hx hb d_M_call_1 rfl (lv_at hl 0 rfl) ?_
  refine lv_iload_n hx hb d_M_call_2 rfl (lv_at hl 1 rfl) ?_
  have hFc := va_free (wc := wM h cI cZ xt (nI nF) (nI nC) xg (fun c => nI (pl c)) (fun c => nI (cf c)) (fun c => nI (ct c)) aK bF bL bB bA bY bR oT oO oR bS) hD hS hA [0, 1, 2, 3, 4, 5, 6, 7, 8, 9, 10, 11, 12, 13, 14] rfl
  refine va_calli (va_runV (As := [.int f]) (rest := [.ref (h 0)]) ⟨hx, hb, hml, hown, hk⟩ (m_isFunction l dC dI cI cZ h s.heap.size xt (nI nC) xg (fun c => nI (pl c)) (fun c => nI (cf c)) (fun c => nI (ct c)) aK bF bL bB bA bY bR oT oO oR bS nF f (by omega)) (cwV 1 hk g_M_isFunction rfl rfl rfl (by decide +kernel) ⟨Nat.le_of_ble_eq_true rfl, Nat.le_of_ble_eq_true rfl⟩) ⟨fun a U g mk q => by obtain ⟨q0, q1, qP, qK, qD⟩ := q; exact ⟨q0, q1, qP, va_K.moved (u := U) (U := U.calling g mk a) (Vm.Alike.refl U.vm) qK, qD⟩, va_recv hK hP (ci := 0) (q0 := 0) rfl rfl, fun U hU hW => ⟨rfl, by rw [hU], by rw [hU]; exact hP, va_K.moved hW.alike hK, hD.weaken (fun _ _ _ _ => trivial)⟩⟩ rfl rfl hl.1 rfl (lv_room (Nat.le_of_ble_eq_true rfl)) d_M_call_3 ⟨Nat.le_of_ble_eq_true rfl, Nat.le_of_ble_eq_true rfl⟩) hS (fun q _ h => hFc q h) hFc (fun r1 u9 t H1 locs ht hvm hw hB hz1 hk1 hS => ?_)
  obtain ⟨hP1, hK1, hD1⟩ := hB
  rw [ht] at hP1
  try dsimp only at hw
  obtain ⟨hP, hD⟩ := va_join (wr := []) (w1 := wM h cI cZ xt (nI nF) (nI nC) xg (fun c => nI (pl c)) (fun c => nI (cf c)) (fun c => nI (ct c)) aK bF bL bB bA bY bR oT oO oR bS) hP hD [0, 1, 2, 3, 4, 5, 6, 7, 8, 9, 10, 11, 12, 13, 14] [] rfl rfl (by decide) (by decide) hk1 hFc hP1 hD1
  generalize H1 = H at hP hS ⊢
  have hP : va_P (dC, dI) kls (wM h cI cZ xt (nI nF) (nI nC) xg (fun c => nI (pl c)) (fun c => nI (cf c)) (fun c => nI (ct c)) aK bF bL bB bA bY bR oT oO oR bS) H := hP
  have hD : va_D A (wM h cI cZ xt (nI nF) (nI nC) xg (fun c => nI (pl c)) (fun c => nI (cf c)) (fun c => nI (ct c)) aK bF bL bB bA bY bR oT oO oR bS) := hD
  rcases hw with ⟨hr9, i1, hi1, hfj⟩ | ⟨hr9, hno_f⟩
  · subst hr9
    subst hfj
    refine lv_if_eq (tgt := 17) hx hb d_M_call_6 (by decide) (fun c9 => absurd c9 (by decide +kernel)) (fun _ => ?_)
    refine lv_aload_n hx hb d_M_call_9 rfl (lv_at hl 0 rfl) ?_
    refine lv_iload_n hx hb d_M_call_10 rfl (lv_at hl 2 rfl) ?_
    have hFc := va_free (wc := wM h cI cZ xt (nI nF) (nI nC) xg (fun c => nI (pl c)) (fun c => nI (cf c)) (fun c => nI (ct c)) aK bF bL bB bA bY bR oT oO oR bS) hD hS hA [0, 1, 2, 3, 4, 5, 6, 7, 8, 9, 10, 11, 12, 13, 14] rfl
    refine va_calli (va_runV (As := [.int g]) (rest := [.ref (h 0)]) ⟨hx, hb, hml, hown, hk⟩ (m_isFunction l dC dI cI cZ h H.size xt (nI nC) xg (fun c => nI (pl c)) (fun c => nI (cf c)) (fun c => nI (ct c)) aK bF bL bB bA bY bR oT oO oR bS nF g (by omega)) (cwV 1 hk g_M_isFunction rfl rfl rfl (by decide +kernel) ⟨Nat.le_of_ble_eq_true rfl, Nat.le_of_ble_eq_true rfl⟩) ⟨fun a U g mk q => by obtain ⟨q0, q1, qP, qK, qD⟩ := q; exact ⟨q0, q1, qP, va_K.moved (u := U) (U := U.calling g mk a) (Vm.Alike.refl U.vm) qK, qD⟩, va_recv hK hP (ci := 0) (q0 := 0) rfl rfl, fun U hU hW => ⟨rfl, by rw [hU], by rw [hU]; exact hP, va_K.moved hW.alike hK, hD.weaken (fun _ _ _ _ => trivial)⟩⟩ rfl rfl hl.1 rfl (lv_room (Nat.le_of_ble_eq_true rfl)) d_M_call_11 ⟨Nat.le_of_ble_eq_true rfl, Nat.le_of_ble_eq_true rfl⟩) hS (fun q _ h => hFc q h) hFc (fun r2 u9 t H1 locs ht hvm hw hB hz1 hk1 hS => ?_)
    obtain ⟨hP1, hK1, hD1⟩ := hB
    rw [ht] at hP1
    try dsimp only at hw
    obtain ⟨hP, hD⟩ := va_join (wr := []) (w1 := wM h cI cZ xt (nI nF) (nI nC) xg (fun c => nI (pl c)) (fun c => nI (cf c)) (fun c => nI (ct c)) aK bF bL bB bA bY bR oT oO oR bS) hP hD [0, 1, 2, 3, 4, 5, 6, 7, 8, 9, 10, 11, 12, 13, 14] [] rfl rfl (by decide) (by decide) hk1 hFc hP1 hD1
    generalize H1 = H at hP hS ⊢
    have hP : va_P (dC, dI) kls (wM h cI cZ xt (nI nF) (nI nC) xg (fun c => nI (pl c)) (fun c => nI (cf c)) (fun c => nI (ct c)) aK bF bL bB bA bY bR oT oO oR bS) H := hP
    have hD : va_D A (wM h cI cZ xt (nI nF) (nI nC) xg (fun c => nI (pl c)) (fun c => nI (cf c)) (fun c => nI (ct c)) aK bF bL bB bA bY bR oT oO oR bS) := hD
    rcases hw with ⟨hr9, j1, hj1, hfj⟩ | ⟨hr9, hno_g⟩
    · subst hr9
      subst hfj
      refine lv_if_ne (tgt := 21) hx hb d_M_call_14 (by decide) (fun _ => ?_) (fun c9 => absurd c9 (by decide +kernel))
      refine lv_aload_n hx hb d_M_call_21 rfl (lv_at hl 0 rfl) ?_
      refine va_get (D := (dC, dI)) (ci := 0) (v := .int (nI nC)) (C := R_M) (T := F_M) (N := 18) hx hb hk k_M_f hown hK hP 0 rfl rfl 2 (by decide) (hk _ k_M_10) (fun _ h9 => h9) rfl d_M_call_22 ?_
      refine lv_bipush (v := nI 20) hx hb d_M_call_25 (by decide +kernel) ?_
      refine lv_icmp_ne (tgt := 34) hx hb d_M_call_27 (by decide) (fun c_27 => ?_) (fun c_27 => ?_)
      · have c_27 : ¬ nC = 20 := fun z9 => c_27 ((nI_eq (a := nC) (b := 20) (by omega) (by omega)).mpr z9)
        refine lv_iconst (v := nI 0) hx hb d_M_call_34 (by decide +kernel) ?_
        refine va_put (D := (dC, dI)) (ci := 0) (v := .int (nI 0)) (ty := .int) (C := R_M) (T := F_M) (N := 18) hx hb hk k_M_f t_M t_M_ok n_M hown hK hP hD hS 0 rfl rfl 0 (by decide) (hk _ k_M_8) (fun _ h9 => h9) rfl (by decide +kernel) rfl rfl (Nat.le_of_ble_eq_true rfl) d_M_call_35 (fun H locs hP hD hS => ?_)
        have hP : va_P (dC, dI) kls (wM h cI cZ (nI 0) (nI nF) (nI nC) xg (fun c => nI (pl c)) (fun c => nI (cf c)) (fun c => nI (ct c)) aK bF bL bB bA bY bR oT oO oR bS) H := hP
        have hD : va_D A (wM h cI cZ (nI 0) (nI nF) (nI nC) xg (fun c => nI (pl c)) (fun c => nI (cf c)) (fun c => nI (ct c)) aK bF bL bB bA bY bR oT oO oR bS) := hD
        refine lv_aload_n hx hb d_M_call_38 rfl (lv_at hl 0 rfl) ?_
        refine va_get (D := (dC, dI)) (ci := 0) (v := .int (nI 0)) (C := R_M) (T := F_M) (N := 18) hx hb hk k_M_f hown hK hP 0 rfl rfl 0 (by decide) (hk _ k_M_8) (fun _ h9 => h9) rfl d_M_call_39 ?_
        refine lv_if_le (tgt := 47) hx hb d_M_call_42 (by decide) (fun _ => ?_) (fun c9 => absurd c9 (by decide +kernel))
        have hp1 := hpl i1 hi1
        have hp2 := hpl j1 hj1
        refine lv_iconst (v := nI 0) hx hb d_M_call_47 (by decide +kernel) ?_
        refine lv_istore (lv' := [(4, .int (nI 0)), (0, .ref (h 0)), (1, .int (nI i1)), (2, .int (nI j1)), (3, .int q)]) hx hb d_M_call_48 hl (by decide) rfl (fun ls hl => ?_)
        refine lv_iconst (v := nI 0) hx hb d_M_call_50 (by decide +kernel) ?_
        refine lv_istore (lv' := [(5, .int (nI 0)), (4, .int (nI 0)), (0, .ref (h 0)), (1, .int (nI i1)), (2, .int (nI j1)), (3, .int q)]) hx hb d_M_call_51 hl (by decide) rfl (fun ls hl => ?_)
        have lp1 : ∀ (n_lp1 : Nat) (i : Nat), (i ≤ pl i1) → pl i1 - i < n_lp1 → ∀ (H : Heap) (locs : List Loc) (ls : Array Slot), va_P (dC, dI) kls (wM h cI cZ (nI 0) (nI nF) (nI nC) xg (fun c => nI (pl c)) (fun c => nI (cf c)) (fun c => nI (ct c)) aK bF bL bB bA bY bR oT oO oR bS) H → va_D A (wM h cI cZ (nI 0) (nI nF) (nI nC) xg (fun c => nI (pl c)) (fun c => nI (cf c)) (fun c => nI (ct c)) aK bF bL bB bA bY bR oT oO oR bS) → va_S A s.heap H locs → lv_has ls 8 [(0, .ref (h 0)), (1, .int (nI i1)), (2, .int (nI j1)), (3, .int q), (4, .int (pkI (fun x y => v3 (atN q x y)) (pl j1) i)), (5, .int (nI i))] → W p l e (headSpec w_M_call ({ frames := 1, cells := 0, slots := 0, locals := 22 })).room s m ([.ref (h 0), .int (nI i1), .int (nI j1), .int q]).toArray below meth c H locs 0 0 (MQ below (va_Qi (fun (r : Int32) (u : Int32 × Int32 × (Nat → Int32) × (Nat → Int32) × (Nat → Int32)) => ((¬ ((∃ i, i < nF ∧ (nI i1) = nI i) ∧ (∃ j, j < nF ∧ (nI j1) = nI j))) ∧ u.1 = nI 1 ∧ u.2.1 = nI nC ∧ u.2.2.1 = (fun c => nI (cf c)) ∧ u.2.2.2.1 = (fun c => nI (ct c)) ∧ u.2.2.2.2 = aK) ∨ (((∃ i, i < nF ∧ (nI i1) = nI i) ∧ (∃ j, j < nF ∧ (nI j1) = nI j)) ∧ nC = 20 ∧ u.1 = nI 2 ∧ u.2.1 = nI nC ∧ u.2.2.1 = (fun c => nI (cf c)) ∧ u.2.2.2.1 = (fun c => nI (ct c)) ∧ u.2.2.2.2 = aK) ∨ ∃ i j, i < nF ∧ j < nF ∧ (nI i1) = nI i ∧ (nI j1) = nI j ∧ nC < 20 ∧ u.1 = nI 0 ∧ u.2.1 = nI (nC + 1) ∧ u.2.2.1 = (fun c => nI (updN cf nC i c)) ∧ u.2.2.2.1 = (fun c => nI (updN ct nC j c)) ∧ u.2.2.2.2 = upd aK nC (clR q (pl i) (pl j)) ∧ r = nI nC) (fun (u : Int32 × Int32 × (Nat → Int32) × (Nat → Int32) × (Nat → Int32)) (t : State) => va_P (dC, dI) kls (wM h cI cZ u.1 (nI nF) u.2.1 xg (fun c => nI (pl c)) u.2.2.1 u.2.2.2.1 u.2.2.2.2 bF bL bB bA bY bR oT oO oR bS) t.heap ∧ va_K (dC, dI) kls (tyM cI cZ) t ∧ va_D (A) (wM h cI cZ u.1 (nI nF) u.2.1 xg (fun c => nI (pl c)) u.2.2.1 u.2.2.2.1 u.2.2.2.2 bF bL bB bA bY bR oT oO oR bS)) A) ([.ref (h 0), .int (nI i1), .int (nI j1), .int q]).toArray s 0 0 A) (F0 m 53 ls []) := by
          intro n_lp1
          induction n_lp1 with
          | zero => intro i hi hn; exact absurd hn (Nat.not_lt_zero _)
          | succ n_lp1 ih_lp1 =>
            intro i hi hn H locs ls hP hD hS hl
            refine lv_iload hx hb d_M_call_53 (lv_at hl 5 rfl) ?_
            refine lv_aload_n hx hb d_M_call_55 rfl (lv_at hl 0 rfl) ?_
            refine va_get (D := (dC, dI)) (ci := 0) (v := .ref (h 1)) (C := R_M) (T := F_M) (N := 18) hx hb hk k_M_f hown hK hP 0 rfl rfl 3 (by decide) (hk _ k_M_11) (fun _ h9 => h9) rfl d_M_call_56 ?_
            refine lv_iload_n hx hb d_M_call_59 rfl (lv_at hl 1 rfl) ?_
            refine va_iald hx hb hK hP 1 0 rfl rfl (pk_in i1 10 (by omega)) d_M_call_60 ?_
            refine lv_topi (fun z3 ez3 => ?_)
            obtain rfl : z3 = nI (pl i1) := ez3.trans (rd (f := fun c => nI (pl c)) (k := i1) (by omega))
            refine lv_icmp_ge (tgt := 128) hx hb d_M_call_61 (by decide) (fun c_61 => ?_) (fun c_61 => ?_)
            · have c_61 : pl i1 ≤ i := (nI_leI (a := pl i1) (b := i) (by omega) (by omega)).mp c_61
              have hie : i = pl i1 := by omega
              subst hie
              refine lv_aload_n hx hb d_M_call_128 rfl (lv_at hl 0 rfl) ?_
              refine va_get (D := (dC, dI)) (ci := 0) (v := .ref (h 2)) (C := R_M) (T := F_M) (N := 18) hx hb hk k_M_f hown hK hP 0 rfl rfl 4 (by decide) (hk _ k_M_12) (fun _ h9 => h9) rfl d_M_call_129 ?_
              refine lv_aload_n hx hb d_M_call_132 rfl (lv_at hl 0 rfl) ?_
              refine va_get (D := (dC, dI)) (ci := 0) (v := .int (nI nC)) (C := R_M) (T := F_M) (N := 18) hx hb hk k_M_f hown hK hP 0 rfl rfl 2 (by decide) (hk _ k_M_10) (fun _ h9 => h9) rfl d_M_call_133 ?_
              refine lv_iload_n hx hb d_M_call_136 rfl (lv_at hl 1 rfl) ?_
              refine va_iast hx hb hK hP hD hS 2 0 rfl rfl (pk_in nC 20 (by omega)) d_M_call_137 (fun H locs hP hD hS => ?_)
              rw [nI_clamp (n := nC) (by omega)] at hP hD
              rw [updN_eq] at hP hD
              have hP : va_P (dC, dI) kls (wM h cI cZ (nI 0) (nI nF) (nI nC) xg (fun c => nI (pl c)) (fun c => nI (updN cf nC i1 c)) (fun c => nI (ct c)) aK bF bL bB bA bY bR oT oO oR bS) H := hP
              have hD : va_D A (wM h cI cZ (nI 0) (nI nF) (nI nC) xg (fun c => nI (pl c)) (fun c => nI (updN cf nC i1 c)) (fun c => nI (ct c)) aK bF bL bB bA bY bR oT oO oR bS) := hD
              refine lv_aload_n hx hb d_M_call_138 rfl (lv_at hl 0 rfl) ?_
              refine va_get (D := (dC, dI)) (ci := 0) (v := .ref (h 3)) (C := R_M) (T := F_M) (N := 18) hx hb hk k_M_f hown hK hP 0 rfl rfl 5 (by decide) (hk _ k_M_13) (fun _ h9 => h9) rfl d_M_call_139 ?_
              refine lv_aload_n hx hb d_M_call_142 rfl (lv_at hl 0 rfl) ?_
              refine va_get (D := (dC, dI)) (ci := 0) (v := .int (nI nC)) (C := R_M) (T := F_M) (N := 18) hx hb hk k_M_f hown hK hP 0 rfl rfl 2 (by decide) (hk _ k_M_10) (fun _ h9 => h9) rfl d_M_call_143 ?_
              refine lv_iload_n hx hb d_M_call_146 rfl (lv_at hl 2 rfl) ?_
              refine va_iast hx hb hK hP hD hS 3 0 rfl rfl (pk_in nC 20 (by omega)) d_M_call_147 (fun H locs hP hD hS => ?_)
              rw [nI_clamp (n := nC) (by omega)] at hP hD
              rw [updN_eq] at hP hD
              have hP : va_P (dC, dI) kls (wM h cI cZ (nI 0) (nI nF) (nI nC) xg (fun c => nI (pl c)) (fun c => nI (updN cf nC i1 c)) (fun c => nI (updN ct nC j1 c)) aK bF bL bB bA bY bR oT oO oR bS) H := hP
              have hD : va_D A (wM h cI cZ (nI 0) (nI nF) (nI nC) xg (fun c => nI (pl c)) (fun c => nI (updN cf nC i1 c)) (fun c => nI (updN ct nC j1 c)) aK bF bL bB bA bY bR oT oO oR bS) := hD
              refine lv_aload_n hx hb d_M_call_148 rfl (lv_at hl 0 rfl) ?_
              refine va_get (D := (dC, dI)) (ci := 0) (v := .ref (h 4)) (C := R_M) (T := F_M) (N := 18) hx hb hk k_M_f hown hK hP 0 rfl rfl 6 (by decide) (hk _ k_M_14) (fun _ h9 => h9) rfl d_M_call_149 ?_
              refine lv_aload_n hx hb d_M_call_152 rfl (lv_at hl 0 rfl) ?_
              refine va_get (D := (dC, dI)) (ci := 0) (v := .int (nI nC)) (C := R_M) (T := F_M) (N := 18) hx hb hk k_M_f hown hK hP 0 rfl rfl 2 (by decide) (hk _ k_M_10) (fun _ h9 => h9) rfl d_M_call_153 ?_
              refine lv_iload hx hb d_M_call_156 (lv_at hl 4 rfl) ?_
              refine va_iast hx hb hK hP hD hS 4 0 rfl rfl (pk_in nC 20 (by omega)) d_M_call_158 (fun H locs hP hD hS => ?_)
              rw [nI_clamp (n := nC) (by omega)] at hP hD
              have hP : va_P (dC, dI) kls (wM h cI cZ (nI 0) (nI nF) (nI nC) xg (fun c => nI (pl c)) (fun c => nI (updN cf nC i1 c)) (fun c => nI (updN ct nC j1 c)) (upd aK nC (pkI (fun x y => v3 (atN q x y)) (pl j1) (pl i1))) bF bL bB bA bY bR oT oO oR bS) H := hP
              have hD : va_D A (wM h cI cZ (nI 0) (nI nF) (nI nC) xg (fun c => nI (pl c)) (fun c => nI (updN cf nC i1 c)) (fun c => nI (updN ct nC j1 c)) (upd aK nC (pkI (fun x y => v3 (atN q x y)) (pl j1) (pl i1))) bF bL bB bA bY bR oT oO oR bS) := hD
              refine lv_aload_n hx hb d_M_call_159 rfl (lv_at hl 0 rfl) ?_
              refine lv_dup hx hb d_M_call_160 rfl ?_
              refine va_get (D := (dC, dI)) (ci := 0) (v := .int (nI nC)) (C := R_M) (T := F_M) (N := 18) hx hb hk k_M_f hown hK hP 0 rfl rfl 2 (by decide) (hk _ k_M_10) (fun _ h9 => h9) rfl d_M_call_161 ?_
              refine lv_iconst (v := nI 1) hx hb d_M_call_164 (by decide +kernel) ?_
              refine lv_iadd hx hb d_M_call_165 ?_
              refine lv_topi (fun z4 ez4 => ?_)
              obtain rfl : z4 = nI (nC + 1) := ez4.trans (nI_add _ _)
              refine va_put (D := (dC, dI)) (ci := 0) (v := .int (nI (nC + 1))) (ty := .int) (C := R_M) (T := F_M) (N := 18) hx hb hk k_M_f t_M t_M_ok n_M hown hK hP hD hS 0 rfl rfl 2 (by decide) (hk _ k_M_10) (fun _ h9 => h9) rfl (by decide +kernel) rfl rfl (Nat.le_of_ble_eq_true rfl) d_M_call_166 (fun H locs hP hD hS => ?_)
              have hP : va_P (dC, dI) kls (wM h cI cZ (nI 0) (nI nF) (nI (nC + 1)) xg (fun c => nI (pl c)) (fun c => nI (updN cf nC i1 c)) (fun c => nI (updN ct nC j1 c)) (upd aK nC (pkI (fun x y => v3 (atN q x y)) (pl j1) (pl i1))) bF bL bB bA bY bR oT oO oR bS) H := hP
              have hD : va_D A (wM h cI cZ (nI 0) (nI nF) (nI (nC + 1)) xg (fun c => nI (pl c)) (fun c => nI (updN cf nC i1 c)) (fun c => nI (updN ct nC j1 c)) (upd aK nC (pkI (fun x y => v3 (atN q x y)) (pl j1) (pl i1))) bF bL bB bA bY bR oT oO oR bS) := hD
              refine lv_aload_n hx hb d_M_call_169 rfl (lv_at hl 0 rfl) ?_
              refine va_get (D := (dC, dI)) (ci := 0) (v := .int (nI (nC + 1))) (C := R_M) (T := F_M) (N := 18) hx hb hk k_M_f hown hK hP 0 rfl rfl 2 (by decide) (hk _ k_M_10) (fun _ h9 => h9) rfl d_M_call_170 ?_
              refine lv_iconst (v := nI 1) hx hb d_M_call_173 (by decide +kernel) ?_
              refine lv_isub hx hb d_M_call_174 ?_
              refine lv_topi (fun z5 ez5 => ?_)
              obtain rfl : z5 = nI nC := ez5.trans (pk_sub (by omega))
              exact W.iret (v := nI nC) hx hb hr (fun t ht hW => ⟨⟨nI nC, (nI 0, nI (nC + 1), fun c => nI (updN cf nC i1 c), fun c => nI (updN ct nC j1 c), upd aK nC (pkI (fun x y => v3 (atN q x y)) (pl j1) (pl i1))), rfl, Or.inr (Or.inr ⟨i1, j1, hi1, hj1, rfl, rfl, by omega, rfl, rfl, rfl, rfl, rfl, rfl⟩), by rw [ht]; exact hP, va_K.moved hW.alike hK, hD⟩, hS.F ht⟩) hS.2.2 d_M_call_175
            · have c_61 : ¬ pl i1 ≤ i := fun z9 => c_61 ((nI_leI (a := pl i1) (b := i) (by omega) (by omega)).mpr z9)
              refine lv_iconst (v := nI 0) hx hb d_M_call_64 (by decide +kernel) ?_
              refine lv_istore (lv' := [(6, .int (nI 0)), (0, .ref (h 0)), (1, .int (nI i1)), (2, .int (nI j1)), (3, .int q), (4, .int (pkI (fun x y => v3 (atN q x y)) (pl j1) i)), (5, .int (nI i))]) hx hb d_M_call_65 hl (by decide) rfl (fun ls hl => ?_)
              have lp2 : ∀ (n_lp2 : Nat) (j : Nat), (j ≤ pl j1) → pl j1 - j < n_lp2 → ∀ (H : Heap) (locs : List Loc) (ls : Array Slot), va_P (dC, dI) kls (wM h cI cZ (nI 0) (nI nF) (nI nC) xg (fun c => nI (pl c)) (fun c => nI (cf c)) (fun c => nI (ct c)) aK bF bL bB bA bY bR oT oO oR bS) H → va_D A (wM h cI cZ (nI 0) (nI nF) (nI nC) xg (fun c => nI (pl c)) (fun c => nI (cf c)) (fun c => nI (ct c)) aK bF bL bB bA bY bR oT oO oR bS) → va_S A s.heap H locs → lv_has ls 8 [(0, .ref (h 0)), (1, .int (nI i1)), (2, .int (nI j1)), (3, .int q), (4, .int (pkK (fun y => v3 (atN q i y)) i (pkI (fun x y => v3 (atN q x y)) (pl j1) i) j)), (5, .int (nI i)), (6, .int (nI j))] → W p l e (headSpec w_M_call ({ frames := 1, cells := 0, slots := 0, locals := 22 })).room s m ([.ref (h 0), .int (nI i1), .int (nI j1), .int q]).toArray below meth c H locs 0 0 (MQ below (va_Qi (fun (r : Int32) (u : Int32 × Int32 × (Nat → Int32) × (Nat → Int32) × (Nat → Int32)) => ((¬ ((∃ i, i < nF ∧ (nI i1) = nI i) ∧ (∃ j, j < nF ∧ (nI j1) = nI j))) ∧ u.1 = nI 1 ∧ u.2.1 = nI nC ∧ u.2.2.1 = (fun c => nI (cf c)) ∧ u.2.2.2.1 = (fun c => nI (ct c)) ∧ u.2.2.2.2 = aK) ∨ (((∃ i, i < nF ∧ (nI i1) = nI i) ∧ (∃ j, j < nF ∧ (nI j1) = nI j)) ∧ nC = 20 ∧ u.1 = nI 2 ∧ u.2.1 = nI nC ∧ u.2.2.1 = (fun c => nI (cf c)) ∧ u.2.2.2.1 = (fun c => nI (ct c)) ∧ u.2.2.2.2 = aK) ∨ ∃ i j, i < nF ∧ j < nF ∧ (nI i1) = nI i ∧ (nI j1) = nI j ∧ nC < 20 ∧ u.1 = nI 0 ∧ u.2.1 = nI (nC + 1) ∧ u.2.2.1 = (fun c => nI (updN cf nC i c)) ∧ u.2.2.2.1 = (fun c => nI (updN ct nC j c)) ∧ u.2.2.2.2 = upd aK nC (clR q (pl i) (pl j)) ∧ r = nI nC) (fun (u : Int32 × Int32 × (Nat → Int32) × (Nat → Int32) × (Nat → Int32)) (t : State) => va_P (dC, dI) kls (wM h cI cZ u.1 (nI nF) u.2.1 xg (fun c => nI (pl c)) u.2.2.1 u.2.2.2.1 u.2.2.2.2 bF bL bB bA bY bR oT oO oR bS) t.heap ∧ va_K (dC, dI) kls (tyM cI cZ) t ∧ va_D (A) (wM h cI cZ u.1 (nI nF) u.2.1 xg (fun c => nI (pl c)) u.2.2.1 u.2.2.2.1 u.2.2.2.2 bF bL bB bA bY bR oT oO oR bS)) A) ([.ref (h 0), .int (nI i1), .int (nI j1), .int q]).toArray s 0 0 A) (F0 m 67 ls []) := by
                intro n_lp2
                induction n_lp2 with
                | zero => intro j hj hn; exact absurd hn (Nat.not_lt_zero _)
                | succ n_lp2 ih_lp2 =>
                  intro j hj hn H locs ls hP hD hS hl
                  refine lv_iload hx hb d_M_call_67 (lv_at hl 6 rfl) ?_
                  refine lv_aload_n hx hb d_M_call_69 rfl (lv_at hl 0 rfl) ?_
                  refine va_get (D := (dC, dI)) (ci := 0) (v := .ref (h 1)) (C := R_M) (T := F_M) (N := 18) hx hb hk k_M_f hown hK hP 0 rfl rfl 3 (by decide) (hk _ k_M_11) (fun _ h9 => h9) rfl d_M_call_70 ?_
                  refine lv_iload_n hx hb d_M_call_73 rfl (lv_at hl 2 rfl) ?_
                  refine va_iald hx hb hK hP 1 0 rfl rfl (pk_in j1 10 (by omega)) d_M_call_74 ?_
                  refine lv_topi (fun z6 ez6 => ?_)
                  obtain rfl : z6 = nI (pl j1) := ez6.trans (rd (f := fun c => nI (pl c)) (k := j1) (by omega))
                  refine lv_icmp_ge (tgt := 122) hx hb d_M_call_75 (by decide) (fun c_75 => ?_) (fun c_75 => ?_)
                  · have c_75 : pl j1 ≤ j := (nI_leI (a := pl j1) (b := j) (by omega) (by omega)).mp c_75
                    have hje : j = pl j1 := by omega
                    subst hje
                    refine lv_iinc (v := nI (i + 1)) (lv' := [(5, .int (nI (i + 1))), (0, .ref (h 0)), (1, .int (nI i1)), (2, .int (nI j1)), (3, .int q), (4, .int (pkK (fun y => v3 (atN q i y)) i (pkI (fun x y => v3 (atN q x y)) (pl j1) i) (pl j1))), (6, .int (nI (pl j1)))]) hx hb d_M_call_122 hl (k := 5) rfl (nI_add i 1) (by decide) rfl (fun ls hl => ?_)
                    refine lv_goto (tgt := 53) hx hb d_M_call_125 (by decide) ?_
                    exact ih_lp1 (i + 1) (by omega) (by omega) _ _ _ hP hD hS (lv_sub hl [1, 2, 3, 4, 5, 0] rfl)
                  · have c_75 : ¬ pl j1 ≤ j := fun z9 => c_75 ((nI_leI (a := pl j1) (b := j) (by omega) (by omega)).mpr z9)
                    refine lv_iload_n hx hb d_M_call_78 rfl (lv_at hl 3 rfl) ?_
                    refine lv_iload hx hb d_M_call_79 (lv_at hl 5 rfl) ?_
                    refine lv_iload hx hb d_M_call_81 (lv_at hl 6 rfl) ?_
                    refine vp_callSi (W.runS (As := [.int q, .int (nI i), .int (nI j)]) (rest := []) ⟨hx, hb, hml, hown, hk⟩ (m_at l q i j (by omega) (by omega)) (cwS 3 hk g_M_at rfl rfl rfl (by decide +kernel) ⟨Nat.le_of_ble_eq_true rfl, Nat.le_of_ble_eq_true rfl⟩) ⟨fun a U g mk q => q, fun U hU hW => ⟨rfl, trivial⟩⟩ rfl rfl hl.1 rfl (lv_room (Nat.le_of_ble_eq_true rfl)) d_M_call_83 ⟨Nat.le_of_ble_eq_true rfl, Nat.le_of_ble_eq_true rfl⟩) (fun r7 hw => ?_)
                    subst hw
                    refine lv_istore (lv' := [(7, .int (nI (atN q i j))), (0, .ref (h 0)), (1, .int (nI i1)), (2, .int (nI j1)), (3, .int q), (4, .int (pkK (fun y => v3 (atN q i y)) i (pkI (fun x y => v3 (atN q x y)) (pl j1) i) j)), (5, .int (nI i)), (6, .int (nI j))]) hx hb d_M_call_86 hl (by decide) rfl (fun ls hl => ?_)
                    have hat := atN_lt q i j
                    refine lv_iload hx hb d_M_call_88 (lv_at hl 5 rfl) ?_
                    refine lv_iload hx hb d_M_call_90 (lv_at hl 0 rfl) ?_
                    refine lv_iconst (v := nI 3) hx hb d_M_call_92 (by decide +kernel) ?_
                    refine lv_icmp_ne (tgt := 100) hx hb d_M_call_93 (by decide) (fun c_93 => ?_) (fun c_93 => ?_)
                    · have c_93 : ¬ atN q i j = 3 := fun z9 => c_93 ((nI_eq (a := atN q i j) (b := 3) (by omega) (by omega)).mpr z9)
                      refine lv_iload hx hb d_M_call_100 (lv_at hl 0 rfl) ?_
                      refine lv_topi (fun z8 ez8 => ?_)
                      obtain rfl : z8 = nI (v3 (atN q i j)) := ez8.trans (congrArg nI (by unfold v3; first | (rw [if_pos c_93]; done) | (rw [if_neg c_93]; done)))
                      refine lv_bipush (v := nI 8) hx hb d_M_call_102 (by decide +kernel) ?_
                      refine lv_iload hx hb d_M_call_104 (lv_at hl 6 rfl) ?_
                      refine lv_imul hx hb d_M_call_106 ?_
                      refine lv_topi (fun z9 ez9 => ?_)
                      obtain rfl : z9 = nI (8 * i) := ez9.trans (pk_mul _ _)
                      refine lv_iconst (v := nI 2) hx hb d_M_call_107 (by decide +kernel) ?_
                      refine lv_iload hx hb d_M_call_108 (lv_at hl 7 rfl) ?_
                      refine lv_imul hx hb d_M_call_110 ?_
                      refine lv_topi (fun z10 ez10 => ?_)
                      obtain rfl : z10 = nI (2 * j) := ez10.trans (pk_mul _ _)
                      refine lv_iadd hx hb d_M_call_111 ?_
                      refine lv_topi (fun z11 ez11 => ?_)
                      obtain rfl : z11 = nI (8 * i + (2 * j)) := ez11.trans (nI_add _ _)
                      refine lv_ishl hx hb d_M_call_112 ?_
                      refine lv_topi (fun z12 ez12 => ?_)
                      obtain rfl : z12 = shl (nI (v3 (atN q i j))) (8 * i + (2 * j)) := ez12.trans (rfl)
                      refine lv_ior hx hb d_M_call_113 ?_
                      refine lv_topi (fun z13 ez13 => ?_)
                      obtain rfl : z13 = pkK (fun y => v3 (atN q i y)) i (pkI (fun x y => v3 (atN q x y)) (pl j1) i) (j + 1) := ez13.trans (rfl)
                      refine lv_istore (lv' := [(4, .int (pkK (fun y => v3 (atN q i y)) i (pkI (fun x y => v3 (atN q x y)) (pl j1) i) (j + 1))), (7, .int (nI (atN q i j))), (0, .ref (h 0)), (1, .int (nI i1)), (2, .int (nI j1)), (3, .int q), (5, .int (nI i)), (6, .int (nI j))]) hx hb d_M_call_114 hl (by decide) rfl (fun ls hl => ?_)
                      refine lv_iinc (v := nI (j + 1)) (lv' := [(6, .int (nI (j + 1))), (4, .int (pkK (fun y => v3 (atN q i y)) i (pkI (fun x y => v3 (atN q x y)) (pl j1) i) (j + 1))), (7, .int (nI (atN q i j))), (0, .ref (h 0)), (1, .int (nI i1)), (2, .int (nI j1)), (3, .int q), (5, .int (nI i))]) hx hb d_M_call_116 hl (k := 7) rfl (nI_add j 1) (by decide) rfl (fun ls hl => ?_)
                      refine lv_goto (tgt := 67) hx hb d_M_call_119 (by decide) ?_
                      exact ih_lp2 (j + 1) (by omega) (by omega) _ _ _ hP hD hS (lv_sub hl [3, 4, 5, 6, 1, 7, 0] rfl)
                    · have c_93 : atN q i j = 3 := (nI_eq (a := atN q i j) (b := 3) (by omega) (by omega)).mp c_93
                      refine lv_iconst (v := nI 2) hx hb d_M_call_96 (by decide +kernel) ?_
                      refine lv_goto (tgt := 102) hx hb d_M_call_97 (by decide) ?_
                      refine lv_topi (fun z14 ez14 => ?_)
                      obtain rfl : z14 = nI (v3 (atN q i j)) := ez14.trans (congrArg nI (by unfold v3; first | (rw [if_pos c_93]; done) | (rw [if_neg c_93]; done)))
                      refine lv_bipush (v := nI 8) hx hb d_M_call_102 (by decide +kernel) ?_
                      refine lv_iload hx hb d_M_call_104 (lv_at hl 6 rfl) ?_
                      refine lv_imul hx hb d_M_call_106 ?_
                      refine lv_topi (fun z15 ez15 => ?_)
                      obtain rfl : z15 = nI (8 * i) := ez15.trans (pk_mul _ _)
                      refine lv_iconst (v := nI 2) hx hb d_M_call_107 (by decide +kernel) ?_
                      refine lv_iload hx hb d_M_call_108 (lv_at hl 7 rfl) ?_
                      refine lv_imul hx hb d_M_call_110 ?_
                      refine lv_topi (fun z16 ez16 => ?_)
                      obtain rfl : z16 = nI (2 * j) := ez16.trans (pk_mul _ _)
                      refine lv_iadd hx hb d_M_call_111 ?_
                      refine lv_topi (fun z17 ez17 => ?_)
                      obtain rfl : z17 = nI (8 * i + (2 * j)) := ez17.trans (nI_add _ _)
                      refine lv_ishl hx hb d_M_call_112 ?_
                      refine lv_topi (fun z18 ez18 => ?_)
                      obtain rfl : z18 = shl (nI (v3 (atN q i j))) (8 * i + (2 * j)) := ez18.trans (rfl)
                      refine lv_ior hx hb d_M_call_113 ?_
                      refine lv_topi (fun z19 ez19 => ?_)
                      obtain rfl : z19 = pkK (fun y => v3 (atN q i y)) i (pkI (fun x y => v3 (atN q x y)) (pl j1) i) (j + 1) := ez19.trans (rfl)
                      refine lv_istore (lv' := [(4, .int (pkK (fun y => v3 (atN q i y)) i (pkI (fun x y => v3 (atN q x y)) (pl j1) i) (j + 1))), (7, .int (nI (atN q i j))), (0, .ref (h 0)), (1, .int (nI i1)), (2, .int (nI j1)), (3, .int q), (5, .int (nI i)), (6, .int (nI j))]) hx hb d_M_call_114 hl (by decide) rfl (fun ls hl => ?_)
                      refine lv_iinc (v := nI (j + 1)) (lv' := [(6, .int (nI (j + 1))), (4, .int (pkK (fun y => v3 (atN q i y)) i (pkI (fun x y => v3 (atN q x y)) (pl j1) i) (j + 1))), (7, .int (nI (atN q i j))), (0, .ref (h 0)), (1, .int (nI i1)), (2, .int (nI j1)), (3, .int q), (5, .int (nI i))]) hx hb d_M_call_116 hl (k := 7) rfl (nI_add j 1) (by decide) rfl (fun ls hl => ?_)
                      refine lv_goto (tgt := 67) hx hb d_M_call_119 (by decide) ?_
                      exact ih_lp2 (j + 1) (by omega) (by omega) _ _ _ hP hD hS (lv_sub hl [3, 4, 5, 6, 1, 7, 0] rfl)
              exact lp2 _ 0 (Nat.zero_le _) (Nat.lt_succ_self _) _ _ _ hP hD hS (lv_sub hl [1, 2, 3, 4, 5, 6, 0] rfl)
        exact lp1 _ 0 (Nat.zero_le _) (Nat.lt_succ_self _) _ _ _ hP hD hS (lv_sub hl [2, 3, 4, 5, 1, 0] rfl)
      · have c_27 : nC = 20 := (nI_eq (a := nC) (b := 20) (by omega) (by omega)).mp c_27
        refine lv_iconst (v := nI 2) hx hb d_M_call_30 (by decide +kernel) ?_
        refine lv_goto (tgt := 35) hx hb d_M_call_31 (by decide) ?_
        refine va_put (D := (dC, dI)) (ci := 0) (v := .int (nI 2)) (ty := .int) (C := R_M) (T := F_M) (N := 18) hx hb hk k_M_f t_M t_M_ok n_M hown hK hP hD hS 0 rfl rfl 0 (by decide) (hk _ k_M_8) (fun _ h9 => h9) rfl (by decide +kernel) rfl rfl (Nat.le_of_ble_eq_true rfl) d_M_call_35 (fun H locs hP hD hS => ?_)
        have hP : va_P (dC, dI) kls (wM h cI cZ (nI 2) (nI nF) (nI nC) xg (fun c => nI (pl c)) (fun c => nI (cf c)) (fun c => nI (ct c)) aK bF bL bB bA bY bR oT oO oR bS) H := hP
        have hD : va_D A (wM h cI cZ (nI 2) (nI nF) (nI nC) xg (fun c => nI (pl c)) (fun c => nI (cf c)) (fun c => nI (ct c)) aK bF bL bB bA bY bR oT oO oR bS) := hD
        refine lv_aload_n hx hb d_M_call_38 rfl (lv_at hl 0 rfl) ?_
        refine va_get (D := (dC, dI)) (ci := 0) (v := .int (nI 2)) (C := R_M) (T := F_M) (N := 18) hx hb hk k_M_f hown hK hP 0 rfl rfl 0 (by decide) (hk _ k_M_8) (fun _ h9 => h9) rfl d_M_call_39 ?_
        refine lv_if_le (tgt := 47) hx hb d_M_call_42 (by decide) (fun c9 => absurd c9 (by decide +kernel)) (fun _ => ?_)
        refine lv_iconst (v := nI 0) hx hb d_M_call_45 (by decide +kernel) ?_
        exact W.iret (v := nI 0) hx hb hr (fun t ht hW => ⟨⟨nI 0, (nI 2, nI nC, fun c => nI (cf c), fun c => nI (ct c), aK), rfl, Or.inr (Or.inl ⟨⟨⟨i1, hi1, rfl⟩, ⟨j1, hj1, rfl⟩⟩, c_27, rfl, rfl, rfl, rfl, rfl⟩), by rw [ht]; exact hP, va_K.moved hW.alike hK, hD⟩, hS.F ht⟩) hS.2.2 d_M_call_46
    · subst hr9
      refine lv_if_ne (tgt := 21) hx hb d_M_call_14 (by decide) (fun c9 => absurd c9 (by decide +kernel)) (fun _ => ?_)
      refine lv_iconst (v := nI 1) hx hb d_M_call_17 (by decide +kernel) ?_
      refine lv_goto (tgt := 35) hx hb d_M_call_18 (by decide) ?_
      refine va_put (D := (dC, dI)) (ci := 0) (v := .int (nI 1)) (ty := .int) (C := R_M) (T := F_M) (N := 18) hx hb hk k_M_f t_M t_M_ok n_M hown hK hP hD hS 0 rfl rfl 0 (by decide) (hk _ k_M_8) (fun _ h9 => h9) rfl (by decide +kernel) rfl rfl (Nat.le_of_ble_eq_true rfl) d_M_call_35 (fun H locs hP hD hS => ?_)
      have hP : va_P (dC, dI) kls (wM h cI cZ (nI 1) (nI nF) (nI nC) xg (fun c => nI (pl c)) (fun c => nI (cf c)) (fun c => nI (ct c)) aK bF bL bB bA bY bR oT oO oR bS) H := hP
      have hD : va_D A (wM h cI cZ (nI 1) (nI nF) (nI nC) xg (fun c => nI (pl c)) (fun c => nI (cf c)) (fun c => nI (ct c)) aK bF bL bB bA bY bR oT oO oR bS) := hD
      refine lv_aload_n hx hb d_M_call_38 rfl (lv_at hl 0 rfl) ?_
      refine va_get (D := (dC, dI)) (ci := 0) (v := .int (nI 1)) (C := R_M) (T := F_M) (N := 18) hx hb hk k_M_f hown hK hP 0 rfl rfl 0 (by decide) (hk _ k_M_8) (fun _ h9 => h9) rfl d_M_call_39 ?_
      refine lv_if_le (tgt := 47) hx hb d_M_call_42 (by decide) (fun c9 => absurd c9 (by decide +kernel)) (fun _ => ?_)
      refine lv_iconst (v := nI 0) hx hb d_M_call_45 (by decide +kernel) ?_
      have hq9 : ¬ ((∃ i, i < nF ∧ nI i1 = nI i) ∧ (∃ j, j < nF ∧ g = nI j)) := by
        rintro ⟨z1, z2⟩
        first
          | exact hno_f z1
          | exact hno_g z2
      exact W.iret (v := nI 0) hx hb hr (fun t ht hW => ⟨⟨nI 0, (nI 1, nI nC, fun c => nI (cf c), fun c => nI (ct c), aK), rfl, Or.inl ⟨hq9, rfl, rfl, rfl, rfl, rfl⟩, by rw [ht]; exact hP, va_K.moved hW.alike hK, hD⟩, hS.F ht⟩) hS.2.2 d_M_call_46
  · subst hr9
    refine lv_if_eq (tgt := 17) hx hb d_M_call_6 (by decide) (fun _ => ?_) (fun c9 => absurd c9 (by decide +kernel))
    refine lv_iconst (v := nI 1) hx hb d_M_call_17 (by decide +kernel) ?_
    refine lv_goto (tgt := 35) hx hb d_M_call_18 (by decide) ?_
    refine va_put (D := (dC, dI)) (ci := 0) (v := .int (nI 1)) (ty := .int) (C := R_M) (T := F_M) (N := 18) hx hb hk k_M_f t_M t_M_ok n_M hown hK hP hD hS 0 rfl rfl 0 (by decide) (hk _ k_M_8) (fun _ h9 => h9) rfl (by decide +kernel) rfl rfl (Nat.le_of_ble_eq_true rfl) d_M_call_35 (fun H locs hP hD hS => ?_)
    have hP : va_P (dC, dI) kls (wM h cI cZ (nI 1) (nI nF) (nI nC) xg (fun c => nI (pl c)) (fun c => nI (cf c)) (fun c => nI (ct c)) aK bF bL bB bA bY bR oT oO oR bS) H := hP
    have hD : va_D A (wM h cI cZ (nI 1) (nI nF) (nI nC) xg (fun c => nI (pl c)) (fun c => nI (cf c)) (fun c => nI (ct c)) aK bF bL bB bA bY bR oT oO oR bS) := hD
    refine lv_aload_n hx hb d_M_call_38 rfl (lv_at hl 0 rfl) ?_
    refine va_get (D := (dC, dI)) (ci := 0) (v := .int (nI 1)) (C := R_M) (T := F_M) (N := 18) hx hb hk k_M_f hown hK hP 0 rfl rfl 0 (by decide) (hk _ k_M_8) (fun _ h9 => h9) rfl d_M_call_39 ?_
    refine lv_if_le (tgt := 47) hx hb d_M_call_42 (by decide) (fun c9 => absurd c9 (by decide +kernel)) (fun _ => ?_)
    refine lv_iconst (v := nI 0) hx hb d_M_call_45 (by decide +kernel) ?_
    have hq9 : ¬ ((∃ i, i < nF ∧ f = nI i) ∧ (∃ j, j < nF ∧ g = nI j)) := by
      rintro ⟨z1, z2⟩
      first
        | exact hno_f z1
        | exact hno_g z2
    exact W.iret (v := nI 0) hx hb hr (fun t ht hW => ⟨⟨nI 0, (nI 1, nI nC, fun c => nI (cf c), fun c => nI (ct c), aK), rfl, Or.inl ⟨hq9, rfl, rfl, rfl, rfl, rfl⟩, by rw [ht]; exact hP, va_K.moved hW.alike hK, hD⟩, hS.F ht⟩) hS.2.2 d_M_call_46
set_option maxHeartbeats 4000000 in
set_option maxRecDepth 100000 in
theorem m_product (l : Launch) (dC : Nat → ClassId) (dI : Nat → Nat → Nat) (cI cZ : ClassId) (h : Nat → Nat) (sz : Nat) (xt xg : Int32) (aK bF bL bB bA bY bR oT oO oR bS : Nat → Int32) (nF nC : Nat) (pl cf ct : Nat → Nat) (x : Int64) (q : Int32) (hF : nF ≤ 10) (hC : nC ≤ 20) (hS0 : ∀ c, c < nC → cf c < nF ∧ ct c < nF) (hpl : ∀ i, i < nF → 1 ≤ pl i ∧ pl i ≤ 4) : Met l y_M_product w_M_product ({ frames := 2, cells := 0, slots := 0, locals := 51 }) (va_Pc [.ref (h 0), .long x, .int q] (fun U => U.heap.size = sz ∧ va_P (dC, dI) kls (wM h cI cZ xt (nI nF) (nI nC) xg (fun c => nI (pl c)) (fun c => nI (cf c)) (fun c => nI (ct c)) aK bF bL bB bA bY bR oT oO oR bS) U.heap ∧ va_K (dC, dI) kls (tyM cI cZ) U ∧ va_D (fun _ => True) (wM h cI cZ xt (nI nF) (nI nC) xg (fun c => nI (pl c)) (fun c => nI (cf c)) (fun c => nI (ct c)) aK bF bL bB bA bY bR oT oO oR bS))) (va_Qi (fun (r : Int32) (u : Int32) => u = nI 0 ∧ (((¬ ∃ j, 1 ≤ j ∧ j ≤ 12 ∧ q = nI j) ∧ r = -2) ∨ ∃ j, 1 ≤ j ∧ j ≤ 12 ∧ q = nI j ∧ ((∃ z, prN nC cf ct aK rj x j = some z ∧ r = z.1) ∨ (prN nC cf ct aK rj x j = none ∧ r = -2)))) (fun (u : Int32) (t : State) => va_P (dC, dI) kls (wM h cI cZ u (nI nF) (nI nC) xg (fun c => nI (pl c)) (fun c => nI (cf c)) (fun c => nI (ct c)) aK bF bL bB bA bY bR oT oO oR bS) t.heap ∧ va_K (dC, dI) kls (tyM cI cZ) t ∧ va_D (va_A (wM h cI cZ xt (nI nF) (nI nC) xg (fun c => nI (pl c)) (fun c => nI (cf c)) (fun c => nI (ct c)) aK bF bL bB bA bY bR oT oO oR bS) sz) (wM h cI cZ u (nI nF) (nI nC) xg (fun c => nI (pl c)) (fun c => nI (cf c)) (fun c => nI (ct c)) aK bF bL bB bA bY bR oT oO oR bS)) (va_A (wM h cI cZ xt (nI nF) (nI nC) xg (fun c => nI (pl c)) (fun c => nI (cf c)) (fun c => nI (ct c)) aK bF bL bB bA bY bR oT oO oR bS) sz)) 0 0 (va_A (wM h cI cZ xt (nI nF) (nI nC) xg (fun c => nI (pl c)) (fun c => nI (cf c)) (fun c => nI (ct c)) aK bF bL bB bA bY bR oT oO oR bS) sz) := by
  refine Met.ofW (cc := c_M_product) (maxL := 8) (ret := (some .int)) (by decide) rfl ?_
  intro p e s m args below meth c s₁ B hml hv
  obtain ⟨rfl, hsz, hP, hK, hD0⟩ := hv
  have hx := B.exec
  have hb := B.bytes
  have hr := B.returns
  have hts := atoms_spec (ws := w_M_product) B.pre
  have hk : ∀ w ∈ wMw, w.before _ s = true := fun w h => hts w (List.mem_cons_of_mem _ h)
  have hown : s.vm.findClass R_M = some m.cls := findClass_of_methodNamed B.named
  have hlocks := B.notSynchronized
  subst hsz
  have hD := hD0.self (sz := s.heap.size)
  generalize hAe : va_A (wM h cI cZ xt (nI nF) (nI nC) xg (fun c => nI (pl c)) (fun c => nI (cf c)) (fun c => nI (ct c)) aK bF bL bB bA bY bR oT oO oR bS) s.heap.size = A at hD ⊢
  have hA : ∀ q : Nat, s.heap.size ≤ q → A q := fun q h => by rw [← hAe]; exact Or.inr h
  have hS : va_S A s.heap s.heap [] := va_S.rf
  have hl := lv_entry ([.ref (h 0), .long x, .int q]) (n := 8) (Nat.le_of_ble_eq_true rfl)
  rw [lg_entry_eq]
  generalize (lg_sl ([.ref (h 0), .long x, .int q]) ++ List.replicate (8 - (lg_sl ([.ref (h 0), .long x, .int q])).length) Slot.unset).toArray = ls at hl ⊢
  have hl : lv_has ls 8 [(0, .ref (h 0)), (1, .long x), (3, .int q)] := hl
  refine lv_aload_n hx hb d_M_product_0 rfl (lv_at hl 0 rfl) ?_
  refine lv_iconst (v := nI 0) hx hb d_M_product_1 (by decide +kernel) ?_
  refine va_put (D := (dC, dI)) (ci := 0) (v := .int (nI 0)) (ty := .int) (C := R_M) (T := F_M) (N := 18) hx hb hk k_M_f t_M t_M_ok n_M hown hK hP hD hS 0 rfl rfl 0 (by decide) (hk _ k_M_8) (fun _ h9 => h9) rfl (by decide +kernel) rfl rfl (Nat.le_of_ble_eq_true rfl) d_M_product_2 (fun H locs hP hD hS => ?_)
  have hP : va_P (dC, dI) kls (wM h cI cZ (nI 0) (nI nF) (nI nC) xg (fun c => nI (pl c)) (fun c => nI (cf c)) (fun c => nI (ct c)) aK bF bL bB bA bY bR oT oO oR bS) H := hP
  have hD : va_D A (wM h cI cZ (nI 0) (nI nF) (nI nC) xg (fun c => nI (pl c)) (fun c => nI (cf c)) (fun c => nI (ct c)) aK bF bL bB bA bY bR oT oO oR bS) := hD
  refine lv_iload_n hx hb d_M_product_5 rfl (lv_at hl 2 rfl) ?_
  refine lv_iconst (v := nI 1) hx hb d_M_product_6 (by decide +kernel) ?_
  refine lv_icmp_lt (tgt := 16) hx hb d_M_product_7 (by decide) (fun c_7 => ?_) (fun c_7 => ?_)
  · refine lv_bipush (v := (-2)) hx hb d_M_product_16 (by decide +kernel) ?_
    exact W.iret (v := (-2)) hx hb hr (fun t ht hW => ⟨⟨(-2), nI 0, rfl, ⟨rfl, Or.inl ⟨no12 (by first | exact Or.inl c_7 | exact Or.inr c_13), rfl⟩⟩, by rw [ht]; exact hP, va_K.moved hW.alike hK, hD⟩, hS.F ht⟩) hS.2.2 d_M_product_18
  · refine lv_iload_n hx hb d_M_product_10 rfl (lv_at hl 2 rfl) ?_
    refine lv_bipush (v := nI 12) hx hb d_M_product_11 (by decide +kernel) ?_
    refine lv_icmp_le (tgt := 19) hx hb d_M_product_13 (by decide) (fun c_13 => ?_) (fun c_13 => ?_)
    · obtain ⟨n1, hn1, hn2, rfl⟩ := in12 c_7 c_13
      refine lv_iconst (v := nI 0) hx hb d_M_product_19 (by decide +kernel) ?_
      refine lv_istore (lv' := [(4, .int (nI 0)), (0, .ref (h 0)), (1, .long x), (3, .int (nI n1))]) hx hb d_M_product_20 hl (by decide) rfl (fun ls hl => ?_)
      refine lv_iconst (v := (-1)) hx hb d_M_product_22 (by decide +kernel) ?_
      refine lv_istore (lv' := [(5, .int (-1)), (4, .int (nI 0)), (0, .ref (h 0)), (1, .long x), (3, .int (nI n1))]) hx hb d_M_product_23 hl (by decide) rfl (fun ls hl => ?_)
      refine lv_iconst (v := nI 0) hx hb d_M_product_25 (by decide +kernel) ?_
      refine lv_istore (lv' := [(6, .int (nI 0)), (5, .int (-1)), (4, .int (nI 0)), (0, .ref (h 0)), (1, .long x), (3, .int (nI n1))]) hx hb d_M_product_26 hl (by decide) rfl (fun ls hl => ?_)
      have lp : ∀ (n_lp : Nat) (k : Nat) (al : Int32) (eN : Int32), (k ≤ n1) → (k = 0 ∨ ∃ z, prN nC cf ct aK rj x k = some z ∧ al = z.1 ∧ eN = nI z.2 ∧ z.2 < nF) → n1 - k < n_lp → ∀ (H : Heap) (locs : List Loc) (ls : Array Slot), va_P (dC, dI) kls (wM h cI cZ (nI 0) (nI nF) (nI nC) xg (fun c => nI (pl c)) (fun c => nI (cf c)) (fun c => nI (ct c)) aK bF bL bB bA bY bR oT oO oR bS) H → va_D A (wM h cI cZ (nI 0) (nI nF) (nI nC) xg (fun c => nI (pl c)) (fun c => nI (cf c)) (fun c => nI (ct c)) aK bF bL bB bA bY bR oT oO oR bS) → va_S A s.heap H locs → lv_has ls 8 [(0, .ref (h 0)), (1, .long x), (3, .int (nI n1)), (4, .int al), (5, .int eN), (6, .int (nI k))] → W p l e (headSpec w_M_product ({ frames := 2, cells := 0, slots := 0, locals := 51 })).room s m ([.ref (h 0), .long x, .int (nI n1)]).toArray below meth c H locs 0 0 (MQ below (va_Qi (fun (r : Int32) (u : Int32) => u = nI 0 ∧ (((¬ ∃ j, 1 ≤ j ∧ j ≤ 12 ∧ (nI n1) = nI j) ∧ r = -2) ∨ ∃ j, 1 ≤ j ∧ j ≤ 12 ∧ (nI n1) = nI j ∧ ((∃ z, prN nC cf ct aK rj x j = some z ∧ r = z.1) ∨ (prN nC cf ct aK rj x j = none ∧ r = -2)))) (fun (u : Int32) (t : State) => va_P (dC, dI) kls (wM h cI cZ u (nI nF) (nI nC) xg (fun c => nI (pl c)) (fun c => nI (cf c)) (fun c => nI (ct c)) aK bF bL bB bA bY bR oT oO oR bS) t.heap ∧ va_K (dC, dI) kls (tyM cI cZ) t ∧ va_D (A) (wM h cI cZ u (nI nF) (nI nC) xg (fun c => nI (pl c)) (fun c => nI (cf c)) (fun c => nI (ct c)) aK bF bL bB bA bY bR oT oO oR bS)) A) ([.ref (h 0), .long x, .int (nI n1)]).toArray s 0 0 A) (F0 m 28 ls []) := by
        intro n_lp
        induction n_lp with
        | zero => intro k al eN hk0 hst hn; exact absurd hn (Nat.not_lt_zero _)
        | succ n_lp ih_lp =>
          intro k al eN hk0 hst hn H locs ls hP hD hS hl
          have hkk : k ≤ 12 := by omega
          refine lv_iload hx hb d_M_product_28 (lv_at hl 5 rfl) ?_
          refine lv_iload_n hx hb d_M_product_30 rfl (lv_at hl 2 rfl) ?_
          refine lv_icmp_ge (tgt := 120) hx hb d_M_product_31 (by decide) (fun c_31 => ?_) (fun c_31 => ?_)
          · have c_31 : n1 ≤ k := (nI_leI (a := n1) (b := k) (by omega) (by omega)).mp c_31
            refine lv_iload hx hb d_M_product_120 (lv_at hl 3 rfl) ?_
            have hke : k = n1 := by omega
            have hq9 : ∃ z, prN nC cf ct aK rj x n1 = some z ∧ al = z.1 := by
              rcases hst with h0 | ⟨z, hz1, hz2, -, -⟩
              · omega
              · exact ⟨z, by rw [← hke]; exact hz1, hz2⟩
            exact W.iret (v := al) hx hb hr (fun t ht hW => ⟨⟨al, nI 0, rfl, ⟨rfl, Or.inr ⟨n1, hn1, hn2, rfl, Or.inl hq9⟩⟩, by rw [ht]; exact hP, va_K.moved hW.alike hK, hD⟩, hS.F ht⟩) hS.2.2 d_M_product_122
          · have c_31 : ¬ n1 ≤ k := fun z9 => c_31 ((nI_leI (a := n1) (b := k) (by omega) (by omega)).mpr z9)
            refine lv_lload_n hx hb d_M_product_34 rfl (lv_at hl 1 rfl) ?_
            refine lv_iconst (v := nI 5) hx hb d_M_product_35 (by decide +kernel) ?_
            refine lv_iload hx hb d_M_product_36 (lv_at hl 5 rfl) ?_
            refine lv_imul hx hb d_M_product_38 ?_
            refine lv_topi (fun z1 ez1 => ?_)
            obtain rfl : z1 = nI (5 * k) := ez1.trans (pk_mul _ _)
            refine lv_lshr (v := x >>> ((nI (5 * k)).toInt64 &&& 63)) hx hb d_M_product_39 rfl ?_
            refine lv_ldc2 (v := (31)) hx hb hown (hk _ k_M_105) d_M_product_40 ?_
            refine lv_land hx hb d_M_product_43 ?_
            refine lv_l2i (v := ((x >>> ((nI (5 * k)).toInt64 &&& 63)) &&& (31)).toInt32) hx hb d_M_product_44 rfl ?_
            refine lv_topi (fun z2 ez2 => ?_)
            obtain rfl : z2 = nI (numR x k) := ez2.trans (num_sar x (by omega))
            have hnl := numR_lt x k
            refine lv_istore (lv' := [(7, .int (nI (numR x k))), (0, .ref (h 0)), (1, .long x), (3, .int (nI n1)), (4, .int al), (5, .int eN), (6, .int (nI k))]) hx hb d_M_product_45 hl (by decide) rfl (fun ls hl => ?_)
            refine lv_iload hx hb d_M_product_47 (lv_at hl 0 rfl) ?_
            refine lv_aload_n hx hb d_M_product_49 rfl (lv_at hl 1 rfl) ?_
            refine va_get (D := (dC, dI)) (ci := 0) (v := .int (nI nC)) (C := R_M) (T := F_M) (N := 18) hx hb hk k_M_f hown hK hP 0 rfl rfl 2 (by decide) (hk _ k_M_10) (fun _ h9 => h9) rfl d_M_product_50 ?_
            refine lv_icmp_ge (tgt := 73) hx hb d_M_product_53 (by decide) (fun c_53 => ?_) (fun c_53 => ?_)
            · have c_53 : nC ≤ numR x k := (nI_leI (a := nC) (b := numR x k) (by omega) (by omega)).mp c_53
              refine lv_bipush (v := (-2)) hx hb d_M_product_73 (by decide +kernel) ?_
              have hbad9 : prN nC cf ct aK rj x (k + 1) = none := by
                rcases hst with rfl | ⟨z, hz1, rfl, rfl, hz4⟩
                · first
                    | (rw [prN, if_neg (show ¬ numR x 0 < nC by omega)])
                    | omega
                · rw [prN_s nC cf ct aK rj x (by first | omega | (rcases Nat.eq_zero_or_pos k with hk9 | hk9; subst hk9; simp [prN] at hz1; exact hk9)) hz1, if_neg]
                  rintro ⟨z1, z2⟩
                  first
                    | exact absurd z1 (by omega)
                    | (rw [z2] at c_70; exact c_70 rfl)
              have hq9 : prN nC cf ct aK rj x n1 = none := prN_none nC cf ct aK rj x (by omega) hbad9 (by omega)
              exact W.iret (v := (-2)) hx hb hr (fun t ht hW => ⟨⟨(-2), nI 0, rfl, ⟨rfl, Or.inr ⟨n1, hn1, hn2, rfl, Or.inr ⟨hq9, rfl⟩⟩⟩, by rw [ht]; exact hP, va_K.moved hW.alike hK, hD⟩, hS.F ht⟩) hS.2.2 d_M_product_75
            · have c_53 : ¬ nC ≤ numR x k := fun z9 => c_53 ((nI_leI (a := nC) (b := numR x k) (by omega) (by omega)).mpr z9)
              refine lv_iload hx hb d_M_product_56 (lv_at hl 6 rfl) ?_
              refine lv_if_le (tgt := 76) hx hb d_M_product_58 (by decide) (fun c_58 => ?_) (fun c_58 => ?_)
              · have c_58 : k ≤ 0 := (nI_leI (a := k) (b := 0) (by omega) (by omega)).mp c_58
                have hcn := hS0 (numR x k) (by omega)
                refine lv_iload hx hb d_M_product_76 (lv_at hl 6 rfl) ?_
                refine lv_if_ne (tgt := 91) hx hb d_M_product_78 (by decide) (fun c_78 => ?_) (fun c_78 => ?_)
                · have c_78 : ¬ k = 0 := fun z9 => c_78 ((nI_eq (a := k) (b := 0) (by omega) (by omega)).mpr z9)
                  refine lv_iload hx hb d_M_product_91 (lv_at hl 4 rfl) ?_
                  refine lv_aload_n hx hb d_M_product_93 rfl (lv_at hl 1 rfl) ?_
                  refine va_get (D := (dC, dI)) (ci := 0) (v := .ref (h 4)) (C := R_M) (T := F_M) (N := 18) hx hb hk k_M_f hown hK hP 0 rfl rfl 6 (by decide) (hk _ k_M_14) (fun _ h9 => h9) rfl d_M_product_94 ?_
                  refine lv_iload hx hb d_M_product_97 (lv_at hl 0 rfl) ?_
                  refine va_iald hx hb hK hP 4 0 rfl rfl (pk_in (numR x k) 20 (by omega)) d_M_product_99 ?_
                  refine lv_topi (fun z3 ez3 => ?_)
                  obtain rfl : z3 = aK (numR x k) := ez3.trans (rd (f := aK) (k := numR x k) (by omega))
                  refine vp_callSi (W.runS (As := [.int al, .int (aK (numR x k))]) (rest := []) ⟨hx, hb, hml, hown, hk⟩ (m_joined l al (aK (numR x k))) (cwS 2 hk g_M_joined rfl rfl rfl (by decide +kernel) ⟨Nat.le_of_ble_eq_true rfl, Nat.le_of_ble_eq_true rfl⟩) ⟨fun a U g mk q => q, fun U hU hW => ⟨rfl, trivial⟩⟩ rfl rfl hl.1 rfl (lv_room (Nat.le_of_ble_eq_true rfl)) d_M_product_100 ⟨Nat.le_of_ble_eq_true rfl, Nat.le_of_ble_eq_true rfl⟩) (fun r4 hw => ?_)
                  subst hw
                  refine lv_istore (lv' := [(4, .int (rj al (aK (numR x k)))), (7, .int (nI (numR x k))), (0, .ref (h 0)), (1, .long x), (3, .int (nI n1)), (5, .int eN), (6, .int (nI k))]) hx hb d_M_product_103 hl (by decide) rfl (fun ls hl => ?_)
                  refine lv_aload_n hx hb d_M_product_105 rfl (lv_at hl 2 rfl) ?_
                  refine va_get (D := (dC, dI)) (ci := 0) (v := .ref (h 3)) (C := R_M) (T := F_M) (N := 18) hx hb hk k_M_f hown hK hP 0 rfl rfl 5 (by decide) (hk _ k_M_13) (fun _ h9 => h9) rfl d_M_product_106 ?_
                  refine lv_iload hx hb d_M_product_109 (lv_at hl 1 rfl) ?_
                  refine va_iald hx hb hK hP 3 0 rfl rfl (pk_in (numR x k) 20 (by omega)) d_M_product_111 ?_
                  refine lv_topi (fun z5 ez5 => ?_)
                  obtain rfl : z5 = nI (ct (numR x k)) := ez5.trans (rd (f := fun c => nI (ct c)) (k := numR x k) (by omega))
                  refine lv_istore (lv' := [(5, .int (nI (ct (numR x k)))), (4, .int (rj al (aK (numR x k)))), (7, .int (nI (numR x k))), (0, .ref (h 0)), (1, .long x), (3, .int (nI n1)), (6, .int (nI k))]) hx hb d_M_product_112 hl (by decide) rfl (fun ls hl => ?_)
                  refine lv_iinc (v := nI (k + 1)) (lv' := [(6, .int (nI (k + 1))), (5, .int (nI (ct (numR x k)))), (4, .int (rj al (aK (numR x k)))), (7, .int (nI (numR x k))), (0, .ref (h 0)), (1, .long x), (3, .int (nI n1))]) hx hb d_M_product_114 hl (k := 6) rfl (nI_add k 1) (by decide) rfl (fun ls hl => ?_)
                  refine lv_goto (tgt := 28) hx hb d_M_product_117 (by decide) ?_
                  have hst2 : k + 1 = 0 ∨ ∃ z, prN nC cf ct aK rj x (k + 1) = some z ∧ rj al (aK (numR x k)) = z.1 ∧ nI (ct (numR x k)) = nI z.2 ∧ z.2 < nF := by
                    rcases hst with h0 | ⟨z, hz1, rfl, rfl, hz4⟩
                    · exact absurd h0 c_78
                    · refine Or.inr ⟨(rj z.1 (aK (numR x k)), ct (numR x k)), ?_, rfl, rfl, hcn.2⟩
                      rw [prN_s nC cf ct aK rj x (by omega) hz1, if_pos]
                      refine ⟨by omega, ?_⟩
                      first | exact (nI_eq (by omega) (by omega)).mp c_70 | omega
                  exact ih_lp (k + 1) (rj al (aK (numR x k))) (nI (ct (numR x k))) (by omega) (hst2) (by omega) _ _ _ hP hD hS (lv_sub hl [4, 5, 6, 2, 1, 0] rfl)
                · have c_78 : k = 0 := (nI_eq (a := k) (b := 0) (by omega) (by omega)).mp c_78
                  refine lv_aload_n hx hb d_M_product_81 rfl (lv_at hl 1 rfl) ?_
                  refine va_get (D := (dC, dI)) (ci := 0) (v := .ref (h 4)) (C := R_M) (T := F_M) (N := 18) hx hb hk k_M_f hown hK hP 0 rfl rfl 6 (by decide) (hk _ k_M_14) (fun _ h9 => h9) rfl d_M_product_82 ?_
                  refine lv_iload hx hb d_M_product_85 (lv_at hl 0 rfl) ?_
                  refine va_iald hx hb hK hP 4 0 rfl rfl (pk_in (numR x k) 20 (by omega)) d_M_product_87 ?_
                  refine lv_topi (fun z6 ez6 => ?_)
                  obtain rfl : z6 = aK (numR x k) := ez6.trans (rd (f := aK) (k := numR x k) (by omega))
                  refine lv_goto (tgt := 103) hx hb d_M_product_88 (by decide) ?_
                  refine lv_istore (lv' := [(4, .int (aK (numR x k))), (7, .int (nI (numR x k))), (0, .ref (h 0)), (1, .long x), (3, .int (nI n1)), (5, .int eN), (6, .int (nI k))]) hx hb d_M_product_103 hl (by decide) rfl (fun ls hl => ?_)
                  refine lv_aload_n hx hb d_M_product_105 rfl (lv_at hl 2 rfl) ?_
                  refine va_get (D := (dC, dI)) (ci := 0) (v := .ref (h 3)) (C := R_M) (T := F_M) (N := 18) hx hb hk k_M_f hown hK hP 0 rfl rfl 5 (by decide) (hk _ k_M_13) (fun _ h9 => h9) rfl d_M_product_106 ?_
                  refine lv_iload hx hb d_M_product_109 (lv_at hl 1 rfl) ?_
                  refine va_iald hx hb hK hP 3 0 rfl rfl (pk_in (numR x k) 20 (by omega)) d_M_product_111 ?_
                  refine lv_topi (fun z7 ez7 => ?_)
                  obtain rfl : z7 = nI (ct (numR x k)) := ez7.trans (rd (f := fun c => nI (ct c)) (k := numR x k) (by omega))
                  refine lv_istore (lv' := [(5, .int (nI (ct (numR x k)))), (4, .int (aK (numR x k))), (7, .int (nI (numR x k))), (0, .ref (h 0)), (1, .long x), (3, .int (nI n1)), (6, .int (nI k))]) hx hb d_M_product_112 hl (by decide) rfl (fun ls hl => ?_)
                  refine lv_iinc (v := nI (k + 1)) (lv' := [(6, .int (nI (k + 1))), (5, .int (nI (ct (numR x k)))), (4, .int (aK (numR x k))), (7, .int (nI (numR x k))), (0, .ref (h 0)), (1, .long x), (3, .int (nI n1))]) hx hb d_M_product_114 hl (k := 6) rfl (nI_add k 1) (by decide) rfl (fun ls hl => ?_)
                  refine lv_goto (tgt := 28) hx hb d_M_product_117 (by decide) ?_
                  have hk00 : k = 0 := by omega
                  subst hk00
                  have hst2 : 0 + 1 = 0 ∨ ∃ z, prN nC cf ct aK rj x (0 + 1) = some z ∧ aK (numR x 0) = z.1 ∧ nI (ct (numR x 0)) = nI z.2 ∧ z.2 < nF := Or.inr ⟨(aK (numR x 0), ct (numR x 0)), by rw [prN, if_pos (show numR x 0 < nC by omega)], rfl, rfl, hcn.2⟩
                  exact ih_lp (0 + 1) (aK (numR x 0)) (nI (ct (numR x 0))) (by omega) (hst2) (by omega) _ _ _ hP hD hS (lv_sub hl [4, 5, 6, 2, 1, 0] rfl)
              · have c_58 : ¬ k ≤ 0 := fun z9 => c_58 ((nI_leI (a := k) (b := 0) (by omega) (by omega)).mpr z9)
                have hcn := hS0 (numR x k) (by omega)
                refine lv_aload_n hx hb d_M_product_61 rfl (lv_at hl 1 rfl) ?_
                refine va_get (D := (dC, dI)) (ci := 0) (v := .ref (h 2)) (C := R_M) (T := F_M) (N := 18) hx hb hk k_M_f hown hK hP 0 rfl rfl 4 (by decide) (hk _ k_M_12) (fun _ h9 => h9) rfl d_M_product_62 ?_
                refine lv_iload hx hb d_M_product_65 (lv_at hl 0 rfl) ?_
                refine va_iald hx hb hK hP 2 0 rfl rfl (pk_in (numR x k) 20 (by omega)) d_M_product_67 ?_
                refine lv_topi (fun z8 ez8 => ?_)
                obtain rfl : z8 = nI (cf (numR x k)) := ez8.trans (rd (f := fun c => nI (cf c)) (k := numR x k) (by omega))
                refine lv_iload hx hb d_M_product_68 (lv_at hl 5 rfl) ?_
                refine lv_icmp_eq (tgt := 76) hx hb d_M_product_70 (by decide) (fun c_70 => ?_) (fun c_70 => ?_)
                · have hcn := hS0 (numR x k) (by omega)
                  refine lv_iload hx hb d_M_product_76 (lv_at hl 6 rfl) ?_
                  refine lv_if_ne (tgt := 91) hx hb d_M_product_78 (by decide) (fun c_78 => ?_) (fun c_78 => ?_)
                  · have c_78 : ¬ k = 0 := fun z9 => c_78 ((nI_eq (a := k) (b := 0) (by omega) (by omega)).mpr z9)
                    refine lv_iload hx hb d_M_product_91 (lv_at hl 4 rfl) ?_
                    refine lv_aload_n hx hb d_M_product_93 rfl (lv_at hl 1 rfl) ?_
                    refine va_get (D := (dC, dI)) (ci := 0) (v := .ref (h 4)) (C := R_M) (T := F_M) (N := 18) hx hb hk k_M_f hown hK hP 0 rfl rfl 6 (by decide) (hk _ k_M_14) (fun _ h9 => h9) rfl d_M_product_94 ?_
                    refine lv_iload hx hb d_M_product_97 (lv_at hl 0 rfl) ?_
                    refine va_iald hx hb hK hP 4 0 rfl rfl (pk_in (numR x k) 20 (by omega)) d_M_product_99 ?_
                    refine lv_topi (fun z9 ez9 => ?_)
                    obtain rfl : z9 = aK (numR x k) := ez9.trans (rd (f := aK) (k := numR x k) (by omega))
                    refine vp_callSi (W.runS (As := [.int al, .int (aK (numR x k))]) (rest := []) ⟨hx, hb, hml, hown, hk⟩ (m_joined l al (aK (numR x k))) (cwS 2 hk g_M_joined rfl rfl rfl (by decide +kernel) ⟨Nat.le_of_ble_eq_true rfl, Nat.le_of_ble_eq_true rfl⟩) ⟨fun a U g mk q => q, fun U hU hW => ⟨rfl, trivial⟩⟩ rfl rfl hl.1 rfl (lv_room (Nat.le_of_ble_eq_true rfl)) d_M_product_100 ⟨Nat.le_of_ble_eq_true rfl, Nat.le_of_ble_eq_true rfl⟩) (fun r10 hw => ?_)
                    subst hw
                    refine lv_istore (lv' := [(4, .int (rj al (aK (numR x k)))), (7, .int (nI (numR x k))), (0, .ref (h 0)), (1, .long x), (3, .int (nI n1)), (5, .int eN), (6, .int (nI k))]) hx hb d_M_product_103 hl (by decide) rfl (fun ls hl => ?_)
                    refine lv_aload_n hx hb d_M_product_105 rfl (lv_at hl 2 rfl) ?_
                    refine va_get (D := (dC, dI)) (ci := 0) (v := .ref (h 3)) (C := R_M) (T := F_M) (N := 18) hx hb hk k_M_f hown hK hP 0 rfl rfl 5 (by decide) (hk _ k_M_13) (fun _ h9 => h9) rfl d_M_product_106 ?_
                    refine lv_iload hx hb d_M_product_109 (lv_at hl 1 rfl) ?_
                    refine va_iald hx hb hK hP 3 0 rfl rfl (pk_in (numR x k) 20 (by omega)) d_M_product_111 ?_
                    refine lv_topi (fun z11 ez11 => ?_)
                    obtain rfl : z11 = nI (ct (numR x k)) := ez11.trans (rd (f := fun c => nI (ct c)) (k := numR x k) (by omega))
                    refine lv_istore (lv' := [(5, .int (nI (ct (numR x k)))), (4, .int (rj al (aK (numR x k)))), (7, .int (nI (numR x k))), (0, .ref (h 0)), (1, .long x), (3, .int (nI n1)), (6, .int (nI k))]) hx hb d_M_product_112 hl (by decide) rfl (fun ls hl => ?_)
                    refine lv_iinc (v := nI (k + 1)) (lv' := [(6, .int (nI (k + 1))), (5, .int (nI (ct (numR x k)))), (4, .int (rj al (aK (numR x k)))), (7, .int (nI (numR x k))), (0, .ref (h 0)), (1, .long x), (3, .int (nI n1))]) hx hb d_M_product_114 hl (k := 6) rfl (nI_add k 1) (by decide) rfl (fun ls hl => ?_)
                    refine lv_goto (tgt := 28) hx hb d_M_product_117 (by decide) ?_
                    have hst2 : k + 1 = 0 ∨ ∃ z, prN nC cf ct aK rj x (k + 1) = some z ∧ rj al (aK (numR x k)) = z.1 ∧ nI (ct (numR x k)) = nI z.2 ∧ z.2 < nF := by
                      rcases hst with h0 | ⟨z, hz1, rfl, rfl, hz4⟩
                      · exact absurd h0 c_78
                      · refine Or.inr ⟨(rj z.1 (aK (numR x k)), ct (numR x k)), ?_, rfl, rfl, hcn.2⟩
                        rw [prN_s nC cf ct aK rj x (by omega) hz1, if_pos]
                        refine ⟨by omega, ?_⟩
                        first | exact (nI_eq (by omega) (by omega)).mp c_70 | omega
                    exact ih_lp (k + 1) (rj al (aK (numR x k))) (nI (ct (numR x k))) (by omega) (hst2) (by omega) _ _ _ hP hD hS (lv_sub hl [4, 5, 6, 2, 1, 0] rfl)
                  · have c_78 : k = 0 := (nI_eq (a := k) (b := 0) (by omega) (by omega)).mp c_78
                    refine lv_aload_n hx hb d_M_product_81 rfl (lv_at hl 1 rfl) ?_
                    refine va_get (D := (dC, dI)) (ci := 0) (v := .ref (h 4)) (C := R_M) (T := F_M) (N := 18) hx hb hk k_M_f hown hK hP 0 rfl rfl 6 (by decide) (hk _ k_M_14) (fun _ h9 => h9) rfl d_M_product_82 ?_
                    refine lv_iload hx hb d_M_product_85 (lv_at hl 0 rfl) ?_
                    refine va_iald hx hb hK hP 4 0 rfl rfl (pk_in (numR x k) 20 (by omega)) d_M_product_87 ?_
                    refine lv_topi (fun z12 ez12 => ?_)
                    obtain rfl : z12 = aK (numR x k) := ez12.trans (rd (f := aK) (k := numR x k) (by omega))
                    refine lv_goto (tgt := 103) hx hb d_M_product_88 (by decide) ?_
                    refine lv_istore (lv' := [(4, .int (aK (numR x k))), (7, .int (nI (numR x k))), (0, .ref (h 0)), (1, .long x), (3, .int (nI n1)), (5, .int eN), (6, .int (nI k))]) hx hb d_M_product_103 hl (by decide) rfl (fun ls hl => ?_)
                    refine lv_aload_n hx hb d_M_product_105 rfl (lv_at hl 2 rfl) ?_
                    refine va_get (D := (dC, dI)) (ci := 0) (v := .ref (h 3)) (C := R_M) (T := F_M) (N := 18) hx hb hk k_M_f hown hK hP 0 rfl rfl 5 (by decide) (hk _ k_M_13) (fun _ h9 => h9) rfl d_M_product_106 ?_
                    refine lv_iload hx hb d_M_product_109 (lv_at hl 1 rfl) ?_
                    refine va_iald hx hb hK hP 3 0 rfl rfl (pk_in (numR x k) 20 (by omega)) d_M_product_111 ?_
                    refine lv_topi (fun z13 ez13 => ?_)
                    obtain rfl : z13 = nI (ct (numR x k)) := ez13.trans (rd (f := fun c => nI (ct c)) (k := numR x k) (by omega))
                    refine lv_istore (lv' := [(5, .int (nI (ct (numR x k)))), (4, .int (aK (numR x k))), (7, .int (nI (numR x k))), (0, .ref (h 0)), (1, .long x), (3, .int (nI n1)), (6, .int (nI k))]) hx hb d_M_product_112 hl (by decide) rfl (fun ls hl => ?_)
                    refine lv_iinc (v := nI (k + 1)) (lv' := [(6, .int (nI (k + 1))), (5, .int (nI (ct (numR x k)))), (4, .int (aK (numR x k))), (7, .int (nI (numR x k))), (0, .ref (h 0)), (1, .long x), (3, .int (nI n1))]) hx hb d_M_product_114 hl (k := 6) rfl (nI_add k 1) (by decide) rfl (fun ls hl => ?_)
                    refine lv_goto (tgt := 28) hx hb d_M_product_117 (by decide) ?_
                    have hk00 : k = 0 := by omega
                    subst hk00
                    have hst2 : 0 + 1 = 0 ∨ ∃ z, prN nC cf ct aK rj x (0 + 1) = some z ∧ aK (numR x 0) = z.1 ∧ nI (ct (numR x 0)) = nI z.2 ∧ z.2 < nF := Or.inr ⟨(aK (numR x 0), ct (numR x 0)), by rw [prN, if_pos (show numR x 0 < nC by omega)], rfl, rfl, hcn.2⟩
                    exact ih_lp (0 + 1) (aK (numR x 0)) (nI (ct (numR x 0))) (by omega) (hst2) (by omega) _ _ _ hP hD hS (lv_sub hl [4, 5, 6, 2, 1, 0] rfl)
                · refine lv_bipush (v := (-2)) hx hb d_M_product_73 (by decide +kernel) ?_
                  have hbad9 : prN nC cf ct aK rj x (k + 1) = none := by
                    rcases hst with rfl | ⟨z, hz1, rfl, rfl, hz4⟩
                    · first
                        | (rw [prN, if_neg (show ¬ numR x 0 < nC by omega)])
                        | omega
                    · rw [prN_s nC cf ct aK rj x (by first | omega | (rcases Nat.eq_zero_or_pos k with hk9 | hk9; subst hk9; simp [prN] at hz1; exact hk9)) hz1, if_neg]
                      rintro ⟨z1, z2⟩
                      first
                        | exact absurd z1 (by omega)
                        | (rw [z2] at c_70; exact c_70 rfl)
                  have hq9 : prN nC cf ct aK rj x n1 = none := prN_none nC cf ct aK rj x (by omega) hbad9 (by omega)
                  exact W.iret (v := (-2)) hx hb hr (fun t ht hW => ⟨⟨(-2), nI 0, rfl, ⟨rfl, Or.inr ⟨n1, hn1, hn2, rfl, Or.inr ⟨hq9, rfl⟩⟩⟩, by rw [ht]; exact hP, va_K.moved hW.alike hK, hD⟩, hS.F ht⟩) hS.2.2 d_M_product_75
      exact lp _ 0 (nI 0) (-1) (Nat.zero_le _) (Or.inl rfl) (Nat.lt_succ_self _) _ _ _ hP hD hS (lv_sub hl [3, 4, 5, 2, 1, 0] rfl)
    · refine lv_bipush (v := (-2)) hx hb d_M_product_16 (by decide +kernel) ?_
      exact W.iret (v := (-2)) hx hb hr (fun t ht hW => ⟨⟨(-2), nI 0, rfl, ⟨rfl, Or.inl ⟨no12 (by first | exact Or.inl c_7 | exact Or.inr c_13), rfl⟩⟩, by rw [ht]; exact hP, va_K.moved hW.alike hK, hD⟩, hS.F ht⟩) hS.2.2 d_M_product_18
