theorem mmin_n {a b : Nat} (ha : a < 2 ^ 31) (hb : b < 2 ^ 31) : (if nI b < nI a then nI b else nI a) = nI (min a b) := by
  by_cases h : b < a
  · rw [if_pos ((nI_ltI hb ha).mpr h), Nat.min_eq_right (by omega)]
  · rw [if_neg (fun z => h ((nI_ltI hb ha).mp z)), Nat.min_eq_left (by omega)]
theorem mmax_n {a b : Nat} (ha : a < 2 ^ 31) (hb : b < 2 ^ 31) : (if nI a < nI b then nI b else nI a) = nI (max a b) := by
  by_cases h : a < b
  · rw [if_pos ((nI_ltI ha hb).mpr h), Nat.max_eq_right (by omega)]
  · rw [if_neg (fun z => h ((nI_ltI ha hb).mp z)), Nat.max_eq_left (by omega)]
/-- a row of booleans as bits -/
def msk (op : Nat → Bool) : Nat → Nat
  | 0 => 0
  | n + 1 => if op n = true then msk op n ||| 2 ^ n else msk op n
theorem msk_bit (op : Nat → Bool) : ∀ (n i : Nat), (msk op n).testBit i = (decide (i < n) && op i)
  | 0, i => by rw [msk, Nat.zero_testBit, decide_eq_false (Nat.not_lt_zero _)]; rfl
  | n + 1, i => by
    rw [msk]
    rcases Nat.lt_trichotomy i n with h | h | h
    · split
      · rw [Nat.testBit_or, msk_bit op n i, Nat.testBit_two_pow, decide_eq_false (show ¬ n = i by omega), decide_eq_true h, decide_eq_true (show i < n + 1 by omega)]; simp
      · rw [msk_bit op n i, decide_eq_true h, decide_eq_true (show i < n + 1 by omega)]
    · subst h
      split
      · rename_i hz
        rw [Nat.testBit_or, Nat.testBit_two_pow, decide_eq_true rfl, hz, decide_eq_true (show i < i + 1 by omega)]; simp
      · rename_i hz
        rw [msk_bit op i i, decide_eq_false (Nat.lt_irrefl _)]
        cases ho : op i
        · simp
        · exact absurd ho hz
    · split
      · rw [Nat.testBit_or, msk_bit op n i, Nat.testBit_two_pow, decide_eq_false (show ¬ n = i by omega), decide_eq_false (show ¬ i < n by omega), decide_eq_false (show ¬ i < n + 1 by omega)]; simp
      · rw [msk_bit op n i, decide_eq_false (show ¬ i < n by omega), decide_eq_false (show ¬ i < n + 1 by omega)]
theorem msk_lt (op : Nat → Bool) (n : Nat) : msk op n < 2 ^ n := by
  apply Nat.lt_pow_two_of_testBit
  intro i hi
  rw [msk_bit, decide_eq_false (by omega)]; rfl
theorem p20_lt {n : Nat} (h : n ≤ 20) : 2 ^ n ≤ 1048576 := Nat.pow_le_pow_right (n := 2) (by omega) h
theorem msk_0 {op : Nat → Bool} {n : Nat} : msk op n = 0 ↔ ¬ oOpen n op := by
  constructor
  · rintro h ⟨c, h1, h2⟩
    have := msk_bit op n c
    rw [h, Nat.zero_testBit, decide_eq_true h1, h2] at this
    cases this
  · intro h
    apply Nat.eq_of_testBit_eq
    intro i
    rw [msk_bit, Nat.zero_testBit]
    by_cases h1 : i < n
    · cases ho : op i
      · simp
      · exact absurd ⟨i, h1, ho⟩ h
    · rw [decide_eq_false h1]; rfl
theorem bt_nI {a : Nat} (ha : a < 2 ^ 32) {i : Nat} (hi : i < 32) : bt (nI a) i = a.testBit i := by
  show (BitVec.ofNat 32 a).getLsbD i = _
  rw [BitVec.getLsbD_ofNat, decide_eq_true hi, Bool.true_and]
theorem msk_cut (a2 : Nat → Nat → Nat) (op : Nat → Bool) (i : Nat) {n : Nat} (hn : n ≤ 20) : nI (msk op n) &&& (nI (msk (fun c => decide (a2 c i = 2)) n) ^^^ (-1)) = nI (msk (oCut a2 op i) n) := by
  have hp := p20_lt hn
  have h1 := msk_lt op n
  have h2 := msk_lt (fun c => decide (a2 c i = 2)) n
  have h3 := msk_lt (oCut a2 op i) n
  apply b_ext
  intro k hk
  rw [b_and, b_xor, b_m1 k hk, bt_nI (by omega) hk, bt_nI (by omega) hk, bt_nI (by omega) hk, msk_bit, msk_bit, msk_bit]
  unfold oCut
  cases decide (k < n) <;> cases op k <;> cases decide (a2 k i = 2) <;> rfl
theorem ush_bit20 {a k : Nat} (ha : a < 1048576) (hk : k < 32) : ush (nI a) k &&& nI 1 = nI (a.testBit k).toNat := by
  unfold ush
  rw [pk_ushrN (by omega) _ k (s_u k (by omega)), nx_and, bit_nat]
set_option maxHeartbeats 4000000 in
set_option maxRecDepth 100000 in
theorem c_O_callsToItself_ok (l : Launch) (dC : Nat → ClassId) (dI : Nat → Nat → Nat) (cI : ClassId) (h : Nat → Nat) (sz : Nat) (yn yt yg ym : Int32) (aK eB eE eA eL eN eC eS eW eT : Nat → Int32) (nF nC : Nat) (pl cf ct : Nat → Nat) (f : Nat) (hF : nF ≤ 10) (hC : nC ≤ 20) (hS0 : ∀ c, c < nC → cf c < nF ∧ ct c < nF) (hpl : ∀ i, i < nF → 1 ≤ pl i ∧ pl i ≤ 4) (hf : f < nF) : Met l y_O_callsToItself w_O_callsToItself ({ frames := 0, cells := 0, slots := 0, locals := 0 }) (va_Pc [.ref (h 1), .int (nI f)] (fun U => U.heap.size = sz ∧ va_P (dC, dI) kls (wC h cI (nI nF) (nI nC) yn yt yg ym (fun c => nI (pl c)) (fun c => nI (cf c)) (fun c => nI (ct c)) aK eB eE eA eL eN eC eS eW eT) U.heap ∧ va_K (dC, dI) kls (tyC cI) U ∧ va_D (fun _ => True) (wC h cI (nI nF) (nI nC) yn yt yg ym (fun c => nI (pl c)) (fun c => nI (cf c)) (fun c => nI (ct c)) aK eB eE eA eL eN eC eS eW eT))) (va_Qi (fun (r : Int32) (u : Unit) => r = nI (msk (op0 cf ct f) nC)) (fun (u : Unit) (t : State) => va_P (dC, dI) kls (wC h cI (nI nF) (nI nC) yn yt yg ym (fun c => nI (pl c)) (fun c => nI (cf c)) (fun c => nI (ct c)) aK eB eE eA eL eN eC eS eW eT) t.heap ∧ va_K (dC, dI) kls (tyC cI) t ∧ va_D (va_A (wC h cI (nI nF) (nI nC) yn yt yg ym (fun c => nI (pl c)) (fun c => nI (cf c)) (fun c => nI (ct c)) aK eB eE eA eL eN eC eS eW eT) sz) (wC h cI (nI nF) (nI nC) yn yt yg ym (fun c => nI (pl c)) (fun c => nI (cf c)) (fun c => nI (ct c)) aK eB eE eA eL eN eC eS eW eT)) (va_A (wC h cI (nI nF) (nI nC) yn yt yg ym (fun c => nI (pl c)) (fun c => nI (cf c)) (fun c => nI (ct c)) aK eB eE eA eL eN eC eS eW eT) sz)) 0 0 (va_A (wC h cI (nI nF) (nI nC) yn yt yg ym (fun c => nI (pl c)) (fun c => nI (cf c)) (fun c => nI (ct c)) aK eB eE eA eL eN eC eS eW eT) sz) := by
  refine Met.ofW (cc := c_O_callsToItself) (maxL := 4) (ret := (some .int)) (by decide) rfl ?_
  intro p e s m args below meth c s₁ B hml hv
  obtain ⟨rfl, hsz, hP, hK, hD0⟩ := hv
  have hx := B.exec
  have hb := B.bytes
  have hr := B.returns
  have hts := atoms_spec (ws := w_O_callsToItself) B.pre
  have hk : ∀ w ∈ wCw, w.before _ s = true := fun w h => hts w (List.mem_cons_of_mem _ h)
  have hown : s.vm.findClass R_O = some m.cls := findClass_of_methodNamed B.named
  have hlocks := B.notSynchronized
  subst hsz
  have hD := hD0.self (sz := s.heap.size)
  generalize hAe : va_A (wC h cI (nI nF) (nI nC) yn yt yg ym (fun c => nI (pl c)) (fun c => nI (cf c)) (fun c => nI (ct c)) aK eB eE eA eL eN eC eS eW eT) s.heap.size = A at hD ⊢
  have hA : ∀ q : Nat, s.heap.size ≤ q → A q := fun q h => by rw [← hAe]; exact Or.inr h
  have hS : va_S A s.heap s.heap [] := va_S.rf
  have hl := lv_entry ([.ref (h 1), .int (nI f)]) (n := 4) (Nat.le_of_ble_eq_true rfl)
  rw [lg_entry_eq]
  generalize (lg_sl ([.ref (h 1), .int (nI f)]) ++ List.replicate (4 - (lg_sl ([.ref (h 1), .int (nI f)])).length) Slot.unset).toArray = ls at hl ⊢
  have hl : lv_has ls 4 [(0, .ref (h 1)), (1, .int (nI f))] := hl
  refine lv_iconst (v := nI 0) hx hb d_O_callsToItself_0 (by decide +kernel) ?_
  refine lv_istore_n (lv' := [(2, .int (nI 0)), (0, .ref (h 1)), (1, .int (nI f))]) hx hb d_O_callsToItself_1 rfl hl (by decide) rfl (fun ls hl => ?_)
  refine lv_iconst (v := nI 0) hx hb d_O_callsToItself_2 (by decide +kernel) ?_
  refine lv_istore_n (lv' := [(3, .int (nI 0)), (2, .int (nI 0)), (0, .ref (h 1)), (1, .int (nI f))]) hx hb d_O_callsToItself_3 rfl hl (by decide) rfl (fun ls hl => ?_)
  have lp : ∀ (n_lp : Nat) (k : Nat), (k ≤ nC) → nC - k < n_lp → ∀ (H : Heap) (locs : List Loc) (ls : Array Slot), va_P (dC, dI) kls (wC h cI (nI nF) (nI nC) yn yt yg ym (fun c => nI (pl c)) (fun c => nI (cf c)) (fun c => nI (ct c)) aK eB eE eA eL eN eC eS eW eT) H → va_D A (wC h cI (nI nF) (nI nC) yn yt yg ym (fun c => nI (pl c)) (fun c => nI (cf c)) (fun c => nI (ct c)) aK eB eE eA eL eN eC eS eW eT) → va_S A s.heap H locs → lv_has ls 4 [(0, .ref (h 1)), (1, .int (nI f)), (2, .int (nI (msk (op0 cf ct f) k))), (3, .int (nI k))] → W p l e (headSpec w_O_callsToItself ({ frames := 0, cells := 0, slots := 0, locals := 0 })).room s m ([.ref (h 1), .int (nI f)]).toArray below meth c H locs 0 0 (MQ below (va_Qi (fun (r : Int32) (u : Unit) => r = nI (msk (op0 cf ct f) nC)) (fun (u : Unit) (t : State) => va_P (dC, dI) kls (wC h cI (nI nF) (nI nC) yn yt yg ym (fun c => nI (pl c)) (fun c => nI (cf c)) (fun c => nI (ct c)) aK eB eE eA eL eN eC eS eW eT) t.heap ∧ va_K (dC, dI) kls (tyC cI) t ∧ va_D (A) (wC h cI (nI nF) (nI nC) yn yt yg ym (fun c => nI (pl c)) (fun c => nI (cf c)) (fun c => nI (ct c)) aK eB eE eA eL eN eC eS eW eT)) A) ([.ref (h 1), .int (nI f)]).toArray s 0 0 A) (F0 m 4 ls []) := by
    intro n_lp
    induction n_lp with
    | zero => intro k hk0 hn; exact absurd hn (Nat.not_lt_zero _)
    | succ n_lp ih_lp =>
      intro k hk0 hn H locs ls hP hD hS hl
      refine lv_iload_n hx hb d_O_callsToItself_4 rfl (lv_at hl 3 rfl) ?_
      refine lv_aload_n hx hb d_O_callsToItself_5 rfl (lv_at hl 0 rfl) ?_
      refine va_get (D := (dC, dI)) (ci := 1) (v := .int (nI nC)) (C := R_P) (T := F_P) (N := 6) hx hb hk k_f_P hown hK hP 1 rfl rfl 5 (by decide) (hk _ k_C_36) (fun _ h9 => h9) rfl d_O_callsToItself_6 ?_
      refine lv_icmp_ge (tgt := 44) hx hb d_O_callsToItself_9 (by decide) (fun c_9 => ?_) (fun c_9 => ?_)
      · have c_9 : nC ≤ k := (nI_leI (a := nC) (b := k) (by omega) (by omega)).mp c_9
        have hkn : k = nC := by omega
        rw [hkn] at hl
        refine lv_iload_n hx hb d_O_callsToItself_44 rfl (lv_at hl 2 rfl) ?_
        exact W.iret (v := nI (msk (op0 cf ct f) nC)) hx hb hr (fun t ht hW => ⟨⟨nI (msk (op0 cf ct f) nC), (), rfl, rfl, by rw [ht]; exact hP, va_K.moved hW.alike hK, hD⟩, hS.F ht⟩) hS.2.2 d_O_callsToItself_45
      · have c_9 : ¬ nC ≤ k := fun z9 => c_9 ((nI_leI (a := nC) (b := k) (by omega) (by omega)).mpr z9)
        have hck := hS0 k (by omega)
        refine lv_aload_n hx hb d_O_callsToItself_12 rfl (lv_at hl 0 rfl) ?_
        refine va_get (D := (dC, dI)) (ci := 1) (v := .ref (h 3)) (C := R_P) (T := F_P) (N := 6) hx hb hk k_f_P hown hK hP 1 rfl rfl 1 (by decide) (hk _ k_C_21) (fun _ h9 => h9) rfl d_O_callsToItself_13 ?_
        refine lv_iload_n hx hb d_O_callsToItself_16 rfl (lv_at hl 3 rfl) ?_
        refine va_iald hx hb hK hP 3 0 rfl rfl (pk_in k 20 (by omega)) d_O_callsToItself_17 ?_
        refine lv_topi (fun z1 ez1 => ?_)
        obtain rfl : z1 = nI (cf k) := ez1.trans (rd (f := fun c => nI (cf c)) (k := k) (by omega))
        refine lv_iload_n hx hb d_O_callsToItself_18 rfl (lv_at hl 1 rfl) ?_
        refine lv_icmp_ne (tgt := 38) hx hb d_O_callsToItself_19 (by decide) (fun c_19 => ?_) (fun c_19 => ?_)
        · have c_19 : ¬ cf k = f := fun z9 => c_19 ((nI_eq (a := cf k) (b := f) (by omega) (by omega)).mpr z9)
          refine lv_iinc (v := nI (k + 1)) (lv' := [(3, .int (nI (k + 1))), (0, .ref (h 1)), (1, .int (nI f)), (2, .int (nI (msk (op0 cf ct f) k)))]) hx hb d_O_callsToItself_38 hl (k := 3) rfl (nI_add k 1) (by decide) rfl (fun ls hl => ?_)
          refine lv_goto (tgt := 4) hx hb d_O_callsToItself_41 (by decide) ?_
          have hst : msk (op0 cf ct f) (k + 1) = msk (op0 cf ct f) k := by rw [msk, if_neg (fun z9 => by unfold op0 at z9; rw [decide_eq_true_iff] at z9; first | exact c_19 z9.1 | exact c_29 z9.2)]
          rw [← hst] at hl
          exact ih_lp (k + 1) (by omega) (by omega) _ _ _ hP hD hS (lv_sub hl [1, 2, 3, 0] rfl)
        · have c_19 : cf k = f := (nI_eq (a := cf k) (b := f) (by omega) (by omega)).mp c_19
          refine lv_aload_n hx hb d_O_callsToItself_22 rfl (lv_at hl 0 rfl) ?_
          refine va_get (D := (dC, dI)) (ci := 1) (v := .ref (h 4)) (C := R_P) (T := F_P) (N := 6) hx hb hk k_f_P hown hK hP 1 rfl rfl 2 (by decide) (hk _ k_C_25) (fun _ h9 => h9) rfl d_O_callsToItself_23 ?_
          refine lv_iload_n hx hb d_O_callsToItself_26 rfl (lv_at hl 3 rfl) ?_
          refine va_iald hx hb hK hP 4 0 rfl rfl (pk_in k 20 (by omega)) d_O_callsToItself_27 ?_
          refine lv_topi (fun z2 ez2 => ?_)
          obtain rfl : z2 = nI (ct k) := ez2.trans (rd (f := fun c => nI (ct c)) (k := k) (by omega))
          refine lv_iload_n hx hb d_O_callsToItself_28 rfl (lv_at hl 1 rfl) ?_
          refine lv_icmp_ne (tgt := 38) hx hb d_O_callsToItself_29 (by decide) (fun c_29 => ?_) (fun c_29 => ?_)
          · have c_29 : ¬ ct k = f := fun z9 => c_29 ((nI_eq (a := ct k) (b := f) (by omega) (by omega)).mpr z9)
            refine lv_iinc (v := nI (k + 1)) (lv' := [(3, .int (nI (k + 1))), (0, .ref (h 1)), (1, .int (nI f)), (2, .int (nI (msk (op0 cf ct f) k)))]) hx hb d_O_callsToItself_38 hl (k := 3) rfl (nI_add k 1) (by decide) rfl (fun ls hl => ?_)
            refine lv_goto (tgt := 4) hx hb d_O_callsToItself_41 (by decide) ?_
            have hst : msk (op0 cf ct f) (k + 1) = msk (op0 cf ct f) k := by rw [msk, if_neg (fun z9 => by unfold op0 at z9; rw [decide_eq_true_iff] at z9; first | exact c_19 z9.1 | exact c_29 z9.2)]
            rw [← hst] at hl
            exact ih_lp (k + 1) (by omega) (by omega) _ _ _ hP hD hS (lv_sub hl [1, 2, 3, 0] rfl)
          · have c_29 : ct k = f := (nI_eq (a := ct k) (b := f) (by omega) (by omega)).mp c_29
            refine lv_iload_n hx hb d_O_callsToItself_32 rfl (lv_at hl 2 rfl) ?_
            refine lv_iconst (v := nI 1) hx hb d_O_callsToItself_33 (by decide +kernel) ?_
            refine lv_iload_n hx hb d_O_callsToItself_34 rfl (lv_at hl 3 rfl) ?_
            refine lv_ishl hx hb d_O_callsToItself_35 ?_
            refine lv_topi (fun z3 ez3 => ?_)
            obtain rfl : z3 = shl (nI 1) k := ez3.trans (rfl)
            refine lv_ior hx hb d_O_callsToItself_36 ?_
            have hst : msk (op0 cf ct f) (k + 1) = msk (op0 cf ct f) k ||| 2 ^ k := by rw [msk, if_pos (show op0 cf ct f k = true from decide_eq_true ⟨c_19, c_29⟩)]
            refine lv_topi (fun z4 ez4 => ?_)
            obtain rfl : z4 = nI (msk (op0 cf ct f) (k + 1)) := ez4.trans (by rw [shl_1w _ (by omega), nx_or, hst])
            refine lv_istore_n (lv' := [(2, .int (nI (msk (op0 cf ct f) (k + 1)))), (0, .ref (h 1)), (1, .int (nI f)), (3, .int (nI k))]) hx hb d_O_callsToItself_37 rfl hl (by decide) rfl (fun ls hl => ?_)
            refine lv_iinc (v := nI (k + 1)) (lv' := [(3, .int (nI (k + 1))), (2, .int (nI (msk (op0 cf ct f) (k + 1)))), (0, .ref (h 1)), (1, .int (nI f))]) hx hb d_O_callsToItself_38 hl (k := 3) rfl (nI_add k 1) (by decide) rfl (fun ls hl => ?_)
            refine lv_goto (tgt := 4) hx hb d_O_callsToItself_41 (by decide) ?_
            exact ih_lp (k + 1) (by omega) (by omega) _ _ _ hP hD hS (lv_sub hl [2, 3, 1, 0] rfl)
  exact lp _ 0 (Nat.zero_le _) (Nat.lt_succ_self _) _ _ _ hP hD hS (lv_sub hl [2, 3, 1, 0] rfl)
set_option maxHeartbeats 4000000 in
set_option maxRecDepth 100000 in
theorem c_O_callsWhereLess_ok (l : Launch) (dC : Nat → ClassId) (dI : Nat → Nat → Nat) (cI : ClassId) (h : Nat → Nat) (sz : Nat) (yn yt yg ym : Int32) (aK eB eE eA eL eN eC eS eW eT : Nat → Int32) (nF nC : Nat) (pl cf ct : Nat → Nat) (i : Nat) (hF : nF ≤ 10) (hC : nC ≤ 20) (hS0 : ∀ c, c < nC → cf c < nF ∧ ct c < nF) (hpl : ∀ i, i < nF → 1 ≤ pl i ∧ pl i ≤ 4) (hi : i < 4) : Met l y_O_callsWhereLess w_O_callsWhereLess ({ frames := 1, cells := 0, slots := 0, locals := 22 }) (va_Pc [.ref (h 1), .int (nI i)] (fun U => U.heap.size = sz ∧ va_P (dC, dI) kls (wC h cI (nI nF) (nI nC) yn yt yg ym (fun c => nI (pl c)) (fun c => nI (cf c)) (fun c => nI (ct c)) aK eB eE eA eL eN eC eS eW eT) U.heap ∧ va_K (dC, dI) kls (tyC cI) U ∧ va_D (fun _ => True) (wC h cI (nI nF) (nI nC) yn yt yg ym (fun c => nI (pl c)) (fun c => nI (cf c)) (fun c => nI (ct c)) aK eB eE eA eL eN eC eS eW eT))) (va_Qi (fun (r : Int32) (u : Unit) => r = nI (msk (fun x => decide (at2 aK x i = 2)) nC)) (fun (u : Unit) (t : State) => va_P (dC, dI) kls (wC h cI (nI nF) (nI nC) yn yt yg ym (fun c => nI (pl c)) (fun c => nI (cf c)) (fun c => nI (ct c)) aK eB eE eA eL eN eC eS eW eT) t.heap ∧ va_K (dC, dI) kls (tyC cI) t ∧ va_D (va_A (wC h cI (nI nF) (nI nC) yn yt yg ym (fun c => nI (pl c)) (fun c => nI (cf c)) (fun c => nI (ct c)) aK eB eE eA eL eN eC eS eW eT) sz) (wC h cI (nI nF) (nI nC) yn yt yg ym (fun c => nI (pl c)) (fun c => nI (cf c)) (fun c => nI (ct c)) aK eB eE eA eL eN eC eS eW eT)) (va_A (wC h cI (nI nF) (nI nC) yn yt yg ym (fun c => nI (pl c)) (fun c => nI (cf c)) (fun c => nI (ct c)) aK eB eE eA eL eN eC eS eW eT) sz)) 0 0 (va_A (wC h cI (nI nF) (nI nC) yn yt yg ym (fun c => nI (pl c)) (fun c => nI (cf c)) (fun c => nI (ct c)) aK eB eE eA eL eN eC eS eW eT) sz) := by
  refine Met.ofW (cc := c_O_callsWhereLess) (maxL := 4) (ret := (some .int)) (by decide) rfl ?_
  intro p e s m args below meth c s₁ B hml hv
  obtain ⟨rfl, hsz, hP, hK, hD0⟩ := hv
  have hx := B.exec
  have hb := B.bytes
  have hr := B.returns
  have hts := atoms_spec (ws := w_O_callsWhereLess) B.pre
  have hk : ∀ w ∈ wCw, w.before _ s = true := fun w h => hts w (List.mem_cons_of_mem _ h)
  have hown : s.vm.findClass R_O = some m.cls := findClass_of_methodNamed B.named
  have hlocks := B.notSynchronized
  subst hsz
  have hD := hD0.self (sz := s.heap.size)
  generalize hAe : va_A (wC h cI (nI nF) (nI nC) yn yt yg ym (fun c => nI (pl c)) (fun c => nI (cf c)) (fun c => nI (ct c)) aK eB eE eA eL eN eC eS eW eT) s.heap.size = A at hD ⊢
  have hA : ∀ q : Nat, s.heap.size ≤ q → A q := fun q h => by rw [← hAe]; exact Or.inr h
  have hS : va_S A s.heap s.heap [] := va_S.rf
  have hl := lv_entry ([.ref (h 1), .int (nI i)]) (n := 4) (Nat.le_of_ble_eq_true rfl)
  rw [lg_entry_eq]
  generalize (lg_sl ([.ref (h 1), .int (nI i)]) ++ List.replicate (4 - (lg_sl ([.ref (h 1), .int (nI i)])).length) Slot.unset).toArray = ls at hl ⊢
  have hl : lv_has ls 4 [(0, .ref (h 1)), (1, .int (nI i))] := hl
  refine lv_iconst (v := nI 0) hx hb d_O_callsWhereLess_0 (by decide +kernel) ?_
  refine lv_istore_n (lv' := [(2, .int (nI 0)), (0, .ref (h 1)), (1, .int (nI i))]) hx hb d_O_callsWhereLess_1 rfl hl (by decide) rfl (fun ls hl => ?_)
  refine lv_iconst (v := nI 0) hx hb d_O_callsWhereLess_2 (by decide +kernel) ?_
  refine lv_istore_n (lv' := [(3, .int (nI 0)), (2, .int (nI 0)), (0, .ref (h 1)), (1, .int (nI i))]) hx hb d_O_callsWhereLess_3 rfl hl (by decide) rfl (fun ls hl => ?_)
  have lp : ∀ (n_lp : Nat) (k : Nat), (k ≤ nC) → nC - k < n_lp → ∀ (H : Heap) (locs : List Loc) (ls : Array Slot), va_P (dC, dI) kls (wC h cI (nI nF) (nI nC) yn yt yg ym (fun c => nI (pl c)) (fun c => nI (cf c)) (fun c => nI (ct c)) aK eB eE eA eL eN eC eS eW eT) H → va_D A (wC h cI (nI nF) (nI nC) yn yt yg ym (fun c => nI (pl c)) (fun c => nI (cf c)) (fun c => nI (ct c)) aK eB eE eA eL eN eC eS eW eT) → va_S A s.heap H locs → lv_has ls 4 [(0, .ref (h 1)), (1, .int (nI i)), (2, .int (nI (msk (fun x => decide (at2 aK x i = 2)) k))), (3, .int (nI k))] → W p l e (headSpec w_O_callsWhereLess ({ frames := 1, cells := 0, slots := 0, locals := 22 })).room s m ([.ref (h 1), .int (nI i)]).toArray below meth c H locs 0 0 (MQ below (va_Qi (fun (r : Int32) (u : Unit) => r = nI (msk (fun x => decide (at2 aK x i = 2)) nC)) (fun (u : Unit) (t : State) => va_P (dC, dI) kls (wC h cI (nI nF) (nI nC) yn yt yg ym (fun c => nI (pl c)) (fun c => nI (cf c)) (fun c => nI (ct c)) aK eB eE eA eL eN eC eS eW eT) t.heap ∧ va_K (dC, dI) kls (tyC cI) t ∧ va_D (A) (wC h cI (nI nF) (nI nC) yn yt yg ym (fun c => nI (pl c)) (fun c => nI (cf c)) (fun c => nI (ct c)) aK eB eE eA eL eN eC eS eW eT)) A) ([.ref (h 1), .int (nI i)]).toArray s 0 0 A) (F0 m 4 ls []) := by
    intro n_lp
    induction n_lp with
    | zero => intro k hk0 hn; exact absurd hn (Nat.not_lt_zero _)
    | succ n_lp ih_lp =>
      intro k hk0 hn H locs ls hP hD hS hl
      refine lv_iload_n hx hb d_O_callsWhereLess_4 rfl (lv_at hl 3 rfl) ?_
      refine lv_aload_n hx hb d_O_callsWhereLess_5 rfl (lv_at hl 0 rfl) ?_
      refine va_get (D := (dC, dI)) (ci := 1) (v := .int (nI nC)) (C := R_P) (T := F_P) (N := 6) hx hb hk k_f_P hown hK hP 1 rfl rfl 5 (by decide) (hk _ k_C_36) (fun _ h9 => h9) rfl d_O_callsWhereLess_6 ?_
      refine lv_icmp_ge (tgt := 39) hx hb d_O_callsWhereLess_9 (by decide) (fun c_9 => ?_) (fun c_9 => ?_)
      · have c_9 : nC ≤ k := (nI_leI (a := nC) (b := k) (by omega) (by omega)).mp c_9
        have hkn : k = nC := by omega
        rw [hkn] at hl
        refine lv_iload_n hx hb d_O_callsWhereLess_39 rfl (lv_at hl 2 rfl) ?_
        exact W.iret (v := nI (msk (fun x => decide (at2 aK x i = 2)) nC)) hx hb hr (fun t ht hW => ⟨⟨nI (msk (fun x => decide (at2 aK x i = 2)) nC), (), rfl, rfl, by rw [ht]; exact hP, va_K.moved hW.alike hK, hD⟩, hS.F ht⟩) hS.2.2 d_O_callsWhereLess_40
      · have c_9 : ¬ nC ≤ k := fun z9 => c_9 ((nI_leI (a := nC) (b := k) (by omega) (by omega)).mpr z9)
        refine lv_aload_n hx hb d_O_callsWhereLess_12 rfl (lv_at hl 0 rfl) ?_
        refine va_get (D := (dC, dI)) (ci := 1) (v := .ref (h 5)) (C := R_P) (T := F_P) (N := 6) hx hb hk k_f_P hown hK hP 1 rfl rfl 3 (by decide) (hk _ k_C_29) (fun _ h9 => h9) rfl d_O_callsWhereLess_13 ?_
        refine lv_iload_n hx hb d_O_callsWhereLess_16 rfl (lv_at hl 3 rfl) ?_
        refine va_iald hx hb hK hP 5 0 rfl rfl (pk_in k 20 (by omega)) d_O_callsWhereLess_17 ?_
        refine lv_topi (fun z1 ez1 => ?_)
        obtain rfl : z1 = aK k := ez1.trans (rd (f := aK) (k := k) (by omega))
        refine lv_iload_n hx hb d_O_callsWhereLess_18 rfl (lv_at hl 1 rfl) ?_
        refine lv_iload_n hx hb d_O_callsWhereLess_19 rfl (lv_at hl 1 rfl) ?_
        refine vp_callSi (W.runS (As := [.int (aK k), .int (nI i), .int (nI i)]) (rest := []) ⟨hx, hb, hml, hown, hk⟩ (c_G_at_ok l (aK k) i i (by omega) (by omega)) (va_cwS 3 hk g_O_44 rfl rfl rfl (by decide +kernel) ⟨Nat.le_of_ble_eq_true rfl, Nat.le_of_ble_eq_true rfl⟩) ⟨fun a U g mk q => q, fun U hU hW => ⟨rfl, trivial⟩⟩ rfl rfl hl.1 rfl (lv_room (Nat.le_of_ble_eq_true rfl)) d_O_callsWhereLess_20 ⟨Nat.le_of_ble_eq_true rfl, Nat.le_of_ble_eq_true rfl⟩) (fun r2 hw => ?_)
        subst hw
        have hat := atN_lt (aK k) i i
        refine lv_iconst (v := nI 2) hx hb d_O_callsWhereLess_23 (by decide +kernel) ?_
        refine lv_icmp_ne (tgt := 33) hx hb d_O_callsWhereLess_24 (by decide) (fun c_24 => ?_) (fun c_24 => ?_)
        · have c_24 : ¬ atN (aK k) i i = 2 := fun z9 => c_24 ((nI_eq (a := atN (aK k) i i) (b := 2) (by omega) (by omega)).mpr z9)
          refine lv_iinc (v := nI (k + 1)) (lv' := [(3, .int (nI (k + 1))), (0, .ref (h 1)), (1, .int (nI i)), (2, .int (nI (msk (fun x => decide (at2 aK x i = 2)) k)))]) hx hb d_O_callsWhereLess_33 hl (k := 3) rfl (nI_add k 1) (by decide) rfl (fun ls hl => ?_)
          refine lv_goto (tgt := 4) hx hb d_O_callsWhereLess_36 (by decide) ?_
          have hst : msk (fun x => decide (at2 aK x i = 2)) (k + 1) = msk (fun x => decide (at2 aK x i = 2)) k := by rw [msk, if_neg (fun z9 => by rw [decide_eq_true_iff] at z9; exact c_24 z9)]
          rw [← hst] at hl
          exact ih_lp (k + 1) (by omega) (by omega) _ _ _ hP hD hS (lv_sub hl [1, 2, 3, 0] rfl)
        · have c_24 : atN (aK k) i i = 2 := (nI_eq (a := atN (aK k) i i) (b := 2) (by omega) (by omega)).mp c_24
          refine lv_iload_n hx hb d_O_callsWhereLess_27 rfl (lv_at hl 2 rfl) ?_
          refine lv_iconst (v := nI 1) hx hb d_O_callsWhereLess_28 (by decide +kernel) ?_
          refine lv_iload_n hx hb d_O_callsWhereLess_29 rfl (lv_at hl 3 rfl) ?_
          refine lv_ishl hx hb d_O_callsWhereLess_30 ?_
          refine lv_topi (fun z3 ez3 => ?_)
          obtain rfl : z3 = shl (nI 1) k := ez3.trans (rfl)
          refine lv_ior hx hb d_O_callsWhereLess_31 ?_
          have hst : msk (fun x => decide (at2 aK x i = 2)) (k + 1) = msk (fun x => decide (at2 aK x i = 2)) k ||| 2 ^ k := by rw [msk, if_pos (decide_eq_true c_24)]
          refine lv_topi (fun z4 ez4 => ?_)
          obtain rfl : z4 = nI (msk (fun x => decide (at2 aK x i = 2)) (k + 1)) := ez4.trans (by rw [shl_1w _ (by omega), nx_or, hst])
          refine lv_istore_n (lv' := [(2, .int (nI (msk (fun x => decide (at2 aK x i = 2)) (k + 1)))), (0, .ref (h 1)), (1, .int (nI i)), (3, .int (nI k))]) hx hb d_O_callsWhereLess_32 rfl hl (by decide) rfl (fun ls hl => ?_)
          refine lv_iinc (v := nI (k + 1)) (lv' := [(3, .int (nI (k + 1))), (2, .int (nI (msk (fun x => decide (at2 aK x i = 2)) (k + 1)))), (0, .ref (h 1)), (1, .int (nI i))]) hx hb d_O_callsWhereLess_33 hl (k := 3) rfl (nI_add k 1) (by decide) rfl (fun ls hl => ?_)
          refine lv_goto (tgt := 4) hx hb d_O_callsWhereLess_36 (by decide) ?_
          exact ih_lp (k + 1) (by omega) (by omega) _ _ _ hP hD hS (lv_sub hl [2, 3, 1, 0] rfl)
  exact lp _ 0 (Nat.zero_le _) (Nat.lt_succ_self _) _ _ _ hP hD hS (lv_sub hl [2, 3, 1, 0] rfl)
set_option maxHeartbeats 4000000 in
set_option maxRecDepth 100000 in
theorem c_O_nextPlace_ok (l : Launch) (dC : Nat → ClassId) (dI : Nat → Nat → Nat) (cI : ClassId) (h : Nat → Nat) (sz : Nat) (yn yt yg ym : Int32) (aK eB eE eA eL eN eC eS eW eT : Nat → Int32) (nF nC : Nat) (pl cf ct : Nat → Nat) (f : Nat) (op : Nat → Bool) (hF : nF ≤ 10) (hC : nC ≤ 20) (hS0 : ∀ c, c < nC → cf c < nF ∧ ct c < nF) (hpl : ∀ i, i < nF → 1 ≤ pl i ∧ pl i ≤ 4) (hf : f < nF) (hcl : ∀ c, c < nC → clN (aK c)) : Met l y_O_nextPlace w_O_nextPlace ({ frames := 1, cells := 0, slots := 0, locals := 22 }) (va_Pc [.ref (h 1), .int (nI f), .int (nI (msk op nC))] (fun U => U.heap.size = sz ∧ va_P (dC, dI) kls (wC h cI (nI nF) (nI nC) yn yt yg ym (fun c => nI (pl c)) (fun c => nI (cf c)) (fun c => nI (ct c)) aK eB eE eA eL eN eC eS eW eT) U.heap ∧ va_K (dC, dI) kls (tyC cI) U ∧ va_D (fun _ => True) (wC h cI (nI nF) (nI nC) yn yt yg ym (fun c => nI (pl c)) (fun c => nI (cf c)) (fun c => nI (ct c)) aK eB eE eA eL eN eC eS eW eT))) (va_Qi (fun (r : Int32) (u : Unit) => (∃ i, oNext nC (at2 aK) (pl f) op i ∧ r = nI i) ∨ (oNone nC (at2 aK) (pl f) op ∧ r = -1)) (fun (u : Unit) (t : State) => va_P (dC, dI) kls (wC h cI (nI nF) (nI nC) yn yt yg ym (fun c => nI (pl c)) (fun c => nI (cf c)) (fun c => nI (ct c)) aK eB eE eA eL eN eC eS eW eT) t.heap ∧ va_K (dC, dI) kls (tyC cI) t ∧ va_D (va_A (wC h cI (nI nF) (nI nC) yn yt yg ym (fun c => nI (pl c)) (fun c => nI (cf c)) (fun c => nI (ct c)) aK eB eE eA eL eN eC eS eW eT) sz) (wC h cI (nI nF) (nI nC) yn yt yg ym (fun c => nI (pl c)) (fun c => nI (cf c)) (fun c => nI (ct c)) aK eB eE eA eL eN eC eS eW eT)) (va_A (wC h cI (nI nF) (nI nC) yn yt yg ym (fun c => nI (pl c)) (fun c => nI (cf c)) (fun c => nI (ct c)) aK eB eE eA eL eN eC eS eW eT) sz)) 0 0 (va_A (wC h cI (nI nF) (nI nC) yn yt yg ym (fun c => nI (pl c)) (fun c => nI (cf c)) (fun c => nI (ct c)) aK eB eE eA eL eN eC eS eW eT) sz) := by
  refine Met.ofW (cc := c_O_nextPlace) (maxL := 8) (ret := (some .int)) (by decide) rfl ?_
  intro p e s m args below meth c s₁ B hml hv
  obtain ⟨rfl, hsz, hP, hK, hD0⟩ := hv
  have hx := B.exec
  have hb := B.bytes
  have hr := B.returns
  have hts := atoms_spec (ws := w_O_nextPlace) B.pre
  have hk : ∀ w ∈ wCw, w.before _ s = true := fun w h => hts w (List.mem_cons_of_mem _ h)
  have hown : s.vm.findClass R_O = some m.cls := findClass_of_methodNamed B.named
  have hlocks := B.notSynchronized
  subst hsz
  have hD := hD0.self (sz := s.heap.size)
  generalize hAe : va_A (wC h cI (nI nF) (nI nC) yn yt yg ym (fun c => nI (pl c)) (fun c => nI (cf c)) (fun c => nI (ct c)) aK eB eE eA eL eN eC eS eW eT) s.heap.size = A at hD ⊢
  have hA : ∀ q : Nat, s.heap.size ≤ q → A q := fun q h => by rw [← hAe]; exact Or.inr h
  have hS : va_S A s.heap s.heap [] := va_S.rf
  have hl := lv_entry ([.ref (h 1), .int (nI f), .int (nI (msk op nC))]) (n := 8) (Nat.le_of_ble_eq_true rfl)
  rw [lg_entry_eq]
  generalize (lg_sl ([.ref (h 1), .int (nI f), .int (nI (msk op nC))]) ++ List.replicate (8 - (lg_sl ([.ref (h 1), .int (nI f), .int (nI (msk op nC))])).length) Slot.unset).toArray = ls at hl ⊢
  have hl : lv_has ls 8 [(0, .ref (h 1)), (1, .int (nI f)), (2, .int (nI (msk op nC)))] := hl
  have hplf := hpl f hf
  refine lv_iconst (v := nI 0) hx hb d_O_nextPlace_0 (by decide +kernel) ?_
  refine lv_istore_n (lv' := [(3, .int (nI 0)), (0, .ref (h 1)), (1, .int (nI f)), (2, .int (nI (msk op nC)))]) hx hb d_O_nextPlace_1 rfl hl (by decide) rfl (fun ls hl => ?_)
  have lpO : ∀ (n_lpO : Nat) (i : Nat), (i ≤ pl f) → (∀ j, j < i → ¬ oCan nC (at2 aK) op j) → pl f - i < n_lpO → ∀ (H : Heap) (locs : List Loc) (ls : Array Slot), va_P (dC, dI) kls (wC h cI (nI nF) (nI nC) yn yt yg ym (fun c => nI (pl c)) (fun c => nI (cf c)) (fun c => nI (ct c)) aK eB eE eA eL eN eC eS eW eT) H → va_D A (wC h cI (nI nF) (nI nC) yn yt yg ym (fun c => nI (pl c)) (fun c => nI (cf c)) (fun c => nI (ct c)) aK eB eE eA eL eN eC eS eW eT) → va_S A s.heap H locs → lv_has ls 8 [(0, .ref (h 1)), (1, .int (nI f)), (2, .int (nI (msk op nC))), (3, .int (nI i))] → W p l e (headSpec w_O_nextPlace ({ frames := 1, cells := 0, slots := 0, locals := 22 })).room s m ([.ref (h 1), .int (nI f), .int (nI (msk op nC))]).toArray below meth c H locs 0 0 (MQ below (va_Qi (fun (r : Int32) (u : Unit) => (∃ i, oNext nC (at2 aK) (pl f) op i ∧ r = nI i) ∨ (oNone nC (at2 aK) (pl f) op ∧ r = -1)) (fun (u : Unit) (t : State) => va_P (dC, dI) kls (wC h cI (nI nF) (nI nC) yn yt yg ym (fun c => nI (pl c)) (fun c => nI (cf c)) (fun c => nI (ct c)) aK eB eE eA eL eN eC eS eW eT) t.heap ∧ va_K (dC, dI) kls (tyC cI) t ∧ va_D (A) (wC h cI (nI nF) (nI nC) yn yt yg ym (fun c => nI (pl c)) (fun c => nI (cf c)) (fun c => nI (ct c)) aK eB eE eA eL eN eC eS eW eT)) A) ([.ref (h 1), .int (nI f), .int (nI (msk op nC))]).toArray s 0 0 A) (F0 m 2 ls []) := by
    intro n_lpO
    induction n_lpO with
    | zero => intro i hi0 hno hn; exact absurd hn (Nat.not_lt_zero _)
    | succ n_lpO ih_lpO =>
      intro i hi0 hno hn H locs ls hP hD hS hl
      refine lv_iload_n hx hb d_O_nextPlace_2 rfl (lv_at hl 3 rfl) ?_
      refine lv_aload_n hx hb d_O_nextPlace_3 rfl (lv_at hl 0 rfl) ?_
      refine va_get (D := (dC, dI)) (ci := 1) (v := .ref (h 2)) (C := R_P) (T := F_P) (N := 6) hx hb hk k_f_P hown hK hP 1 rfl rfl 0 (by decide) (hk _ k_C_19) (fun _ h9 => h9) rfl d_O_nextPlace_4 ?_
      refine lv_iload_n hx hb d_O_nextPlace_7 rfl (lv_at hl 1 rfl) ?_
      refine va_iald hx hb hK hP 2 0 rfl rfl (pk_in f 10 (by omega)) d_O_nextPlace_8 ?_
      refine lv_topi (fun z1 ez1 => ?_)
      obtain rfl : z1 = nI (pl f) := ez1.trans (rd (f := fun c => nI (pl c)) (k := f) (by omega))
      refine lv_icmp_ge (tgt := 97) hx hb d_O_nextPlace_9 (by decide) (fun c_9 => ?_) (fun c_9 => ?_)
      · have c_9 : pl f ≤ i := (nI_leI (a := pl f) (b := i) (by omega) (by omega)).mp c_9
        refine lv_iconst (v := (-1)) hx hb d_O_nextPlace_97 (by decide +kernel) ?_
        exact W.iret (v := (-1)) hx hb hr (fun t ht hW => ⟨⟨(-1), (), rfl, Or.inr ⟨fun j hj => hno j (by omega), rfl⟩, by rw [ht]; exact hP, va_K.moved hW.alike hK, hD⟩, hS.F ht⟩) hS.2.2 d_O_nextPlace_98
      · have c_9 : ¬ pl f ≤ i := fun z9 => c_9 ((nI_leI (a := pl f) (b := i) (by omega) (by omega)).mpr z9)
        refine lv_iconst (v := nI 2) hx hb d_O_nextPlace_12 (by decide +kernel) ?_
        refine lv_istore (lv' := [(4, .int (nI 2)), (0, .ref (h 1)), (1, .int (nI f)), (2, .int (nI (msk op nC))), (3, .int (nI i))]) hx hb d_O_nextPlace_13 hl (by decide) rfl (fun ls hl => ?_)
        refine lv_iconst (v := nI 0) hx hb d_O_nextPlace_15 (by decide +kernel) ?_
        refine lv_istore (lv' := [(5, .int (nI 0)), (4, .int (nI 2)), (0, .ref (h 1)), (1, .int (nI f)), (2, .int (nI (msk op nC))), (3, .int (nI i))]) hx hb d_O_nextPlace_16 hl (by decide) rfl (fun ls hl => ?_)
        refine lv_iconst (v := nI 0) hx hb d_O_nextPlace_18 (by decide +kernel) ?_
        refine lv_istore (lv' := [(6, .int (nI 0)), (5, .int (nI 0)), (4, .int (nI 2)), (0, .ref (h 1)), (1, .int (nI f)), (2, .int (nI (msk op nC))), (3, .int (nI i))]) hx hb d_O_nextPlace_19 hl (by decide) rfl (fun ls hl => ?_)
        have lpI : ∀ (n_lpI : Nat) (k : Nat) (lo : Nat) (hi9 : Nat), (k ≤ nC) → (lo ≤ 2) → (hi9 ≤ 2) → (1 ≤ lo ↔ oP1 (at2 aK) false op i k) → (hi9 = 2 ↔ oP2 (at2 aK) op i k) → nC - k < n_lpI → ∀ (H : Heap) (locs : List Loc) (ls : Array Slot), va_P (dC, dI) kls (wC h cI (nI nF) (nI nC) yn yt yg ym (fun c => nI (pl c)) (fun c => nI (cf c)) (fun c => nI (ct c)) aK eB eE eA eL eN eC eS eW eT) H → va_D A (wC h cI (nI nF) (nI nC) yn yt yg ym (fun c => nI (pl c)) (fun c => nI (cf c)) (fun c => nI (ct c)) aK eB eE eA eL eN eC eS eW eT) → va_S A s.heap H locs → lv_has ls 8 [(0, .ref (h 1)), (1, .int (nI f)), (2, .int (nI (msk op nC))), (3, .int (nI i)), (4, .int (nI lo)), (5, .int (nI hi9)), (6, .int (nI k))] → W p l e (headSpec w_O_nextPlace ({ frames := 1, cells := 0, slots := 0, locals := 22 })).room s m ([.ref (h 1), .int (nI f), .int (nI (msk op nC))]).toArray below meth c H locs 0 0 (MQ below (va_Qi (fun (r : Int32) (u : Unit) => (∃ i, oNext nC (at2 aK) (pl f) op i ∧ r = nI i) ∨ (oNone nC (at2 aK) (pl f) op ∧ r = -1)) (fun (u : Unit) (t : State) => va_P (dC, dI) kls (wC h cI (nI nF) (nI nC) yn yt yg ym (fun c => nI (pl c)) (fun c => nI (cf c)) (fun c => nI (ct c)) aK eB eE eA eL eN eC eS eW eT) t.heap ∧ va_K (dC, dI) kls (tyC cI) t ∧ va_D (A) (wC h cI (nI nF) (nI nC) yn yt yg ym (fun c => nI (pl c)) (fun c => nI (cf c)) (fun c => nI (ct c)) aK eB eE eA eL eN eC eS eW eT)) A) ([.ref (h 1), .int (nI f), .int (nI (msk op nC))]).toArray s 0 0 A) (F0 m 21 ls []) := by
          intro n_lpI
          induction n_lpI with
          | zero => intro k lo hi9 hk0 hlo2 hhi2 hlo hhi hn; exact absurd hn (Nat.not_lt_zero _)
          | succ n_lpI ih_lpI =>
            intro k lo hi9 hk0 hlo2 hhi2 hlo hhi hn H locs ls hP hD hS hl
            refine lv_iload hx hb d_O_nextPlace_21 (lv_at hl 6 rfl) ?_
            refine lv_aload_n hx hb d_O_nextPlace_23 rfl (lv_at hl 0 rfl) ?_
            refine va_get (D := (dC, dI)) (ci := 1) (v := .int (nI nC)) (C := R_P) (T := F_P) (N := 6) hx hb hk k_f_P hown hK hP 1 rfl rfl 5 (by decide) (hk _ k_C_36) (fun _ h9 => h9) rfl d_O_nextPlace_24 ?_
            refine lv_icmp_ge (tgt := 77) hx hb d_O_nextPlace_27 (by decide) (fun c_27 => ?_) (fun c_27 => ?_)
            · have c_27 : nC ≤ k := (nI_leI (a := nC) (b := k) (by omega) (by omega)).mp c_27
              have hkn0 : k = nC := by omega
              rw [hkn0] at hlo hhi
              refine lv_iload hx hb d_O_nextPlace_77 (lv_at hl 4 rfl) ?_
              refine lv_iconst (v := nI 1) hx hb d_O_nextPlace_79 (by decide +kernel) ?_
              refine lv_icmp_lt (tgt := 91) hx hb d_O_nextPlace_80 (by decide) (fun c_80 => ?_) (fun c_80 => ?_)
              · have c_80 : lo < 1 := (nI_ltI (a := lo) (b := 1) (by omega) (by omega)).mp c_80
                refine lv_iinc (v := nI (i + 1)) (lv' := [(3, .int (nI (i + 1))), (0, .ref (h 1)), (1, .int (nI f)), (2, .int (nI (msk op nC))), (4, .int (nI lo)), (5, .int (nI hi9)), (6, .int (nI k))]) hx hb d_O_nextPlace_91 hl (k := 3) rfl (nI_add i 1) (by decide) rfl (fun ls hl => ?_)
                refine lv_goto (tgt := 2) hx hb d_O_nextPlace_94 (by decide) ?_
                have hno2 : ∀ j, j < i + 1 → ¬ oCan nC (at2 aK) op j := by
                  intro j hj hc9
                  rcases Nat.lt_or_ge j i with z | z
                  · exact hno j z hc9
                  · obtain rfl : j = i := by omega
                    first
                      | exact absurd (hlo.mpr ⟨rfl, hc9.1⟩) (by omega)
                      | exact c_86 (hhi.mpr hc9.2)
                exact ih_lpO (i + 1) (by omega) (hno2) (by omega) _ _ _ hP hD hS (lv_sub hl [1, 2, 3, 0] rfl)
              · have c_80 : ¬ lo < 1 := fun z9 => c_80 ((nI_ltI (a := lo) (b := 1) (by omega) (by omega)).mpr z9)
                refine lv_iload hx hb d_O_nextPlace_83 (lv_at hl 5 rfl) ?_
                refine lv_iconst (v := nI 2) hx hb d_O_nextPlace_85 (by decide +kernel) ?_
                refine lv_icmp_ne (tgt := 91) hx hb d_O_nextPlace_86 (by decide) (fun c_86 => ?_) (fun c_86 => ?_)
                · have c_86 : ¬ hi9 = 2 := fun z9 => c_86 ((nI_eq (a := hi9) (b := 2) (by omega) (by omega)).mpr z9)
                  refine lv_iinc (v := nI (i + 1)) (lv' := [(3, .int (nI (i + 1))), (0, .ref (h 1)), (1, .int (nI f)), (2, .int (nI (msk op nC))), (4, .int (nI lo)), (5, .int (nI hi9)), (6, .int (nI k))]) hx hb d_O_nextPlace_91 hl (k := 3) rfl (nI_add i 1) (by decide) rfl (fun ls hl => ?_)
                  refine lv_goto (tgt := 2) hx hb d_O_nextPlace_94 (by decide) ?_
                  have hno2 : ∀ j, j < i + 1 → ¬ oCan nC (at2 aK) op j := by
                    intro j hj hc9
                    rcases Nat.lt_or_ge j i with z | z
                    · exact hno j z hc9
                    · obtain rfl : j = i := by omega
                      first
                        | exact absurd (hlo.mpr ⟨rfl, hc9.1⟩) (by omega)
                        | exact c_86 (hhi.mpr hc9.2)
                  exact ih_lpO (i + 1) (by omega) (hno2) (by omega) _ _ _ hP hD hS (lv_sub hl [1, 2, 3, 0] rfl)
                · have c_86 : hi9 = 2 := (nI_eq (a := hi9) (b := 2) (by omega) (by omega)).mp c_86
                  refine lv_iload_n hx hb d_O_nextPlace_89 rfl (lv_at hl 3 rfl) ?_
                  have hcan : oCan nC (at2 aK) op i := oCan_iff.mp ⟨hlo.mp (by omega), hhi.mp c_86⟩
                  exact W.iret (v := nI i) hx hb hr (fun t ht hW => ⟨⟨nI i, (), rfl, Or.inl ⟨i, ⟨by omega, hcan, hno⟩, rfl⟩, by rw [ht]; exact hP, va_K.moved hW.alike hK, hD⟩, hS.F ht⟩) hS.2.2 d_O_nextPlace_90
            · have c_27 : ¬ nC ≤ k := fun z9 => c_27 ((nI_leI (a := nC) (b := k) (by omega) (by omega)).mpr z9)
              refine lv_iload_n hx hb d_O_nextPlace_30 rfl (lv_at hl 2 rfl) ?_
              refine lv_iload hx hb d_O_nextPlace_31 (lv_at hl 6 rfl) ?_
              refine lv_iushr (v := ush (nI (msk op nC)) k) hx hb d_O_nextPlace_33 rfl ?_
              refine lv_iconst (v := nI 1) hx hb d_O_nextPlace_34 (by decide +kernel) ?_
              refine lv_iand hx hb d_O_nextPlace_35 ?_
              have hmk := msk_lt op nC
              have hp20 := p20_lt hC
              refine lv_topi (fun z2 ez2 => ?_)
              obtain rfl : z2 = nI (((msk op nC).testBit k).toNat) := ez2.trans (ush_bit20 (by omega) (by omega))
              have hbb := bN_lt ((msk op nC).testBit k)
              refine lv_if_eq (tgt := 71) hx hb d_O_nextPlace_36 (by decide) (fun c_36 => ?_) (fun c_36 => ?_)
              · have c_36 : ((msk op nC).testBit k).toNat = 0 := (nI_eq (a := ((msk op nC).testBit k).toNat) (b := 0) (by omega) (by omega)).mp c_36
                refine lv_iinc (v := nI (k + 1)) (lv' := [(6, .int (nI (k + 1))), (0, .ref (h 1)), (1, .int (nI f)), (2, .int (nI (msk op nC))), (3, .int (nI i)), (4, .int (nI lo)), (5, .int (nI hi9))]) hx hb d_O_nextPlace_71 hl (k := 6) rfl (nI_add k 1) (by decide) rfl (fun ls hl => ?_)
                refine lv_goto (tgt := 21) hx hb d_O_nextPlace_74 (by decide) ?_
                have hop : op k = false := by cases hz : op k; rfl; rw [msk_bit, hz, decide_eq_true (show k < nC by omega)] at c_36; exact absurd c_36 (by decide)
                have hlo3 : 1 ≤ lo ↔ oP1 (at2 aK) false op i (k + 1) := by rw [oP1_s, hlo, hop]; exact ⟨fun z => ⟨z, fun z2 => absurd z2 (by decide)⟩, fun z => z.1⟩
                have hhi3 : hi9 = 2 ↔ oP2 (at2 aK) op i (k + 1) := by rw [oP2_s, hhi, hop]; exact ⟨Or.inl, fun z => by rcases z with z | z; exact z; exact absurd z.1 (by decide)⟩
                exact ih_lpI (k + 1) lo hi9 (by omega) (hlo2) (hhi2) (hlo3) (hhi3) (by omega) _ _ _ hP hD hS (lv_sub hl [1, 2, 3, 4, 5, 6, 0] rfl)
              · have c_36 : ¬ ((msk op nC).testBit k).toNat = 0 := fun z9 => c_36 ((nI_eq (a := ((msk op nC).testBit k).toNat) (b := 0) (by omega) (by omega)).mpr z9)
                refine lv_aload_n hx hb d_O_nextPlace_39 rfl (lv_at hl 0 rfl) ?_
                refine va_get (D := (dC, dI)) (ci := 1) (v := .ref (h 5)) (C := R_P) (T := F_P) (N := 6) hx hb hk k_f_P hown hK hP 1 rfl rfl 3 (by decide) (hk _ k_C_29) (fun _ h9 => h9) rfl d_O_nextPlace_40 ?_
                refine lv_iload hx hb d_O_nextPlace_43 (lv_at hl 6 rfl) ?_
                refine va_iald hx hb hK hP 5 0 rfl rfl (pk_in k 20 (by omega)) d_O_nextPlace_45 ?_
                refine lv_topi (fun z3 ez3 => ?_)
                obtain rfl : z3 = aK k := ez3.trans (rd (f := aK) (k := k) (by omega))
                refine lv_iload_n hx hb d_O_nextPlace_46 rfl (lv_at hl 3 rfl) ?_
                refine lv_iload_n hx hb d_O_nextPlace_47 rfl (lv_at hl 3 rfl) ?_
                refine vp_callSi (W.runS (As := [.int (aK k), .int (nI i), .int (nI i)]) (rest := []) ⟨hx, hb, hml, hown, hk⟩ (c_G_at_ok l (aK k) i i (by omega) (by omega)) (va_cwS 3 hk g_O_44 rfl rfl rfl (by decide +kernel) ⟨Nat.le_of_ble_eq_true rfl, Nat.le_of_ble_eq_true rfl⟩) ⟨fun a U g mk q => q, fun U hU hW => ⟨rfl, trivial⟩⟩ rfl rfl hl.1 rfl (lv_room (Nat.le_of_ble_eq_true rfl)) d_O_nextPlace_48 ⟨Nat.le_of_ble_eq_true rfl, Nat.le_of_ble_eq_true rfl⟩) (fun r4 hw => ?_)
                subst hw
                have hat := atN_cl (hcl k (by omega)) (show i < 4 by omega) (show i < 4 by omega)
                refine lv_istore (lv' := [(7, .int (nI (atN (aK k) i i))), (0, .ref (h 1)), (1, .int (nI f)), (2, .int (nI (msk op nC))), (3, .int (nI i)), (4, .int (nI lo)), (5, .int (nI hi9)), (6, .int (nI k))]) hx hb d_O_nextPlace_51 hl (by decide) rfl (fun ls hl => ?_)
                refine lv_iload hx hb d_O_nextPlace_53 (lv_at hl 5 rfl) ?_
                refine lv_iload hx hb d_O_nextPlace_55 (lv_at hl 0 rfl) ?_
                refine va_mmin hx hb (hml.trans hl.1.symm) hown (hk _ k_C_104) (hk _ k_C_105) (hk _ k_C_6) (hk _ k_C_106) (Nat.le_of_ble_eq_true rfl) (Nat.le_of_ble_eq_true rfl) (Nat.le_of_ble_eq_true rfl) (Nat.le_of_ble_eq_true rfl) d_O_nextPlace_57 ?_
                refine lv_topi (fun z5 ez5 => ?_)
                obtain rfl : z5 = nI (min lo (atN (aK k) i i)) := ez5.trans (mmin_n (by omega) (by omega))
                refine lv_istore (lv' := [(4, .int (nI (min lo (atN (aK k) i i)))), (7, .int (nI (atN (aK k) i i))), (0, .ref (h 1)), (1, .int (nI f)), (2, .int (nI (msk op nC))), (3, .int (nI i)), (5, .int (nI hi9)), (6, .int (nI k))]) hx hb d_O_nextPlace_60 hl (by decide) rfl (fun ls hl => ?_)
                refine lv_iload hx hb d_O_nextPlace_62 (lv_at hl 6 rfl) ?_
                refine lv_iload hx hb d_O_nextPlace_64 (lv_at hl 1 rfl) ?_
                refine va_mmax hx hb (hml.trans hl.1.symm) hown (hk _ k_C_107) (hk _ k_C_108) (hk _ k_C_6) (hk _ k_C_109) (Nat.le_of_ble_eq_true rfl) (Nat.le_of_ble_eq_true rfl) (Nat.le_of_ble_eq_true rfl) (Nat.le_of_ble_eq_true rfl) d_O_nextPlace_66 ?_
                refine lv_topi (fun z6 ez6 => ?_)
                obtain rfl : z6 = nI (max hi9 (atN (aK k) i i)) := ez6.trans (mmax_n (by omega) (by omega))
                refine lv_istore (lv' := [(5, .int (nI (max hi9 (atN (aK k) i i)))), (4, .int (nI (min lo (atN (aK k) i i)))), (7, .int (nI (atN (aK k) i i))), (0, .ref (h 1)), (1, .int (nI f)), (2, .int (nI (msk op nC))), (3, .int (nI i)), (6, .int (nI k))]) hx hb d_O_nextPlace_69 hl (by decide) rfl (fun ls hl => ?_)
                refine lv_iinc (v := nI (k + 1)) (lv' := [(6, .int (nI (k + 1))), (5, .int (nI (max hi9 (atN (aK k) i i)))), (4, .int (nI (min lo (atN (aK k) i i)))), (7, .int (nI (atN (aK k) i i))), (0, .ref (h 1)), (1, .int (nI f)), (2, .int (nI (msk op nC))), (3, .int (nI i))]) hx hb d_O_nextPlace_71 hl (k := 7) rfl (nI_add k 1) (by decide) rfl (fun ls hl => ?_)
                refine lv_goto (tgt := 21) hx hb d_O_nextPlace_74 (by decide) ?_
                have hop : op k = true := by cases hz : op k; rw [msk_bit, hz, decide_eq_true (show k < nC by omega)] at c_36; exact absurd rfl c_36; rfl
                have hlo3 : 1 ≤ min lo (atN (aK k) i i) ↔ oP1 (at2 aK) false op i (k + 1) := by rw [oP1_s, ← hlo, hop]; exact ⟨fun z => ⟨by omega, fun _ => by show 0 < atN (aK k) i i; omega⟩, fun z => by have z2 : 0 < atN (aK k) i i := z.2 rfl; omega⟩
                have hhi3 : max hi9 (atN (aK k) i i) = 2 ↔ oP2 (at2 aK) op i (k + 1) := by rw [oP2_s, ← hhi, hop]; exact ⟨fun z => by by_cases z3 : hi9 = 2; exact Or.inl z3; exact Or.inr ⟨rfl, by show atN (aK k) i i = 2; omega⟩, fun z => by rcases z with z | ⟨-, z⟩; omega; have z2 : atN (aK k) i i = 2 := z; omega⟩
                exact ih_lpI (k + 1) (min lo (atN (aK k) i i)) (max hi9 (atN (aK k) i i)) (by omega) (by omega) (by omega) (hlo3) (hhi3) (by omega) _ _ _ hP hD hS (lv_sub hl [4, 5, 6, 7, 2, 1, 0] rfl)
        exact lpI _ 0 2 0 (Nat.zero_le _) (Nat.le_refl _) (Nat.zero_le _) (⟨fun _ => ⟨rfl, fun j hj => absurd hj (Nat.not_lt_zero _)⟩, fun _ => by omega⟩) (⟨fun z => absurd z (by decide), fun ⟨j, hj, _⟩ => absurd hj (Nat.not_lt_zero _)⟩) (Nat.lt_succ_self _) _ _ _ hP hD hS (lv_sub hl [3, 4, 5, 6, 2, 1, 0] rfl)
  exact lpO _ 0 (Nat.zero_le _) (fun j hj => absurd hj (Nat.not_lt_zero _)) (Nat.lt_succ_self _) _ _ _ hP hD hS (lv_sub hl [1, 2, 3, 0] rfl)
set_option maxHeartbeats 4000000 in
set_option maxRecDepth 100000 in
theorem c_O_find_ok (l : Launch) (dC : Nat → ClassId) (dI : Nat → Nat → Nat) (cI : ClassId) (h : Nat → Nat) (sz : Nat) (yn yt yg ym : Int32) (aK eB eE eA eL eN eC eS eW eT : Nat → Int32) (nF nC : Nat) (pl cf ct : Nat → Nat) (f : Nat) (hF : nF ≤ 10) (hC : nC ≤ 20) (hS0 : ∀ c, c < nC → cf c < nF ∧ ct c < nF) (hpl : ∀ i, i < nF → 1 ≤ pl i ∧ pl i ≤ 4) (hf : f < nF) (hcl : ∀ c, c < nC → clN (aK c)) : Met l y_O_find w_O_find ({ frames := 2, cells := 0, slots := 0, locals := 49 }) (va_Pc [.ref (h 15), .ref (h 1), .int (nI f)] (fun U => U.heap.size = sz ∧ va_P (dC, dI) kls (wC h cI (nI nF) (nI nC) yn yt yg ym (fun c => nI (pl c)) (fun c => nI (cf c)) (fun c => nI (ct c)) aK eB eE eA eL eN eC eS eW eT) U.heap ∧ va_K (dC, dI) kls (tyC cI) U ∧ va_D (fun _ => True) (wC h cI (nI nF) (nI nC) yn yt yg ym (fun c => nI (pl c)) (fun c => nI (cf c)) (fun c => nI (ct c)) aK eB eE eA eL eN eC eS eW eT))) (va_Qv (fun (u : Int32 × (Nat → Int32)) => ∃ tl op, oWay nC (at2 aK) (pl f) tl (op0 cf ct f) op ∧ tl.length ≤ 4 ∧ ((¬ oOpen nC op ∧ u.1 = nI tl.length ∧ hO4 tl u.2) ∨ (oOpen nC op ∧ oNone nC (at2 aK) (pl f) op ∧ u.1 = -1))) (fun (u : Int32 × (Nat → Int32)) (t : State) => va_P (dC, dI) kls (wC h cI (nI nF) (nI nC) yn yt yg u.1 (fun c => nI (pl c)) (fun c => nI (cf c)) (fun c => nI (ct c)) aK eB eE eA eL eN eC eS eW u.2) t.heap ∧ va_K (dC, dI) kls (tyC cI) t ∧ va_D (va_A (wC h cI (nI nF) (nI nC) yn yt yg ym (fun c => nI (pl c)) (fun c => nI (cf c)) (fun c => nI (ct c)) aK eB eE eA eL eN eC eS eW eT) sz) (wC h cI (nI nF) (nI nC) yn yt yg u.1 (fun c => nI (pl c)) (fun c => nI (cf c)) (fun c => nI (ct c)) aK eB eE eA eL eN eC eS eW u.2)) (va_A (wC h cI (nI nF) (nI nC) yn yt yg ym (fun c => nI (pl c)) (fun c => nI (cf c)) (fun c => nI (ct c)) aK eB eE eA eL eN eC eS eW eT) sz)) 0 0 (va_A (wC h cI (nI nF) (nI nC) yn yt yg ym (fun c => nI (pl c)) (fun c => nI (cf c)) (fun c => nI (ct c)) aK eB eE eA eL eN eC eS eW eT) sz) := by
  refine Met.ofW (cc := c_O_find) (maxL := 5) (ret := none) (by decide) rfl ?_
  intro p e s m args below meth c s₁ B hml hv
  obtain ⟨rfl, hsz, hP, hK, hD0⟩ := hv
  have hx := B.exec
  have hb := B.bytes
  have hr := B.returns
  have hts := atoms_spec (ws := w_O_find) B.pre
  have hk : ∀ w ∈ wCw, w.before _ s = true := fun w h => hts w (List.mem_cons_of_mem _ h)
  have hown : s.vm.findClass R_O = some m.cls := findClass_of_methodNamed B.named
  have hlocks := B.notSynchronized
  subst hsz
  have hD := hD0.self (sz := s.heap.size)
  generalize hAe : va_A (wC h cI (nI nF) (nI nC) yn yt yg ym (fun c => nI (pl c)) (fun c => nI (cf c)) (fun c => nI (ct c)) aK eB eE eA eL eN eC eS eW eT) s.heap.size = A at hD ⊢
  have hA : ∀ q : Nat, s.heap.size ≤ q → A q := fun q h => by rw [← hAe]; exact Or.inr h
  have hS : va_S A s.heap s.heap [] := va_S.rf
  have hl := lv_entry ([.ref (h 15), .ref (h 1), .int (nI f)]) (n := 5) (Nat.le_of_ble_eq_true rfl)
  rw [lg_entry_eq]
  generalize (lg_sl ([.ref (h 15), .ref (h 1), .int (nI f)]) ++ List.replicate (5 - (lg_sl ([.ref (h 15), .ref (h 1), .int (nI f)])).length) Slot.unset).toArray = ls at hl ⊢
  have hl : lv_has ls 5 [(0, .ref (h 15)), (1, .ref (h 1)), (2, .int (nI f))] := hl
  have hplf := hpl f hf
  refine lv_aload_n hx hb d_O_find_0 rfl (lv_at hl 1 rfl) ?_
  refine lv_iload_n hx hb d_O_find_1 rfl (lv_at hl 2 rfl) ?_
  have hFc := va_free (wc := wC h cI (nI nF) (nI nC) yn yt yg ym (fun c => nI (pl c)) (fun c => nI (cf c)) (fun c => nI (ct c)) aK eB eE eA eL eN eC eS eW eT) hD hS hA [0, 1, 2, 3, 4, 5, 6, 7, 8, 9, 10, 11, 12, 13, 14, 15, 16] rfl
  refine va_calli (va_runS (As := [.ref (h 1), .int (nI f)]) (rest := []) ⟨hx, hb, hml, hown, hk⟩ (c_O_callsToItself_ok l dC dI cI h s.heap.size yn yt yg ym aK eB eE eA eL eN eC eS eW eT nF nC pl cf ct f (hF) (hC) (hS0) (hpl) (hf)) (va_cwS 2 hk g_O_15 rfl rfl rfl (by decide +kernel) ⟨Nat.le_of_ble_eq_true rfl, Nat.le_of_ble_eq_true rfl⟩) ⟨fun a U g mk q => by obtain ⟨q0, q1, qP, qK, qD⟩ := q; exact ⟨q0, q1, qP, va_K.moved (u := U) (U := U.calling g mk a) (Vm.Alike.refl U.vm) qK, qD⟩, fun U hU hW => ⟨rfl, by rw [hU], by rw [hU]; exact hP, va_K.moved hW.alike hK, hD.weaken (fun _ _ _ _ => trivial)⟩⟩ rfl rfl hl.1 rfl (lv_room (Nat.le_of_ble_eq_true rfl)) d_O_find_2 ⟨Nat.le_of_ble_eq_true rfl, Nat.le_of_ble_eq_true rfl⟩) hS (fun q _ h => hFc q h) hFc (fun r1 u9 t H1 locs ht hvm hw hB hz1 hk1 hS => ?_)
  obtain ⟨hP1, hK1, hD1⟩ := hB
  rw [ht] at hP1
  try dsimp only at hw
  obtain ⟨hP, hD⟩ := va_join (wr := []) (w1 := wC h cI (nI nF) (nI nC) yn yt yg ym (fun c => nI (pl c)) (fun c => nI (cf c)) (fun c => nI (ct c)) aK eB eE eA eL eN eC eS eW eT) hP hD [0, 1, 2, 3, 4, 5, 6, 7, 8, 9, 10, 11, 12, 13, 14, 15, 16] [] rfl rfl (by decide) (by decide) hk1 hFc hP1 hD1
  generalize H1 = H at hP hS ⊢
  have hP : va_P (dC, dI) kls (wC h cI (nI nF) (nI nC) yn yt yg ym (fun c => nI (pl c)) (fun c => nI (cf c)) (fun c => nI (ct c)) aK eB eE eA eL eN eC eS eW eT) H := hP
  have hD : va_D A (wC h cI (nI nF) (nI nC) yn yt yg ym (fun c => nI (pl c)) (fun c => nI (cf c)) (fun c => nI (ct c)) aK eB eE eA eL eN eC eS eW eT) := hD
  subst hw
  refine lv_istore_n (lv' := [(3, .int (nI (msk (op0 cf ct f) nC))), (0, .ref (h 15)), (1, .ref (h 1)), (2, .int (nI f))]) hx hb d_O_find_5 rfl hl (by decide) rfl (fun ls hl => ?_)
  refine lv_aload_n hx hb d_O_find_6 rfl (lv_at hl 1 rfl) ?_
  refine lv_iconst (v := nI 0) hx hb d_O_find_7 (by decide +kernel) ?_
  refine va_put (D := (dC, dI)) (ci := 3) (v := .int (nI 0)) (ty := .int) (C := R_O) (T := F_O) (N := 2) hx hb hk k_f_O t_O t_O_ok n_O hown hK hP hD hS 15 rfl rfl 1 (by decide) (hk _ k_C_65) (fun _ h9 => h9) rfl (by decide +kernel) rfl rfl (Nat.le_of_ble_eq_true rfl) d_O_find_8 (fun H locs hP hD hS => ?_)
  have hP : va_P (dC, dI) kls (wC h cI (nI nF) (nI nC) yn yt yg (nI 0) (fun c => nI (pl c)) (fun c => nI (cf c)) (fun c => nI (ct c)) aK eB eE eA eL eN eC eS eW eT) H := hP
  have hD : va_D A (wC h cI (nI nF) (nI nC) yn yt yg (nI 0) (fun c => nI (pl c)) (fun c => nI (cf c)) (fun c => nI (ct c)) aK eB eE eA eL eN eC eS eW eT) := hD
  have lp : ∀ (n_lp : Nat) (tl : List Nat) (op : Nat → Bool) (eT : Nat → Int32), (oWay nC (at2 aK) (pl f) tl (op0 cf ct f) op) → (tl.Nodup) → (∀ i ∈ tl, i < pl f) → (hO4 tl eT) → 5 - tl.length < n_lp → ∀ (H : Heap) (locs : List Loc) (ls : Array Slot), va_P (dC, dI) kls (wC h cI (nI nF) (nI nC) yn yt yg (nI tl.length) (fun c => nI (pl c)) (fun c => nI (cf c)) (fun c => nI (ct c)) aK eB eE eA eL eN eC eS eW eT) H → va_D A (wC h cI (nI nF) (nI nC) yn yt yg (nI tl.length) (fun c => nI (pl c)) (fun c => nI (cf c)) (fun c => nI (ct c)) aK eB eE eA eL eN eC eS eW eT) → va_S A s.heap H locs → lv_has ls 5 [(0, .ref (h 15)), (1, .ref (h 1)), (2, .int (nI f)), (3, .int (nI (msk op nC)))] → W p l e (headSpec w_O_find ({ frames := 2, cells := 0, slots := 0, locals := 49 })).room s m ([.ref (h 15), .ref (h 1), .int (nI f)]).toArray below meth c H locs 0 0 (MQ below (va_Qv (fun (u : Int32 × (Nat → Int32)) => ∃ tl op, oWay nC (at2 aK) (pl f) tl (op0 cf ct f) op ∧ tl.length ≤ 4 ∧ ((¬ oOpen nC op ∧ u.1 = nI tl.length ∧ hO4 tl u.2) ∨ (oOpen nC op ∧ oNone nC (at2 aK) (pl f) op ∧ u.1 = -1))) (fun (u : Int32 × (Nat → Int32)) (t : State) => va_P (dC, dI) kls (wC h cI (nI nF) (nI nC) yn yt yg u.1 (fun c => nI (pl c)) (fun c => nI (cf c)) (fun c => nI (ct c)) aK eB eE eA eL eN eC eS eW u.2) t.heap ∧ va_K (dC, dI) kls (tyC cI) t ∧ va_D (A) (wC h cI (nI nF) (nI nC) yn yt yg u.1 (fun c => nI (pl c)) (fun c => nI (cf c)) (fun c => nI (ct c)) aK eB eE eA eL eN eC eS eW u.2)) A) ([.ref (h 15), .ref (h 1), .int (nI f)]).toArray s 0 0 A) (F0 m 11 ls []) := by
    intro n_lp
    induction n_lp with
    | zero => intro tl op eT hway hnd hlt hR4 hn; exact absurd hn (Nat.not_lt_zero _)
    | succ n_lp ih_lp =>
      intro tl op eT hway hnd hlt hR4 hn H locs ls hP hD hS hl
      have hl4 := oLen (pl f) hnd hlt
      have hmk := msk_lt op nC
      have hp20 := p20_lt hC
      refine lv_iload_n hx hb d_O_find_11 rfl (lv_at hl 3 rfl) ?_
      refine lv_if_eq (tgt := 75) hx hb d_O_find_12 (by decide) (fun c_12 => ?_) (fun c_12 => ?_)
      · have c_12 : msk op nC = 0 := (nI_eq (a := msk op nC) (b := 0) (by omega) (by omega)).mp c_12
        refine lv_iload_n hx hb d_O_find_75 rfl (lv_at hl 3 rfl) ?_
        refine lv_if_eq (tgt := 84) hx hb d_O_find_76 (by decide) (fun c_76 => ?_) (fun c_76 => ?_)
        · have c_76 : msk op nC = 0 := (nI_eq (a := msk op nC) (b := 0) (by omega) (by omega)).mp c_76
          exact W.vret hx hb hr (fun t ht hW => ⟨⟨(nI tl.length, eT), rfl, ⟨tl, op, hway, by omega, Or.inl ⟨msk_0.mp c_76, rfl, hR4⟩⟩, by rw [ht]; exact hP, va_K.moved hW.alike hK, hD⟩, hS.F ht⟩) hS.2.2 d_O_find_84
        · have c_76 : ¬ msk op nC = 0 := fun z9 => c_76 ((nI_eq (a := msk op nC) (b := 0) (by omega) (by omega)).mpr z9)
          refine lv_aload_n hx hb d_O_find_79 rfl (lv_at hl 0 rfl) ?_
          refine lv_iconst (v := (-1)) hx hb d_O_find_80 (by decide +kernel) ?_
          refine va_put (D := (dC, dI)) (ci := 3) (v := .int (-1)) (ty := .int) (C := R_O) (T := F_O) (N := 2) hx hb hk k_f_O t_O t_O_ok n_O hown hK hP hD hS 15 rfl rfl 1 (by decide) (hk _ k_C_65) (fun _ h9 => h9) rfl (by decide +kernel) rfl rfl (Nat.le_of_ble_eq_true rfl) d_O_find_81 (fun H locs hP hD hS => ?_)
          have hP : va_P (dC, dI) kls (wC h cI (nI nF) (nI nC) yn yt yg (-1) (fun c => nI (pl c)) (fun c => nI (cf c)) (fun c => nI (ct c)) aK eB eE eA eL eN eC eS eW eT) H := hP
          have hD : va_D A (wC h cI (nI nF) (nI nC) yn yt yg (-1) (fun c => nI (pl c)) (fun c => nI (cf c)) (fun c => nI (ct c)) aK eB eE eA eL eN eC eS eW eT) := hD
          have hopn : oOpen nC op := by
            rcases Classical.em (oOpen nC op) with z | z
            · exact z
            · exact absurd (msk_0.mpr z) c_76
          have hnn : oNone nC (at2 aK) (pl f) op := by first | exact hnon | exact oFull nC (at2 aK) (pl f) hway hnd hlt (by omega)
          exact W.vret hx hb hr (fun t ht hW => ⟨⟨((-1), eT), rfl, ⟨tl, op, hway, by omega, Or.inr ⟨hopn, hnn, rfl⟩⟩, by rw [ht]; exact hP, va_K.moved hW.alike hK, hD⟩, hS.F ht⟩) hS.2.2 d_O_find_84
      · have c_12 : ¬ msk op nC = 0 := fun z9 => c_12 ((nI_eq (a := msk op nC) (b := 0) (by omega) (by omega)).mpr z9)
        refine lv_aload_n hx hb d_O_find_15 rfl (lv_at hl 0 rfl) ?_
        refine va_get (D := (dC, dI)) (ci := 3) (v := .int (nI tl.length)) (C := R_O) (T := F_O) (N := 2) hx hb hk k_f_O hown hK hP 15 rfl rfl 1 (by decide) (hk _ k_C_65) (fun _ h9 => h9) rfl d_O_find_16 ?_
        refine lv_iconst (v := nI 4) hx hb d_O_find_19 (by decide +kernel) ?_
        refine lv_icmp_ge (tgt := 75) hx hb d_O_find_20 (by decide) (fun c_20 => ?_) (fun c_20 => ?_)
        · have c_20 : 4 ≤ tl.length := (nI_leI (a := 4) (b := tl.length) (by omega) (by omega)).mp c_20
          refine lv_iload_n hx hb d_O_find_75 rfl (lv_at hl 3 rfl) ?_
          refine lv_if_eq (tgt := 84) hx hb d_O_find_76 (by decide) (fun c_76 => ?_) (fun c_76 => ?_)
          · have c_76 : msk op nC = 0 := (nI_eq (a := msk op nC) (b := 0) (by omega) (by omega)).mp c_76
            exact W.vret hx hb hr (fun t ht hW => ⟨⟨(nI tl.length, eT), rfl, ⟨tl, op, hway, by omega, Or.inl ⟨msk_0.mp c_76, rfl, hR4⟩⟩, by rw [ht]; exact hP, va_K.moved hW.alike hK, hD⟩, hS.F ht⟩) hS.2.2 d_O_find_84
          · have c_76 : ¬ msk op nC = 0 := fun z9 => c_76 ((nI_eq (a := msk op nC) (b := 0) (by omega) (by omega)).mpr z9)
            refine lv_aload_n hx hb d_O_find_79 rfl (lv_at hl 0 rfl) ?_
            refine lv_iconst (v := (-1)) hx hb d_O_find_80 (by decide +kernel) ?_
            refine va_put (D := (dC, dI)) (ci := 3) (v := .int (-1)) (ty := .int) (C := R_O) (T := F_O) (N := 2) hx hb hk k_f_O t_O t_O_ok n_O hown hK hP hD hS 15 rfl rfl 1 (by decide) (hk _ k_C_65) (fun _ h9 => h9) rfl (by decide +kernel) rfl rfl (Nat.le_of_ble_eq_true rfl) d_O_find_81 (fun H locs hP hD hS => ?_)
            have hP : va_P (dC, dI) kls (wC h cI (nI nF) (nI nC) yn yt yg (-1) (fun c => nI (pl c)) (fun c => nI (cf c)) (fun c => nI (ct c)) aK eB eE eA eL eN eC eS eW eT) H := hP
            have hD : va_D A (wC h cI (nI nF) (nI nC) yn yt yg (-1) (fun c => nI (pl c)) (fun c => nI (cf c)) (fun c => nI (ct c)) aK eB eE eA eL eN eC eS eW eT) := hD
            have hopn : oOpen nC op := by
              rcases Classical.em (oOpen nC op) with z | z
              · exact z
              · exact absurd (msk_0.mpr z) c_76
            have hnn : oNone nC (at2 aK) (pl f) op := by first | exact hnon | exact oFull nC (at2 aK) (pl f) hway hnd hlt (by omega)
            exact W.vret hx hb hr (fun t ht hW => ⟨⟨((-1), eT), rfl, ⟨tl, op, hway, by omega, Or.inr ⟨hopn, hnn, rfl⟩⟩, by rw [ht]; exact hP, va_K.moved hW.alike hK, hD⟩, hS.F ht⟩) hS.2.2 d_O_find_84
        · have c_20 : ¬ 4 ≤ tl.length := fun z9 => c_20 ((nI_leI (a := 4) (b := tl.length) (by omega) (by omega)).mpr z9)
          refine lv_aload_n hx hb d_O_find_23 rfl (lv_at hl 1 rfl) ?_
          refine lv_iload_n hx hb d_O_find_24 rfl (lv_at hl 2 rfl) ?_
          refine lv_iload_n hx hb d_O_find_25 rfl (lv_at hl 3 rfl) ?_
          have hFc := va_free (wc := wC h cI (nI nF) (nI nC) yn yt yg (nI tl.length) (fun c => nI (pl c)) (fun c => nI (cf c)) (fun c => nI (ct c)) aK eB eE eA eL eN eC eS eW eT) hD hS hA [0, 1, 2, 3, 4, 5, 6, 7, 8, 9, 10, 11, 12, 13, 14, 15, 16] rfl
          refine va_calli (va_runS (As := [.ref (h 1), .int (nI f), .int (nI (msk op nC))]) (rest := []) ⟨hx, hb, hml, hown, hk⟩ (c_O_nextPlace_ok l dC dI cI h H.size yn yt yg (nI tl.length) aK eB eE eA eL eN eC eS eW eT nF nC pl cf ct f op (hF) (hC) (hS0) (hpl) (hf) (hcl)) (va_cwS 3 hk g_O_23 rfl rfl rfl (by decide +kernel) ⟨Nat.le_of_ble_eq_true rfl, Nat.le_of_ble_eq_true rfl⟩) ⟨fun a U g mk q => by obtain ⟨q0, q1, qP, qK, qD⟩ := q; exact ⟨q0, q1, qP, va_K.moved (u := U) (U := U.calling g mk a) (Vm.Alike.refl U.vm) qK, qD⟩, fun U hU hW => ⟨rfl, by rw [hU], by rw [hU]; exact hP, va_K.moved hW.alike hK, hD.weaken (fun _ _ _ _ => trivial)⟩⟩ rfl rfl hl.1 rfl (lv_room (Nat.le_of_ble_eq_true rfl)) d_O_find_26 ⟨Nat.le_of_ble_eq_true rfl, Nat.le_of_ble_eq_true rfl⟩) hS (fun q _ h => hFc q h) hFc (fun r2 u9 t H1 locs ht hvm hw hB hz1 hk1 hS => ?_)
          obtain ⟨hP1, hK1, hD1⟩ := hB
          rw [ht] at hP1
          try dsimp only at hw
          obtain ⟨hP, hD⟩ := va_join (wr := []) (w1 := wC h cI (nI nF) (nI nC) yn yt yg (nI tl.length) (fun c => nI (pl c)) (fun c => nI (cf c)) (fun c => nI (ct c)) aK eB eE eA eL eN eC eS eW eT) hP hD [0, 1, 2, 3, 4, 5, 6, 7, 8, 9, 10, 11, 12, 13, 14, 15, 16] [] rfl rfl (by decide) (by decide) hk1 hFc hP1 hD1
          generalize H1 = H at hP hS ⊢
          have hP : va_P (dC, dI) kls (wC h cI (nI nF) (nI nC) yn yt yg (nI tl.length) (fun c => nI (pl c)) (fun c => nI (cf c)) (fun c => nI (ct c)) aK eB eE eA eL eN eC eS eW eT) H := hP
          have hD : va_D A (wC h cI (nI nF) (nI nC) yn yt yg (nI tl.length) (fun c => nI (pl c)) (fun c => nI (cf c)) (fun c => nI (ct c)) aK eB eE eA eL eN eC eS eW eT) := hD
          rcases hw with ⟨i, hnx, hr9⟩ | ⟨hnon, hr9⟩
          · subst hr9
            have hipl := hnx.1
            refine lv_istore (lv' := [(4, .int (nI i)), (0, .ref (h 15)), (1, .ref (h 1)), (2, .int (nI f)), (3, .int (nI (msk op nC)))]) hx hb d_O_find_29 hl (by decide) rfl (fun ls hl => ?_)
            refine lv_iload hx hb d_O_find_31 (lv_at hl 0 rfl) ?_
            refine lv_iconst (v := (-1)) hx hb d_O_find_33 (by decide +kernel) ?_
            refine lv_icmp_ne (tgt := 40) hx hb d_O_find_34 (by decide) (fun c_34 => ?_) (fun c_34 => ?_)
            · refine lv_aload_n hx hb d_O_find_40 rfl (lv_at hl 1 rfl) ?_
              refine va_get (D := (dC, dI)) (ci := 3) (v := .ref (h 16)) (C := R_O) (T := F_O) (N := 2) hx hb hk k_f_O hown hK hP 15 rfl rfl 0 (by decide) (hk _ k_C_63) (fun _ h9 => h9) rfl d_O_find_41 ?_
              refine lv_aload_n hx hb d_O_find_44 rfl (lv_at hl 1 rfl) ?_
              refine va_get (D := (dC, dI)) (ci := 3) (v := .int (nI tl.length)) (C := R_O) (T := F_O) (N := 2) hx hb hk k_f_O hown hK hP 15 rfl rfl 1 (by decide) (hk _ k_C_65) (fun _ h9 => h9) rfl d_O_find_45 ?_
              refine lv_iload hx hb d_O_find_48 (lv_at hl 0 rfl) ?_
              refine va_iast hx hb hK hP hD hS 16 0 rfl rfl (pk_in tl.length 4 (by omega)) d_O_find_50 (fun H locs hP hD hS => ?_)
              rw [nI_clamp (n := tl.length) (by omega)] at hP hD
              have hP : va_P (dC, dI) kls (wC h cI (nI nF) (nI nC) yn yt yg (nI tl.length) (fun c => nI (pl c)) (fun c => nI (cf c)) (fun c => nI (ct c)) aK eB eE eA eL eN eC eS eW (upd eT tl.length (nI i))) H := hP
              have hD : va_D A (wC h cI (nI nF) (nI nC) yn yt yg (nI tl.length) (fun c => nI (pl c)) (fun c => nI (cf c)) (fun c => nI (ct c)) aK eB eE eA eL eN eC eS eW (upd eT tl.length (nI i))) := hD
              refine lv_aload_n hx hb d_O_find_51 rfl (lv_at hl 1 rfl) ?_
              refine lv_dup hx hb d_O_find_52 rfl ?_
              refine va_get (D := (dC, dI)) (ci := 3) (v := .int (nI tl.length)) (C := R_O) (T := F_O) (N := 2) hx hb hk k_f_O hown hK hP 15 rfl rfl 1 (by decide) (hk _ k_C_65) (fun _ h9 => h9) rfl d_O_find_53 ?_
              refine lv_iconst (v := nI 1) hx hb d_O_find_56 (by decide +kernel) ?_
              refine lv_iadd hx hb d_O_find_57 ?_
              refine lv_topi (fun z3 ez3 => ?_)
              obtain rfl : z3 = nI (tl.length + 1) := ez3.trans (nI_add _ _)
              refine va_put (D := (dC, dI)) (ci := 3) (v := .int (nI (tl.length + 1))) (ty := .int) (C := R_O) (T := F_O) (N := 2) hx hb hk k_f_O t_O t_O_ok n_O hown hK hP hD hS 15 rfl rfl 1 (by decide) (hk _ k_C_65) (fun _ h9 => h9) rfl (by decide +kernel) rfl rfl (Nat.le_of_ble_eq_true rfl) d_O_find_58 (fun H locs hP hD hS => ?_)
              have hP : va_P (dC, dI) kls (wC h cI (nI nF) (nI nC) yn yt yg (nI (tl.length + 1)) (fun c => nI (pl c)) (fun c => nI (cf c)) (fun c => nI (ct c)) aK eB eE eA eL eN eC eS eW (upd eT tl.length (nI i))) H := hP
              have hD : va_D A (wC h cI (nI nF) (nI nC) yn yt yg (nI (tl.length + 1)) (fun c => nI (pl c)) (fun c => nI (cf c)) (fun c => nI (ct c)) aK eB eE eA eL eN eC eS eW (upd eT tl.length (nI i))) := hD
              refine lv_iload_n hx hb d_O_find_61 rfl (lv_at hl 4 rfl) ?_
              refine lv_aload_n hx hb d_O_find_62 rfl (lv_at hl 2 rfl) ?_
              refine lv_iload hx hb d_O_find_63 (lv_at hl 0 rfl) ?_
              have hFc := va_free (wc := wC h cI (nI nF) (nI nC) yn yt yg (nI (tl.length + 1)) (fun c => nI (pl c)) (fun c => nI (cf c)) (fun c => nI (ct c)) aK eB eE eA eL eN eC eS eW (upd eT tl.length (nI i))) hD hS hA [0, 1, 2, 3, 4, 5, 6, 7, 8, 9, 10, 11, 12, 13, 14, 15, 16] rfl
              refine va_calli (va_runS (As := [.ref (h 1), .int (nI i)]) (rest := [.int (nI (msk op nC))]) ⟨hx, hb, hml, hown, hk⟩ (c_O_callsWhereLess_ok l dC dI cI h H.size yn yt yg (nI (tl.length + 1)) aK eB eE eA eL eN eC eS eW (upd eT tl.length (nI i)) nF nC pl cf ct i (hF) (hC) (hS0) (hpl) (by omega)) (va_cwS 2 hk g_O_27 rfl rfl rfl (by decide +kernel) ⟨Nat.le_of_ble_eq_true rfl, Nat.le_of_ble_eq_true rfl⟩) ⟨fun a U g mk q => by obtain ⟨q0, q1, qP, qK, qD⟩ := q; exact ⟨q0, q1, qP, va_K.moved (u := U) (U := U.calling g mk a) (Vm.Alike.refl U.vm) qK, qD⟩, fun U hU hW => ⟨rfl, by rw [hU], by rw [hU]; exact hP, va_K.moved hW.alike hK, hD.weaken (fun _ _ _ _ => trivial)⟩⟩ rfl rfl hl.1 rfl (lv_room (Nat.le_of_ble_eq_true rfl)) d_O_find_65 ⟨Nat.le_of_ble_eq_true rfl, Nat.le_of_ble_eq_true rfl⟩) hS (fun q _ h => hFc q h) hFc (fun r4 u9 t H1 locs ht hvm hw hB hz1 hk1 hS => ?_)
              obtain ⟨hP1, hK1, hD1⟩ := hB
              rw [ht] at hP1
              try dsimp only at hw
              obtain ⟨hP, hD⟩ := va_join (wr := []) (w1 := wC h cI (nI nF) (nI nC) yn yt yg (nI (tl.length + 1)) (fun c => nI (pl c)) (fun c => nI (cf c)) (fun c => nI (ct c)) aK eB eE eA eL eN eC eS eW (upd eT tl.length (nI i))) hP hD [0, 1, 2, 3, 4, 5, 6, 7, 8, 9, 10, 11, 12, 13, 14, 15, 16] [] rfl rfl (by decide) (by decide) hk1 hFc hP1 hD1
              generalize H1 = H at hP hS ⊢
              have hP : va_P (dC, dI) kls (wC h cI (nI nF) (nI nC) yn yt yg (nI (tl.length + 1)) (fun c => nI (pl c)) (fun c => nI (cf c)) (fun c => nI (ct c)) aK eB eE eA eL eN eC eS eW (upd eT tl.length (nI i))) H := hP
              have hD : va_D A (wC h cI (nI nF) (nI nC) yn yt yg (nI (tl.length + 1)) (fun c => nI (pl c)) (fun c => nI (cf c)) (fun c => nI (ct c)) aK eB eE eA eL eN eC eS eW (upd eT tl.length (nI i))) := hD
              subst hw
              refine lv_iconst (v := (-1)) hx hb d_O_find_68 (by decide +kernel) ?_
              refine lv_ixor hx hb d_O_find_69 ?_
              refine lv_iand hx hb d_O_find_70 ?_
              refine lv_topi (fun z5 ez5 => ?_)
              obtain rfl : z5 = nI (msk (oCut (at2 aK) op i) nC) := ez5.trans (msk_cut (at2 aK) op i hC)
              refine lv_istore_n (lv' := [(3, .int (nI (msk (oCut (at2 aK) op i) nC))), (4, .int (nI i)), (0, .ref (h 15)), (1, .ref (h 1)), (2, .int (nI f))]) hx hb d_O_find_71 rfl hl (by decide) rfl (fun ls hl => ?_)
              refine lv_goto (tgt := 11) hx hb d_O_find_72 (by decide) ?_
              have hlt2 : ∀ j ∈ tl ++ [i], j < pl f := by
                intro j hj
                rcases List.mem_append.mp hj with z | z
                · exact hlt j z
                · rw [List.mem_singleton.mp z]; omega
              have hopn : oOpen nC op := by
                rcases Classical.em (oOpen nC op) with z | z
                · exact z
                · exact absurd (msk_0.mpr z) c_12
              have hln : (tl ++ [i]).length = tl.length + 1 := by rw [List.length_append]; rfl
              rw [← hln] at hP hD
              exact ih_lp (tl ++ [i]) (oCut (at2 aK) op i) (upd eT tl.length (nI i)) (oWay_snoc nC (at2 aK) (pl f) hway hopn hnx) (nd_snoc hnd (oNew nC (at2 aK) (pl f) hway hnx.2.1)) (hlt2) (hO4_snoc hR4 i) (by omega) _ _ _ hP hD hS (lv_sub hl [2, 3, 4, 0] rfl)
            · exact absurd c_34 (ah_neg (by omega))
          · subst hr9
            refine lv_istore (lv' := [(4, .int (-1)), (0, .ref (h 15)), (1, .ref (h 1)), (2, .int (nI f)), (3, .int (nI (msk op nC)))]) hx hb d_O_find_29 hl (by decide) rfl (fun ls hl => ?_)
            refine lv_iload hx hb d_O_find_31 (lv_at hl 0 rfl) ?_
            refine lv_iconst (v := (-1)) hx hb d_O_find_33 (by decide +kernel) ?_
            refine lv_icmp_ne (tgt := 40) hx hb d_O_find_34 (by decide) (fun c_34 => ?_) (fun c_34 => ?_)
            · exact absurd rfl c_34
            · refine lv_goto (tgt := 75) hx hb d_O_find_37 (by decide) ?_
              refine lv_iload_n hx hb d_O_find_75 rfl (lv_at hl 4 rfl) ?_
              refine lv_if_eq (tgt := 84) hx hb d_O_find_76 (by decide) (fun c_76 => ?_) (fun c_76 => ?_)
              · have c_76 : msk op nC = 0 := (nI_eq (a := msk op nC) (b := 0) (by omega) (by omega)).mp c_76
                exact W.vret hx hb hr (fun t ht hW => ⟨⟨(nI tl.length, eT), rfl, ⟨tl, op, hway, by omega, Or.inl ⟨msk_0.mp c_76, rfl, hR4⟩⟩, by rw [ht]; exact hP, va_K.moved hW.alike hK, hD⟩, hS.F ht⟩) hS.2.2 d_O_find_84
              · have c_76 : ¬ msk op nC = 0 := fun z9 => c_76 ((nI_eq (a := msk op nC) (b := 0) (by omega) (by omega)).mpr z9)
                refine lv_aload_n hx hb d_O_find_79 rfl (lv_at hl 1 rfl) ?_
                refine lv_iconst (v := (-1)) hx hb d_O_find_80 (by decide +kernel) ?_
                refine va_put (D := (dC, dI)) (ci := 3) (v := .int (-1)) (ty := .int) (C := R_O) (T := F_O) (N := 2) hx hb hk k_f_O t_O t_O_ok n_O hown hK hP hD hS 15 rfl rfl 1 (by decide) (hk _ k_C_65) (fun _ h9 => h9) rfl (by decide +kernel) rfl rfl (Nat.le_of_ble_eq_true rfl) d_O_find_81 (fun H locs hP hD hS => ?_)
                have hP : va_P (dC, dI) kls (wC h cI (nI nF) (nI nC) yn yt yg (-1) (fun c => nI (pl c)) (fun c => nI (cf c)) (fun c => nI (ct c)) aK eB eE eA eL eN eC eS eW eT) H := hP
                have hD : va_D A (wC h cI (nI nF) (nI nC) yn yt yg (-1) (fun c => nI (pl c)) (fun c => nI (cf c)) (fun c => nI (ct c)) aK eB eE eA eL eN eC eS eW eT) := hD
                have hopn : oOpen nC op := by
                  rcases Classical.em (oOpen nC op) with z | z
                  · exact z
                  · exact absurd (msk_0.mpr z) c_76
                have hnn : oNone nC (at2 aK) (pl f) op := by first | exact hnon | exact oFull nC (at2 aK) (pl f) hway hnd hlt (by omega)
                exact W.vret hx hb hr (fun t ht hW => ⟨⟨((-1), eT), rfl, ⟨tl, op, hway, by omega, Or.inr ⟨hopn, hnn, rfl⟩⟩, by rw [ht]; exact hP, va_K.moved hW.alike hK, hD⟩, hS.F ht⟩) hS.2.2 d_O_find_84
  exact lp _ ([]) (op0 cf ct f) eT (rfl) (List.nodup_nil) (fun i hi => absurd hi List.not_mem_nil) (fun j y hj => by simp at hj) (Nat.lt_succ_self _) _ _ _ hP hD hS (lv_sub hl [1, 2, 3, 0] rfl)
