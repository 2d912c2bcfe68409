def qMB (j : Nat) (mk v : Int32) : En → Bool := fun e => e.2.1 == j && (e.2.2.1 &&& mk == v)
/-- a function's rows stand from a on -/
def hSg (L : List En) (a : Nat) (eB eE : Nat → Int32) : Prop := ∀ k e, L[k]? = some e → eB (a + k) = e.2.2.1 ∧ eE (a + k) = nI e.2.1
/-- the bits of those that end at j, as numbers -/
def bitsL (L : List En) (j : Nat) : List Nat := (L.filter (fun e => e.2.1 == j)).map (fun e => uN e.2.2.1)
/-- ones from bit n on; how one behind -/
def mkB (n : Nat) : Int32 := nI (4294967296 - 2 ^ n)
def bM (n : Nat) : Int32 := nI n - 1
theorem bM_s (n : Nat) : bM (n + 1) = nI n := nI_pred n
theorem bM_0 : bM 0 < 0 := by decide +kernel
theorem bM_m (n : Nat) : nI n + Int32.ofInt (-1) = bM n := by
  unfold bM
  rw [Int32.sub_eq_add_neg]
  rfl
theorem mkB_s : ∀ n, n < 32 → mkB (n + 1) ||| shl (nI 1) n = mkB n := by decide +kernel
theorem mkB_b : ∀ n, n < 33 → ∀ i, i < 32 → bt (mkB n) i = decide (n ≤ i) := by decide +kernel
theorem mk_and (x : Int32) {n : Nat} (hn : n < 33) : x &&& mkB n = nI (uN x / 2 ^ n * 2 ^ n) := by
  apply b_ext
  intro i hi
  rw [b_and, mkB_b n hn i hi]
  show _ = (BitVec.ofNat 32 (uN x / 2 ^ n * 2 ^ n)).getLsbD i
  rw [BitVec.getLsbD_ofNat, decide_eq_true hi, Bool.true_and, Nat.testBit_mul_two_pow, Nat.testBit_div_two_pow]
  by_cases h : n ≤ i
  · rw [decide_eq_true h, show i - n + n = i by omega, Bool.true_and, Bool.and_true]; rfl
  · rw [decide_eq_false h]; simp
theorem nI_inj32 {a b : Nat} (ha : a < 2 ^ 32) (hb : b < 2 ^ 32) : nI a = nI b ↔ a = b := by
  constructor
  · intro h
    have h1 := congrArg (fun z : Int32 => z.toBitVec.toNat) h
    have h2 : (nI a).toBitVec.toNat = (nI b).toBitVec.toNat := h1
    rwa [pk_tn ha, pk_tn hb] at h2
  · rintro rfl; rfl
theorem mk_eq (x : Int32) {n F : Nat} (hn : n < 33) (hF : F * 2 ^ n < 2 ^ 32) : x &&& mkB n = nI (F * 2 ^ n) ↔ uN x / 2 ^ n = F := by
  have hx := uN_lt x
  have h1 : uN x / 2 ^ n * 2 ^ n ≤ uN x := Nat.div_mul_le_self _ _
  rw [mk_and x hn, nI_inj32 (by omega) hF]
  constructor
  · intro h; exact Nat.eq_of_mul_eq_mul_right (Nat.two_pow_pos n) h
  · rintro rfl; rfl
theorem cnt_bits (L : List En) (j : Nat) {n F : Nat} (hn : n < 33) (hF : F * 2 ^ n < 2 ^ 32) : L.countP (qMB j (mkB n) (nI (F * 2 ^ n))) = (bitsL L j).countP (fun z => decide (z / 2 ^ n = F)) := by
  unfold bitsL
  rw [List.countP_map, List.countP_filter]
  congr 1
  funext e
  unfold qMB
  show (e.2.1 == j && (e.2.2.1 &&& mkB n == nI (F * 2 ^ n))) = (decide (uN e.2.2.1 / 2 ^ n = F) && (e.2.1 == j))
  rw [Bool.and_comm]
  congr 1
  rw [Bool.eq_iff_iff, beq_iff_eq, decide_eq_true_iff]
  exact mk_eq e.2.2.1 hn hF
theorem cnt_all (L : List En) (j : Nat) : L.countP (qMB j 0 0) = (bitsL L j).length := by
  unfold bitsL
  rw [List.length_map, ← List.countP_eq_length_filter]
  congr 1
  funext e
  unfold qMB
  rw [show e.2.2.1 &&& 0 = 0 from b_ext (fun i _ => by rw [b_and, b_0]; simp)]
  simp
theorem or_low (F n : Nat) : F * 2 ^ (n + 1) ||| 2 ^ n = (2 * F + 1) * 2 ^ n := by
  apply Nat.eq_of_testBit_eq
  intro i
  rw [Nat.testBit_or, Nat.testBit_mul_two_pow, Nat.testBit_mul_two_pow, Nat.testBit_two_pow]
  rcases Nat.lt_trichotomy i n with h | h | h
  · rw [decide_eq_false (by omega), decide_eq_false (by omega), decide_eq_false (by omega)]; rfl
  · subst h
    rw [decide_eq_false (by omega), decide_eq_true rfl, decide_eq_true (Nat.le_refl _), Nat.sub_self, Nat.testBit_zero]
    have : (2 * F + 1) % 2 = 1 := by omega
    rw [this]; rfl
  · obtain ⟨t, rfl⟩ : ∃ t, i = n + 1 + t := ⟨i - n - 1, by omega⟩
    rw [decide_eq_true (by omega), decide_eq_false (by omega), decide_eq_true (by omega), show n + 1 + t - (n + 1) = t by omega, show n + 1 + t - n = t + 1 by omega, Nat.testBit_succ, show (2 * F + 1) / 2 = F by omega]
    simp
theorem shl_1w : ∀ n, n < 32 → shl (nI 1) n = nI (2 ^ n) := by decide +kernel
theorem bits_lt (L : List En) (j : Nat) : ∀ z ∈ bitsL L j, z < 2 ^ 32 := by
  intro z hz
  obtain ⟨e, -, rfl⟩ := List.mem_map.mp hz
  exact uN_lt _
set_option maxHeartbeats 4000000 in
set_option maxRecDepth 100000 in
theorem c_C_countAlike_ok (l : Launch) (dC : Nat → ClassId) (dI : Nat → Nat → Nat) (cI : ClassId) (h : Nat → Nat) (sz : Nat) (yf yc yn yt yg ym : Int32) (aP aF aT aK eB eE eA eL eN eC eS eW eT : Nat → Int32) (L : List En) (i j a : Nat) (mk v : Int32) (hi : i < 10) (hj : j < 16) (ha : eS i = nI a) (hb9 : eS (i + 1) = nI (a + L.length)) (hal : a + L.length ≤ 800) (hsg : hSg L a eB eE) (hsm : smR L) : Met l y_C_countAlike w_C_countAlike ({ frames := 0, cells := 0, slots := 0, locals := 0 }) (va_Pc [.ref (h 6), .int (nI i), .int (nI j), .int mk, .int v] (fun U => U.heap.size = sz ∧ va_P (dC, dI) kls (wC h cI yf yc yn yt yg ym aP aF aT aK eB eE eA eL eN eC eS eW eT) U.heap ∧ va_K (dC, dI) kls (tyC cI) U ∧ va_D (fun _ => True) (wC h cI yf yc yn yt yg ym aP aF aT aK eB eE eA eL eN eC eS eW eT))) (va_Qi (fun (r : Int32) (u : Unit) => r = nI (L.countP (qMB j mk v))) (fun (u : Unit) (t : State) => va_P (dC, dI) kls (wC h cI yf yc yn yt yg ym aP aF aT aK eB eE eA eL eN eC eS eW eT) t.heap ∧ va_K (dC, dI) kls (tyC cI) t ∧ va_D (va_A (wC h cI yf yc yn yt yg ym aP aF aT aK eB eE eA eL eN eC eS eW eT) sz) (wC h cI yf yc yn yt yg ym aP aF aT aK eB eE eA eL eN eC eS eW eT)) (va_A (wC h cI yf yc yn yt yg ym aP aF aT aK eB eE eA eL eN eC eS eW eT) sz)) 0 0 (va_A (wC h cI yf yc yn yt yg ym aP aF aT aK eB eE eA eL eN eC eS eW eT) sz) := by
  refine Met.ofW (cc := c_C_countAlike) (maxL := 7) (ret := (some .int)) (by decide) rfl ?_
  intro p e s m args below meth c s₁ B hml hv
  obtain ⟨rfl, hsz, hP, hK, hD0⟩ := hv
  have hx := B.exec
  have hb := B.bytes
  have hr := B.returns
  have hts := atoms_spec (ws := w_C_countAlike) B.pre
  have hk : ∀ w ∈ wCw, w.before _ s = true := fun w h => hts w (List.mem_cons_of_mem _ h)
  have hown : s.vm.findClass R_C = some m.cls := findClass_of_methodNamed B.named
  have hlocks := B.notSynchronized
  subst hsz
  have hD := hD0.self (sz := s.heap.size)
  generalize hAe : va_A (wC h cI yf yc yn yt yg ym aP aF aT aK eB eE eA eL eN eC eS eW eT) s.heap.size = A at hD ⊢
  have hA : ∀ q : Nat, s.heap.size ≤ q → A q := fun q h => by rw [← hAe]; exact Or.inr h
  have hS : va_S A s.heap s.heap [] := va_S.rf
  have hl := lv_entry ([.ref (h 6), .int (nI i), .int (nI j), .int mk, .int v]) (n := 7) (Nat.le_of_ble_eq_true rfl)
  rw [lg_entry_eq]
  generalize (lg_sl ([.ref (h 6), .int (nI i), .int (nI j), .int mk, .int v]) ++ List.replicate (7 - (lg_sl ([.ref (h 6), .int (nI i), .int (nI j), .int mk, .int v])).length) Slot.unset).toArray = ls at hl ⊢
  have hl : lv_has ls 7 [(0, .ref (h 6)), (1, .int (nI i)), (2, .int (nI j)), (3, .int mk), (4, .int v)] := hl
  refine lv_iconst (v := nI 0) hx hb d_C_countAlike_0 (by decide +kernel) ?_
  refine lv_istore (lv' := [(5, .int (nI 0)), (0, .ref (h 6)), (1, .int (nI i)), (2, .int (nI j)), (3, .int mk), (4, .int v)]) hx hb d_C_countAlike_1 hl (by decide) rfl (fun ls hl => ?_)
  refine lv_aload_n hx hb d_C_countAlike_3 rfl (lv_at hl 1 rfl) ?_
  refine va_get (D := (dC, dI)) (ci := 2) (v := .ref (h 13)) (C := R_C) (T := F_C) (N := 11) hx hb hk k_f_C hown hK hP 6 rfl rfl 6 (by decide) (hk _ k_C_51) (fun _ h9 => h9) rfl d_C_countAlike_4 ?_
  refine lv_iload_n hx hb d_C_countAlike_7 rfl (lv_at hl 2 rfl) ?_
  refine va_iald hx hb hK hP 13 0 rfl rfl (pk_in i 11 (by omega)) d_C_countAlike_8 ?_
  refine lv_topi (fun z1 ez1 => ?_)
  obtain rfl : z1 = nI a := ez1.trans ((rd (f := eS) (k := i) (by omega)).trans ha)
  refine lv_istore (lv' := [(6, .int (nI a)), (5, .int (nI 0)), (0, .ref (h 6)), (1, .int (nI i)), (2, .int (nI j)), (3, .int mk), (4, .int v)]) hx hb d_C_countAlike_9 hl (by decide) rfl (fun ls hl => ?_)
  have ha0 : nI a = nI (a + 0) := rfl
  rw [ha0] at hl
  have lp : ∀ (n_lp : Nat) (k : Nat), (k ≤ L.length) → L.length - k < n_lp → ∀ (H : Heap) (locs : List Loc) (ls : Array Slot), va_P (dC, dI) kls (wC h cI yf yc yn yt yg ym aP aF aT aK eB eE eA eL eN eC eS eW eT) H → va_D A (wC h cI yf yc yn yt yg ym aP aF aT aK eB eE eA eL eN eC eS eW eT) → va_S A s.heap H locs → lv_has ls 7 [(0, .ref (h 6)), (1, .int (nI i)), (2, .int (nI j)), (3, .int mk), (4, .int v), (5, .int (nI ((L.take k).countP (qMB j mk v)))), (6, .int (nI (a + k)))] → W p l e (headSpec w_C_countAlike ({ frames := 0, cells := 0, slots := 0, locals := 0 })).room s m ([.ref (h 6), .int (nI i), .int (nI j), .int mk, .int v]).toArray below meth c H locs 0 0 (MQ below (va_Qi (fun (r : Int32) (u : Unit) => r = nI (L.countP (qMB j mk v))) (fun (u : Unit) (t : State) => va_P (dC, dI) kls (wC h cI yf yc yn yt yg ym aP aF aT aK eB eE eA eL eN eC eS eW eT) t.heap ∧ va_K (dC, dI) kls (tyC cI) t ∧ va_D (A) (wC h cI yf yc yn yt yg ym aP aF aT aK eB eE eA eL eN eC eS eW eT)) A) ([.ref (h 6), .int (nI i), .int (nI j), .int mk, .int v]).toArray s 0 0 A) (F0 m 11 ls []) := by
    intro n_lp
    induction n_lp with
    | zero => intro k hk0 hn; exact absurd hn (Nat.not_lt_zero _)
    | succ n_lp ih_lp =>
      intro k hk0 hn H locs ls hP hD hS hl
      refine lv_iload hx hb d_C_countAlike_11 (lv_at hl 6 rfl) ?_
      refine lv_aload_n hx hb d_C_countAlike_13 rfl (lv_at hl 0 rfl) ?_
      refine va_get (D := (dC, dI)) (ci := 2) (v := .ref (h 13)) (C := R_C) (T := F_C) (N := 11) hx hb hk k_f_C hown hK hP 6 rfl rfl 6 (by decide) (hk _ k_C_51) (fun _ h9 => h9) rfl d_C_countAlike_14 ?_
      refine lv_iload_n hx hb d_C_countAlike_17 rfl (lv_at hl 1 rfl) ?_
      refine lv_iconst (v := nI 1) hx hb d_C_countAlike_18 (by decide +kernel) ?_
      refine lv_iadd hx hb d_C_countAlike_19 ?_
      refine lv_topi (fun z2 ez2 => ?_)
      obtain rfl : z2 = nI (i + 1) := ez2.trans (nI_add _ _)
      refine va_iald hx hb hK hP 13 0 rfl rfl (pk_in (i + 1) 11 (by omega)) d_C_countAlike_20 ?_
      refine lv_topi (fun z3 ez3 => ?_)
      obtain rfl : z3 = nI (a + L.length) := ez3.trans ((rd (f := eS) (k := i + 1) (by omega)).trans hb9)
      refine lv_icmp_ge (tgt := 58) hx hb d_C_countAlike_21 (by decide) (fun c_21 => ?_) (fun c_21 => ?_)
      · have c_21 : a + L.length ≤ a + k := (nI_leI (a := a + L.length) (b := a + k) (by omega) (by omega)).mp c_21
        have hke : L.take k = L := List.take_of_length_le (by omega)
        rw [hke] at hl
        refine lv_iload hx hb d_C_countAlike_58 (lv_at hl 5 rfl) ?_
        exact W.iret (v := nI (L.countP (qMB j mk v))) hx hb hr (fun t ht hW => ⟨⟨nI (L.countP (qMB j mk v)), (), rfl, rfl, by rw [ht]; exact hP, va_K.moved hW.alike hK, hD⟩, hS.F ht⟩) hS.2.2 d_C_countAlike_60
      · have c_21 : ¬ a + L.length ≤ a + k := fun z9 => c_21 ((nI_leI (a := a + L.length) (b := a + k) (by omega) (by omega)).mpr z9)
        obtain ⟨en, hen⟩ : ∃ en, L[k]? = some en := ⟨_, List.getElem?_eq_getElem (by omega)⟩
        have hrk := hsg k en hen
        have hsn := hsm en (List.mem_of_getElem? hen)
        have hcn := cnt_next (qMB j mk v) hen
        refine lv_aload_n hx hb d_C_countAlike_24 rfl (lv_at hl 0 rfl) ?_
        refine va_get (D := (dC, dI)) (ci := 2) (v := .ref (h 8)) (C := R_C) (T := F_C) (N := 11) hx hb hk k_f_C hown hK hP 6 rfl rfl 1 (by decide) (hk _ k_C_46) (fun _ h9 => h9) rfl d_C_countAlike_25 ?_
        refine lv_iload hx hb d_C_countAlike_28 (lv_at hl 6 rfl) ?_
        refine va_iald hx hb hK hP 8 0 rfl rfl (pk_in (a + k) 800 (by omega)) d_C_countAlike_30 ?_
        refine lv_topi (fun z4 ez4 => ?_)
        obtain rfl : z4 = nI en.2.1 := ez4.trans ((rd (f := eE) (k := a + k) (by omega)).trans hrk.2)
        refine lv_iload_n hx hb d_C_countAlike_31 rfl (lv_at hl 2 rfl) ?_
        refine lv_icmp_ne (tgt := 52) hx hb d_C_countAlike_32 (by decide) (fun c_32 => ?_) (fun c_32 => ?_)
        · have c_32 : ¬ en.2.1 = j := fun z9 => c_32 ((nI_eq (a := en.2.1) (b := j) (by omega) (by omega)).mpr z9)
          refine lv_iinc (v := nI (a + k + 1)) (lv' := [(6, .int (nI (a + k + 1))), (0, .ref (h 6)), (1, .int (nI i)), (2, .int (nI j)), (3, .int mk), (4, .int v), (5, .int (nI ((L.take k).countP (qMB j mk v))))]) hx hb d_C_countAlike_52 hl (k := 6) rfl (nI_add (a + k) 1) (by decide) rfl (fun ls hl => ?_)
          refine lv_goto (tgt := 11) hx hb d_C_countAlike_55 (by decide) ?_
          have hcn2 : (L.take (k + 1)).countP (qMB j mk v) = (L.take k).countP (qMB j mk v) := by rw [hcn, if_neg (by unfold qMB; intro z9; rw [Bool.and_eq_true, beq_iff_eq, beq_iff_eq] at z9; first | exact c_32 z9.1 | exact c_46 z9.2), Nat.add_zero]
          rw [← hcn2, Nat.add_assoc] at hl
          exact ih_lp (k + 1) (by omega) (by omega) _ _ _ hP hD hS (lv_sub hl [1, 2, 3, 4, 5, 6, 0] rfl)
        · have c_32 : en.2.1 = j := (nI_eq (a := en.2.1) (b := j) (by omega) (by omega)).mp c_32
          refine lv_aload_n hx hb d_C_countAlike_35 rfl (lv_at hl 0 rfl) ?_
          refine va_get (D := (dC, dI)) (ci := 2) (v := .ref (h 7)) (C := R_C) (T := F_C) (N := 11) hx hb hk k_f_C hown hK hP 6 rfl rfl 0 (by decide) (hk _ k_C_45) (fun _ h9 => h9) rfl d_C_countAlike_36 ?_
          refine lv_iload hx hb d_C_countAlike_39 (lv_at hl 6 rfl) ?_
          refine va_iald hx hb hK hP 7 0 rfl rfl (pk_in (a + k) 800 (by omega)) d_C_countAlike_41 ?_
          refine lv_topi (fun z5 ez5 => ?_)
          obtain rfl : z5 = en.2.2.1 := ez5.trans ((rd (f := eB) (k := a + k) (by omega)).trans hrk.1)
          refine lv_iload_n hx hb d_C_countAlike_42 rfl (lv_at hl 3 rfl) ?_
          refine lv_iand hx hb d_C_countAlike_43 ?_
          refine lv_iload hx hb d_C_countAlike_44 (lv_at hl 4 rfl) ?_
          refine lv_icmp_ne (tgt := 52) hx hb d_C_countAlike_46 (by decide) (fun c_46 => ?_) (fun c_46 => ?_)
          · refine lv_iinc (v := nI (a + k + 1)) (lv' := [(6, .int (nI (a + k + 1))), (0, .ref (h 6)), (1, .int (nI i)), (2, .int (nI j)), (3, .int mk), (4, .int v), (5, .int (nI ((L.take k).countP (qMB j mk v))))]) hx hb d_C_countAlike_52 hl (k := 6) rfl (nI_add (a + k) 1) (by decide) rfl (fun ls hl => ?_)
            refine lv_goto (tgt := 11) hx hb d_C_countAlike_55 (by decide) ?_
            have hcn2 : (L.take (k + 1)).countP (qMB j mk v) = (L.take k).countP (qMB j mk v) := by rw [hcn, if_neg (by unfold qMB; intro z9; rw [Bool.and_eq_true, beq_iff_eq, beq_iff_eq] at z9; first | exact c_32 z9.1 | exact c_46 z9.2), Nat.add_zero]
            rw [← hcn2, Nat.add_assoc] at hl
            exact ih_lp (k + 1) (by omega) (by omega) _ _ _ hP hD hS (lv_sub hl [1, 2, 3, 4, 5, 6, 0] rfl)
          · refine lv_iinc (v := nI ((L.take k).countP (qMB j mk v) + 1)) (lv' := [(5, .int (nI ((L.take k).countP (qMB j mk v) + 1))), (0, .ref (h 6)), (1, .int (nI i)), (2, .int (nI j)), (3, .int mk), (4, .int v), (6, .int (nI (a + k)))]) hx hb d_C_countAlike_49 hl (k := 5) rfl (nI_add ((L.take k).countP (qMB j mk v)) 1) (by decide) rfl (fun ls hl => ?_)
            refine lv_iinc (v := nI (a + k + 1)) (lv' := [(6, .int (nI (a + k + 1))), (5, .int (nI ((L.take k).countP (qMB j mk v) + 1))), (0, .ref (h 6)), (1, .int (nI i)), (2, .int (nI j)), (3, .int mk), (4, .int v)]) hx hb d_C_countAlike_52 hl (k := 6) rfl (nI_add (a + k) 1) (by decide) rfl (fun ls hl => ?_)
            refine lv_goto (tgt := 11) hx hb d_C_countAlike_55 (by decide) ?_
            have hcn2 : (L.take (k + 1)).countP (qMB j mk v) = (L.take k).countP (qMB j mk v) + 1 := by rw [hcn, if_pos (by unfold qMB; rw [c_32, c_46]; simp)]
            rw [← hcn2, Nat.add_assoc] at hl
            exact ih_lp (k + 1) (by omega) (by omega) _ _ _ hP hD hS (lv_sub hl [2, 3, 4, 5, 6, 1, 0] rfl)
  exact lp _ 0 (Nat.zero_le _) (Nat.lt_succ_self _) _ _ _ hP hD hS (lv_sub hl [2, 3, 4, 5, 6, 1, 0] rfl)
set_option maxHeartbeats 4000000 in
set_option maxRecDepth 100000 in
theorem c_C_countGraphs_ok (l : Launch) (dC : Nat → ClassId) (dI : Nat → Nat → Nat) (cI : ClassId) (h : Nat → Nat) (sz : Nat) (yf yc yn yt yg ym : Int32) (aP aF aT aK eB eE eA eL eN eC eS eW eT : Nat → Int32) (L : List En) (i j a : Nat) (hi : i < 10) (hj : j < 16) (ha : eS i = nI a) (hb9 : eS (i + 1) = nI (a + L.length)) (hal : a + L.length ≤ 800) (hsg : hSg L a eB eE) (hsm : smR L) : Met l y_C_countGraphs w_C_countGraphs ({ frames := 1, cells := 0, slots := 0, locals := 26 }) (va_Pc [.ref (h 6), .int (nI i), .int (nI j)] (fun U => U.heap.size = sz ∧ va_P (dC, dI) kls (wC h cI yf yc yn yt yg ym aP aF aT aK eB eE eA eL eN eC eS eW eT) U.heap ∧ va_K (dC, dI) kls (tyC cI) U ∧ va_D (fun _ => True) (wC h cI yf yc yn yt yg ym aP aF aT aK eB eE eA eL eN eC eS eW eT))) (va_Qi (fun (r : Int32) (u : Unit) => r = nI (bitsL L j).length) (fun (u : Unit) (t : State) => va_P (dC, dI) kls (wC h cI yf yc yn yt yg ym aP aF aT aK eB eE eA eL eN eC eS eW eT) t.heap ∧ va_K (dC, dI) kls (tyC cI) t ∧ va_D (va_A (wC h cI yf yc yn yt yg ym aP aF aT aK eB eE eA eL eN eC eS eW eT) sz) (wC h cI yf yc yn yt yg ym aP aF aT aK eB eE eA eL eN eC eS eW eT)) (va_A (wC h cI yf yc yn yt yg ym aP aF aT aK eB eE eA eL eN eC eS eW eT) sz)) 0 0 (va_A (wC h cI yf yc yn yt yg ym aP aF aT aK eB eE eA eL eN eC eS eW eT) sz) := by
  refine Met.ofW (cc := c_C_countGraphs) (maxL := 3) (ret := (some .int)) (by decide) rfl ?_
  intro p e s m args below meth c s₁ B hml hv
  obtain ⟨rfl, hsz, hP, hK, hD0⟩ := hv
  have hx := B.exec
  have hb := B.bytes
  have hr := B.returns
  have hts := atoms_spec (ws := w_C_countGraphs) B.pre
  have hk : ∀ w ∈ wCw, w.before _ s = true := fun w h => hts w (List.mem_cons_of_mem _ h)
  have hown : s.vm.findClass R_C = some m.cls := findClass_of_methodNamed B.named
  have hlocks := B.notSynchronized
  subst hsz
  have hD := hD0.self (sz := s.heap.size)
  generalize hAe : va_A (wC h cI yf yc yn yt yg ym aP aF aT aK eB eE eA eL eN eC eS eW eT) s.heap.size = A at hD ⊢
  have hA : ∀ q : Nat, s.heap.size ≤ q → A q := fun q h => by rw [← hAe]; exact Or.inr h
  have hS : va_S A s.heap s.heap [] := va_S.rf
  have hl := lv_entry ([.ref (h 6), .int (nI i), .int (nI j)]) (n := 3) (Nat.le_of_ble_eq_true rfl)
  rw [lg_entry_eq]
  generalize (lg_sl ([.ref (h 6), .int (nI i), .int (nI j)]) ++ List.replicate (3 - (lg_sl ([.ref (h 6), .int (nI i), .int (nI j)])).length) Slot.unset).toArray = ls at hl ⊢
  have hl : lv_has ls 3 [(0, .ref (h 6)), (1, .int (nI i)), (2, .int (nI j))] := hl
  refine lv_aload_n hx hb d_C_countGraphs_0 rfl (lv_at hl 0 rfl) ?_
  refine lv_iload_n hx hb d_C_countGraphs_1 rfl (lv_at hl 1 rfl) ?_
  refine lv_iload_n hx hb d_C_countGraphs_2 rfl (lv_at hl 2 rfl) ?_
  refine lv_iconst (v := nI 0) hx hb d_C_countGraphs_3 (by decide +kernel) ?_
  refine lv_iconst (v := nI 0) hx hb d_C_countGraphs_4 (by decide +kernel) ?_
  have hFc := va_free (wc := wC h cI yf yc yn yt yg ym aP aF aT aK eB eE eA eL eN eC eS eW eT) hD hS hA [0, 1, 2, 3, 4, 5, 6, 7, 8, 9, 10, 11, 12, 13, 14, 15, 16] rfl
  refine va_calli (va_runV (As := [.int (nI i), .int (nI j), .int (nI 0), .int (nI 0)]) (rest := []) ⟨hx, hb, hml, hown, hk⟩ (c_C_countAlike_ok l dC dI cI h s.heap.size yf yc yn yt yg ym aP aF aT aK eB eE eA eL eN eC eS eW eT L i j a (nI 0) (nI 0) (hi) (hj) (ha) (hb9) (hal) (hsg) (hsm)) (cwV 4 hk g_C_100 rfl rfl rfl (by decide +kernel) ⟨Nat.le_of_ble_eq_true rfl, Nat.le_of_ble_eq_true rfl⟩) ⟨fun a U g mk q => by obtain ⟨q0, q1, qP, qK, qD⟩ := q; exact ⟨q0, q1, qP, va_K.moved (u := U) (U := U.calling g mk a) (Vm.Alike.refl U.vm) qK, qD⟩, va_recv hK hP (ci := 2) (q0 := 6) rfl rfl, fun U hU hW => ⟨rfl, by rw [hU], by rw [hU]; exact hP, va_K.moved hW.alike hK, hD.weaken (fun _ _ _ _ => trivial)⟩⟩ rfl rfl hl.1 rfl (lv_room (Nat.le_of_ble_eq_true rfl)) d_C_countGraphs_5 ⟨Nat.le_of_ble_eq_true rfl, Nat.le_of_ble_eq_true rfl⟩) hS (fun q _ h => hFc q h) hFc (fun r1 u9 t H1 locs ht hvm hw hB hz1 hk1 hS => ?_)
  obtain ⟨hP1, hK1, hD1⟩ := hB
  rw [ht] at hP1
  try dsimp only at hw
  obtain ⟨hP, hD⟩ := va_join (wr := []) (w1 := wC h cI yf yc yn yt yg ym aP aF aT aK eB eE eA eL eN eC eS eW eT) hP hD [0, 1, 2, 3, 4, 5, 6, 7, 8, 9, 10, 11, 12, 13, 14, 15, 16] [] rfl rfl (by decide) (by decide) hk1 hFc hP1 hD1
  generalize H1 = H at hP hS ⊢
  have hP : va_P (dC, dI) kls (wC h cI yf yc yn yt yg ym aP aF aT aK eB eE eA eL eN eC eS eW eT) H := hP
  have hD : va_D A (wC h cI yf yc yn yt yg ym aP aF aT aK eB eE eA eL eN eC eS eW eT) := hD
  subst hw
  exact W.iret (v := nI (L.countP (qMB j (nI 0) (nI 0)))) hx hb hr (fun t ht hW => ⟨⟨nI (L.countP (qMB j (nI 0) (nI 0))), (), rfl, (congrArg nI (cnt_all L j)), by rw [ht]; exact hP, va_K.moved hW.alike hK, hD⟩, hS.F ht⟩) hS.2.2 d_C_countGraphs_8
set_option maxHeartbeats 4000000 in
set_option maxRecDepth 100000 in
theorem c_C_graphInOrder_ok (l : Launch) (dC : Nat → ClassId) (dI : Nat → Nat → Nat) (cI : ClassId) (h : Nat → Nat) (sz : Nat) (yf yc yn yt yg ym : Int32) (aP aF aT aK eB eE eA eL eN eC eS eW eT : Nat → Int32) (L : List En) (i j a k1 : Nat) (hi : i < 10) (hj : j < 16) (ha : eS i = nI a) (hb9 : eS (i + 1) = nI (a + L.length)) (hal : a + L.length ≤ 800) (hsg : hSg L a eB eE) (hsm : smR L) (hk1 : k1 < (bitsL L j).length) : Met l y_C_graphInOrder w_C_graphInOrder ({ frames := 1, cells := 0, slots := 0, locals := 26 }) (va_Pc [.ref (h 6), .int (nI i), .int (nI j), .int (nI k1)] (fun U => U.heap.size = sz ∧ va_P (dC, dI) kls (wC h cI yf yc yn yt yg ym aP aF aT aK eB eE eA eL eN eC eS eW eT) U.heap ∧ va_K (dC, dI) kls (tyC cI) U ∧ va_D (fun _ => True) (wC h cI yf yc yn yt yg ym aP aF aT aK eB eE eA eL eN eC eS eW eT))) (va_Qi (fun (r : Int32) (u : Unit) => ∃ F left, F < 2 ^ 32 ∧ r = nI F ∧ selOk (bitsL L j) k1 0 F left) (fun (u : Unit) (t : State) => va_P (dC, dI) kls (wC h cI yf yc yn yt yg ym aP aF aT aK eB eE eA eL eN eC eS eW eT) t.heap ∧ va_K (dC, dI) kls (tyC cI) t ∧ va_D (va_A (wC h cI yf yc yn yt yg ym aP aF aT aK eB eE eA eL eN eC eS eW eT) sz) (wC h cI yf yc yn yt yg ym aP aF aT aK eB eE eA eL eN eC eS eW eT)) (va_A (wC h cI yf yc yn yt yg ym aP aF aT aK eB eE eA eL eN eC eS eW eT) sz)) 0 0 (va_A (wC h cI yf yc yn yt yg ym aP aF aT aK eB eE eA eL eN eC eS eW eT) sz) := by
  refine Met.ofW (cc := c_C_graphInOrder) (maxL := 9) (ret := (some .int)) (by decide) rfl ?_
  intro p e s m args below meth c s₁ B hml hv
  obtain ⟨rfl, hsz, hP, hK, hD0⟩ := hv
  have hx := B.exec
  have hb := B.bytes
  have hr := B.returns
  have hts := atoms_spec (ws := w_C_graphInOrder) B.pre
  have hk : ∀ w ∈ wCw, w.before _ s = true := fun w h => hts w (List.mem_cons_of_mem _ h)
  have hown : s.vm.findClass R_C = some m.cls := findClass_of_methodNamed B.named
  have hlocks := B.notSynchronized
  subst hsz
  have hD := hD0.self (sz := s.heap.size)
  generalize hAe : va_A (wC h cI yf yc yn yt yg ym aP aF aT aK eB eE eA eL eN eC eS eW eT) s.heap.size = A at hD ⊢
  have hA : ∀ q : Nat, s.heap.size ≤ q → A q := fun q h => by rw [← hAe]; exact Or.inr h
  have hS : va_S A s.heap s.heap [] := va_S.rf
  have hl := lv_entry ([.ref (h 6), .int (nI i), .int (nI j), .int (nI k1)]) (n := 9) (Nat.le_of_ble_eq_true rfl)
  rw [lg_entry_eq]
  generalize (lg_sl ([.ref (h 6), .int (nI i), .int (nI j), .int (nI k1)]) ++ List.replicate (9 - (lg_sl ([.ref (h 6), .int (nI i), .int (nI j), .int (nI k1)])).length) Slot.unset).toArray = ls at hl ⊢
  have hl : lv_has ls 9 [(0, .ref (h 6)), (1, .int (nI i)), (2, .int (nI j)), (3, .int (nI k1))] := hl
  refine lv_iload_n hx hb d_C_graphInOrder_0 rfl (lv_at hl 3 rfl) ?_
  refine lv_istore (lv' := [(4, .int (nI k1)), (0, .ref (h 6)), (1, .int (nI i)), (2, .int (nI j)), (3, .int (nI k1))]) hx hb d_C_graphInOrder_1 hl (by decide) rfl (fun ls hl => ?_)
  refine lv_iconst (v := nI 0) hx hb d_C_graphInOrder_3 (by decide +kernel) ?_
  refine lv_istore (lv' := [(5, .int (nI 0)), (4, .int (nI k1)), (0, .ref (h 6)), (1, .int (nI i)), (2, .int (nI j)), (3, .int (nI k1))]) hx hb d_C_graphInOrder_4 hl (by decide) rfl (fun ls hl => ?_)
  refine lv_iconst (v := nI 0) hx hb d_C_graphInOrder_6 (by decide +kernel) ?_
  refine lv_istore (lv' := [(6, .int (nI 0)), (5, .int (nI 0)), (4, .int (nI k1)), (0, .ref (h 6)), (1, .int (nI i)), (2, .int (nI j)), (3, .int (nI k1))]) hx hb d_C_graphInOrder_7 hl (by decide) rfl (fun ls hl => ?_)
  refine lv_bipush (v := nI 31) hx hb d_C_graphInOrder_9 (by decide +kernel) ?_
  refine lv_istore (lv' := [(7, .int (nI 31)), (6, .int (nI 0)), (5, .int (nI 0)), (4, .int (nI k1)), (0, .ref (h 6)), (1, .int (nI i)), (2, .int (nI j)), (3, .int (nI k1))]) hx hb d_C_graphInOrder_11 hl (by decide) rfl (fun ls hl => ?_)
  have hm0 : nI 0 = mkB 32 := by decide +kernel
  have hf0 : nI 0 = nI (0 * 2 ^ 32) := rfl
  have hl : lv_has ls 9 [(7, .int (bM 32)), (6, .int (nI (0 * 2 ^ 32))), (5, .int (mkB 32)), (4, .int (nI k1)), (0, .ref (h 6)), (1, .int (nI i)), (2, .int (nI j)), (3, .int (nI k1))] := hl
  have lp : ∀ (n_lp : Nat) (b9 : Nat) (F : Nat) (left : Nat), (b9 ≤ 32) → (F * 2 ^ b9 < 2 ^ 32) → (selOk (bitsL L j) k1 b9 F left) → b9 < n_lp → ∀ (H : Heap) (locs : List Loc) (ls : Array Slot), va_P (dC, dI) kls (wC h cI yf yc yn yt yg ym aP aF aT aK eB eE eA eL eN eC eS eW eT) H → va_D A (wC h cI yf yc yn yt yg ym aP aF aT aK eB eE eA eL eN eC eS eW eT) → va_S A s.heap H locs → lv_has ls 9 [(0, .ref (h 6)), (1, .int (nI i)), (2, .int (nI j)), (4, .int (nI left)), (5, .int (mkB b9)), (6, .int (nI (F * 2 ^ b9))), (7, .int (bM b9))] → W p l e (headSpec w_C_graphInOrder ({ frames := 1, cells := 0, slots := 0, locals := 26 })).room s m ([.ref (h 6), .int (nI i), .int (nI j), .int (nI k1)]).toArray below meth c H locs 0 0 (MQ below (va_Qi (fun (r : Int32) (u : Unit) => ∃ F left, F < 2 ^ 32 ∧ r = nI F ∧ selOk (bitsL L j) k1 0 F left) (fun (u : Unit) (t : State) => va_P (dC, dI) kls (wC h cI yf yc yn yt yg ym aP aF aT aK eB eE eA eL eN eC eS eW eT) t.heap ∧ va_K (dC, dI) kls (tyC cI) t ∧ va_D (A) (wC h cI yf yc yn yt yg ym aP aF aT aK eB eE eA eL eN eC eS eW eT)) A) ([.ref (h 6), .int (nI i), .int (nI j), .int (nI k1)]).toArray s 0 0 A) (F0 m 13 ls []) := by
    intro n_lp
    induction n_lp with
    | zero => intro b9 F left hb0 hF hsel hn; exact absurd hn (Nat.not_lt_zero _)
    | succ n_lp ih_lp =>
      intro b9 F left hb0 hF hsel hn H locs ls hP hD hS hl
      refine lv_iload hx hb d_C_graphInOrder_13 (lv_at hl 6 rfl) ?_
      refine lv_if_lt (tgt := 68) hx hb d_C_graphInOrder_15 (by decide) (fun c_15 => ?_) (fun c_15 => ?_)
      · have hb00 : b9 = 0 := by
          rcases b9 with _ | b1
          · rfl
          · rw [bM_s] at c_15; exact absurd c_15 (nI_pos (by omega))
        subst hb00
        refine lv_iload hx hb d_C_graphInOrder_68 (lv_at hl 5 rfl) ?_
        exact W.iret (v := nI (F * 2 ^ 0)) hx hb hr (fun t ht hW => ⟨⟨nI (F * 2 ^ 0), (), rfl, ⟨F, left, by rw [Nat.pow_zero, Nat.mul_one] at hF; exact hF, by rw [Nat.pow_zero, Nat.mul_one], hsel⟩, by rw [ht]; exact hP, va_K.moved hW.alike hK, hD⟩, hS.F ht⟩) hS.2.2 d_C_graphInOrder_70
      · obtain ⟨b1, rfl⟩ : ∃ b1, b9 = b1 + 1 := by rcases b9 with _ | b1; exact absurd bM_0 c_15; exact ⟨b1, rfl⟩
        rw [bM_s] at hl
        have hpw : 2 ^ (b1 + 1) = 2 ^ b1 * 2 := Nat.pow_succ 2 b1
        have hF1 : 2 * F * 2 ^ b1 < 2 ^ 32 := by rw [hpw] at hF; rw [Nat.mul_comm 2 F, Nat.mul_assoc, Nat.mul_comm 2 (2 ^ b1)]; exact hF
        have hfe : F * 2 ^ (b1 + 1) = 2 * F * 2 ^ b1 := by rw [hpw, Nat.mul_comm 2 F, Nat.mul_assoc, Nat.mul_comm 2 (2 ^ b1)]
        rw [hfe] at hl
        refine lv_iload hx hb d_C_graphInOrder_18 (lv_at hl 4 rfl) ?_
        refine lv_iconst (v := nI 1) hx hb d_C_graphInOrder_20 (by decide +kernel) ?_
        refine lv_iload hx hb d_C_graphInOrder_21 (lv_at hl 6 rfl) ?_
        refine lv_ishl hx hb d_C_graphInOrder_23 ?_
        refine lv_topi (fun z1 ez1 => ?_)
        obtain rfl : z1 = shl (nI 1) b1 := ez1.trans (rfl)
        refine lv_ior hx hb d_C_graphInOrder_24 ?_
        refine lv_topi (fun z2 ez2 => ?_)
        obtain rfl : z2 = mkB b1 := ez2.trans (mkB_s b1 (by omega))
        refine lv_istore (lv' := [(5, .int (mkB b1)), (0, .ref (h 6)), (1, .int (nI i)), (2, .int (nI j)), (4, .int (nI left)), (6, .int (nI (2 * F * 2 ^ b1))), (7, .int (nI b1))]) hx hb d_C_graphInOrder_25 hl (by decide) rfl (fun ls hl => ?_)
        refine lv_aload_n hx hb d_C_graphInOrder_27 rfl (lv_at hl 1 rfl) ?_
        refine lv_iload_n hx hb d_C_graphInOrder_28 rfl (lv_at hl 2 rfl) ?_
        refine lv_iload_n hx hb d_C_graphInOrder_29 rfl (lv_at hl 3 rfl) ?_
        refine lv_iload hx hb d_C_graphInOrder_30 (lv_at hl 0 rfl) ?_
        refine lv_iload hx hb d_C_graphInOrder_32 (lv_at hl 5 rfl) ?_
        have hFc := va_free (wc := wC h cI yf yc yn yt yg ym aP aF aT aK eB eE eA eL eN eC eS eW eT) hD hS hA [0, 1, 2, 3, 4, 5, 6, 7, 8, 9, 10, 11, 12, 13, 14, 15, 16] rfl
        refine va_calli (va_runV (As := [.int (nI i), .int (nI j), .int (mkB b1), .int (nI (2 * F * 2 ^ b1))]) (rest := []) ⟨hx, hb, hml, hown, hk⟩ (c_C_countAlike_ok l dC dI cI h H.size yf yc yn yt yg ym aP aF aT aK eB eE eA eL eN eC eS eW eT L i j a (mkB b1) (nI (2 * F * 2 ^ b1)) (hi) (hj) (ha) (hb9) (hal) (hsg) (hsm)) (cwV 4 hk g_C_100 rfl rfl rfl (by decide +kernel) ⟨Nat.le_of_ble_eq_true rfl, Nat.le_of_ble_eq_true rfl⟩) ⟨fun a U g mk q => by obtain ⟨q0, q1, qP, qK, qD⟩ := q; exact ⟨q0, q1, qP, va_K.moved (u := U) (U := U.calling g mk a) (Vm.Alike.refl U.vm) qK, qD⟩, va_recv hK hP (ci := 2) (q0 := 6) rfl rfl, fun U hU hW => ⟨rfl, by rw [hU], by rw [hU]; exact hP, va_K.moved hW.alike hK, hD.weaken (fun _ _ _ _ => trivial)⟩⟩ rfl rfl hl.1 rfl (lv_room (Nat.le_of_ble_eq_true rfl)) d_C_graphInOrder_34 ⟨Nat.le_of_ble_eq_true rfl, Nat.le_of_ble_eq_true rfl⟩) hS (fun q _ h => hFc q h) hFc (fun r3 u9 t H1 locs ht hvm hw hB hz1 hk1 hS => ?_)
        obtain ⟨hP1, hK1, hD1⟩ := hB
        rw [ht] at hP1
        try dsimp only at hw
        obtain ⟨hP, hD⟩ := va_join (wr := []) (w1 := wC h cI yf yc yn yt yg ym aP aF aT aK eB eE eA eL eN eC eS eW eT) hP hD [0, 1, 2, 3, 4, 5, 6, 7, 8, 9, 10, 11, 12, 13, 14, 15, 16] [] rfl rfl (by decide) (by decide) hk1 hFc hP1 hD1
        generalize H1 = H at hP hS ⊢
        have hP : va_P (dC, dI) kls (wC h cI yf yc yn yt yg ym aP aF aT aK eB eE eA eL eN eC eS eW eT) H := hP
        have hD : va_D A (wC h cI yf yc yn yt yg ym aP aF aT aK eB eE eA eL eN eC eS eW eT) := hD
        subst hw
        refine lv_istore (lv' := [(8, .int (nI (L.countP (qMB j (mkB b1) (nI (2 * F * 2 ^ b1)))))), (5, .int (mkB b1)), (0, .ref (h 6)), (1, .int (nI i)), (2, .int (nI j)), (4, .int (nI left)), (6, .int (nI (2 * F * 2 ^ b1))), (7, .int (nI b1))]) hx hb d_C_graphInOrder_37 hl (by decide) rfl (fun ls hl => ?_)
        have hcb := cnt_bits L j (n := b1) (F := 2 * F) (by omega) hF1
        have hcl : L.countP (qMB j (mkB b1) (nI (2 * F * 2 ^ b1))) ≤ L.length := List.countP_le_length
        have hbl : (bitsL L j).length ≤ L.length := by unfold bitsL; rw [List.length_map]; exact List.length_filter_le _ _
        have hbc := List.countP_le_length (p := fun z => decide (z / 2 ^ (b1 + 1) = F)) (l := bitsL L j)
        have hs2 := hsel.2
        refine lv_iload hx hb d_C_graphInOrder_39 (lv_at hl 5 rfl) ?_
        refine lv_iload hx hb d_C_graphInOrder_41 (lv_at hl 0 rfl) ?_
        refine lv_icmp_lt (tgt := 62) hx hb d_C_graphInOrder_43 (by decide) (fun c_43 => ?_) (fun c_43 => ?_)
        · have c_43 : left < L.countP (qMB j (mkB b1) (nI (2 * F * 2 ^ b1))) := (nI_ltI (a := left) (b := L.countP (qMB j (mkB b1) (nI (2 * F * 2 ^ b1)))) (by omega) (by omega)).mp c_43
          refine lv_iinc (v := bM b1) (lv' := [(7, .int (bM b1)), (8, .int (nI (L.countP (qMB j (mkB b1) (nI (2 * F * 2 ^ b1)))))), (5, .int (mkB b1)), (0, .ref (h 6)), (1, .int (nI i)), (2, .int (nI j)), (4, .int (nI left)), (6, .int (nI (2 * F * 2 ^ b1)))]) hx hb d_C_graphInOrder_62 hl (k := 7) rfl (bM_m b1) (by decide) rfl (fun ls hl => ?_)
          refine lv_goto (tgt := 13) hx hb d_C_graphInOrder_65 (by decide) ?_
          exact ih_lp b1 (2 * F) left (by omega) (hF1) (sel_zero hsel (by omega)) (by omega) _ _ _ hP hD hS (lv_sub hl [3, 4, 5, 6, 2, 7, 0] rfl)
        · have c_43 : ¬ left < L.countP (qMB j (mkB b1) (nI (2 * F * 2 ^ b1))) := fun z9 => c_43 ((nI_ltI (a := left) (b := L.countP (qMB j (mkB b1) (nI (2 * F * 2 ^ b1)))) (by omega) (by omega)).mpr z9)
          refine lv_iload hx hb d_C_graphInOrder_46 (lv_at hl 5 rfl) ?_
          refine lv_iload hx hb d_C_graphInOrder_48 (lv_at hl 0 rfl) ?_
          refine lv_isub hx hb d_C_graphInOrder_50 ?_
          refine lv_topi (fun z4 ez4 => ?_)
          obtain rfl : z4 = nI (left - L.countP (qMB j (mkB b1) (nI (2 * F * 2 ^ b1)))) := ez4.trans (pk_sub (by omega))
          refine lv_istore (lv' := [(4, .int (nI (left - L.countP (qMB j (mkB b1) (nI (2 * F * 2 ^ b1)))))), (8, .int (nI (L.countP (qMB j (mkB b1) (nI (2 * F * 2 ^ b1)))))), (5, .int (mkB b1)), (0, .ref (h 6)), (1, .int (nI i)), (2, .int (nI j)), (6, .int (nI (2 * F * 2 ^ b1))), (7, .int (nI b1))]) hx hb d_C_graphInOrder_51 hl (by decide) rfl (fun ls hl => ?_)
          refine lv_iload hx hb d_C_graphInOrder_53 (lv_at hl 6 rfl) ?_
          refine lv_iconst (v := nI 1) hx hb d_C_graphInOrder_55 (by decide +kernel) ?_
          refine lv_iload hx hb d_C_graphInOrder_56 (lv_at hl 7 rfl) ?_
          refine lv_ishl hx hb d_C_graphInOrder_58 ?_
          refine lv_topi (fun z5 ez5 => ?_)
          obtain rfl : z5 = shl (nI 1) b1 := ez5.trans (rfl)
          refine lv_ior hx hb d_C_graphInOrder_59 ?_
          have hso := sel_one hsel (by omega)
          have hF2 : (2 * F + 1) * 2 ^ b1 < 2 ^ 32 := by
            obtain ⟨z, hz1, hz2⟩ := List.countP_pos_iff.mp (Nat.lt_of_le_of_lt (Nat.zero_le _) hso.2)
            have hz3 := bits_lt L j z hz1
            rw [decide_eq_true_iff] at hz2
            rw [← hz2]
            exact Nat.lt_of_le_of_lt (Nat.div_mul_le_self _ _) hz3
          refine lv_topi (fun z6 ez6 => ?_)
          obtain rfl : z6 = nI ((2 * F + 1) * 2 ^ b1) := ez6.trans (by rw [shl_1w _ (by omega), nx_or, ← or_low, hfe])
          refine lv_istore (lv' := [(6, .int (nI ((2 * F + 1) * 2 ^ b1))), (4, .int (nI (left - L.countP (qMB j (mkB b1) (nI (2 * F * 2 ^ b1)))))), (8, .int (nI (L.countP (qMB j (mkB b1) (nI (2 * F * 2 ^ b1)))))), (5, .int (mkB b1)), (0, .ref (h 6)), (1, .int (nI i)), (2, .int (nI j)), (7, .int (nI b1))]) hx hb d_C_graphInOrder_60 hl (by decide) rfl (fun ls hl => ?_)
          refine lv_iinc (v := bM b1) (lv' := [(7, .int (bM b1)), (6, .int (nI ((2 * F + 1) * 2 ^ b1))), (4, .int (nI (left - L.countP (qMB j (mkB b1) (nI (2 * F * 2 ^ b1)))))), (8, .int (nI (L.countP (qMB j (mkB b1) (nI (2 * F * 2 ^ b1)))))), (5, .int (mkB b1)), (0, .ref (h 6)), (1, .int (nI i)), (2, .int (nI j))]) hx hb d_C_graphInOrder_62 hl (k := 7) rfl (bM_m b1) (by decide) rfl (fun ls hl => ?_)
          refine lv_goto (tgt := 13) hx hb d_C_graphInOrder_65 (by decide) ?_
          exact ih_lp b1 (2 * F + 1) (left - L.countP (qMB j (mkB b1) (nI (2 * F * 2 ^ b1)))) (by omega) (hF2) (by rw [hcb]; exact sel_one hsel (by omega)) (by omega) _ _ _ hP hD hS (lv_sub hl [5, 6, 7, 2, 4, 1, 0] rfl)
  exact lp _ 32 0 k1 (Nat.le_refl _) (by decide) (sel_0 (bits_lt L j) hk1) (Nat.lt_succ_self _) _ _ _ hP hD hS (lv_sub hl [4, 5, 6, 3, 2, 1, 0] rfl)
set_option maxHeartbeats 4000000 in
set_option maxRecDepth 100000 in
theorem c_C_lengthOf_ok (l : Launch) (dC : Nat → ClassId) (dI : Nat → Nat → Nat) (cI : ClassId) (h : Nat → Nat) (sz : Nat) (yf yc yt yg ym : Int32) (aP aF aT aK eB eE eA eL eN eC eS eW eT : Nat → Int32) (rs : List En) (K : Nat) (a0 : Option Nat) (hcn : rs.length ≤ 800) (hK8 : 801 ≤ K) (hrw : hRw rs eB eE eA eL) (hah : ahOk rs) (haj0 : ∀ j, a0 = some j → j < rs.length) : Met l y_C_lengthOf w_C_lengthOf ({ frames := 1, cells := 0, slots := 0, locals := 21 }) (va_Pc [.ref (h 6), .int (ahI a0)] (fun U => U.heap.size = sz ∧ va_P (dC, dI) kls (wC h cI yf yc (nI rs.length) yt yg ym aP aF aT aK eB eE eA eL eN eC eS eW eT) U.heap ∧ va_K (dC, dI) kls (tyC cI) U ∧ va_D (fun _ => True) (wC h cI yf yc (nI rs.length) yt yg ym aP aF aT aK eB eE eA eL eN eC eS eW eT))) (va_Qi (fun (r : Int32) (u : Unit) => r = nI (chn rs (K + 1) a0).length ∧ (chn rs (K + 1) a0).length ≤ 800) (fun (u : Unit) (t : State) => va_P (dC, dI) kls (wC h cI yf yc (nI rs.length) yt yg ym aP aF aT aK eB eE eA eL eN eC eS eW eT) t.heap ∧ va_K (dC, dI) kls (tyC cI) t ∧ va_D (va_A (wC h cI yf yc (nI rs.length) yt yg ym aP aF aT aK eB eE eA eL eN eC eS eW eT) sz) (wC h cI yf yc (nI rs.length) yt yg ym aP aF aT aK eB eE eA eL eN eC eS eW eT)) (va_A (wC h cI yf yc (nI rs.length) yt yg ym aP aF aT aK eB eE eA eL eN eC eS eW eT) sz)) 0 0 (va_A (wC h cI yf yc (nI rs.length) yt yg ym aP aF aT aK eB eE eA eL eN eC eS eW eT) sz) := by
  refine Met.ofW (cc := c_C_lengthOf) (maxL := 4) (ret := (some .int)) (by decide) rfl ?_
  intro p e s m args below meth c s₁ B hml hv
  obtain ⟨rfl, hsz, hP, hK, hD0⟩ := hv
  have hx := B.exec
  have hb := B.bytes
  have hr := B.returns
  have hts := atoms_spec (ws := w_C_lengthOf) B.pre
  have hk : ∀ w ∈ wCw, w.before _ s = true := fun w h => hts w (List.mem_cons_of_mem _ h)
  have hown : s.vm.findClass R_C = some m.cls := findClass_of_methodNamed B.named
  have hlocks := B.notSynchronized
  subst hsz
  have hD := hD0.self (sz := s.heap.size)
  generalize hAe : va_A (wC h cI yf yc (nI rs.length) yt yg ym aP aF aT aK eB eE eA eL eN eC eS eW eT) s.heap.size = A at hD ⊢
  have hA : ∀ q : Nat, s.heap.size ≤ q → A q := fun q h => by rw [← hAe]; exact Or.inr h
  have hS : va_S A s.heap s.heap [] := va_S.rf
  have hl := lv_entry ([.ref (h 6), .int (ahI a0)]) (n := 4) (Nat.le_of_ble_eq_true rfl)
  rw [lg_entry_eq]
  generalize (lg_sl ([.ref (h 6), .int (ahI a0)]) ++ List.replicate (4 - (lg_sl ([.ref (h 6), .int (ahI a0)])).length) Slot.unset).toArray = ls at hl ⊢
  have hl : lv_has ls 4 [(0, .ref (h 6)), (1, .int (ahI a0))] := hl
  refine lv_iconst (v := nI 0) hx hb d_C_lengthOf_0 (by decide +kernel) ?_
  refine lv_istore_n (lv' := [(2, .int (nI 0)), (0, .ref (h 6)), (1, .int (ahI a0))]) hx hb d_C_lengthOf_1 rfl hl (by decide) rfl (fun ls hl => ?_)
  refine lv_iload_n hx hb d_C_lengthOf_2 rfl (lv_at hl 2 rfl) ?_
  refine lv_istore_n (lv' := [(3, .int (ahI a0)), (2, .int (nI 0)), (0, .ref (h 6)), (1, .int (ahI a0))]) hx hb d_C_lengthOf_3 rfl hl (by decide) rfl (fun ls hl => ?_)
  have hm0 : mA a0 ≤ 800 := by
    cases hz : a0 with
    | none => exact Nat.zero_le _
    | some j => have := haj0 j hz; show j + 1 ≤ 800; omega
  have lp : ∀ (n_lp : Nat) (t9 : Nat) (a : Option Nat), (t9 + (chn rs (K + 1) a).length = (chn rs (K + 1) a0).length) → (t9 + mA a ≤ 800) → (∀ j, a = some j → j < rs.length) → mA a < n_lp → ∀ (H : Heap) (locs : List Loc) (ls : Array Slot), va_P (dC, dI) kls (wC h cI yf yc (nI rs.length) yt yg ym aP aF aT aK eB eE eA eL eN eC eS eW eT) H → va_D A (wC h cI yf yc (nI rs.length) yt yg ym aP aF aT aK eB eE eA eL eN eC eS eW eT) → va_S A s.heap H locs → lv_has ls 4 [(0, .ref (h 6)), (1, .int (ahI a0)), (2, .int (nI t9)), (3, .int (ahI a))] → W p l e (headSpec w_C_lengthOf ({ frames := 1, cells := 0, slots := 0, locals := 21 })).room s m ([.ref (h 6), .int (ahI a0)]).toArray below meth c H locs 0 0 (MQ below (va_Qi (fun (r : Int32) (u : Unit) => r = nI (chn rs (K + 1) a0).length ∧ (chn rs (K + 1) a0).length ≤ 800) (fun (u : Unit) (t : State) => va_P (dC, dI) kls (wC h cI yf yc (nI rs.length) yt yg ym aP aF aT aK eB eE eA eL eN eC eS eW eT) t.heap ∧ va_K (dC, dI) kls (tyC cI) t ∧ va_D (A) (wC h cI yf yc (nI rs.length) yt yg ym aP aF aT aK eB eE eA eL eN eC eS eW eT)) A) ([.ref (h 6), .int (ahI a0)]).toArray s 0 0 A) (F0 m 4 ls []) := by
    intro n_lp
    induction n_lp with
    | zero => intro t9 a hch htm haj hn; exact absurd hn (Nat.not_lt_zero _)
    | succ n_lp ih_lp =>
      intro t9 a hch htm haj hn H locs ls hP hD hS hl
      refine lv_iload_n hx hb d_C_lengthOf_4 rfl (lv_at hl 2 rfl) ?_
      refine lv_sipush (v := nI 800) hx hb d_C_lengthOf_5 (by decide +kernel) ?_
      refine lv_icmp_ge (tgt := 32) hx hb d_C_lengthOf_8 (by decide) (fun c_8 => ?_) (fun c_8 => ?_)
      · have c_8 : 800 ≤ t9 := (nI_leI (a := 800) (b := t9) (by omega) (by omega)).mp c_8
        refine lv_iload_n hx hb d_C_lengthOf_32 rfl (lv_at hl 2 rfl) ?_
        have han : a = none := by
          cases hz : a with
          | none => rfl
          | some i9 =>
            first
              | exact absurd (show ∃ j, j < rs.length ∧ ahI a = nI j from ⟨i9, haj i9 hz, by rw [hz]; rfl⟩) hrow
              | (rw [hz] at htm; have hmj : mA (some i9) = i9 + 1 := rfl; omega)
        have hq9 : t9 = (chn rs (K + 1) a0).length := by rw [← hch, han, chn_none]; rfl
        exact W.iret (v := nI t9) hx hb hr (fun t ht hW => ⟨⟨nI t9, (), rfl, ⟨congrArg nI hq9, by omega⟩, by rw [ht]; exact hP, va_K.moved hW.alike hK, hD⟩, hS.F ht⟩) hS.2.2 d_C_lengthOf_33
      · have c_8 : ¬ 800 ≤ t9 := fun z9 => c_8 ((nI_leI (a := 800) (b := t9) (by omega) (by omega)).mpr z9)
        refine lv_aload_n hx hb d_C_lengthOf_11 rfl (lv_at hl 0 rfl) ?_
        refine lv_iload_n hx hb d_C_lengthOf_12 rfl (lv_at hl 3 rfl) ?_
        have hFc := va_free (wc := wC h cI yf yc (nI rs.length) yt yg ym aP aF aT aK eB eE eA eL eN eC eS eW eT) hD hS hA [0, 1, 2, 3, 4, 5, 6, 7, 8, 9, 10, 11, 12, 13, 14, 15, 16] rfl
        refine va_calli (va_runV (As := [.int (ahI a)]) (rest := []) ⟨hx, hb, hml, hown, hk⟩ (c_C_hasRow_ok l dC dI cI h H.size yf yc yt yg ym aP aF aT aK eB eE eA eL eN eC eS eW eT rs.length (ahI a) (by omega)) (cwV 1 hk g_C_93 rfl rfl rfl (by decide +kernel) ⟨Nat.le_of_ble_eq_true rfl, Nat.le_of_ble_eq_true rfl⟩) ⟨fun a U g mk q => by obtain ⟨q0, q1, qP, qK, qD⟩ := q; exact ⟨q0, q1, qP, va_K.moved (u := U) (U := U.calling g mk a) (Vm.Alike.refl U.vm) qK, qD⟩, va_recv hK hP (ci := 2) (q0 := 6) rfl rfl, fun U hU hW => ⟨rfl, by rw [hU], by rw [hU]; exact hP, va_K.moved hW.alike hK, hD.weaken (fun _ _ _ _ => trivial)⟩⟩ rfl rfl hl.1 rfl (lv_room (Nat.le_of_ble_eq_true rfl)) d_C_lengthOf_13 ⟨Nat.le_of_ble_eq_true rfl, Nat.le_of_ble_eq_true rfl⟩) hS (fun q _ h => hFc q h) hFc (fun r1 u9 t H1 locs ht hvm hw hB hz1 hk1 hS => ?_)
        obtain ⟨hP1, hK1, hD1⟩ := hB
        rw [ht] at hP1
        try dsimp only at hw
        obtain ⟨hP, hD⟩ := va_join (wr := []) (w1 := wC h cI yf yc (nI rs.length) yt yg ym aP aF aT aK eB eE eA eL eN eC eS eW eT) hP hD [0, 1, 2, 3, 4, 5, 6, 7, 8, 9, 10, 11, 12, 13, 14, 15, 16] [] rfl rfl (by decide) (by decide) hk1 hFc hP1 hD1
        generalize H1 = H at hP hS ⊢
        have hP : va_P (dC, dI) kls (wC h cI yf yc (nI rs.length) yt yg ym aP aF aT aK eB eE eA eL eN eC eS eW eT) H := hP
        have hD : va_D A (wC h cI yf yc (nI rs.length) yt yg ym aP aF aT aK eB eE eA eL eN eC eS eW eT) := hD
        rcases hw with ⟨hr9, hrow⟩ | ⟨hr9, hrow⟩
        · subst hr9
          refine lv_if_eq (tgt := 32) hx hb d_C_lengthOf_16 (by decide) (fun c9 => absurd c9 (by decide +kernel)) (fun _ => ?_)
          obtain ⟨j1, hj1, hfj⟩ := hrow
          have haw : a = some j1 := by
            cases hz : a with
            | none => rw [hz] at hfj; exact absurd hfj.symm (ah_neg (by omega))
            | some i9 => rw [hz] at hfj; have := haj i9 hz; exact congrArg some ((nI_eq (by omega) (by omega)).mp hfj)
          subst haw
          obtain ⟨en, hen⟩ : ∃ en, rs[j1]? = some en := ⟨_, List.getElem?_eq_getElem hj1⟩
          have hrk := hrw j1 en hen
          refine lv_aload_n hx hb d_C_lengthOf_19 rfl (lv_at hl 0 rfl) ?_
          refine va_get (D := (dC, dI)) (ci := 2) (v := .ref (h 9)) (C := R_C) (T := F_C) (N := 11) hx hb hk k_f_C hown hK hP 6 rfl rfl 2 (by decide) (hk _ k_C_47) (fun _ h9 => h9) rfl d_C_lengthOf_20 ?_
          refine lv_iload_n hx hb d_C_lengthOf_23 rfl (lv_at hl 3 rfl) ?_
          refine va_iald hx hb hK hP 9 0 rfl rfl (pk_in j1 800 (by omega)) d_C_lengthOf_24 ?_
          refine lv_topi (fun z2 ez2 => ?_)
          obtain rfl : z2 = ahI en.2.2.2.1 := ez2.trans ((rd (f := eA) (k := j1) (by omega)).trans hrk.2.2.1)
          refine lv_istore_n (lv' := [(3, .int (ahI en.2.2.2.1)), (0, .ref (h 6)), (1, .int (ahI a0)), (2, .int (nI t9))]) hx hb d_C_lengthOf_25 rfl hl (by decide) rfl (fun ls hl => ?_)
          refine lv_iinc (v := nI (t9 + 1)) (lv' := [(2, .int (nI (t9 + 1))), (3, .int (ahI en.2.2.2.1)), (0, .ref (h 6)), (1, .int (ahI a0))]) hx hb d_C_lengthOf_26 hl (k := 3) rfl (nI_add t9 1) (by decide) rfl (fun ls hl => ?_)
          refine lv_goto (tgt := 4) hx hb d_C_lengthOf_29 (by decide) ?_
          have hcs := chn_step hah hen (show j1 < K by omega)
          have hmA : mA en.2.2.2.1 ≤ j1 := by cases hz : en.2.2.2.1 with
            | none => exact Nat.zero_le _
            | some i9 => exact hah j1 i9 en hen hz
          have hmj : mA (some j1) = j1 + 1 := rfl
          have haj2 : ∀ j9, en.2.2.2.1 = some j9 → j9 < rs.length := fun j9 hj9 => by have := hah j1 j9 en hen hj9; omega
          rw [hcs, List.length_cons] at hch
          exact ih_lp (t9 + 1) en.2.2.2.1 (by omega) (by omega) (haj2) (by omega) _ _ _ hP hD hS (lv_sub hl [2, 3, 0, 1] rfl)
        · subst hr9
          refine lv_if_eq (tgt := 32) hx hb d_C_lengthOf_16 (by decide) (fun _ => ?_) (fun c9 => absurd c9 (by decide +kernel))
          refine lv_iload_n hx hb d_C_lengthOf_32 rfl (lv_at hl 2 rfl) ?_
          have han : a = none := by
            cases hz : a with
            | none => rfl
            | some i9 =>
              first
                | exact absurd (show ∃ j, j < rs.length ∧ ahI a = nI j from ⟨i9, haj i9 hz, by rw [hz]; rfl⟩) hrow
                | (rw [hz] at htm; have hmj : mA (some i9) = i9 + 1 := rfl; omega)
          have hq9 : t9 = (chn rs (K + 1) a0).length := by rw [← hch, han, chn_none]; rfl
          exact W.iret (v := nI t9) hx hb hr (fun t ht hW => ⟨⟨nI t9, (), rfl, ⟨congrArg nI hq9, by omega⟩, by rw [ht]; exact hP, va_K.moved hW.alike hK, hD⟩, hS.F ht⟩) hS.2.2 d_C_lengthOf_33
  exact lp _ 0 a0 (by omega) (by omega) (haj0) (Nat.lt_succ_self _) _ _ _ hP hD hS (lv_sub hl [2, 3, 1, 0] rfl)
set_option maxHeartbeats 4000000 in
set_option maxRecDepth 100000 in
theorem c_C_callFromTheEnd_ok (l : Launch) (dC : Nat → ClassId) (dI : Nat → Nat → Nat) (cI : ClassId) (h : Nat → Nat) (sz : Nat) (yf yc yt yg ym : Int32) (aP aF aT aK eB eE eA eL eN eC eS eW eT : Nat → Int32) (rs : List En) (K q : Nat) (a0 : Option Nat) (hcn : rs.length ≤ 800) (hK8 : 801 ≤ K) (hrw : hRw rs eB eE eA eL) (hah : ahOk rs) (haj0 : ∀ j, a0 = some j → j < rs.length) (hq31 : q < 2 ^ 31) : Met l y_C_callFromTheEnd w_C_callFromTheEnd ({ frames := 1, cells := 0, slots := 0, locals := 21 }) (va_Pc [.ref (h 6), .int (ahI a0), .int (nI q)] (fun U => U.heap.size = sz ∧ va_P (dC, dI) kls (wC h cI yf yc (nI rs.length) yt yg ym aP aF aT aK eB eE eA eL eN eC eS eW eT) U.heap ∧ va_K (dC, dI) kls (tyC cI) U ∧ va_D (fun _ => True) (wC h cI yf yc (nI rs.length) yt yg ym aP aF aT aK eB eE eA eL eN eC eS eW eT))) (va_Qi (fun (r : Int32) (u : Unit) => (∃ y, (chn rs (K + 1) a0)[q]? = some y ∧ r = nI y) ∨ ((chn rs (K + 1) a0)[q]? = none ∧ r = -1)) (fun (u : Unit) (t : State) => va_P (dC, dI) kls (wC h cI yf yc (nI rs.length) yt yg ym aP aF aT aK eB eE eA eL eN eC eS eW eT) t.heap ∧ va_K (dC, dI) kls (tyC cI) t ∧ va_D (va_A (wC h cI yf yc (nI rs.length) yt yg ym aP aF aT aK eB eE eA eL eN eC eS eW eT) sz) (wC h cI yf yc (nI rs.length) yt yg ym aP aF aT aK eB eE eA eL eN eC eS eW eT)) (va_A (wC h cI yf yc (nI rs.length) yt yg ym aP aF aT aK eB eE eA eL eN eC eS eW eT) sz)) 0 0 (va_A (wC h cI yf yc (nI rs.length) yt yg ym aP aF aT aK eB eE eA eL eN eC eS eW eT) sz) := by
  refine Met.ofW (cc := c_C_callFromTheEnd) (maxL := 5) (ret := (some .int)) (by decide) rfl ?_
  intro p e s m args below meth c s₁ B hml hv
  obtain ⟨rfl, hsz, hP, hK, hD0⟩ := hv
  have hx := B.exec
  have hb := B.bytes
  have hr := B.returns
  have hts := atoms_spec (ws := w_C_callFromTheEnd) B.pre
  have hk : ∀ w ∈ wCw, w.before _ s = true := fun w h => hts w (List.mem_cons_of_mem _ h)
  have hown : s.vm.findClass R_C = some m.cls := findClass_of_methodNamed B.named
  have hlocks := B.notSynchronized
  subst hsz
  have hD := hD0.self (sz := s.heap.size)
  generalize hAe : va_A (wC h cI yf yc (nI rs.length) yt yg ym aP aF aT aK eB eE eA eL eN eC eS eW eT) s.heap.size = A at hD ⊢
  have hA : ∀ q : Nat, s.heap.size ≤ q → A q := fun q h => by rw [← hAe]; exact Or.inr h
  have hS : va_S A s.heap s.heap [] := va_S.rf
  have hl := lv_entry ([.ref (h 6), .int (ahI a0), .int (nI q)]) (n := 5) (Nat.le_of_ble_eq_true rfl)
  rw [lg_entry_eq]
  generalize (lg_sl ([.ref (h 6), .int (ahI a0), .int (nI q)]) ++ List.replicate (5 - (lg_sl ([.ref (h 6), .int (ahI a0), .int (nI q)])).length) Slot.unset).toArray = ls at hl ⊢
  have hl : lv_has ls 5 [(0, .ref (h 6)), (1, .int (ahI a0)), (2, .int (nI q))] := hl
  refine lv_iload_n hx hb d_C_callFromTheEnd_0 rfl (lv_at hl 1 rfl) ?_
  refine lv_istore_n (lv' := [(3, .int (ahI a0)), (0, .ref (h 6)), (1, .int (ahI a0)), (2, .int (nI q))]) hx hb d_C_callFromTheEnd_1 rfl hl (by decide) rfl (fun ls hl => ?_)
  refine lv_iconst (v := nI 0) hx hb d_C_callFromTheEnd_2 (by decide +kernel) ?_
  refine lv_istore (lv' := [(4, .int (nI 0)), (3, .int (ahI a0)), (0, .ref (h 6)), (1, .int (ahI a0)), (2, .int (nI q))]) hx hb d_C_callFromTheEnd_3 hl (by decide) rfl (fun ls hl => ?_)
  have lp : ∀ (n_lp : Nat) (t9 : Nat) (a : Option Nat), (t9 ≤ q) → (∀ i, (chn rs (K + 1) a)[i]? = (chn rs (K + 1) a0)[t9 + i]?) → (∀ j, a = some j → j < rs.length) → mA a < n_lp → ∀ (H : Heap) (locs : List Loc) (ls : Array Slot), va_P (dC, dI) kls (wC h cI yf yc (nI rs.length) yt yg ym aP aF aT aK eB eE eA eL eN eC eS eW eT) H → va_D A (wC h cI yf yc (nI rs.length) yt yg ym aP aF aT aK eB eE eA eL eN eC eS eW eT) → va_S A s.heap H locs → lv_has ls 5 [(0, .ref (h 6)), (1, .int (ahI a0)), (2, .int (nI q)), (3, .int (ahI a)), (4, .int (nI t9))] → W p l e (headSpec w_C_callFromTheEnd ({ frames := 1, cells := 0, slots := 0, locals := 21 })).room s m ([.ref (h 6), .int (ahI a0), .int (nI q)]).toArray below meth c H locs 0 0 (MQ below (va_Qi (fun (r : Int32) (u : Unit) => (∃ y, (chn rs (K + 1) a0)[q]? = some y ∧ r = nI y) ∨ ((chn rs (K + 1) a0)[q]? = none ∧ r = -1)) (fun (u : Unit) (t : State) => va_P (dC, dI) kls (wC h cI yf yc (nI rs.length) yt yg ym aP aF aT aK eB eE eA eL eN eC eS eW eT) t.heap ∧ va_K (dC, dI) kls (tyC cI) t ∧ va_D (A) (wC h cI yf yc (nI rs.length) yt yg ym aP aF aT aK eB eE eA eL eN eC eS eW eT)) A) ([.ref (h 6), .int (ahI a0), .int (nI q)]).toArray s 0 0 A) (F0 m 5 ls []) := by
    intro n_lp
    induction n_lp with
    | zero => intro t9 a htq hch haj hn; exact absurd hn (Nat.not_lt_zero _)
    | succ n_lp ih_lp =>
      intro t9 a htq hch haj hn H locs ls hP hD hS hl
      refine lv_iload hx hb d_C_callFromTheEnd_5 (lv_at hl 4 rfl) ?_
      refine lv_iload_n hx hb d_C_callFromTheEnd_7 rfl (lv_at hl 2 rfl) ?_
      refine lv_icmp_ge (tgt := 32) hx hb d_C_callFromTheEnd_8 (by decide) (fun c_8 => ?_) (fun c_8 => ?_)
      · have c_8 : q ≤ t9 := (nI_leI (a := q) (b := t9) (by omega) (by omega)).mp c_8
        try have hrow0 := hrow
        refine lv_aload_n hx hb d_C_callFromTheEnd_32 rfl (lv_at hl 0 rfl) ?_
        refine lv_iload_n hx hb d_C_callFromTheEnd_33 rfl (lv_at hl 3 rfl) ?_
        have hFc := va_free (wc := wC h cI yf yc (nI rs.length) yt yg ym aP aF aT aK eB eE eA eL eN eC eS eW eT) hD hS hA [0, 1, 2, 3, 4, 5, 6, 7, 8, 9, 10, 11, 12, 13, 14, 15, 16] rfl
        refine va_calli (va_runV (As := [.int (ahI a)]) (rest := []) ⟨hx, hb, hml, hown, hk⟩ (c_C_hasRow_ok l dC dI cI h H.size yf yc yt yg ym aP aF aT aK eB eE eA eL eN eC eS eW eT rs.length (ahI a) (by omega)) (cwV 1 hk g_C_93 rfl rfl rfl (by decide +kernel) ⟨Nat.le_of_ble_eq_true rfl, Nat.le_of_ble_eq_true rfl⟩) ⟨fun a U g mk q => by obtain ⟨q0, q1, qP, qK, qD⟩ := q; exact ⟨q0, q1, qP, va_K.moved (u := U) (U := U.calling g mk a) (Vm.Alike.refl U.vm) qK, qD⟩, va_recv hK hP (ci := 2) (q0 := 6) rfl rfl, fun U hU hW => ⟨rfl, by rw [hU], by rw [hU]; exact hP, va_K.moved hW.alike hK, hD.weaken (fun _ _ _ _ => trivial)⟩⟩ rfl rfl hl.1 rfl (lv_room (Nat.le_of_ble_eq_true rfl)) d_C_callFromTheEnd_34 ⟨Nat.le_of_ble_eq_true rfl, Nat.le_of_ble_eq_true rfl⟩) hS (fun q _ h => hFc q h) hFc (fun r1 u9 t H1 locs ht hvm hw hB hz1 hk1 hS => ?_)
        obtain ⟨hP1, hK1, hD1⟩ := hB
        rw [ht] at hP1
        try dsimp only at hw
        obtain ⟨hP, hD⟩ := va_join (wr := []) (w1 := wC h cI yf yc (nI rs.length) yt yg ym aP aF aT aK eB eE eA eL eN eC eS eW eT) hP hD [0, 1, 2, 3, 4, 5, 6, 7, 8, 9, 10, 11, 12, 13, 14, 15, 16] [] rfl rfl (by decide) (by decide) hk1 hFc hP1 hD1
        generalize H1 = H at hP hS ⊢
        have hP : va_P (dC, dI) kls (wC h cI yf yc (nI rs.length) yt yg ym aP aF aT aK eB eE eA eL eN eC eS eW eT) H := hP
        have hD : va_D A (wC h cI yf yc (nI rs.length) yt yg ym aP aF aT aK eB eE eA eL eN eC eS eW eT) := hD
        rcases hw with ⟨hr9, hrow⟩ | ⟨hr9, hrow⟩
        · subst hr9
          refine lv_if_eq (tgt := 49) hx hb d_C_callFromTheEnd_37 (by decide) (fun c9 => absurd c9 (by decide +kernel)) (fun _ => ?_)
          obtain ⟨j1, hj1, hfj⟩ := hrow
          have haw : a = some j1 := by
            cases hz : a with
            | none => rw [hz] at hfj; exact absurd hfj.symm (ah_neg (by omega))
            | some i9 => rw [hz] at hfj; have := haj i9 hz; exact congrArg some ((nI_eq (by omega) (by omega)).mp hfj)
          subst haw
          obtain ⟨en, hen⟩ : ∃ en, rs[j1]? = some en := ⟨_, List.getElem?_eq_getElem hj1⟩
          have hrk := hrw j1 en hen
          refine lv_aload_n hx hb d_C_callFromTheEnd_40 rfl (lv_at hl 0 rfl) ?_
          refine va_get (D := (dC, dI)) (ci := 2) (v := .ref (h 10)) (C := R_C) (T := F_C) (N := 11) hx hb hk k_f_C hown hK hP 6 rfl rfl 3 (by decide) (hk _ k_C_48) (fun _ h9 => h9) rfl d_C_callFromTheEnd_41 ?_
          refine lv_iload_n hx hb d_C_callFromTheEnd_44 rfl (lv_at hl 3 rfl) ?_
          refine va_iald hx hb hK hP 10 0 rfl rfl (pk_in j1 800 (by omega)) d_C_callFromTheEnd_45 ?_
          refine lv_topi (fun z2 ez2 => ?_)
          obtain rfl : z2 = nI en.2.2.2.2 := ez2.trans ((rd (f := eL) (k := j1) (by omega)).trans hrk.2.2.2)
          refine lv_goto (tgt := 50) hx hb d_C_callFromTheEnd_46 (by decide) ?_
          have htq2 : t9 = q := by first | omega | exact absurd ⟨j1, hj1, rfl⟩ hrow0
          have hq9 : (chn rs (K + 1) a0)[q]? = some en.2.2.2.2 := by have h9 := hch 0; rw [chn_step hah hen (show j1 < K by omega)] at h9; rw [← htq2]; exact h9.symm
          exact W.iret (v := nI en.2.2.2.2) hx hb hr (fun t ht hW => ⟨⟨nI en.2.2.2.2, (), rfl, Or.inl ⟨en.2.2.2.2, hq9, rfl⟩, by rw [ht]; exact hP, va_K.moved hW.alike hK, hD⟩, hS.F ht⟩) hS.2.2 d_C_callFromTheEnd_50
        · subst hr9
          refine lv_if_eq (tgt := 49) hx hb d_C_callFromTheEnd_37 (by decide) (fun _ => ?_) (fun c9 => absurd c9 (by decide +kernel))
          refine lv_iconst (v := (-1)) hx hb d_C_callFromTheEnd_49 (by decide +kernel) ?_
          have han : a = none := by
            cases hz : a with
            | none => rfl
            | some i9 => exact absurd (show ∃ j, j < rs.length ∧ ahI a = nI j from ⟨i9, haj i9 hz, by rw [hz]; rfl⟩) hrow
          have hq9 : (chn rs (K + 1) a0)[q]? = none := by have h9 := hch (q - t9); rw [show t9 + (q - t9) = q by omega, han, chn_none] at h9; rw [← h9]; rfl
          exact W.iret (v := (-1)) hx hb hr (fun t ht hW => ⟨⟨(-1), (), rfl, Or.inr ⟨hq9, rfl⟩, by rw [ht]; exact hP, va_K.moved hW.alike hK, hD⟩, hS.F ht⟩) hS.2.2 d_C_callFromTheEnd_50
      · have c_8 : ¬ q ≤ t9 := fun z9 => c_8 ((nI_leI (a := q) (b := t9) (by omega) (by omega)).mpr z9)
        refine lv_aload_n hx hb d_C_callFromTheEnd_11 rfl (lv_at hl 0 rfl) ?_
        refine lv_iload_n hx hb d_C_callFromTheEnd_12 rfl (lv_at hl 3 rfl) ?_
        have hFc := va_free (wc := wC h cI yf yc (nI rs.length) yt yg ym aP aF aT aK eB eE eA eL eN eC eS eW eT) hD hS hA [0, 1, 2, 3, 4, 5, 6, 7, 8, 9, 10, 11, 12, 13, 14, 15, 16] rfl
        refine va_calli (va_runV (As := [.int (ahI a)]) (rest := []) ⟨hx, hb, hml, hown, hk⟩ (c_C_hasRow_ok l dC dI cI h H.size yf yc yt yg ym aP aF aT aK eB eE eA eL eN eC eS eW eT rs.length (ahI a) (by omega)) (cwV 1 hk g_C_93 rfl rfl rfl (by decide +kernel) ⟨Nat.le_of_ble_eq_true rfl, Nat.le_of_ble_eq_true rfl⟩) ⟨fun a U g mk q => by obtain ⟨q0, q1, qP, qK, qD⟩ := q; exact ⟨q0, q1, qP, va_K.moved (u := U) (U := U.calling g mk a) (Vm.Alike.refl U.vm) qK, qD⟩, va_recv hK hP (ci := 2) (q0 := 6) rfl rfl, fun U hU hW => ⟨rfl, by rw [hU], by rw [hU]; exact hP, va_K.moved hW.alike hK, hD.weaken (fun _ _ _ _ => trivial)⟩⟩ rfl rfl hl.1 rfl (lv_room (Nat.le_of_ble_eq_true rfl)) d_C_callFromTheEnd_13 ⟨Nat.le_of_ble_eq_true rfl, Nat.le_of_ble_eq_true rfl⟩) hS (fun q _ h => hFc q h) hFc (fun r3 u9 t H1 locs ht hvm hw hB hz1 hk1 hS => ?_)
        obtain ⟨hP1, hK1, hD1⟩ := hB
        rw [ht] at hP1
        try dsimp only at hw
        obtain ⟨hP, hD⟩ := va_join (wr := []) (w1 := wC h cI yf yc (nI rs.length) yt yg ym aP aF aT aK eB eE eA eL eN eC eS eW eT) hP hD [0, 1, 2, 3, 4, 5, 6, 7, 8, 9, 10, 11, 12, 13, 14, 15, 16] [] rfl rfl (by decide) (by decide) hk1 hFc hP1 hD1
        generalize H1 = H at hP hS ⊢
        have hP : va_P (dC, dI) kls (wC h cI yf yc (nI rs.length) yt yg ym aP aF aT aK eB eE eA eL eN eC eS eW eT) H := hP
        have hD : va_D A (wC h cI yf yc (nI rs.length) yt yg ym aP aF aT aK eB eE eA eL eN eC eS eW eT) := hD
        rcases hw with ⟨hr9, hrow⟩ | ⟨hr9, hrow⟩
        · subst hr9
          refine lv_if_eq (tgt := 32) hx hb d_C_callFromTheEnd_16 (by decide) (fun c9 => absurd c9 (by decide +kernel)) (fun _ => ?_)
          obtain ⟨j1, hj1, hfj⟩ := hrow
          have haw : a = some j1 := by
            cases hz : a with
            | none => rw [hz] at hfj; exact absurd hfj.symm (ah_neg (by omega))
            | some i9 => rw [hz] at hfj; have := haj i9 hz; exact congrArg some ((nI_eq (by omega) (by omega)).mp hfj)
          subst haw
          obtain ⟨en, hen⟩ : ∃ en, rs[j1]? = some en := ⟨_, List.getElem?_eq_getElem hj1⟩
          have hrk := hrw j1 en hen
          refine lv_aload_n hx hb d_C_callFromTheEnd_19 rfl (lv_at hl 0 rfl) ?_
          refine va_get (D := (dC, dI)) (ci := 2) (v := .ref (h 9)) (C := R_C) (T := F_C) (N := 11) hx hb hk k_f_C hown hK hP 6 rfl rfl 2 (by decide) (hk _ k_C_47) (fun _ h9 => h9) rfl d_C_callFromTheEnd_20 ?_
          refine lv_iload_n hx hb d_C_callFromTheEnd_23 rfl (lv_at hl 3 rfl) ?_
          refine va_iald hx hb hK hP 9 0 rfl rfl (pk_in j1 800 (by omega)) d_C_callFromTheEnd_24 ?_
          refine lv_topi (fun z4 ez4 => ?_)
          obtain rfl : z4 = ahI en.2.2.2.1 := ez4.trans ((rd (f := eA) (k := j1) (by omega)).trans hrk.2.2.1)
          refine lv_istore_n (lv' := [(3, .int (ahI en.2.2.2.1)), (0, .ref (h 6)), (1, .int (ahI a0)), (2, .int (nI q)), (4, .int (nI t9))]) hx hb d_C_callFromTheEnd_25 rfl hl (by decide) rfl (fun ls hl => ?_)
          refine lv_iinc (v := nI (t9 + 1)) (lv' := [(4, .int (nI (t9 + 1))), (3, .int (ahI en.2.2.2.1)), (0, .ref (h 6)), (1, .int (ahI a0)), (2, .int (nI q))]) hx hb d_C_callFromTheEnd_26 hl (k := 4) rfl (nI_add t9 1) (by decide) rfl (fun ls hl => ?_)
          refine lv_goto (tgt := 5) hx hb d_C_callFromTheEnd_29 (by decide) ?_
          have hcs := chn_step hah hen (show j1 < K by omega)
          have hmA : mA en.2.2.2.1 ≤ j1 := by cases hz : en.2.2.2.1 with
            | none => exact Nat.zero_le _
            | some i9 => exact hah j1 i9 en hen hz
          have hmj : mA (some j1) = j1 + 1 := rfl
          have haj2 : ∀ j9, en.2.2.2.1 = some j9 → j9 < rs.length := fun j9 hj9 => by have := hah j1 j9 en hen hj9; omega
          have hch2 : ∀ i, (chn rs (K + 1) en.2.2.2.1)[i]? = (chn rs (K + 1) a0)[t9 + 1 + i]? := fun i => by rw [show t9 + 1 + i = t9 + (i + 1) by omega, ← hch (i + 1), hcs, List.getElem?_cons_succ]
          exact ih_lp (t9 + 1) en.2.2.2.1 (by omega) (hch2) (haj2) (by omega) _ _ _ hP hD hS (lv_sub hl [2, 3, 4, 1, 0] rfl)
        · subst hr9
          refine lv_if_eq (tgt := 32) hx hb d_C_callFromTheEnd_16 (by decide) (fun _ => ?_) (fun c9 => absurd c9 (by decide +kernel))
          try have hrow0 := hrow
          refine lv_aload_n hx hb d_C_callFromTheEnd_32 rfl (lv_at hl 0 rfl) ?_
          refine lv_iload_n hx hb d_C_callFromTheEnd_33 rfl (lv_at hl 3 rfl) ?_
          have hFc := va_free (wc := wC h cI yf yc (nI rs.length) yt yg ym aP aF aT aK eB eE eA eL eN eC eS eW eT) hD hS hA [0, 1, 2, 3, 4, 5, 6, 7, 8, 9, 10, 11, 12, 13, 14, 15, 16] rfl
          refine va_calli (va_runV (As := [.int (ahI a)]) (rest := []) ⟨hx, hb, hml, hown, hk⟩ (c_C_hasRow_ok l dC dI cI h H.size yf yc yt yg ym aP aF aT aK eB eE eA eL eN eC eS eW eT rs.length (ahI a) (by omega)) (cwV 1 hk g_C_93 rfl rfl rfl (by decide +kernel) ⟨Nat.le_of_ble_eq_true rfl, Nat.le_of_ble_eq_true rfl⟩) ⟨fun a U g mk q => by obtain ⟨q0, q1, qP, qK, qD⟩ := q; exact ⟨q0, q1, qP, va_K.moved (u := U) (U := U.calling g mk a) (Vm.Alike.refl U.vm) qK, qD⟩, va_recv hK hP (ci := 2) (q0 := 6) rfl rfl, fun U hU hW => ⟨rfl, by rw [hU], by rw [hU]; exact hP, va_K.moved hW.alike hK, hD.weaken (fun _ _ _ _ => trivial)⟩⟩ rfl rfl hl.1 rfl (lv_room (Nat.le_of_ble_eq_true rfl)) d_C_callFromTheEnd_34 ⟨Nat.le_of_ble_eq_true rfl, Nat.le_of_ble_eq_true rfl⟩) hS (fun q _ h => hFc q h) hFc (fun r5 u9 t H1 locs ht hvm hw hB hz1 hk1 hS => ?_)
          obtain ⟨hP1, hK1, hD1⟩ := hB
          rw [ht] at hP1
          try dsimp only at hw
          obtain ⟨hP, hD⟩ := va_join (wr := []) (w1 := wC h cI yf yc (nI rs.length) yt yg ym aP aF aT aK eB eE eA eL eN eC eS eW eT) hP hD [0, 1, 2, 3, 4, 5, 6, 7, 8, 9, 10, 11, 12, 13, 14, 15, 16] [] rfl rfl (by decide) (by decide) hk1 hFc hP1 hD1
          generalize H1 = H at hP hS ⊢
          have hP : va_P (dC, dI) kls (wC h cI yf yc (nI rs.length) yt yg ym aP aF aT aK eB eE eA eL eN eC eS eW eT) H := hP
          have hD : va_D A (wC h cI yf yc (nI rs.length) yt yg ym aP aF aT aK eB eE eA eL eN eC eS eW eT) := hD
          rcases hw with ⟨hr9, hrow⟩ | ⟨hr9, hrow⟩
          · subst hr9
            refine lv_if_eq (tgt := 49) hx hb d_C_callFromTheEnd_37 (by decide) (fun c9 => absurd c9 (by decide +kernel)) (fun _ => ?_)
            obtain ⟨j1, hj1, hfj⟩ := hrow
            have haw : a = some j1 := by
              cases hz : a with
              | none => rw [hz] at hfj; exact absurd hfj.symm (ah_neg (by omega))
              | some i9 => rw [hz] at hfj; have := haj i9 hz; exact congrArg some ((nI_eq (by omega) (by omega)).mp hfj)
            subst haw
            obtain ⟨en, hen⟩ : ∃ en, rs[j1]? = some en := ⟨_, List.getElem?_eq_getElem hj1⟩
            have hrk := hrw j1 en hen
            refine lv_aload_n hx hb d_C_callFromTheEnd_40 rfl (lv_at hl 0 rfl) ?_
            refine va_get (D := (dC, dI)) (ci := 2) (v := .ref (h 10)) (C := R_C) (T := F_C) (N := 11) hx hb hk k_f_C hown hK hP 6 rfl rfl 3 (by decide) (hk _ k_C_48) (fun _ h9 => h9) rfl d_C_callFromTheEnd_41 ?_
            refine lv_iload_n hx hb d_C_callFromTheEnd_44 rfl (lv_at hl 3 rfl) ?_
            refine va_iald hx hb hK hP 10 0 rfl rfl (pk_in j1 800 (by omega)) d_C_callFromTheEnd_45 ?_
            refine lv_topi (fun z6 ez6 => ?_)
            obtain rfl : z6 = nI en.2.2.2.2 := ez6.trans ((rd (f := eL) (k := j1) (by omega)).trans hrk.2.2.2)
            refine lv_goto (tgt := 50) hx hb d_C_callFromTheEnd_46 (by decide) ?_
            have htq2 : t9 = q := by first | omega | exact absurd ⟨j1, hj1, rfl⟩ hrow0
            have hq9 : (chn rs (K + 1) a0)[q]? = some en.2.2.2.2 := by have h9 := hch 0; rw [chn_step hah hen (show j1 < K by omega)] at h9; rw [← htq2]; exact h9.symm
            exact W.iret (v := nI en.2.2.2.2) hx hb hr (fun t ht hW => ⟨⟨nI en.2.2.2.2, (), rfl, Or.inl ⟨en.2.2.2.2, hq9, rfl⟩, by rw [ht]; exact hP, va_K.moved hW.alike hK, hD⟩, hS.F ht⟩) hS.2.2 d_C_callFromTheEnd_50
          · subst hr9
            refine lv_if_eq (tgt := 49) hx hb d_C_callFromTheEnd_37 (by decide) (fun _ => ?_) (fun c9 => absurd c9 (by decide +kernel))
            refine lv_iconst (v := (-1)) hx hb d_C_callFromTheEnd_49 (by decide +kernel) ?_
            have han : a = none := by
              cases hz : a with
              | none => rfl
              | some i9 => exact absurd (show ∃ j, j < rs.length ∧ ahI a = nI j from ⟨i9, haj i9 hz, by rw [hz]; rfl⟩) hrow
            have hq9 : (chn rs (K + 1) a0)[q]? = none := by have h9 := hch (q - t9); rw [show t9 + (q - t9) = q by omega, han, chn_none] at h9; rw [← h9]; rfl
            exact W.iret (v := (-1)) hx hb hr (fun t ht hW => ⟨⟨(-1), (), rfl, Or.inr ⟨hq9, rfl⟩, by rw [ht]; exact hP, va_K.moved hW.alike hK, hD⟩, hS.F ht⟩) hS.2.2 d_C_callFromTheEnd_50
  exact lp _ 0 a0 (Nat.zero_le _) (fun i => by rw [Nat.zero_add]) (haj0) (Nat.lt_succ_self _) _ _ _ hP hD hS (lv_sub hl [2, 3, 4, 1, 0] rfl)
