abbrev at2 (aK : Nat → Int32) : Nat → Nat → Nat := fun c i => atN (aK c) i i
/-- a row of booleans -/
def hB (n : Nat) (op : Nat → Bool) (x : Nat → Int32) : Prop := ∀ j, j < n → x j = nI (op j).toNat
def oP1 (a2 : Nat → Nat → Nat) (tk : Bool) (op : Nat → Bool) (i k : Nat) : Prop := tk = false ∧ ∀ j, j < k → op j = true → 0 < a2 j i
def oP2 (a2 : Nat → Nat → Nat) (op : Nat → Bool) (i k : Nat) : Prop := ∃ j, j < k ∧ op j = true ∧ a2 j i = 2
theorem oP1_s {a2 : Nat → Nat → Nat} {tk : Bool} {op : Nat → Bool} {i k : Nat} : oP1 a2 tk op i (k + 1) ↔ oP1 a2 tk op i k ∧ (op k = true → 0 < a2 k i) := by
  constructor
  · rintro ⟨h1, h2⟩; exact ⟨⟨h1, fun j hj => h2 j (by omega)⟩, h2 k (by omega)⟩
  · rintro ⟨⟨h1, h2⟩, h3⟩
    refine ⟨h1, fun j hj => ?_⟩
    rcases Nat.lt_or_ge j k with q | q
    · exact h2 j q
    · obtain rfl : j = k := by omega
      exact h3
theorem oP2_s {a2 : Nat → Nat → Nat} {op : Nat → Bool} {i k : Nat} : oP2 a2 op i (k + 1) ↔ oP2 a2 op i k ∨ (op k = true ∧ a2 k i = 2) := by
  constructor
  · rintro ⟨j, hj, h⟩
    rcases Nat.lt_or_ge j k with q | q
    · exact Or.inl ⟨j, q, h⟩
    · obtain rfl : j = k := by omega
      exact Or.inr h
  · rintro (⟨j, hj, h⟩ | h)
    · exact ⟨j, by omega, h⟩
    · exact ⟨k, by omega, h⟩
theorem oCan_iff {nC : Nat} {a2 : Nat → Nat → Nat} {op : Nat → Bool} {i : Nat} : oP1 a2 false op i nC ∧ oP2 a2 op i nC ↔ oCan nC a2 op i := ⟨fun ⟨h1, h2⟩ => ⟨h1.2, h2⟩, fun ⟨h1, h2⟩ => ⟨⟨rfl, h1⟩, h2⟩⟩
def cO (nC : Nat) (op : Nat → Bool) : Nat := (List.range nC).countP op
theorem cO_le (nC : Nat) (op : Nat → Bool) : cO nC op ≤ nC := by
  have := List.countP_le_length (p := op) (l := List.range nC)
  rwa [List.length_range] at this
theorem cO_pos {nC : Nat} {op : Nat → Bool} : 0 < cO nC op ↔ oOpen nC op := by
  unfold cO oOpen
  rw [List.countP_pos_iff]
  constructor
  · rintro ⟨c, h1, h2⟩; exact ⟨c, List.mem_range.mp h1, h2⟩
  · rintro ⟨c, h1, h2⟩; exact ⟨c, List.mem_range.mpr h1, h2⟩
theorem cO_succ (n : Nat) (op : Nat → Bool) : cO (n + 1) op = cO n op + (op n).toNat := by
  unfold cO
  rw [List.range_succ, List.countP_append, List.countP_cons, List.countP_nil]
  cases op n <;> simp
theorem cO_congr {n : Nat} {p q : Nat → Bool} (h : ∀ j, j < n → p j = q j) : cO n p = cO n q := cn_congr (fun z hz => h z (List.mem_range.mp hz))
theorem cO_off : ∀ {n k : Nat} {p q : Nat → Bool}, k < n → p k = true → q k = false → (∀ j, j < n → j ≠ k → q j = p j) → cO n p = cO n q + 1
  | 0, k, p, q, h, _, _, _ => absurd h (Nat.not_lt_zero _)
  | n + 1, k, p, q, h, h1, h2, h3 => by
    rw [cO_succ, cO_succ]
    rcases Nat.lt_or_ge k n with z | z
    · rw [cO_off z h1 h2 (fun j hj hne => h3 j (by omega) hne), h3 n (by omega) (by omega)]
      omega
    · obtain rfl : k = n := by omega
      rw [h1, h2, cO_congr (fun j hj => h3 j (by omega) (by omega))]
      rfl
/-- the calls from f to itself -/
def op0 (cf ct : Nat → Nat) (f : Nat) : Nat → Bool := fun c => decide (cf c = f ∧ ct c = f)
/-- cut among the first k -/
def opm (a2 : Nat → Nat → Nat) (op : Nat → Bool) (i k : Nat) : Nat → Bool := fun j => if j < k then oCut a2 op i j else op j
theorem opm_eq {a2 : Nat → Nat → Nat} {op : Nat → Bool} {i k : Nat} (h : oCut a2 op i k = op k) : opm a2 op i (k + 1) = opm a2 op i k := by
  funext j
  unfold opm
  rcases Nat.lt_trichotomy j k with q | q | q
  · rw [if_pos (by omega), if_pos q]
  · subst q; rw [if_pos (by omega), if_neg (by omega), h]
  · rw [if_neg (by omega), if_neg (by omega)]
theorem opm_all {a2 : Nat → Nat → Nat} {op : Nat → Bool} {i n : Nat} {x : Nat → Int32} (h : hB n (opm a2 op i n) x) : hB n (oCut a2 op i) x := fun j hj => by
  rw [h j hj]; unfold opm; rw [if_pos hj]
theorem cO_all {a2 : Nat → Nat → Nat} {op : Nat → Bool} {i n : Nat} : cO n (opm a2 op i n) = cO n (oCut a2 op i) := cO_congr (fun j hj => by unfold opm; rw [if_pos hj])
theorem bN_lt (b : Bool) : b.toNat < 2 := by cases b <;> decide
theorem hB_up {n k : Nat} {op op' : Nat → Bool} {x : Nat → Int32} {v : Int32} (h : ∀ j, j < n → j ≠ k → op' j = op j) (hx : hB n op x) (hv : v = nI (op' k).toNat) : hB n op' (upd x k v) := by
  intro j hj
  by_cases q : j = k
  · subst q; rw [pk_us, hv]
  · rw [pk_un q, hx j hj, h j hj q]
def hO4 (tl : List Nat) (x : Nat → Int32) : Prop := ∀ j y, tl[j]? = some y → x j = nI y
theorem hO4_snoc {tl : List Nat} {x : Nat → Int32} (h : hO4 tl x) (y : Nat) : hO4 (tl ++ [y]) (upd x tl.length (nI y)) := by
  intro j z hz
  rcases Nat.lt_trichotomy j tl.length with q | q | q
  · rw [List.getElem?_append_left q] at hz
    rw [pk_un (by omega)]
    exact h j z hz
  · subst q
    rw [List.getElem?_append_right (Nat.le_refl _), Nat.sub_self] at hz
    cases hz
    exact pk_us
  · rw [List.getElem?_eq_none (by rw [List.length_append]; simp; omega)] at hz
    cases hz
theorem nd_snoc {tl : List Nat} {y : Nat} (h : tl.Nodup) (hy : y ∉ tl) : (tl ++ [y]).Nodup := by
  rw [List.nodup_append]
  refine ⟨h, List.nodup_cons.mpr ⟨List.not_mem_nil, List.nodup_nil⟩, fun a ha b hb hab => ?_⟩
  rw [List.mem_singleton] at hb
  exact hy (hb ▸ hab ▸ ha)
set_option maxHeartbeats 4000000 in
set_option maxRecDepth 100000 in
theorem m_mayTake (l : Launch) (dC : Nat → ClassId) (dI : Nat → Nat → Nat) (cI cZ : ClassId) (h : Nat → Nat) (sz : Nat) (xt xg : Int32) (aK bF bL bB bA bY bR oT oO oR bS : Nat → Int32) (nF nC : Nat) (pl cf ct : Nat → Nat) (i f : Nat) (op : Nat → Bool) (tk : Bool) (hC : nC ≤ 20) (hi : i < 4) (hO : hB nC op oO) (hTk : oT i = nI tk.toNat) : Met l y_M_mayTake w_M_mayTake ({ frames := 1, cells := 0, slots := 0, locals := 22 }) (va_Pc [.ref (h 0), .int (nI i), .int (nI f)] (fun U => U.heap.size = sz ∧ va_P (dC, dI) kls (wM h cI cZ xt (nI nF) (nI nC) xg (fun c => nI (pl c)) (fun c => nI (cf c)) (fun c => nI (ct c)) aK bF bL bB bA bY bR oT oO oR bS) U.heap ∧ va_K (dC, dI) kls (tyM cI cZ) U ∧ va_D (fun _ => True) (wM h cI cZ xt (nI nF) (nI nC) xg (fun c => nI (pl c)) (fun c => nI (cf c)) (fun c => nI (ct c)) aK bF bL bB bA bY bR oT oO oR bS))) (va_Qi (fun (r : Int32) (u : Unit) => (r = nI 1 ∧ tk = false ∧ oCan nC (at2 aK) op i) ∨ (r = nI 0 ∧ ¬ (tk = false ∧ oCan nC (at2 aK) op i))) (fun (u : Unit) (t : State) => va_P (dC, dI) kls (wM h cI cZ xt (nI nF) (nI nC) xg (fun c => nI (pl c)) (fun c => nI (cf c)) (fun c => nI (ct c)) aK bF bL bB bA bY bR oT oO oR bS) t.heap ∧ va_K (dC, dI) kls (tyM cI cZ) t ∧ va_D (va_A (wM h cI cZ xt (nI nF) (nI nC) xg (fun c => nI (pl c)) (fun c => nI (cf c)) (fun c => nI (ct c)) aK bF bL bB bA bY bR oT oO oR bS) sz) (wM h cI cZ xt (nI nF) (nI nC) xg (fun c => nI (pl c)) (fun c => nI (cf c)) (fun c => nI (ct c)) aK bF bL bB bA bY bR oT oO oR bS)) (va_A (wM h cI cZ xt (nI nF) (nI nC) xg (fun c => nI (pl c)) (fun c => nI (cf c)) (fun c => nI (ct c)) aK bF bL bB bA bY bR oT oO oR bS) sz)) 0 0 (va_A (wM h cI cZ xt (nI nF) (nI nC) xg (fun c => nI (pl c)) (fun c => nI (cf c)) (fun c => nI (ct c)) aK bF bL bB bA bY bR oT oO oR bS) sz) := by
  refine Met.ofW (cc := c_M_mayTake) (maxL := 6) (ret := (some .boolean)) (by decide) rfl ?_
  intro p e s m args below meth c s₁ B hml hv
  obtain ⟨rfl, hsz, hP, hK, hD0⟩ := hv
  have hx := B.exec
  have hb := B.bytes
  have hr := B.returns
  have hts := atoms_spec (ws := w_M_mayTake) B.pre
  have hk : ∀ w ∈ wMw, w.before _ s = true := fun w h => hts w (List.mem_cons_of_mem _ h)
  have hown : s.vm.findClass R_M = some m.cls := findClass_of_methodNamed B.named
  have hlocks := B.notSynchronized
  subst hsz
  have hD := hD0.self (sz := s.heap.size)
  generalize hAe : va_A (wM h cI cZ xt (nI nF) (nI nC) xg (fun c => nI (pl c)) (fun c => nI (cf c)) (fun c => nI (ct c)) aK bF bL bB bA bY bR oT oO oR bS) s.heap.size = A at hD ⊢
  have hA : ∀ q : Nat, s.heap.size ≤ q → A q := fun q h => by rw [← hAe]; exact Or.inr h
  have hS : va_S A s.heap s.heap [] := va_S.rf
  have hl := lv_entry ([.ref (h 0), .int (nI i), .int (nI f)]) (n := 6) (Nat.le_of_ble_eq_true rfl)
  rw [lg_entry_eq]
  generalize (lg_sl ([.ref (h 0), .int (nI i), .int (nI f)]) ++ List.replicate (6 - (lg_sl ([.ref (h 0), .int (nI i), .int (nI f)])).length) Slot.unset).toArray = ls at hl ⊢
  have hl : lv_has ls 6 [(0, .ref (h 0)), (1, .int (nI i)), (2, .int (nI f))] := hl
  refine lv_aload_n hx hb d_M_mayTake_0 rfl (lv_at hl 0 rfl) ?_
  refine va_get (D := (dC, dI)) (ci := 0) (v := .ref (h 11)) (C := R_M) (T := F_M) (N := 18) hx hb hk k_M_f hown hK hP 0 rfl rfl 14 (by decide) (hk _ k_M_22) (fun _ h9 => h9) rfl d_M_mayTake_1 ?_
  refine lv_iload_n hx hb d_M_mayTake_4 rfl (lv_at hl 1 rfl) ?_
  refine va_zald hx hb hK hP 11 1 rfl rfl (pk_in i 4 (by omega)) d_M_mayTake_5 ?_
  refine lv_topi (fun z1 ez1 => ?_)
  obtain rfl : z1 = nI tk.toNat := ez1.trans ((rd (f := oT) (k := i) (by omega)).trans hTk)
  have htb := bN_lt tk
  refine lv_if_ne (tgt := 13) hx hb d_M_mayTake_6 (by decide) (fun c_6 => ?_) (fun c_6 => ?_)
  · have c_6 : ¬ tk.toNat = 0 := fun z9 => c_6 ((nI_eq (a := tk.toNat) (b := 0) (by omega) (by omega)).mpr z9)
    refine lv_iconst (v := nI 0) hx hb d_M_mayTake_13 (by decide +kernel) ?_
    refine lv_istore_n (lv' := [(3, .int (nI 0)), (0, .ref (h 0)), (1, .int (nI i)), (2, .int (nI f))]) hx hb d_M_mayTake_14 rfl hl (by decide) rfl (fun ls hl => ?_)
    refine lv_iconst (v := nI 0) hx hb d_M_mayTake_15 (by decide +kernel) ?_
    refine lv_istore (lv' := [(4, .int (nI 0)), (3, .int (nI 0)), (0, .ref (h 0)), (1, .int (nI i)), (2, .int (nI f))]) hx hb d_M_mayTake_16 hl (by decide) rfl (fun ls hl => ?_)
    refine lv_iconst (v := nI 0) hx hb d_M_mayTake_18 (by decide +kernel) ?_
    refine lv_istore (lv' := [(5, .int (nI 0)), (4, .int (nI 0)), (3, .int (nI 0)), (0, .ref (h 0)), (1, .int (nI i)), (2, .int (nI f))]) hx hb d_M_mayTake_19 hl (by decide) rfl (fun ls hl => ?_)
    have h10 : (0 = 1 ∧ oP1 (at2 aK) tk op i 0) ∨ (0 = 0 ∧ ¬ oP1 (at2 aK) tk op i 0) := by
      cases tk
      · first | exact Or.inl ⟨rfl, rfl, fun j hj => absurd hj (Nat.not_lt_zero _)⟩ | exact absurd rfl c_6
      · first | exact Or.inr ⟨rfl, fun z => absurd z.1 (by decide)⟩ | exact absurd c_6 (by decide)
    have lp : ∀ (n_lp : Nat) (k : Nat) (b1 : Nat) (b2 : Nat), (k ≤ nC) → ((b1 = 1 ∧ oP1 (at2 aK) tk op i k) ∨ (b1 = 0 ∧ ¬ oP1 (at2 aK) tk op i k)) → ((b2 = 1 ∧ oP2 (at2 aK) op i k) ∨ (b2 = 0 ∧ ¬ oP2 (at2 aK) op i k)) → nC - k < n_lp → ∀ (H : Heap) (locs : List Loc) (ls : Array Slot), va_P (dC, dI) kls (wM h cI cZ xt (nI nF) (nI nC) xg (fun c => nI (pl c)) (fun c => nI (cf c)) (fun c => nI (ct c)) aK bF bL bB bA bY bR oT oO oR bS) H → va_D A (wM h cI cZ xt (nI nF) (nI nC) xg (fun c => nI (pl c)) (fun c => nI (cf c)) (fun c => nI (ct c)) aK bF bL bB bA bY bR oT oO oR bS) → va_S A s.heap H locs → lv_has ls 6 [(0, .ref (h 0)), (1, .int (nI i)), (2, .int (nI f)), (3, .int (nI b1)), (4, .int (nI b2)), (5, .int (nI k))] → W p l e (headSpec w_M_mayTake ({ frames := 1, cells := 0, slots := 0, locals := 22 })).room s m ([.ref (h 0), .int (nI i), .int (nI f)]).toArray below meth c H locs 0 0 (MQ below (va_Qi (fun (r : Int32) (u : Unit) => (r = nI 1 ∧ tk = false ∧ oCan nC (at2 aK) op i) ∨ (r = nI 0 ∧ ¬ (tk = false ∧ oCan nC (at2 aK) op i))) (fun (u : Unit) (t : State) => va_P (dC, dI) kls (wM h cI cZ xt (nI nF) (nI nC) xg (fun c => nI (pl c)) (fun c => nI (cf c)) (fun c => nI (ct c)) aK bF bL bB bA bY bR oT oO oR bS) t.heap ∧ va_K (dC, dI) kls (tyM cI cZ) t ∧ va_D (A) (wM h cI cZ xt (nI nF) (nI nC) xg (fun c => nI (pl c)) (fun c => nI (cf c)) (fun c => nI (ct c)) aK bF bL bB bA bY bR oT oO oR bS)) A) ([.ref (h 0), .int (nI i), .int (nI f)]).toArray s 0 0 A) (F0 m 21 ls []) := by
      intro n_lp
      induction n_lp with
      | zero => intro k b1 b2 hk0 h1 h2 hn; exact absurd hn (Nat.not_lt_zero _)
      | succ n_lp ih_lp =>
        intro k b1 b2 hk0 h1 h2 hn H locs ls hP hD hS hl
        have hb1 : b1 < 2 := by rcases h1 with ⟨z, -⟩ | ⟨z, -⟩ <;> omega
        have hb2 : b2 < 2 := by rcases h2 with ⟨z, -⟩ | ⟨z, -⟩ <;> omega
        refine lv_iload hx hb d_M_mayTake_21 (lv_at hl 5 rfl) ?_
        refine lv_aload_n hx hb d_M_mayTake_23 rfl (lv_at hl 0 rfl) ?_
        refine va_get (D := (dC, dI)) (ci := 0) (v := .int (nI nC)) (C := R_M) (T := F_M) (N := 18) hx hb hk k_M_f hown hK hP 0 rfl rfl 2 (by decide) (hk _ k_M_10) (fun _ h9 => h9) rfl d_M_mayTake_24 ?_
        refine lv_icmp_ge (tgt := 102) hx hb d_M_mayTake_27 (by decide) (fun c_27 => ?_) (fun c_27 => ?_)
        · have c_27 : nC ≤ k := (nI_leI (a := nC) (b := k) (by omega) (by omega)).mp c_27
          refine lv_iload_n hx hb d_M_mayTake_102 rfl (lv_at hl 3 rfl) ?_
          refine lv_if_eq (tgt := 115) hx hb d_M_mayTake_103 (by decide) (fun c_103 => ?_) (fun c_103 => ?_)
          · have c_103 : b1 = 0 := (nI_eq (a := b1) (b := 0) (by omega) (by omega)).mp c_103
            refine lv_iconst (v := nI 0) hx hb d_M_mayTake_115 (by decide +kernel) ?_
            have hkn : k = nC := by omega
            subst hkn
            have hq9 : ¬ (tk = false ∧ oCan k (at2 aK) op i) := by
              rintro ⟨z1, z2, z3⟩
              rcases h1 with ⟨z4, -⟩ | ⟨-, z4⟩
              · rcases h2 with ⟨z5, -⟩ | ⟨-, z5⟩
                · omega
                · exact z5 z3
              · exact z4 ⟨z1, z2⟩
            exact W.zret (v := nI 0) (ty := .boolean) hx hb hr rfl (fun t ht hW => ⟨⟨nI 0, (), rfl, Or.inr ⟨rfl, hq9⟩, by rw [ht]; exact hP, va_K.moved hW.alike hK, hD⟩, hS.F ht⟩) hS.2.2 d_M_mayTake_116
          · have c_103 : ¬ b1 = 0 := fun z9 => c_103 ((nI_eq (a := b1) (b := 0) (by omega) (by omega)).mpr z9)
            refine lv_iload hx hb d_M_mayTake_106 (lv_at hl 4 rfl) ?_
            refine lv_if_eq (tgt := 115) hx hb d_M_mayTake_108 (by decide) (fun c_108 => ?_) (fun c_108 => ?_)
            · have c_108 : b2 = 0 := (nI_eq (a := b2) (b := 0) (by omega) (by omega)).mp c_108
              refine lv_iconst (v := nI 0) hx hb d_M_mayTake_115 (by decide +kernel) ?_
              have hkn : k = nC := by omega
              subst hkn
              have hq9 : ¬ (tk = false ∧ oCan k (at2 aK) op i) := by
                rintro ⟨z1, z2, z3⟩
                rcases h1 with ⟨z4, -⟩ | ⟨-, z4⟩
                · rcases h2 with ⟨z5, -⟩ | ⟨-, z5⟩
                  · omega
                  · exact z5 z3
                · exact z4 ⟨z1, z2⟩
              exact W.zret (v := nI 0) (ty := .boolean) hx hb hr rfl (fun t ht hW => ⟨⟨nI 0, (), rfl, Or.inr ⟨rfl, hq9⟩, by rw [ht]; exact hP, va_K.moved hW.alike hK, hD⟩, hS.F ht⟩) hS.2.2 d_M_mayTake_116
            · have c_108 : ¬ b2 = 0 := fun z9 => c_108 ((nI_eq (a := b2) (b := 0) (by omega) (by omega)).mpr z9)
              refine lv_iconst (v := nI 1) hx hb d_M_mayTake_111 (by decide +kernel) ?_
              refine lv_goto (tgt := 116) hx hb d_M_mayTake_112 (by decide) ?_
              have hkn : k = nC := by omega
              subst hkn
              have hq9 : tk = false ∧ oCan k (at2 aK) op i := by
                rcases h1 with ⟨-, z1⟩ | ⟨z1, -⟩
                · rcases h2 with ⟨-, z2⟩ | ⟨z2, -⟩
                  · exact ⟨z1.1, z1.2, z2⟩
                  · exact absurd z2 c_108
                · exact absurd z1 c_103
              exact W.zret (v := nI 1) (ty := .boolean) hx hb hr rfl (fun t ht hW => ⟨⟨nI 1, (), rfl, Or.inl ⟨rfl, hq9⟩, by rw [ht]; exact hP, va_K.moved hW.alike hK, hD⟩, hS.F ht⟩) hS.2.2 d_M_mayTake_116
        · have c_27 : ¬ nC ≤ k := fun z9 => c_27 ((nI_leI (a := nC) (b := k) (by omega) (by omega)).mpr z9)
          refine lv_aload_n hx hb d_M_mayTake_30 rfl (lv_at hl 0 rfl) ?_
          refine va_get (D := (dC, dI)) (ci := 0) (v := .ref (h 12)) (C := R_M) (T := F_M) (N := 18) hx hb hk k_M_f hown hK hP 0 rfl rfl 15 (by decide) (hk _ k_M_23) (fun _ h9 => h9) rfl d_M_mayTake_31 ?_
          refine lv_iload hx hb d_M_mayTake_34 (lv_at hl 5 rfl) ?_
          refine va_zald hx hb hK hP 12 1 rfl rfl (pk_in k 20 (by omega)) d_M_mayTake_36 ?_
          refine lv_topi (fun z2 ez2 => ?_)
          obtain rfl : z2 = nI ((op k).toNat) := ez2.trans ((rd (f := oO) (k := k) (by omega)).trans (hO k (by omega)))
          have hob := bN_lt (op k)
          refine lv_if_ne (tgt := 43) hx hb d_M_mayTake_37 (by decide) (fun c_37 => ?_) (fun c_37 => ?_)
          · have c_37 : ¬ (op k).toNat = 0 := fun z9 => c_37 ((nI_eq (a := (op k).toNat) (b := 0) (by omega) (by omega)).mpr z9)
            refine lv_iload_n hx hb d_M_mayTake_43 rfl (lv_at hl 3 rfl) ?_
            refine lv_if_eq (tgt := 66) hx hb d_M_mayTake_44 (by decide) (fun c_44 => ?_) (fun c_44 => ?_)
            · have c_44 : b1 = 0 := (nI_eq (a := b1) (b := 0) (by omega) (by omega)).mp c_44
              refine lv_iconst (v := nI 0) hx hb d_M_mayTake_66 (by decide +kernel) ?_
              refine lv_istore_n (lv' := [(3, .int (nI 0)), (0, .ref (h 0)), (1, .int (nI i)), (2, .int (nI f)), (4, .int (nI b2)), (5, .int (nI k))]) hx hb d_M_mayTake_67 rfl hl (by decide) rfl (fun ls hl => ?_)
              refine lv_iload hx hb d_M_mayTake_68 (lv_at hl 4 rfl) ?_
              refine lv_if_ne (tgt := 89) hx hb d_M_mayTake_70 (by decide) (fun c_70 => ?_) (fun c_70 => ?_)
              · have c_70 : ¬ b2 = 0 := fun z9 => c_70 ((nI_eq (a := b2) (b := 0) (by omega) (by omega)).mpr z9)
                refine lv_iconst (v := nI 1) hx hb d_M_mayTake_89 (by decide +kernel) ?_
                refine lv_goto (tgt := 94) hx hb d_M_mayTake_90 (by decide) ?_
                refine lv_istore (lv' := [(4, .int (nI 1)), (3, .int (nI 0)), (0, .ref (h 0)), (1, .int (nI i)), (2, .int (nI f)), (5, .int (nI k))]) hx hb d_M_mayTake_94 hl (by decide) rfl (fun ls hl => ?_)
                refine lv_iinc (v := nI (k + 1)) (lv' := [(5, .int (nI (k + 1))), (4, .int (nI 1)), (3, .int (nI 0)), (0, .ref (h 0)), (1, .int (nI i)), (2, .int (nI f))]) hx hb d_M_mayTake_96 hl (k := 5) rfl (nI_add k 1) (by decide) rfl (fun ls hl => ?_)
                refine lv_goto (tgt := 21) hx hb d_M_mayTake_99 (by decide) ?_
                have hop : op k = true := by cases hz : op k; rw [hz] at c_37; exact absurd rfl c_37; rfl
                have h1s : (0 = 1 ∧ oP1 (at2 aK) tk op i (k + 1)) ∨ (0 = 0 ∧ ¬ oP1 (at2 aK) tk op i (k + 1)) := by
                  rw [oP1_s]
                  refine Or.inr ⟨rfl, fun z => ?_⟩
                  rcases h1 with ⟨z1, z2⟩ | ⟨z1, z2⟩
                  · first | omega | (have z9 : 0 < atN (aK k) i i := z.2 hop; omega)
                  · exact z2 z.1
                have h2s : (1 = 1 ∧ oP2 (at2 aK) op i (k + 1)) ∨ (1 = 0 ∧ ¬ oP2 (at2 aK) op i (k + 1)) := by
                  rw [oP2_s]
                  refine Or.inl ⟨rfl, ?_⟩
                  rcases h2 with ⟨z1, z2⟩ | ⟨z1, z2⟩
                  · exact Or.inl z2
                  · first | exact absurd z1 c_70 | exact Or.inr ⟨hop, c_86⟩
                exact ih_lp (k + 1) 0 1 (by omega) (h1s) (h2s) (by omega) _ _ _ hP hD hS (lv_sub hl [3, 4, 5, 2, 1, 0] rfl)
              · have c_70 : b2 = 0 := (nI_eq (a := b2) (b := 0) (by omega) (by omega)).mp c_70
                refine lv_aload_n hx hb d_M_mayTake_73 rfl (lv_at hl 1 rfl) ?_
                refine va_get (D := (dC, dI)) (ci := 0) (v := .ref (h 4)) (C := R_M) (T := F_M) (N := 18) hx hb hk k_M_f hown hK hP 0 rfl rfl 6 (by decide) (hk _ k_M_14) (fun _ h9 => h9) rfl d_M_mayTake_74 ?_
                refine lv_iload hx hb d_M_mayTake_77 (lv_at hl 5 rfl) ?_
                refine va_iald hx hb hK hP 4 0 rfl rfl (pk_in k 20 (by omega)) d_M_mayTake_79 ?_
                refine lv_topi (fun z3 ez3 => ?_)
                obtain rfl : z3 = aK k := ez3.trans (rd (f := aK) (k := k) (by omega))
                refine lv_iload_n hx hb d_M_mayTake_80 rfl (lv_at hl 2 rfl) ?_
                refine lv_iload_n hx hb d_M_mayTake_81 rfl (lv_at hl 2 rfl) ?_
                refine vp_callSi (W.runS (As := [.int (aK k), .int (nI i), .int (nI i)]) (rest := []) ⟨hx, hb, hml, hown, hk⟩ (m_at l (aK k) i i (by omega) (by omega)) (cwS 3 hk g_M_at rfl rfl rfl (by decide +kernel) ⟨Nat.le_of_ble_eq_true rfl, Nat.le_of_ble_eq_true rfl⟩) ⟨fun a U g mk q => q, fun U hU hW => ⟨rfl, trivial⟩⟩ rfl rfl hl.1 rfl (lv_room (Nat.le_of_ble_eq_true rfl)) d_M_mayTake_82 ⟨Nat.le_of_ble_eq_true rfl, Nat.le_of_ble_eq_true rfl⟩) (fun r4 hw => ?_)
                subst hw
                refine lv_iconst (v := nI 2) hx hb d_M_mayTake_85 (by decide +kernel) ?_
                have hat2 := atN_lt (aK k) i i
                refine lv_icmp_ne (tgt := 93) hx hb d_M_mayTake_86 (by decide) (fun c_86 => ?_) (fun c_86 => ?_)
                · have c_86 : ¬ atN (aK k) i i = 2 := fun z9 => c_86 ((nI_eq (a := atN (aK k) i i) (b := 2) (by omega) (by omega)).mpr z9)
                  refine lv_iconst (v := nI 0) hx hb d_M_mayTake_93 (by decide +kernel) ?_
                  refine lv_istore (lv' := [(4, .int (nI 0)), (3, .int (nI 0)), (0, .ref (h 0)), (1, .int (nI i)), (2, .int (nI f)), (5, .int (nI k))]) hx hb d_M_mayTake_94 hl (by decide) rfl (fun ls hl => ?_)
                  refine lv_iinc (v := nI (k + 1)) (lv' := [(5, .int (nI (k + 1))), (4, .int (nI 0)), (3, .int (nI 0)), (0, .ref (h 0)), (1, .int (nI i)), (2, .int (nI f))]) hx hb d_M_mayTake_96 hl (k := 5) rfl (nI_add k 1) (by decide) rfl (fun ls hl => ?_)
                  refine lv_goto (tgt := 21) hx hb d_M_mayTake_99 (by decide) ?_
                  have hop : op k = true := by cases hz : op k; rw [hz] at c_37; exact absurd rfl c_37; rfl
                  have h1s : (0 = 1 ∧ oP1 (at2 aK) tk op i (k + 1)) ∨ (0 = 0 ∧ ¬ oP1 (at2 aK) tk op i (k + 1)) := by
                    rw [oP1_s]
                    refine Or.inr ⟨rfl, fun z => ?_⟩
                    rcases h1 with ⟨z1, z2⟩ | ⟨z1, z2⟩
                    · first | omega | (have z9 : 0 < atN (aK k) i i := z.2 hop; omega)
                    · exact z2 z.1
                  have h2s : (0 = 1 ∧ oP2 (at2 aK) op i (k + 1)) ∨ (0 = 0 ∧ ¬ oP2 (at2 aK) op i (k + 1)) := by
                    rw [oP2_s]
                    refine Or.inr ⟨rfl, fun z => ?_⟩
                    rcases h2 with ⟨z1, z2⟩ | ⟨z1, z2⟩
                    · omega
                    · rcases z with z | z
                      · exact z2 z
                      · exact c_86 z.2
                  exact ih_lp (k + 1) 0 0 (by omega) (h1s) (h2s) (by omega) _ _ _ hP hD hS (lv_sub hl [3, 4, 5, 2, 1, 0] rfl)
                · have c_86 : atN (aK k) i i = 2 := (nI_eq (a := atN (aK k) i i) (b := 2) (by omega) (by omega)).mp c_86
                  refine lv_iconst (v := nI 1) hx hb d_M_mayTake_89 (by decide +kernel) ?_
                  refine lv_goto (tgt := 94) hx hb d_M_mayTake_90 (by decide) ?_
                  refine lv_istore (lv' := [(4, .int (nI 1)), (3, .int (nI 0)), (0, .ref (h 0)), (1, .int (nI i)), (2, .int (nI f)), (5, .int (nI k))]) hx hb d_M_mayTake_94 hl (by decide) rfl (fun ls hl => ?_)
                  refine lv_iinc (v := nI (k + 1)) (lv' := [(5, .int (nI (k + 1))), (4, .int (nI 1)), (3, .int (nI 0)), (0, .ref (h 0)), (1, .int (nI i)), (2, .int (nI f))]) hx hb d_M_mayTake_96 hl (k := 5) rfl (nI_add k 1) (by decide) rfl (fun ls hl => ?_)
                  refine lv_goto (tgt := 21) hx hb d_M_mayTake_99 (by decide) ?_
                  have hop : op k = true := by cases hz : op k; rw [hz] at c_37; exact absurd rfl c_37; rfl
                  have h1s : (0 = 1 ∧ oP1 (at2 aK) tk op i (k + 1)) ∨ (0 = 0 ∧ ¬ oP1 (at2 aK) tk op i (k + 1)) := by
                    rw [oP1_s]
                    refine Or.inr ⟨rfl, fun z => ?_⟩
                    rcases h1 with ⟨z1, z2⟩ | ⟨z1, z2⟩
                    · first | omega | (have z9 : 0 < atN (aK k) i i := z.2 hop; omega)
                    · exact z2 z.1
                  have h2s : (1 = 1 ∧ oP2 (at2 aK) op i (k + 1)) ∨ (1 = 0 ∧ ¬ oP2 (at2 aK) op i (k + 1)) := by
                    rw [oP2_s]
                    refine Or.inl ⟨rfl, ?_⟩
                    rcases h2 with ⟨z1, z2⟩ | ⟨z1, z2⟩
                    · exact Or.inl z2
                    · first | exact absurd z1 c_70 | exact Or.inr ⟨hop, c_86⟩
                  exact ih_lp (k + 1) 0 1 (by omega) (h1s) (h2s) (by omega) _ _ _ hP hD hS (lv_sub hl [3, 4, 5, 2, 1, 0] rfl)
            · have c_44 : ¬ b1 = 0 := fun z9 => c_44 ((nI_eq (a := b1) (b := 0) (by omega) (by omega)).mpr z9)
              refine lv_aload_n hx hb d_M_mayTake_47 rfl (lv_at hl 0 rfl) ?_
              refine va_get (D := (dC, dI)) (ci := 0) (v := .ref (h 4)) (C := R_M) (T := F_M) (N := 18) hx hb hk k_M_f hown hK hP 0 rfl rfl 6 (by decide) (hk _ k_M_14) (fun _ h9 => h9) rfl d_M_mayTake_48 ?_
              refine lv_iload hx hb d_M_mayTake_51 (lv_at hl 5 rfl) ?_
              refine va_iald hx hb hK hP 4 0 rfl rfl (pk_in k 20 (by omega)) d_M_mayTake_53 ?_
              refine lv_topi (fun z5 ez5 => ?_)
              obtain rfl : z5 = aK k := ez5.trans (rd (f := aK) (k := k) (by omega))
              refine lv_iload_n hx hb d_M_mayTake_54 rfl (lv_at hl 1 rfl) ?_
              refine lv_iload_n hx hb d_M_mayTake_55 rfl (lv_at hl 1 rfl) ?_
              refine vp_callSi (W.runS (As := [.int (aK k), .int (nI i), .int (nI i)]) (rest := []) ⟨hx, hb, hml, hown, hk⟩ (m_at l (aK k) i i (by omega) (by omega)) (cwS 3 hk g_M_at rfl rfl rfl (by decide +kernel) ⟨Nat.le_of_ble_eq_true rfl, Nat.le_of_ble_eq_true rfl⟩) ⟨fun a U g mk q => q, fun U hU hW => ⟨rfl, trivial⟩⟩ rfl rfl hl.1 rfl (lv_room (Nat.le_of_ble_eq_true rfl)) d_M_mayTake_56 ⟨Nat.le_of_ble_eq_true rfl, Nat.le_of_ble_eq_true rfl⟩) (fun r6 hw => ?_)
              subst hw
              have hat := atN_lt (aK k) i i
              refine lv_if_le (tgt := 66) hx hb d_M_mayTake_59 (by decide) (fun c_59 => ?_) (fun c_59 => ?_)
              · have c_59 : atN (aK k) i i ≤ 0 := (nI_leI (a := atN (aK k) i i) (b := 0) (by omega) (by omega)).mp c_59
                refine lv_iconst (v := nI 0) hx hb d_M_mayTake_66 (by decide +kernel) ?_
                refine lv_istore_n (lv' := [(3, .int (nI 0)), (0, .ref (h 0)), (1, .int (nI i)), (2, .int (nI f)), (4, .int (nI b2)), (5, .int (nI k))]) hx hb d_M_mayTake_67 rfl hl (by decide) rfl (fun ls hl => ?_)
                refine lv_iload hx hb d_M_mayTake_68 (lv_at hl 4 rfl) ?_
                refine lv_if_ne (tgt := 89) hx hb d_M_mayTake_70 (by decide) (fun c_70 => ?_) (fun c_70 => ?_)
                · have c_70 : ¬ b2 = 0 := fun z9 => c_70 ((nI_eq (a := b2) (b := 0) (by omega) (by omega)).mpr z9)
                  refine lv_iconst (v := nI 1) hx hb d_M_mayTake_89 (by decide +kernel) ?_
                  refine lv_goto (tgt := 94) hx hb d_M_mayTake_90 (by decide) ?_
                  refine lv_istore (lv' := [(4, .int (nI 1)), (3, .int (nI 0)), (0, .ref (h 0)), (1, .int (nI i)), (2, .int (nI f)), (5, .int (nI k))]) hx hb d_M_mayTake_94 hl (by decide) rfl (fun ls hl => ?_)
                  refine lv_iinc (v := nI (k + 1)) (lv' := [(5, .int (nI (k + 1))), (4, .int (nI 1)), (3, .int (nI 0)), (0, .ref (h 0)), (1, .int (nI i)), (2, .int (nI f))]) hx hb d_M_mayTake_96 hl (k := 5) rfl (nI_add k 1) (by decide) rfl (fun ls hl => ?_)
                  refine lv_goto (tgt := 21) hx hb d_M_mayTake_99 (by decide) ?_
                  have hop : op k = true := by cases hz : op k; rw [hz] at c_37; exact absurd rfl c_37; rfl
                  have h1s : (0 = 1 ∧ oP1 (at2 aK) tk op i (k + 1)) ∨ (0 = 0 ∧ ¬ oP1 (at2 aK) tk op i (k + 1)) := by
                    rw [oP1_s]
                    refine Or.inr ⟨rfl, fun z => ?_⟩
                    rcases h1 with ⟨z1, z2⟩ | ⟨z1, z2⟩
                    · first | omega | (have z9 : 0 < atN (aK k) i i := z.2 hop; omega)
                    · exact z2 z.1
                  have h2s : (1 = 1 ∧ oP2 (at2 aK) op i (k + 1)) ∨ (1 = 0 ∧ ¬ oP2 (at2 aK) op i (k + 1)) := by
                    rw [oP2_s]
                    refine Or.inl ⟨rfl, ?_⟩
                    rcases h2 with ⟨z1, z2⟩ | ⟨z1, z2⟩
                    · exact Or.inl z2
                    · first | exact absurd z1 c_70 | exact Or.inr ⟨hop, c_86⟩
                  exact ih_lp (k + 1) 0 1 (by omega) (h1s) (h2s) (by omega) _ _ _ hP hD hS (lv_sub hl [3, 4, 5, 2, 1, 0] rfl)
                · have c_70 : b2 = 0 := (nI_eq (a := b2) (b := 0) (by omega) (by omega)).mp c_70
                  refine lv_aload_n hx hb d_M_mayTake_73 rfl (lv_at hl 1 rfl) ?_
                  refine va_get (D := (dC, dI)) (ci := 0) (v := .ref (h 4)) (C := R_M) (T := F_M) (N := 18) hx hb hk k_M_f hown hK hP 0 rfl rfl 6 (by decide) (hk _ k_M_14) (fun _ h9 => h9) rfl d_M_mayTake_74 ?_
                  refine lv_iload hx hb d_M_mayTake_77 (lv_at hl 5 rfl) ?_
                  refine va_iald hx hb hK hP 4 0 rfl rfl (pk_in k 20 (by omega)) d_M_mayTake_79 ?_
                  refine lv_topi (fun z7 ez7 => ?_)
                  obtain rfl : z7 = aK k := ez7.trans (rd (f := aK) (k := k) (by omega))
                  refine lv_iload_n hx hb d_M_mayTake_80 rfl (lv_at hl 2 rfl) ?_
                  refine lv_iload_n hx hb d_M_mayTake_81 rfl (lv_at hl 2 rfl) ?_
                  refine vp_callSi (W.runS (As := [.int (aK k), .int (nI i), .int (nI i)]) (rest := []) ⟨hx, hb, hml, hown, hk⟩ (m_at l (aK k) i i (by omega) (by omega)) (cwS 3 hk g_M_at rfl rfl rfl (by decide +kernel) ⟨Nat.le_of_ble_eq_true rfl, Nat.le_of_ble_eq_true rfl⟩) ⟨fun a U g mk q => q, fun U hU hW => ⟨rfl, trivial⟩⟩ rfl rfl hl.1 rfl (lv_room (Nat.le_of_ble_eq_true rfl)) d_M_mayTake_82 ⟨Nat.le_of_ble_eq_true rfl, Nat.le_of_ble_eq_true rfl⟩) (fun r8 hw => ?_)
                  subst hw
                  refine lv_iconst (v := nI 2) hx hb d_M_mayTake_85 (by decide +kernel) ?_
                  have hat2 := atN_lt (aK k) i i
                  refine lv_icmp_ne (tgt := 93) hx hb d_M_mayTake_86 (by decide) (fun c_86 => ?_) (fun c_86 => ?_)
                  · have c_86 : ¬ atN (aK k) i i = 2 := fun z9 => c_86 ((nI_eq (a := atN (aK k) i i) (b := 2) (by omega) (by omega)).mpr z9)
                    refine lv_iconst (v := nI 0) hx hb d_M_mayTake_93 (by decide +kernel) ?_
                    refine lv_istore (lv' := [(4, .int (nI 0)), (3, .int (nI 0)), (0, .ref (h 0)), (1, .int (nI i)), (2, .int (nI f)), (5, .int (nI k))]) hx hb d_M_mayTake_94 hl (by decide) rfl (fun ls hl => ?_)
                    refine lv_iinc (v := nI (k + 1)) (lv' := [(5, .int (nI (k + 1))), (4, .int (nI 0)), (3, .int (nI 0)), (0, .ref (h 0)), (1, .int (nI i)), (2, .int (nI f))]) hx hb d_M_mayTake_96 hl (k := 5) rfl (nI_add k 1) (by decide) rfl (fun ls hl => ?_)
                    refine lv_goto (tgt := 21) hx hb d_M_mayTake_99 (by decide) ?_
                    have hop : op k = true := by cases hz : op k; rw [hz] at c_37; exact absurd rfl c_37; rfl
                    have h1s : (0 = 1 ∧ oP1 (at2 aK) tk op i (k + 1)) ∨ (0 = 0 ∧ ¬ oP1 (at2 aK) tk op i (k + 1)) := by
                      rw [oP1_s]
                      refine Or.inr ⟨rfl, fun z => ?_⟩
                      rcases h1 with ⟨z1, z2⟩ | ⟨z1, z2⟩
                      · first | omega | (have z9 : 0 < atN (aK k) i i := z.2 hop; omega)
                      · exact z2 z.1
                    have h2s : (0 = 1 ∧ oP2 (at2 aK) op i (k + 1)) ∨ (0 = 0 ∧ ¬ oP2 (at2 aK) op i (k + 1)) := by
                      rw [oP2_s]
                      refine Or.inr ⟨rfl, fun z => ?_⟩
                      rcases h2 with ⟨z1, z2⟩ | ⟨z1, z2⟩
                      · omega
                      · rcases z with z | z
                        · exact z2 z
                        · exact c_86 z.2
                    exact ih_lp (k + 1) 0 0 (by omega) (h1s) (h2s) (by omega) _ _ _ hP hD hS (lv_sub hl [3, 4, 5, 2, 1, 0] rfl)
                  · have c_86 : atN (aK k) i i = 2 := (nI_eq (a := atN (aK k) i i) (b := 2) (by omega) (by omega)).mp c_86
                    refine lv_iconst (v := nI 1) hx hb d_M_mayTake_89 (by decide +kernel) ?_
                    refine lv_goto (tgt := 94) hx hb d_M_mayTake_90 (by decide) ?_
                    refine lv_istore (lv' := [(4, .int (nI 1)), (3, .int (nI 0)), (0, .ref (h 0)), (1, .int (nI i)), (2, .int (nI f)), (5, .int (nI k))]) hx hb d_M_mayTake_94 hl (by decide) rfl (fun ls hl => ?_)
                    refine lv_iinc (v := nI (k + 1)) (lv' := [(5, .int (nI (k + 1))), (4, .int (nI 1)), (3, .int (nI 0)), (0, .ref (h 0)), (1, .int (nI i)), (2, .int (nI f))]) hx hb d_M_mayTake_96 hl (k := 5) rfl (nI_add k 1) (by decide) rfl (fun ls hl => ?_)
                    refine lv_goto (tgt := 21) hx hb d_M_mayTake_99 (by decide) ?_
                    have hop : op k = true := by cases hz : op k; rw [hz] at c_37; exact absurd rfl c_37; rfl
                    have h1s : (0 = 1 ∧ oP1 (at2 aK) tk op i (k + 1)) ∨ (0 = 0 ∧ ¬ oP1 (at2 aK) tk op i (k + 1)) := by
                      rw [oP1_s]
                      refine Or.inr ⟨rfl, fun z => ?_⟩
                      rcases h1 with ⟨z1, z2⟩ | ⟨z1, z2⟩
                      · first | omega | (have z9 : 0 < atN (aK k) i i := z.2 hop; omega)
                      · exact z2 z.1
                    have h2s : (1 = 1 ∧ oP2 (at2 aK) op i (k + 1)) ∨ (1 = 0 ∧ ¬ oP2 (at2 aK) op i (k + 1)) := by
                      rw [oP2_s]
                      refine Or.inl ⟨rfl, ?_⟩
                      rcases h2 with ⟨z1, z2⟩ | ⟨z1, z2⟩
                      · exact Or.inl z2
                      · first | exact absurd z1 c_70 | exact Or.inr ⟨hop, c_86⟩
                    exact ih_lp (k + 1) 0 1 (by omega) (h1s) (h2s) (by omega) _ _ _ hP hD hS (lv_sub hl [3, 4, 5, 2, 1, 0] rfl)
              · have c_59 : ¬ atN (aK k) i i ≤ 0 := fun z9 => c_59 ((nI_leI (a := atN (aK k) i i) (b := 0) (by omega) (by omega)).mpr z9)
                refine lv_iconst (v := nI 1) hx hb d_M_mayTake_62 (by decide +kernel) ?_
                refine lv_goto (tgt := 67) hx hb d_M_mayTake_63 (by decide) ?_
                refine lv_istore_n (lv' := [(3, .int (nI 1)), (0, .ref (h 0)), (1, .int (nI i)), (2, .int (nI f)), (4, .int (nI b2)), (5, .int (nI k))]) hx hb d_M_mayTake_67 rfl hl (by decide) rfl (fun ls hl => ?_)
                refine lv_iload hx hb d_M_mayTake_68 (lv_at hl 4 rfl) ?_
                refine lv_if_ne (tgt := 89) hx hb d_M_mayTake_70 (by decide) (fun c_70 => ?_) (fun c_70 => ?_)
                · have c_70 : ¬ b2 = 0 := fun z9 => c_70 ((nI_eq (a := b2) (b := 0) (by omega) (by omega)).mpr z9)
                  refine lv_iconst (v := nI 1) hx hb d_M_mayTake_89 (by decide +kernel) ?_
                  refine lv_goto (tgt := 94) hx hb d_M_mayTake_90 (by decide) ?_
                  refine lv_istore (lv' := [(4, .int (nI 1)), (3, .int (nI 1)), (0, .ref (h 0)), (1, .int (nI i)), (2, .int (nI f)), (5, .int (nI k))]) hx hb d_M_mayTake_94 hl (by decide) rfl (fun ls hl => ?_)
                  refine lv_iinc (v := nI (k + 1)) (lv' := [(5, .int (nI (k + 1))), (4, .int (nI 1)), (3, .int (nI 1)), (0, .ref (h 0)), (1, .int (nI i)), (2, .int (nI f))]) hx hb d_M_mayTake_96 hl (k := 5) rfl (nI_add k 1) (by decide) rfl (fun ls hl => ?_)
                  refine lv_goto (tgt := 21) hx hb d_M_mayTake_99 (by decide) ?_
                  have hop : op k = true := by cases hz : op k; rw [hz] at c_37; exact absurd rfl c_37; rfl
                  have h1s : (1 = 1 ∧ oP1 (at2 aK) tk op i (k + 1)) ∨ (1 = 0 ∧ ¬ oP1 (at2 aK) tk op i (k + 1)) := by
                    rw [oP1_s]
                    rcases h1 with ⟨z1, z2⟩ | ⟨z1, z2⟩
                    · exact Or.inl ⟨rfl, z2, fun _ => by show 0 < atN (aK k) i i; omega⟩
                    · exact absurd z1 c_44
                  have h2s : (1 = 1 ∧ oP2 (at2 aK) op i (k + 1)) ∨ (1 = 0 ∧ ¬ oP2 (at2 aK) op i (k + 1)) := by
                    rw [oP2_s]
                    refine Or.inl ⟨rfl, ?_⟩
                    rcases h2 with ⟨z1, z2⟩ | ⟨z1, z2⟩
                    · exact Or.inl z2
                    · first | exact absurd z1 c_70 | exact Or.inr ⟨hop, c_86⟩
                  exact ih_lp (k + 1) 1 1 (by omega) (h1s) (h2s) (by omega) _ _ _ hP hD hS (lv_sub hl [3, 4, 5, 2, 1, 0] rfl)
                · have c_70 : b2 = 0 := (nI_eq (a := b2) (b := 0) (by omega) (by omega)).mp c_70
                  refine lv_aload_n hx hb d_M_mayTake_73 rfl (lv_at hl 1 rfl) ?_
                  refine va_get (D := (dC, dI)) (ci := 0) (v := .ref (h 4)) (C := R_M) (T := F_M) (N := 18) hx hb hk k_M_f hown hK hP 0 rfl rfl 6 (by decide) (hk _ k_M_14) (fun _ h9 => h9) rfl d_M_mayTake_74 ?_
                  refine lv_iload hx hb d_M_mayTake_77 (lv_at hl 5 rfl) ?_
                  refine va_iald hx hb hK hP 4 0 rfl rfl (pk_in k 20 (by omega)) d_M_mayTake_79 ?_
                  refine lv_topi (fun z9 ez9 => ?_)
                  obtain rfl : z9 = aK k := ez9.trans (rd (f := aK) (k := k) (by omega))
                  refine lv_iload_n hx hb d_M_mayTake_80 rfl (lv_at hl 2 rfl) ?_
                  refine lv_iload_n hx hb d_M_mayTake_81 rfl (lv_at hl 2 rfl) ?_
                  refine vp_callSi (W.runS (As := [.int (aK k), .int (nI i), .int (nI i)]) (rest := []) ⟨hx, hb, hml, hown, hk⟩ (m_at l (aK k) i i (by omega) (by omega)) (cwS 3 hk g_M_at rfl rfl rfl (by decide +kernel) ⟨Nat.le_of_ble_eq_true rfl, Nat.le_of_ble_eq_true rfl⟩) ⟨fun a U g mk q => q, fun U hU hW => ⟨rfl, trivial⟩⟩ rfl rfl hl.1 rfl (lv_room (Nat.le_of_ble_eq_true rfl)) d_M_mayTake_82 ⟨Nat.le_of_ble_eq_true rfl, Nat.le_of_ble_eq_true rfl⟩) (fun r10 hw => ?_)
                  subst hw
                  refine lv_iconst (v := nI 2) hx hb d_M_mayTake_85 (by decide +kernel) ?_
                  have hat2 := atN_lt (aK k) i i
                  refine lv_icmp_ne (tgt := 93) hx hb d_M_mayTake_86 (by decide) (fun c_86 => ?_) (fun c_86 => ?_)
                  · have c_86 : ¬ atN (aK k) i i = 2 := fun z9 => c_86 ((nI_eq (a := atN (aK k) i i) (b := 2) (by omega) (by omega)).mpr z9)
                    refine lv_iconst (v := nI 0) hx hb d_M_mayTake_93 (by decide +kernel) ?_
                    refine lv_istore (lv' := [(4, .int (nI 0)), (3, .int (nI 1)), (0, .ref (h 0)), (1, .int (nI i)), (2, .int (nI f)), (5, .int (nI k))]) hx hb d_M_mayTake_94 hl (by decide) rfl (fun ls hl => ?_)
                    refine lv_iinc (v := nI (k + 1)) (lv' := [(5, .int (nI (k + 1))), (4, .int (nI 0)), (3, .int (nI 1)), (0, .ref (h 0)), (1, .int (nI i)), (2, .int (nI f))]) hx hb d_M_mayTake_96 hl (k := 5) rfl (nI_add k 1) (by decide) rfl (fun ls hl => ?_)
                    refine lv_goto (tgt := 21) hx hb d_M_mayTake_99 (by decide) ?_
                    have hop : op k = true := by cases hz : op k; rw [hz] at c_37; exact absurd rfl c_37; rfl
                    have h1s : (1 = 1 ∧ oP1 (at2 aK) tk op i (k + 1)) ∨ (1 = 0 ∧ ¬ oP1 (at2 aK) tk op i (k + 1)) := by
                      rw [oP1_s]
                      rcases h1 with ⟨z1, z2⟩ | ⟨z1, z2⟩
                      · exact Or.inl ⟨rfl, z2, fun _ => by show 0 < atN (aK k) i i; omega⟩
                      · exact absurd z1 c_44
                    have h2s : (0 = 1 ∧ oP2 (at2 aK) op i (k + 1)) ∨ (0 = 0 ∧ ¬ oP2 (at2 aK) op i (k + 1)) := by
                      rw [oP2_s]
                      refine Or.inr ⟨rfl, fun z => ?_⟩
                      rcases h2 with ⟨z1, z2⟩ | ⟨z1, z2⟩
                      · omega
                      · rcases z with z | z
                        · exact z2 z
                        · exact c_86 z.2
                    exact ih_lp (k + 1) 1 0 (by omega) (h1s) (h2s) (by omega) _ _ _ hP hD hS (lv_sub hl [3, 4, 5, 2, 1, 0] rfl)
                  · have c_86 : atN (aK k) i i = 2 := (nI_eq (a := atN (aK k) i i) (b := 2) (by omega) (by omega)).mp c_86
                    refine lv_iconst (v := nI 1) hx hb d_M_mayTake_89 (by decide +kernel) ?_
                    refine lv_goto (tgt := 94) hx hb d_M_mayTake_90 (by decide) ?_
                    refine lv_istore (lv' := [(4, .int (nI 1)), (3, .int (nI 1)), (0, .ref (h 0)), (1, .int (nI i)), (2, .int (nI f)), (5, .int (nI k))]) hx hb d_M_mayTake_94 hl (by decide) rfl (fun ls hl => ?_)
                    refine lv_iinc (v := nI (k + 1)) (lv' := [(5, .int (nI (k + 1))), (4, .int (nI 1)), (3, .int (nI 1)), (0, .ref (h 0)), (1, .int (nI i)), (2, .int (nI f))]) hx hb d_M_mayTake_96 hl (k := 5) rfl (nI_add k 1) (by decide) rfl (fun ls hl => ?_)
                    refine lv_goto (tgt := 21) hx hb d_M_mayTake_99 (by decide) ?_
                    have hop : op k = true := by cases hz : op k; rw [hz] at c_37; exact absurd rfl c_37; rfl
                    have h1s : (1 = 1 ∧ oP1 (at2 aK) tk op i (k + 1)) ∨ (1 = 0 ∧ ¬ oP1 (at2 aK) tk op i (k + 1)) := by
                      rw [oP1_s]
                      rcases h1 with ⟨z1, z2⟩ | ⟨z1, z2⟩
                      · exact Or.inl ⟨rfl, z2, fun _ => by show 0 < atN (aK k) i i; omega⟩
                      · exact absurd z1 c_44
                    have h2s : (1 = 1 ∧ oP2 (at2 aK) op i (k + 1)) ∨ (1 = 0 ∧ ¬ oP2 (at2 aK) op i (k + 1)) := by
                      rw [oP2_s]
                      refine Or.inl ⟨rfl, ?_⟩
                      rcases h2 with ⟨z1, z2⟩ | ⟨z1, z2⟩
                      · exact Or.inl z2
                      · first | exact absurd z1 c_70 | exact Or.inr ⟨hop, c_86⟩
                    exact ih_lp (k + 1) 1 1 (by omega) (h1s) (h2s) (by omega) _ _ _ hP hD hS (lv_sub hl [3, 4, 5, 2, 1, 0] rfl)
          · have c_37 : (op k).toNat = 0 := (nI_eq (a := (op k).toNat) (b := 0) (by omega) (by omega)).mp c_37
            refine lv_goto (tgt := 96) hx hb d_M_mayTake_40 (by decide) ?_
            refine lv_iinc (v := nI (k + 1)) (lv' := [(5, .int (nI (k + 1))), (0, .ref (h 0)), (1, .int (nI i)), (2, .int (nI f)), (3, .int (nI b1)), (4, .int (nI b2))]) hx hb d_M_mayTake_96 hl (k := 5) rfl (nI_add k 1) (by decide) rfl (fun ls hl => ?_)
            refine lv_goto (tgt := 21) hx hb d_M_mayTake_99 (by decide) ?_
            have hop : op k = false := by cases hz : op k; rfl; rw [hz] at c_37; exact absurd c_37 (by decide)
            have h1s : (b1 = 1 ∧ oP1 (at2 aK) tk op i (k + 1)) ∨ (b1 = 0 ∧ ¬ oP1 (at2 aK) tk op i (k + 1)) := by rw [oP1_s, hop]; rcases h1 with ⟨z1, z2⟩ | ⟨z1, z2⟩; exact Or.inl ⟨z1, z2, fun z => absurd z (by decide)⟩; exact Or.inr ⟨z1, fun z => z2 z.1⟩
            have h2s : (b2 = 1 ∧ oP2 (at2 aK) op i (k + 1)) ∨ (b2 = 0 ∧ ¬ oP2 (at2 aK) op i (k + 1)) := by rw [oP2_s, hop]; rcases h2 with ⟨z1, z2⟩ | ⟨z1, z2⟩; exact Or.inl ⟨z1, Or.inl z2⟩; exact Or.inr ⟨z1, fun z => by rcases z with z | z; exact z2 z; exact absurd z.1 (by decide)⟩
            exact ih_lp (k + 1) b1 b2 (by omega) (h1s) (h2s) (by omega) _ _ _ hP hD hS (lv_sub hl [1, 2, 3, 4, 5, 0] rfl)
    exact lp _ 0 0 0 (Nat.zero_le _) (h10) (Or.inr ⟨rfl, fun ⟨j, hj, _⟩ => absurd hj (Nat.not_lt_zero _)⟩) (Nat.lt_succ_self _) _ _ _ hP hD hS (lv_sub hl [3, 4, 5, 2, 1, 0] rfl)
  · have c_6 : tk.toNat = 0 := (nI_eq (a := tk.toNat) (b := 0) (by omega) (by omega)).mp c_6
    refine lv_iconst (v := nI 1) hx hb d_M_mayTake_9 (by decide +kernel) ?_
    refine lv_goto (tgt := 14) hx hb d_M_mayTake_10 (by decide) ?_
    refine lv_istore_n (lv' := [(3, .int (nI 1)), (0, .ref (h 0)), (1, .int (nI i)), (2, .int (nI f))]) hx hb d_M_mayTake_14 rfl hl (by decide) rfl (fun ls hl => ?_)
    refine lv_iconst (v := nI 0) hx hb d_M_mayTake_15 (by decide +kernel) ?_
    refine lv_istore (lv' := [(4, .int (nI 0)), (3, .int (nI 1)), (0, .ref (h 0)), (1, .int (nI i)), (2, .int (nI f))]) hx hb d_M_mayTake_16 hl (by decide) rfl (fun ls hl => ?_)
    refine lv_iconst (v := nI 0) hx hb d_M_mayTake_18 (by decide +kernel) ?_
    refine lv_istore (lv' := [(5, .int (nI 0)), (4, .int (nI 0)), (3, .int (nI 1)), (0, .ref (h 0)), (1, .int (nI i)), (2, .int (nI f))]) hx hb d_M_mayTake_19 hl (by decide) rfl (fun ls hl => ?_)
    have h10 : (1 = 1 ∧ oP1 (at2 aK) tk op i 0) ∨ (1 = 0 ∧ ¬ oP1 (at2 aK) tk op i 0) := by
      cases tk
      · first | exact Or.inl ⟨rfl, rfl, fun j hj => absurd hj (Nat.not_lt_zero _)⟩ | exact absurd rfl c_6
      · first | exact Or.inr ⟨rfl, fun z => absurd z.1 (by decide)⟩ | exact absurd c_6 (by decide)
    have lp : ∀ (n_lp : Nat) (k : Nat) (b1 : Nat) (b2 : Nat), (k ≤ nC) → ((b1 = 1 ∧ oP1 (at2 aK) tk op i k) ∨ (b1 = 0 ∧ ¬ oP1 (at2 aK) tk op i k)) → ((b2 = 1 ∧ oP2 (at2 aK) op i k) ∨ (b2 = 0 ∧ ¬ oP2 (at2 aK) op i k)) → nC - k < n_lp → ∀ (H : Heap) (locs : List Loc) (ls : Array Slot), va_P (dC, dI) kls (wM h cI cZ xt (nI nF) (nI nC) xg (fun c => nI (pl c)) (fun c => nI (cf c)) (fun c => nI (ct c)) aK bF bL bB bA bY bR oT oO oR bS) H → va_D A (wM h cI cZ xt (nI nF) (nI nC) xg (fun c => nI (pl c)) (fun c => nI (cf c)) (fun c => nI (ct c)) aK bF bL bB bA bY bR oT oO oR bS) → va_S A s.heap H locs → lv_has ls 6 [(0, .ref (h 0)), (1, .int (nI i)), (2, .int (nI f)), (3, .int (nI b1)), (4, .int (nI b2)), (5, .int (nI k))] → W p l e (headSpec w_M_mayTake ({ frames := 1, cells := 0, slots := 0, locals := 22 })).room s m ([.ref (h 0), .int (nI i), .int (nI f)]).toArray below meth c H locs 0 0 (MQ below (va_Qi (fun (r : Int32) (u : Unit) => (r = nI 1 ∧ tk = false ∧ oCan nC (at2 aK) op i) ∨ (r = nI 0 ∧ ¬ (tk = false ∧ oCan nC (at2 aK) op i))) (fun (u : Unit) (t : State) => va_P (dC, dI) kls (wM h cI cZ xt (nI nF) (nI nC) xg (fun c => nI (pl c)) (fun c => nI (cf c)) (fun c => nI (ct c)) aK bF bL bB bA bY bR oT oO oR bS) t.heap ∧ va_K (dC, dI) kls (tyM cI cZ) t ∧ va_D (A) (wM h cI cZ xt (nI nF) (nI nC) xg (fun c => nI (pl c)) (fun c => nI (cf c)) (fun c => nI (ct c)) aK bF bL bB bA bY bR oT oO oR bS)) A) ([.ref (h 0), .int (nI i), .int (nI f)]).toArray s 0 0 A) (F0 m 21 ls []) := by
      intro n_lp
      induction n_lp with
      | zero => intro k b1 b2 hk0 h1 h2 hn; exact absurd hn (Nat.not_lt_zero _)
      | succ n_lp ih_lp =>
        intro k b1 b2 hk0 h1 h2 hn H locs ls hP hD hS hl
        have hb1 : b1 < 2 := by rcases h1 with ⟨z, -⟩ | ⟨z, -⟩ <;> omega
        have hb2 : b2 < 2 := by rcases h2 with ⟨z, -⟩ | ⟨z, -⟩ <;> omega
        refine lv_iload hx hb d_M_mayTake_21 (lv_at hl 5 rfl) ?_
        refine lv_aload_n hx hb d_M_mayTake_23 rfl (lv_at hl 0 rfl) ?_
        refine va_get (D := (dC, dI)) (ci := 0) (v := .int (nI nC)) (C := R_M) (T := F_M) (N := 18) hx hb hk k_M_f hown hK hP 0 rfl rfl 2 (by decide) (hk _ k_M_10) (fun _ h9 => h9) rfl d_M_mayTake_24 ?_
        refine lv_icmp_ge (tgt := 102) hx hb d_M_mayTake_27 (by decide) (fun c_27 => ?_) (fun c_27 => ?_)
        · have c_27 : nC ≤ k := (nI_leI (a := nC) (b := k) (by omega) (by omega)).mp c_27
          refine lv_iload_n hx hb d_M_mayTake_102 rfl (lv_at hl 3 rfl) ?_
          refine lv_if_eq (tgt := 115) hx hb d_M_mayTake_103 (by decide) (fun c_103 => ?_) (fun c_103 => ?_)
          · have c_103 : b1 = 0 := (nI_eq (a := b1) (b := 0) (by omega) (by omega)).mp c_103
            refine lv_iconst (v := nI 0) hx hb d_M_mayTake_115 (by decide +kernel) ?_
            have hkn : k = nC := by omega
            subst hkn
            have hq9 : ¬ (tk = false ∧ oCan k (at2 aK) op i) := by
              rintro ⟨z1, z2, z3⟩
              rcases h1 with ⟨z4, -⟩ | ⟨-, z4⟩
              · rcases h2 with ⟨z5, -⟩ | ⟨-, z5⟩
                · omega
                · exact z5 z3
              · exact z4 ⟨z1, z2⟩
            exact W.zret (v := nI 0) (ty := .boolean) hx hb hr rfl (fun t ht hW => ⟨⟨nI 0, (), rfl, Or.inr ⟨rfl, hq9⟩, by rw [ht]; exact hP, va_K.moved hW.alike hK, hD⟩, hS.F ht⟩) hS.2.2 d_M_mayTake_116
          · have c_103 : ¬ b1 = 0 := fun z9 => c_103 ((nI_eq (a := b1) (b := 0) (by omega) (by omega)).mpr z9)
            refine lv_iload hx hb d_M_mayTake_106 (lv_at hl 4 rfl) ?_
            refine lv_if_eq (tgt := 115) hx hb d_M_mayTake_108 (by decide) (fun c_108 => ?_) (fun c_108 => ?_)
            · have c_108 : b2 = 0 := (nI_eq (a := b2) (b := 0) (by omega) (by omega)).mp c_108
              refine lv_iconst (v := nI 0) hx hb d_M_mayTake_115 (by decide +kernel) ?_
              have hkn : k = nC := by omega
              subst hkn
              have hq9 : ¬ (tk = false ∧ oCan k (at2 aK) op i) := by
                rintro ⟨z1, z2, z3⟩
                rcases h1 with ⟨z4, -⟩ | ⟨-, z4⟩
                · rcases h2 with ⟨z5, -⟩ | ⟨-, z5⟩
                  · omega
                  · exact z5 z3
                · exact z4 ⟨z1, z2⟩
              exact W.zret (v := nI 0) (ty := .boolean) hx hb hr rfl (fun t ht hW => ⟨⟨nI 0, (), rfl, Or.inr ⟨rfl, hq9⟩, by rw [ht]; exact hP, va_K.moved hW.alike hK, hD⟩, hS.F ht⟩) hS.2.2 d_M_mayTake_116
            · have c_108 : ¬ b2 = 0 := fun z9 => c_108 ((nI_eq (a := b2) (b := 0) (by omega) (by omega)).mpr z9)
              refine lv_iconst (v := nI 1) hx hb d_M_mayTake_111 (by decide +kernel) ?_
              refine lv_goto (tgt := 116) hx hb d_M_mayTake_112 (by decide) ?_
              have hkn : k = nC := by omega
              subst hkn
              have hq9 : tk = false ∧ oCan k (at2 aK) op i := by
                rcases h1 with ⟨-, z1⟩ | ⟨z1, -⟩
                · rcases h2 with ⟨-, z2⟩ | ⟨z2, -⟩
                  · exact ⟨z1.1, z1.2, z2⟩
                  · exact absurd z2 c_108
                · exact absurd z1 c_103
              exact W.zret (v := nI 1) (ty := .boolean) hx hb hr rfl (fun t ht hW => ⟨⟨nI 1, (), rfl, Or.inl ⟨rfl, hq9⟩, by rw [ht]; exact hP, va_K.moved hW.alike hK, hD⟩, hS.F ht⟩) hS.2.2 d_M_mayTake_116
        · have c_27 : ¬ nC ≤ k := fun z9 => c_27 ((nI_leI (a := nC) (b := k) (by omega) (by omega)).mpr z9)
          refine lv_aload_n hx hb d_M_mayTake_30 rfl (lv_at hl 0 rfl) ?_
          refine va_get (D := (dC, dI)) (ci := 0) (v := .ref (h 12)) (C := R_M) (T := F_M) (N := 18) hx hb hk k_M_f hown hK hP 0 rfl rfl 15 (by decide) (hk _ k_M_23) (fun _ h9 => h9) rfl d_M_mayTake_31 ?_
          refine lv_iload hx hb d_M_mayTake_34 (lv_at hl 5 rfl) ?_
          refine va_zald hx hb hK hP 12 1 rfl rfl (pk_in k 20 (by omega)) d_M_mayTake_36 ?_
          refine lv_topi (fun z11 ez11 => ?_)
          obtain rfl : z11 = nI ((op k).toNat) := ez11.trans ((rd (f := oO) (k := k) (by omega)).trans (hO k (by omega)))
          have hob := bN_lt (op k)
          refine lv_if_ne (tgt := 43) hx hb d_M_mayTake_37 (by decide) (fun c_37 => ?_) (fun c_37 => ?_)
          · have c_37 : ¬ (op k).toNat = 0 := fun z9 => c_37 ((nI_eq (a := (op k).toNat) (b := 0) (by omega) (by omega)).mpr z9)
            refine lv_iload_n hx hb d_M_mayTake_43 rfl (lv_at hl 3 rfl) ?_
            refine lv_if_eq (tgt := 66) hx hb d_M_mayTake_44 (by decide) (fun c_44 => ?_) (fun c_44 => ?_)
            · have c_44 : b1 = 0 := (nI_eq (a := b1) (b := 0) (by omega) (by omega)).mp c_44
              refine lv_iconst (v := nI 0) hx hb d_M_mayTake_66 (by decide +kernel) ?_
              refine lv_istore_n (lv' := [(3, .int (nI 0)), (0, .ref (h 0)), (1, .int (nI i)), (2, .int (nI f)), (4, .int (nI b2)), (5, .int (nI k))]) hx hb d_M_mayTake_67 rfl hl (by decide) rfl (fun ls hl => ?_)
              refine lv_iload hx hb d_M_mayTake_68 (lv_at hl 4 rfl) ?_
              refine lv_if_ne (tgt := 89) hx hb d_M_mayTake_70 (by decide) (fun c_70 => ?_) (fun c_70 => ?_)
              · have c_70 : ¬ b2 = 0 := fun z9 => c_70 ((nI_eq (a := b2) (b := 0) (by omega) (by omega)).mpr z9)
                refine lv_iconst (v := nI 1) hx hb d_M_mayTake_89 (by decide +kernel) ?_
                refine lv_goto (tgt := 94) hx hb d_M_mayTake_90 (by decide) ?_
                refine lv_istore (lv' := [(4, .int (nI 1)), (3, .int (nI 0)), (0, .ref (h 0)), (1, .int (nI i)), (2, .int (nI f)), (5, .int (nI k))]) hx hb d_M_mayTake_94 hl (by decide) rfl (fun ls hl => ?_)
                refine lv_iinc (v := nI (k + 1)) (lv' := [(5, .int (nI (k + 1))), (4, .int (nI 1)), (3, .int (nI 0)), (0, .ref (h 0)), (1, .int (nI i)), (2, .int (nI f))]) hx hb d_M_mayTake_96 hl (k := 5) rfl (nI_add k 1) (by decide) rfl (fun ls hl => ?_)
                refine lv_goto (tgt := 21) hx hb d_M_mayTake_99 (by decide) ?_
                have hop : op k = true := by cases hz : op k; rw [hz] at c_37; exact absurd rfl c_37; rfl
                have h1s : (0 = 1 ∧ oP1 (at2 aK) tk op i (k + 1)) ∨ (0 = 0 ∧ ¬ oP1 (at2 aK) tk op i (k + 1)) := by
                  rw [oP1_s]
                  refine Or.inr ⟨rfl, fun z => ?_⟩
                  rcases h1 with ⟨z1, z2⟩ | ⟨z1, z2⟩
                  · first | omega | (have z9 : 0 < atN (aK k) i i := z.2 hop; omega)
                  · exact z2 z.1
                have h2s : (1 = 1 ∧ oP2 (at2 aK) op i (k + 1)) ∨ (1 = 0 ∧ ¬ oP2 (at2 aK) op i (k + 1)) := by
                  rw [oP2_s]
                  refine Or.inl ⟨rfl, ?_⟩
                  rcases h2 with ⟨z1, z2⟩ | ⟨z1, z2⟩
                  · exact Or.inl z2
                  · first | exact absurd z1 c_70 | exact Or.inr ⟨hop, c_86⟩
                exact ih_lp (k + 1) 0 1 (by omega) (h1s) (h2s) (by omega) _ _ _ hP hD hS (lv_sub hl [3, 4, 5, 2, 1, 0] rfl)
              · have c_70 : b2 = 0 := (nI_eq (a := b2) (b := 0) (by omega) (by omega)).mp c_70
                refine lv_aload_n hx hb d_M_mayTake_73 rfl (lv_at hl 1 rfl) ?_
                refine va_get (D := (dC, dI)) (ci := 0) (v := .ref (h 4)) (C := R_M) (T := F_M) (N := 18) hx hb hk k_M_f hown hK hP 0 rfl rfl 6 (by decide) (hk _ k_M_14) (fun _ h9 => h9) rfl d_M_mayTake_74 ?_
                refine lv_iload hx hb d_M_mayTake_77 (lv_at hl 5 rfl) ?_
                refine va_iald hx hb hK hP 4 0 rfl rfl (pk_in k 20 (by omega)) d_M_mayTake_79 ?_
                refine lv_topi (fun z12 ez12 => ?_)
                obtain rfl : z12 = aK k := ez12.trans (rd (f := aK) (k := k) (by omega))
                refine lv_iload_n hx hb d_M_mayTake_80 rfl (lv_at hl 2 rfl) ?_
                refine lv_iload_n hx hb d_M_mayTake_81 rfl (lv_at hl 2 rfl) ?_
                refine vp_callSi (W.runS (As := [.int (aK k), .int (nI i), .int (nI i)]) (rest := []) ⟨hx, hb, hml, hown, hk⟩ (m_at l (aK k) i i (by omega) (by omega)) (cwS 3 hk g_M_at rfl rfl rfl (by decide +kernel) ⟨Nat.le_of_ble_eq_true rfl, Nat.le_of_ble_eq_true rfl⟩) ⟨fun a U g mk q => q, fun U hU hW => ⟨rfl, trivial⟩⟩ rfl rfl hl.1 rfl (lv_room (Nat.le_of_ble_eq_true rfl)) d_M_mayTake_82 ⟨Nat.le_of_ble_eq_true rfl, Nat.le_of_ble_eq_true rfl⟩) (fun r13 hw => ?_)
                subst hw
                refine lv_iconst (v := nI 2) hx hb d_M_mayTake_85 (by decide +kernel) ?_
                have hat2 := atN_lt (aK k) i i
                refine lv_icmp_ne (tgt := 93) hx hb d_M_mayTake_86 (by decide) (fun c_86 => ?_) (fun c_86 => ?_)
                · have c_86 : ¬ atN (aK k) i i = 2 := fun z9 => c_86 ((nI_eq (a := atN (aK k) i i) (b := 2) (by omega) (by omega)).mpr z9)
                  refine lv_iconst (v := nI 0) hx hb d_M_mayTake_93 (by decide +kernel) ?_
                  refine lv_istore (lv' := [(4, .int (nI 0)), (3, .int (nI 0)), (0, .ref (h 0)), (1, .int (nI i)), (2, .int (nI f)), (5, .int (nI k))]) hx hb d_M_mayTake_94 hl (by decide) rfl (fun ls hl => ?_)
                  refine lv_iinc (v := nI (k + 1)) (lv' := [(5, .int (nI (k + 1))), (4, .int (nI 0)), (3, .int (nI 0)), (0, .ref (h 0)), (1, .int (nI i)), (2, .int (nI f))]) hx hb d_M_mayTake_96 hl (k := 5) rfl (nI_add k 1) (by decide) rfl (fun ls hl => ?_)
                  refine lv_goto (tgt := 21) hx hb d_M_mayTake_99 (by decide) ?_
                  have hop : op k = true := by cases hz : op k; rw [hz] at c_37; exact absurd rfl c_37; rfl
                  have h1s : (0 = 1 ∧ oP1 (at2 aK) tk op i (k + 1)) ∨ (0 = 0 ∧ ¬ oP1 (at2 aK) tk op i (k + 1)) := by
                    rw [oP1_s]
                    refine Or.inr ⟨rfl, fun z => ?_⟩
                    rcases h1 with ⟨z1, z2⟩ | ⟨z1, z2⟩
                    · first | omega | (have z9 : 0 < atN (aK k) i i := z.2 hop; omega)
                    · exact z2 z.1
                  have h2s : (0 = 1 ∧ oP2 (at2 aK) op i (k + 1)) ∨ (0 = 0 ∧ ¬ oP2 (at2 aK) op i (k + 1)) := by
                    rw [oP2_s]
                    refine Or.inr ⟨rfl, fun z => ?_⟩
                    rcases h2 with ⟨z1, z2⟩ | ⟨z1, z2⟩
                    · omega
                    · rcases z with z | z
                      · exact z2 z
                      · exact c_86 z.2
                  exact ih_lp (k + 1) 0 0 (by omega) (h1s) (h2s) (by omega) _ _ _ hP hD hS (lv_sub hl [3, 4, 5, 2, 1, 0] rfl)
                · have c_86 : atN (aK k) i i = 2 := (nI_eq (a := atN (aK k) i i) (b := 2) (by omega) (by omega)).mp c_86
                  refine lv_iconst (v := nI 1) hx hb d_M_mayTake_89 (by decide +kernel) ?_
                  refine lv_goto (tgt := 94) hx hb d_M_mayTake_90 (by decide) ?_
                  refine lv_istore (lv' := [(4, .int (nI 1)), (3, .int (nI 0)), (0, .ref (h 0)), (1, .int (nI i)), (2, .int (nI f)), (5, .int (nI k))]) hx hb d_M_mayTake_94 hl (by decide) rfl (fun ls hl => ?_)
                  refine lv_iinc (v := nI (k + 1)) (lv' := [(5, .int (nI (k + 1))), (4, .int (nI 1)), (3, .int (nI 0)), (0, .ref (h 0)), (1, .int (nI i)), (2, .int (nI f))]) hx hb d_M_mayTake_96 hl (k := 5) rfl (nI_add k 1) (by decide) rfl (fun ls hl => ?_)
                  refine lv_goto (tgt := 21) hx hb d_M_mayTake_99 (by decide) ?_
                  have hop : op k = true := by cases hz : op k; rw [hz] at c_37; exact absurd rfl c_37; rfl
                  have h1s : (0 = 1 ∧ oP1 (at2 aK) tk op i (k + 1)) ∨ (0 = 0 ∧ ¬ oP1 (at2 aK) tk op i (k + 1)) := by
                    rw [oP1_s]
                    refine Or.inr ⟨rfl, fun z => ?_⟩
                    rcases h1 with ⟨z1, z2⟩ | ⟨z1, z2⟩
                    · first | omega | (have z9 : 0 < atN (aK k) i i := z.2 hop; omega)
                    · exact z2 z.1
                  have h2s : (1 = 1 ∧ oP2 (at2 aK) op i (k + 1)) ∨ (1 = 0 ∧ ¬ oP2 (at2 aK) op i (k + 1)) := by
                    rw [oP2_s]
                    refine Or.inl ⟨rfl, ?_⟩
                    rcases h2 with ⟨z1, z2⟩ | ⟨z1, z2⟩
                    · exact Or.inl z2
                    · first | exact absurd z1 c_70 | exact Or.inr ⟨hop, c_86⟩
                  exact ih_lp (k + 1) 0 1 (by omega) (h1s) (h2s) (by omega) _ _ _ hP hD hS (lv_sub hl [3, 4, 5, 2, 1, 0] rfl)
            · have c_44 : ¬ b1 = 0 := fun z9 => c_44 ((nI_eq (a := b1) (b := 0) (by omega) (by omega)).mpr z9)
              refine lv_aload_n hx hb d_M_mayTake_47 rfl (lv_at hl 0 rfl) ?_
              refine va_get (D := (dC, dI)) (ci := 0) (v := .ref (h 4)) (C := R_M) (T := F_M) (N := 18) hx hb hk k_M_f hown hK hP 0 rfl rfl 6 (by decide) (hk _ k_M_14) (fun _ h9 => h9) rfl d_M_mayTake_48 ?_
              refine lv_iload hx hb d_M_mayTake_51 (lv_at hl 5 rfl) ?_
              refine va_iald hx hb hK hP 4 0 rfl rfl (pk_in k 20 (by omega)) d_M_mayTake_53 ?_
              refine lv_topi (fun z14 ez14 => ?_)
              obtain rfl : z14 = aK k := ez14.trans (rd (f := aK) (k := k) (by omega))
              refine lv_iload_n hx hb d_M_mayTake_54 rfl (lv_at hl 1 rfl) ?_
              refine lv_iload_n hx hb d_M_mayTake_55 rfl (lv_at hl 1 rfl) ?_
              refine vp_callSi (W.runS (As := [.int (aK k), .int (nI i), .int (nI i)]) (rest := []) ⟨hx, hb, hml, hown, hk⟩ (m_at l (aK k) i i (by omega) (by omega)) (cwS 3 hk g_M_at rfl rfl rfl (by decide +kernel) ⟨Nat.le_of_ble_eq_true rfl, Nat.le_of_ble_eq_true rfl⟩) ⟨fun a U g mk q => q, fun U hU hW => ⟨rfl, trivial⟩⟩ rfl rfl hl.1 rfl (lv_room (Nat.le_of_ble_eq_true rfl)) d_M_mayTake_56 ⟨Nat.le_of_ble_eq_true rfl, Nat.le_of_ble_eq_true rfl⟩) (fun r15 hw => ?_)
              subst hw
              have hat := atN_lt (aK k) i i
              refine lv_if_le (tgt := 66) hx hb d_M_mayTake_59 (by decide) (fun c_59 => ?_) (fun c_59 => ?_)
              · have c_59 : atN (aK k) i i ≤ 0 := (nI_leI (a := atN (aK k) i i) (b := 0) (by omega) (by omega)).mp c_59
                refine lv_iconst (v := nI 0) hx hb d_M_mayTake_66 (by decide +kernel) ?_
                refine lv_istore_n (lv' := [(3, .int (nI 0)), (0, .ref (h 0)), (1, .int (nI i)), (2, .int (nI f)), (4, .int (nI b2)), (5, .int (nI k))]) hx hb d_M_mayTake_67 rfl hl (by decide) rfl (fun ls hl => ?_)
                refine lv_iload hx hb d_M_mayTake_68 (lv_at hl 4 rfl) ?_
                refine lv_if_ne (tgt := 89) hx hb d_M_mayTake_70 (by decide) (fun c_70 => ?_) (fun c_70 => ?_)
                · have c_70 : ¬ b2 = 0 := fun z9 => c_70 ((nI_eq (a := b2) (b := 0) (by omega) (by omega)).mpr z9)
                  refine lv_iconst (v := nI 1) hx hb d_M_mayTake_89 (by decide +kernel) ?_
                  refine lv_goto (tgt := 94) hx hb d_M_mayTake_90 (by decide) ?_
                  refine lv_istore (lv' := [(4, .int (nI 1)), (3, .int (nI 0)), (0, .ref (h 0)), (1, .int (nI i)), (2, .int (nI f)), (5, .int (nI k))]) hx hb d_M_mayTake_94 hl (by decide) rfl (fun ls hl => ?_)
                  refine lv_iinc (v := nI (k + 1)) (lv' := [(5, .int (nI (k + 1))), (4, .int (nI 1)), (3, .int (nI 0)), (0, .ref (h 0)), (1, .int (nI i)), (2, .int (nI f))]) hx hb d_M_mayTake_96 hl (k := 5) rfl (nI_add k 1) (by decide) rfl (fun ls hl => ?_)
                  refine lv_goto (tgt := 21) hx hb d_M_mayTake_99 (by decide) ?_
                  have hop : op k = true := by cases hz : op k; rw [hz] at c_37; exact absurd rfl c_37; rfl
                  have h1s : (0 = 1 ∧ oP1 (at2 aK) tk op i (k + 1)) ∨ (0 = 0 ∧ ¬ oP1 (at2 aK) tk op i (k + 1)) := by
                    rw [oP1_s]
                    refine Or.inr ⟨rfl, fun z => ?_⟩
                    rcases h1 with ⟨z1, z2⟩ | ⟨z1, z2⟩
                    · first | omega | (have z9 : 0 < atN (aK k) i i := z.2 hop; omega)
                    · exact z2 z.1
                  have h2s : (1 = 1 ∧ oP2 (at2 aK) op i (k + 1)) ∨ (1 = 0 ∧ ¬ oP2 (at2 aK) op i (k + 1)) := by
                    rw [oP2_s]
                    refine Or.inl ⟨rfl, ?_⟩
                    rcases h2 with ⟨z1, z2⟩ | ⟨z1, z2⟩
                    · exact Or.inl z2
                    · first | exact absurd z1 c_70 | exact Or.inr ⟨hop, c_86⟩
                  exact ih_lp (k + 1) 0 1 (by omega) (h1s) (h2s) (by omega) _ _ _ hP hD hS (lv_sub hl [3, 4, 5, 2, 1, 0] rfl)
                · have c_70 : b2 = 0 := (nI_eq (a := b2) (b := 0) (by omega) (by omega)).mp c_70
                  refine lv_aload_n hx hb d_M_mayTake_73 rfl (lv_at hl 1 rfl) ?_
                  refine va_get (D := (dC, dI)) (ci := 0) (v := .ref (h 4)) (C := R_M) (T := F_M) (N := 18) hx hb hk k_M_f hown hK hP 0 rfl rfl 6 (by decide) (hk _ k_M_14) (fun _ h9 => h9) rfl d_M_mayTake_74 ?_
                  refine lv_iload hx hb d_M_mayTake_77 (lv_at hl 5 rfl) ?_
                  refine va_iald hx hb hK hP 4 0 rfl rfl (pk_in k 20 (by omega)) d_M_mayTake_79 ?_
                  refine lv_topi (fun z16 ez16 => ?_)
                  obtain rfl : z16 = aK k := ez16.trans (rd (f := aK) (k := k) (by omega))
                  refine lv_iload_n hx hb d_M_mayTake_80 rfl (lv_at hl 2 rfl) ?_
                  refine lv_iload_n hx hb d_M_mayTake_81 rfl (lv_at hl 2 rfl) ?_
                  refine vp_callSi (W.runS (As := [.int (aK k), .int (nI i), .int (nI i)]) (rest := []) ⟨hx, hb, hml, hown, hk⟩ (m_at l (aK k) i i (by omega) (by omega)) (cwS 3 hk g_M_at rfl rfl rfl (by decide +kernel) ⟨Nat.le_of_ble_eq_true rfl, Nat.le_of_ble_eq_true rfl⟩) ⟨fun a U g mk q => q, fun U hU hW => ⟨rfl, trivial⟩⟩ rfl rfl hl.1 rfl (lv_room (Nat.le_of_ble_eq_true rfl)) d_M_mayTake_82 ⟨Nat.le_of_ble_eq_true rfl, Nat.le_of_ble_eq_true rfl⟩) (fun r17 hw => ?_)
                  subst hw
                  refine lv_iconst (v := nI 2) hx hb d_M_mayTake_85 (by decide +kernel) ?_
                  have hat2 := atN_lt (aK k) i i
                  refine lv_icmp_ne (tgt := 93) hx hb d_M_mayTake_86 (by decide) (fun c_86 => ?_) (fun c_86 => ?_)
                  · have c_86 : ¬ atN (aK k) i i = 2 := fun z9 => c_86 ((nI_eq (a := atN (aK k) i i) (b := 2) (by omega) (by omega)).mpr z9)
                    refine lv_iconst (v := nI 0) hx hb d_M_mayTake_93 (by decide +kernel) ?_
                    refine lv_istore (lv' := [(4, .int (nI 0)), (3, .int (nI 0)), (0, .ref (h 0)), (1, .int (nI i)), (2, .int (nI f)), (5, .int (nI k))]) hx hb d_M_mayTake_94 hl (by decide) rfl (fun ls hl => ?_)
                    refine lv_iinc (v := nI (k + 1)) (lv' := [(5, .int (nI (k + 1))), (4, .int (nI 0)), (3, .int (nI 0)), (0, .ref (h 0)), (1, .int (nI i)), (2, .int (nI f))]) hx hb d_M_mayTake_96 hl (k := 5) rfl (nI_add k 1) (by decide) rfl (fun ls hl => ?_)
                    refine lv_goto (tgt := 21) hx hb d_M_mayTake_99 (by decide) ?_
                    have hop : op k = true := by cases hz : op k; rw [hz] at c_37; exact absurd rfl c_37; rfl
                    have h1s : (0 = 1 ∧ oP1 (at2 aK) tk op i (k + 1)) ∨ (0 = 0 ∧ ¬ oP1 (at2 aK) tk op i (k + 1)) := by
                      rw [oP1_s]
                      refine Or.inr ⟨rfl, fun z => ?_⟩
                      rcases h1 with ⟨z1, z2⟩ | ⟨z1, z2⟩
                      · first | omega | (have z9 : 0 < atN (aK k) i i := z.2 hop; omega)
                      · exact z2 z.1
                    have h2s : (0 = 1 ∧ oP2 (at2 aK) op i (k + 1)) ∨ (0 = 0 ∧ ¬ oP2 (at2 aK) op i (k + 1)) := by
                      rw [oP2_s]
                      refine Or.inr ⟨rfl, fun z => ?_⟩
                      rcases h2 with ⟨z1, z2⟩ | ⟨z1, z2⟩
                      · omega
                      · rcases z with z | z
                        · exact z2 z
                        · exact c_86 z.2
                    exact ih_lp (k + 1) 0 0 (by omega) (h1s) (h2s) (by omega) _ _ _ hP hD hS (lv_sub hl [3, 4, 5, 2, 1, 0] rfl)
                  · have c_86 : atN (aK k) i i = 2 := (nI_eq (a := atN (aK k) i i) (b := 2) (by omega) (by omega)).mp c_86
                    refine lv_iconst (v := nI 1) hx hb d_M_mayTake_89 (by decide +kernel) ?_
                    refine lv_goto (tgt := 94) hx hb d_M_mayTake_90 (by decide) ?_
                    refine lv_istore (lv' := [(4, .int (nI 1)), (3, .int (nI 0)), (0, .ref (h 0)), (1, .int (nI i)), (2, .int (nI f)), (5, .int (nI k))]) hx hb d_M_mayTake_94 hl (by decide) rfl (fun ls hl => ?_)
                    refine lv_iinc (v := nI (k + 1)) (lv' := [(5, .int (nI (k + 1))), (4, .int (nI 1)), (3, .int (nI 0)), (0, .ref (h 0)), (1, .int (nI i)), (2, .int (nI f))]) hx hb d_M_mayTake_96 hl (k := 5) rfl (nI_add k 1) (by decide) rfl (fun ls hl => ?_)
                    refine lv_goto (tgt := 21) hx hb d_M_mayTake_99 (by decide) ?_
                    have hop : op k = true := by cases hz : op k; rw [hz] at c_37; exact absurd rfl c_37; rfl
                    have h1s : (0 = 1 ∧ oP1 (at2 aK) tk op i (k + 1)) ∨ (0 = 0 ∧ ¬ oP1 (at2 aK) tk op i (k + 1)) := by
                      rw [oP1_s]
                      refine Or.inr ⟨rfl, fun z => ?_⟩
                      rcases h1 with ⟨z1, z2⟩ | ⟨z1, z2⟩
                      · first | omega | (have z9 : 0 < atN (aK k) i i := z.2 hop; omega)
                      · exact z2 z.1
                    have h2s : (1 = 1 ∧ oP2 (at2 aK) op i (k + 1)) ∨ (1 = 0 ∧ ¬ oP2 (at2 aK) op i (k + 1)) := by
                      rw [oP2_s]
                      refine Or.inl ⟨rfl, ?_⟩
                      rcases h2 with ⟨z1, z2⟩ | ⟨z1, z2⟩
                      · exact Or.inl z2
                      · first | exact absurd z1 c_70 | exact Or.inr ⟨hop, c_86⟩
                    exact ih_lp (k + 1) 0 1 (by omega) (h1s) (h2s) (by omega) _ _ _ hP hD hS (lv_sub hl [3, 4, 5, 2, 1, 0] rfl)
              · have c_59 : ¬ atN (aK k) i i ≤ 0 := fun z9 => c_59 ((nI_leI (a := atN (aK k) i i) (b := 0) (by omega) (by omega)).mpr z9)
                refine lv_iconst (v := nI 1) hx hb d_M_mayTake_62 (by decide +kernel) ?_
                refine lv_goto (tgt := 67) hx hb d_M_mayTake_63 (by decide) ?_
                refine lv_istore_n (lv' := [(3, .int (nI 1)), (0, .ref (h 0)), (1, .int (nI i)), (2, .int (nI f)), (4, .int (nI b2)), (5, .int (nI k))]) hx hb d_M_mayTake_67 rfl hl (by decide) rfl (fun ls hl => ?_)
                refine lv_iload hx hb d_M_mayTake_68 (lv_at hl 4 rfl) ?_
                refine lv_if_ne (tgt := 89) hx hb d_M_mayTake_70 (by decide) (fun c_70 => ?_) (fun c_70 => ?_)
                · have c_70 : ¬ b2 = 0 := fun z9 => c_70 ((nI_eq (a := b2) (b := 0) (by omega) (by omega)).mpr z9)
                  refine lv_iconst (v := nI 1) hx hb d_M_mayTake_89 (by decide +kernel) ?_
                  refine lv_goto (tgt := 94) hx hb d_M_mayTake_90 (by decide) ?_
                  refine lv_istore (lv' := [(4, .int (nI 1)), (3, .int (nI 1)), (0, .ref (h 0)), (1, .int (nI i)), (2, .int (nI f)), (5, .int (nI k))]) hx hb d_M_mayTake_94 hl (by decide) rfl (fun ls hl => ?_)
                  refine lv_iinc (v := nI (k + 1)) (lv' := [(5, .int (nI (k + 1))), (4, .int (nI 1)), (3, .int (nI 1)), (0, .ref (h 0)), (1, .int (nI i)), (2, .int (nI f))]) hx hb d_M_mayTake_96 hl (k := 5) rfl (nI_add k 1) (by decide) rfl (fun ls hl => ?_)
                  refine lv_goto (tgt := 21) hx hb d_M_mayTake_99 (by decide) ?_
                  have hop : op k = true := by cases hz : op k; rw [hz] at c_37; exact absurd rfl c_37; rfl
                  have h1s : (1 = 1 ∧ oP1 (at2 aK) tk op i (k + 1)) ∨ (1 = 0 ∧ ¬ oP1 (at2 aK) tk op i (k + 1)) := by
                    rw [oP1_s]
                    rcases h1 with ⟨z1, z2⟩ | ⟨z1, z2⟩
                    · exact Or.inl ⟨rfl, z2, fun _ => by show 0 < atN (aK k) i i; omega⟩
                    · exact absurd z1 c_44
                  have h2s : (1 = 1 ∧ oP2 (at2 aK) op i (k + 1)) ∨ (1 = 0 ∧ ¬ oP2 (at2 aK) op i (k + 1)) := by
                    rw [oP2_s]
                    refine Or.inl ⟨rfl, ?_⟩
                    rcases h2 with ⟨z1, z2⟩ | ⟨z1, z2⟩
                    · exact Or.inl z2
                    · first | exact absurd z1 c_70 | exact Or.inr ⟨hop, c_86⟩
                  exact ih_lp (k + 1) 1 1 (by omega) (h1s) (h2s) (by omega) _ _ _ hP hD hS (lv_sub hl [3, 4, 5, 2, 1, 0] rfl)
                · have c_70 : b2 = 0 := (nI_eq (a := b2) (b := 0) (by omega) (by omega)).mp c_70
                  refine lv_aload_n hx hb d_M_mayTake_73 rfl (lv_at hl 1 rfl) ?_
                  refine va_get (D := (dC, dI)) (ci := 0) (v := .ref (h 4)) (C := R_M) (T := F_M) (N := 18) hx hb hk k_M_f hown hK hP 0 rfl rfl 6 (by decide) (hk _ k_M_14) (fun _ h9 => h9) rfl d_M_mayTake_74 ?_
                  refine lv_iload hx hb d_M_mayTake_77 (lv_at hl 5 rfl) ?_
                  refine va_iald hx hb hK hP 4 0 rfl rfl (pk_in k 20 (by omega)) d_M_mayTake_79 ?_
                  refine lv_topi (fun z18 ez18 => ?_)
                  obtain rfl : z18 = aK k := ez18.trans (rd (f := aK) (k := k) (by omega))
                  refine lv_iload_n hx hb d_M_mayTake_80 rfl (lv_at hl 2 rfl) ?_
                  refine lv_iload_n hx hb d_M_mayTake_81 rfl (lv_at hl 2 rfl) ?_
                  refine vp_callSi (W.runS (As := [.int (aK k), .int (nI i), .int (nI i)]) (rest := []) ⟨hx, hb, hml, hown, hk⟩ (m_at l (aK k) i i (by omega) (by omega)) (cwS 3 hk g_M_at rfl rfl rfl (by decide +kernel) ⟨Nat.le_of_ble_eq_true rfl, Nat.le_of_ble_eq_true rfl⟩) ⟨fun a U g mk q => q, fun U hU hW => ⟨rfl, trivial⟩⟩ rfl rfl hl.1 rfl (lv_room (Nat.le_of_ble_eq_true rfl)) d_M_mayTake_82 ⟨Nat.le_of_ble_eq_true rfl, Nat.le_of_ble_eq_true rfl⟩) (fun r19 hw => ?_)
                  subst hw
                  refine lv_iconst (v := nI 2) hx hb d_M_mayTake_85 (by decide +kernel) ?_
                  have hat2 := atN_lt (aK k) i i
                  refine lv_icmp_ne (tgt := 93) hx hb d_M_mayTake_86 (by decide) (fun c_86 => ?_) (fun c_86 => ?_)
                  · have c_86 : ¬ atN (aK k) i i = 2 := fun z9 => c_86 ((nI_eq (a := atN (aK k) i i) (b := 2) (by omega) (by omega)).mpr z9)
                    refine lv_iconst (v := nI 0) hx hb d_M_mayTake_93 (by decide +kernel) ?_
                    refine lv_istore (lv' := [(4, .int (nI 0)), (3, .int (nI 1)), (0, .ref (h 0)), (1, .int (nI i)), (2, .int (nI f)), (5, .int (nI k))]) hx hb d_M_mayTake_94 hl (by decide) rfl (fun ls hl => ?_)
                    refine lv_iinc (v := nI (k + 1)) (lv' := [(5, .int (nI (k + 1))), (4, .int (nI 0)), (3, .int (nI 1)), (0, .ref (h 0)), (1, .int (nI i)), (2, .int (nI f))]) hx hb d_M_mayTake_96 hl (k := 5) rfl (nI_add k 1) (by decide) rfl (fun ls hl => ?_)
                    refine lv_goto (tgt := 21) hx hb d_M_mayTake_99 (by decide) ?_
                    have hop : op k = true := by cases hz : op k; rw [hz] at c_37; exact absurd rfl c_37; rfl
                    have h1s : (1 = 1 ∧ oP1 (at2 aK) tk op i (k + 1)) ∨ (1 = 0 ∧ ¬ oP1 (at2 aK) tk op i (k + 1)) := by
                      rw [oP1_s]
                      rcases h1 with ⟨z1, z2⟩ | ⟨z1, z2⟩
                      · exact Or.inl ⟨rfl, z2, fun _ => by show 0 < atN (aK k) i i; omega⟩
                      · exact absurd z1 c_44
                    have h2s : (0 = 1 ∧ oP2 (at2 aK) op i (k + 1)) ∨ (0 = 0 ∧ ¬ oP2 (at2 aK) op i (k + 1)) := by
                      rw [oP2_s]
                      refine Or.inr ⟨rfl, fun z => ?_⟩
                      rcases h2 with ⟨z1, z2⟩ | ⟨z1, z2⟩
                      · omega
                      · rcases z with z | z
                        · exact z2 z
                        · exact c_86 z.2
                    exact ih_lp (k + 1) 1 0 (by omega) (h1s) (h2s) (by omega) _ _ _ hP hD hS (lv_sub hl [3, 4, 5, 2, 1, 0] rfl)
                  · have c_86 : atN (aK k) i i = 2 := (nI_eq (a := atN (aK k) i i) (b := 2) (by omega) (by omega)).mp c_86
                    refine lv_iconst (v := nI 1) hx hb d_M_mayTake_89 (by decide +kernel) ?_
                    refine lv_goto (tgt := 94) hx hb d_M_mayTake_90 (by decide) ?_
                    refine lv_istore (lv' := [(4, .int (nI 1)), (3, .int (nI 1)), (0, .ref (h 0)), (1, .int (nI i)), (2, .int (nI f)), (5, .int (nI k))]) hx hb d_M_mayTake_94 hl (by decide) rfl (fun ls hl => ?_)
                    refine lv_iinc (v := nI (k + 1)) (lv' := [(5, .int (nI (k + 1))), (4, .int (nI 1)), (3, .int (nI 1)), (0, .ref (h 0)), (1, .int (nI i)), (2, .int (nI f))]) hx hb d_M_mayTake_96 hl (k := 5) rfl (nI_add k 1) (by decide) rfl (fun ls hl => ?_)
                    refine lv_goto (tgt := 21) hx hb d_M_mayTake_99 (by decide) ?_
                    have hop : op k = true := by cases hz : op k; rw [hz] at c_37; exact absurd rfl c_37; rfl
                    have h1s : (1 = 1 ∧ oP1 (at2 aK) tk op i (k + 1)) ∨ (1 = 0 ∧ ¬ oP1 (at2 aK) tk op i (k + 1)) := by
                      rw [oP1_s]
                      rcases h1 with ⟨z1, z2⟩ | ⟨z1, z2⟩
                      · exact Or.inl ⟨rfl, z2, fun _ => by show 0 < atN (aK k) i i; omega⟩
                      · exact absurd z1 c_44
                    have h2s : (1 = 1 ∧ oP2 (at2 aK) op i (k + 1)) ∨ (1 = 0 ∧ ¬ oP2 (at2 aK) op i (k + 1)) := by
                      rw [oP2_s]
                      refine Or.inl ⟨rfl, ?_⟩
                      rcases h2 with ⟨z1, z2⟩ | ⟨z1, z2⟩
                      · exact Or.inl z2
                      · first | exact absurd z1 c_70 | exact Or.inr ⟨hop, c_86⟩
                    exact ih_lp (k + 1) 1 1 (by omega) (h1s) (h2s) (by omega) _ _ _ hP hD hS (lv_sub hl [3, 4, 5, 2, 1, 0] rfl)
          · have c_37 : (op k).toNat = 0 := (nI_eq (a := (op k).toNat) (b := 0) (by omega) (by omega)).mp c_37
            refine lv_goto (tgt := 96) hx hb d_M_mayTake_40 (by decide) ?_
            refine lv_iinc (v := nI (k + 1)) (lv' := [(5, .int (nI (k + 1))), (0, .ref (h 0)), (1, .int (nI i)), (2, .int (nI f)), (3, .int (nI b1)), (4, .int (nI b2))]) hx hb d_M_mayTake_96 hl (k := 5) rfl (nI_add k 1) (by decide) rfl (fun ls hl => ?_)
            refine lv_goto (tgt := 21) hx hb d_M_mayTake_99 (by decide) ?_
            have hop : op k = false := by cases hz : op k; rfl; rw [hz] at c_37; exact absurd c_37 (by decide)
            have h1s : (b1 = 1 ∧ oP1 (at2 aK) tk op i (k + 1)) ∨ (b1 = 0 ∧ ¬ oP1 (at2 aK) tk op i (k + 1)) := by rw [oP1_s, hop]; rcases h1 with ⟨z1, z2⟩ | ⟨z1, z2⟩; exact Or.inl ⟨z1, z2, fun z => absurd z (by decide)⟩; exact Or.inr ⟨z1, fun z => z2 z.1⟩
            have h2s : (b2 = 1 ∧ oP2 (at2 aK) op i (k + 1)) ∨ (b2 = 0 ∧ ¬ oP2 (at2 aK) op i (k + 1)) := by rw [oP2_s, hop]; rcases h2 with ⟨z1, z2⟩ | ⟨z1, z2⟩; exact Or.inl ⟨z1, Or.inl z2⟩; exact Or.inr ⟨z1, fun z => by rcases z with z | z; exact z2 z; exact absurd z.1 (by decide)⟩
            exact ih_lp (k + 1) b1 b2 (by omega) (h1s) (h2s) (by omega) _ _ _ hP hD hS (lv_sub hl [1, 2, 3, 4, 5, 0] rfl)
    exact lp _ 0 1 0 (Nat.zero_le _) (h10) (Or.inr ⟨rfl, fun ⟨j, hj, _⟩ => absurd hj (Nat.not_lt_zero _)⟩) (Nat.lt_succ_self _) _ _ _ hP hD hS (lv_sub hl [3, 4, 5, 2, 1, 0] rfl)
