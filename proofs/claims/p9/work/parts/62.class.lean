/-- the chain of a graph and its end -/
def hsh (b t : Int32) : Nat := uN ((b + t) * (-1640531535)) / 2 ^ 24
theorem hsh_lt (b t : Int32) : hsh b t < 256 := by
  unfold hsh
  have := uN_lt ((b + t) * (-1640531535))
  omega
theorem hsh_ush (b t : Int32) : ush ((b + t) * (-1640531535)) 24 = nI (hsh b t) := by
  apply Int32.toBitVec_inj.mp
  apply BitVec.eq_of_toNat_eq
  unfold ush
  rw [pk_ushr _ _ 24 (s_u 24 (by omega)), pk_tn (by have := hsh_lt b t; omega)]
  rfl
def hsF (eB eE : Nat → Int32) : Nat → Nat := fun j => hsh (eB j) (eE j)
/-- the last row ahead of n in chain c -/
def lastW (hs : Nat → Nat) (st0 c : Nat) : Nat → Option Nat
  | 0 => none
  | n + 1 => if st0 ≤ n ∧ hs n = c then some n else lastW hs st0 c n
theorem lastW_some {hs : Nat → Nat} {st0 c : Nat} : ∀ {n j : Nat}, lastW hs st0 c n = some j → j < n ∧ st0 ≤ j ∧ hs j = c ∧ ∀ i, j < i → i < n → st0 ≤ i → hs i ≠ c
  | 0, j, h => by cases h
  | n + 1, j, h => by
    rw [lastW] at h
    split at h
    · rename_i hc
      cases h
      exact ⟨by omega, hc.1, hc.2, fun i h1 h2 => by omega⟩
    · rename_i hc
      obtain ⟨h1, h2, h3, h4⟩ := lastW_some h
      refine ⟨by omega, h2, h3, fun i q1 q2 q3 q4 => ?_⟩
      rcases Nat.lt_or_ge i n with z | z
      · exact h4 i q1 z q3 q4
      · obtain rfl : i = n := by omega
        exact hc ⟨q3, q4⟩
theorem lastW_none {hs : Nat → Nat} {st0 c : Nat} : ∀ {n : Nat}, lastW hs st0 c n = none → ∀ i, i < n → st0 ≤ i → hs i ≠ c
  | 0, _, i, h => absurd h (Nat.not_lt_zero _)
  | n + 1, h, i, hi => by
    rw [lastW] at h
    split at h
    · cases h
    · rename_i hc
      intro q1 q2
      rcases Nat.lt_or_ge i n with z | z
      · exact lastW_none h i z q1 q2
      · obtain rfl : i = n := by omega
        exact hc ⟨q1, q2⟩
theorem lastW_congr {hs hs2 : Nat → Nat} {st0 c : Nat} : ∀ {n : Nat}, (∀ i, i < n → hs i = hs2 i) → lastW hs st0 c n = lastW hs2 st0 c n
  | 0, _ => rfl
  | n + 1, h => by rw [lastW, lastW, h n (by omega), lastW_congr (fun i hi => h i (by omega))]
/-- the chains -/
def hCh (st0 cn : Nat) (hs : Nat → Nat) (eC eN : Nat → Int32) : Prop := (∀ c, c < 256 → eC c = ahI (lastW hs st0 c cn)) ∧ ∀ j, st0 ≤ j → j < cn → eN j = ahI (lastW hs st0 (hs j) j)
theorem hCh_0 (st0 : Nat) (hs : Nat → Nat) (eN : Nat → Int32) {eC : Nat → Int32} (h : ∀ c, c < 256 → eC c = -1) : hCh st0 st0 hs eC eN := by
  refine ⟨fun c hc => ?_, fun j h1 h2 => by omega⟩
  have : lastW hs st0 c st0 = none := by
    cases hz : lastW hs st0 c st0 with
    | none => rfl
    | some j => have := lastW_some hz; omega
  rw [h c hc, this]; rfl
theorem hCh_put {st0 cn : Nat} {eB eE eC eN : Nat → Int32} (hle : st0 ≤ cn) (h : hCh st0 cn (hsF eB eE) eC eN) (b t : Int32) : hCh st0 (cn + 1) (hsF (upd eB cn b) (upd eE cn t)) (upd eC (hsh b t) (nI cn)) (upd eN cn (eC (hsh b t))) := by
  have hag : ∀ i, i < cn → hsF eB eE i = hsF (upd eB cn b) (upd eE cn t) i := by
    intro i hi
    unfold hsF
    rw [pk_un (by omega), pk_un (by omega)]
  have hnew : hsF (upd eB cn b) (upd eE cn t) cn = hsh b t := by
    unfold hsF
    rw [pk_us, pk_us]
  refine ⟨fun c hc => ?_, fun j h1 h2 => ?_⟩
  · rw [lastW, hnew]
    by_cases hcc : c = hsh b t
    · subst hcc; rw [if_pos ⟨hle, rfl⟩, pk_us]; rfl
    · rw [if_neg (fun z => hcc z.2.symm), pk_un hcc, h.1 c hc, lastW_congr hag]
  · rcases Nat.lt_or_ge j cn with z | z
    · rw [pk_un (by omega), h.2 j h1 z, ← hag j z, lastW_congr (fun i hi => hag i (by omega))]
    · obtain rfl : j = cn := by omega
      rw [pk_us, hnew, h.1 _ (hsh_lt b t), lastW_congr hag]
/-- the rows that are kept -/
def hRw (rs : List En) (eB eE eA eL : Nat → Int32) : Prop := ∀ k e, rs[k]? = some e → eB k = e.2.2.1 ∧ eE k = nI e.2.1 ∧ eA k = ahI e.2.2.2.1 ∧ eL k = nI e.2.2.2.2
def smR (rs : List En) : Prop := ∀ e ∈ rs, e.2.1 < 16
theorem hRw_put {rs : List En} {eB eE eA eL : Nat → Int32} (h : hRw rs eB eE eA eL) (e : En) : hRw (rs ++ [e]) (upd eB rs.length e.2.2.1) (upd eE rs.length (nI e.2.1)) (upd eA rs.length (ahI e.2.2.2.1)) (upd eL rs.length (nI e.2.2.2.2)) := by
  intro k x hk
  rcases Nat.lt_trichotomy k rs.length with h1 | h1 | h1
  · rw [List.getElem?_append_left h1] at hk
    have hne : k ≠ rs.length := by omega
    rw [pk_un hne, pk_un hne, pk_un hne, pk_un hne]
    exact h k x hk
  · subst h1
    rw [List.getElem?_append_right (Nat.le_refl _), Nat.sub_self] at hk
    cases hk
    rw [pk_us, pk_us, pk_us, pk_us]
    exact ⟨rfl, rfl, rfl, rfl⟩
  · rw [List.getElem?_eq_none (by rw [List.length_append]; simp; omega)] at hk
    cases hk
/-- among the rows of the function that is looked at -/
def isIn (st0 : Nat) (rs : List En) (g : Nat) (b : Int32) : Prop := ∃ j e, st0 ≤ j ∧ rs[j]? = some e ∧ e.2.1 = g ∧ e.2.2.1 = b
noncomputable def keepP (st0 : Nat) (rs : List En) (tm : Nat) (e : En) : List En × Nat := Classical.choice (show Nonempty (List En × Nat) from ⟨([], 0)⟩) |> fun _ => @ite _ (isIn st0 rs e.2.1 e.2.2.1) (Classical.propDecidable _) (rs, tm) (if 800 ≤ rs.length then (rs, 1) else (rs ++ [e], tm))
theorem isIn_iff {st0 cn : Nat} {rs : List En} {eB eE eA eL : Nat → Int32} (h : hRw rs eB eE eA eL) (hs : smR rs) (hl : rs.length = cn) {g : Nat} (hg : g < 16) {b : Int32} : isIn st0 rs g b ↔ ∃ j, st0 ≤ j ∧ j < cn ∧ eB j = b ∧ eE j = nI g := by
  constructor
  · rintro ⟨j, e, h1, h2, rfl, rfl⟩
    have := h j e h2
    exact ⟨j, h1, by have := (List.getElem?_eq_some_iff.mp h2).1; omega, this.1, this.2.1⟩
  · rintro ⟨j, h1, h2, h3, h4⟩
    obtain ⟨e, he⟩ : ∃ e, rs[j]? = some e := ⟨_, List.getElem?_eq_getElem (by omega)⟩
    have h5 := h j e he
    have h6 := hs e (List.mem_of_getElem? he)
    exact ⟨j, e, h1, he, (nI_eq (by omega) (by omega)).mp (h5.2.1.symm.trans h4), h5.1.symm.trans h3⟩
theorem keepP_in {st0 : Nat} {rs : List En} {tm : Nat} {e : En} (h : isIn st0 rs e.2.1 e.2.2.1) : keepP st0 rs tm e = (rs, tm) := by unfold keepP; exact if_pos h
theorem keepP_no {st0 : Nat} {rs : List En} {tm : Nat} {e : En} (h : ¬ isIn st0 rs e.2.1 e.2.2.1) : keepP st0 rs tm e = (if 800 ≤ rs.length then (rs, 1) else (rs ++ [e], tm)) := by unfold keepP; exact if_neg h
set_option maxHeartbeats 4000000 in
set_option maxRecDepth 100000 in
theorem c_C_isKept_ok (l : Launch) (dC : Nat → ClassId) (dI : Nat → Nat → Nat) (cI : ClassId) (h : Nat → Nat) (sz : Nat) (yf yc yt yg ym : Int32) (aP aF aT aK eB eE eA eL eN eC eS eW eT : Nat → Int32) (cn st0 g : Nat) (b : Int32) (hcn : cn ≤ 800) (hst : st0 ≤ cn) (hch : hCh st0 cn (hsF eB eE) eC eN) (hg : g < 16) : Met l y_C_isKept w_C_isKept ({ frames := 1, cells := 0, slots := 0, locals := 21 }) (va_Pc [.ref (h 6), .int (nI (hsh b (nI g))), .int b, .int (nI g)] (fun U => U.heap.size = sz ∧ va_P (dC, dI) kls (wC h cI yf yc (nI cn) yt yg ym aP aF aT aK eB eE eA eL eN eC eS eW eT) U.heap ∧ va_K (dC, dI) kls (tyC cI) U ∧ va_D (fun _ => True) (wC h cI yf yc (nI cn) yt yg ym aP aF aT aK eB eE eA eL eN eC eS eW eT))) (va_Qi (fun (r : Int32) (u : Unit) => (r = nI 1 ∧ ∃ j, st0 ≤ j ∧ j < cn ∧ eB j = b ∧ eE j = nI g) ∨ (r = nI 0 ∧ ¬ ∃ j, st0 ≤ j ∧ j < cn ∧ eB j = b ∧ eE j = nI g)) (fun (u : Unit) (t : State) => va_P (dC, dI) kls (wC h cI yf yc (nI cn) yt yg ym aP aF aT aK eB eE eA eL eN eC eS eW eT) t.heap ∧ va_K (dC, dI) kls (tyC cI) t ∧ va_D (va_A (wC h cI yf yc (nI cn) yt yg ym aP aF aT aK eB eE eA eL eN eC eS eW eT) sz) (wC h cI yf yc (nI cn) yt yg ym aP aF aT aK eB eE eA eL eN eC eS eW eT)) (va_A (wC h cI yf yc (nI cn) yt yg ym aP aF aT aK eB eE eA eL eN eC eS eW eT) sz)) 0 0 (va_A (wC h cI yf yc (nI cn) yt yg ym aP aF aT aK eB eE eA eL eN eC eS eW eT) sz) := by
  refine Met.ofW (cc := c_C_isKept) (maxL := 6) (ret := (some .boolean)) (by decide) rfl ?_
  intro p e s m args below meth c s₁ B hml hv
  obtain ⟨rfl, hsz, hP, hK, hD0⟩ := hv
  have hx := B.exec
  have hb := B.bytes
  have hr := B.returns
  have hts := atoms_spec (ws := w_C_isKept) B.pre
  have hk : ∀ w ∈ wCw, w.before _ s = true := fun w h => hts w (List.mem_cons_of_mem _ h)
  have hown : s.vm.findClass R_C = some m.cls := findClass_of_methodNamed B.named
  have hlocks := B.notSynchronized
  subst hsz
  have hD := hD0.self (sz := s.heap.size)
  generalize hAe : va_A (wC h cI yf yc (nI cn) yt yg ym aP aF aT aK eB eE eA eL eN eC eS eW eT) s.heap.size = A at hD ⊢
  have hA : ∀ q : Nat, s.heap.size ≤ q → A q := fun q h => by rw [← hAe]; exact Or.inr h
  have hS : va_S A s.heap s.heap [] := va_S.rf
  have hl := lv_entry ([.ref (h 6), .int (nI (hsh b (nI g))), .int b, .int (nI g)]) (n := 6) (Nat.le_of_ble_eq_true rfl)
  rw [lg_entry_eq]
  generalize (lg_sl ([.ref (h 6), .int (nI (hsh b (nI g))), .int b, .int (nI g)]) ++ List.replicate (6 - (lg_sl ([.ref (h 6), .int (nI (hsh b (nI g))), .int b, .int (nI g)])).length) Slot.unset).toArray = ls at hl ⊢
  have hl : lv_has ls 6 [(0, .ref (h 6)), (1, .int (nI (hsh b (nI g)))), (2, .int b), (3, .int (nI g))] := hl
  have hcl := hsh_lt b (nI g)
  refine lv_aload_n hx hb d_C_isKept_0 rfl (lv_at hl 0 rfl) ?_
  refine va_get (D := (dC, dI)) (ci := 2) (v := .ref (h 12)) (C := R_C) (T := F_C) (N := 11) hx hb hk k_f_C hown hK hP 6 rfl rfl 5 (by decide) (hk _ k_C_50) (fun _ h9 => h9) rfl d_C_isKept_1 ?_
  refine lv_iload_n hx hb d_C_isKept_4 rfl (lv_at hl 1 rfl) ?_
  refine va_iald hx hb hK hP 12 0 rfl rfl (pk_in (hsh b (nI g)) 256 (by omega)) d_C_isKept_5 ?_
  refine lv_topi (fun z1 ez1 => ?_)
  obtain rfl : z1 = ahI (lastW (hsF eB eE) st0 (hsh b (nI g)) cn) := ez1.trans ((rd (f := eC) (k := hsh b (nI g)) (by omega)).trans (hch.1 _ hcl))
  refine lv_istore (lv' := [(4, .int (ahI (lastW (hsF eB eE) st0 (hsh b (nI g)) cn))), (0, .ref (h 6)), (1, .int (nI (hsh b (nI g)))), (2, .int b), (3, .int (nI g))]) hx hb d_C_isKept_6 hl (by decide) rfl (fun ls hl => ?_)
  refine lv_iconst (v := nI 0) hx hb d_C_isKept_8 (by decide +kernel) ?_
  refine lv_istore (lv' := [(5, .int (nI 0)), (4, .int (ahI (lastW (hsF eB eE) st0 (hsh b (nI g)) cn))), (0, .ref (h 6)), (1, .int (nI (hsh b (nI g)))), (2, .int b), (3, .int (nI g))]) hx hb d_C_isKept_9 hl (by decide) rfl (fun ls hl => ?_)
  have lp : ∀ (n_lp : Nat) (n1 : Nat) (t9 : Nat), (n1 ≤ cn) → (t9 + n1 ≤ cn) → (∀ j, n1 ≤ j → j < cn → st0 ≤ j → ¬ (eB j = b ∧ eE j = nI g)) → n1 < n_lp → ∀ (H : Heap) (locs : List Loc) (ls : Array Slot), va_P (dC, dI) kls (wC h cI yf yc (nI cn) yt yg ym aP aF aT aK eB eE eA eL eN eC eS eW eT) H → va_D A (wC h cI yf yc (nI cn) yt yg ym aP aF aT aK eB eE eA eL eN eC eS eW eT) → va_S A s.heap H locs → lv_has ls 6 [(0, .ref (h 6)), (1, .int (nI (hsh b (nI g)))), (2, .int b), (3, .int (nI g)), (4, .int (ahI (lastW (hsF eB eE) st0 (hsh b (nI g)) n1))), (5, .int (nI t9))] → W p l e (headSpec w_C_isKept ({ frames := 1, cells := 0, slots := 0, locals := 21 })).room s m ([.ref (h 6), .int (nI (hsh b (nI g))), .int b, .int (nI g)]).toArray below meth c H locs 0 0 (MQ below (va_Qi (fun (r : Int32) (u : Unit) => (r = nI 1 ∧ ∃ j, st0 ≤ j ∧ j < cn ∧ eB j = b ∧ eE j = nI g) ∨ (r = nI 0 ∧ ¬ ∃ j, st0 ≤ j ∧ j < cn ∧ eB j = b ∧ eE j = nI g)) (fun (u : Unit) (t : State) => va_P (dC, dI) kls (wC h cI yf yc (nI cn) yt yg ym aP aF aT aK eB eE eA eL eN eC eS eW eT) t.heap ∧ va_K (dC, dI) kls (tyC cI) t ∧ va_D (A) (wC h cI yf yc (nI cn) yt yg ym aP aF aT aK eB eE eA eL eN eC eS eW eT)) A) ([.ref (h 6), .int (nI (hsh b (nI g))), .int b, .int (nI g)]).toArray s 0 0 A) (F0 m 11 ls []) := by
    intro n_lp
    induction n_lp with
    | zero => intro n1 t9 hn1 ht9 hno hn; exact absurd hn (Nat.not_lt_zero _)
    | succ n_lp ih_lp =>
      intro n1 t9 hn1 ht9 hno hn H locs ls hP hD hS hl
      refine lv_iload hx hb d_C_isKept_11 (lv_at hl 5 rfl) ?_
      refine lv_sipush (v := nI 800) hx hb d_C_isKept_13 (by decide +kernel) ?_
      refine lv_icmp_ge (tgt := 67) hx hb d_C_isKept_16 (by decide) (fun c_16 => ?_) (fun c_16 => ?_)
      · have c_16 : 800 ≤ t9 := (nI_leI (a := 800) (b := t9) (by omega) (by omega)).mp c_16
        refine lv_iconst (v := nI 0) hx hb d_C_isKept_67 (by decide +kernel) ?_
        have hq9 : ¬ ∃ j, st0 ≤ j ∧ j < cn ∧ eB j = b ∧ eE j = nI g := by
          rintro ⟨i, q1, q2, q3, q4⟩
          rcases Nat.lt_or_ge i n1 with z | z
          · first
              | omega
              | (have hlw : lastW (hsF eB eE) st0 (hsh b (nI g)) n1 = none := by
                   cases hz : lastW (hsF eB eE) st0 (hsh b (nI g)) n1 with
                   | none => rfl
                   | some j => exact absurd ⟨j, by have := (lastW_some hz).1; omega, by rw [hz]; rfl⟩ hrow
                 refine lastW_none hlw i z q1 ?_
                 show hsh (eB i) (eE i) = _
                 rw [q3, q4])
          · exact hno i z q2 q1 ⟨q3, q4⟩
        exact W.zret (v := nI 0) (ty := .boolean) hx hb hr rfl (fun t ht hW => ⟨⟨nI 0, (), rfl, Or.inr ⟨rfl, hq9⟩, by rw [ht]; exact hP, va_K.moved hW.alike hK, hD⟩, hS.F ht⟩) hS.2.2 d_C_isKept_68
      · have c_16 : ¬ 800 ≤ t9 := fun z9 => c_16 ((nI_leI (a := 800) (b := t9) (by omega) (by omega)).mpr z9)
        refine lv_aload_n hx hb d_C_isKept_19 rfl (lv_at hl 0 rfl) ?_
        refine lv_iload hx hb d_C_isKept_20 (lv_at hl 4 rfl) ?_
        have hFc := va_free (wc := wC h cI yf yc (nI cn) yt yg ym aP aF aT aK eB eE eA eL eN eC eS eW eT) hD hS hA [0, 1, 2, 3, 4, 5, 6, 7, 8, 9, 10, 11, 12, 13, 14, 15, 16] rfl
        refine va_calli (va_runV (As := [.int (ahI (lastW (hsF eB eE) st0 (hsh b (nI g)) n1))]) (rest := []) ⟨hx, hb, hml, hown, hk⟩ (c_C_hasRow_ok l dC dI cI h H.size yf yc yt yg ym aP aF aT aK eB eE eA eL eN eC eS eW eT cn (ahI (lastW (hsF eB eE) st0 (hsh b (nI g)) n1)) (by omega)) (cwV 1 hk g_C_93 rfl rfl rfl (by decide +kernel) ⟨Nat.le_of_ble_eq_true rfl, Nat.le_of_ble_eq_true rfl⟩) ⟨fun a U g mk q => by obtain ⟨q0, q1, qP, qK, qD⟩ := q; exact ⟨q0, q1, qP, va_K.moved (u := U) (U := U.calling g mk a) (Vm.Alike.refl U.vm) qK, qD⟩, va_recv hK hP (ci := 2) (q0 := 6) rfl rfl, fun U hU hW => ⟨rfl, by rw [hU], by rw [hU]; exact hP, va_K.moved hW.alike hK, hD.weaken (fun _ _ _ _ => trivial)⟩⟩ rfl rfl hl.1 rfl (lv_room (Nat.le_of_ble_eq_true rfl)) d_C_isKept_22 ⟨Nat.le_of_ble_eq_true rfl, Nat.le_of_ble_eq_true rfl⟩) hS (fun q _ h => hFc q h) hFc (fun r2 u9 t H1 locs ht hvm hw hB hz1 hk1 hS => ?_)
        obtain ⟨hP1, hK1, hD1⟩ := hB
        rw [ht] at hP1
        try dsimp only at hw
        obtain ⟨hP, hD⟩ := va_join (wr := []) (w1 := wC h cI yf yc (nI cn) yt yg ym aP aF aT aK eB eE eA eL eN eC eS eW eT) hP hD [0, 1, 2, 3, 4, 5, 6, 7, 8, 9, 10, 11, 12, 13, 14, 15, 16] [] rfl rfl (by decide) (by decide) hk1 hFc hP1 hD1
        generalize H1 = H at hP hS ⊢
        have hP : va_P (dC, dI) kls (wC h cI yf yc (nI cn) yt yg ym aP aF aT aK eB eE eA eL eN eC eS eW eT) H := hP
        have hD : va_D A (wC h cI yf yc (nI cn) yt yg ym aP aF aT aK eB eE eA eL eN eC eS eW eT) := hD
        rcases hw with ⟨hr9, hrow⟩ | ⟨hr9, hrow⟩
        · subst hr9
          refine lv_if_eq (tgt := 67) hx hb d_C_isKept_25 (by decide) (fun c9 => absurd c9 (by decide +kernel)) (fun _ => ?_)
          obtain ⟨j1, hj1, hfj⟩ := hrow
          have hlw : lastW (hsF eB eE) st0 (hsh b (nI g)) n1 = some j1 := by
            cases hz : lastW (hsF eB eE) st0 (hsh b (nI g)) n1 with
            | none => rw [hz] at hfj; exact absurd hfj.symm (ah_neg (by omega))
            | some i => rw [hz] at hfj; have := (lastW_some hz).1; exact congrArg some ((nI_eq (by omega) (by omega)).mp hfj)
          obtain ⟨hl1, hl2, hl3, hl4⟩ := lastW_some hlw
          have hnx := hch.2 j1 hl2 hj1
          rw [hl3] at hnx
          rw [hfj] at hl
          refine lv_aload_n hx hb d_C_isKept_28 rfl (lv_at hl 0 rfl) ?_
          refine va_get (D := (dC, dI)) (ci := 2) (v := .ref (h 7)) (C := R_C) (T := F_C) (N := 11) hx hb hk k_f_C hown hK hP 6 rfl rfl 0 (by decide) (hk _ k_C_45) (fun _ h9 => h9) rfl d_C_isKept_29 ?_
          refine lv_iload hx hb d_C_isKept_32 (lv_at hl 4 rfl) ?_
          refine va_iald hx hb hK hP 7 0 rfl rfl (pk_in j1 800 (by omega)) d_C_isKept_34 ?_
          refine lv_topi (fun z3 ez3 => ?_)
          obtain rfl : z3 = eB j1 := ez3.trans (rd (f := eB) (k := j1) (by omega))
          refine lv_iload_n hx hb d_C_isKept_35 rfl (lv_at hl 2 rfl) ?_
          refine lv_icmp_ne (tgt := 52) hx hb d_C_isKept_36 (by decide) (fun c_36 => ?_) (fun c_36 => ?_)
          · refine lv_aload_n hx hb d_C_isKept_52 rfl (lv_at hl 0 rfl) ?_
            refine va_get (D := (dC, dI)) (ci := 2) (v := .ref (h 11)) (C := R_C) (T := F_C) (N := 11) hx hb hk k_f_C hown hK hP 6 rfl rfl 4 (by decide) (hk _ k_C_49) (fun _ h9 => h9) rfl d_C_isKept_53 ?_
            refine lv_iload hx hb d_C_isKept_56 (lv_at hl 4 rfl) ?_
            refine va_iald hx hb hK hP 11 0 rfl rfl (pk_in j1 800 (by omega)) d_C_isKept_58 ?_
            refine lv_topi (fun z4 ez4 => ?_)
            obtain rfl : z4 = ahI (lastW (hsF eB eE) st0 (hsh b (nI g)) j1) := ez4.trans ((rd (f := eN) (k := j1) (by omega)).trans hnx)
            refine lv_istore (lv' := [(4, .int (ahI (lastW (hsF eB eE) st0 (hsh b (nI g)) j1))), (0, .ref (h 6)), (1, .int (nI (hsh b (nI g)))), (2, .int b), (3, .int (nI g)), (5, .int (nI t9))]) hx hb d_C_isKept_59 hl (by decide) rfl (fun ls hl => ?_)
            refine lv_iinc (v := nI (t9 + 1)) (lv' := [(5, .int (nI (t9 + 1))), (4, .int (ahI (lastW (hsF eB eE) st0 (hsh b (nI g)) j1))), (0, .ref (h 6)), (1, .int (nI (hsh b (nI g)))), (2, .int b), (3, .int (nI g))]) hx hb d_C_isKept_61 hl (k := 5) rfl (nI_add t9 1) (by decide) rfl (fun ls hl => ?_)
            refine lv_goto (tgt := 11) hx hb d_C_isKept_64 (by decide) ?_
            have hno2 : ∀ i, j1 ≤ i → i < cn → st0 ≤ i → ¬ (eB i = b ∧ eE i = nI g) := by
              intro i q1 q2 q3 q4
              rcases Nat.lt_or_ge i n1 with z | z
              · rcases Nat.lt_or_ge j1 i with z2 | z2
                · refine hl4 i z2 z q3 ?_
                  show hsh (eB i) (eE i) = _
                  rw [q4.1, q4.2]
                · obtain rfl : i = j1 := by omega
                  first
                    | exact c_36 q4.1
                    | exact c_47 q4.2
              · exact hno i z q2 q3 q4
            exact ih_lp j1 (t9 + 1) (by omega) (by omega) (hno2) (by omega) _ _ _ hP hD hS (lv_sub hl [2, 3, 4, 5, 1, 0] rfl)
          · refine lv_aload_n hx hb d_C_isKept_39 rfl (lv_at hl 0 rfl) ?_
            refine va_get (D := (dC, dI)) (ci := 2) (v := .ref (h 8)) (C := R_C) (T := F_C) (N := 11) hx hb hk k_f_C hown hK hP 6 rfl rfl 1 (by decide) (hk _ k_C_46) (fun _ h9 => h9) rfl d_C_isKept_40 ?_
            refine lv_iload hx hb d_C_isKept_43 (lv_at hl 4 rfl) ?_
            refine va_iald hx hb hK hP 8 0 rfl rfl (pk_in j1 800 (by omega)) d_C_isKept_45 ?_
            refine lv_topi (fun z5 ez5 => ?_)
            obtain rfl : z5 = eE j1 := ez5.trans (rd (f := eE) (k := j1) (by omega))
            refine lv_iload_n hx hb d_C_isKept_46 rfl (lv_at hl 3 rfl) ?_
            refine lv_icmp_ne (tgt := 52) hx hb d_C_isKept_47 (by decide) (fun c_47 => ?_) (fun c_47 => ?_)
            · refine lv_aload_n hx hb d_C_isKept_52 rfl (lv_at hl 0 rfl) ?_
              refine va_get (D := (dC, dI)) (ci := 2) (v := .ref (h 11)) (C := R_C) (T := F_C) (N := 11) hx hb hk k_f_C hown hK hP 6 rfl rfl 4 (by decide) (hk _ k_C_49) (fun _ h9 => h9) rfl d_C_isKept_53 ?_
              refine lv_iload hx hb d_C_isKept_56 (lv_at hl 4 rfl) ?_
              refine va_iald hx hb hK hP 11 0 rfl rfl (pk_in j1 800 (by omega)) d_C_isKept_58 ?_
              refine lv_topi (fun z6 ez6 => ?_)
              obtain rfl : z6 = ahI (lastW (hsF eB eE) st0 (hsh b (nI g)) j1) := ez6.trans ((rd (f := eN) (k := j1) (by omega)).trans hnx)
              refine lv_istore (lv' := [(4, .int (ahI (lastW (hsF eB eE) st0 (hsh b (nI g)) j1))), (0, .ref (h 6)), (1, .int (nI (hsh b (nI g)))), (2, .int b), (3, .int (nI g)), (5, .int (nI t9))]) hx hb d_C_isKept_59 hl (by decide) rfl (fun ls hl => ?_)
              refine lv_iinc (v := nI (t9 + 1)) (lv' := [(5, .int (nI (t9 + 1))), (4, .int (ahI (lastW (hsF eB eE) st0 (hsh b (nI g)) j1))), (0, .ref (h 6)), (1, .int (nI (hsh b (nI g)))), (2, .int b), (3, .int (nI g))]) hx hb d_C_isKept_61 hl (k := 5) rfl (nI_add t9 1) (by decide) rfl (fun ls hl => ?_)
              refine lv_goto (tgt := 11) hx hb d_C_isKept_64 (by decide) ?_
              have hno2 : ∀ i, j1 ≤ i → i < cn → st0 ≤ i → ¬ (eB i = b ∧ eE i = nI g) := by
                intro i q1 q2 q3 q4
                rcases Nat.lt_or_ge i n1 with z | z
                · rcases Nat.lt_or_ge j1 i with z2 | z2
                  · refine hl4 i z2 z q3 ?_
                    show hsh (eB i) (eE i) = _
                    rw [q4.1, q4.2]
                  · obtain rfl : i = j1 := by omega
                    first
                      | exact c_36 q4.1
                      | exact c_47 q4.2
                · exact hno i z q2 q3 q4
              exact ih_lp j1 (t9 + 1) (by omega) (by omega) (hno2) (by omega) _ _ _ hP hD hS (lv_sub hl [2, 3, 4, 5, 1, 0] rfl)
            · refine lv_iconst (v := nI 1) hx hb d_C_isKept_50 (by decide +kernel) ?_
              exact W.zret (v := nI 1) (ty := .boolean) hx hb hr rfl (fun t ht hW => ⟨⟨nI 1, (), rfl, Or.inl ⟨rfl, j1, hl2, hj1, c_36, c_47⟩, by rw [ht]; exact hP, va_K.moved hW.alike hK, hD⟩, hS.F ht⟩) hS.2.2 d_C_isKept_51
        · subst hr9
          refine lv_if_eq (tgt := 67) hx hb d_C_isKept_25 (by decide) (fun _ => ?_) (fun c9 => absurd c9 (by decide +kernel))
          refine lv_iconst (v := nI 0) hx hb d_C_isKept_67 (by decide +kernel) ?_
          have hq9 : ¬ ∃ j, st0 ≤ j ∧ j < cn ∧ eB j = b ∧ eE j = nI g := by
            rintro ⟨i, q1, q2, q3, q4⟩
            rcases Nat.lt_or_ge i n1 with z | z
            · first
                | omega
                | (have hlw : lastW (hsF eB eE) st0 (hsh b (nI g)) n1 = none := by
                     cases hz : lastW (hsF eB eE) st0 (hsh b (nI g)) n1 with
                     | none => rfl
                     | some j => exact absurd ⟨j, by have := (lastW_some hz).1; omega, by rw [hz]; rfl⟩ hrow
                   refine lastW_none hlw i z q1 ?_
                   show hsh (eB i) (eE i) = _
                   rw [q3, q4])
            · exact hno i z q2 q1 ⟨q3, q4⟩
          exact W.zret (v := nI 0) (ty := .boolean) hx hb hr rfl (fun t ht hW => ⟨⟨nI 0, (), rfl, Or.inr ⟨rfl, hq9⟩, by rw [ht]; exact hP, va_K.moved hW.alike hK, hD⟩, hS.F ht⟩) hS.2.2 d_C_isKept_68
  exact lp _ cn 0 (Nat.le_refl _) (by omega) (fun j h1 h2 => by omega) (Nat.lt_succ_self _) _ _ _ hP hD hS (lv_sub hl [2, 3, 4, 5, 1, 0] rfl)
set_option maxHeartbeats 4000000 in
set_option maxRecDepth 100000 in
theorem c_C_keep_ok (l : Launch) (dC : Nat → ClassId) (dI : Nat → Nat → Nat) (cI : ClassId) (h : Nat → Nat) (sz : Nat) (yf yc yg ym : Int32) (aP aF aT aK eB eE eA eL eN eC eS eW eT : Nat → Int32) (rs : List En) (st0 tm f g y : Nat) (b : Int32) (a : Option Nat) (hcn : rs.length ≤ 800) (hst : st0 ≤ rs.length) (hch : hCh st0 rs.length (hsF eB eE) eC eN) (hrw : hRw rs eB eE eA eL) (hsm : smR rs) (hg : g < 16) : Met l y_C_keep w_C_keep ({ frames := 2, cells := 0, slots := 0, locals := 46 }) (va_Pc [.ref (h 6), .int b, .int (nI g), .int (ahI a), .int (nI y)] (fun U => U.heap.size = sz ∧ va_P (dC, dI) kls (wC h cI yf yc (nI rs.length) (nI tm) yg ym aP aF aT aK eB eE eA eL eN eC eS eW eT) U.heap ∧ va_K (dC, dI) kls (tyC cI) U ∧ va_D (fun _ => True) (wC h cI yf yc (nI rs.length) (nI tm) yg ym aP aF aT aK eB eE eA eL eN eC eS eW eT))) (va_Qv (fun (u : Int32 × Int32 × (Nat → Int32) × (Nat → Int32) × (Nat → Int32) × (Nat → Int32) × (Nat → Int32) × (Nat → Int32)) => u.1 = nI (keepP st0 rs tm (f, g, b, a, y)).1.length ∧ u.2.1 = nI (keepP st0 rs tm (f, g, b, a, y)).2 ∧ hRw (keepP st0 rs tm (f, g, b, a, y)).1 u.2.2.1 u.2.2.2.1 u.2.2.2.2.1 u.2.2.2.2.2.1 ∧ hCh st0 (keepP st0 rs tm (f, g, b, a, y)).1.length (hsF u.2.2.1 u.2.2.2.1) u.2.2.2.2.2.2.2 u.2.2.2.2.2.2.1) (fun (u : Int32 × Int32 × (Nat → Int32) × (Nat → Int32) × (Nat → Int32) × (Nat → Int32) × (Nat → Int32) × (Nat → Int32)) (t : State) => va_P (dC, dI) kls (wC h cI yf yc u.1 u.2.1 yg ym aP aF aT aK u.2.2.1 u.2.2.2.1 u.2.2.2.2.1 u.2.2.2.2.2.1 u.2.2.2.2.2.2.1 u.2.2.2.2.2.2.2 eS eW eT) t.heap ∧ va_K (dC, dI) kls (tyC cI) t ∧ va_D (va_A (wC h cI yf yc (nI rs.length) (nI tm) yg ym aP aF aT aK eB eE eA eL eN eC eS eW eT) sz) (wC h cI yf yc u.1 u.2.1 yg ym aP aF aT aK u.2.2.1 u.2.2.2.1 u.2.2.2.2.1 u.2.2.2.2.2.1 u.2.2.2.2.2.2.1 u.2.2.2.2.2.2.2 eS eW eT)) (va_A (wC h cI yf yc (nI rs.length) (nI tm) yg ym aP aF aT aK eB eE eA eL eN eC eS eW eT) sz)) 0 0 (va_A (wC h cI yf yc (nI rs.length) (nI tm) yg ym aP aF aT aK eB eE eA eL eN eC eS eW eT) sz) := by
  refine Met.ofW (cc := c_C_keep) (maxL := 6) (ret := none) (by decide) rfl ?_
  intro p e s m args below meth c s₁ B hml hv
  obtain ⟨rfl, hsz, hP, hK, hD0⟩ := hv
  have hx := B.exec
  have hb := B.bytes
  have hr := B.returns
  have hts := atoms_spec (ws := w_C_keep) B.pre
  have hk : ∀ w ∈ wCw, w.before _ s = true := fun w h => hts w (List.mem_cons_of_mem _ h)
  have hown : s.vm.findClass R_C = some m.cls := findClass_of_methodNamed B.named
  have hlocks := B.notSynchronized
  subst hsz
  have hD := hD0.self (sz := s.heap.size)
  generalize hAe : va_A (wC h cI yf yc (nI rs.length) (nI tm) yg ym aP aF aT aK eB eE eA eL eN eC eS eW eT) s.heap.size = A at hD ⊢
  have hA : ∀ q : Nat, s.heap.size ≤ q → A q := fun q h => by rw [← hAe]; exact Or.inr h
  have hS : va_S A s.heap s.heap [] := va_S.rf
  have hl := lv_entry ([.ref (h 6), .int b, .int (nI g), .int (ahI a), .int (nI y)]) (n := 6) (Nat.le_of_ble_eq_true rfl)
  rw [lg_entry_eq]
  generalize (lg_sl ([.ref (h 6), .int b, .int (nI g), .int (ahI a), .int (nI y)]) ++ List.replicate (6 - (lg_sl ([.ref (h 6), .int b, .int (nI g), .int (ahI a), .int (nI y)])).length) Slot.unset).toArray = ls at hl ⊢
  have hl : lv_has ls 6 [(0, .ref (h 6)), (1, .int b), (2, .int (nI g)), (3, .int (ahI a)), (4, .int (nI y))] := hl
  refine lv_iload_n hx hb d_C_keep_0 rfl (lv_at hl 1 rfl) ?_
  refine lv_iload_n hx hb d_C_keep_1 rfl (lv_at hl 2 rfl) ?_
  refine lv_iadd hx hb d_C_keep_2 ?_
  refine lv_ldc (v := (-1640531535)) hx hb hown (hk _ k_C_175) d_C_keep_3 ?_
  refine lv_imul hx hb d_C_keep_5 ?_
  refine lv_bipush (v := nI 24) hx hb d_C_keep_6 (by decide +kernel) ?_
  refine lv_iushr (v := ush ((b + (nI g)) * (-1640531535)) 24) hx hb d_C_keep_8 rfl ?_
  refine lv_topi (fun z1 ez1 => ?_)
  obtain rfl : z1 = nI (hsh b (nI g)) := ez1.trans (hsh_ush b (nI g))
  have hcl := hsh_lt b (nI g)
  refine lv_istore (lv' := [(5, .int (nI (hsh b (nI g)))), (0, .ref (h 6)), (1, .int b), (2, .int (nI g)), (3, .int (ahI a)), (4, .int (nI y))]) hx hb d_C_keep_9 hl (by decide) rfl (fun ls hl => ?_)
  refine lv_aload_n hx hb d_C_keep_11 rfl (lv_at hl 1 rfl) ?_
  refine lv_iload hx hb d_C_keep_12 (lv_at hl 0 rfl) ?_
  refine lv_iload_n hx hb d_C_keep_14 rfl (lv_at hl 2 rfl) ?_
  refine lv_iload_n hx hb d_C_keep_15 rfl (lv_at hl 3 rfl) ?_
  have hFc := va_free (wc := wC h cI yf yc (nI rs.length) (nI tm) yg ym aP aF aT aK eB eE eA eL eN eC eS eW eT) hD hS hA [0, 1, 2, 3, 4, 5, 6, 7, 8, 9, 10, 11, 12, 13, 14, 15, 16] rfl
  refine va_calli (va_runV (As := [.int (nI (hsh b (nI g))), .int b, .int (nI g)]) (rest := []) ⟨hx, hb, hml, hown, hk⟩ (c_C_isKept_ok l dC dI cI h s.heap.size yf yc (nI tm) yg ym aP aF aT aK eB eE eA eL eN eC eS eW eT rs.length st0 g b (hcn) (hst) (hch) (hg)) (cwV 3 hk g_C_89 rfl rfl rfl (by decide +kernel) ⟨Nat.le_of_ble_eq_true rfl, Nat.le_of_ble_eq_true rfl⟩) ⟨fun a U g mk q => by obtain ⟨q0, q1, qP, qK, qD⟩ := q; exact ⟨q0, q1, qP, va_K.moved (u := U) (U := U.calling g mk a) (Vm.Alike.refl U.vm) qK, qD⟩, va_recv hK hP (ci := 2) (q0 := 6) rfl rfl, fun U hU hW => ⟨rfl, by rw [hU], by rw [hU]; exact hP, va_K.moved hW.alike hK, hD.weaken (fun _ _ _ _ => trivial)⟩⟩ rfl rfl hl.1 rfl (lv_room (Nat.le_of_ble_eq_true rfl)) d_C_keep_16 ⟨Nat.le_of_ble_eq_true rfl, Nat.le_of_ble_eq_true rfl⟩) hS (fun q _ h => hFc q h) hFc (fun r2 u9 t H1 locs ht hvm hw hB hz1 hk1 hS => ?_)
  obtain ⟨hP1, hK1, hD1⟩ := hB
  rw [ht] at hP1
  try dsimp only at hw
  obtain ⟨hP, hD⟩ := va_join (wr := []) (w1 := wC h cI yf yc (nI rs.length) (nI tm) yg ym aP aF aT aK eB eE eA eL eN eC eS eW eT) hP hD [0, 1, 2, 3, 4, 5, 6, 7, 8, 9, 10, 11, 12, 13, 14, 15, 16] [] rfl rfl (by decide) (by decide) hk1 hFc hP1 hD1
  generalize H1 = H at hP hS ⊢
  have hP : va_P (dC, dI) kls (wC h cI yf yc (nI rs.length) (nI tm) yg ym aP aF aT aK eB eE eA eL eN eC eS eW eT) H := hP
  have hD : va_D A (wC h cI yf yc (nI rs.length) (nI tm) yg ym aP aF aT aK eB eE eA eL eN eC eS eW eT) := hD
  rcases hw with ⟨hr9, hkept⟩ | ⟨hr9, hkept⟩
  · subst hr9
    refine lv_if_eq (tgt := 23) hx hb d_C_keep_19 (by decide) (fun c9 => absurd c9 (by decide +kernel)) (fun _ => ?_)
    have hq9 : keepP st0 rs tm (f, g, b, a, y) = (rs, tm) := keepP_in ((isIn_iff hrw hsm rfl hg).mpr hkept)
    exact W.vret hx hb hr (fun t ht hW => ⟨⟨(nI rs.length, nI tm, eB, eE, eA, eL, eN, eC), rfl, by rw [hq9]; exact ⟨rfl, rfl, hrw, hch⟩, by rw [ht]; exact hP, va_K.moved hW.alike hK, hD⟩, hS.F ht⟩) hS.2.2 d_C_keep_22
  · subst hr9
    refine lv_if_eq (tgt := 23) hx hb d_C_keep_19 (by decide) (fun _ => ?_) (fun c9 => absurd c9 (by decide +kernel))
    refine lv_aload_n hx hb d_C_keep_23 rfl (lv_at hl 1 rfl) ?_
    refine va_get (D := (dC, dI)) (ci := 2) (v := .int (nI rs.length)) (C := R_C) (T := F_C) (N := 11) hx hb hk k_f_C hown hK hP 6 rfl rfl 8 (by decide) (hk _ k_C_54) (fun _ h9 => h9) rfl d_C_keep_24 ?_
    refine lv_sipush (v := nI 800) hx hb d_C_keep_27 (by decide +kernel) ?_
    refine lv_icmp_lt (tgt := 39) hx hb d_C_keep_30 (by decide) (fun c_30 => ?_) (fun c_30 => ?_)
    · have c_30 : rs.length < 800 := (nI_ltI (a := rs.length) (b := 800) (by omega) (by omega)).mp c_30
      refine lv_aload_n hx hb d_C_keep_39 rfl (lv_at hl 1 rfl) ?_
      refine va_get (D := (dC, dI)) (ci := 2) (v := .ref (h 7)) (C := R_C) (T := F_C) (N := 11) hx hb hk k_f_C hown hK hP 6 rfl rfl 0 (by decide) (hk _ k_C_45) (fun _ h9 => h9) rfl d_C_keep_40 ?_
      refine lv_aload_n hx hb d_C_keep_43 rfl (lv_at hl 1 rfl) ?_
      refine va_get (D := (dC, dI)) (ci := 2) (v := .int (nI rs.length)) (C := R_C) (T := F_C) (N := 11) hx hb hk k_f_C hown hK hP 6 rfl rfl 8 (by decide) (hk _ k_C_54) (fun _ h9 => h9) rfl d_C_keep_44 ?_
      refine lv_iload_n hx hb d_C_keep_47 rfl (lv_at hl 2 rfl) ?_
      refine va_iast hx hb hK hP hD hS 7 0 rfl rfl (pk_in rs.length 800 (by omega)) d_C_keep_48 (fun H locs hP hD hS => ?_)
      rw [nI_clamp (n := rs.length) (by omega)] at hP hD
      have hP : va_P (dC, dI) kls (wC h cI yf yc (nI rs.length) (nI tm) yg ym aP aF aT aK (upd eB rs.length b) eE eA eL eN eC eS eW eT) H := hP
      have hD : va_D A (wC h cI yf yc (nI rs.length) (nI tm) yg ym aP aF aT aK (upd eB rs.length b) eE eA eL eN eC eS eW eT) := hD
      refine lv_aload_n hx hb d_C_keep_49 rfl (lv_at hl 1 rfl) ?_
      refine va_get (D := (dC, dI)) (ci := 2) (v := .ref (h 8)) (C := R_C) (T := F_C) (N := 11) hx hb hk k_f_C hown hK hP 6 rfl rfl 1 (by decide) (hk _ k_C_46) (fun _ h9 => h9) rfl d_C_keep_50 ?_
      refine lv_aload_n hx hb d_C_keep_53 rfl (lv_at hl 1 rfl) ?_
      refine va_get (D := (dC, dI)) (ci := 2) (v := .int (nI rs.length)) (C := R_C) (T := F_C) (N := 11) hx hb hk k_f_C hown hK hP 6 rfl rfl 8 (by decide) (hk _ k_C_54) (fun _ h9 => h9) rfl d_C_keep_54 ?_
      refine lv_iload_n hx hb d_C_keep_57 rfl (lv_at hl 3 rfl) ?_
      refine va_iast hx hb hK hP hD hS 8 0 rfl rfl (pk_in rs.length 800 (by omega)) d_C_keep_58 (fun H locs hP hD hS => ?_)
      rw [nI_clamp (n := rs.length) (by omega)] at hP hD
      have hP : va_P (dC, dI) kls (wC h cI yf yc (nI rs.length) (nI tm) yg ym aP aF aT aK (upd eB rs.length b) (upd eE rs.length (nI g)) eA eL eN eC eS eW eT) H := hP
      have hD : va_D A (wC h cI yf yc (nI rs.length) (nI tm) yg ym aP aF aT aK (upd eB rs.length b) (upd eE rs.length (nI g)) eA eL eN eC eS eW eT) := hD
      refine lv_aload_n hx hb d_C_keep_59 rfl (lv_at hl 1 rfl) ?_
      refine va_get (D := (dC, dI)) (ci := 2) (v := .ref (h 9)) (C := R_C) (T := F_C) (N := 11) hx hb hk k_f_C hown hK hP 6 rfl rfl 2 (by decide) (hk _ k_C_47) (fun _ h9 => h9) rfl d_C_keep_60 ?_
      refine lv_aload_n hx hb d_C_keep_63 rfl (lv_at hl 1 rfl) ?_
      refine va_get (D := (dC, dI)) (ci := 2) (v := .int (nI rs.length)) (C := R_C) (T := F_C) (N := 11) hx hb hk k_f_C hown hK hP 6 rfl rfl 8 (by decide) (hk _ k_C_54) (fun _ h9 => h9) rfl d_C_keep_64 ?_
      refine lv_iload_n hx hb d_C_keep_67 rfl (lv_at hl 4 rfl) ?_
      refine va_iast hx hb hK hP hD hS 9 0 rfl rfl (pk_in rs.length 800 (by omega)) d_C_keep_68 (fun H locs hP hD hS => ?_)
      rw [nI_clamp (n := rs.length) (by omega)] at hP hD
      have hP : va_P (dC, dI) kls (wC h cI yf yc (nI rs.length) (nI tm) yg ym aP aF aT aK (upd eB rs.length b) (upd eE rs.length (nI g)) (upd eA rs.length (ahI a)) eL eN eC eS eW eT) H := hP
      have hD : va_D A (wC h cI yf yc (nI rs.length) (nI tm) yg ym aP aF aT aK (upd eB rs.length b) (upd eE rs.length (nI g)) (upd eA rs.length (ahI a)) eL eN eC eS eW eT) := hD
      refine lv_aload_n hx hb d_C_keep_69 rfl (lv_at hl 1 rfl) ?_
      refine va_get (D := (dC, dI)) (ci := 2) (v := .ref (h 10)) (C := R_C) (T := F_C) (N := 11) hx hb hk k_f_C hown hK hP 6 rfl rfl 3 (by decide) (hk _ k_C_48) (fun _ h9 => h9) rfl d_C_keep_70 ?_
      refine lv_aload_n hx hb d_C_keep_73 rfl (lv_at hl 1 rfl) ?_
      refine va_get (D := (dC, dI)) (ci := 2) (v := .int (nI rs.length)) (C := R_C) (T := F_C) (N := 11) hx hb hk k_f_C hown hK hP 6 rfl rfl 8 (by decide) (hk _ k_C_54) (fun _ h9 => h9) rfl d_C_keep_74 ?_
      refine lv_iload hx hb d_C_keep_77 (lv_at hl 5 rfl) ?_
      refine va_iast hx hb hK hP hD hS 10 0 rfl rfl (pk_in rs.length 800 (by omega)) d_C_keep_79 (fun H locs hP hD hS => ?_)
      rw [nI_clamp (n := rs.length) (by omega)] at hP hD
      have hP : va_P (dC, dI) kls (wC h cI yf yc (nI rs.length) (nI tm) yg ym aP aF aT aK (upd eB rs.length b) (upd eE rs.length (nI g)) (upd eA rs.length (ahI a)) (upd eL rs.length (nI y)) eN eC eS eW eT) H := hP
      have hD : va_D A (wC h cI yf yc (nI rs.length) (nI tm) yg ym aP aF aT aK (upd eB rs.length b) (upd eE rs.length (nI g)) (upd eA rs.length (ahI a)) (upd eL rs.length (nI y)) eN eC eS eW eT) := hD
      refine lv_aload_n hx hb d_C_keep_80 rfl (lv_at hl 1 rfl) ?_
      refine va_get (D := (dC, dI)) (ci := 2) (v := .ref (h 11)) (C := R_C) (T := F_C) (N := 11) hx hb hk k_f_C hown hK hP 6 rfl rfl 4 (by decide) (hk _ k_C_49) (fun _ h9 => h9) rfl d_C_keep_81 ?_
      refine lv_aload_n hx hb d_C_keep_84 rfl (lv_at hl 1 rfl) ?_
      refine va_get (D := (dC, dI)) (ci := 2) (v := .int (nI rs.length)) (C := R_C) (T := F_C) (N := 11) hx hb hk k_f_C hown hK hP 6 rfl rfl 8 (by decide) (hk _ k_C_54) (fun _ h9 => h9) rfl d_C_keep_85 ?_
      refine lv_aload_n hx hb d_C_keep_88 rfl (lv_at hl 1 rfl) ?_
      refine va_get (D := (dC, dI)) (ci := 2) (v := .ref (h 12)) (C := R_C) (T := F_C) (N := 11) hx hb hk k_f_C hown hK hP 6 rfl rfl 5 (by decide) (hk _ k_C_50) (fun _ h9 => h9) rfl d_C_keep_89 ?_
      refine lv_iload hx hb d_C_keep_92 (lv_at hl 0 rfl) ?_
      refine va_iald hx hb hK hP 12 0 rfl rfl (pk_in (hsh b (nI g)) 256 (by omega)) d_C_keep_94 ?_
      refine lv_topi (fun z3 ez3 => ?_)
      obtain rfl : z3 = eC (hsh b (nI g)) := ez3.trans (rd (f := eC) (k := hsh b (nI g)) (by omega))
      refine va_iast hx hb hK hP hD hS 11 0 rfl rfl (pk_in rs.length 800 (by omega)) d_C_keep_95 (fun H locs hP hD hS => ?_)
      rw [nI_clamp (n := rs.length) (by omega)] at hP hD
      have hP : va_P (dC, dI) kls (wC h cI yf yc (nI rs.length) (nI tm) yg ym aP aF aT aK (upd eB rs.length b) (upd eE rs.length (nI g)) (upd eA rs.length (ahI a)) (upd eL rs.length (nI y)) (upd eN rs.length (eC (hsh b (nI g)))) eC eS eW eT) H := hP
      have hD : va_D A (wC h cI yf yc (nI rs.length) (nI tm) yg ym aP aF aT aK (upd eB rs.length b) (upd eE rs.length (nI g)) (upd eA rs.length (ahI a)) (upd eL rs.length (nI y)) (upd eN rs.length (eC (hsh b (nI g)))) eC eS eW eT) := hD
      refine lv_aload_n hx hb d_C_keep_96 rfl (lv_at hl 1 rfl) ?_
      refine va_get (D := (dC, dI)) (ci := 2) (v := .ref (h 12)) (C := R_C) (T := F_C) (N := 11) hx hb hk k_f_C hown hK hP 6 rfl rfl 5 (by decide) (hk _ k_C_50) (fun _ h9 => h9) rfl d_C_keep_97 ?_
      refine lv_iload hx hb d_C_keep_100 (lv_at hl 0 rfl) ?_
      refine lv_aload_n hx hb d_C_keep_102 rfl (lv_at hl 1 rfl) ?_
      refine va_get (D := (dC, dI)) (ci := 2) (v := .int (nI rs.length)) (C := R_C) (T := F_C) (N := 11) hx hb hk k_f_C hown hK hP 6 rfl rfl 8 (by decide) (hk _ k_C_54) (fun _ h9 => h9) rfl d_C_keep_103 ?_
      refine va_iast hx hb hK hP hD hS 12 0 rfl rfl (pk_in (hsh b (nI g)) 256 (by omega)) d_C_keep_106 (fun H locs hP hD hS => ?_)
      rw [nI_clamp (n := hsh b (nI g)) (by omega)] at hP hD
      have hP : va_P (dC, dI) kls (wC h cI yf yc (nI rs.length) (nI tm) yg ym aP aF aT aK (upd eB rs.length b) (upd eE rs.length (nI g)) (upd eA rs.length (ahI a)) (upd eL rs.length (nI y)) (upd eN rs.length (eC (hsh b (nI g)))) (upd eC (hsh b (nI g)) (nI rs.length)) eS eW eT) H := hP
      have hD : va_D A (wC h cI yf yc (nI rs.length) (nI tm) yg ym aP aF aT aK (upd eB rs.length b) (upd eE rs.length (nI g)) (upd eA rs.length (ahI a)) (upd eL rs.length (nI y)) (upd eN rs.length (eC (hsh b (nI g)))) (upd eC (hsh b (nI g)) (nI rs.length)) eS eW eT) := hD
      refine lv_aload_n hx hb d_C_keep_107 rfl (lv_at hl 1 rfl) ?_
      refine lv_dup hx hb d_C_keep_108 rfl ?_
      refine va_get (D := (dC, dI)) (ci := 2) (v := .int (nI rs.length)) (C := R_C) (T := F_C) (N := 11) hx hb hk k_f_C hown hK hP 6 rfl rfl 8 (by decide) (hk _ k_C_54) (fun _ h9 => h9) rfl d_C_keep_109 ?_
      refine lv_iconst (v := nI 1) hx hb d_C_keep_112 (by decide +kernel) ?_
      refine lv_iadd hx hb d_C_keep_113 ?_
      refine lv_topi (fun z4 ez4 => ?_)
      obtain rfl : z4 = nI (rs.length + 1) := ez4.trans (nI_add _ _)
      refine va_put (D := (dC, dI)) (ci := 2) (v := .int (nI (rs.length + 1))) (ty := .int) (C := R_C) (T := F_C) (N := 11) hx hb hk k_f_C t_C t_C_ok n_C hown hK hP hD hS 6 rfl rfl 8 (by decide) (hk _ k_C_54) (fun _ h9 => h9) rfl (by decide +kernel) rfl rfl (Nat.le_of_ble_eq_true rfl) d_C_keep_114 (fun H locs hP hD hS => ?_)
      have hP : va_P (dC, dI) kls (wC h cI yf yc (nI (rs.length + 1)) (nI tm) yg ym aP aF aT aK (upd eB rs.length b) (upd eE rs.length (nI g)) (upd eA rs.length (ahI a)) (upd eL rs.length (nI y)) (upd eN rs.length (eC (hsh b (nI g)))) (upd eC (hsh b (nI g)) (nI rs.length)) eS eW eT) H := hP
      have hD : va_D A (wC h cI yf yc (nI (rs.length + 1)) (nI tm) yg ym aP aF aT aK (upd eB rs.length b) (upd eE rs.length (nI g)) (upd eA rs.length (ahI a)) (upd eL rs.length (nI y)) (upd eN rs.length (eC (hsh b (nI g)))) (upd eC (hsh b (nI g)) (nI rs.length)) eS eW eT) := hD
      have hq9 : keepP st0 rs tm (f, g, b, a, y) = (rs ++ [(f, g, b, a, y)], tm) := by rw [keepP_no (fun z => hkept ((isIn_iff hrw hsm rfl hg).mp z)), if_neg (by omega)]
      exact W.vret hx hb hr (fun t ht hW => ⟨⟨(nI (rs.length + 1), nI tm, upd eB rs.length b, upd eE rs.length (nI g), upd eA rs.length (ahI a), upd eL rs.length (nI y), upd eN rs.length (eC (hsh b (nI g))), upd eC (hsh b (nI g)) (nI rs.length)), rfl, by rw [hq9]; exact ⟨by rw [List.length_append]; rfl, rfl, hRw_put hrw (f, g, b, a, y), by rw [List.length_append]; exact hCh_put hst hch b (nI g)⟩, by rw [ht]; exact hP, va_K.moved hW.alike hK, hD⟩, hS.F ht⟩) hS.2.2 d_C_keep_117
    · have c_30 : ¬ rs.length < 800 := fun z9 => c_30 ((nI_ltI (a := rs.length) (b := 800) (by omega) (by omega)).mpr z9)
      refine lv_aload_n hx hb d_C_keep_33 rfl (lv_at hl 1 rfl) ?_
      refine lv_iconst (v := nI 1) hx hb d_C_keep_34 (by decide +kernel) ?_
      refine va_put (D := (dC, dI)) (ci := 2) (v := .int (nI 1)) (ty := .boolean) (C := R_C) (T := F_C) (N := 11) hx hb hk k_f_C t_C t_C_ok n_C hown hK hP hD hS 6 rfl rfl 9 (by decide) (hk _ k_C_55) (fun _ h9 => h9) rfl (by decide +kernel) rfl rfl (Nat.le_of_ble_eq_true rfl) d_C_keep_35 (fun H locs hP hD hS => ?_)
      have hP : va_P (dC, dI) kls (wC h cI yf yc (nI rs.length) (nI 1) yg ym aP aF aT aK eB eE eA eL eN eC eS eW eT) H := hP
      have hD : va_D A (wC h cI yf yc (nI rs.length) (nI 1) yg ym aP aF aT aK eB eE eA eL eN eC eS eW eT) := hD
      have hq9 : keepP st0 rs tm (f, g, b, a, y) = (rs, 1) := by rw [keepP_no (fun z => hkept ((isIn_iff hrw hsm rfl hg).mp z)), if_pos (by omega)]
      exact W.vret hx hb hr (fun t ht hW => ⟨⟨(nI rs.length, nI 1, eB, eE, eA, eL, eN, eC), rfl, by rw [hq9]; exact ⟨rfl, rfl, hrw, hch⟩, by rw [ht]; exact hP, va_K.moved hW.alike hK, hD⟩, hS.F ht⟩) hS.2.2 d_C_keep_38
