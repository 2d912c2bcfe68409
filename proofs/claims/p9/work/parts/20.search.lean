/-! PURE: rows of calls and the search for their graphs. An entry: first, last, bits, the entry ahead, by which call. -/
abbrev En : Type := Nat × Nat × Int32 × Option Nat × Nat
abbrev Ky : Type := Nat × Nat × Int32
def kyE (e : En) : Ky := (e.1, e.2.1, e.2.2.1)
def addE (es : List En) (e : En) : List En := if kyE e ∈ es.map kyE then es else es ++ [e]
theorem pg_le {α : Type} [DecidableEq α] (l1 l2 : List α) (hn : l1.Nodup) (hs : ∀ x ∈ l1, x ∈ l2) : l1.length ≤ l2.length := List.Nodup.length_le_of_subset hn hs
theorem pg_eq {α : Type} [DecidableEq α] {l1 l2 : List α} (h1 : l1.Nodup) (h2 : l2.Nodup) (h : ∀ x, x ∈ l1 ↔ x ∈ l2) : l1.length = l2.length :=
  Nat.le_antisymm (pg_le l1 l2 h1 (fun x hx => (h x).mp hx)) (pg_le l2 l1 h2 (fun x hx => (h x).mpr hx))
theorem pg_cnt {α : Type} [DecidableEq α] {l1 l2 : List α} (h1 : l1.Nodup) (h2 : l2.Nodup) (h : ∀ x, x ∈ l1 ↔ x ∈ l2) (p : α → Bool) : l1.countP p = l2.countP p := by
  rw [List.countP_eq_length_filter, List.countP_eq_length_filter]
  exact pg_eq (List.Nodup.sublist List.filter_sublist h1) (List.Nodup.sublist List.filter_sublist h2) (fun x => by simp only [List.mem_filter, h x])
theorem addE_ext (es : List En) (e : En) : ∃ t, addE es e = es ++ t := by
  unfold addE
  split
  · exact ⟨[], (List.append_nil _).symm⟩
  · exact ⟨[e], rfl⟩
theorem addE_mem {es : List En} {e x : En} (h : x ∈ addE es e) : x ∈ es ∨ x = e := by
  unfold addE at h
  split at h
  · exact Or.inl h
  · rcases List.mem_append.mp h with h | h
    · exact Or.inl h
    · exact Or.inr (List.mem_singleton.mp h)
theorem addE_in (es : List En) (e : En) : kyE e ∈ (addE es e).map kyE := by
  unfold addE
  split
  · assumption
  · rw [List.map_append]; exact List.mem_append_right _ List.mem_cons_self
theorem addE_nd {es : List En} {e : En} (h : (es.map kyE).Nodup) : ((addE es e).map kyE).Nodup := by
  unfold addE
  split
  · exact h
  · rename_i hne
    rw [List.map_append, List.nodup_append]
    refine ⟨h, List.nodup_cons.mpr ⟨List.not_mem_nil, List.nodup_nil⟩, ?_⟩
    intro a ha b hb hab
    rw [List.map_cons, List.map_nil, List.mem_singleton] at hb
    exact hne (hb ▸ hab ▸ ha)
theorem ext_trans {α : Type} {a b c : List α} (h1 : ∃ t, b = a ++ t) (h2 : ∃ t, c = b ++ t) : ∃ t, c = a ++ t := by
  obtain ⟨t, rfl⟩ := h1
  obtain ⟨u, rfl⟩ := h2
  exact ⟨t ++ u, List.append_assoc ..⟩
theorem ext_at {α : Type} {a b : List α} (h : ∃ t, b = a ++ t) {k : Nat} {x : α} (hk : a[k]? = some x) : b[k]? = some x := by
  obtain ⟨t, rfl⟩ := h
  rw [List.getElem?_append_left (by have := (List.getElem?_eq_some_iff.mp hk).1; exact this)]
  exact hk
theorem ext_mem {α : Type} {a b : List α} (h : ∃ t, b = a ++ t) {x : α} (hx : x ∈ a) : x ∈ b := by
  obtain ⟨t, rfl⟩ := h
  exact List.mem_append_left _ hx
theorem ext_len {α : Type} {a b : List α} (h : ∃ t, b = a ++ t) : a.length ≤ b.length := by
  obtain ⟨t, rfl⟩ := h
  rw [List.length_append]; omega
theorem ext_map {α β : Type} {a b : List α} (f : α → β) (h : ∃ t, b = a ++ t) : ∃ t, b.map f = a.map f ++ t := by
  obtain ⟨t, rfl⟩ := h
  exact ⟨t.map f, List.map_append ..⟩
section PB
variable (nC : Nat) (cf ct : Nat → Nat) (ck : Nat → Int32) (J : Int32 → Int32 → Int32) (ok : Nat → Bool)
/-- the search's start: the first calls, in their order -/
def bs0 : Nat → List En
  | 0 => []
  | c + 1 => if ok (cf c) = true then addE (bs0 c) (cf c, ct c, ck c, none, c) else bs0 c
/-- entry k, e, goes on by each of the first calls -/
def bsI (k : Nat) (e : En) (es : List En) : Nat → List En
  | 0 => es
  | c + 1 => if cf c = e.2.1 then addE (bsI k e es c) (e.1, ct c, J e.2.2.1 (ck c), some k, c) else bsI k e es c
/-- k entries have gone on -/
def bsG : Nat → List En
  | 0 => bs0 cf ct ck ok nC
  | k + 1 => match (bsG k)[k]? with
    | none => bsG k
    | some e => bsI cf ct ck J k e (bsG k) nC
/-- rows of n + 1 calls -/
def rwN : Nat → Nat → Nat → Int32 → Prop
  | 0, f, g, b => ∃ c, c < nC ∧ cf c = f ∧ ct c = g ∧ ck c = b
  | n + 1, f, g, b => ∃ g' b' c, rwN n f g' b' ∧ c < nC ∧ cf c = g' ∧ ct c = g ∧ J b' (ck c) = b
def Rch (f g : Nat) (b : Int32) : Prop := ∃ n, rwN nC cf ct ck J n f g b
theorem bs0_ext (c : Nat) : ∃ t, bs0 cf ct ck ok (c + 1) = bs0 cf ct ck ok c ++ t := by
  rw [bs0]
  split
  · exact addE_ext _ _
  · exact ⟨[], (List.append_nil _).symm⟩
theorem bsI_ext1 (k : Nat) (e : En) (es : List En) (c : Nat) : ∃ t, bsI cf ct ck J k e es (c + 1) = bsI cf ct ck J k e es c ++ t := by
  rw [bsI]
  split
  · exact addE_ext _ _
  · exact ⟨[], (List.append_nil _).symm⟩
theorem bsI_ext (k : Nat) (e : En) (es : List En) : ∀ c, ∃ t, bsI cf ct ck J k e es c = es ++ t
  | 0 => ⟨[], (List.append_nil _).symm⟩
  | c + 1 => ext_trans (bsI_ext k e es c) (bsI_ext1 cf ct ck J k e es c)
theorem bsI_extL (k : Nat) (e : En) (es : List En) {c : Nat} : ∀ {d}, c ≤ d → ∃ t, bsI cf ct ck J k e es d = bsI cf ct ck J k e es c ++ t := by
  intro d h
  induction d with
  | zero => obtain rfl : c = 0 := by omega
            exact ⟨[], (List.append_nil _).symm⟩
  | succ d ih =>
    rcases Nat.lt_or_ge d c with h1 | h1
    · obtain rfl : c = d + 1 := by omega
      exact ⟨[], (List.append_nil _).symm⟩
    · exact ext_trans (ih h1) (bsI_ext1 cf ct ck J k e es d)
theorem bsG_ext1 (k : Nat) : ∃ t, bsG nC cf ct ck J ok (k + 1) = bsG nC cf ct ck J ok k ++ t := by
  rw [bsG]
  split
  · exact ⟨[], (List.append_nil _).symm⟩
  · exact bsI_ext cf ct ck J _ _ _ _
theorem bsG_ext {k : Nat} : ∀ {d}, k ≤ d → ∃ t, bsG nC cf ct ck J ok d = bsG nC cf ct ck J ok k ++ t := by
  intro d h
  induction d with
  | zero => obtain rfl : k = 0 := by omega
            exact ⟨[], (List.append_nil _).symm⟩
  | succ d ih =>
    rcases Nat.lt_or_ge d k with h1 | h1
    · obtain rfl : k = d + 1 := by omega
      exact ⟨[], (List.append_nil _).symm⟩
    · exact ext_trans (ih h1) (bsG_ext1 nC cf ct ck J ok d)
theorem bs0_nd : ∀ c, ((bs0 cf ct ck ok c).map kyE).Nodup
  | 0 => List.nodup_nil
  | c + 1 => by
    rw [bs0]
    split
    · exact addE_nd (bs0_nd c)
    · exact bs0_nd c
theorem bsI_nd (k : Nat) (e : En) {es : List En} (h : (es.map kyE).Nodup) : ∀ c, ((bsI cf ct ck J k e es c).map kyE).Nodup
  | 0 => h
  | c + 1 => by
    rw [bsI]
    split
    · exact addE_nd (bsI_nd k e h c)
    · exact bsI_nd k e h c
theorem bsG_nd : ∀ k, ((bsG nC cf ct ck J ok k).map kyE).Nodup
  | 0 => bs0_nd cf ct ck ok nC
  | k + 1 => by
    rw [bsG]
    split
    · exact bsG_nd k
    · exact bsI_nd cf ct ck J _ _ (bsG_nd k) _
/-- what is found is a row's, from where it may begin -/
def bsOk (e : En) : Prop := ok e.1 = true ∧ Rch nC cf ct ck J e.1 e.2.1 e.2.2.1
theorem bs0_ok : ∀ c, c ≤ nC → ∀ e ∈ bs0 cf ct ck ok c, bsOk nC cf ct ck J ok e
  | 0, _ => fun e h => by cases h
  | c + 1, hc => by
    intro e h
    rw [bs0] at h
    split at h
    · rename_i hok
      rcases addE_mem h with h | rfl
      · exact bs0_ok c (by omega) e h
      · exact ⟨hok, 0, c, hc, rfl, rfl, rfl⟩
    · exact bs0_ok c (by omega) e h
theorem bsI_ok (k : Nat) {e : En} {es : List En} (he : bsOk nC cf ct ck J ok e) (hes : ∀ x ∈ es, bsOk nC cf ct ck J ok x) : ∀ c, c ≤ nC → ∀ x ∈ bsI cf ct ck J k e es c, bsOk nC cf ct ck J ok x
  | 0, _ => hes
  | c + 1, hc => by
    intro x h
    rw [bsI] at h
    split at h
    · rename_i hcf
      rcases addE_mem h with h | rfl
      · exact bsI_ok k he hes c (by omega) x h
      · obtain ⟨h1, n, h2⟩ := he
        exact ⟨h1, n + 1, e.2.1, e.2.2.1, c, h2, hc, hcf, rfl, rfl⟩
    · exact bsI_ok k he hes c (by omega) x h
theorem bsG_ok : ∀ k, ∀ e ∈ bsG nC cf ct ck J ok k, bsOk nC cf ct ck J ok e
  | 0 => bs0_ok nC cf ct ck J ok nC (Nat.le_refl _)
  | k + 1 => by
    rw [bsG]
    split
    · exact bsG_ok k
    · rename_i e he
      exact bsI_ok nC cf ct ck J ok k (bsG_ok k e (List.mem_of_getElem? he)) (bsG_ok k) nC (Nat.le_refl _)
theorem bsI_in (k : Nat) (e : En) (es : List En) {c : Nat} (hcf : cf c = e.2.1) : (e.1, ct c, J e.2.2.1 (ck c)) ∈ (bsI cf ct ck J k e es (c + 1)).map kyE := by
  rw [bsI, if_pos hcf]
  exact addE_in (bsI cf ct ck J k e es c) (e.1, ct c, J e.2.2.1 (ck c), some k, c)
theorem bs0_in {c : Nat} (hok : ok (cf c) = true) : ∀ {d}, c < d → (cf c, ct c, ck c) ∈ (bs0 cf ct ck ok d).map kyE := by
  intro d h
  induction d with
  | zero => omega
  | succ d ih =>
    rcases Nat.lt_or_ge c d with h1 | h1
    · exact ext_mem (ext_map kyE (bs0_ext cf ct ck ok d)) (ih h1)
    · obtain rfl : c = d := by omega
      rw [bs0, if_pos hok]
      exact addE_in (bs0 cf ct ck ok c) (cf c, ct c, ck c, none, c)
/-- entries that have gone on: what comes of them is there -/
theorem bsG_done : ∀ k j, j < k → ∀ e, (bsG nC cf ct ck J ok k)[j]? = some e → ∀ c, c < nC → cf c = e.2.1 → (e.1, ct c, J e.2.2.1 (ck c)) ∈ (bsG nC cf ct ck J ok k).map kyE
  | 0, j, h => absurd h (Nat.not_lt_zero _)
  | k + 1, j, h => by
    intro e he c hc hcf
    by_cases hjl : j < (bsG nC cf ct ck J ok k).length
    · obtain ⟨e0, he0⟩ : ∃ e0, (bsG nC cf ct ck J ok k)[j]? = some e0 := ⟨_, List.getElem?_eq_getElem hjl⟩
      have := ext_at (bsG_ext1 nC cf ct ck J ok k) he0
      rw [this] at he
      cases he
      rcases Nat.lt_or_ge j k with h1 | h1
      · exact ext_mem (ext_map kyE (bsG_ext1 nC cf ct ck J ok k)) (bsG_done k j h1 e he0 c hc hcf)
      · obtain rfl : j = k := by omega
        have h2 : bsG nC cf ct ck J ok (j + 1) = bsI cf ct ck J j e (bsG nC cf ct ck J ok j) nC := by rw [bsG, he0]
        rw [h2]
        exact ext_mem (ext_map kyE (bsI_extL cf ct ck J j e (bsG nC cf ct ck J ok j) (show c + 1 ≤ nC from hc))) (bsI_in cf ct ck J j e (bsG nC cf ct ck J ok j) hcf)
    · have h3 : (bsG nC cf ct ck J ok k)[k]? = none := List.getElem?_eq_none (by omega)
      have h2 : bsG nC cf ct ck J ok (k + 1) = bsG nC cf ct ck J ok k := by rw [bsG, h3]
      rw [h2, List.getElem?_eq_none (by omega)] at he
      cases he
/-- all have gone on: every row's graph is there -/
theorem bsG_all {k : Nat} (hk : (bsG nC cf ct ck J ok k).length ≤ k) {f : Nat} (hf : ok f = true) : ∀ n g b, rwN nC cf ct ck J n f g b → (f, g, b) ∈ (bsG nC cf ct ck J ok k).map kyE
  | 0, g, b, h => by
    obtain ⟨c, hc, rfl, rfl, rfl⟩ := h
    exact ext_mem (ext_map kyE (bsG_ext nC cf ct ck J ok (Nat.zero_le k))) (bs0_in cf ct ck ok hf hc)
  | n + 1, g, b, h => by
    obtain ⟨g', b', c, h1, hc, hcf, rfl, rfl⟩ := h
    obtain ⟨e, he, hke⟩ := List.mem_map.mp (bsG_all hk hf n g' b' h1)
    obtain ⟨j, hj⟩ := List.getElem?_of_mem he
    have hjl := (List.getElem?_eq_some_iff.mp hj).1
    have h4 : e.1 = f ∧ e.2.1 = g' ∧ e.2.2.1 = b' := by
      have := hke; simp only [kyE, Prod.mk.injEq] at this; exact this
    have := bsG_done nC cf ct ck J ok k j (by omega) e hj c hc (by rw [h4.2.1]; exact hcf)
    rw [h4.1, h4.2.2] at this
    exact this
/-- and nothing comes any more -/
theorem bsG_stay {k : Nat} (hk : (bsG nC cf ct ck J ok k).length ≤ k) : ∀ {d}, k ≤ d → bsG nC cf ct ck J ok d = bsG nC cf ct ck J ok k := by
  intro d h
  induction d with
  | zero => obtain rfl : k = 0 := by omega
            rfl
  | succ d ih =>
    rcases Nat.lt_or_ge d k with h1 | h1
    · obtain rfl : k = d + 1 := by omega
      rfl
    · have h2 := ih h1
      rw [bsG, h2, List.getElem?_eq_none (by omega)]
/-- the entry ahead stands ahead -/
theorem bsG_ahead : ∀ k, ∀ (j i : Nat) (e : En), (bsG nC cf ct ck J ok k)[j]? = some e → e.2.2.2.1 = some i → i < j := by
  have hA : ∀ (es : List En) (x : En), (∀ (j i : Nat) (e : En), es[j]? = some e → e.2.2.2.1 = some i → i < j) → (∀ i, x.2.2.2.1 = some i → i < es.length) → ∀ (j i : Nat) (e : En), (addE es x)[j]? = some e → e.2.2.2.1 = some i → i < j := by
    intro es x h1 h2 j i e hj hi
    unfold addE at hj
    split at hj
    · exact h1 j i e hj hi
    · rcases Nat.lt_or_ge j es.length with hl | hl
      · rw [List.getElem?_append_left hl] at hj
        exact h1 j i e hj hi
      · rw [List.getElem?_append_right hl] at hj
        have hjl := (List.getElem?_eq_some_iff.mp hj).1
        simp only [List.length_cons, List.length_nil] at hjl
        have h0 : j - es.length = 0 := by omega
        rw [h0] at hj
        cases hj
        have := h2 i hi
        omega
  have hI : ∀ (k : Nat) (e : En) (es : List En), k < es.length → (∀ (j i : Nat) (e : En), es[j]? = some e → e.2.2.2.1 = some i → i < j) → ∀ c, ∀ (j i : Nat) (x : En), (bsI cf ct ck J k e es c)[j]? = some x → x.2.2.2.1 = some i → i < j := by
    intro k e es hk hes c
    induction c with
    | zero => exact hes
    | succ c ih =>
      rw [bsI]
      split
      · refine hA _ _ ih ?_
        intro i hi
        cases hi
        exact Nat.lt_of_lt_of_le hk (ext_len (bsI_ext cf ct ck J k e es c))
      · exact ih
  have h0 : ∀ c, ∀ (j i : Nat) (e : En), (bs0 cf ct ck ok c)[j]? = some e → e.2.2.2.1 = some i → i < j := by
    intro c
    induction c with
    | zero => intro j i e hj; simp [bs0] at hj
    | succ c ih =>
      rw [bs0]
      split
      · exact hA _ _ ih (fun i hi => by cases hi)
      · exact ih
  intro k
  induction k with
  | zero => exact h0 nC
  | succ k ih =>
    rw [bsG]
    split
    · exact ih
    · rename_i e he
      exact hI k e _ (List.getElem?_eq_some_iff.mp he).1 ih nC
end PB
