section
/-! PURE: rows of calls and the search for their graphs. An entry: first, last, bits, the entry ahead, by which call. -/
abbrev En : Type := Nat × Nat × Int32 × Option Nat × Nat
abbrev Ky : Type := Nat × Nat × Int32
def kyE (e : En) : Ky := (e.1, e.2.1, e.2.2.1)
def addE (es : List En) (e : En) : List En := if kyE e ∈ es.map kyE then es else es ++ [e]
theorem pg_le {α : Type} [DecidableEq α] (l1 l2 : List α) (hn : l1.Nodup) (hs : ∀ x ∈ l1, x ∈ l2) : l1.length ≤ l2.length := List.Nodup.length_le_of_subset hn hs
theorem pg_eq {α : Type} [DecidableEq α] {l1 l2 : List α} (h1 : l1.Nodup) (h2 : l2.Nodup) (h : ∀ x, x ∈ l1 ↔ x ∈ l2) : l1.length = l2.length :=
  Nat.le_antisymm (pg_le l1 l2 h1 (fun x hx => (h x).mp hx)) (pg_le l2 l1 h2 (fun x hx => (h x).mpr hx))
theorem pg_cnt {α : Type} [DecidableEq α] {l1 l2 : List α} (h1 : l1.Nodup) (h2 : l2.Nodup) (h : ∀ x, x ∈ l1 ↔ x ∈ l2) (p : α → Bool) : l1.countP p = l2.countP p := by
  rw [List.countP_eq_length_filter, List.countP_eq_length_filter]
  exact pg_eq (List.Nodup.sublist List.filter_sublist h1) (List.Nodup.sublist List.filter_sublist h2) (fun x => by simp only [List.mem_filter, h x])
theorem addE_ext (es : List En) (e : En) : ∃ t, addE es e = es ++ t := by
  unfold addE
  split
  · exact ⟨[], (List.append_nil _).symm⟩
  · exact ⟨[e], rfl⟩
theorem addE_mem {es : List En} {e x : En} (h : x ∈ addE es e) : x ∈ es ∨ x = e := by
  unfold addE at h
  split at h
  · exact Or.inl h
  · rcases List.mem_append.mp h with h | h
    · exact Or.inl h
    · exact Or.inr (List.mem_singleton.mp h)
theorem addE_in (es : List En) (e : En) : kyE e ∈ (addE es e).map kyE := by
  unfold addE
  split
  · assumption
  · rw [List.map_append]; exact List.mem_append_right _ List.mem_cons_self
theorem addE_nd {es : List En} {e : En} (h : (es.map kyE).Nodup) : ((addE es e).map kyE).Nodup := by
  unfold addE
  split
  · exact h
  · rename_i hne
    rw [List.map_append, List.nodup_append]
    refine ⟨h, List.nodup_cons.mpr ⟨List.not_mem_nil, List.nodup_nil⟩, ?_⟩
    intro a ha b hb hab
    rw [List.map_cons, List.map_nil, List.mem_singleton] at hb
    exact hne (hb ▸ hab ▸ ha)
theorem ext_trans {α : Type} {a b c : List α} (h1 : ∃ t, b = a ++ t) (h2 : ∃ t, c = b ++ t) : ∃ t, c = a ++ t := by
  obtain ⟨t, rfl⟩ := h1
  obtain ⟨u, rfl⟩ := h2
  exact ⟨t ++ u, List.append_assoc ..⟩
theorem ext_at {α : Type} {a b : List α} (h : ∃ t, b = a ++ t) {k : Nat} {x : α} (hk : a[k]? = some x) : b[k]? = some x := by
  obtain ⟨t, rfl⟩ := h
  rw [List.getElem?_append_left (by have := (List.getElem?_eq_some_iff.mp hk).1; exact this)]
  exact hk
theorem ext_mem {α : Type} {a b : List α} (h : ∃ t, b = a ++ t) {x : α} (hx : x ∈ a) : x ∈ b := by
  obtain ⟨t, rfl⟩ := h
  exact List.mem_append_left _ hx
theorem ext_len {α : Type} {a b : List α} (h : ∃ t, b = a ++ t) : a.length ≤ b.length := by
  obtain ⟨t, rfl⟩ := h
  rw [List.length_append]; omega
theorem ext_map {α β : Type} {a b : List α} (f : α → β) (h : ∃ t, b = a ++ t) : ∃ t, b.map f = a.map f ++ t := by
  obtain ⟨t, rfl⟩ := h
  exact ⟨t.map f, List.map_append ..⟩
section PB
variable (nC : Nat) (cf ct : Nat → Nat) (ck : Nat → Int32) (J : Int32 → Int32 → Int32) (ok : Nat → Bool)
/-- the search's start: the first calls, in their order -/
def bs0 : Nat → List En
  | 0 => []
  | c + 1 => if ok (cf c) = true then addE (bs0 c) (cf c, ct c, ck c, none, c) else bs0 c
/-- entry k, e, goes on by each of the first calls -/
def bsI (k : Nat) (e : En) (es : List En) : Nat → List En
  | 0 => es
  | c + 1 => if cf c = e.2.1 then addE (bsI k e es c) (e.1, ct c, J e.2.2.1 (ck c), some k, c) else bsI k e es c
/-- k entries have gone on -/
def bsG : Nat → List En
  | 0 => bs0 cf ct ck ok nC
  | k + 1 => match (bsG k)[k]? with
    | none => bsG k
    | some e => bsI cf ct ck J k e (bsG k) nC
/-- rows of n + 1 calls -/
def rwN : Nat → Nat → Nat → Int32 → Prop
  | 0, f, g, b => ∃ c, c < nC ∧ cf c = f ∧ ct c = g ∧ ck c = b
  | n + 1, f, g, b => ∃ g' b' c, rwN n f g' b' ∧ c < nC ∧ cf c = g' ∧ ct c = g ∧ J b' (ck c) = b
def Rch (f g : Nat) (b : Int32) : Prop := ∃ n, rwN nC cf ct ck J n f g b
theorem bs0_ext (c : Nat) : ∃ t, bs0 cf ct ck ok (c + 1) = bs0 cf ct ck ok c ++ t := by
  rw [bs0]
  split
  · exact addE_ext _ _
  · exact ⟨[], (List.append_nil _).symm⟩
theorem bsI_ext1 (k : Nat) (e : En) (es : List En) (c : Nat) : ∃ t, bsI cf ct ck J k e es (c + 1) = bsI cf ct ck J k e es c ++ t := by
  rw [bsI]
  split
  · exact addE_ext _ _
  · exact ⟨[], (List.append_nil _).symm⟩
theorem bsI_ext (k : Nat) (e : En) (es : List En) : ∀ c, ∃ t, bsI cf ct ck J k e es c = es ++ t
  | 0 => ⟨[], (List.append_nil _).symm⟩
  | c + 1 => ext_trans (bsI_ext k e es c) (bsI_ext1 cf ct ck J k e es c)
theorem bsI_extL (k : Nat) (e : En) (es : List En) {c : Nat} : ∀ {d}, c ≤ d → ∃ t, bsI cf ct ck J k e es d = bsI cf ct ck J k e es c ++ t := by
  intro d h
  induction d with
  | zero => obtain rfl : c = 0 := by omega
            exact ⟨[], (List.append_nil _).symm⟩
  | succ d ih =>
    rcases Nat.lt_or_ge d c with h1 | h1
    · obtain rfl : c = d + 1 := by omega
      exact ⟨[], (List.append_nil _).symm⟩
    · exact ext_trans (ih h1) (bsI_ext1 cf ct ck J k e es d)
theorem bsG_ext1 (k : Nat) : ∃ t, bsG nC cf ct ck J ok (k + 1) = bsG nC cf ct ck J ok k ++ t := by
  rw [bsG]
  split
  · exact ⟨[], (List.append_nil _).symm⟩
  · exact bsI_ext cf ct ck J _ _ _ _
theorem bsG_ext {k : Nat} : ∀ {d}, k ≤ d → ∃ t, bsG nC cf ct ck J ok d = bsG nC cf ct ck J ok k ++ t := by
  intro d h
  induction d with
  | zero => obtain rfl : k = 0 := by omega
            exact ⟨[], (List.append_nil _).symm⟩
  | succ d ih =>
    rcases Nat.lt_or_ge d k with h1 | h1
    · obtain rfl : k = d + 1 := by omega
      exact ⟨[], (List.append_nil _).symm⟩
    · exact ext_trans (ih h1) (bsG_ext1 nC cf ct ck J ok d)
theorem bs0_nd : ∀ c, ((bs0 cf ct ck ok c).map kyE).Nodup
  | 0 => List.nodup_nil
  | c + 1 => by
    rw [bs0]
    split
    · exact addE_nd (bs0_nd c)
    · exact bs0_nd c
theorem bsI_nd (k : Nat) (e : En) {es : List En} (h : (es.map kyE).Nodup) : ∀ c, ((bsI cf ct ck J k e es c).map kyE).Nodup
  | 0 => h
  | c + 1 => by
    rw [bsI]
    split
    · exact addE_nd (bsI_nd k e h c)
    · exact bsI_nd k e h c
theorem bsG_nd : ∀ k, ((bsG nC cf ct ck J ok k).map kyE).Nodup
  | 0 => bs0_nd cf ct ck ok nC
  | k + 1 => by
    rw [bsG]
    split
    · exact bsG_nd k
    · exact bsI_nd cf ct ck J _ _ (bsG_nd k) _
/-- what is found is a row's, from where it may begin -/
def bsOk (e : En) : Prop := ok e.1 = true ∧ Rch nC cf ct ck J e.1 e.2.1 e.2.2.1
theorem bs0_ok : ∀ c, c ≤ nC → ∀ e ∈ bs0 cf ct ck ok c, bsOk nC cf ct ck J ok e
  | 0, _ => fun e h => by cases h
  | c + 1, hc => by
    intro e h
    rw [bs0] at h
    split at h
    · rename_i hok
      rcases addE_mem h with h | rfl
      · exact bs0_ok c (by omega) e h
      · exact ⟨hok, 0, c, hc, rfl, rfl, rfl⟩
    · exact bs0_ok c (by omega) e h
theorem bsI_ok (k : Nat) {e : En} {es : List En} (he : bsOk nC cf ct ck J ok e) (hes : ∀ x ∈ es, bsOk nC cf ct ck J ok x) : ∀ c, c ≤ nC → ∀ x ∈ bsI cf ct ck J k e es c, bsOk nC cf ct ck J ok x
  | 0, _ => hes
  | c + 1, hc => by
    intro x h
    rw [bsI] at h
    split at h
    · rename_i hcf
      rcases addE_mem h with h | rfl
      · exact bsI_ok k he hes c (by omega) x h
      · obtain ⟨h1, n, h2⟩ := he
        exact ⟨h1, n + 1, e.2.1, e.2.2.1, c, h2, hc, hcf, rfl, rfl⟩
    · exact bsI_ok k he hes c (by omega) x h
theorem bsG_ok : ∀ k, ∀ e ∈ bsG nC cf ct ck J ok k, bsOk nC cf ct ck J ok e
  | 0 => bs0_ok nC cf ct ck J ok nC (Nat.le_refl _)
  | k + 1 => by
    rw [bsG]
    split
    · exact bsG_ok k
    · rename_i e he
      exact bsI_ok nC cf ct ck J ok k (bsG_ok k e (List.mem_of_getElem? he)) (bsG_ok k) nC (Nat.le_refl _)
theorem bsI_in (k : Nat) (e : En) (es : List En) {c : Nat} (hcf : cf c = e.2.1) : (e.1, ct c, J e.2.2.1 (ck c)) ∈ (bsI cf ct ck J k e es (c + 1)).map kyE := by
  rw [bsI, if_pos hcf]
  exact addE_in (bsI cf ct ck J k e es c) (e.1, ct c, J e.2.2.1 (ck c), some k, c)
theorem bs0_in {c : Nat} (hok : ok (cf c) = true) : ∀ {d}, c < d → (cf c, ct c, ck c) ∈ (bs0 cf ct ck ok d).map kyE := by
  intro d h
  induction d with
  | zero => omega
  | succ d ih =>
    rcases Nat.lt_or_ge c d with h1 | h1
    · exact ext_mem (ext_map kyE (bs0_ext cf ct ck ok d)) (ih h1)
    · obtain rfl : c = d := by omega
      rw [bs0, if_pos hok]
      exact addE_in (bs0 cf ct ck ok c) (cf c, ct c, ck c, none, c)
/-- entries that have gone on: what comes of them is there -/
theorem bsG_done : ∀ k j, j < k → ∀ e, (bsG nC cf ct ck J ok k)[j]? = some e → ∀ c, c < nC → cf c = e.2.1 → (e.1, ct c, J e.2.2.1 (ck c)) ∈ (bsG nC cf ct ck J ok k).map kyE
  | 0, j, h => absurd h (Nat.not_lt_zero _)
  | k + 1, j, h => by
    intro e he c hc hcf
    by_cases hjl : j < (bsG nC cf ct ck J ok k).length
    · obtain ⟨e0, he0⟩ : ∃ e0, (bsG nC cf ct ck J ok k)[j]? = some e0 := ⟨_, List.getElem?_eq_getElem hjl⟩
      have := ext_at (bsG_ext1 nC cf ct ck J ok k) he0
      rw [this] at he
      cases he
      rcases Nat.lt_or_ge j k with h1 | h1
      · exact ext_mem (ext_map kyE (bsG_ext1 nC cf ct ck J ok k)) (bsG_done k j h1 e he0 c hc hcf)
      · obtain rfl : j = k := by omega
        have h2 : bsG nC cf ct ck J ok (j + 1) = bsI cf ct ck J j e (bsG nC cf ct ck J ok j) nC := by rw [bsG, he0]
        rw [h2]
        exact ext_mem (ext_map kyE (bsI_extL cf ct ck J j e (bsG nC cf ct ck J ok j) (show c + 1 ≤ nC from hc))) (bsI_in cf ct ck J j e (bsG nC cf ct ck J ok j) hcf)
    · have h3 : (bsG nC cf ct ck J ok k)[k]? = none := List.getElem?_eq_none (by omega)
      have h2 : bsG nC cf ct ck J ok (k + 1) = bsG nC cf ct ck J ok k := by rw [bsG, h3]
      rw [h2, List.getElem?_eq_none (by omega)] at he
      cases he
/-- all have gone on: every row's graph is there -/
theorem bsG_all {k : Nat} (hk : (bsG nC cf ct ck J ok k).length ≤ k) {f : Nat} (hf : ok f = true) : ∀ n g b, rwN nC cf ct ck J n f g b → (f, g, b) ∈ (bsG nC cf ct ck J ok k).map kyE
  | 0, g, b, h => by
    obtain ⟨c, hc, rfl, rfl, rfl⟩ := h
    exact ext_mem (ext_map kyE (bsG_ext nC cf ct ck J ok (Nat.zero_le k))) (bs0_in cf ct ck ok hf hc)
  | n + 1, g, b, h => by
    obtain ⟨g', b', c, h1, hc, hcf, rfl, rfl⟩ := h
    obtain ⟨e, he, hke⟩ := List.mem_map.mp (bsG_all hk hf n g' b' h1)
    obtain ⟨j, hj⟩ := List.getElem?_of_mem he
    have hjl := (List.getElem?_eq_some_iff.mp hj).1
    have h4 : e.1 = f ∧ e.2.1 = g' ∧ e.2.2.1 = b' := by
      have := hke; simp only [kyE, Prod.mk.injEq] at this; exact this
    have := bsG_done nC cf ct ck J ok k j (by omega) e hj c hc (by rw [h4.2.1]; exact hcf)
    rw [h4.1, h4.2.2] at this
    exact this
/-- and nothing comes any more -/
theorem bsG_stay {k : Nat} (hk : (bsG nC cf ct ck J ok k).length ≤ k) : ∀ {d}, k ≤ d → bsG nC cf ct ck J ok d = bsG nC cf ct ck J ok k := by
  intro d h
  induction d with
  | zero => obtain rfl : k = 0 := by omega
            rfl
  | succ d ih =>
    rcases Nat.lt_or_ge d k with h1 | h1
    · obtain rfl : k = d + 1 := by omega
      rfl
    · have h2 := ih h1
      rw [bsG, h2, List.getElem?_eq_none (by omega)]
/-- the entry ahead stands ahead -/
theorem bsG_ahead : ∀ k, ∀ (j i : Nat) (e : En), (bsG nC cf ct ck J ok k)[j]? = some e → e.2.2.2.1 = some i → i < j := by
  have hA : ∀ (es : List En) (x : En), (∀ (j i : Nat) (e : En), es[j]? = some e → e.2.2.2.1 = some i → i < j) → (∀ i, x.2.2.2.1 = some i → i < es.length) → ∀ (j i : Nat) (e : En), (addE es x)[j]? = some e → e.2.2.2.1 = some i → i < j := by
    intro es x h1 h2 j i e hj hi
    unfold addE at hj
    split at hj
    · exact h1 j i e hj hi
    · rcases Nat.lt_or_ge j es.length with hl | hl
      · rw [List.getElem?_append_left hl] at hj
        exact h1 j i e hj hi
      · rw [List.getElem?_append_right hl] at hj
        have hjl := (List.getElem?_eq_some_iff.mp hj).1
        simp only [List.length_cons, List.length_nil] at hjl
        have h0 : j - es.length = 0 := by omega
        rw [h0] at hj
        cases hj
        have := h2 i hi
        omega
  have hI : ∀ (k : Nat) (e : En) (es : List En), k < es.length → (∀ (j i : Nat) (e : En), es[j]? = some e → e.2.2.2.1 = some i → i < j) → ∀ c, ∀ (j i : Nat) (x : En), (bsI cf ct ck J k e es c)[j]? = some x → x.2.2.2.1 = some i → i < j := by
    intro k e es hk hes c
    induction c with
    | zero => exact hes
    | succ c ih =>
      rw [bsI]
      split
      · refine hA _ _ ih ?_
        intro i hi
        cases hi
        exact Nat.lt_of_lt_of_le hk (ext_len (bsI_ext cf ct ck J k e es c))
      · exact ih
  have h0 : ∀ c, ∀ (j i : Nat) (e : En), (bs0 cf ct ck ok c)[j]? = some e → e.2.2.2.1 = some i → i < j := by
    intro c
    induction c with
    | zero => intro j i e hj; simp [bs0] at hj
    | succ c ih =>
      rw [bs0]
      split
      · exact hA _ _ ih (fun i hi => by cases hi)
      · exact ih
  intro k
  induction k with
  | zero => exact h0 nC
  | succ k ih =>
    rw [bsG]
    split
    · exact ih
    · rename_i e he
      exact hI k e _ (List.getElem?_eq_some_iff.mp he).1 ih nC
end PB
end
section
/-! PURE: all rows at once, and function by function -/
section PC
variable (nC : Nat) (cf ct : Nat → Nat) (ck : Nat → Int32) (J : Int32 → Int32 → Int32) (K : Nat)
/-- all graphs, found at once; those of rows from f -/
def gA : List En := bsG nC cf ct ck J (fun _ => true) K
def gF (f : Nat) : List En := bsG nC cf ct ck J (fun x => x == f) K
def gN : Nat → Nat
  | 0 => 0
  | f + 1 => gN f + (gF nC cf ct ck J K f).length
def gK : Nat → List Ky
  | 0 => []
  | f + 1 => gK f ++ (gF nC cf ct ck J K f).map kyE
theorem gK_len : ∀ f, (gK nC cf ct ck J K f).length = gN nC cf ct ck J K f
  | 0 => rfl
  | f + 1 => by rw [gK, gN, List.length_append, List.length_map, gK_len f]
theorem gF_first {f : Nat} {e : En} (h : e ∈ gF nC cf ct ck J K f) : e.1 = f := by
  have := (bsG_ok nC cf ct ck J _ _ e h).1
  exact beq_iff_eq.mp this
theorem gK_first : ∀ {n : Nat} {q : Ky}, q ∈ gK nC cf ct ck J K n → q.1 < n
  | 0, q, h => by cases h
  | n + 1, q, h => by
    rw [gK] at h
    rcases List.mem_append.mp h with h | h
    · exact Nat.lt_succ_of_lt (gK_first h)
    · obtain ⟨e, he, rfl⟩ := List.mem_map.mp h
      have := gF_first nC cf ct ck J K he
      show e.1 < n + 1
      omega
theorem gK_nd : ∀ n, (gK nC cf ct ck J K n).Nodup
  | 0 => List.nodup_nil
  | n + 1 => by
    rw [gK, List.nodup_append]
    refine ⟨gK_nd n, bsG_nd nC cf ct ck J _ _, ?_⟩
    intro a ha b hb hab
    obtain ⟨e, he, rfl⟩ := List.mem_map.mp hb
    have h1 := gK_first nC cf ct ck J K ha
    have h2 := gF_first nC cf ct ck J K he
    rw [hab] at h1
    have h3 : (kyE e).1 = e.1 := rfl
    omega
theorem gK_mem : ∀ {n : Nat} {q : Ky}, q ∈ gK nC cf ct ck J K n ↔ ∃ f, f < n ∧ q ∈ (gF nC cf ct ck J K f).map kyE
  | 0, q => by
    constructor
    · intro h; exact absurd h List.not_mem_nil
    · rintro ⟨f, h, -⟩; exact absurd h (Nat.not_lt_zero _)
  | n + 1, q => by
    rw [gK, List.mem_append, gK_mem]
    constructor
    · rintro (⟨f, h1, h2⟩ | h)
      · exact ⟨f, by omega, h2⟩
      · exact ⟨n, by omega, h⟩
    · rintro ⟨f, h1, h2⟩
      rcases Nat.lt_or_ge f n with h | h
      · exact Or.inl ⟨f, h, h2⟩
      · obtain rfl : f = n := by omega
        exact Or.inr h2
theorem gA_all (h : (gA nC cf ct ck J K).length ≤ K) {f g : Nat} {b : Int32} (hr : Rch nC cf ct ck J f g b) : (f, g, b) ∈ (gA nC cf ct ck J K).map kyE := by
  obtain ⟨n, hn⟩ := hr
  exact bsG_all nC cf ct ck J _ h rfl n g b hn
theorem gF_all {f : Nat} (h : (gF nC cf ct ck J K f).length ≤ K) {g : Nat} {b : Int32} (hr : Rch nC cf ct ck J f g b) : (f, g, b) ∈ (gF nC cf ct ck J K f).map kyE := by
  obtain ⟨n, hn⟩ := hr
  exact bsG_all nC cf ct ck J _ h (beq_iff_eq.mpr rfl) n g b hn
theorem rch_of {ok : Nat → Bool} {k : Nat} {q : Ky} (h : q ∈ (bsG nC cf ct ck J ok k).map kyE) : Rch nC cf ct ck J q.1 q.2.1 q.2.2 := by
  obtain ⟨e, he, rfl⟩ := List.mem_map.mp h
  exact (bsG_ok nC cf ct ck J ok k e he).2
theorem rch_first {nF : Nat} (hF : ∀ c, c < nC → cf c < nF) : ∀ {n f g b}, rwN nC cf ct ck J n f g b → f < nF
  | 0, f, g, b, h => by obtain ⟨c, hc, rfl, -, -⟩ := h; exact hF c hc
  | n + 1, f, g, b, h => by obtain ⟨g', b', c, h1, -⟩ := h; exact rch_first hF h1
theorem gN_ge : ∀ {n f : Nat}, f < n → (gF nC cf ct ck J K f).length ≤ gN nC cf ct ck J K n
  | 0, f, h => absurd h (Nat.not_lt_zero _)
  | n + 1, f, h => by
    rw [gN]
    rcases Nat.lt_or_ge f n with h1 | h1
    · have := gN_ge h1; omega
    · obtain rfl : f = n := by omega
      omega
theorem gN_mono {a : Nat} : ∀ {b : Nat}, a ≤ b → gN nC cf ct ck J K a ≤ gN nC cf ct ck J K b := by
  intro b h
  induction b with
  | zero => obtain rfl : a = 0 := by omega
            exact Nat.le_refl _
  | succ b ih =>
    rcases Nat.lt_or_ge b a with h1 | h1
    · obtain rfl : a = b + 1 := by omega
      exact Nat.le_refl _
    · have := ih h1
      rw [gN]; omega
/-- at most 800 in all, counted in either way -/
theorem g_few {nF : Nat} (hK : 801 ≤ K) (hF : ∀ c, c < nC → cf c < nF) : (gA nC cf ct ck J K).length ≤ 800 ↔ gN nC cf ct ck J K nF ≤ 800 := by
  constructor
  · intro h
    rw [← gK_len]
    refine Nat.le_trans (pg_le _ ((gA nC cf ct ck J K).map kyE) (gK_nd nC cf ct ck J K nF) ?_) (by rw [List.length_map]; exact h)
    intro q hq
    obtain ⟨f, -, hq⟩ := (gK_mem nC cf ct ck J K).mp hq
    exact gA_all nC cf ct ck J K (by omega) (rch_of nC cf ct ck J hq)
  · intro h
    rw [← gK_len] at h
    rw [← List.length_map (f := kyE)]
    refine Nat.le_trans (pg_le _ (gK nC cf ct ck J K nF) (bsG_nd nC cf ct ck J _ _) ?_) h
    intro q hq
    have hr := rch_of nC cf ct ck J hq
    have hlt : q.1 < nF := by obtain ⟨n, hn⟩ := hr; exact rch_first nC cf ct ck J hF hn
    rw [gK_len] at h
    have := gN_ge nC cf ct ck J K hlt
    exact (gK_mem nC cf ct ck J K).mpr ⟨q.1, hlt, gF_all nC cf ct ck J K (by omega) hr⟩
/-- with at most 800 the rows from f are the same ones -/
theorem g_same {nF : Nat} (hK : 801 ≤ K) (hF : ∀ c, c < nC → cf c < nF) (h : (gA nC cf ct ck J K).length ≤ 800) {f : Nat} (hf : f < nF) (q : Ky) : q ∈ (gF nC cf ct ck J K f).map kyE ↔ q ∈ (gA nC cf ct ck J K).map kyE ∧ q.1 = f := by
  have hl : (gF nC cf ct ck J K f).length ≤ 800 := Nat.le_trans (gN_ge nC cf ct ck J K hf) ((g_few nC cf ct ck J K hK hF).mp h)
  constructor
  · intro hq
    refine ⟨gA_all nC cf ct ck J K (by omega) (rch_of nC cf ct ck J hq), ?_⟩
    obtain ⟨e, he, rfl⟩ := List.mem_map.mp hq
    exact gF_first nC cf ct ck J K he
  · rintro ⟨hq, rfl⟩
    exact gF_all nC cf ct ck J K (by omega) (rch_of nC cf ct ck J hq)
theorem g_cnt {nF : Nat} (hK : 801 ≤ K) (hF : ∀ c, c < nC → cf c < nF) (h : (gA nC cf ct ck J K).length ≤ 800) {f : Nat} (hf : f < nF) (p : Ky → Bool) : ((gF nC cf ct ck J K f).map kyE).countP p = ((gA nC cf ct ck J K).map kyE).countP (fun q => q.1 == f && p q) := by
  have h1 := pg_cnt (l1 := (gF nC cf ct ck J K f).map kyE) (l2 := ((gA nC cf ct ck J K).map kyE).filter (fun q => q.1 == f)) (bsG_nd nC cf ct ck J _ _) (List.Nodup.sublist List.filter_sublist (bsG_nd nC cf ct ck J _ _)) (fun q => by
    rw [g_same nC cf ct ck J K hK hF h hf, List.mem_filter, beq_iff_eq]) p
  rw [h1, List.countP_filter]
  exact congrArg (fun z => List.countP z _) (funext fun q => Bool.and_comm _ _)
end PC
end
section
/-! PURE: the k-th of different numbers, sorted by moving, or found bit by bit -/
theorem cn_congr {B : List Nat} {p q : Nat → Bool} (h : ∀ z ∈ B, p z = q z) : B.countP p = B.countP q := by
  induction B with
  | nil => rfl
  | cons a t ih =>
    rw [List.countP_cons, List.countP_cons, ih (fun z hz => h z (List.mem_cons_of_mem _ hz)), h a List.mem_cons_self]
theorem cn_add {B : List Nat} {p q r : Nat → Bool} (h : ∀ z ∈ B, (if p z = true then 1 else 0) = (if q z = true then 1 else 0) + (if r z = true then 1 else 0)) : B.countP p = B.countP q + B.countP r := by
  induction B with
  | nil => rfl
  | cons a t ih =>
    rw [List.countP_cons, List.countP_cons, List.countP_cons, ih (fun z hz => h z (List.mem_cons_of_mem _ hz))]
    have := h a List.mem_cons_self
    omega
theorem cn_le {B : List Nat} {p q : Nat → Bool} (h : ∀ z ∈ B, p z = true → q z = true) : B.countP p ≤ B.countP q := by
  induction B with
  | nil => exact Nat.le_refl _
  | cons a t ih =>
    rw [List.countP_cons, List.countP_cons]
    have h1 := ih (fun z hz => h z (List.mem_cons_of_mem _ hz))
    have h2 := h a List.mem_cons_self
    by_cases hp : p a = true
    · rw [if_pos hp, if_pos (h2 hp)]; omega
    · rw [if_neg hp]; omega
theorem cn_lt {B : List Nat} {x y : Nat} (hx : x ∈ B) (h : x < y) : B.countP (fun z => decide (z < x)) < B.countP (fun z => decide (z < y)) := by
  induction B with
  | nil => cases hx
  | cons a t ih =>
    rw [List.countP_cons, List.countP_cons]
    rcases List.mem_cons.mp hx with rfl | hx
    · have h1 := cn_le (B := t) (p := fun z => decide (z < x)) (q := fun z => decide (z < y)) (fun z _ hz => by simp only [decide_eq_true_eq] at hz ⊢; omega)
      rw [if_neg (by simp), if_pos (by simpa using h)]
      omega
    · have h1 := ih hx
      by_cases hp : a < x
      · rw [if_pos (by simpa using hp), if_pos (by simp; omega)]; omega
      · rw [if_neg (by simpa using hp)]; omega
theorem kth_one {B : List Nat} {x y : Nat} (hx : x ∈ B) (hy : y ∈ B) (h : B.countP (fun z => decide (z < x)) = B.countP (fun z => decide (z < y))) : x = y := by
  rcases Nat.lt_trichotomy x y with h1 | h1 | h1
  · have := cn_lt hx h1; omega
  · exact h1
  · have := cn_lt hy h1; omega
theorem srt_cnt : ∀ {S : List Nat} {k x : Nat}, S.Pairwise (· < ·) → S[k]? = some x → S.countP (fun z => decide (z < x)) = k
  | [], k, x, _, h => by simp at h
  | a :: t, 0, x, hp, h => by
    cases h
    have h1 := (List.pairwise_cons.mp hp).1
    rw [List.countP_cons, if_neg (by simp)]
    have : t.countP (fun z => decide (z < a)) = t.countP (fun _ => false) := cn_congr (fun z hz => by have := h1 z hz; simp; omega)
    rw [this]; simp
  | a :: t, k + 1, x, hp, h => by
    have h1 := (List.pairwise_cons.mp hp).1
    have h2 : t[k]? = some x := h
    have h3 := h1 x (List.mem_of_getElem? h2)
    rw [List.countP_cons, if_pos (by simpa using h3), srt_cnt (List.pairwise_cons.mp hp).2 h2]
/-- a new one, moved to its place -/
theorem srt_put {S : List Nat} {p x : Nat} (hS : S.Pairwise (· < ·)) (hp : p ≤ S.length) (hlo : ∀ j z, j < p → S[j]? = some z → z < x) (hhi : ∀ j z, p ≤ j → S[j]? = some z → x < z) : (S.take p ++ x :: S.drop p).Pairwise (· < ·) := by
  rw [List.pairwise_append]
  refine ⟨hS.take, ?_, ?_⟩
  · rw [List.pairwise_cons]
    refine ⟨?_, hS.drop⟩
    intro z hz
    obtain ⟨j, hj⟩ := List.getElem?_of_mem hz
    rw [List.getElem?_drop] at hj
    exact hhi (p + j) z (by omega) hj
  · intro a ha b hb
    obtain ⟨j, hj⟩ := List.getElem?_of_mem ha
    have hjl := (List.getElem?_eq_some_iff.mp hj).1
    rw [List.length_take] at hjl
    have hjp : j < p := by omega
    rw [List.getElem?_take_of_lt hjp] at hj
    have hax := hlo j a hjp hj
    rcases List.mem_cons.mp hb with rfl | hb
    · exact hax
    · obtain ⟨i, hi⟩ := List.getElem?_of_mem hb
      rw [List.getElem?_drop] at hi
      have := hhi (p + i) b (by omega) hi
      omega
theorem mem_put {S : List Nat} {p x y : Nat} : y ∈ S.take p ++ x :: S.drop p ↔ y = x ∨ y ∈ S := by
  have h : y ∈ S ↔ y ∈ S.take p ∨ y ∈ S.drop p := by
    conv => lhs; rw [← List.take_append_drop p S]
    exact List.mem_append
  rw [List.mem_append, List.mem_cons, h]
  constructor
  · rintro (h | h | h)
    · exact Or.inr (Or.inl h)
    · exact Or.inl h
    · exact Or.inr (Or.inr h)
  · rintro (h | h | h)
    · exact Or.inr (Or.inl h)
    · exact Or.inl h
    · exact Or.inr (Or.inr h)
/-- bit by bit, the highest first: b bits are left, F are those found, left of k -/
def selOk (B : List Nat) (k b F left : Nat) : Prop := left + B.countP (fun z => decide (z / 2 ^ b < F)) = k ∧ left < B.countP (fun z => decide (z / 2 ^ b = F))
theorem sel_half (z b : Nat) : z / 2 ^ (b + 1) = z / 2 ^ b / 2 := by
  rw [Nat.pow_succ, Nat.div_div_eq_div_mul]
theorem sel_lt (B : List Nat) (b F : Nat) : B.countP (fun z => decide (z / 2 ^ (b + 1) < F)) = B.countP (fun z => decide (z / 2 ^ b < 2 * F)) :=
  cn_congr (fun z _ => by rw [sel_half]; congr 1; apply propext; omega)
theorem sel_eq (B : List Nat) (b F : Nat) : B.countP (fun z => decide (z / 2 ^ (b + 1) = F)) = B.countP (fun z => decide (z / 2 ^ b = 2 * F)) + B.countP (fun z => decide (z / 2 ^ b = 2 * F + 1)) :=
  cn_add (fun z _ => by
    rw [sel_half]
    simp only [decide_eq_true_eq]
    by_cases h1 : z / 2 ^ b = 2 * F
    · rw [if_pos (by omega), if_pos h1, if_neg (by omega)]
    · by_cases h2 : z / 2 ^ b = 2 * F + 1
      · rw [if_pos (by omega), if_neg h1, if_pos h2]
      · rw [if_neg (by omega), if_neg h1, if_neg h2])
theorem sel_lt1 (B : List Nat) (b F : Nat) : B.countP (fun z => decide (z / 2 ^ b < F + 1)) = B.countP (fun z => decide (z / 2 ^ b < F)) + B.countP (fun z => decide (z / 2 ^ b = F)) :=
  cn_add (fun z _ => by
    simp only [decide_eq_true_eq]
    by_cases h1 : z / 2 ^ b = F
    · rw [if_pos (by omega), if_neg (by omega), if_pos h1]
    · by_cases h2 : z / 2 ^ b < F
      · rw [if_pos (by omega), if_pos h2, if_neg h1]
      · rw [if_neg (by omega), if_neg h2, if_neg h1])
theorem sel_one {B : List Nat} {k b F left : Nat} (h : selOk B k (b + 1) F left) (hw : B.countP (fun z => decide (z / 2 ^ b = 2 * F)) ≤ left) : selOk B k b (2 * F + 1) (left - B.countP (fun z => decide (z / 2 ^ b = 2 * F))) := by
  obtain ⟨h1, h2⟩ := h
  rw [sel_lt] at h1
  rw [sel_eq] at h2
  refine ⟨?_, by omega⟩
  rw [sel_lt1]
  omega
theorem sel_zero {B : List Nat} {k b F left : Nat} (h : selOk B k (b + 1) F left) (hw : left < B.countP (fun z => decide (z / 2 ^ b = 2 * F))) : selOk B k b (2 * F) left := by
  obtain ⟨h1, h2⟩ := h
  rw [sel_lt] at h1
  exact ⟨h1, hw⟩
theorem sel_0 {B : List Nat} {k : Nat} (hB : ∀ z ∈ B, z < 2 ^ 32) (hk : k < B.length) : selOk B k 32 0 k := by
  have h1 : B.countP (fun z => decide (z / 2 ^ 32 < 0)) = B.countP (fun _ => false) := cn_congr (fun z _ => by simp)
  have h2 : B.countP (fun z => decide (z / 2 ^ 32 = 0)) = B.countP (fun _ => true) := cn_congr (fun z hz => by have := hB z hz; rw [Nat.div_eq_of_lt this]; rfl)
  refine ⟨?_, ?_⟩
  · rw [h1]; simp
  · rw [h2]; simpa using hk
theorem cn_one {B : List Nat} (hn : B.Nodup) (x : Nat) : B.countP (fun z => decide (z = x)) ≤ 1 := by
  induction B with
  | nil => exact Nat.zero_le _
  | cons a t ih =>
    have hn2 := List.nodup_cons.mp hn
    rw [List.countP_cons]
    by_cases h : a = x
    · have : t.countP (fun z => decide (z = x)) = t.countP (fun _ => false) := cn_congr (fun z hz => by
        have hne : z ≠ x := fun e => hn2.1 (h.trans e.symm ▸ hz)
        simp [hne])
      rw [this]
      split <;> simp
    · rw [if_neg (by simpa using h)]
      exact ih hn2.2
theorem sel_end {B : List Nat} {k F left : Nat} (hn : B.Nodup) (h : selOk B k 0 F left) : F ∈ B ∧ B.countP (fun z => decide (z < F)) = k := by
  obtain ⟨h1, h2⟩ := h
  simp only [Nat.pow_zero, Nat.div_one] at h1 h2
  have h3 := cn_one hn F
  refine ⟨?_, by omega⟩
  have h4 : 0 < B.countP (fun z => decide (z = F)) := by omega
  obtain ⟨a, ha, hb⟩ := List.countP_pos_iff.mp h4
  have : a = F := by simpa using hb
  exact this ▸ ha
end
section
/-! PURE: what is reached, as bits: passes over the calls until nothing comes -/
section PR
variable (nC : Nat) (cf ct : Nat → Nat) (f : Nat)
/-- a pass over the first calls -/
def rcP (m : Nat) : Nat → Nat
  | 0 => m
  | c + 1 => if cf c = f ∨ (rcP m c).testBit (cf c) = true then rcP m c ||| 2 ^ ct c else rcP m c
/-- passes -/
def rcN : Nat → Nat
  | 0 => 0
  | n + 1 => rcP cf ct f (rcN n) nC
theorem rcP_keep (m : Nat) : ∀ c i, m.testBit i = true → (rcP cf ct f m c).testBit i = true
  | 0, i, h => h
  | c + 1, i, h => by
    rw [rcP]
    split
    · rw [Nat.testBit_or, rcP_keep m c i h]; rfl
    · exact rcP_keep m c i h
theorem rcP_lt {nF : Nat} (hT : ∀ c, c < nC → ct c < nF) {m : Nat} (hm : m < 2 ^ nF) : ∀ c, c ≤ nC → rcP cf ct f m c < 2 ^ nF
  | 0, _ => hm
  | c + 1, h => by
    rw [rcP]
    split
    · exact Nat.or_lt_two_pow (rcP_lt hT hm c (by omega)) (Nat.pow_lt_pow_right (by omega) (hT c (by omega)))
    · exact rcP_lt hT hm c (by omega)
theorem rcN_lt {nF : Nat} (hT : ∀ c, c < nC → ct c < nF) : ∀ n, rcN nC cf ct f n < 2 ^ nF
  | 0 => Nat.two_pow_pos _
  | n + 1 => rcP_lt nC cf ct f hT (rcN_lt hT n) nC (Nat.le_refl _)
/-- how many bits below nF -/
def bitsN (nF m : Nat) : Nat := (List.range nF).countP (fun i => m.testBit i)
theorem bits_more {nF m m' : Nat} (hm : m < 2 ^ nF) (hm' : m' < 2 ^ nF) (h : ∀ i, m.testBit i = true → m'.testBit i = true) (hne : m' ≠ m) : bitsN nF m < bitsN nF m' := by
  unfold bitsN
  obtain ⟨i, hi⟩ : ∃ i, m'.testBit i ≠ m.testBit i := by
    rcases Classical.em (∃ i, m'.testBit i ≠ m.testBit i) with h1 | h1
    · exact h1
    · exact absurd (Nat.eq_of_testBit_eq (fun i => Classical.byContradiction fun h2 => h1 ⟨i, h2⟩)) hne
  have h1 : m.testBit i = false := by
    cases hb : m.testBit i
    · rfl
    · rw [hb, h i hb] at hi; exact absurd rfl hi
  have h2 : m'.testBit i = true := by
    cases hb : m'.testBit i
    · rw [hb, h1] at hi; exact absurd rfl hi
    · rfl
  have hiF : i < nF := by
    rcases Nat.lt_or_ge i nF with h3 | h3
    · exact h3
    · rw [Nat.testBit_lt_two_pow (Nat.lt_of_lt_of_le hm' (Nat.pow_le_pow_right (by omega) h3))] at h2
      cases h2
  have key : ∀ (l : List Nat), i ∈ l → l.countP (fun i => m.testBit i) < l.countP (fun i => m'.testBit i) := by
    intro l
    induction l with
    | nil => intro h; cases h
    | cons a t ih =>
      intro ha
      have hle : t.countP (fun i => m.testBit i) ≤ t.countP (fun i => m'.testBit i) := cn_le (fun z _ hz => h z hz)
      rw [List.countP_cons, List.countP_cons]
      rcases List.mem_cons.mp ha with rfl | ha
      · rw [if_neg (by rw [h1]; decide), if_pos h2]; omega
      · have := ih ha
        by_cases hz : m.testBit a = true
        · rw [if_pos hz, if_pos (h a hz)]; omega
        · rw [if_neg hz]; omega
  exact key _ (List.mem_range.mpr hiF)
theorem bits_le (nF m : Nat) : bitsN nF m ≤ nF := by
  unfold bitsN
  have := List.countP_le_length (p := fun i => m.testBit i) (l := List.range nF)
  rwa [List.length_range] at this
theorem rcN_stay {n : Nat} (h : rcN nC cf ct f (n + 1) = rcN nC cf ct f n) : ∀ {d}, n ≤ d → rcN nC cf ct f d = rcN nC cf ct f n := by
  intro d hd
  induction d with
  | zero => obtain rfl : n = 0 := by omega
            rfl
  | succ d ih =>
    rcases Nat.lt_or_ge d n with h1 | h1
    · obtain rfl : n = d + 1 := by omega
      rfl
    · rw [rcN, ih h1]; exact h
theorem rcN_full {nF : Nat} (hT : ∀ c, c < nC → ct c < nF) : ∀ n, (∃ k, k < n ∧ rcN nC cf ct f (k + 1) = rcN nC cf ct f k) ∨ n ≤ bitsN nF (rcN nC cf ct f n)
  | 0 => Or.inr (Nat.zero_le _)
  | n + 1 => by
    rcases rcN_full hT n with ⟨k, h1, h2⟩ | h
    · exact Or.inl ⟨k, by omega, h2⟩
    · by_cases he : rcN nC cf ct f (n + 1) = rcN nC cf ct f n
      · exact Or.inl ⟨n, by omega, he⟩
      · have := bits_more (nF := nF) (rcN_lt nC cf ct f hT n) (rcN_lt nC cf ct f hT (n + 1)) (fun i hi => by rw [rcN]; exact rcP_keep cf ct f _ nC i hi) he
        exact Or.inr (by omega)
/-- so many passes as there are functions: nothing comes any more -/
theorem rcN_end {nF : Nat} (hT : ∀ c, c < nC → ct c < nF) : rcN nC cf ct f (nF + 1) = rcN nC cf ct f nF := by
  rcases rcN_full nC cf ct f hT nF with ⟨k, h1, h2⟩ | h
  · rw [rcN_stay nC cf ct f h2 (show k ≤ nF + 1 by omega), rcN_stay nC cf ct f h2 (show k ≤ nF by omega)]
  · by_cases he : rcN nC cf ct f (nF + 1) = rcN nC cf ct f nF
    · exact he
    · have h1 := bits_more (nF := nF) (rcN_lt nC cf ct f hT nF) (rcN_lt nC cf ct f hT (nF + 1)) (fun i hi => by rw [rcN]; exact rcP_keep cf ct f _ nC i hi) he
      have := bits_le nF (rcN nC cf ct f (nF + 1))
      omega
/-- a pass behind which nothing has come: that is the end too -/
theorem rcN_same {nF n : Nat} (hT : ∀ c, c < nC → ct c < nF) (h : rcN nC cf ct f (n + 1) = rcN nC cf ct f n) : rcN nC cf ct f n = rcN nC cf ct f nF := by
  rcases Nat.le_total n nF with h1 | h1
  · exact (rcN_stay nC cf ct f h h1).symm
  · exact rcN_stay nC cf ct f (rcN_end nC cf ct f hT) h1
end PR
end
section
/-! PURE: graphs as bits. bt and its rows began as BITS.to-paste. -/
def bt (x : Int32) (i : Nat) : Bool := x.toBitVec.getLsbD i
theorem b_ext {x y : Int32} (h : ∀ i, i < 32 → bt x i = bt y i) : x = y := Int32.toBitVec_inj.mp (BitVec.eq_of_getLsbD_eq (fun i hi => h i hi))
theorem b_or (x y : Int32) (i : Nat) : bt (x ||| y) i = (bt x i || bt y i) := by unfold bt; rw [Int32.toBitVec_or, BitVec.getLsbD_or]
theorem b_and (x y : Int32) (i : Nat) : bt (x &&& y) i = (bt x i && bt y i) := by unfold bt; rw [Int32.toBitVec_and, BitVec.getLsbD_and]
theorem b_xor (x y : Int32) (i : Nat) : bt (x ^^^ y) i = (bt x i ^^ bt y i) := by unfold bt; rw [Int32.toBitVec_xor, BitVec.getLsbD_xor]
theorem b_big {x : Int32} {i : Nat} (h : 32 ≤ i) : bt x i = false := BitVec.getLsbD_of_ge _ _ h
theorem b_0 (i : Nat) : bt 0 i = false := BitVec.getLsbD_zero
theorem s_l : ∀ n, n < 32 → ((nI n &&& 31).toBitVec.smod 32).toNat = n := by decide +kernel
theorem s_u : ∀ n, n < 32 → (((nI n).toUInt32 &&& Int32.toUInt32 31).toBitVec % 32).toNat = n := by decide +kernel
def ush (x : Int32) (n : Nat) : Int32 := (x.toUInt32 >>> ((nI n).toUInt32 &&& Int32.toUInt32 31)).toInt32
def shl (x : Int32) (n : Nat) : Int32 := x <<< (nI n &&& 31)
theorem b_shl {n : Nat} (hn : n < 32) (x : Int32) {i : Nat} (hi : i < 32) : bt (shl x n) i = (decide (n ≤ i) && bt x (i - n)) := by
  unfold bt shl
  rw [Int32.toBitVec_shiftLeft]
  show (x.toBitVec <<< ((nI n &&& 31).toBitVec.smod 32).toNat).getLsbD i = _
  rw [s_l n hn, BitVec.getLsbD_shiftLeft]
  rcases Nat.lt_or_ge i n with h | h
  · simp [h, Nat.not_le.mpr h]
  · simp [hi, h, Nat.not_lt.mpr h]
theorem b_ush {n : Nat} (hn : n < 32) (x : Int32) (i : Nat) : bt (ush x n) i = bt x (n + i) := by
  show (x.toUInt32 >>> ((nI n).toUInt32 &&& Int32.toUInt32 31)).toBitVec.getLsbD i = x.toUInt32.toBitVec.getLsbD (n + i)
  rw [UInt32.toBitVec_shiftRight]
  show (x.toUInt32.toBitVec >>> (((nI n).toUInt32 &&& Int32.toUInt32 31).toBitVec % 32).toNat).getLsbD i = _
  rw [s_u n hn, BitVec.getLsbD_ushiftRight]
theorem b_m1 : ∀ i, i < 32 → bt (-1) i = true := by decide +kernel
theorem b_55 : ∀ i, i < 32 → bt 0x55555555 i = decide (i % 2 = 0) := by decide +kernel
theorem b_01 : ∀ i, i < 32 → bt 0x01010101 i = decide (i % 8 = 0) := by decide +kernel
theorem b_255 : ∀ i, i < 32 → bt 255 i = decide (i < 8) := by decide +kernel
theorem b_3 : ∀ i, i < 32 → bt 3 i = decide (i < 2) := by decide +kernel
/-! threes as twos -/
def t3 (x : Int32) : Int32 := x &&& ((ush x 1 &&& 0x55555555) ^^^ (-1))
theorem t3_lo (x : Int32) {p : Nat} (hp : p < 16) : bt (t3 x) (2 * p) = (bt x (2 * p) && !bt x (2 * p + 1)) := by
  unfold t3
  rw [b_and, b_xor, b_and, b_ush (by omega), b_55 _ (by omega), b_m1 _ (by omega), decide_eq_true (by omega), Nat.add_comm 1 (2 * p)]
  simp
theorem t3_hi (x : Int32) {p : Nat} (hp : p < 16) : bt (t3 x) (2 * p + 1) = bt x (2 * p + 1) := by
  unfold t3
  rw [b_and, b_xor, b_and, b_ush (by omega), b_55 _ (by omega), b_m1 _ (by omega), decide_eq_false (by omega)]
  simp
/-- no threes -/
def clN (x : Int32) : Prop := ∀ p, p < 16 → (bt x (2 * p) && bt x (2 * p + 1)) = false
theorem t3_cl (x : Int32) : clN (t3 x) := by
  intro p hp
  rw [t3_lo x hp, t3_hi x hp]
  cases bt x (2 * p) <;> cases bt x (2 * p + 1) <;> rfl
/-! a mask of lowest bits of bytes, times a byte -/
theorem by_bit {c0 c1 c2 c3 : Nat} (h0 : c0 < 2 ^ 8) (h1 : c1 < 2 ^ 8) (h2 : c2 < 2 ^ 8) (n : Nat) : (2 ^ 8 * (2 ^ 8 * (2 ^ 8 * c3 + c2) + c1) + c0).testBit n = if n < 8 then c0.testBit n else if n < 16 then c1.testBit (n - 8) else if n < 24 then c2.testBit (n - 16) else c3.testBit (n - 24) := by
  rw [Nat.testBit_two_pow_mul_add _ h0]
  by_cases g0 : n < 8
  · rw [if_pos g0, if_pos g0]
  · rw [if_neg g0, if_neg g0, Nat.testBit_two_pow_mul_add _ h1]
    by_cases g1 : n < 16
    · rw [if_pos (by omega), if_pos g1]
    · rw [if_neg (by omega), if_neg g1, Nat.testBit_two_pow_mul_add _ h2]
      by_cases g2 : n < 24
      · rw [if_pos (by omega), if_pos g2, show n - 8 - 8 = n - 16 by omega]
      · rw [if_neg (by omega), if_neg g2, show n - 8 - 8 - 8 = n - 24 by omega]
theorem bool_bit (b : Bool) (t : Nat) : b.toNat.testBit t = (b && decide (t = 0)) := by
  cases b
  · simp
  · cases t with
    | zero => rfl
    | succ t => simp [Nat.testBit_succ]
theorem bool_mul_bit (b : Bool) (r t : Nat) : (b.toNat * r).testBit t = (b && r.testBit t) := by
  cases b <;> simp
theorem bt_nat (x : Int32) (i : Nat) : bt x i = x.toBitVec.toNat.testBit i := rfl
theorem o_nat {o : Int32} (ho : ∀ n, n < 32 → n % 8 ≠ 0 → bt o n = false) : o.toBitVec.toNat = 2 ^ 8 * (2 ^ 8 * (2 ^ 8 * (bt o 24).toNat + (bt o 16).toNat) + (bt o 8).toNat) + (bt o 0).toNat := by
  have hB : ∀ b : Bool, b.toNat < 2 ^ 8 := by decide
  apply Nat.eq_of_testBit_eq
  intro n
  rw [by_bit (hB _) (hB _) (hB _), bool_bit, bool_bit, bool_bit, bool_bit, ← bt_nat]
  by_cases h32 : n < 32
  · by_cases h8 : n % 8 = 0
    · rcases (by omega : n = 0 ∨ n = 8 ∨ n = 16 ∨ n = 24) with rfl | rfl | rfl | rfl <;> simp
    · rw [ho n h32 h8]
      split
      · rw [decide_eq_false (by omega)]; simp
      · split
        · rw [decide_eq_false (by omega)]; simp
        · split
          · rw [decide_eq_false (by omega)]; simp
          · rw [decide_eq_false (by omega)]; simp
  · rw [b_big (by omega), if_neg (by omega), if_neg (by omega), if_neg (by omega), decide_eq_false (by omega)]; simp
theorem b_mul {o r : Int32} (ho : ∀ n, n < 32 → n % 8 ≠ 0 → bt o n = false) (hr : ∀ n, 8 ≤ n → n < 32 → bt r n = false) {i t : Nat} (hi : i < 4) (ht : t < 8) : bt (o * r) (8 * i + t) = (bt o (8 * i) && bt r t) := by
  have hr8 : r.toBitVec.toNat < 2 ^ 8 := by
    apply Nat.lt_pow_two_of_testBit
    intro n hn
    rw [← bt_nat]
    by_cases h : n < 32
    · exact hr n hn h
    · exact b_big (by omega)
  have e := o_nat ho
  rw [bt_nat (o * r), bt_nat r, Int32.toBitVec_mul, BitVec.toNat_mul, e]
  generalize r.toBitVec.toNat = q at hr8 ⊢
  have hc : ∀ b : Bool, b.toNat * q < 2 ^ 8 := by intro b; cases b <;> simp <;> omega
  have e2 : (2 ^ 8 * (2 ^ 8 * (2 ^ 8 * (bt o 24).toNat + (bt o 16).toNat) + (bt o 8).toNat) + (bt o 0).toNat) * q = 2 ^ 8 * (2 ^ 8 * (2 ^ 8 * ((bt o 24).toNat * q) + (bt o 16).toNat * q) + (bt o 8).toNat * q) + (bt o 0).toNat * q := by
    cases bt o 24 <;> cases bt o 16 <;> cases bt o 8 <;> cases bt o 0 <;> simp <;> omega
  rw [e2, Nat.mod_eq_of_lt (by have := hc (bt o 24); have := hc (bt o 16); have := hc (bt o 8); have := hc (bt o 0); omega), by_bit (hc _) (hc _) (hc _)]
  rcases (by omega : i = 0 ∨ i = 1 ∨ i = 2 ∨ i = 3) with rfl | rfl | rfl | rfl
  · rw [if_pos (by omega), bool_mul_bit]; simp
  · rw [if_neg (by omega), if_pos (by omega), bool_mul_bit, show 8 * 1 + t - 8 = t by omega]
  · rw [if_neg (by omega), if_neg (by omega), if_pos (by omega), bool_mul_bit, show 8 * 2 + t - 16 = t by omega]
  · rw [if_neg (by omega), if_neg (by omega), if_neg (by omega), bool_mul_bit, show 8 * 3 + t - 24 = t by omega]
/-! the class's way of joining two graphs: place j between -/
def cjR (b : Int32) (j : Nat) : Int32 := ush b (8 * j) &&& 255
def cjT (b : Int32) (j : Nat) : Int32 := shl ((cjR b j ||| ush (cjR b j) 1) &&& 0x55555555) 1
def cj1 (a b : Int32) (j : Nat) (z : Int32) : Int32 := z ||| ((ush a (2 * j) &&& 0x01010101) * cjR b j ||| (ush a (2 * j + 1) &&& 0x01010101) * cjT b j)
def cjN (a b : Int32) : Nat → Int32
  | 0 => 0
  | j + 1 => cj1 a b j (cjN a b j)
def cj (a b : Int32) : Int32 := t3 (cjN a b 4)
theorem cjR_bt (b : Int32) {j : Nat} (hj : j < 4) {t : Nat} (ht : t < 32) : bt (cjR b j) t = (decide (t < 8) && bt b (8 * j + t)) := by
  unfold cjR
  rw [b_and, b_ush (by omega), b_255 t ht, Bool.and_comm]
theorem cjT_lo (b : Int32) {j : Nat} (hj : j < 4) {k : Nat} (hk : k < 4) : bt (cjT b j) (2 * k) = false := by
  unfold cjT
  rw [b_shl (by omega) _ (by omega), b_and]
  by_cases h : 1 ≤ 2 * k
  · rw [b_55 _ (by omega), decide_eq_false (show ¬ (2 * k - 1) % 2 = 0 by omega)]; simp
  · rw [decide_eq_false h]; rfl
theorem cjT_hi (b : Int32) {j : Nat} (hj : j < 4) {k : Nat} (hk : k < 4) : bt (cjT b j) (2 * k + 1) = (bt b (8 * j + 2 * k) || bt b (8 * j + 2 * k + 1)) := by
  unfold cjT
  rw [b_shl (by omega) _ (by omega), b_and, show 2 * k + 1 - 1 = 2 * k by omega, b_55 _ (by omega), decide_eq_true (show (2 * k) % 2 = 0 by omega), decide_eq_true (show 1 ≤ 2 * k + 1 by omega), b_or, b_ush (by omega), cjR_bt b hj (by omega), cjR_bt b hj (by omega), decide_eq_true (show 2 * k < 8 by omega), decide_eq_true (show 1 + 2 * k < 8 by omega), show 8 * j + (1 + 2 * k) = 8 * j + 2 * k + 1 by omega]
  simp
theorem cjT_big (b : Int32) {j : Nat} (hj : j < 4) {n : Nat} (h8 : 8 ≤ n) (hn : n < 32) : bt (cjT b j) n = false := by
  unfold cjT
  rw [b_shl (by omega) _ hn, b_and, b_or, b_ush (by omega), b_55 _ (by omega), cjR_bt b hj (by omega), cjR_bt b hj (by omega), decide_eq_false (show ¬ 1 + (n - 1) < 8 by omega)]
  by_cases h : n - 1 < 8
  · rw [decide_eq_false (show ¬ (n - 1) % 2 = 0 by omega)]; simp
  · rw [decide_eq_false h]; simp
theorem cjO (a : Int32) {s : Nat} (hs : s < 32) : (∀ n, n < 32 → n % 8 ≠ 0 → bt (ush a s &&& 0x01010101) n = false) ∧ ∀ i, i < 4 → bt (ush a s &&& 0x01010101) (8 * i) = bt a (8 * i + s) := by
  refine ⟨fun n hn h => ?_, fun i hi => ?_⟩
  · rw [b_and, b_01 n hn, decide_eq_false h]; simp
  · rw [b_and, b_01 _ (by omega), decide_eq_true (by omega), b_ush hs, Nat.add_comm]; simp
theorem cj1_lo (a b : Int32) {j : Nat} (hj : j < 4) (z : Int32) {i k : Nat} (hi : i < 4) (hk : k < 4) : bt (cj1 a b j z) (8 * i + 2 * k) = (bt z (8 * i + 2 * k) || (bt a (8 * i + 2 * j) && bt b (8 * j + 2 * k))) := by
  unfold cj1
  rw [b_or, b_or, b_mul (cjO a (by omega)).1 (fun n h8 hn => by rw [cjR_bt b hj hn, decide_eq_false (by omega)]; rfl) hi (show 2 * k < 8 by omega), b_mul (cjO a (by omega)).1 (fun n h8 hn => cjT_big b hj h8 hn) hi (show 2 * k < 8 by omega), (cjO a (by omega)).2 i hi, cjT_lo b hj hk, cjR_bt b hj (by omega), decide_eq_true (show 2 * k < 8 by omega)]
  simp
theorem cj1_hi (a b : Int32) {j : Nat} (hj : j < 4) (z : Int32) {i k : Nat} (hi : i < 4) (hk : k < 4) : bt (cj1 a b j z) (8 * i + 2 * k + 1) = (bt z (8 * i + 2 * k + 1) || ((bt a (8 * i + 2 * j) && bt b (8 * j + 2 * k + 1)) || (bt a (8 * i + 2 * j + 1) && (bt b (8 * j + 2 * k) || bt b (8 * j + 2 * k + 1))))) := by
  unfold cj1
  rw [show 8 * i + 2 * k + 1 = 8 * i + (2 * k + 1) by omega, b_or, b_or, b_mul (cjO a (by omega)).1 (fun n h8 hn => by rw [cjR_bt b hj hn, decide_eq_false (by omega)]; rfl) hi (show 2 * k + 1 < 8 by omega), b_mul (cjO a (by omega)).1 (fun n h8 hn => cjT_big b hj h8 hn) hi (show 2 * k + 1 < 8 by omega), (cjO a (by omega)).2 i hi, (cjO a (by omega)).2 i hi, cjT_hi b hj hk, cjR_bt b hj (by omega), decide_eq_true (show 2 * k + 1 < 8 by omega)]
  simp [Nat.add_assoc]
/-! the reference's way -/
def atN (x : Int32) (i j : Nat) : Nat := (bt x (8 * i + 2 * j)).toNat + 2 * (bt x (8 * i + 2 * j + 1)).toNat
theorem at_nI (x : Int32) {i j : Nat} (hi : i < 4) (hj : j < 4) : ush x (8 * i + 2 * j) &&& 3 = nI (atN x i j) := by
  have h : ∀ (b0 b1 : Bool) (n : Nat), n < 32 → bt (nI (b0.toNat + 2 * b1.toNat)) n = (if n = 0 then b0 else if n = 1 then b1 else false) := by decide +kernel
  apply b_ext
  intro n hn
  unfold atN
  rw [h _ _ n hn, b_and, b_3 n hn, b_ush (by omega)]
  by_cases h0 : n = 0
  · subst h0; simp
  · by_cases h1 : n = 1
    · subst h1; simp
    · rw [if_neg h0, if_neg h1, decide_eq_false (by omega)]; simp
theorem atN_lt (x : Int32) (i j : Nat) : atN x i j < 4 := by
  unfold atN
  cases bt x (8 * i + 2 * j) <;> cases bt x (8 * i + 2 * j + 1) <;> decide
theorem atN_cl {x : Int32} (h : clN x) {i j : Nat} (hi : i < 4) (hj : j < 4) : atN x i j < 3 := by
  unfold atN
  have := h (4 * i + j) (by omega)
  rw [show 2 * (4 * i + j) = 8 * i + 2 * j by omega] at this
  revert this
  cases bt x (8 * i + 2 * j) <;> cases bt x (8 * i + 2 * j + 1) <;> decide
def mxN (x y : Nat) : Nat := if x = 0 ∨ y = 0 then 0 else if y < x then x else y
def moN (a b : Int32) (i k : Nat) : Nat → Nat
  | 0 => 0
  | j + 1 => if moN a b i k j < mxN (atN a i j) (atN b j k) then mxN (atN a i j) (atN b j k) else moN a b i k j
/-- values of two bits, packed: row i, then rows -/
def pkK (v : Nat → Nat) (i : Nat) (z : Int32) : Nat → Int32
  | 0 => z
  | k + 1 => pkK v i z k ||| shl (nI (v k)) (8 * i + 2 * k)
def pkI (v : Nat → Nat → Nat) (q : Nat) : Nat → Int32
  | 0 => 0
  | i + 1 => pkK (v i) i (pkI v q i) q
def rj (a b : Int32) : Int32 := pkI (fun i k => moN a b i k 4) 4 4
def orN (p : Nat → Bool) : Nat → Bool
  | 0 => false
  | j + 1 => orN p j || p j
def enN (h l : Bool) : Nat := if h = true then 2 else if l = true then 1 else 0
theorem mo_step : ∀ (H L xl xh yl yh : Bool), (xl && xh) = false → (yl && yh) = false → (if enN H L < mxN (xl.toNat + 2 * xh.toNat) (yl.toNat + 2 * yh.toNat) then mxN (xl.toNat + 2 * xh.toNat) (yl.toNat + 2 * yh.toNat) else enN H L) = enN (H || (xl && yh || xh && (yl || yh))) (L || xl && yl) := by decide +kernel
theorem mo_en {a b : Int32} (ha : clN a) (hb : clN b) {i k : Nat} (hi : i < 4) (hk : k < 4) : ∀ j, j ≤ 4 → moN a b i k j = enN (orN (fun j => bt a (8 * i + 2 * j) && bt b (8 * j + 2 * k + 1) || bt a (8 * i + 2 * j + 1) && (bt b (8 * j + 2 * k) || bt b (8 * j + 2 * k + 1))) j) (orN (fun j => bt a (8 * i + 2 * j) && bt b (8 * j + 2 * k)) j)
  | 0, _ => rfl
  | j + 1, hj => by
    have h1 := ha (4 * i + j) (by omega)
    have h2 := hb (4 * j + k) (by omega)
    rw [show 2 * (4 * i + j) = 8 * i + 2 * j by omega] at h1
    rw [show 2 * (4 * j + k) = 8 * j + 2 * k by omega] at h2
    rw [moN, mo_en ha hb hi hk j (by omega), orN, orN]
    exact mo_step _ _ _ _ _ _ h1 h2
theorem mo_lt (a b : Int32) (i k : Nat) : ∀ j, moN a b i k j < 4
  | 0 => show 0 < 4 by decide
  | j + 1 => by
    rw [moN]
    split
    · unfold mxN
      have h1 := atN_lt a i j
      have h2 := atN_lt b j k
      split
      · decide
      · split
        · exact h1
        · exact h2
    · exact mo_lt a b i k j
theorem b_nI4 : ∀ v, v < 4 → ∀ n, n < 32 → bt (nI v) n = v.testBit n := by decide +kernel
theorem pkK_bt {v : Nat → Nat} (hv : ∀ k, v k < 4) {i : Nat} (hi : i < 4) (z : Int32) {n : Nat} (hn : n < 32) : ∀ m, m ≤ 4 → bt (pkK v i z m) n = (bt z n || (decide (8 * i ≤ n ∧ n < 8 * i + 2 * m) && (v ((n - 8 * i) / 2)).testBit ((n - 8 * i) % 2)))
  | 0, _ => by
    rw [pkK, decide_eq_false (by omega)]; simp
  | m + 1, hm => by
    rw [pkK, b_or, pkK_bt hv hi z hn m (by omega), b_shl (by omega) _ hn, b_nI4 _ (hv m) _ (by omega)]
    by_cases h1 : 8 * i + 2 * m ≤ n
    · by_cases h2 : n < 8 * i + 2 * m + 2
      · rw [decide_eq_false (show ¬ (8 * i ≤ n ∧ n < 8 * i + 2 * m) by omega), decide_eq_true h1, decide_eq_true (show 8 * i ≤ n ∧ n < 8 * i + 2 * (m + 1) by omega), show (n - 8 * i) / 2 = m by omega, show n - (8 * i + 2 * m) = (n - 8 * i) % 2 by omega]
        simp
      · rw [decide_eq_false (show ¬ (8 * i ≤ n ∧ n < 8 * i + 2 * m) by omega), decide_eq_false (show ¬ (8 * i ≤ n ∧ n < 8 * i + 2 * (m + 1)) by omega), Nat.testBit_lt_two_pow (Nat.lt_of_lt_of_le (hv m) (Nat.le_trans (show 4 ≤ 2 ^ 2 by decide) (Nat.pow_le_pow_right (n := 2) (by omega) (show 2 ≤ n - (8 * i + 2 * m) by omega))))]
        simp
    · rw [decide_eq_false h1]
      by_cases h3 : 8 * i ≤ n
      · rw [decide_eq_true (show 8 * i ≤ n ∧ n < 8 * i + 2 * m by omega), decide_eq_true (show 8 * i ≤ n ∧ n < 8 * i + 2 * (m + 1) by omega)]; simp
      · rw [decide_eq_false (show ¬ (8 * i ≤ n ∧ n < 8 * i + 2 * m) by omega), decide_eq_false (show ¬ (8 * i ≤ n ∧ n < 8 * i + 2 * (m + 1)) by omega)]; simp
theorem pkI_bt {v : Nat → Nat → Nat} (hv : ∀ i k, v i k < 4) {q : Nat} (hq : q ≤ 4) {n : Nat} (hn : n < 32) : ∀ m, m ≤ 4 → bt (pkI v q m) n = (decide (n < 8 * m ∧ n % 8 < 2 * q) && (v (n / 8) (n % 8 / 2)).testBit (n % 2))
  | 0, _ => by rw [pkI, b_0, decide_eq_false (by omega)]; rfl
  | m + 1, hm => by
    rw [pkI, pkK_bt (hv m) (by omega) _ hn q hq, pkI_bt hv hq hn m (by omega)]
    by_cases h1 : n < 8 * m
    · rw [decide_eq_false (show ¬ (8 * m ≤ n ∧ n < 8 * m + 2 * q) by omega)]
      by_cases h3 : n % 8 < 2 * q
      · rw [decide_eq_true (show n < 8 * m ∧ n % 8 < 2 * q by omega), decide_eq_true (show n < 8 * (m + 1) ∧ n % 8 < 2 * q by omega)]; simp
      · rw [decide_eq_false (show ¬ (n < 8 * m ∧ n % 8 < 2 * q) by omega), decide_eq_false (show ¬ (n < 8 * (m + 1) ∧ n % 8 < 2 * q) by omega)]; simp
    · rw [decide_eq_false (show ¬ (n < 8 * m ∧ n % 8 < 2 * q) by omega)]
      by_cases h2 : n < 8 * m + 2 * q
      · rw [decide_eq_true (show 8 * m ≤ n ∧ n < 8 * m + 2 * q by omega), decide_eq_true (show n < 8 * (m + 1) ∧ n % 8 < 2 * q by omega), show n / 8 = m by omega, show n % 8 / 2 = (n - 8 * m) / 2 by omega, show n % 2 = (n - 8 * m) % 2 by omega]; simp
      · rw [decide_eq_false (show ¬ (8 * m ≤ n ∧ n < 8 * m + 2 * q) by omega), decide_eq_false (show ¬ (n < 8 * (m + 1) ∧ n % 8 < 2 * q) by omega)]; simp
theorem en_0 : ∀ h l : Bool, (enN h l).testBit 0 = (l && !h) := by decide
theorem en_1 : ∀ h l : Bool, (enN h l).testBit 1 = h := by decide
theorem cjN_lo (a b : Int32) {i k : Nat} (hi : i < 4) (hk : k < 4) : ∀ j, j ≤ 4 → bt (cjN a b j) (8 * i + 2 * k) = orN (fun j => bt a (8 * i + 2 * j) && bt b (8 * j + 2 * k)) j
  | 0, _ => b_0 _
  | j + 1, hj => by rw [cjN, cj1_lo a b (by omega) _ hi hk, cjN_lo a b hi hk j (by omega), orN]
theorem cjN_hi (a b : Int32) {i k : Nat} (hi : i < 4) (hk : k < 4) : ∀ j, j ≤ 4 → bt (cjN a b j) (8 * i + 2 * k + 1) = orN (fun j => bt a (8 * i + 2 * j) && bt b (8 * j + 2 * k + 1) || bt a (8 * i + 2 * j + 1) && (bt b (8 * j + 2 * k) || bt b (8 * j + 2 * k + 1))) j
  | 0, _ => b_0 _
  | j + 1, hj => by rw [cjN, cj1_hi a b (by omega) _ hi hk, cjN_hi a b hi hk j (by omega), orN]
/-- both ways give the same graph -/
theorem cj_rj {a b : Int32} (ha : clN a) (hb : clN b) : cj a b = rj a b := by
  apply b_ext
  intro n hn
  unfold cj rj
  rw [pkI_bt (fun i k => mo_lt a b i k 4) (Nat.le_refl 4) hn 4 (Nat.le_refl _), decide_eq_true (by omega), Bool.true_and, mo_en ha hb (by omega) (by omega) 4 (Nat.le_refl _)]
  by_cases h : n % 2 = 0
  · rw [h, en_0]
    have e : n = 2 * (n / 2) := by omega
    have e2 : 2 * (n / 2) = 8 * (n / 8) + 2 * (n % 8 / 2) := by omega
    have h1 := t3_lo (cjN a b 4) (p := n / 2) (by omega)
    rw [← e] at h1
    rw [h1]
    rw [show bt (cjN a b 4) n = bt (cjN a b 4) (8 * (n / 8) + 2 * (n % 8 / 2)) by rw [← e2, ← e], show bt (cjN a b 4) (n + 1) = bt (cjN a b 4) (8 * (n / 8) + 2 * (n % 8 / 2) + 1) by rw [← e2, ← e]]
    rw [cjN_lo a b (by omega) (by omega) 4 (Nat.le_refl _), cjN_hi a b (by omega) (by omega) 4 (Nat.le_refl _)]
  · rw [show n % 2 = 1 by omega, en_1]
    have e : n = 2 * (n / 2) + 1 := by omega
    have e2 : 2 * (n / 2) + 1 = 8 * (n / 8) + 2 * (n % 8 / 2) + 1 := by omega
    have h1 := t3_hi (cjN a b 4) (p := n / 2) (by omega)
    rw [← e] at h1
    rw [h1, show bt (cjN a b 4) n = bt (cjN a b 4) (8 * (n / 8) + 2 * (n % 8 / 2) + 1) by rw [← e2, ← e], cjN_hi a b (by omega) (by omega) 4 (Nat.le_refl _)]
theorem cj_cl (a b : Int32) : clN (cj a b) := t3_cl _
/-! what is told of a call: bits of places that are there, two for three -/
def thI (row : Int32) : Nat → Int32
  | 0 => 0
  | i + 1 => thI row i ||| shl row (8 * i)
def clC (x : Int32) (p q : Nat) : Int32 := t3 (x &&& thI (shl 1 (2 * q) - 1) p)
theorem b_th : ∀ q, q < 5 → ∀ p, p < 5 → ∀ n, n < 32 → bt (thI (shl 1 (2 * q) - 1) p) n = decide (n < 8 * p ∧ n % 8 < 2 * q) := by decide +kernel
def v3 (v : Nat) : Nat := if v = 3 then 2 else v
def clR (x : Int32) (p q : Nat) : Int32 := pkI (fun i j => v3 (atN x i j)) q p
theorem v3_bit : ∀ b0 b1 : Bool, (v3 (b0.toNat + 2 * b1.toNat)).testBit 0 = (b0 && !b1) ∧ (v3 (b0.toNat + 2 * b1.toNat)).testBit 1 = b1 := by decide
theorem v3_lt {v : Nat} (h : v < 4) : v3 v < 4 := by unfold v3; split <;> omega
theorem cl_eq (x : Int32) {p q : Nat} (hp : p < 5) (hq : q < 5) : clC x p q = clR x p q := by
  apply b_ext
  intro n hn
  unfold clC clR
  rw [pkI_bt (fun i j => v3_lt (atN_lt x i j)) (by omega) hn p (by omega)]
  unfold atN
  by_cases h : n % 2 = 0
  · have e : n = 2 * (n / 2) := by omega
    have e2 : 8 * (n / 8) + 2 * (n % 8 / 2) = n := by omega
    have h1 := t3_lo (x &&& thI (shl 1 (2 * q) - 1) p) (p := n / 2) (by omega)
    rw [← e] at h1
    rw [h1, h, e2, (v3_bit _ _).1, b_and, b_and, b_th q hq p hp n hn, b_th q hq p hp (n + 1) (by omega)]
    by_cases h3 : n < 8 * p ∧ n % 8 < 2 * q
    · rw [decide_eq_true h3, decide_eq_true (show n + 1 < 8 * p ∧ (n + 1) % 8 < 2 * q by omega)]; simp
    · rw [decide_eq_false h3]; simp
  · have e : n = 2 * (n / 2) + 1 := by omega
    have e2 : 8 * (n / 8) + 2 * (n % 8 / 2) + 1 = n := by omega
    have h1 := t3_hi (x &&& thI (shl 1 (2 * q) - 1) p) (p := n / 2) (by omega)
    rw [← e] at h1
    rw [h1, show n % 2 = 1 by omega, (v3_bit _ _).2, e2, b_and, b_th q hq p hp n hn, Bool.and_comm]
theorem cl_cl (x : Int32) (p q : Nat) : clN (clC x p q) := t3_cl _
/-! a 2 from a place to itself -/
theorem b_di : ∀ n, n < 32 → bt 0x80200802 n = decide (n = 1 ∨ n = 11 ∨ n = 21 ∨ n = 31) := by decide +kernel
theorem at2_iff {x : Int32} (h : clN x) {i j : Nat} (hi : i < 4) (hj : j < 4) : atN x i j = 2 ↔ bt x (8 * i + 2 * j + 1) = true := by
  unfold atN
  have := h (4 * i + j) (by omega)
  rw [show 2 * (4 * i + j) = 8 * i + 2 * j by omega] at this
  revert this
  cases bt x (8 * i + 2 * j) <;> cases bt x (8 * i + 2 * j + 1) <;> decide
theorem di_iff {x : Int32} (h : clN x) : x &&& 0x80200802 = 0 ↔ ∀ i, i < 4 → atN x i i ≠ 2 := by
  constructor
  · intro e i hi h2
    have hb := (at2_iff h hi hi).mp h2
    have h3 : bt (x &&& 0x80200802) (8 * i + 2 * i + 1) = true := by
      rw [b_and, hb, b_di _ (by omega), decide_eq_true (by omega)]; rfl
    rw [e, b_0] at h3
    cases h3
  · intro e
    apply b_ext
    intro n hn
    rw [b_0, b_and, b_di n hn]
    by_cases h1 : n = 1 ∨ n = 11 ∨ n = 21 ∨ n = 31
    · have h2 := e (n / 10) (by omega)
      rw [Ne, at2_iff h (by omega) (by omega), show 8 * (n / 10) + 2 * (n / 10) + 1 = n by omega] at h2
      rw [Bool.not_eq_true] at h2
      rw [h2]; rfl
    · rw [decide_eq_false h1]; simp
end
section
/-! PURE: the order of a function's places. op: the open calls; pl: how many places. -/
section PO
variable (nC : Nat) (at2 : Nat → Nat → Nat) (pl : Nat)
/-- at2 c i: what call c has from place i to itself -/
def oCan (op : Nat → Bool) (i : Nat) : Prop := (∀ c, c < nC → op c = true → 0 < at2 c i) ∧ ∃ c, c < nC ∧ op c = true ∧ at2 c i = 2
/-- the least place that may be taken -/
def oNext (op : Nat → Bool) (i : Nat) : Prop := i < pl ∧ oCan nC at2 op i ∧ ∀ j, j < i → ¬ oCan nC at2 op j
def oNone (op : Nat → Bool) : Prop := ∀ i, i < pl → ¬ oCan nC at2 op i
def oCut (op : Nat → Bool) (i : Nat) : Nat → Bool := fun c => op c && !decide (at2 c i = 2)
def oOpen (op : Nat → Bool) : Prop := ∃ c, c < nC ∧ op c = true
/-- places taken one after another: op0 .. op -/
def oWay : List Nat → (Nat → Bool) → (Nat → Bool) → Prop
  | [], op0, op => op = op0
  | i :: t, op0, op => oOpen nC op0 ∧ oNext nC at2 pl op0 i ∧ oWay t (oCut at2 op0 i) op
theorem oNext_one {op : Nat → Bool} {i j : Nat} (hi : oNext nC at2 pl op i) (hj : oNext nC at2 pl op j) : i = j := by
  rcases Nat.lt_trichotomy i j with h | h | h
  · exact absurd hi.2.1 (hj.2.2 i h)
  · exact h
  · exact absurd hj.2.1 (hi.2.2 j h)
/-- how it ends: with none open, or with no place to take -/
def oEnd (op : Nat → Bool) : Prop := ¬ oOpen nC op ∨ oNone nC at2 pl op
/-- the way that ends is one -/
theorem oWay_one : ∀ {t u : List Nat} {op0 op op' : Nat → Bool}, oWay nC at2 pl t op0 op → oWay nC at2 pl u op0 op' → oEnd nC at2 pl op → oEnd nC at2 pl op' → t = u ∧ op = op'
  | [], [], op0, op, op', h1, h2, _, _ => ⟨rfl, h1.trans h2.symm⟩
  | [], j :: u, op0, op, op', h1, h2, e1, _ => by
    cases h1
    obtain ⟨a, b, -⟩ := h2
    rcases e1 with e1 | e1
    · exact absurd a e1
    · exact absurd b.2.1 (e1 j b.1)
  | i :: t, [], op0, op, op', h1, h2, _, e2 => by
    cases h2
    obtain ⟨a, b, -⟩ := h1
    rcases e2 with e2 | e2
    · exact absurd a e2
    · exact absurd b.2.1 (e2 i b.1)
  | i :: t, j :: u, op0, op, op', h1, h2, e1, e2 => by
    obtain ⟨-, b1, c1⟩ := h1
    obtain ⟨-, b2, c2⟩ := h2
    obtain rfl := oNext_one nC at2 pl b1 b2
    obtain ⟨rfl, rfl⟩ := oWay_one c1 c2 e1 e2
    exact ⟨rfl, rfl⟩
theorem oWay_snoc : ∀ {t : List Nat} {op0 op : Nat → Bool} {i : Nat}, oWay nC at2 pl t op0 op → oOpen nC op → oNext nC at2 pl op i → oWay nC at2 pl (t ++ [i]) op0 (oCut at2 op i)
  | [], op0, op, i, h, h2, h3 => by
    cases h
    exact ⟨h2, h3, rfl⟩
  | j :: t, op0, op, i, h, h2, h3 => ⟨h.1, h.2.1, oWay_snoc h.2.2 h2 h3⟩
/-- places taken have 2 in no open call -/
theorem oWay_no2 : ∀ {t : List Nat} {op0 op : Nat → Bool}, oWay nC at2 pl t op0 op → (∀ c, op c = true → op0 c = true) ∧ ∀ i ∈ t, ∀ c, op c = true → at2 c i ≠ 2
  | [], op0, op, h => by
    cases h
    exact ⟨fun _ h => h, fun i hi => by cases hi⟩
  | j :: t, op0, op, h => by
    obtain ⟨h1, h2⟩ := oWay_no2 h.2.2
    have hc : ∀ c, oCut at2 op0 j c = true → op0 c = true ∧ at2 c j ≠ 2 := by
      intro c hc
      unfold oCut at hc
      rw [Bool.and_eq_true, Bool.not_eq_true', decide_eq_false_iff_not] at hc
      exact hc
    refine ⟨fun c hop => (hc c (h1 c hop)).1, fun i hi c hop => ?_⟩
    rcases List.mem_cons.mp hi with rfl | hi
    · exact (hc c (h1 c hop)).2
    · exact h2 i hi c hop
theorem oNew {t : List Nat} {op0 op : Nat → Bool} {i : Nat} (h : oWay nC at2 pl t op0 op) (hi : oCan nC at2 op i) : i ∉ t := by
  intro hm
  obtain ⟨c, -, h1, h2⟩ := hi.2
  exact (oWay_no2 nC at2 pl h).2 i hm c h1 h2
/-- no more than there are places; and with all taken there is none to take -/
theorem oFull {t : List Nat} {op0 op : Nat → Bool} (h : oWay nC at2 pl t op0 op) (hn : t.Nodup) (hl : ∀ i ∈ t, i < pl) (hp : pl ≤ t.length) : oNone nC at2 pl op := by
  intro i hi hc
  have h1 := pg_le (i :: t) (List.range pl) (List.nodup_cons.mpr ⟨oNew nC at2 pl h hc, hn⟩) (fun x hx => by
    rcases List.mem_cons.mp hx with rfl | hx
    · exact List.mem_range.mpr hi
    · exact List.mem_range.mpr (hl x hx))
  rw [List.length_cons, List.length_range] at h1
  omega
theorem oLen {t : List Nat} (hn : t.Nodup) (hl : ∀ i ∈ t, i < pl) : t.length ≤ pl := by
  have h1 := pg_le t (List.range pl) hn (fun x hx => List.mem_range.mpr (hl x hx))
  rwa [List.length_range] at h1
end PO
/-! PURE: the row that led to an entry: its calls, the last first -/
def chn (es : List En) : Nat → Option Nat → List Nat
  | 0, _ => []
  | _ + 1, none => []
  | n + 1, some k => match es[k]? with
    | none => []
    | some e => e.2.2.2.2 :: chn es n e.2.2.2.1
theorem chn_more {es : List En} (hA : ∀ (j i : Nat) (e : En), es[j]? = some e → e.2.2.2.1 = some i → i < j) : ∀ {k n m : Nat}, k < n → k < m → chn es n (some k) = chn es m (some k) := by
  intro k
  induction k using Nat.strongRecOn with
  | ind k ih =>
    intro n m hn hm
    obtain ⟨n, rfl⟩ : ∃ a, n = a + 1 := ⟨n - 1, by omega⟩
    obtain ⟨m, rfl⟩ : ∃ a, m = a + 1 := ⟨m - 1, by omega⟩
    rw [chn, chn]
    cases he : es[k]? with
    | none => rfl
    | some e =>
      dsimp only
      cases hi : e.2.2.2.1 with
      | none => cases n <;> cases m <;> rfl
      | some i =>
        have := hA k i e he hi
        rw [ih i this (show i < n by omega) (show i < m by omega)]
end
