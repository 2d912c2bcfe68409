/-! PURE: all rows at once, and function by function -/
section PC
variable (nC : Nat) (cf ct : Nat → Nat) (ck : Nat → Int32) (J : Int32 → Int32 → Int32) (K : Nat)
/-- all graphs, found at once; those of rows from f -/
def gA : List En := bsG nC cf ct ck J (fun _ => true) K
def gF (f : Nat) : List En := bsG nC cf ct ck J (fun x => x == f) K
def gN : Nat → Nat
  | 0 => 0
  | f + 1 => gN f + (gF nC cf ct ck J K f).length
def gK : Nat → List Ky
  | 0 => []
  | f + 1 => gK f ++ (gF nC cf ct ck J K f).map kyE
theorem gK_len : ∀ f, (gK nC cf ct ck J K f).length = gN nC cf ct ck J K f
  | 0 => rfl
  | f + 1 => by rw [gK, gN, List.length_append, List.length_map, gK_len f]
theorem gF_first {f : Nat} {e : En} (h : e ∈ gF nC cf ct ck J K f) : e.1 = f := by
  have := (bsG_ok nC cf ct ck J _ _ e h).1
  exact beq_iff_eq.mp this
theorem gK_first : ∀ {n : Nat} {q : Ky}, q ∈ gK nC cf ct ck J K n → q.1 < n
  | 0, q, h => by cases h
  | n + 1, q, h => by
    rw [gK] at h
    rcases List.mem_append.mp h with h | h
    · exact Nat.lt_succ_of_lt (gK_first h)
    · obtain ⟨e, he, rfl⟩ := List.mem_map.mp h
      have := gF_first nC cf ct ck J K he
      show e.1 < n + 1
      omega
theorem gK_nd : ∀ n, (gK nC cf ct ck J K n).Nodup
  | 0 => List.nodup_nil
  | n + 1 => by
    rw [gK, List.nodup_append]
    refine ⟨gK_nd n, bsG_nd nC cf ct ck J _ _, ?_⟩
    intro a ha b hb hab
    obtain ⟨e, he, rfl⟩ := List.mem_map.mp hb
    have h1 := gK_first nC cf ct ck J K ha
    have h2 := gF_first nC cf ct ck J K he
    rw [hab] at h1
    have h3 : (kyE e).1 = e.1 := rfl
    omega
theorem gK_mem : ∀ {n : Nat} {q : Ky}, q ∈ gK nC cf ct ck J K n ↔ ∃ f, f < n ∧ q ∈ (gF nC cf ct ck J K f).map kyE
  | 0, q => by
    constructor
    · intro h; exact absurd h List.not_mem_nil
    · rintro ⟨f, h, -⟩; exact absurd h (Nat.not_lt_zero _)
  | n + 1, q => by
    rw [gK, List.mem_append, gK_mem]
    constructor
    · rintro (⟨f, h1, h2⟩ | h)
      · exact ⟨f, by omega, h2⟩
      · exact ⟨n, by omega, h⟩
    · rintro ⟨f, h1, h2⟩
      rcases Nat.lt_or_ge f n with h | h
      · exact Or.inl ⟨f, h, h2⟩
      · obtain rfl : f = n := by omega
        exact Or.inr h2
theorem gA_all (h : (gA nC cf ct ck J K).length ≤ K) {f g : Nat} {b : Int32} (hr : Rch nC cf ct ck J f g b) : (f, g, b) ∈ (gA nC cf ct ck J K).map kyE := by
  obtain ⟨n, hn⟩ := hr
  exact bsG_all nC cf ct ck J _ h rfl n g b hn
theorem gF_all {f : Nat} (h : (gF nC cf ct ck J K f).length ≤ K) {g : Nat} {b : Int32} (hr : Rch nC cf ct ck J f g b) : (f, g, b) ∈ (gF nC cf ct ck J K f).map kyE := by
  obtain ⟨n, hn⟩ := hr
  exact bsG_all nC cf ct ck J _ h (beq_iff_eq.mpr rfl) n g b hn
theorem rch_of {ok : Nat → Bool} {k : Nat} {q : Ky} (h : q ∈ (bsG nC cf ct ck J ok k).map kyE) : Rch nC cf ct ck J q.1 q.2.1 q.2.2 := by
  obtain ⟨e, he, rfl⟩ := List.mem_map.mp h
  exact (bsG_ok nC cf ct ck J ok k e he).2
theorem rch_first {nF : Nat} (hF : ∀ c, c < nC → cf c < nF) : ∀ {n f g b}, rwN nC cf ct ck J n f g b → f < nF
  | 0, f, g, b, h => by obtain ⟨c, hc, rfl, -, -⟩ := h; exact hF c hc
  | n + 1, f, g, b, h => by obtain ⟨g', b', c, h1, -⟩ := h; exact rch_first hF h1
theorem gN_ge : ∀ {n f : Nat}, f < n → (gF nC cf ct ck J K f).length ≤ gN nC cf ct ck J K n
  | 0, f, h => absurd h (Nat.not_lt_zero _)
  | n + 1, f, h => by
    rw [gN]
    rcases Nat.lt_or_ge f n with h1 | h1
    · have := gN_ge h1; omega
    · obtain rfl : f = n := by omega
      omega
theorem gN_mono {a : Nat} : ∀ {b : Nat}, a ≤ b → gN nC cf ct ck J K a ≤ gN nC cf ct ck J K b := by
  intro b h
  induction b with
  | zero => obtain rfl : a = 0 := by omega
            exact Nat.le_refl _
  | succ b ih =>
    rcases Nat.lt_or_ge b a with h1 | h1
    · obtain rfl : a = b + 1 := by omega
      exact Nat.le_refl _
    · have := ih h1
      rw [gN]; omega
/-- at most 800 in all, counted in either way -/
theorem g_few {nF : Nat} (hK : 801 ≤ K) (hF : ∀ c, c < nC → cf c < nF) : (gA nC cf ct ck J K).length ≤ 800 ↔ gN nC cf ct ck J K nF ≤ 800 := by
  constructor
  · intro h
    rw [← gK_len]
    refine Nat.le_trans (pg_le _ ((gA nC cf ct ck J K).map kyE) (gK_nd nC cf ct ck J K nF) ?_) (by rw [List.length_map]; exact h)
    intro q hq
    obtain ⟨f, -, hq⟩ := (gK_mem nC cf ct ck J K).mp hq
    exact gA_all nC cf ct ck J K (by omega) (rch_of nC cf ct ck J hq)
  · intro h
    rw [← gK_len] at h
    rw [← List.length_map (f := kyE)]
    refine Nat.le_trans (pg_le _ (gK nC cf ct ck J K nF) (bsG_nd nC cf ct ck J _ _) ?_) h
    intro q hq
    have hr := rch_of nC cf ct ck J hq
    have hlt : q.1 < nF := by obtain ⟨n, hn⟩ := hr; exact rch_first nC cf ct ck J hF hn
    rw [gK_len] at h
    have := gN_ge nC cf ct ck J K hlt
    exact (gK_mem nC cf ct ck J K).mpr ⟨q.1, hlt, gF_all nC cf ct ck J K (by omega) hr⟩
/-- with at most 800 the rows from f are the same ones -/
theorem g_same {nF : Nat} (hK : 801 ≤ K) (hF : ∀ c, c < nC → cf c < nF) (h : (gA nC cf ct ck J K).length ≤ 800) {f : Nat} (hf : f < nF) (q : Ky) : q ∈ (gF nC cf ct ck J K f).map kyE ↔ q ∈ (gA nC cf ct ck J K).map kyE ∧ q.1 = f := by
  have hl : (gF nC cf ct ck J K f).length ≤ 800 := Nat.le_trans (gN_ge nC cf ct ck J K hf) ((g_few nC cf ct ck J K hK hF).mp h)
  constructor
  · intro hq
    refine ⟨gA_all nC cf ct ck J K (by omega) (rch_of nC cf ct ck J hq), ?_⟩
    obtain ⟨e, he, rfl⟩ := List.mem_map.mp hq
    exact gF_first nC cf ct ck J K he
  · rintro ⟨hq, rfl⟩
    exact gF_all nC cf ct ck J K (by omega) (rch_of nC cf ct ck J hq)
theorem g_cnt {nF : Nat} (hK : 801 ≤ K) (hF : ∀ c, c < nC → cf c < nF) (h : (gA nC cf ct ck J K).length ≤ 800) {f : Nat} (hf : f < nF) (p : Ky → Bool) : ((gF nC cf ct ck J K f).map kyE).countP p = ((gA nC cf ct ck J K).map kyE).countP (fun q => q.1 == f && p q) := by
  have h1 := pg_cnt (l1 := (gF nC cf ct ck J K f).map kyE) (l2 := ((gA nC cf ct ck J K).map kyE).filter (fun q => q.1 == f)) (bsG_nd nC cf ct ck J _ _) (List.Nodup.sublist List.filter_sublist (bsG_nd nC cf ct ck J _ _)) (fun q => by
    rw [g_same nC cf ct ck J K hK hF h hf, List.mem_filter, beq_iff_eq]) p
  rw [h1, List.countP_filter]
  exact congrArg (fun z => List.countP z _) (funext fun q => Bool.and_comm _ _)
end PC
