/-! PURE: class and reference side by side -/
theorem addE_cl {es : List En} {e : En} (hes : ∀ x ∈ es, clN x.2.2.1) (he : clN e.2.2.1) : ∀ x ∈ addE es e, clN x.2.2.1 := fun x hx => by
  rcases addE_mem hx with h | h
  · exact hes x h
  · rw [h]; exact he
section PT
variable (nC : Nat) (cf ct : Nat → Nat) (ck : Nat → Int32)
theorem bs0_cl (ok : Nat → Bool) (hcl : ∀ c, c < nC → clN (ck c)) : ∀ c, c ≤ nC → ∀ x ∈ bs0 cf ct ck ok c, clN x.2.2.1
  | 0, _ => fun x hx => absurd hx List.not_mem_nil
  | c + 1, hc => by
    rw [bs0]
    split
    · exact addE_cl (bs0_cl ok hcl c (by omega)) (hcl c (by omega))
    · exact bs0_cl ok hcl c (by omega)
theorem bsI_cr (hcl : ∀ c, c < nC → clN (ck c)) {k : Nat} {e : En} {es : List En} (he : clN e.2.2.1) (hes : ∀ x ∈ es, clN x.2.2.1) : ∀ c, c ≤ nC → bsI cf ct ck cj k e es c = bsI cf ct ck rj k e es c ∧ ∀ x ∈ bsI cf ct ck cj k e es c, clN x.2.2.1
  | 0, _ => ⟨rfl, hes⟩
  | c + 1, hc => by
    obtain ⟨h1, h2⟩ := bsI_cr hcl (k := k) he hes c (by omega)
    rw [bsI, bsI]
    split
    · rw [← h1, cj_rj he (hcl c (by omega))]
      refine ⟨rfl, addE_cl h2 ?_⟩
      rw [← cj_rj he (hcl c (by omega))]
      exact cj_cl _ _
    · exact ⟨h1, h2⟩
theorem bsG_cr (ok : Nat → Bool) (hcl : ∀ c, c < nC → clN (ck c)) : ∀ k, bsG nC cf ct ck cj ok k = bsG nC cf ct ck rj ok k ∧ ∀ x ∈ bsG nC cf ct ck cj ok k, clN x.2.2.1
  | 0 => ⟨rfl, bs0_cl nC cf ct ck ok hcl nC (Nat.le_refl _)⟩
  | k + 1 => by
    obtain ⟨h1, h2⟩ := bsG_cr ok hcl k
    rw [bsG, bsG, ← h1]
    cases he : (bsG nC cf ct ck cj ok k)[k]? with
    | none => exact ⟨rfl, h2⟩
    | some e => exact bsI_cr nC cf ct ck hcl (h2 e (List.mem_of_getElem? he)) h2 nC (Nat.le_refl _)
variable (K : Nat)
theorem gF_cr (hcl : ∀ c, c < nC → clN (ck c)) (f : Nat) : gF nC cf ct ck cj K f = gF nC cf ct ck rj K f := (bsG_cr nC cf ct ck (fun x => x == f) hcl K).1
theorem gF_cl (hcl : ∀ c, c < nC → clN (ck c)) (f : Nat) : ∀ x ∈ gF nC cf ct ck rj K f, clN x.2.2.1 := by
  rw [← gF_cr nC cf ct ck K hcl f]
  exact (bsG_cr nC cf ct ck (fun x => x == f) hcl K).2
theorem gN_cr (hcl : ∀ c, c < nC → clN (ck c)) : ∀ f, gN nC cf ct ck cj K f = gN nC cf ct ck rj K f
  | 0 => rfl
  | f + 1 => by rw [gN, gN, gN_cr hcl f, gF_cr nC cf ct ck K hcl f]
/-- at most 800, in either way of counting, with either join -/
theorem few_iff {nF : Nat} (hcl : ∀ c, c < nC → clN (ck c)) (hK : 801 ≤ K) (hF : ∀ c, c < nC → cf c < nF) : (gA nC cf ct ck rj K).length ≤ 800 ↔ gN nC cf ct ck cj K nF ≤ 800 := by
  rw [gN_cr nC cf ct ck K hcl]
  exact g_few nC cf ct ck rj K hK hF
theorem bad_iff {x : Int32} (h : clN x) : badC x ↔ badX x := by
  unfold badC badX
  rw [cj_rj h h]
/-- no bad row: by one function's rows, by all rows -/
theorem fall_iff {nF f : Nat} (hcl : ∀ c, c < nC → clN (ck c)) (hK : 801 ≤ K) (hF : ∀ c, c < nC → cf c < nF) (hle : (gA nC cf ct ck rj K).length ≤ 800) (hf : f < nF) : (∃ en ∈ gF nC cf ct ck cj K f, en.2.1 = f ∧ badC en.2.2.1) ↔ ∃ en ∈ gA nC cf ct ck rj K, en.1 = f ∧ en.2.1 = f ∧ badX en.2.2.1 := by
  rw [gF_cr nC cf ct ck K hcl f]
  constructor
  · rintro ⟨en, h1, h2, h3⟩
    have h4 := (g_same nC cf ct ck rj K hK hF hle hf (kyE en)).mp (List.mem_map.mpr ⟨en, h1, rfl⟩)
    obtain ⟨e2, h5, h6⟩ := List.mem_map.mp h4.1
    have e1 : e2.1 = f := (congrArg Prod.fst h6).trans h4.2
    have q2 : e2.2.1 = en.2.1 := congrArg (fun z : Ky => z.2.1) h6
    have q3 : e2.2.2.1 = en.2.2.1 := congrArg (fun z : Ky => z.2.2) h6
    exact ⟨e2, h5, e1, q2.trans h2, by rw [q3]; exact (bad_iff (gF_cl nC cf ct ck K hcl f en h1)).mp h3⟩
  · rintro ⟨en, h1, h2, h3, h4⟩
    have h5 := (g_same nC cf ct ck rj K hK hF hle hf (kyE en)).mpr ⟨List.mem_map.mpr ⟨en, h1, rfl⟩, h2⟩
    obtain ⟨e2, h6, h7⟩ := List.mem_map.mp h5
    have q2 : e2.2.1 = en.2.1 := congrArg (fun z : Ky => z.2.1) h7
    have q3 : e2.2.2.1 = en.2.2.1 := congrArg (fun z : Ky => z.2.2) h7
    exact ⟨e2, h6, q2.trans h3, (bad_iff (gF_cl nC cf ct ck K hcl f e2 h6)).mpr (by rw [q3]; exact h4)⟩
theorem fbO_none {f : Nat} (h : fbO nC cf ct ck K f none) : ¬ ∃ en ∈ gF nC cf ct ck cj K f, en.2.1 = f ∧ badC en.2.2.1 := by
  rcases h with ⟨-, h⟩ | ⟨k, en, h, -⟩
  · rintro ⟨en, h1, h2⟩; exact h en h1 h2
  · cases h
theorem fbO_some {f j : Nat} (h : fbO nC cf ct ck K f (some j)) : ∃ en ∈ gF nC cf ct ck cj K f, en.2.1 = f ∧ badC en.2.2.1 := by
  rcases h with ⟨h, -⟩ | ⟨k, en, -, h1, h2, -⟩
  · cases h
  · exact ⟨en, List.mem_of_getElem? h1, h2⟩
/-- how many graphs between two functions -/
theorem cnt_tie {nF i j : Nat} (hcl : ∀ c, c < nC → clN (ck c)) (hK : 801 ≤ K) (hF : ∀ c, c < nC → cf c < nF) (hle : (gA nC cf ct ck rj K).length ≤ 800) (hi : i < nF) : (bitsL (gF nC cf ct ck cj K i) j).length = (gA nC cf ct ck rj K).countP (qFG i j) := by
  have h := g_cnt nC cf ct ck rj K hK hF hle hi (fun q => q.2.1 == j)
  rw [List.countP_map, List.countP_map] at h
  rw [gF_cr nC cf ct ck K hcl i]
  unfold bitsL
  rw [List.length_map, ← List.countP_eq_length_filter]
  exact h
/-- the k-th graph -/
theorem kth_tie {nF i j k F left : Nat} {r : Int32} {T : List Int32} (hcl : ∀ c, c < nC → clN (ck c)) (hK : 801 ≤ K) (hF : ∀ c, c < nC → cf c < nF) (hle : (gA nC cf ct ck rj K).length ≤ 800) (hi : i < nF) (hF32 : F < 2 ^ 32) (hsel : selOk (bitsL (gF nC cf ct ck cj K i) j) k 0 F left) (hT : inT (gA nC cf ct ck rj K) i j (gA nC cf ct ck rj K).length T) (hr : T[k]? = some r) : nI F = r := by
  rw [gF_cr nC cf ct ck K hcl i] at hsel
  obtain ⟨h1, h2, h3⟩ := hT
  -- the bits between i and j are those of T
  have hmem : ∀ z, z ∈ bitsL (gF nC cf ct ck rj K i) j ↔ z ∈ T.map uN := by
    intro z
    unfold bitsL
    rw [List.mem_map, List.mem_map]
    constructor
    · rintro ⟨en, he, rfl⟩
      obtain ⟨he1, he2⟩ := List.mem_filter.mp he
      have h4 := (g_same nC cf ct ck rj K hK hF hle hi (kyE en)).mp (List.mem_map.mpr ⟨en, he1, rfl⟩)
      obtain ⟨e2, h5, h6⟩ := List.mem_map.mp h4.1
      obtain ⟨q, hq⟩ := List.getElem?_of_mem h5
      have e1 : e2.1 = i := (congrArg Prod.fst h6).trans h4.2
      have q2 : e2.2.1 = en.2.1 := congrArg (fun z : Ky => z.2.1) h6
      have q3 : e2.2.2.1 = en.2.2.1 := congrArg (fun z : Ky => z.2.2) h6
      refine ⟨en.2.2.1, (h2 _).mpr ⟨q, e2, (List.getElem?_eq_some_iff.mp hq).1, hq, ?_, q3⟩, rfl⟩
      unfold qFG
      rw [e1, q2, beq_iff_eq.mp he2]
      simp
    · rintro ⟨x, hx, rfl⟩
      obtain ⟨q, e2, -, hq, hg, rfl⟩ := (h2 x).mp hx
      unfold qFG at hg
      rw [Bool.and_eq_true, beq_iff_eq, beq_iff_eq] at hg
      obtain ⟨e3, h6, h7⟩ := List.mem_map.mp ((g_same nC cf ct ck rj K hK hF hle hi (kyE e2)).mpr ⟨List.mem_map.mpr ⟨e2, List.mem_of_getElem? hq, rfl⟩, hg.1⟩)
      have q2 : e3.2.1 = e2.2.1 := congrArg (fun z : Ky => z.2.1) h7
      have q3 : e3.2.2.1 = e2.2.2.1 := congrArg (fun z : Ky => z.2.2) h7
      exact ⟨e3, List.mem_filter.mpr ⟨h6, by rw [q2, hg.2]; exact beq_self_eq_true j⟩, by rw [q3]⟩
  have hTn : (T.map uN).Nodup := h1.imp (fun h => Nat.ne_of_lt h)
  have hBn : (bitsL (gF nC cf ct ck rj K i) j).Nodup := by
    have hg : ((gF nC cf ct ck rj K i).map kyE).Nodup := bsG_nd nC cf ct ck rj (fun x => x == i) K
    unfold bitsL
    have h5 : (((gF nC cf ct ck rj K i).filter (fun e => e.2.1 == j)).map kyE).Nodup := hg.sublist (List.filter_sublist.map _)
    rw [List.Nodup, List.pairwise_map] at h5
    rw [List.Nodup, List.pairwise_map]
    refine h5.imp_of_mem (fun {a b} ha hb hab => ?_)
    intro hu
    apply hab
    have ha2 := List.mem_filter.mp ha
    have hb2 := List.mem_filter.mp hb
    unfold kyE
    rw [gF_first nC cf ct ck rj K ha2.1, gF_first nC cf ct ck rj K hb2.1, beq_iff_eq.mp ha2.2, beq_iff_eq.mp hb2.2, uN_inj hu]
  obtain ⟨hm, hc⟩ := sel_end hBn hsel
  have hr2 : (T.map uN)[k]? = some (uN r) := by rw [List.getElem?_map, hr]; rfl
  have hcT := srt_cnt h1 hr2
  have hcc : (bitsL (gF nC cf ct ck rj K i) j).countP (fun z => decide (z < uN r)) = (T.map uN).countP (fun z => decide (z < uN r)) := pg_cnt hBn hTn hmem _
  have hFr : F = uN r := kth_one hm ((hmem _).mpr (List.mem_of_getElem? hr2)) (by rw [hc, hcc, hcT])
  rw [hFr]
  exact uN_inj (pk_tn (uN_lt r))
/-- the row of a graph: by its place among one function's, among all -/
theorem chn_tie {n f : Nat} (hf : f < n) : ∀ (k : Nat), k < (gF nC cf ct ck cj K f).length → ∀ N M, k < N → gN nC cf ct ck cj K f + k < M → chn (RSf nC cf ct ck K n) M (some (gN nC cf ct ck cj K f + k)) = chn (gF nC cf ct ck cj K f) N (some k) := by
  intro k
  induction k using Nat.strongRecOn with
  | ind k ih =>
    intro hk N M hN hM
    obtain ⟨N, rfl⟩ : ∃ a, N = a + 1 := ⟨N - 1, by omega⟩
    obtain ⟨M, rfl⟩ : ∃ a, M = a + 1 := ⟨M - 1, by omega⟩
    cases he : (gF nC cf ct ck cj K f)[k]? with
    | none => rw [List.getElem?_eq_none_iff] at he; omega
    | some e =>
      rw [chn, chn, he, RSf_at nC cf ct ck K hf he]
      show e.2.2.2.2 :: chn _ M (e.2.2.2.1.map (fun k => gN nC cf ct ck cj K f + k)) = e.2.2.2.2 :: chn _ N e.2.2.2.1
      congr 1
      cases hi : e.2.2.2.1 with
      | none => cases M <;> cases N <;> rfl
      | some i =>
        have hik : i < k := bsG_ahead nC cf ct ck cj (fun x => x == f) K k i e he hi
        exact ih i hik (by omega) N M (by omega) (by omega)
end PT
