/-! PURE: the order of a function's places. op: the open calls; pl: how many places. -/
section PO
variable (nC : Nat) (at2 : Nat → Nat → Nat) (pl : Nat)
/-- at2 c i: what call c has from place i to itself -/
def oCan (op : Nat → Bool) (i : Nat) : Prop := (∀ c, c < nC → op c = true → 0 < at2 c i) ∧ ∃ c, c < nC ∧ op c = true ∧ at2 c i = 2
/-- the least place that may be taken -/
def oNext (op : Nat → Bool) (i : Nat) : Prop := i < pl ∧ oCan nC at2 op i ∧ ∀ j, j < i → ¬ oCan nC at2 op j
def oNone (op : Nat → Bool) : Prop := ∀ i, i < pl → ¬ oCan nC at2 op i
def oCut (op : Nat → Bool) (i : Nat) : Nat → Bool := fun c => op c && !decide (at2 c i = 2)
def oOpen (op : Nat → Bool) : Prop := ∃ c, c < nC ∧ op c = true
/-- places taken one after another: op0 .. op -/
def oWay : List Nat → (Nat → Bool) → (Nat → Bool) → Prop
  | [], op0, op => op = op0
  | i :: t, op0, op => oOpen nC op0 ∧ oNext nC at2 pl op0 i ∧ oWay t (oCut at2 op0 i) op
theorem oNext_one {op : Nat → Bool} {i j : Nat} (hi : oNext nC at2 pl op i) (hj : oNext nC at2 pl op j) : i = j := by
  rcases Nat.lt_trichotomy i j with h | h | h
  · exact absurd hi.2.1 (hj.2.2 i h)
  · exact h
  · exact absurd hj.2.1 (hi.2.2 j h)
/-- how it ends: with none open, or with no place to take -/
def oEnd (op : Nat → Bool) : Prop := ¬ oOpen nC op ∨ oNone nC at2 pl op
/-- the way that ends is one -/
theorem oWay_one : ∀ {t u : List Nat} {op0 op op' : Nat → Bool}, oWay nC at2 pl t op0 op → oWay nC at2 pl u op0 op' → oEnd nC at2 pl op → oEnd nC at2 pl op' → t = u ∧ op = op'
  | [], [], op0, op, op', h1, h2, _, _ => ⟨rfl, h1.trans h2.symm⟩
  | [], j :: u, op0, op, op', h1, h2, e1, _ => by
    cases h1
    obtain ⟨a, b, -⟩ := h2
    rcases e1 with e1 | e1
    · exact absurd a e1
    · exact absurd b.2.1 (e1 j b.1)
  | i :: t, [], op0, op, op', h1, h2, _, e2 => by
    cases h2
    obtain ⟨a, b, -⟩ := h1
    rcases e2 with e2 | e2
    · exact absurd a e2
    · exact absurd b.2.1 (e2 i b.1)
  | i :: t, j :: u, op0, op, op', h1, h2, e1, e2 => by
    obtain ⟨-, b1, c1⟩ := h1
    obtain ⟨-, b2, c2⟩ := h2
    obtain rfl := oNext_one nC at2 pl b1 b2
    obtain ⟨rfl, rfl⟩ := oWay_one c1 c2 e1 e2
    exact ⟨rfl, rfl⟩
theorem oWay_snoc : ∀ {t : List Nat} {op0 op : Nat → Bool} {i : Nat}, oWay nC at2 pl t op0 op → oOpen nC op → oNext nC at2 pl op i → oWay nC at2 pl (t ++ [i]) op0 (oCut at2 op i)
  | [], op0, op, i, h, h2, h3 => by
    cases h
    exact ⟨h2, h3, rfl⟩
  | j :: t, op0, op, i, h, h2, h3 => ⟨h.1, h.2.1, oWay_snoc h.2.2 h2 h3⟩
/-- places taken have 2 in no open call -/
theorem oWay_no2 : ∀ {t : List Nat} {op0 op : Nat → Bool}, oWay nC at2 pl t op0 op → (∀ c, op c = true → op0 c = true) ∧ ∀ i ∈ t, ∀ c, op c = true → at2 c i ≠ 2
  | [], op0, op, h => by
    cases h
    exact ⟨fun _ h => h, fun i hi => by cases hi⟩
  | j :: t, op0, op, h => by
    obtain ⟨h1, h2⟩ := oWay_no2 h.2.2
    have hc : ∀ c, oCut at2 op0 j c = true → op0 c = true ∧ at2 c j ≠ 2 := by
      intro c hc
      unfold oCut at hc
      rw [Bool.and_eq_true, Bool.not_eq_true', decide_eq_false_iff_not] at hc
      exact hc
    refine ⟨fun c hop => (hc c (h1 c hop)).1, fun i hi c hop => ?_⟩
    rcases List.mem_cons.mp hi with rfl | hi
    · exact (hc c (h1 c hop)).2
    · exact h2 i hi c hop
theorem oNew {t : List Nat} {op0 op : Nat → Bool} {i : Nat} (h : oWay nC at2 pl t op0 op) (hi : oCan nC at2 op i) : i ∉ t := by
  intro hm
  obtain ⟨c, -, h1, h2⟩ := hi.2
  exact (oWay_no2 nC at2 pl h).2 i hm c h1 h2
/-- no more than there are places; and with all taken there is none to take -/
theorem oFull {t : List Nat} {op0 op : Nat → Bool} (h : oWay nC at2 pl t op0 op) (hn : t.Nodup) (hl : ∀ i ∈ t, i < pl) (hp : pl ≤ t.length) : oNone nC at2 pl op := by
  intro i hi hc
  have h1 := pg_le (i :: t) (List.range pl) (List.nodup_cons.mpr ⟨oNew nC at2 pl h hc, hn⟩) (fun x hx => by
    rcases List.mem_cons.mp hx with rfl | hx
    · exact List.mem_range.mpr hi
    · exact List.mem_range.mpr (hl x hx))
  rw [List.length_cons, List.length_range] at h1
  omega
theorem oLen {t : List Nat} (hn : t.Nodup) (hl : ∀ i ∈ t, i < pl) : t.length ≤ pl := by
  have h1 := pg_le t (List.range pl) hn (fun x hx => List.mem_range.mpr (hl x hx))
  rwa [List.length_range] at h1
end PO
/-! PURE: the row that led to an entry: its calls, the last first -/
def chn (es : List En) : Nat → Option Nat → List Nat
  | 0, _ => []
  | _ + 1, none => []
  | n + 1, some k => match es[k]? with
    | none => []
    | some e => e.2.2.2.2 :: chn es n e.2.2.2.1
theorem chn_more {es : List En} (hA : ∀ (j i : Nat) (e : En), es[j]? = some e → e.2.2.2.1 = some i → i < j) : ∀ {k n m : Nat}, k < n → k < m → chn es n (some k) = chn es m (some k) := by
  intro k
  induction k using Nat.strongRecOn with
  | ind k ih =>
    intro n m hn hm
    obtain ⟨n, rfl⟩ : ∃ a, n = a + 1 := ⟨n - 1, by omega⟩
    obtain ⟨m, rfl⟩ : ∃ a, m = a + 1 := ⟨m - 1, by omega⟩
    rw [chn, chn]
    cases he : es[k]? with
    | none => rfl
    | some e =>
      dsimp only
      cases hi : e.2.2.2.1 with
      | none => cases n <;> cases m <;> rfl
      | some i =>
        have := hA k i e he hi
        rw [ih i this (show i < n by omega) (show i < m by omega)]
