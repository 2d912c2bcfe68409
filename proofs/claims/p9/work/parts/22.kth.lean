/-! PURE: the k-th of different numbers, sorted by moving, or found bit by bit -/
theorem cn_congr {B : List Nat} {p q : Nat → Bool} (h : ∀ z ∈ B, p z = q z) : B.countP p = B.countP q := by
  induction B with
  | nil => rfl
  | cons a t ih =>
    rw [List.countP_cons, List.countP_cons, ih (fun z hz => h z (List.mem_cons_of_mem _ hz)), h a List.mem_cons_self]
theorem cn_add {B : List Nat} {p q r : Nat → Bool} (h : ∀ z ∈ B, (if p z = true then 1 else 0) = (if q z = true then 1 else 0) + (if r z = true then 1 else 0)) : B.countP p = B.countP q + B.countP r := by
  induction B with
  | nil => rfl
  | cons a t ih =>
    rw [List.countP_cons, List.countP_cons, List.countP_cons, ih (fun z hz => h z (List.mem_cons_of_mem _ hz))]
    have := h a List.mem_cons_self
    omega
theorem cn_le {B : List Nat} {p q : Nat → Bool} (h : ∀ z ∈ B, p z = true → q z = true) : B.countP p ≤ B.countP q := by
  induction B with
  | nil => exact Nat.le_refl _
  | cons a t ih =>
    rw [List.countP_cons, List.countP_cons]
    have h1 := ih (fun z hz => h z (List.mem_cons_of_mem _ hz))
    have h2 := h a List.mem_cons_self
    by_cases hp : p a = true
    · rw [if_pos hp, if_pos (h2 hp)]; omega
    · rw [if_neg hp]; omega
theorem cn_lt {B : List Nat} {x y : Nat} (hx : x ∈ B) (h : x < y) : B.countP (fun z => decide (z < x)) < B.countP (fun z => decide (z < y)) := by
  induction B with
  | nil => cases hx
  | cons a t ih =>
    rw [List.countP_cons, List.countP_cons]
    rcases List.mem_cons.mp hx with rfl | hx
    · have h1 := cn_le (B := t) (p := fun z => decide (z < x)) (q := fun z => decide (z < y)) (fun z _ hz => by simp only [decide_eq_true_eq] at hz ⊢; omega)
      rw [if_neg (by simp), if_pos (by simpa using h)]
      omega
    · have h1 := ih hx
      by_cases hp : a < x
      · rw [if_pos (by simpa using hp), if_pos (by simp; omega)]; omega
      · rw [if_neg (by simpa using hp)]; omega
theorem kth_one {B : List Nat} {x y : Nat} (hx : x ∈ B) (hy : y ∈ B) (h : B.countP (fun z => decide (z < x)) = B.countP (fun z => decide (z < y))) : x = y := by
  rcases Nat.lt_trichotomy x y with h1 | h1 | h1
  · have := cn_lt hx h1; omega
  · exact h1
  · have := cn_lt hy h1; omega
theorem srt_cnt : ∀ {S : List Nat} {k x : Nat}, S.Pairwise (· < ·) → S[k]? = some x → S.countP (fun z => decide (z < x)) = k
  | [], k, x, _, h => by simp at h
  | a :: t, 0, x, hp, h => by
    cases h
    have h1 := (List.pairwise_cons.mp hp).1
    rw [List.countP_cons, if_neg (by simp)]
    have : t.countP (fun z => decide (z < a)) = t.countP (fun _ => false) := cn_congr (fun z hz => by have := h1 z hz; simp; omega)
    rw [this]; simp
  | a :: t, k + 1, x, hp, h => by
    have h1 := (List.pairwise_cons.mp hp).1
    have h2 : t[k]? = some x := h
    have h3 := h1 x (List.mem_of_getElem? h2)
    rw [List.countP_cons, if_pos (by simpa using h3), srt_cnt (List.pairwise_cons.mp hp).2 h2]
/-- a new one, moved to its place -/
theorem srt_put {S : List Nat} {p x : Nat} (hS : S.Pairwise (· < ·)) (hp : p ≤ S.length) (hlo : ∀ j z, j < p → S[j]? = some z → z < x) (hhi : ∀ j z, p ≤ j → S[j]? = some z → x < z) : (S.take p ++ x :: S.drop p).Pairwise (· < ·) := by
  rw [List.pairwise_append]
  refine ⟨hS.take, ?_, ?_⟩
  · rw [List.pairwise_cons]
    refine ⟨?_, hS.drop⟩
    intro z hz
    obtain ⟨j, hj⟩ := List.getElem?_of_mem hz
    rw [List.getElem?_drop] at hj
    exact hhi (p + j) z (by omega) hj
  · intro a ha b hb
    obtain ⟨j, hj⟩ := List.getElem?_of_mem ha
    have hjl := (List.getElem?_eq_some_iff.mp hj).1
    rw [List.length_take] at hjl
    have hjp : j < p := by omega
    rw [List.getElem?_take_of_lt hjp] at hj
    have hax := hlo j a hjp hj
    rcases List.mem_cons.mp hb with rfl | hb
    · exact hax
    · obtain ⟨i, hi⟩ := List.getElem?_of_mem hb
      rw [List.getElem?_drop] at hi
      have := hhi (p + i) b (by omega) hi
      omega
theorem mem_put {S : List Nat} {p x y : Nat} : y ∈ S.take p ++ x :: S.drop p ↔ y = x ∨ y ∈ S := by
  have h : y ∈ S ↔ y ∈ S.take p ∨ y ∈ S.drop p := by
    conv => lhs; rw [← List.take_append_drop p S]
    exact List.mem_append
  rw [List.mem_append, List.mem_cons, h]
  constructor
  · rintro (h | h | h)
    · exact Or.inr (Or.inl h)
    · exact Or.inl h
    · exact Or.inr (Or.inr h)
  · rintro (h | h | h)
    · exact Or.inr (Or.inl h)
    · exact Or.inl h
    · exact Or.inr (Or.inr h)
/-- bit by bit, the highest first: b bits are left, F are those found, left of k -/
def selOk (B : List Nat) (k b F left : Nat) : Prop := left + B.countP (fun z => decide (z / 2 ^ b < F)) = k ∧ left < B.countP (fun z => decide (z / 2 ^ b = F))
theorem sel_half (z b : Nat) : z / 2 ^ (b + 1) = z / 2 ^ b / 2 := by
  rw [Nat.pow_succ, Nat.div_div_eq_div_mul]
theorem sel_lt (B : List Nat) (b F : Nat) : B.countP (fun z => decide (z / 2 ^ (b + 1) < F)) = B.countP (fun z => decide (z / 2 ^ b < 2 * F)) :=
  cn_congr (fun z _ => by rw [sel_half]; congr 1; apply propext; omega)
theorem sel_eq (B : List Nat) (b F : Nat) : B.countP (fun z => decide (z / 2 ^ (b + 1) = F)) = B.countP (fun z => decide (z / 2 ^ b = 2 * F)) + B.countP (fun z => decide (z / 2 ^ b = 2 * F + 1)) :=
  cn_add (fun z _ => by
    rw [sel_half]
    simp only [decide_eq_true_eq]
    by_cases h1 : z / 2 ^ b = 2 * F
    · rw [if_pos (by omega), if_pos h1, if_neg (by omega)]
    · by_cases h2 : z / 2 ^ b = 2 * F + 1
      · rw [if_pos (by omega), if_neg h1, if_pos h2]
      · rw [if_neg (by omega), if_neg h1, if_neg h2])
theorem sel_lt1 (B : List Nat) (b F : Nat) : B.countP (fun z => decide (z / 2 ^ b < F + 1)) = B.countP (fun z => decide (z / 2 ^ b < F)) + B.countP (fun z => decide (z / 2 ^ b = F)) :=
  cn_add (fun z _ => by
    simp only [decide_eq_true_eq]
    by_cases h1 : z / 2 ^ b = F
    · rw [if_pos (by omega), if_neg (by omega), if_pos h1]
    · by_cases h2 : z / 2 ^ b < F
      · rw [if_pos (by omega), if_pos h2, if_neg h1]
      · rw [if_neg (by omega), if_neg h2, if_neg h1])
theorem sel_one {B : List Nat} {k b F left : Nat} (h : selOk B k (b + 1) F left) (hw : B.countP (fun z => decide (z / 2 ^ b = 2 * F)) ≤ left) : selOk B k b (2 * F + 1) (left - B.countP (fun z => decide (z / 2 ^ b = 2 * F))) := by
  obtain ⟨h1, h2⟩ := h
  rw [sel_lt] at h1
  rw [sel_eq] at h2
  refine ⟨?_, by omega⟩
  rw [sel_lt1]
  omega
theorem sel_zero {B : List Nat} {k b F left : Nat} (h : selOk B k (b + 1) F left) (hw : left < B.countP (fun z => decide (z / 2 ^ b = 2 * F))) : selOk B k b (2 * F) left := by
  obtain ⟨h1, h2⟩ := h
  rw [sel_lt] at h1
  exact ⟨h1, hw⟩
theorem sel_0 {B : List Nat} {k : Nat} (hB : ∀ z ∈ B, z < 2 ^ 32) (hk : k < B.length) : selOk B k 32 0 k := by
  have h1 : B.countP (fun z => decide (z / 2 ^ 32 < 0)) = B.countP (fun _ => false) := cn_congr (fun z _ => by simp)
  have h2 : B.countP (fun z => decide (z / 2 ^ 32 = 0)) = B.countP (fun _ => true) := cn_congr (fun z hz => by have := hB z hz; rw [Nat.div_eq_of_lt this]; rfl)
  refine ⟨?_, ?_⟩
  · rw [h1]; simp
  · rw [h2]; simpa using hk
theorem cn_one {B : List Nat} (hn : B.Nodup) (x : Nat) : B.countP (fun z => decide (z = x)) ≤ 1 := by
  induction B with
  | nil => exact Nat.zero_le _
  | cons a t ih =>
    have hn2 := List.nodup_cons.mp hn
    rw [List.countP_cons]
    by_cases h : a = x
    · have : t.countP (fun z => decide (z = x)) = t.countP (fun _ => false) := cn_congr (fun z hz => by
        have hne : z ≠ x := fun e => hn2.1 (h.trans e.symm ▸ hz)
        simp [hne])
      rw [this]
      split <;> simp
    · rw [if_neg (by simpa using h)]
      exact ih hn2.2
theorem sel_end {B : List Nat} {k F left : Nat} (hn : B.Nodup) (h : selOk B k 0 F left) : F ∈ B ∧ B.countP (fun z => decide (z < F)) = k := by
  obtain ⟨h1, h2⟩ := h
  simp only [Nat.pow_zero, Nat.div_one] at h1 h2
  have h3 := cn_one hn F
  refine ⟨?_, by omega⟩
  have h4 : 0 < B.countP (fun z => decide (z = F)) := by omega
  obtain ⟨a, ha, hb⟩ := List.countP_pos_iff.mp h4
  have : a = F := by simpa using hb
  exact this ▸ ha
