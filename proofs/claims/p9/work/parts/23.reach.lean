/-! PURE: what is reached, as bits: passes over the calls until nothing comes -/
section PR
variable (nC : Nat) (cf ct : Nat → Nat) (f : Nat)
/-- a pass over the first calls -/
def rcP (m : Nat) : Nat → Nat
  | 0 => m
  | c + 1 => if cf c = f ∨ (rcP m c).testBit (cf c) = true then rcP m c ||| 2 ^ ct c else rcP m c
/-- passes -/
def rcN : Nat → Nat
  | 0 => 0
  | n + 1 => rcP cf ct f (rcN n) nC
theorem rcP_keep (m : Nat) : ∀ c i, m.testBit i = true → (rcP cf ct f m c).testBit i = true
  | 0, i, h => h
  | c + 1, i, h => by
    rw [rcP]
    split
    · rw [Nat.testBit_or, rcP_keep m c i h]; rfl
    · exact rcP_keep m c i h
theorem rcP_lt {nF : Nat} (hT : ∀ c, c < nC → ct c < nF) {m : Nat} (hm : m < 2 ^ nF) : ∀ c, c ≤ nC → rcP cf ct f m c < 2 ^ nF
  | 0, _ => hm
  | c + 1, h => by
    rw [rcP]
    split
    · exact Nat.or_lt_two_pow (rcP_lt hT hm c (by omega)) (Nat.pow_lt_pow_right (by omega) (hT c (by omega)))
    · exact rcP_lt hT hm c (by omega)
theorem rcN_lt {nF : Nat} (hT : ∀ c, c < nC → ct c < nF) : ∀ n, rcN nC cf ct f n < 2 ^ nF
  | 0 => Nat.two_pow_pos _
  | n + 1 => rcP_lt nC cf ct f hT (rcN_lt hT n) nC (Nat.le_refl _)
/-- how many bits below nF -/
def bitsN (nF m : Nat) : Nat := (List.range nF).countP (fun i => m.testBit i)
theorem bits_more {nF m m' : Nat} (hm : m < 2 ^ nF) (hm' : m' < 2 ^ nF) (h : ∀ i, m.testBit i = true → m'.testBit i = true) (hne : m' ≠ m) : bitsN nF m < bitsN nF m' := by
  unfold bitsN
  obtain ⟨i, hi⟩ : ∃ i, m'.testBit i ≠ m.testBit i := by
    rcases Classical.em (∃ i, m'.testBit i ≠ m.testBit i) with h1 | h1
    · exact h1
    · exact absurd (Nat.eq_of_testBit_eq (fun i => Classical.byContradiction fun h2 => h1 ⟨i, h2⟩)) hne
  have h1 : m.testBit i = false := by
    cases hb : m.testBit i
    · rfl
    · rw [hb, h i hb] at hi; exact absurd rfl hi
  have h2 : m'.testBit i = true := by
    cases hb : m'.testBit i
    · rw [hb, h1] at hi; exact absurd rfl hi
    · rfl
  have hiF : i < nF := by
    rcases Nat.lt_or_ge i nF with h3 | h3
    · exact h3
    · rw [Nat.testBit_lt_two_pow (Nat.lt_of_lt_of_le hm' (Nat.pow_le_pow_right (by omega) h3))] at h2
      cases h2
  have key : ∀ (l : List Nat), i ∈ l → l.countP (fun i => m.testBit i) < l.countP (fun i => m'.testBit i) := by
    intro l
    induction l with
    | nil => intro h; cases h
    | cons a t ih =>
      intro ha
      have hle : t.countP (fun i => m.testBit i) ≤ t.countP (fun i => m'.testBit i) := cn_le (fun z _ hz => h z hz)
      rw [List.countP_cons, List.countP_cons]
      rcases List.mem_cons.mp ha with rfl | ha
      · rw [if_neg (by rw [h1]; decide), if_pos h2]; omega
      · have := ih ha
        by_cases hz : m.testBit a = true
        · rw [if_pos hz, if_pos (h a hz)]; omega
        · rw [if_neg hz]; omega
  exact key _ (List.mem_range.mpr hiF)
theorem bits_le (nF m : Nat) : bitsN nF m ≤ nF := by
  unfold bitsN
  have := List.countP_le_length (p := fun i => m.testBit i) (l := List.range nF)
  rwa [List.length_range] at this
theorem rcN_stay {n : Nat} (h : rcN nC cf ct f (n + 1) = rcN nC cf ct f n) : ∀ {d}, n ≤ d → rcN nC cf ct f d = rcN nC cf ct f n := by
  intro d hd
  induction d with
  | zero => obtain rfl : n = 0 := by omega
            rfl
  | succ d ih =>
    rcases Nat.lt_or_ge d n with h1 | h1
    · obtain rfl : n = d + 1 := by omega
      rfl
    · rw [rcN, ih h1]; exact h
theorem rcN_full {nF : Nat} (hT : ∀ c, c < nC → ct c < nF) : ∀ n, (∃ k, k < n ∧ rcN nC cf ct f (k + 1) = rcN nC cf ct f k) ∨ n ≤ bitsN nF (rcN nC cf ct f n)
  | 0 => Or.inr (Nat.zero_le _)
  | n + 1 => by
    rcases rcN_full hT n with ⟨k, h1, h2⟩ | h
    · exact Or.inl ⟨k, by omega, h2⟩
    · by_cases he : rcN nC cf ct f (n + 1) = rcN nC cf ct f n
      · exact Or.inl ⟨n, by omega, he⟩
      · have := bits_more (nF := nF) (rcN_lt nC cf ct f hT n) (rcN_lt nC cf ct f hT (n + 1)) (fun i hi => by rw [rcN]; exact rcP_keep cf ct f _ nC i hi) he
        exact Or.inr (by omega)
/-- so many passes as there are functions: nothing comes any more -/
theorem rcN_end {nF : Nat} (hT : ∀ c, c < nC → ct c < nF) : rcN nC cf ct f (nF + 1) = rcN nC cf ct f nF := by
  rcases rcN_full nC cf ct f hT nF with ⟨k, h1, h2⟩ | h
  · rw [rcN_stay nC cf ct f h2 (show k ≤ nF + 1 by omega), rcN_stay nC cf ct f h2 (show k ≤ nF by omega)]
  · by_cases he : rcN nC cf ct f (nF + 1) = rcN nC cf ct f nF
    · exact he
    · have h1 := bits_more (nF := nF) (rcN_lt nC cf ct f hT nF) (rcN_lt nC cf ct f hT (nF + 1)) (fun i hi => by rw [rcN]; exact rcP_keep cf ct f _ nC i hi) he
      have := bits_le nF (rcN nC cf ct f (nF + 1))
      omega
/-- a pass behind which nothing has come: that is the end too -/
theorem rcN_same {nF n : Nat} (hT : ∀ c, c < nC → ct c < nF) (h : rcN nC cf ct f (n + 1) = rcN nC cf ct f n) : rcN nC cf ct f n = rcN nC cf ct f nF := by
  rcases Nat.le_total n nF with h1 | h1
  · exact (rcN_stay nC cf ct f h h1).symm
  · exact rcN_stay nC cf ct f (rcN_end nC cf ct f hT) h1
end PR
