/-! The answers of class and reference, out of their contracts' posts -/
theorem st_F {l : Launch} (h : l.flags = flags0) : l.stackTraces = false := by
  unfold Launch.stackTraces
  rw [h]
  decide +kernel
section AN
variable {nF nC : Nat} {pl cf ct : Nat → Nat} {aK : Nat → Int32}
theorem nI_one {a b : Nat} (ha : a < 2 ^ 31) (hb : b < 2 ^ 31) (h : nI a = nI b) : a = b := (nI_eq ha hb).mp h
theorem an_undo {r r' : Int32} {X Y : Prop} (h1 : (r = nI 1 ∧ 0 < nC ∧ X) ∨ (r = nI 0 ∧ nC = 0 ∧ Y)) (h2 : (r' = nI 1 ∧ 0 < nC) ∨ (r' = nI 0 ∧ nC = 0)) : r = r' := by
  rcases h1 with ⟨a, b, -⟩ | ⟨a, b, -⟩ <;> rcases h2 with ⟨a2, b2⟩ | ⟨a2, b2⟩ <;> first | omega | rw [a, a2]
theorem an_told {q w r r' : Int32} (hC : nC ≤ 20) (h1 : ((¬ ∃ j, j < nC ∧ q = nI j) ∧ r = -1) ∨ ∃ j, j < nC ∧ q = nI j ∧ r = (if w = 0 then nI (cf j) else if w = nI 1 then nI (ct j) else if w = nI 2 then aK j else -1))
    (h2 : ((¬ ∃ j, j < nC ∧ q = nI j) ∧ r' = -1) ∨ ∃ j, j < nC ∧ q = nI j ∧ r' = (if w = 0 then nI (cf j) else if w = nI 1 then nI (ct j) else if w = nI 2 then aK j else -1)) : r = r' := by
  rcases h1 with ⟨a, rfl⟩ | ⟨j, hj, rfl, rfl⟩ <;> rcases h2 with ⟨b, rfl⟩ | ⟨j', hj', e, rfl⟩
  · rfl
  · exact absurd ⟨j', hj', e⟩ a
  · exact absurd ⟨j, hj, rfl⟩ b
  · obtain rfl := nI_one (by omega) (by omega) e
    rfl
theorem an_reached {f r r' : Int32} (hF : nF ≤ 10) (h1 : ((¬ ∃ i, i < nF ∧ f = nI i) ∧ r = -1) ∨ ∃ i, i < nF ∧ f = nI i ∧ r = nI (rcN nC cf ct i nF)) (h2 : ((¬ ∃ i, i < nF ∧ f = nI i) ∧ r' = -1) ∨ ∃ i, i < nF ∧ f = nI i ∧ r' = nI (rcN nC cf ct i nF)) : r = r' := by
  rcases h1 with ⟨a, rfl⟩ | ⟨j, hj, rfl, rfl⟩ <;> rcases h2 with ⟨b, rfl⟩ | ⟨j', hj', e, rfl⟩
  · rfl
  · exact absurd ⟨j', hj', e⟩ a
  · exact absurd ⟨j, hj, rfl⟩ b
  · obtain rfl := nI_one (by omega) (by omega) e
    rfl
theorem prN_cr (x : Int64) (hcl : ∀ c, c < nC → clN (aK c)) : ∀ j, prN nC cf ct aK cj x j = prN nC cf ct aK rj x j ∧ ∀ z, prN nC cf ct aK cj x j = some z → clN z.1
  | 0 => ⟨rfl, fun z h => by cases h⟩
  | 1 => by
    refine ⟨rfl, fun z h => ?_⟩
    rw [prN] at h
    split at h
    · rename_i hn
      cases h
      exact hcl _ hn
    · cases h
  | k + 2 => by
    obtain ⟨h1, h2⟩ := prN_cr x hcl (k + 1)
    rw [prN, prN, ← h1]
    cases hz : prN nC cf ct aK cj x (k + 1) with
    | none => exact ⟨rfl, fun z h => by cases h⟩
    | some q =>
      dsimp only
      have hq := h2 q hz
      split
      · rename_i hn
        rw [cj_rj hq (hcl _ hn.1)]
        refine ⟨rfl, fun z h => ?_⟩
        cases h
        rw [← cj_rj hq (hcl _ hn.1)]
        exact cj_cl _ _
      · exact ⟨rfl, fun z h => by cases h⟩
theorem an_product {x : Int64} {q r r' : Int32} (hcl : ∀ c, c < nC → clN (aK c)) (h1 : ((¬ ∃ j, 1 ≤ j ∧ j ≤ 12 ∧ q = nI j) ∧ r = -2) ∨ ∃ j, 1 ≤ j ∧ j ≤ 12 ∧ q = nI j ∧ ((∃ z, prN nC cf ct aK cj x j = some z ∧ r = z.1) ∨ (prN nC cf ct aK cj x j = none ∧ r = -2)))
    (h2 : ((¬ ∃ j, 1 ≤ j ∧ j ≤ 12 ∧ q = nI j) ∧ r' = -2) ∨ ∃ j, 1 ≤ j ∧ j ≤ 12 ∧ q = nI j ∧ ((∃ z, prN nC cf ct aK rj x j = some z ∧ r' = z.1) ∨ (prN nC cf ct aK rj x j = none ∧ r' = -2))) : r = r' := by
  rcases h1 with ⟨a, rfl⟩ | ⟨j, hj, hj2, rfl, h1⟩ <;> rcases h2 with ⟨b, rfl⟩ | ⟨j', hj', hj2', e, h2⟩
  · rfl
  · exact absurd ⟨j', hj', hj2', e⟩ a
  · exact absurd ⟨j, hj, hj2, rfl⟩ b
  · obtain rfl := nI_one (by omega) (by omega) e
    rw [(prN_cr x hcl j).1] at h1
    rcases h1 with ⟨z, h1, rfl⟩ | ⟨h1, rfl⟩ <;> rcases h2 with ⟨z', h2, rfl⟩ | ⟨h2, rfl⟩
    · rw [h1] at h2; cases h2; rfl
    · rw [h1] at h2; cases h2
    · rw [h1] at h2; cases h2
    · rfl
theorem neg_cases {q : Int32} : q = -1 ∨ ((¬ q = -1) ∧ q < 0) ∨ (0 : Int32) ≤ q := by
  rcases Classical.em (q = -1) with h | h
  · exact Or.inl h
  · rcases Classical.em (q < 0) with h2 | h2
    · exact Or.inr (Or.inl ⟨h, h2⟩)
    · exact Or.inr (Or.inr (Int32.not_lt.mp h2))
theorem m1_low {q : Int32} (h : ¬ q = -1) (h0 : q < 0) : ¬ (-1 : Int32) ≤ q := by
  intro z
  rw [Int32.lt_iff_toInt_lt] at h0
  rw [Int32.le_iff_toInt_le] at z
  have e1 : (-1 : Int32).toInt = -1 := by decide +kernel
  have e0 : (0 : Int32).toInt = 0 := by decide +kernel
  apply h
  apply Int32.toInt_inj.mp
  omega
theorem nI_m1 {a : Nat} (h : a < 2 ^ 31) : ¬ nI a = -1 := ah_neg h
theorem nI_low {a : Nat} (h : a < 2 ^ 31) : ¬ nI a < 0 := nI_pos h
theorem an_order {f q r r' : Int32} (hF : nF ≤ 10)
    (h1 : ((¬ ∃ i, i < nF ∧ f = nI i) ∧ r = -1) ∨ ∃ i, i < nF ∧ f = nI i ∧ ∃ tl op, oWay nC (at2 aK) (pl i) tl (op0 cf ct i) op ∧ tl.length ≤ 4 ∧ ((¬ oOpen nC op ∧ ((q = -1 ∧ r = nI tl.length) ∨ ((¬ q = -1) ∧ q < 0 ∧ r = -1) ∨ ∃ q1, q1 < 2 ^ 31 ∧ q = nI q1 ∧ ((∃ y, tl[q1]? = some y ∧ r = nI y) ∨ (tl.length ≤ q1 ∧ r = -1)))) ∨ (oOpen nC op ∧ oNone nC (at2 aK) (pl i) op ∧ r = -1)))
    (h2 : ((¬ ((∃ i, i < nF ∧ f = nI i) ∧ (-1 : Int32) ≤ q)) ∧ r' = -1) ∨ ∃ i, i < nF ∧ f = nI i ∧ (-1 : Int32) ≤ q ∧ ∃ tl op, oWay nC (at2 aK) (pl i) tl (op0 cf ct i) op ∧ tl.length ≤ 4 ∧ ((¬ oOpen nC op ∧ ((q = -1 ∧ r' = nI tl.length) ∨ ∃ q1, q1 < 2 ^ 31 ∧ q = nI q1 ∧ ((∃ y, tl[q1]? = some y ∧ r' = nI y) ∨ (tl.length ≤ q1 ∧ r' = -1)))) ∨ (oOpen nC op ∧ oNone nC (at2 aK) (pl i) op ∧ r' = -1))) : r = r' := by
  rcases h1 with ⟨a, rfl⟩ | ⟨i, hi, rfl, tl, op, hw, hl4, h1⟩
  · rcases h2 with ⟨-, rfl⟩ | ⟨i', hi', e, -⟩
    · rfl
    · exact absurd ⟨i', hi', e⟩ a
  · rcases h2 with ⟨b, rfl⟩ | ⟨i', hi', e, hm1, tl', op', hw', -, h2⟩
    · have hlow : ¬ (-1 : Int32) ≤ q := fun z => b ⟨⟨i, hi, rfl⟩, z⟩
      rcases h1 with ⟨-, ⟨hq, -⟩ | ⟨-, -, rfl⟩ | ⟨q1, hq1, rfl, -⟩⟩ | ⟨-, -, rfl⟩
      · exact absurd (by rw [hq]; exact Int32.le_refl _) hlow
      · rfl
      · refine absurd ?_ hlow
        rw [Int32.le_iff_toInt_le, nI_toInt hq1]
        have e1 : (-1 : Int32).toInt = -1 := by decide +kernel
        omega
      · rfl
    · obtain rfl := nI_one (by omega) (by omega) e
      have hend : oEnd nC (at2 aK) (pl i) op := by
        rcases h1 with ⟨z, -⟩ | ⟨-, z, -⟩
        · exact Or.inl z
        · exact Or.inr z
      have hend' : oEnd nC (at2 aK) (pl i) op' := by
        rcases h2 with ⟨z, -⟩ | ⟨-, z, -⟩
        · exact Or.inl z
        · exact Or.inr z
      obtain ⟨rfl, rfl⟩ := oWay_one nC (at2 aK) (pl i) hw hw' hend hend'
      rcases h1 with ⟨no, h1⟩ | ⟨ye, -, rfl⟩
      · rcases h2 with ⟨-, h2⟩ | ⟨ye, -⟩
        · rcases h1 with ⟨hq, rfl⟩ | ⟨hq, hq0, rfl⟩ | ⟨q1, hq1, rfl, h1⟩
          · rcases h2 with ⟨-, rfl⟩ | ⟨q2, hq2, e2, -⟩
            · rfl
            · rw [hq] at e2
              exact absurd e2.symm (nI_m1 hq2)
          · exact absurd hm1 (m1_low hq hq0)
          · rcases h2 with ⟨e2, -⟩ | ⟨q2, hq2, e2, h2⟩
            · exact absurd e2 (nI_m1 hq1)
            · obtain rfl := nI_one hq1 hq2 e2
              rcases h1 with ⟨y, hy, rfl⟩ | ⟨hy, rfl⟩ <;> rcases h2 with ⟨y', hy', rfl⟩ | ⟨hy', rfl⟩
              · rw [hy] at hy'; cases hy'; rfl
              · rw [List.getElem?_eq_none hy'] at hy; cases hy
              · rw [List.getElem?_eq_none hy] at hy'; cases hy'
              · rfl
        · exact absurd ye no
      · rcases h2 with ⟨no, -⟩ | ⟨-, -, rfl⟩
        · exact absurd ye no
        · rfl
end AN
