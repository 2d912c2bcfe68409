/-! PURE: graphs as bits. bt and its rows began as BITS.to-paste. -/
def bt (x : Int32) (i : Nat) : Bool := x.toBitVec.getLsbD i
theorem b_ext {x y : Int32} (h : ∀ i, i < 32 → bt x i = bt y i) : x = y := Int32.toBitVec_inj.mp (BitVec.eq_of_getLsbD_eq (fun i hi => h i hi))
theorem b_or (x y : Int32) (i : Nat) : bt (x ||| y) i = (bt x i || bt y i) := by unfold bt; rw [Int32.toBitVec_or, BitVec.getLsbD_or]
theorem b_and (x y : Int32) (i : Nat) : bt (x &&& y) i = (bt x i && bt y i) := by unfold bt; rw [Int32.toBitVec_and, BitVec.getLsbD_and]
theorem b_xor (x y : Int32) (i : Nat) : bt (x ^^^ y) i = (bt x i ^^ bt y i) := by unfold bt; rw [Int32.toBitVec_xor, BitVec.getLsbD_xor]
theorem b_big {x : Int32} {i : Nat} (h : 32 ≤ i) : bt x i = false := BitVec.getLsbD_of_ge _ _ h
theorem b_0 (i : Nat) : bt 0 i = false := BitVec.getLsbD_zero
theorem s_l : ∀ n, n < 32 → ((nI n &&& 31).toBitVec.smod 32).toNat = n := by decide +kernel
theorem s_u : ∀ n, n < 32 → (((nI n).toUInt32 &&& Int32.toUInt32 31).toBitVec % 32).toNat = n := by decide +kernel
def ush (x : Int32) (n : Nat) : Int32 := (x.toUInt32 >>> ((nI n).toUInt32 &&& Int32.toUInt32 31)).toInt32
def shl (x : Int32) (n : Nat) : Int32 := x <<< (nI n &&& 31)
theorem b_shl {n : Nat} (hn : n < 32) (x : Int32) {i : Nat} (hi : i < 32) : bt (shl x n) i = (decide (n ≤ i) && bt x (i - n)) := by
  unfold bt shl
  rw [Int32.toBitVec_shiftLeft]
  show (x.toBitVec <<< ((nI n &&& 31).toBitVec.smod 32).toNat).getLsbD i = _
  rw [s_l n hn, BitVec.getLsbD_shiftLeft]
  rcases Nat.lt_or_ge i n with h | h
  · simp [h, Nat.not_le.mpr h]
  · simp [hi, h, Nat.not_lt.mpr h]
theorem b_ush {n : Nat} (hn : n < 32) (x : Int32) (i : Nat) : bt (ush x n) i = bt x (n + i) := by
  show (x.toUInt32 >>> ((nI n).toUInt32 &&& Int32.toUInt32 31)).toBitVec.getLsbD i = x.toUInt32.toBitVec.getLsbD (n + i)
  rw [UInt32.toBitVec_shiftRight]
  show (x.toUInt32.toBitVec >>> (((nI n).toUInt32 &&& Int32.toUInt32 31).toBitVec % 32).toNat).getLsbD i = _
  rw [s_u n hn, BitVec.getLsbD_ushiftRight]
theorem b_m1 : ∀ i, i < 32 → bt (-1) i = true := by decide +kernel
theorem b_55 : ∀ i, i < 32 → bt 0x55555555 i = decide (i % 2 = 0) := by decide +kernel
theorem b_01 : ∀ i, i < 32 → bt 0x01010101 i = decide (i % 8 = 0) := by decide +kernel
theorem b_255 : ∀ i, i < 32 → bt 255 i = decide (i < 8) := by decide +kernel
theorem b_3 : ∀ i, i < 32 → bt 3 i = decide (i < 2) := by decide +kernel
/-! threes as twos -/
def t3 (x : Int32) : Int32 := x &&& ((ush x 1 &&& 0x55555555) ^^^ (-1))
theorem t3_lo (x : Int32) {p : Nat} (hp : p < 16) : bt (t3 x) (2 * p) = (bt x (2 * p) && !bt x (2 * p + 1)) := by
  unfold t3
  rw [b_and, b_xor, b_and, b_ush (by omega), b_55 _ (by omega), b_m1 _ (by omega), decide_eq_true (by omega), Nat.add_comm 1 (2 * p)]
  simp
theorem t3_hi (x : Int32) {p : Nat} (hp : p < 16) : bt (t3 x) (2 * p + 1) = bt x (2 * p + 1) := by
  unfold t3
  rw [b_and, b_xor, b_and, b_ush (by omega), b_55 _ (by omega), b_m1 _ (by omega), decide_eq_false (by omega)]
  simp
/-- no threes -/
def clN (x : Int32) : Prop := ∀ p, p < 16 → (bt x (2 * p) && bt x (2 * p + 1)) = false
theorem t3_cl (x : Int32) : clN (t3 x) := by
  intro p hp
  rw [t3_lo x hp, t3_hi x hp]
  cases bt x (2 * p) <;> cases bt x (2 * p + 1) <;> rfl
/-! a mask of lowest bits of bytes, times a byte -/
theorem by_bit {c0 c1 c2 c3 : Nat} (h0 : c0 < 2 ^ 8) (h1 : c1 < 2 ^ 8) (h2 : c2 < 2 ^ 8) (n : Nat) : (2 ^ 8 * (2 ^ 8 * (2 ^ 8 * c3 + c2) + c1) + c0).testBit n = if n < 8 then c0.testBit n else if n < 16 then c1.testBit (n - 8) else if n < 24 then c2.testBit (n - 16) else c3.testBit (n - 24) := by
  rw [Nat.testBit_two_pow_mul_add _ h0]
  by_cases g0 : n < 8
  · rw [if_pos g0, if_pos g0]
  · rw [if_neg g0, if_neg g0, Nat.testBit_two_pow_mul_add _ h1]
    by_cases g1 : n < 16
    · rw [if_pos (by omega), if_pos g1]
    · rw [if_neg (by omega), if_neg g1, Nat.testBit_two_pow_mul_add _ h2]
      by_cases g2 : n < 24
      · rw [if_pos (by omega), if_pos g2, show n - 8 - 8 = n - 16 by omega]
      · rw [if_neg (by omega), if_neg g2, show n - 8 - 8 - 8 = n - 24 by omega]
theorem bool_bit (b : Bool) (t : Nat) : b.toNat.testBit t = (b && decide (t = 0)) := by
  cases b
  · simp
  · cases t with
    | zero => rfl
    | succ t => simp [Nat.testBit_succ]
theorem bool_mul_bit (b : Bool) (r t : Nat) : (b.toNat * r).testBit t = (b && r.testBit t) := by
  cases b <;> simp
theorem bt_nat (x : Int32) (i : Nat) : bt x i = x.toBitVec.toNat.testBit i := rfl
theorem o_nat {o : Int32} (ho : ∀ n, n < 32 → n % 8 ≠ 0 → bt o n = false) : o.toBitVec.toNat = 2 ^ 8 * (2 ^ 8 * (2 ^ 8 * (bt o 24).toNat + (bt o 16).toNat) + (bt o 8).toNat) + (bt o 0).toNat := by
  have hB : ∀ b : Bool, b.toNat < 2 ^ 8 := by decide
  apply Nat.eq_of_testBit_eq
  intro n
  rw [by_bit (hB _) (hB _) (hB _), bool_bit, bool_bit, bool_bit, bool_bit, ← bt_nat]
  by_cases h32 : n < 32
  · by_cases h8 : n % 8 = 0
    · rcases (by omega : n = 0 ∨ n = 8 ∨ n = 16 ∨ n = 24) with rfl | rfl | rfl | rfl <;> simp
    · rw [ho n h32 h8]
      split
      · rw [decide_eq_false (by omega)]; simp
      · split
        · rw [decide_eq_false (by omega)]; simp
        · split
          · rw [decide_eq_false (by omega)]; simp
          · rw [decide_eq_false (by omega)]; simp
  · rw [b_big (by omega), if_neg (by omega), if_neg (by omega), if_neg (by omega), decide_eq_false (by omega)]; simp
theorem b_mul {o r : Int32} (ho : ∀ n, n < 32 → n % 8 ≠ 0 → bt o n = false) (hr : ∀ n, 8 ≤ n → n < 32 → bt r n = false) {i t : Nat} (hi : i < 4) (ht : t < 8) : bt (o * r) (8 * i + t) = (bt o (8 * i) && bt r t) := by
  have hr8 : r.toBitVec.toNat < 2 ^ 8 := by
    apply Nat.lt_pow_two_of_testBit
    intro n hn
    rw [← bt_nat]
    by_cases h : n < 32
    · exact hr n hn h
    · exact b_big (by omega)
  have e := o_nat ho
  rw [bt_nat (o * r), bt_nat r, Int32.toBitVec_mul, BitVec.toNat_mul, e]
  generalize r.toBitVec.toNat = q at hr8 ⊢
  have hc : ∀ b : Bool, b.toNat * q < 2 ^ 8 := by intro b; cases b <;> simp <;> omega
  have e2 : (2 ^ 8 * (2 ^ 8 * (2 ^ 8 * (bt o 24).toNat + (bt o 16).toNat) + (bt o 8).toNat) + (bt o 0).toNat) * q = 2 ^ 8 * (2 ^ 8 * (2 ^ 8 * ((bt o 24).toNat * q) + (bt o 16).toNat * q) + (bt o 8).toNat * q) + (bt o 0).toNat * q := by
    cases bt o 24 <;> cases bt o 16 <;> cases bt o 8 <;> cases bt o 0 <;> simp <;> omega
  rw [e2, Nat.mod_eq_of_lt (by have := hc (bt o 24); have := hc (bt o 16); have := hc (bt o 8); have := hc (bt o 0); omega), by_bit (hc _) (hc _) (hc _)]
  rcases (by omega : i = 0 ∨ i = 1 ∨ i = 2 ∨ i = 3) with rfl | rfl | rfl | rfl
  · rw [if_pos (by omega), bool_mul_bit]; simp
  · rw [if_neg (by omega), if_pos (by omega), bool_mul_bit, show 8 * 1 + t - 8 = t by omega]
  · rw [if_neg (by omega), if_neg (by omega), if_pos (by omega), bool_mul_bit, show 8 * 2 + t - 16 = t by omega]
  · rw [if_neg (by omega), if_neg (by omega), if_neg (by omega), bool_mul_bit, show 8 * 3 + t - 24 = t by omega]
/-! the class's way of joining two graphs: place j between -/
def cjR (b : Int32) (j : Nat) : Int32 := ush b (8 * j) &&& 255
def cjT (b : Int32) (j : Nat) : Int32 := shl ((cjR b j ||| ush (cjR b j) 1) &&& 0x55555555) 1
def cj1 (a b : Int32) (j : Nat) (z : Int32) : Int32 := z ||| ((ush a (2 * j) &&& 0x01010101) * cjR b j ||| (ush a (2 * j + 1) &&& 0x01010101) * cjT b j)
def cjN (a b : Int32) : Nat → Int32
  | 0 => 0
  | j + 1 => cj1 a b j (cjN a b j)
def cj (a b : Int32) : Int32 := t3 (cjN a b 4)
theorem cjR_bt (b : Int32) {j : Nat} (hj : j < 4) {t : Nat} (ht : t < 32) : bt (cjR b j) t = (decide (t < 8) && bt b (8 * j + t)) := by
  unfold cjR
  rw [b_and, b_ush (by omega), b_255 t ht, Bool.and_comm]
theorem cjT_lo (b : Int32) {j : Nat} (hj : j < 4) {k : Nat} (hk : k < 4) : bt (cjT b j) (2 * k) = false := by
  unfold cjT
  rw [b_shl (by omega) _ (by omega), b_and]
  by_cases h : 1 ≤ 2 * k
  · rw [b_55 _ (by omega), decide_eq_false (show ¬ (2 * k - 1) % 2 = 0 by omega)]; simp
  · rw [decide_eq_false h]; rfl
theorem cjT_hi (b : Int32) {j : Nat} (hj : j < 4) {k : Nat} (hk : k < 4) : bt (cjT b j) (2 * k + 1) = (bt b (8 * j + 2 * k) || bt b (8 * j + 2 * k + 1)) := by
  unfold cjT
  rw [b_shl (by omega) _ (by omega), b_and, show 2 * k + 1 - 1 = 2 * k by omega, b_55 _ (by omega), decide_eq_true (show (2 * k) % 2 = 0 by omega), decide_eq_true (show 1 ≤ 2 * k + 1 by omega), b_or, b_ush (by omega), cjR_bt b hj (by omega), cjR_bt b hj (by omega), decide_eq_true (show 2 * k < 8 by omega), decide_eq_true (show 1 + 2 * k < 8 by omega), show 8 * j + (1 + 2 * k) = 8 * j + 2 * k + 1 by omega]
  simp
theorem cjT_big (b : Int32) {j : Nat} (hj : j < 4) {n : Nat} (h8 : 8 ≤ n) (hn : n < 32) : bt (cjT b j) n = false := by
  unfold cjT
  rw [b_shl (by omega) _ hn, b_and, b_or, b_ush (by omega), b_55 _ (by omega), cjR_bt b hj (by omega), cjR_bt b hj (by omega), decide_eq_false (show ¬ 1 + (n - 1) < 8 by omega)]
  by_cases h : n - 1 < 8
  · rw [decide_eq_false (show ¬ (n - 1) % 2 = 0 by omega)]; simp
  · rw [decide_eq_false h]; simp
theorem cjO (a : Int32) {s : Nat} (hs : s < 32) : (∀ n, n < 32 → n % 8 ≠ 0 → bt (ush a s &&& 0x01010101) n = false) ∧ ∀ i, i < 4 → bt (ush a s &&& 0x01010101) (8 * i) = bt a (8 * i + s) := by
  refine ⟨fun n hn h => ?_, fun i hi => ?_⟩
  · rw [b_and, b_01 n hn, decide_eq_false h]; simp
  · rw [b_and, b_01 _ (by omega), decide_eq_true (by omega), b_ush hs, Nat.add_comm]; simp
theorem cj1_lo (a b : Int32) {j : Nat} (hj : j < 4) (z : Int32) {i k : Nat} (hi : i < 4) (hk : k < 4) : bt (cj1 a b j z) (8 * i + 2 * k) = (bt z (8 * i + 2 * k) || (bt a (8 * i + 2 * j) && bt b (8 * j + 2 * k))) := by
  unfold cj1
  rw [b_or, b_or, b_mul (cjO a (by omega)).1 (fun n h8 hn => by rw [cjR_bt b hj hn, decide_eq_false (by omega)]; rfl) hi (show 2 * k < 8 by omega), b_mul (cjO a (by omega)).1 (fun n h8 hn => cjT_big b hj h8 hn) hi (show 2 * k < 8 by omega), (cjO a (by omega)).2 i hi, cjT_lo b hj hk, cjR_bt b hj (by omega), decide_eq_true (show 2 * k < 8 by omega)]
  simp
theorem cj1_hi (a b : Int32) {j : Nat} (hj : j < 4) (z : Int32) {i k : Nat} (hi : i < 4) (hk : k < 4) : bt (cj1 a b j z) (8 * i + 2 * k + 1) = (bt z (8 * i + 2 * k + 1) || ((bt a (8 * i + 2 * j) && bt b (8 * j + 2 * k + 1)) || (bt a (8 * i + 2 * j + 1) && (bt b (8 * j + 2 * k) || bt b (8 * j + 2 * k + 1))))) := by
  unfold cj1
  rw [show 8 * i + 2 * k + 1 = 8 * i + (2 * k + 1) by omega, b_or, b_or, b_mul (cjO a (by omega)).1 (fun n h8 hn => by rw [cjR_bt b hj hn, decide_eq_false (by omega)]; rfl) hi (show 2 * k + 1 < 8 by omega), b_mul (cjO a (by omega)).1 (fun n h8 hn => cjT_big b hj h8 hn) hi (show 2 * k + 1 < 8 by omega), (cjO a (by omega)).2 i hi, (cjO a (by omega)).2 i hi, cjT_hi b hj hk, cjR_bt b hj (by omega), decide_eq_true (show 2 * k + 1 < 8 by omega)]
  simp [Nat.add_assoc]
/-! the reference's way -/
def atN (x : Int32) (i j : Nat) : Nat := (bt x (8 * i + 2 * j)).toNat + 2 * (bt x (8 * i + 2 * j + 1)).toNat
theorem at_nI (x : Int32) {i j : Nat} (hi : i < 4) (hj : j < 4) : ush x (8 * i + 2 * j) &&& 3 = nI (atN x i j) := by
  have h : ∀ (b0 b1 : Bool) (n : Nat), n < 32 → bt (nI (b0.toNat + 2 * b1.toNat)) n = (if n = 0 then b0 else if n = 1 then b1 else false) := by decide +kernel
  apply b_ext
  intro n hn
  unfold atN
  rw [h _ _ n hn, b_and, b_3 n hn, b_ush (by omega)]
  by_cases h0 : n = 0
  · subst h0; simp
  · by_cases h1 : n = 1
    · subst h1; simp
    · rw [if_neg h0, if_neg h1, decide_eq_false (by omega)]; simp
theorem atN_lt (x : Int32) (i j : Nat) : atN x i j < 4 := by
  unfold atN
  cases bt x (8 * i + 2 * j) <;> cases bt x (8 * i + 2 * j + 1) <;> decide
theorem atN_cl {x : Int32} (h : clN x) {i j : Nat} (hi : i < 4) (hj : j < 4) : atN x i j < 3 := by
  unfold atN
  have := h (4 * i + j) (by omega)
  rw [show 2 * (4 * i + j) = 8 * i + 2 * j by omega] at this
  revert this
  cases bt x (8 * i + 2 * j) <;> cases bt x (8 * i + 2 * j + 1) <;> decide
def mxN (x y : Nat) : Nat := if x = 0 ∨ y = 0 then 0 else if y < x then x else y
def moN (a b : Int32) (i k : Nat) : Nat → Nat
  | 0 => 0
  | j + 1 => if moN a b i k j < mxN (atN a i j) (atN b j k) then mxN (atN a i j) (atN b j k) else moN a b i k j
/-- values of two bits, packed: row i, then rows -/
def pkK (v : Nat → Nat) (i : Nat) (z : Int32) : Nat → Int32
  | 0 => z
  | k + 1 => pkK v i z k ||| shl (nI (v k)) (8 * i + 2 * k)
def pkI (v : Nat → Nat → Nat) (q : Nat) : Nat → Int32
  | 0 => 0
  | i + 1 => pkK (v i) i (pkI v q i) q
def rj (a b : Int32) : Int32 := pkI (fun i k => moN a b i k 4) 4 4
def orN (p : Nat → Bool) : Nat → Bool
  | 0 => false
  | j + 1 => orN p j || p j
def enN (h l : Bool) : Nat := if h = true then 2 else if l = true then 1 else 0
theorem mo_step : ∀ (H L xl xh yl yh : Bool), (xl && xh) = false → (yl && yh) = false → (if enN H L < mxN (xl.toNat + 2 * xh.toNat) (yl.toNat + 2 * yh.toNat) then mxN (xl.toNat + 2 * xh.toNat) (yl.toNat + 2 * yh.toNat) else enN H L) = enN (H || (xl && yh || xh && (yl || yh))) (L || xl && yl) := by decide +kernel
theorem mo_en {a b : Int32} (ha : clN a) (hb : clN b) {i k : Nat} (hi : i < 4) (hk : k < 4) : ∀ j, j ≤ 4 → moN a b i k j = enN (orN (fun j => bt a (8 * i + 2 * j) && bt b (8 * j + 2 * k + 1) || bt a (8 * i + 2 * j + 1) && (bt b (8 * j + 2 * k) || bt b (8 * j + 2 * k + 1))) j) (orN (fun j => bt a (8 * i + 2 * j) && bt b (8 * j + 2 * k)) j)
  | 0, _ => rfl
  | j + 1, hj => by
    have h1 := ha (4 * i + j) (by omega)
    have h2 := hb (4 * j + k) (by omega)
    rw [show 2 * (4 * i + j) = 8 * i + 2 * j by omega] at h1
    rw [show 2 * (4 * j + k) = 8 * j + 2 * k by omega] at h2
    rw [moN, mo_en ha hb hi hk j (by omega), orN, orN]
    exact mo_step _ _ _ _ _ _ h1 h2
theorem mo_lt (a b : Int32) (i k : Nat) : ∀ j, moN a b i k j < 4
  | 0 => show 0 < 4 by decide
  | j + 1 => by
    rw [moN]
    split
    · unfold mxN
      have h1 := atN_lt a i j
      have h2 := atN_lt b j k
      split
      · decide
      · split
        · exact h1
        · exact h2
    · exact mo_lt a b i k j
theorem b_nI4 : ∀ v, v < 4 → ∀ n, n < 32 → bt (nI v) n = v.testBit n := by decide +kernel
theorem pkK_bt {v : Nat → Nat} (hv : ∀ k, v k < 4) {i : Nat} (hi : i < 4) (z : Int32) {n : Nat} (hn : n < 32) : ∀ m, m ≤ 4 → bt (pkK v i z m) n = (bt z n || (decide (8 * i ≤ n ∧ n < 8 * i + 2 * m) && (v ((n - 8 * i) / 2)).testBit ((n - 8 * i) % 2)))
  | 0, _ => by
    rw [pkK, decide_eq_false (by omega)]; simp
  | m + 1, hm => by
    rw [pkK, b_or, pkK_bt hv hi z hn m (by omega), b_shl (by omega) _ hn, b_nI4 _ (hv m) _ (by omega)]
    by_cases h1 : 8 * i + 2 * m ≤ n
    · by_cases h2 : n < 8 * i + 2 * m + 2
      · rw [decide_eq_false (show ¬ (8 * i ≤ n ∧ n < 8 * i + 2 * m) by omega), decide_eq_true h1, decide_eq_true (show 8 * i ≤ n ∧ n < 8 * i + 2 * (m + 1) by omega), show (n - 8 * i) / 2 = m by omega, show n - (8 * i + 2 * m) = (n - 8 * i) % 2 by omega]
        simp
      · rw [decide_eq_false (show ¬ (8 * i ≤ n ∧ n < 8 * i + 2 * m) by omega), decide_eq_false (show ¬ (8 * i ≤ n ∧ n < 8 * i + 2 * (m + 1)) by omega), Nat.testBit_lt_two_pow (Nat.lt_of_lt_of_le (hv m) (Nat.le_trans (show 4 ≤ 2 ^ 2 by decide) (Nat.pow_le_pow_right (n := 2) (by omega) (show 2 ≤ n - (8 * i + 2 * m) by omega))))]
        simp
    · rw [decide_eq_false h1]
      by_cases h3 : 8 * i ≤ n
      · rw [decide_eq_true (show 8 * i ≤ n ∧ n < 8 * i + 2 * m by omega), decide_eq_true (show 8 * i ≤ n ∧ n < 8 * i + 2 * (m + 1) by omega)]; simp
      · rw [decide_eq_false (show ¬ (8 * i ≤ n ∧ n < 8 * i + 2 * m) by omega), decide_eq_false (show ¬ (8 * i ≤ n ∧ n < 8 * i + 2 * (m + 1)) by omega)]; simp
theorem pkI_bt {v : Nat → Nat → Nat} (hv : ∀ i k, v i k < 4) {q : Nat} (hq : q ≤ 4) {n : Nat} (hn : n < 32) : ∀ m, m ≤ 4 → bt (pkI v q m) n = (decide (n < 8 * m ∧ n % 8 < 2 * q) && (v (n / 8) (n % 8 / 2)).testBit (n % 2))
  | 0, _ => by rw [pkI, b_0, decide_eq_false (by omega)]; rfl
  | m + 1, hm => by
    rw [pkI, pkK_bt (hv m) (by omega) _ hn q hq, pkI_bt hv hq hn m (by omega)]
    by_cases h1 : n < 8 * m
    · rw [decide_eq_false (show ¬ (8 * m ≤ n ∧ n < 8 * m + 2 * q) by omega)]
      by_cases h3 : n % 8 < 2 * q
      · rw [decide_eq_true (show n < 8 * m ∧ n % 8 < 2 * q by omega), decide_eq_true (show n < 8 * (m + 1) ∧ n % 8 < 2 * q by omega)]; simp
      · rw [decide_eq_false (show ¬ (n < 8 * m ∧ n % 8 < 2 * q) by omega), decide_eq_false (show ¬ (n < 8 * (m + 1) ∧ n % 8 < 2 * q) by omega)]; simp
    · rw [decide_eq_false (show ¬ (n < 8 * m ∧ n % 8 < 2 * q) by omega)]
      by_cases h2 : n < 8 * m + 2 * q
      · rw [decide_eq_true (show 8 * m ≤ n ∧ n < 8 * m + 2 * q by omega), decide_eq_true (show n < 8 * (m + 1) ∧ n % 8 < 2 * q by omega), show n / 8 = m by omega, show n % 8 / 2 = (n - 8 * m) / 2 by omega, show n % 2 = (n - 8 * m) % 2 by omega]; simp
      · rw [decide_eq_false (show ¬ (8 * m ≤ n ∧ n < 8 * m + 2 * q) by omega), decide_eq_false (show ¬ (n < 8 * (m + 1) ∧ n % 8 < 2 * q) by omega)]; simp
theorem en_0 : ∀ h l : Bool, (enN h l).testBit 0 = (l && !h) := by decide
theorem en_1 : ∀ h l : Bool, (enN h l).testBit 1 = h := by decide
theorem cjN_lo (a b : Int32) {i k : Nat} (hi : i < 4) (hk : k < 4) : ∀ j, j ≤ 4 → bt (cjN a b j) (8 * i + 2 * k) = orN (fun j => bt a (8 * i + 2 * j) && bt b (8 * j + 2 * k)) j
  | 0, _ => b_0 _
  | j + 1, hj => by rw [cjN, cj1_lo a b (by omega) _ hi hk, cjN_lo a b hi hk j (by omega), orN]
theorem cjN_hi (a b : Int32) {i k : Nat} (hi : i < 4) (hk : k < 4) : ∀ j, j ≤ 4 → bt (cjN a b j) (8 * i + 2 * k + 1) = orN (fun j => bt a (8 * i + 2 * j) && bt b (8 * j + 2 * k + 1) || bt a (8 * i + 2 * j + 1) && (bt b (8 * j + 2 * k) || bt b (8 * j + 2 * k + 1))) j
  | 0, _ => b_0 _
  | j + 1, hj => by rw [cjN, cj1_hi a b (by omega) _ hi hk, cjN_hi a b hi hk j (by omega), orN]
/-- both ways give the same graph -/
theorem cj_rj {a b : Int32} (ha : clN a) (hb : clN b) : cj a b = rj a b := by
  apply b_ext
  intro n hn
  unfold cj rj
  rw [pkI_bt (fun i k => mo_lt a b i k 4) (Nat.le_refl 4) hn 4 (Nat.le_refl _), decide_eq_true (by omega), Bool.true_and, mo_en ha hb (by omega) (by omega) 4 (Nat.le_refl _)]
  by_cases h : n % 2 = 0
  · rw [h, en_0]
    have e : n = 2 * (n / 2) := by omega
    have e2 : 2 * (n / 2) = 8 * (n / 8) + 2 * (n % 8 / 2) := by omega
    have h1 := t3_lo (cjN a b 4) (p := n / 2) (by omega)
    rw [← e] at h1
    rw [h1]
    rw [show bt (cjN a b 4) n = bt (cjN a b 4) (8 * (n / 8) + 2 * (n % 8 / 2)) by rw [← e2, ← e], show bt (cjN a b 4) (n + 1) = bt (cjN a b 4) (8 * (n / 8) + 2 * (n % 8 / 2) + 1) by rw [← e2, ← e]]
    rw [cjN_lo a b (by omega) (by omega) 4 (Nat.le_refl _), cjN_hi a b (by omega) (by omega) 4 (Nat.le_refl _)]
  · rw [show n % 2 = 1 by omega, en_1]
    have e : n = 2 * (n / 2) + 1 := by omega
    have e2 : 2 * (n / 2) + 1 = 8 * (n / 8) + 2 * (n % 8 / 2) + 1 := by omega
    have h1 := t3_hi (cjN a b 4) (p := n / 2) (by omega)
    rw [← e] at h1
    rw [h1, show bt (cjN a b 4) n = bt (cjN a b 4) (8 * (n / 8) + 2 * (n % 8 / 2) + 1) by rw [← e2, ← e], cjN_hi a b (by omega) (by omega) 4 (Nat.le_refl _)]
theorem cj_cl (a b : Int32) : clN (cj a b) := t3_cl _
/-! what is told of a call: bits of places that are there, two for three -/
def thI (row : Int32) : Nat → Int32
  | 0 => 0
  | i + 1 => thI row i ||| shl row (8 * i)
def clC (x : Int32) (p q : Nat) : Int32 := t3 (x &&& thI (shl 1 (2 * q) - 1) p)
theorem b_th : ∀ q, q < 5 → ∀ p, p < 5 → ∀ n, n < 32 → bt (thI (shl 1 (2 * q) - 1) p) n = decide (n < 8 * p ∧ n % 8 < 2 * q) := by decide +kernel
def v3 (v : Nat) : Nat := if v = 3 then 2 else v
def clR (x : Int32) (p q : Nat) : Int32 := pkI (fun i j => v3 (atN x i j)) q p
theorem v3_bit : ∀ b0 b1 : Bool, (v3 (b0.toNat + 2 * b1.toNat)).testBit 0 = (b0 && !b1) ∧ (v3 (b0.toNat + 2 * b1.toNat)).testBit 1 = b1 := by decide
theorem v3_lt {v : Nat} (h : v < 4) : v3 v < 4 := by unfold v3; split <;> omega
theorem cl_eq (x : Int32) {p q : Nat} (hp : p < 5) (hq : q < 5) : clC x p q = clR x p q := by
  apply b_ext
  intro n hn
  unfold clC clR
  rw [pkI_bt (fun i j => v3_lt (atN_lt x i j)) (by omega) hn p (by omega)]
  unfold atN
  by_cases h : n % 2 = 0
  · have e : n = 2 * (n / 2) := by omega
    have e2 : 8 * (n / 8) + 2 * (n % 8 / 2) = n := by omega
    have h1 := t3_lo (x &&& thI (shl 1 (2 * q) - 1) p) (p := n / 2) (by omega)
    rw [← e] at h1
    rw [h1, h, e2, (v3_bit _ _).1, b_and, b_and, b_th q hq p hp n hn, b_th q hq p hp (n + 1) (by omega)]
    by_cases h3 : n < 8 * p ∧ n % 8 < 2 * q
    · rw [decide_eq_true h3, decide_eq_true (show n + 1 < 8 * p ∧ (n + 1) % 8 < 2 * q by omega)]; simp
    · rw [decide_eq_false h3]; simp
  · have e : n = 2 * (n / 2) + 1 := by omega
    have e2 : 8 * (n / 8) + 2 * (n % 8 / 2) + 1 = n := by omega
    have h1 := t3_hi (x &&& thI (shl 1 (2 * q) - 1) p) (p := n / 2) (by omega)
    rw [← e] at h1
    rw [h1, show n % 2 = 1 by omega, (v3_bit _ _).2, e2, b_and, b_th q hq p hp n hn, Bool.and_comm]
theorem cl_cl (x : Int32) (p q : Nat) : clN (clC x p q) := t3_cl _
/-! a 2 from a place to itself -/
theorem b_di : ∀ n, n < 32 → bt 0x80200802 n = decide (n = 1 ∨ n = 11 ∨ n = 21 ∨ n = 31) := by decide +kernel
theorem at2_iff {x : Int32} (h : clN x) {i j : Nat} (hi : i < 4) (hj : j < 4) : atN x i j = 2 ↔ bt x (8 * i + 2 * j + 1) = true := by
  unfold atN
  have := h (4 * i + j) (by omega)
  rw [show 2 * (4 * i + j) = 8 * i + 2 * j by omega] at this
  revert this
  cases bt x (8 * i + 2 * j) <;> cases bt x (8 * i + 2 * j + 1) <;> decide
theorem di_iff {x : Int32} (h : clN x) : x &&& 0x80200802 = 0 ↔ ∀ i, i < 4 → atN x i i ≠ 2 := by
  constructor
  · intro e i hi h2
    have hb := (at2_iff h hi hi).mp h2
    have h3 : bt (x &&& 0x80200802) (8 * i + 2 * i + 1) = true := by
      rw [b_and, hb, b_di _ (by omega), decide_eq_true (by omega)]; rfl
    rw [e, b_0] at h3
    cases h3
  · intro e
    apply b_ext
    intro n hn
    rw [b_0, b_and, b_di n hn]
    by_cases h1 : n = 1 ∨ n = 11 ∨ n = 21 ∨ n = 31
    · have h2 := e (n / 10) (by omega)
      rw [Ne, at2_iff h (by omega) (by omega), show 8 * (n / 10) + 2 * (n / 10) + 1 = n by omega] at h2
      rw [Bool.not_eq_true] at h2
      rw [h2]; rfl
    · rw [decide_eq_false h1]; simp
