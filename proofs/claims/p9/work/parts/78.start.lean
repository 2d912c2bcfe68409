set_option maxRecDepth 100000 in
theorem st_T {s : State} {a : Array Value} (hts : ∀ w ∈ lw_tbl, w.before a s = true) (hgv : (Jvm.Cond.and given_1 narrow_1).before a s = true) : ∃ sa, xT sa s := by
  have hs := flat_of_before _ hgv
  obtain ⟨a0, -, -, -, ha0, -⟩ := Cond.exactly_spec (hs (.exactly (.string R_X 32) "java/lang/String") (by decide +kernel))
  obtain ⟨a1, -, -, -, ha1, -⟩ := Cond.exactly_spec (hs (.exactly (.string R_X 43) "java/lang/String") (by decide +kernel))
  obtain ⟨a2, -, -, -, ha2, -⟩ := Cond.exactly_spec (hs (.exactly (.string R_X 59) "java/lang/String") (by decide +kernel))
  obtain ⟨a3, -, -, -, ha3, -⟩ := Cond.exactly_spec (hs (.exactly (.string R_X 65) "java/lang/String") (by decide +kernel))
  obtain ⟨a4, -, -, -, ha4, -⟩ := Cond.exactly_spec (hs (.exactly (.string R_X 91) "java/lang/String") (by decide +kernel))
  obtain ⟨a5, -, -, -, ha5, -⟩ := Cond.exactly_spec (hs (.exactly (.string R_X 137) "java/lang/String") (by decide +kernel))
  exact ⟨fun k => [a0, a1, a2, a3, a4, a5].getD k 0, va_Nw.of rfl (hts (.declares (Bundle.initS "java/lang/RuntimeException")) (by decide +kernel)), va_Nw.of rfl (hts (.declares (Bundle.initS "java/lang/Exception")) (by decide +kernel)), va_Nw.of rfl (hts (.declares (Bundle.initS Bundle.tN)) (by decide +kernel)), va_Nw.of rfl (hts (.castable "java/lang/IllegalArgumentException" "java/lang/IllegalArgumentException") (by decide +kernel)), va_Nw.of rfl (hts (.castable "java/lang/IllegalStateException" "java/lang/IllegalStateException") (by decide +kernel)), va_Nw.of rfl (hts (.castable "java/lang/IndexOutOfBoundsException" "java/lang/IndexOutOfBoundsException") (by decide +kernel)), va_Nw.of rfl (hts (.castable "java/lang/UnsupportedOperationException" "java/lang/UnsupportedOperationException") (by decide +kernel)), vk_R.of (A := a) (hts (.stringRef R_X 32 "places are not 1 .. 4") (by decide +kernel)) ha0, vk_R.of (A := a) (hts (.stringRef R_X 43 "there are 10 functions") (by decide +kernel)) ha1, vk_R.of (A := a) (hts (.stringRef R_X 59 "no such function") (by decide +kernel)) ha2, vk_R.of (A := a) (hts (.stringRef R_X 65 "there are 20 calls") (by decide +kernel)) ha3, vk_R.of (A := a) (hts (.stringRef R_X 91 "no such graph") (by decide +kernel)) ha4, vk_R.of (A := a) (hts (.stringRef R_X 137 "there are more than 800 graphs") (by decide +kernel)) ha5⟩
set_option maxRecDepth 100000 in
theorem st_C {s : State} {a : Array Value} (hgv : (Jvm.Cond.and given_1 narrow_1).before a s = true) : xC s := by
  have hs := flat_of_before _ hgv
  exact ⟨va_Nc.of (hs (.not (.castable "java/lang/IllegalStateException" "java/lang/IllegalArgumentException")) (by decide +kernel)), va_Nc.of (hs (.not (.castable "java/lang/IllegalStateException" "java/lang/IndexOutOfBoundsException")) (by decide +kernel)), va_Nc.of (hs (.not (.castable "java/lang/UnsupportedOperationException" "java/lang/IndexOutOfBoundsException")) (by decide +kernel))⟩
set_option maxRecDepth 100000 in
theorem st_Z {s : State} {a : Array Value} {A : Nat → Prop} (hts : ∀ w ∈ lw_tbl, w.before a s = true) (hgv : (Jvm.Cond.and given_1 narrow_1).before a s = true) (hA : ∀ q : Nat, q < s.heap.size → ¬ A q) : xZ A s s.heap := by
  have hs := flat_of_before _ hgv
  exact ⟨vx_Zqof (hts (.laysStatic Bundle.tN "UNASSIGNED_STACK" Bundle.steD) (by decide +kernel)) (hts (.initialized Bundle.tN) (by decide +kernel)) (hs (.isRef (.static Bundle.tN "UNASSIGNED_STACK" Bundle.steD)) (by decide +kernel)) hA, vx_Zqof (hts (.laysStatic Bundle.tN "SUPPRESSED_SENTINEL" Bundle.listD) (by decide +kernel)) (hts (.initialized Bundle.tN) (by decide +kernel)) (hs (.isRef (.static Bundle.tN "SUPPRESSED_SENTINEL" Bundle.listD)) (by decide +kernel)) hA⟩
set_option maxRecDepth 100000 in
theorem st_N {s : State} {a : Array Value} (hts : ∀ w ∈ lw_tbl, w.before a s = true) : xN s := ⟨va_Nw.of rfl (hts (.methodLinkNest R_X 11 y_P_init R_X) (by decide +kernel)), va_Nw.of rfl (hts (.methodLinkNest R_X 18 y_C_init R_X) (by decide +kernel)), va_Nw.of rfl (hts (.methodLinkNest R_X 25 y_O_init R_X) (by decide +kernel))⟩
set_option maxRecDepth 100000 in
theorem st_K {s : State} {a : Array Value} (hts : ∀ w ∈ lw_tbl, w.before a s = true) : ∃ (dC : Nat → ClassId) (dI : Nat → Nat → Nat), ∀ (k : Nat) (q : vw_C), kls[k]? = some q → u_Kn s q.1 q.2.1 q.2.2 (dC k) (dI k) := by
  obtain ⟨c0, i0, h0⟩ := u_known (C := R_M) (T := F_M) (N := 18) (n := 18) hts (fun w h => (tb_fM w h).1) (hts (.instantiable R_M 18) (by decide +kernel))
  obtain ⟨c1, i1, h1⟩ := u_known (C := R_P) (T := F_P) (N := 6) (n := 6) hts (fun w h => (tb_fP w h).1) (hts (.instantiable R_P 6) (by decide +kernel))
  obtain ⟨c2, i2, h2⟩ := u_known (C := R_C) (T := F_C) (N := 11) (n := 11) hts (fun w h => (tb_fC w h).1) (hts (.instantiable R_C 11) (by decide +kernel))
  obtain ⟨c3, i3, h3⟩ := u_known (C := R_O) (T := F_O) (N := 2) (n := 2) hts (fun w h => (tb_fO w h).1) (hts (.instantiable R_O 2) (by decide +kernel))
  obtain ⟨c4, i4, h4⟩ := u_known (C := R_X) (T := F_X) (N := 3) (n := 3) hts (fun w h => (tb_fX w h).1) (hts (.instantiable R_X 3) (by decide +kernel))
  refine ⟨fun k => [c0, c1, c2, c3, c4].getD k c0, fun k => [i0, i1, i2, i3, i4].getD k i0, ?_⟩
  intro k q hq
  match k, hq with
  | 0, hq => cases hq; exact h0
  | 1, hq => cases hq; exact h1
  | 2, hq => cases hq; exact h2
  | 3, hq => cases hq; exact h3
  | 4, hq => cases hq; exact h4
  | k + 5, hq => simp [kls] at hq
