set_option maxRecDepth 100000 in
theorem tb_M0 : GoodIn lw_tbl wM0 := goodIn_p _ [40, 468, 529, 533, 537, 541, 544, 548, 552, 556, 560, 564, 568, 571, 575, 579, 582, 586, 590, 593, 597, 601, 605, 609, 613, 617, 621, 625, 630] (by decide +kernel) (by decide +kernel)
set_option maxRecDepth 100000 in
theorem tb_fM : GoodIn lw_tbl f_M := goodIn_p _ [] (by decide +kernel) (by decide +kernel)
theorem tb_M : GoodIn lw_tbl wMw := fun w h => (List.mem_append.mp h).elim (tb_M0 w) (tb_fM w)
set_option maxRecDepth 100000 in
theorem tb_C0 : GoodIn lw_tbl wC0 := goodIn_p _ [37, 40, 45, 86, 128, 152, 156, 160, 164, 168, 172, 176, 179, 182, 185, 188, 191, 194, 198, 202, 206, 209, 212, 217, 221, 230, 319, 327, 348, 352, 360, 364, 368, 372, 375, 379, 384, 388, 393, 396, 418, 422, 429, 434, 441, 448, 455, 459, 463] (by decide +kernel) (by decide +kernel)
set_option maxRecDepth 100000 in
theorem tb_fP : GoodIn lw_tbl f_P := goodIn_p _ [] (by decide +kernel) (by decide +kernel)
set_option maxRecDepth 100000 in
theorem tb_fC : GoodIn lw_tbl f_C := goodIn_p _ [] (by decide +kernel) (by decide +kernel)
set_option maxRecDepth 100000 in
theorem tb_fO : GoodIn lw_tbl f_O := goodIn_p _ [] (by decide +kernel) (by decide +kernel)
set_option maxRecDepth 100000 in
theorem tb_fX : GoodIn lw_tbl f_X := goodIn_p _ [] (by decide +kernel) (by decide +kernel)
theorem tb_C : GoodIn lw_tbl wCw := fun w h => (List.mem_append.mp h).elim (tb_C0 w) (fun h => (List.mem_append.mp h).elim (tb_fP w) (fun h => (List.mem_append.mp h).elim (tb_fC w) (fun h => (List.mem_append.mp h).elim (tb_fO w) (tb_fX w))))
set_option maxRecDepth 100000 in
theorem tb_H0 : GoodIn lw_tbl wH0 := goodIn_p _ [] (by decide +kernel) (by decide +kernel)
theorem tb_X0 : GoodIn lw_tbl [Cond.classLink R_X 30 "java/lang/IllegalArgumentException", Cond.initialized "java/lang/IllegalArgumentException", Cond.classLink R_X 41 "java/lang/IllegalStateException", Cond.initialized "java/lang/IllegalStateException", Cond.classLink R_X 57 "java/lang/IndexOutOfBoundsException", Cond.initialized "java/lang/IndexOutOfBoundsException", Cond.classLink R_X 135 "java/lang/UnsupportedOperationException", Cond.initialized "java/lang/UnsupportedOperationException"] := goodIn_p _ [] (by decide +kernel) (by decide +kernel)
set_option maxRecDepth 100000 in
theorem tb_IllegalArgumentException : ∀ w ∈ xL_IllegalArgumentException.filter goodWord, w ∈ lw_tbl := by decide +kernel
set_option maxRecDepth 100000 in
theorem tb_IllegalStateException : ∀ w ∈ xL_IllegalStateException.filter goodWord, w ∈ lw_tbl := by decide +kernel
set_option maxRecDepth 100000 in
theorem tb_IndexOutOfBoundsException : ∀ w ∈ xL_IndexOutOfBoundsException.filter goodWord, w ∈ lw_tbl := by decide +kernel
set_option maxRecDepth 100000 in
theorem tb_UnsupportedOperationException : ∀ w ∈ xL_UnsupportedOperationException.filter goodWord, w ∈ lw_tbl := by decide +kernel
theorem tb_Xt : ∀ w ∈ wXt, w ∈ lw_tbl := fun w h => (List.mem_append.mp h).elim (fun h => (tb_X0 w h).1) (fun h => (List.mem_append.mp h).elim (tb_IllegalArgumentException w) (fun h => (List.mem_append.mp h).elim (tb_IllegalStateException w) (fun h => (List.mem_append.mp h).elim (tb_IndexOutOfBoundsException w) (tb_UnsupportedOperationException w))))
theorem tb_H : GoodIn lw_tbl wHw := fun w h => (List.mem_append.mp h).elim (tb_H0 w) (fun h => (List.mem_append.mp h).elim (fun h => ⟨tb_Xt w h, good_of_word (List.all_eq_true.mp wXt_good w h)⟩) (tb_C w))
