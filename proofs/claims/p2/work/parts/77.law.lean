theorem mem_ix {T ws : List Cond} (is : List Nat) (h : is.map (fun i => T[i]?) = ws.map some) : ∀ w ∈ ws, w ∈ T := by
  intro w hw
  have h1 : some w ∈ ws.map some := List.mem_map_of_mem hw
  rw [← h] at h1
  obtain ⟨i, _, hi⟩ := List.mem_map.mp h1
  exact List.mem_of_getElem? hi
set_option maxRecDepth 100000 in
theorem tb_M0 : GoodIn lw_tbl wM0 := fun w h => ⟨mem_ix [22, 39, 40, 81, 465, 467, 468, 469, 470, 471, 472, 473, 474, 475, 476, 477, 478, 479, 480, 481, 482, 483, 484, 485, 486, 487, 525, 527, 528, 529, 531, 532, 533, 535, 536, 537, 538, 540, 541, 542, 543, 544, 546, 547, 548, 550, 551, 552, 554, 555, 556, 557, 559, 560, 561, 563, 564, 565, 567, 568, 569, 570, 571, 572, 574, 575, 577, 578, 579, 580, 581, 582, 584, 585, 586, 587, 589, 590, 591, 592, 593, 595, 596, 597, 598, 600, 601, 603, 604, 605, 607, 608, 609, 610, 612, 613, 614, 616, 617, 619, 620, 621, 623, 624, 625, 626, 628, 629, 630, 8, 9, 10, 11, 12, 13, 14, 15, 16] (by rfl) w h, good_of_word (List.all_eq_true.mp wMw_good w (List.mem_append_left _ h))⟩
set_option maxRecDepth 100000 in
theorem tb_fM : GoodIn lw_tbl f_M := fun w h => ⟨mem_ix [488, 490, 492, 494, 496, 498, 500, 502, 504, 506, 508, 510, 512, 514, 516, 518, 520, 522] (by rfl) w h, good_of_word (List.all_eq_true.mp wMw_good w (List.mem_append_right _ h))⟩
theorem tb_M : GoodIn lw_tbl wMw := fun w h => (List.mem_append.mp h).elim (tb_M0 w) (tb_fM w)
set_option maxRecDepth 100000 in
theorem tb_C0 : GoodIn lw_tbl wC0 := fun w h => ⟨mem_ix [18, 19, 20, 21, 29, 30, 32, 34, 36, 37, 38, 39, 40, 41, 42, 44, 45, 46, 47, 48, 49, 50, 51, 52, 53, 54, 55, 56, 57, 58, 59, 60, 61, 62, 63, 64, 65, 66, 67, 81, 82, 83, 85, 86, 87, 88, 89, 90, 91, 92, 93, 94, 95, 96, 97, 98, 99, 100, 124, 125, 127, 128, 129, 130, 131, 132, 133, 139, 140, 141, 150, 151, 152, 153, 154, 155, 156, 158, 159, 160, 161, 162, 163, 164, 166, 167, 168, 169, 170, 171, 172, 173, 174, 175, 176, 177, 178, 179, 180, 181, 182, 183, 184, 185, 186, 187, 188, 189, 190, 191, 192, 193, 194, 196, 197, 198, 199, 200, 201, 202, 204, 205, 206, 207, 208, 209, 210, 211, 212, 213, 214, 215, 216, 217, 219, 220, 221, 228, 229, 230, 299, 316, 317, 318, 319, 325, 326, 327, 345, 346, 347, 348, 349, 350, 351, 352, 358, 359, 360, 361, 363, 364, 365, 366, 367, 368, 369, 371, 372, 373, 374, 375, 376, 378, 379, 380, 381, 383, 384, 385, 387, 388, 389, 390, 392, 393, 394, 395, 396, 397, 398, 415, 416, 417, 418, 419, 421, 422, 427, 428, 429, 431, 432, 433, 434, 439, 440, 441, 446, 447, 448, 453, 454, 455, 456, 457, 458, 459, 460, 461, 462, 463, 525, 632, 1, 2, 3, 4, 5, 6, 7] (by rfl) w h, good_of_word (List.all_eq_true.mp wCw_good w (List.mem_append_left _ h))⟩
set_option maxRecDepth 100000 in
theorem tb_fP : GoodIn lw_tbl f_P := fun w h => ⟨mem_ix [68, 70, 72, 74, 76, 78] (by rfl) w h, good_of_word (List.all_eq_true.mp wCw_good w (k_f_P w h))⟩
set_option maxRecDepth 100000 in
theorem tb_fC : GoodIn lw_tbl f_C := fun w h => ⟨mem_ix [101, 103, 105, 107, 109, 111, 113, 115, 117, 119, 121] (by rfl) w h, good_of_word (List.all_eq_true.mp wCw_good w (k_f_C w h))⟩
set_option maxRecDepth 100000 in
theorem tb_fO : GoodIn lw_tbl f_O := fun w h => ⟨mem_ix [134, 136] (by rfl) w h, good_of_word (List.all_eq_true.mp wCw_good w (k_f_O w h))⟩
set_option maxRecDepth 100000 in
theorem tb_fX : GoodIn lw_tbl f_X := fun w h => ⟨mem_ix [142, 144, 146] (by rfl) w h, good_of_word (List.all_eq_true.mp wCw_good w (k_f_X w h))⟩
theorem tb_C : GoodIn lw_tbl wCw := fun w h => (List.mem_append.mp h).elim (tb_C0 w) (fun h => (List.mem_append.mp h).elim (tb_fP w) (fun h => (List.mem_append.mp h).elim (tb_fC w) (fun h => (List.mem_append.mp h).elim (tb_fO w) (tb_fX w))))
set_option maxRecDepth 100000 in
theorem tb_H0 : GoodIn lw_tbl wH0 := goodIn_p _ [] (by decide +kernel) (by decide +kernel)
theorem tb_X0 : GoodIn lw_tbl [Cond.classLink R_X 30 "java/lang/IllegalArgumentException", Cond.initialized "java/lang/IllegalArgumentException", Cond.classLink R_X 41 "java/lang/IllegalStateException", Cond.initialized "java/lang/IllegalStateException", Cond.classLink R_X 57 "java/lang/IndexOutOfBoundsException", Cond.initialized "java/lang/IndexOutOfBoundsException", Cond.classLink R_X 135 "java/lang/UnsupportedOperationException", Cond.initialized "java/lang/UnsupportedOperationException"] := goodIn_p _ [] (by decide +kernel) (by decide +kernel)
set_option maxRecDepth 100000 in
theorem tb_IllegalArgumentException : ∀ w ∈ xL_IllegalArgumentException.filter goodWord, w ∈ lw_tbl := by decide +kernel
set_option maxRecDepth 100000 in
theorem tb_IllegalStateException : ∀ w ∈ xL_IllegalStateException.filter goodWord, w ∈ lw_tbl := by decide +kernel
set_option maxRecDepth 100000 in
theorem tb_IndexOutOfBoundsException : ∀ w ∈ xL_IndexOutOfBoundsException.filter goodWord, w ∈ lw_tbl := by decide +kernel
set_option maxRecDepth 100000 in
theorem tb_UnsupportedOperationException : ∀ w ∈ xL_UnsupportedOperationException.filter goodWord, w ∈ lw_tbl := by decide +kernel
theorem tb_Xt : ∀ w ∈ wXt, w ∈ lw_tbl := fun w h => (List.mem_append.mp h).elim (fun h => (tb_X0 w h).1) (fun h => (List.mem_append.mp h).elim (tb_IllegalArgumentException w) (fun h => (List.mem_append.mp h).elim (tb_IllegalStateException w) (fun h => (List.mem_append.mp h).elim (tb_IndexOutOfBoundsException w) (tb_UnsupportedOperationException w))))
theorem tb_H : GoodIn lw_tbl wHw := fun w h => (List.mem_append.mp h).elim (tb_H0 w) (fun h => (List.mem_append.mp h).elim (fun h => ⟨tb_Xt w h, good_of_word (List.all_eq_true.mp wXt_good w h)⟩) (tb_C w))
