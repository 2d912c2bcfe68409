def R_L : String := "RecursionProofsLaw"
abbrev c_L_function : ByteArray := method_3_code
def y_L_function : MethodName := ⟨R_L, "function", "(LRecursionProofs;I[J)I"⟩
abbrev c_L_call : ByteArray := method_4_code
def y_L_call : MethodName := ⟨R_L, "call", "(LRecursionProofs;III[J)I"⟩
abbrev c_L_graphs : ByteArray := method_5_code
def y_L_graphs : MethodName := ⟨R_L, "graphs", "(LRecursionProofs;II[J)I"⟩
abbrev c_L_graph : ByteArray := method_6_code
def y_L_graph : MethodName := ⟨R_L, "graph", "(LRecursionProofs;III[J)I"⟩
abbrev c_L_falls : ByteArray := method_7_code
def y_L_falls : MethodName := ⟨R_L, "falls", "(LRecursionProofs;I[J)I"⟩
abbrev c_L_isSafe : ByteArray := method_8_code
def y_L_isSafe : MethodName := ⟨R_L, "isSafe", "(LRecursionProofs;I[J)I"⟩
abbrev c_L_bad : ByteArray := method_9_code
def y_L_bad : MethodName := ⟨R_L, "bad", "(LRecursionProofs;II[J)I"⟩
abbrev wH0 : List Cond := [Cond.methodLink R_L 7 y_X_function, Cond.methodLink R_L 17 y_X_call, Cond.methodLink R_L 23 y_X_graphs, Cond.methodLink R_L 29 y_X_graph, Cond.methodLink R_L 32 y_X_falls, Cond.methodLink R_L 36 y_X_isSafe, Cond.methodLink R_L 39 y_X_bad, Cond.classLink R_L 13 "java/lang/IllegalArgumentException", Cond.classLink R_L 15 "java/lang/IllegalStateException", Cond.classLink R_L 21 "java/lang/IndexOutOfBoundsException", Cond.classLink R_L 27 "java/lang/UnsupportedOperationException"]
abbrev wHw : List Cond := wH0 ++ wXw
theorem wH0_good : wH0.all goodWord = true := by decide +kernel
theorem wHw_good : wHw.all goodWord = true := by rw [List.all_append, wH0_good, wXw_good]; rfl
theorem k_H_0 : Cond.methodLink R_L 7 y_X_function ∈ wHw := List.mem_append_left _ (List.mem_of_getElem? (i := 0) rfl)
theorem k_H_1 : Cond.methodLink R_L 17 y_X_call ∈ wHw := List.mem_append_left _ (List.mem_of_getElem? (i := 1) rfl)
theorem k_H_2 : Cond.methodLink R_L 23 y_X_graphs ∈ wHw := List.mem_append_left _ (List.mem_of_getElem? (i := 2) rfl)
theorem k_H_3 : Cond.methodLink R_L 29 y_X_graph ∈ wHw := List.mem_append_left _ (List.mem_of_getElem? (i := 3) rfl)
theorem k_H_4 : Cond.methodLink R_L 32 y_X_falls ∈ wHw := List.mem_append_left _ (List.mem_of_getElem? (i := 4) rfl)
theorem k_H_5 : Cond.methodLink R_L 36 y_X_isSafe ∈ wHw := List.mem_append_left _ (List.mem_of_getElem? (i := 5) rfl)
theorem k_H_6 : Cond.methodLink R_L 39 y_X_bad ∈ wHw := List.mem_append_left _ (List.mem_of_getElem? (i := 6) rfl)
theorem k_H_7 : Cond.classLink R_L 13 "java/lang/IllegalArgumentException" ∈ wHw := List.mem_append_left _ (List.mem_of_getElem? (i := 7) rfl)
theorem k_H_8 : Cond.classLink R_L 15 "java/lang/IllegalStateException" ∈ wHw := List.mem_append_left _ (List.mem_of_getElem? (i := 8) rfl)
theorem k_H_9 : Cond.classLink R_L 21 "java/lang/IndexOutOfBoundsException" ∈ wHw := List.mem_append_left _ (List.mem_of_getElem? (i := 9) rfl)
theorem k_H_10 : Cond.classLink R_L 27 "java/lang/UnsupportedOperationException" ∈ wHw := List.mem_append_left _ (List.mem_of_getElem? (i := 10) rfl)
theorem kh_X {w : Cond} (h : w ∈ wXw) : w ∈ wHw := List.mem_append_right _ h
theorem kh_C {w : Cond} (h : w ∈ wCw) : w ∈ wHw := kh_X (kx_C h)
theorem gh_V {own C : String} {idx : Nat} {y : MethodName} {cb : Cond} {L : List Cond} (hL : ∀ w ∈ L, w ∈ wHw) (h1 : Cond.methodLink own idx y ∈ wHw) (h2 : Cond.instanceMethod y ∈ wHw) (h3 : Cond.selects C y y ∈ wHw) (h5 : Cond.initialized C ∈ wHw) (h4 : cb ∈ wHw) : GoodIn wHw (wsV own idx C y (cb :: L)) := by
  intro w h
  have hm : w ∈ wHw := by
    rcases List.mem_append.mp h with h | h
    · rcases List.mem_cons.mp h with rfl | h
      · exact h1
      · rcases List.mem_cons.mp h with rfl | h
        · exact h2
        · rcases List.mem_cons.mp h with rfl | h
          · exact h3
          · rcases List.mem_cons.mp h with rfl | h
            · exact h5
            · cases h
    · rcases List.mem_cons.mp h with rfl | h
      · exact h4
      · exact hL w h
  exact ⟨hm, good_of_word (List.all_eq_true.mp wHw_good w hm)⟩
theorem gh_7 : GoodIn wHw (wsV R_L 7 R_X y_X_function w_X_function) := gh_V (fun _ h => kh_C h) k_H_0 (kh_C k_C_137) (kh_C k_C_138) (kh_C k_C_0) (kh_C k_C_139)
theorem ghx_7 : GoodIn wHw (wsV R_L 7 R_X y_X_function wx_X_function) := gh_V (fun _ h => kh_X h) k_H_0 (kh_C k_C_137) (kh_C k_C_138) (kh_C k_C_0) (kh_C k_C_139)
abbrev hh_L_function : List (Nat × Nat × Nat × Nat) := [(0, 9, 12, 13), (0, 9, 15, 15)]
abbrev w_L_function : List Cond := .codeWith y_L_function c_L_function 4 (some .int) hh_L_function :: wHw
theorem gh_17 : GoodIn wHw (wsV R_L 17 R_X y_X_call w_X_call) := gh_V (fun _ h => kh_C h) k_H_1 (kh_C k_C_145) (kh_C k_C_146) (kh_C k_C_0) (kh_C k_C_147)
theorem ghx_17 : GoodIn wHw (wsV R_L 17 R_X y_X_call wx_X_call) := gh_V (fun _ h => kh_X h) k_H_1 (kh_C k_C_145) (kh_C k_C_146) (kh_C k_C_0) (kh_C k_C_147)
abbrev hh_L_call : List (Nat × Nat × Nat × Nat) := [(0, 12, 15, 21), (0, 12, 19, 15)]
abbrev w_L_call : List Cond := .codeWith y_L_call c_L_call 6 (some .int) hh_L_call :: wHw
theorem gh_23 : GoodIn wHw (wsV R_L 23 R_X y_X_graphs w_X_graphs) := gh_V (fun _ h => kh_C h) k_H_2 (kh_C k_C_156) (kh_C k_C_157) (kh_C k_C_0) (kh_C k_C_158)
theorem ghx_23 : GoodIn wHw (wsV R_L 23 R_X y_X_graphs wx_X_graphs) := gh_V (fun _ h => kh_X h) k_H_2 (kh_C k_C_156) (kh_C k_C_157) (kh_C k_C_0) (kh_C k_C_158)
abbrev hh_L_graphs : List (Nat × Nat × Nat × Nat) := [(0, 10, 13, 27)]
abbrev w_L_graphs : List Cond := .codeWith y_L_graphs c_L_graphs 5 (some .int) hh_L_graphs :: wHw
theorem gh_29 : GoodIn wHw (wsV R_L 29 R_X y_X_graph w_X_graph) := gh_V (fun _ h => kh_C h) k_H_3 (kh_C k_C_198) (kh_C k_C_199) (kh_C k_C_0) (kh_C k_C_200)
theorem ghx_29 : GoodIn wHw (wsV R_L 29 R_X y_X_graph wx_X_graph) := gh_V (fun _ h => kh_X h) k_H_3 (kh_C k_C_198) (kh_C k_C_199) (kh_C k_C_0) (kh_C k_C_200)
abbrev hh_L_graph : List (Nat × Nat × Nat × Nat) := [(0, 12, 15, 21), (0, 12, 19, 27)]
abbrev w_L_graph : List Cond := .codeWith y_L_graph c_L_graph 6 (some .int) hh_L_graph :: wHw
theorem gh_32 : GoodIn wHw (wsV R_L 32 R_X y_X_falls w_X_falls) := gh_V (fun _ h => kh_C h) k_H_4 (kh_C k_C_205) (kh_C k_C_206) (kh_C k_C_0) (kh_C k_C_207)
theorem ghx_32 : GoodIn wHw (wsV R_L 32 R_X y_X_falls wx_X_falls) := gh_V (fun _ h => kh_X h) k_H_4 (kh_C k_C_205) (kh_C k_C_206) (kh_C k_C_0) (kh_C k_C_207)
abbrev hh_L_falls : List (Nat × Nat × Nat × Nat) := [(0, 16, 19, 21), (0, 16, 22, 27)]
abbrev w_L_falls : List Cond := .codeWith y_L_falls c_L_falls 4 (some .int) hh_L_falls :: wHw
theorem gh_36 : GoodIn wHw (wsV R_L 36 R_X y_X_isSafe w_X_isSafe) := gh_V (fun _ h => kh_C h) k_H_5 (kh_C k_C_208) (kh_C k_C_209) (kh_C k_C_0) (kh_C k_C_210)
theorem ghx_36 : GoodIn wHw (wsV R_L 36 R_X y_X_isSafe wx_X_isSafe) := gh_V (fun _ h => kh_X h) k_H_5 (kh_C k_C_208) (kh_C k_C_209) (kh_C k_C_0) (kh_C k_C_210)
abbrev hh_L_isSafe : List (Nat × Nat × Nat × Nat) := [(0, 16, 19, 21), (0, 16, 22, 27)]
abbrev w_L_isSafe : List Cond := .codeWith y_L_isSafe c_L_isSafe 4 (some .int) hh_L_isSafe :: wHw
theorem gh_39 : GoodIn wHw (wsV R_L 39 R_X y_X_bad w_X_bad) := gh_V (fun _ h => kh_C h) k_H_6 (kh_C k_C_211) (kh_C k_C_212) (kh_C k_C_0) (kh_C k_C_213)
theorem ghx_39 : GoodIn wHw (wsV R_L 39 R_X y_X_bad wx_X_bad) := gh_V (fun _ h => kh_X h) k_H_6 (kh_C k_C_211) (kh_C k_C_212) (kh_C k_C_0) (kh_C k_C_213)
abbrev hh_L_bad : List (Nat × Nat × Nat × Nat) := [(0, 10, 13, 27)]
abbrev w_L_bad : List Cond := .codeWith y_L_bad c_L_bad 5 (some .int) hh_L_bad :: wHw
theorem d_L_function_0 : decode c_L_function 0 = .ok (.aload_n 2, 1) := by decide +kernel
theorem d_L_function_1 : decode c_L_function 1 = .ok (.iconst 0, 1) := by decide +kernel
theorem d_L_function_2 : decode c_L_function 2 = .ok (.aload_n 0, 1) := by decide +kernel
theorem d_L_function_3 : decode c_L_function 3 = .ok (.iload_n 1, 1) := by decide +kernel
theorem d_L_function_4 : decode c_L_function 4 = .ok (.invokevirtual 7, 3) := by decide +kernel
theorem d_L_function_7 : decode c_L_function 7 = .ok (.i2l, 1) := by decide +kernel
theorem d_L_function_8 : decode c_L_function 8 = .ok (.lastore, 1) := by decide +kernel
theorem d_L_function_9 : decode c_L_function 9 = .ok (.goto 9, 3) := by decide +kernel
theorem d_L_function_12 : decode c_L_function 12 = .ok (.astore_n 3, 1) := by decide +kernel
theorem d_L_function_13 : decode c_L_function 13 = .ok (.iconst 1, 1) := by decide +kernel
theorem d_L_function_14 : decode c_L_function 14 = .ok (.ireturn, 1) := by decide +kernel
theorem d_L_function_15 : decode c_L_function 15 = .ok (.astore_n 3, 1) := by decide +kernel
theorem d_L_function_16 : decode c_L_function 16 = .ok (.iconst 2, 1) := by decide +kernel
theorem d_L_function_17 : decode c_L_function 17 = .ok (.ireturn, 1) := by decide +kernel
theorem d_L_function_18 : decode c_L_function 18 = .ok (.iconst 0, 1) := by decide +kernel
theorem d_L_function_19 : decode c_L_function 19 = .ok (.ireturn, 1) := by decide +kernel
theorem d_L_call_0 : decode c_L_call 0 = .ok (.aload 4, 2) := by decide +kernel
theorem d_L_call_2 : decode c_L_call 2 = .ok (.iconst 0, 1) := by decide +kernel
theorem d_L_call_3 : decode c_L_call 3 = .ok (.aload_n 0, 1) := by decide +kernel
theorem d_L_call_4 : decode c_L_call 4 = .ok (.iload_n 1, 1) := by decide +kernel
theorem d_L_call_5 : decode c_L_call 5 = .ok (.iload_n 2, 1) := by decide +kernel
theorem d_L_call_6 : decode c_L_call 6 = .ok (.iload_n 3, 1) := by decide +kernel
theorem d_L_call_7 : decode c_L_call 7 = .ok (.invokevirtual 17, 3) := by decide +kernel
theorem d_L_call_10 : decode c_L_call 10 = .ok (.i2l, 1) := by decide +kernel
theorem d_L_call_11 : decode c_L_call 11 = .ok (.lastore, 1) := by decide +kernel
theorem d_L_call_12 : decode c_L_call 12 = .ok (.goto 11, 3) := by decide +kernel
theorem d_L_call_15 : decode c_L_call 15 = .ok (.astore 5, 2) := by decide +kernel
theorem d_L_call_17 : decode c_L_call 17 = .ok (.iconst 1, 1) := by decide +kernel
theorem d_L_call_18 : decode c_L_call 18 = .ok (.ireturn, 1) := by decide +kernel
theorem d_L_call_19 : decode c_L_call 19 = .ok (.astore 5, 2) := by decide +kernel
theorem d_L_call_21 : decode c_L_call 21 = .ok (.iconst 2, 1) := by decide +kernel
theorem d_L_call_22 : decode c_L_call 22 = .ok (.ireturn, 1) := by decide +kernel
theorem d_L_call_23 : decode c_L_call 23 = .ok (.iconst 0, 1) := by decide +kernel
theorem d_L_call_24 : decode c_L_call 24 = .ok (.ireturn, 1) := by decide +kernel
theorem d_L_graphs_0 : decode c_L_graphs 0 = .ok (.aload_n 3, 1) := by decide +kernel
theorem d_L_graphs_1 : decode c_L_graphs 1 = .ok (.iconst 0, 1) := by decide +kernel
theorem d_L_graphs_2 : decode c_L_graphs 2 = .ok (.aload_n 0, 1) := by decide +kernel
theorem d_L_graphs_3 : decode c_L_graphs 3 = .ok (.iload_n 1, 1) := by decide +kernel
theorem d_L_graphs_4 : decode c_L_graphs 4 = .ok (.iload_n 2, 1) := by decide +kernel
theorem d_L_graphs_5 : decode c_L_graphs 5 = .ok (.invokevirtual 23, 3) := by decide +kernel
theorem d_L_graphs_8 : decode c_L_graphs 8 = .ok (.i2l, 1) := by decide +kernel
theorem d_L_graphs_9 : decode c_L_graphs 9 = .ok (.lastore, 1) := by decide +kernel
theorem d_L_graphs_10 : decode c_L_graphs 10 = .ok (.goto 7, 3) := by decide +kernel
theorem d_L_graphs_13 : decode c_L_graphs 13 = .ok (.astore 4, 2) := by decide +kernel
theorem d_L_graphs_15 : decode c_L_graphs 15 = .ok (.iconst 1, 1) := by decide +kernel
theorem d_L_graphs_16 : decode c_L_graphs 16 = .ok (.ireturn, 1) := by decide +kernel
theorem d_L_graphs_17 : decode c_L_graphs 17 = .ok (.iconst 0, 1) := by decide +kernel
theorem d_L_graphs_18 : decode c_L_graphs 18 = .ok (.ireturn, 1) := by decide +kernel
theorem d_L_graph_0 : decode c_L_graph 0 = .ok (.aload 4, 2) := by decide +kernel
theorem d_L_graph_2 : decode c_L_graph 2 = .ok (.iconst 0, 1) := by decide +kernel
theorem d_L_graph_3 : decode c_L_graph 3 = .ok (.aload_n 0, 1) := by decide +kernel
theorem d_L_graph_4 : decode c_L_graph 4 = .ok (.iload_n 1, 1) := by decide +kernel
theorem d_L_graph_5 : decode c_L_graph 5 = .ok (.iload_n 2, 1) := by decide +kernel
theorem d_L_graph_6 : decode c_L_graph 6 = .ok (.iload_n 3, 1) := by decide +kernel
theorem d_L_graph_7 : decode c_L_graph 7 = .ok (.invokevirtual 29, 3) := by decide +kernel
theorem d_L_graph_10 : decode c_L_graph 10 = .ok (.i2l, 1) := by decide +kernel
theorem d_L_graph_11 : decode c_L_graph 11 = .ok (.lastore, 1) := by decide +kernel
theorem d_L_graph_12 : decode c_L_graph 12 = .ok (.goto 11, 3) := by decide +kernel
theorem d_L_graph_15 : decode c_L_graph 15 = .ok (.astore 5, 2) := by decide +kernel
theorem d_L_graph_17 : decode c_L_graph 17 = .ok (.iconst 1, 1) := by decide +kernel
theorem d_L_graph_18 : decode c_L_graph 18 = .ok (.ireturn, 1) := by decide +kernel
theorem d_L_graph_19 : decode c_L_graph 19 = .ok (.astore 5, 2) := by decide +kernel
theorem d_L_graph_21 : decode c_L_graph 21 = .ok (.iconst 2, 1) := by decide +kernel
theorem d_L_graph_22 : decode c_L_graph 22 = .ok (.ireturn, 1) := by decide +kernel
theorem d_L_graph_23 : decode c_L_graph 23 = .ok (.iconst 0, 1) := by decide +kernel
theorem d_L_graph_24 : decode c_L_graph 24 = .ok (.ireturn, 1) := by decide +kernel
theorem d_L_falls_0 : decode c_L_falls 0 = .ok (.aload_n 2, 1) := by decide +kernel
theorem d_L_falls_1 : decode c_L_falls 1 = .ok (.iconst 0, 1) := by decide +kernel
theorem d_L_falls_2 : decode c_L_falls 2 = .ok (.aload_n 0, 1) := by decide +kernel
theorem d_L_falls_3 : decode c_L_falls 3 = .ok (.iload_n 1, 1) := by decide +kernel
theorem d_L_falls_4 : decode c_L_falls 4 = .ok (.invokevirtual 32, 3) := by decide +kernel
theorem d_L_falls_7 : decode c_L_falls 7 = .ok (.ifCond .eq 7, 3) := by decide +kernel
theorem d_L_falls_10 : decode c_L_falls 10 = .ok (.lconst 1, 1) := by decide +kernel
theorem d_L_falls_11 : decode c_L_falls 11 = .ok (.goto 4, 3) := by decide +kernel
theorem d_L_falls_14 : decode c_L_falls 14 = .ok (.lconst 0, 1) := by decide +kernel
theorem d_L_falls_15 : decode c_L_falls 15 = .ok (.lastore, 1) := by decide +kernel
theorem d_L_falls_16 : decode c_L_falls 16 = .ok (.goto 9, 3) := by decide +kernel
theorem d_L_falls_19 : decode c_L_falls 19 = .ok (.astore_n 3, 1) := by decide +kernel
theorem d_L_falls_20 : decode c_L_falls 20 = .ok (.iconst 1, 1) := by decide +kernel
theorem d_L_falls_21 : decode c_L_falls 21 = .ok (.ireturn, 1) := by decide +kernel
theorem d_L_falls_22 : decode c_L_falls 22 = .ok (.astore_n 3, 1) := by decide +kernel
theorem d_L_falls_23 : decode c_L_falls 23 = .ok (.iconst 2, 1) := by decide +kernel
theorem d_L_falls_24 : decode c_L_falls 24 = .ok (.ireturn, 1) := by decide +kernel
theorem d_L_falls_25 : decode c_L_falls 25 = .ok (.iconst 0, 1) := by decide +kernel
theorem d_L_falls_26 : decode c_L_falls 26 = .ok (.ireturn, 1) := by decide +kernel
theorem d_L_isSafe_0 : decode c_L_isSafe 0 = .ok (.aload_n 2, 1) := by decide +kernel
theorem d_L_isSafe_1 : decode c_L_isSafe 1 = .ok (.iconst 0, 1) := by decide +kernel
theorem d_L_isSafe_2 : decode c_L_isSafe 2 = .ok (.aload_n 0, 1) := by decide +kernel
theorem d_L_isSafe_3 : decode c_L_isSafe 3 = .ok (.iload_n 1, 1) := by decide +kernel
theorem d_L_isSafe_4 : decode c_L_isSafe 4 = .ok (.invokevirtual 36, 3) := by decide +kernel
theorem d_L_isSafe_7 : decode c_L_isSafe 7 = .ok (.ifCond .eq 7, 3) := by decide +kernel
theorem d_L_isSafe_10 : decode c_L_isSafe 10 = .ok (.lconst 1, 1) := by decide +kernel
theorem d_L_isSafe_11 : decode c_L_isSafe 11 = .ok (.goto 4, 3) := by decide +kernel
theorem d_L_isSafe_14 : decode c_L_isSafe 14 = .ok (.lconst 0, 1) := by decide +kernel
theorem d_L_isSafe_15 : decode c_L_isSafe 15 = .ok (.lastore, 1) := by decide +kernel
theorem d_L_isSafe_16 : decode c_L_isSafe 16 = .ok (.goto 9, 3) := by decide +kernel
theorem d_L_isSafe_19 : decode c_L_isSafe 19 = .ok (.astore_n 3, 1) := by decide +kernel
theorem d_L_isSafe_20 : decode c_L_isSafe 20 = .ok (.iconst 1, 1) := by decide +kernel
theorem d_L_isSafe_21 : decode c_L_isSafe 21 = .ok (.ireturn, 1) := by decide +kernel
theorem d_L_isSafe_22 : decode c_L_isSafe 22 = .ok (.astore_n 3, 1) := by decide +kernel
theorem d_L_isSafe_23 : decode c_L_isSafe 23 = .ok (.iconst 2, 1) := by decide +kernel
theorem d_L_isSafe_24 : decode c_L_isSafe 24 = .ok (.ireturn, 1) := by decide +kernel
theorem d_L_isSafe_25 : decode c_L_isSafe 25 = .ok (.iconst 0, 1) := by decide +kernel
theorem d_L_isSafe_26 : decode c_L_isSafe 26 = .ok (.ireturn, 1) := by decide +kernel
theorem d_L_bad_0 : decode c_L_bad 0 = .ok (.aload_n 3, 1) := by decide +kernel
theorem d_L_bad_1 : decode c_L_bad 1 = .ok (.iconst 0, 1) := by decide +kernel
theorem d_L_bad_2 : decode c_L_bad 2 = .ok (.aload_n 0, 1) := by decide +kernel
theorem d_L_bad_3 : decode c_L_bad 3 = .ok (.iload_n 1, 1) := by decide +kernel
theorem d_L_bad_4 : decode c_L_bad 4 = .ok (.iload_n 2, 1) := by decide +kernel
theorem d_L_bad_5 : decode c_L_bad 5 = .ok (.invokevirtual 39, 3) := by decide +kernel
theorem d_L_bad_8 : decode c_L_bad 8 = .ok (.i2l, 1) := by decide +kernel
theorem d_L_bad_9 : decode c_L_bad 9 = .ok (.lastore, 1) := by decide +kernel
theorem d_L_bad_10 : decode c_L_bad 10 = .ok (.goto 7, 3) := by decide +kernel
theorem d_L_bad_13 : decode c_L_bad 13 = .ok (.astore 4, 2) := by decide +kernel
theorem d_L_bad_15 : decode c_L_bad 15 = .ok (.iconst 1, 1) := by decide +kernel
theorem d_L_bad_16 : decode c_L_bad 16 = .ok (.ireturn, 1) := by decide +kernel
theorem d_L_bad_17 : decode c_L_bad 17 = .ok (.iconst 0, 1) := by decide +kernel
theorem d_L_bad_18 : decode c_L_bad 18 = .ok (.ireturn, 1) := by decide +kernel
/-- what is not caught by an earlier row -/
def xC (U : State) : Prop := va_Nc "java/lang/IllegalStateException" "java/lang/IllegalArgumentException" U ∧ va_Nc "java/lang/IllegalStateException" "java/lang/IndexOutOfBoundsException" U ∧ va_Nc "java/lang/UnsupportedOperationException" "java/lang/IndexOutOfBoundsException" U
theorem xC.moved {u U : State} (hv : u.vm.Alike U.vm) (h : xC u) : xC U := ⟨va_Nc.moved hv h.1, va_Nc.moved hv h.2.1, va_Nc.moved hv h.2.2⟩
