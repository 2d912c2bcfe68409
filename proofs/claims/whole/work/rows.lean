section
-- ===== PART A: goes FIRST, ahead of the names: the tables' words, and 'selects' of the private methods out of them =====
/-- a private method of a class that the tables say can be made, by its rows of tables_1 -/
def lw_okq (q : MethodName × Nat) : Prop := (q.1.cls ≠ "java/lang/invoke/MethodHandle" ∧ q.1.cls ≠ "java/lang/invoke/VarHandle") ∧ Cond.instantiable q.1.cls q.2 ∈ tables_1 ∧ Cond.privateMethod q.1 ∈ tables_1 ∧ Cond.instanceMethod q.1 ∈ tables_1
theorem lw_p0 : lw_okq (⟨"java/lang/Throwable", "fillInStackTrace", "(I)Ljava/lang/Throwable;"⟩, 6) := ⟨⟨by decide +kernel, by decide +kernel⟩, List.mem_of_getElem? (i := 254) (by decide +kernel), List.mem_of_getElem? (i := 252) (by decide +kernel), List.mem_of_getElem? (i := 253) (by decide +kernel)⟩
theorem lw_p1 : lw_okq (⟨"RecursionProofs", "needClosure", "()V"⟩, 3) := ⟨⟨by decide +kernel, by decide +kernel⟩, List.mem_of_getElem? (i := 17) (by decide +kernel), List.mem_of_getElem? (i := 345) (by decide +kernel), List.mem_of_getElem? (i := 346) (by decide +kernel)⟩
theorem lw_p2 : lw_okq (⟨"RecursionProofs$Closure", "gatherFrom", "(LRecursionProofs$Program;I)V"⟩, 11) := ⟨⟨by decide +kernel, by decide +kernel⟩, List.mem_of_getElem? (i := 66) (by decide +kernel), List.mem_of_getElem? (i := 353) (by decide +kernel), List.mem_of_getElem? (i := 354) (by decide +kernel)⟩
theorem lw_p3 : lw_okq (⟨"RecursionProofs$Closure", "keep", "(IIII)V"⟩, 11) := ⟨⟨by decide +kernel, by decide +kernel⟩, List.mem_of_getElem? (i := 66) (by decide +kernel), List.mem_of_getElem? (i := 360) (by decide +kernel), List.mem_of_getElem? (i := 361) (by decide +kernel)⟩
theorem lw_p4 : lw_okq (⟨"RecursionProofs$Closure", "isKept", "(III)Z"⟩, 11) := ⟨⟨by decide +kernel, by decide +kernel⟩, List.mem_of_getElem? (i := 66) (by decide +kernel), List.mem_of_getElem? (i := 365) (by decide +kernel), List.mem_of_getElem? (i := 366) (by decide +kernel)⟩
theorem lw_p5 : lw_okq (⟨"RecursionProofs$Closure", "hasRow", "(I)Z"⟩, 11) := ⟨⟨by decide +kernel, by decide +kernel⟩, List.mem_of_getElem? (i := 66) (by decide +kernel), List.mem_of_getElem? (i := 369) (by decide +kernel), List.mem_of_getElem? (i := 370) (by decide +kernel)⟩
theorem lw_p6 : lw_okq (⟨"RecursionProofs$Closure", "firstBad", "(I)I"⟩, 11) := ⟨⟨by decide +kernel, by decide +kernel⟩, List.mem_of_getElem? (i := 66) (by decide +kernel), List.mem_of_getElem? (i := 374) (by decide +kernel), List.mem_of_getElem? (i := 375) (by decide +kernel)⟩
theorem lw_p7 : lw_okq (⟨"RecursionProofs$Closure", "countAlike", "(IIII)I"⟩, 11) := ⟨⟨by decide +kernel, by decide +kernel⟩, List.mem_of_getElem? (i := 66) (by decide +kernel), List.mem_of_getElem? (i := 403) (by decide +kernel), List.mem_of_getElem? (i := 404) (by decide +kernel)⟩
theorem lw_p8 : lw_okq (⟨"RecursionProofsModel", "isFunction", "(I)Z"⟩, 18) := ⟨⟨by decide +kernel, by decide +kernel⟩, List.mem_of_getElem? (i := 448) (by decide +kernel), List.mem_of_getElem? (i := 522) (by decide +kernel), List.mem_of_getElem? (i := 523) (by decide +kernel)⟩
theorem lw_p9 : lw_okq (⟨"RecursionProofsModel", "refused", "(ZZ)Z"⟩, 18) := ⟨⟨by decide +kernel, by decide +kernel⟩, List.mem_of_getElem? (i := 448) (by decide +kernel), List.mem_of_getElem? (i := 541) (by decide +kernel), List.mem_of_getElem? (i := 542) (by decide +kernel)⟩
theorem lw_p10 : lw_okq (⟨"RecursionProofsModel", "find", "(I)Z"⟩, 18) := ⟨⟨by decide +kernel, by decide +kernel⟩, List.mem_of_getElem? (i := 448) (by decide +kernel), List.mem_of_getElem? (i := 545) (by decide +kernel), List.mem_of_getElem? (i := 546) (by decide +kernel)⟩
theorem lw_p11 : lw_okq (⟨"RecursionProofsModel", "add", "(IIIII)V"⟩, 18) := ⟨⟨by decide +kernel, by decide +kernel⟩, List.mem_of_getElem? (i := 448) (by decide +kernel), List.mem_of_getElem? (i := 549) (by decide +kernel), List.mem_of_getElem? (i := 550) (by decide +kernel)⟩
theorem lw_p12 : lw_okq (⟨"RecursionProofsModel", "between", "(II)I"⟩, 18) := ⟨⟨by decide +kernel, by decide +kernel⟩, List.mem_of_getElem? (i := 448) (by decide +kernel), List.mem_of_getElem? (i := 556) (by decide +kernel), List.mem_of_getElem? (i := 557) (by decide +kernel)⟩
theorem lw_p13 : lw_okq (⟨"RecursionProofsModel", "fallsAt", "(I)Z"⟩, 18) := ⟨⟨by decide +kernel, by decide +kernel⟩, List.mem_of_getElem? (i := 448) (by decide +kernel), List.mem_of_getElem? (i := 571) (by decide +kernel), List.mem_of_getElem? (i := 572) (by decide +kernel)⟩
theorem lw_p14 : lw_okq (⟨"RecursionProofsModel", "reachedFrom", "(I)I"⟩, 18) := ⟨⟨by decide +kernel, by decide +kernel⟩, List.mem_of_getElem? (i := 448) (by decide +kernel), List.mem_of_getElem? (i := 582) (by decide +kernel), List.mem_of_getElem? (i := 583) (by decide +kernel)⟩
theorem lw_p15 : lw_okq (⟨"RecursionProofsModel", "findOrder", "(I)I"⟩, 18) := ⟨⟨by decide +kernel, by decide +kernel⟩, List.mem_of_getElem? (i := 448) (by decide +kernel), List.mem_of_getElem? (i := 594) (by decide +kernel), List.mem_of_getElem? (i := 595) (by decide +kernel)⟩
def lw_privs_1 : List (MethodName × Nat) := [(⟨"java/lang/Throwable", "fillInStackTrace", "(I)Ljava/lang/Throwable;"⟩, 6), (⟨"RecursionProofs", "needClosure", "()V"⟩, 3), (⟨"RecursionProofs$Closure", "gatherFrom", "(LRecursionProofs$Program;I)V"⟩, 11), (⟨"RecursionProofs$Closure", "keep", "(IIII)V"⟩, 11), (⟨"RecursionProofs$Closure", "isKept", "(III)Z"⟩, 11), (⟨"RecursionProofs$Closure", "hasRow", "(I)Z"⟩, 11), (⟨"RecursionProofs$Closure", "firstBad", "(I)I"⟩, 11), (⟨"RecursionProofs$Closure", "countAlike", "(IIII)I"⟩, 11), (⟨"RecursionProofsModel", "isFunction", "(I)Z"⟩, 18), (⟨"RecursionProofsModel", "refused", "(ZZ)Z"⟩, 18), (⟨"RecursionProofsModel", "find", "(I)Z"⟩, 18), (⟨"RecursionProofsModel", "add", "(IIIII)V"⟩, 18), (⟨"RecursionProofsModel", "between", "(II)I"⟩, 18), (⟨"RecursionProofsModel", "fallsAt", "(I)Z"⟩, 18), (⟨"RecursionProofsModel", "reachedFrom", "(I)I"⟩, 18), (⟨"RecursionProofsModel", "findOrder", "(I)I"⟩, 18)]
theorem lw_r1 : ∀ q ∈ lw_privs_1, lw_okq q := List.forall_mem_cons.mpr ⟨lw_p0, List.forall_mem_cons.mpr ⟨lw_p1, List.forall_mem_cons.mpr ⟨lw_p2, List.forall_mem_cons.mpr ⟨lw_p3, List.forall_mem_cons.mpr ⟨lw_p4, List.forall_mem_cons.mpr ⟨lw_p5, List.forall_mem_cons.mpr ⟨lw_p6, List.forall_mem_cons.mpr ⟨lw_p7, List.forall_mem_cons.mpr ⟨lw_p8, List.forall_mem_cons.mpr ⟨lw_p9, List.forall_mem_cons.mpr ⟨lw_p10, List.forall_mem_cons.mpr ⟨lw_p11, List.forall_mem_cons.mpr ⟨lw_p12, List.forall_mem_cons.mpr ⟨lw_p13, List.forall_mem_cons.mpr ⟨lw_p14, List.forall_mem_cons.mpr ⟨lw_p15, fun _ h => absurd h List.not_mem_nil⟩⟩⟩⟩⟩⟩⟩⟩⟩⟩⟩⟩⟩⟩⟩⟩
theorem lw_p16 : lw_okq (⟨"RecursionProofsModel", "mayTake", "(II)Z"⟩, 18) := ⟨⟨by decide +kernel, by decide +kernel⟩, List.mem_of_getElem? (i := 448) (by decide +kernel), List.mem_of_getElem? (i := 598) (by decide +kernel), List.mem_of_getElem? (i := 599) (by decide +kernel)⟩
def lw_privs_2 : List (MethodName × Nat) := [(⟨"RecursionProofsModel", "mayTake", "(II)Z"⟩, 18)]
theorem lw_r2 : ∀ q ∈ lw_privs_2, lw_okq q := List.forall_mem_cons.mpr ⟨lw_p16, fun _ h => absurd h List.not_mem_nil⟩
def lw_privs : List (MethodName × Nat) := lw_privs_1 ++ (lw_privs_2)
def lw_tbl : List Cond := k2_sels lw_privs ++ tables_1
theorem lw_privs_ok : ∀ q ∈ lw_privs, lw_okq q := by
  show ∀ q ∈ lw_privs_1 ++ (lw_privs_2), lw_okq q
  exact List.forall_mem_append.mpr ⟨lw_r1, lw_r2⟩
end
section
def R_M : String := "RecursionProofsModel"
def F_M : u_T := fun k => match k with
  | 0 => ("RecursionProofsModel", "thrown", "I", false)
  | 1 => ("RecursionProofsModel", "functions", "I", false)
  | 2 => ("RecursionProofsModel", "calls", "I", false)
  | 3 => ("RecursionProofsModel", "places", "[I", true)
  | 4 => ("RecursionProofsModel", "from", "[I", true)
  | 5 => ("RecursionProofsModel", "to", "[I", true)
  | 6 => ("RecursionProofsModel", "known", "[I", true)
  | 7 => ("RecursionProofsModel", "graphs", "I", false)
  | 8 => ("RecursionProofsModel", "first", "[I", true)
  | 9 => ("RecursionProofsModel", "last", "[I", true)
  | 10 => ("RecursionProofsModel", "bits", "[I", true)
  | 11 => ("RecursionProofsModel", "ahead", "[I", true)
  | 12 => ("RecursionProofsModel", "by", "[I", true)
  | 13 => ("RecursionProofsModel", "row", "[I", true)
  | 14 => ("RecursionProofsModel", "taken", "[Z", true)
  | 15 => ("RecursionProofsModel", "open", "[Z", true)
  | 16 => ("RecursionProofsModel", "order", "[I", true)
  | _ => ("RecursionProofsModel", "sorted", "[I", true)
def t_M : Nat → FieldType := fun k => match k with
  | 0 => .int
  | 1 => .int
  | 2 => .int
  | 3 => .array .int
  | 4 => .array .int
  | 5 => .array .int
  | 6 => .array .int
  | 7 => .int
  | 8 => .array .int
  | 9 => .array .int
  | 10 => .array .int
  | 11 => .array .int
  | 12 => .array .int
  | 13 => .array .int
  | 14 => .array .boolean
  | 15 => .array .boolean
  | 16 => .array .int
  | _ => .array .int
abbrev f_M : List Cond := u_ws R_M F_M 18
theorem n_M : ∀ a, a < 18 → ∀ b, b < 18 → a ≠ b → (F_M a).2.1 ≠ (F_M b).2.1 := by decide +kernel
theorem t_M_ok : ∀ k, k < 18 → parseFieldDescriptor (F_M k).2.2.1 = some (t_M k) := by decide +kernel
def R_P : String := "RecursionProofs$Program"
def F_P : u_T := fun k => match k with
  | 0 => ("RecursionProofs$Program", "placesOf", "[I", true)
  | 1 => ("RecursionProofs$Program", "from", "[I", true)
  | 2 => ("RecursionProofs$Program", "to", "[I", true)
  | 3 => ("RecursionProofs$Program", "known", "[I", true)
  | 4 => ("RecursionProofs$Program", "functions", "I", false)
  | _ => ("RecursionProofs$Program", "calls", "I", false)
def t_P : Nat → FieldType := fun k => match k with
  | 0 => .array .int
  | 1 => .array .int
  | 2 => .array .int
  | 3 => .array .int
  | 4 => .int
  | _ => .int
abbrev f_P : List Cond := u_ws R_P F_P 6
theorem n_P : ∀ a, a < 6 → ∀ b, b < 6 → a ≠ b → (F_P a).2.1 ≠ (F_P b).2.1 := by decide +kernel
theorem t_P_ok : ∀ k, k < 6 → parseFieldDescriptor (F_P k).2.2.1 = some (t_P k) := by decide +kernel
def R_C : String := "RecursionProofs$Closure"
def F_C : u_T := fun k => match k with
  | 0 => ("RecursionProofs$Closure", "bits", "[I", true)
  | 1 => ("RecursionProofs$Closure", "end", "[I", true)
  | 2 => ("RecursionProofs$Closure", "ahead", "[I", true)
  | 3 => ("RecursionProofs$Closure", "lastCall", "[I", true)
  | 4 => ("RecursionProofs$Closure", "nextInChain", "[I", true)
  | 5 => ("RecursionProofs$Closure", "chains", "[I", true)
  | 6 => ("RecursionProofs$Closure", "start", "[I", true)
  | 7 => ("RecursionProofs$Closure", "badRow", "[I", true)
  | 8 => ("RecursionProofs$Closure", "count", "I", false)
  | 9 => ("RecursionProofs$Closure", "tooMany", "Z", false)
  | _ => ("RecursionProofs$Closure", "gathered", "Z", false)
def t_C : Nat → FieldType := fun k => match k with
  | 0 => .array .int
  | 1 => .array .int
  | 2 => .array .int
  | 3 => .array .int
  | 4 => .array .int
  | 5 => .array .int
  | 6 => .array .int
  | 7 => .array .int
  | 8 => .int
  | 9 => .boolean
  | _ => .boolean
abbrev f_C : List Cond := u_ws R_C F_C 11
theorem n_C : ∀ a, a < 11 → ∀ b, b < 11 → a ≠ b → (F_C a).2.1 ≠ (F_C b).2.1 := by decide +kernel
theorem t_C_ok : ∀ k, k < 11 → parseFieldDescriptor (F_C k).2.2.1 = some (t_C k) := by decide +kernel
def R_O : String := "RecursionProofs$Order"
def F_O : u_T := fun k => match k with
  | 0 => ("RecursionProofs$Order", "taken", "[I", true)
  | _ => ("RecursionProofs$Order", "many", "I", false)
def t_O : Nat → FieldType := fun k => match k with
  | 0 => .array .int
  | _ => .int
abbrev f_O : List Cond := u_ws R_O F_O 2
theorem n_O : ∀ a, a < 2 → ∀ b, b < 2 → a ≠ b → (F_O a).2.1 ≠ (F_O b).2.1 := by decide +kernel
theorem t_O_ok : ∀ k, k < 2 → parseFieldDescriptor (F_O k).2.2.1 = some (t_O k) := by decide +kernel
def R_X : String := "RecursionProofs"
def F_X : u_T := fun k => match k with
  | 0 => ("RecursionProofs", "program", "LRecursionProofs$Program;", true)
  | 1 => ("RecursionProofs", "closure", "LRecursionProofs$Closure;", true)
  | _ => ("RecursionProofs", "placeOrder", "LRecursionProofs$Order;", true)
def t_X : Nat → FieldType := fun k => match k with
  | 0 => .object "RecursionProofs$Program"
  | 1 => .object "RecursionProofs$Closure"
  | _ => .object "RecursionProofs$Order"
abbrev f_X : List Cond := u_ws R_X F_X 3
theorem n_X : ∀ a, a < 3 → ∀ b, b < 3 → a ≠ b → (F_X a).2.1 ≠ (F_X b).2.1 := by decide +kernel
theorem t_X_ok : ∀ k, k < 3 → parseFieldDescriptor (F_X k).2.2.1 = some (t_X k) := by decide +kernel
def R_G : String := "RecursionProofs$Graph"
/-- the classes whose objects the worlds hold -/
abbrev kls : List vw_C := [(R_M, F_M, 18), (R_P, F_P, 6), (R_C, F_C, 11), (R_O, F_O, 2), (R_X, F_X, 3)]
abbrev c_M_init : ByteArray := prog_7_method_1_code
def y_M_init : MethodName := ⟨R_M, "<init>", "()V"⟩
abbrev c_M_thrown : ByteArray := prog_7_method_2_code
def y_M_thrown : MethodName := ⟨R_M, "thrown", "()I"⟩
abbrev c_M_function : ByteArray := prog_7_method_4_code
def y_M_function : MethodName := ⟨R_M, "function", "(I)I"⟩
abbrev c_M_call : ByteArray := prog_7_method_6_code
def y_M_call : MethodName := ⟨R_M, "call", "(III)I"⟩
abbrev c_M_isFunction : ByteArray := prog_7_method_3_code
def y_M_isFunction : MethodName := ⟨R_M, "isFunction", "(I)Z"⟩
abbrev c_M_at : ByteArray := prog_7_method_5_code
def y_M_at : MethodName := ⟨R_M, "at", "(III)I"⟩
abbrev c_M_undo : ByteArray := prog_7_method_7_code
def y_M_undo : MethodName := ⟨R_M, "undo", "()Z"⟩
abbrev c_M_told : ByteArray := prog_7_method_8_code
def y_M_told : MethodName := ⟨R_M, "told", "(II)I"⟩
abbrev c_M_graphs : ByteArray := prog_7_method_14_code
def y_M_graphs : MethodName := ⟨R_M, "graphs", "(II)I"⟩
abbrev c_M_refused : ByteArray := prog_7_method_12_code
def y_M_refused : MethodName := ⟨R_M, "refused", "(ZZ)Z"⟩
abbrev c_M_find : ByteArray := prog_7_method_11_code
def y_M_find : MethodName := ⟨R_M, "find", "(I)Z"⟩
abbrev c_M_add : ByteArray := prog_7_method_10_code
def y_M_add : MethodName := ⟨R_M, "add", "(IIIII)V"⟩
abbrev c_M_joined : ByteArray := prog_7_method_9_code
def y_M_joined : MethodName := ⟨R_M, "joined", "(II)I"⟩
abbrev c_M_between : ByteArray := prog_7_method_13_code
def y_M_between : MethodName := ⟨R_M, "between", "(II)I"⟩
abbrev c_M_graph : ByteArray := prog_7_method_15_code
def y_M_graph : MethodName := ⟨R_M, "graph", "(III)I"⟩
abbrev c_M_isLess : ByteArray := prog_7_method_16_code
def y_M_isLess : MethodName := ⟨R_M, "isLess", "(II)Z"⟩
abbrev c_M_falls : ByteArray := prog_7_method_19_code
def y_M_falls : MethodName := ⟨R_M, "falls", "(I)Z"⟩
abbrev c_M_fallsAt : ByteArray := prog_7_method_18_code
def y_M_fallsAt : MethodName := ⟨R_M, "fallsAt", "(I)Z"⟩
abbrev c_M_isBad : ByteArray := prog_7_method_17_code
def y_M_isBad : MethodName := ⟨R_M, "isBad", "(I)Z"⟩
abbrev c_M_isSafe : ByteArray := prog_7_method_21_code
def y_M_isSafe : MethodName := ⟨R_M, "isSafe", "(I)Z"⟩
abbrev c_M_reachedFrom : ByteArray := prog_7_method_20_code
def y_M_reachedFrom : MethodName := ⟨R_M, "reachedFrom", "(I)I"⟩
abbrev c_M_bad : ByteArray := prog_7_method_22_code
def y_M_bad : MethodName := ⟨R_M, "bad", "(II)I"⟩
abbrev c_M_order : ByteArray := prog_7_method_25_code
def y_M_order : MethodName := ⟨R_M, "order", "(II)I"⟩
abbrev c_M_findOrder : ByteArray := prog_7_method_24_code
def y_M_findOrder : MethodName := ⟨R_M, "findOrder", "(I)I"⟩
abbrev c_M_mayTake : ByteArray := prog_7_method_23_code
def y_M_mayTake : MethodName := ⟨R_M, "mayTake", "(II)Z"⟩
abbrev c_M_reached : ByteArray := prog_7_method_26_code
def y_M_reached : MethodName := ⟨R_M, "reached", "(I)I"⟩
abbrev c_M_product : ByteArray := prog_7_method_27_code
def y_M_product : MethodName := ⟨R_M, "product", "(JI)I"⟩
abbrev c_M_about : ByteArray := prog_7_method_28_code
def y_M_about : MethodName := ⟨R_M, "about", "(I)I"⟩
/-- the words of the tables that the reference needs -/
abbrev wM0 : List Cond := [
  Cond.initialized R_M,
  Cond.instanceMethod objectInit,
  Cond.code objectInit ⟨#[0xb1]⟩ 1 none,
  Cond.arrayClass .int,
  Cond.instantiable R_M 18,
  Cond.instanceMethod y_M_init,
  Cond.code y_M_init c_M_init 1 none,
  Cond.methodLink R_M 1 objectInit,
  Cond.fieldLink R_M 53 R_M "thrown" "I",
  Cond.fieldLink R_M 57 R_M "functions" "I",
  Cond.fieldLink R_M 64 R_M "calls" "I",
  Cond.fieldLink R_M 7 R_M "places" "[I",
  Cond.fieldLink R_M 13 R_M "from" "[I",
  Cond.fieldLink R_M 16 R_M "to" "[I",
  Cond.fieldLink R_M 19 R_M "known" "[I",
  Cond.fieldLink R_M 71 R_M "graphs" "I",
  Cond.fieldLink R_M 22 R_M "first" "[I",
  Cond.fieldLink R_M 25 R_M "last" "[I",
  Cond.fieldLink R_M 28 R_M "bits" "[I",
  Cond.fieldLink R_M 31 R_M "ahead" "[I",
  Cond.fieldLink R_M 34 R_M "by" "[I",
  Cond.fieldLink R_M 37 R_M "row" "[I",
  Cond.fieldLink R_M 40 R_M "taken" "[Z",
  Cond.fieldLink R_M 44 R_M "open" "[Z",
  Cond.fieldLink R_M 47 R_M "order" "[I",
  Cond.fieldLink R_M 50 R_M "sorted" "[I",
  Cond.arrayClass .boolean,
  Cond.instanceMethod y_M_thrown,
  Cond.selects R_M y_M_thrown y_M_thrown,
  Cond.code y_M_thrown c_M_thrown 1 (some .int),
  Cond.instanceMethod y_M_function,
  Cond.selects R_M y_M_function y_M_function,
  Cond.code y_M_function c_M_function 2 (some .int),
  Cond.instanceMethod y_M_call,
  Cond.selects R_M y_M_call y_M_call,
  Cond.code y_M_call c_M_call 8 (some .int),
  Cond.methodLink R_M 60 y_M_isFunction,
  Cond.instanceMethod y_M_isFunction,
  Cond.code y_M_isFunction c_M_isFunction 2 (some .boolean),
  Cond.methodLink R_M 67 y_M_at,
  Cond.static y_M_at,
  Cond.code y_M_at c_M_at 3 (some .int),
  Cond.instanceMethod y_M_undo,
  Cond.selects R_M y_M_undo y_M_undo,
  Cond.code y_M_undo c_M_undo 1 (some .boolean),
  Cond.instanceMethod y_M_told,
  Cond.selects R_M y_M_told y_M_told,
  Cond.code y_M_told c_M_told 3 (some .int),
  Cond.instanceMethod y_M_graphs,
  Cond.selects R_M y_M_graphs y_M_graphs,
  Cond.code y_M_graphs c_M_graphs 4 (some .int),
  Cond.methodLink R_M 85 y_M_refused,
  Cond.instanceMethod y_M_refused,
  Cond.code y_M_refused c_M_refused 3 (some .boolean),
  Cond.methodLink R_M 82 y_M_find,
  Cond.instanceMethod y_M_find,
  Cond.code y_M_find c_M_find 4 (some .boolean),
  Cond.methodLink R_M 74 y_M_add,
  Cond.instanceMethod y_M_add,
  Cond.code y_M_add c_M_add 7 none,
  Cond.methodLink R_M 78 y_M_joined,
  Cond.static y_M_joined,
  Cond.code y_M_joined c_M_joined 10 (some .int),
  Cond.methodLink R_M 89 y_M_between,
  Cond.instanceMethod y_M_between,
  Cond.code y_M_between c_M_between 5 (some .int),
  Cond.instanceMethod y_M_graph,
  Cond.selects R_M y_M_graph y_M_graph,
  Cond.code y_M_graph c_M_graph 7 (some .int),
  Cond.methodLink R_M 92 y_M_isLess,
  Cond.static y_M_isLess,
  Cond.code y_M_isLess c_M_isLess 2 (some .boolean),
  Cond.instanceMethod y_M_falls,
  Cond.selects R_M y_M_falls y_M_falls,
  Cond.code y_M_falls c_M_falls 2 (some .boolean),
  Cond.methodLink R_M 99 y_M_fallsAt,
  Cond.instanceMethod y_M_fallsAt,
  Cond.code y_M_fallsAt c_M_fallsAt 4 (some .boolean),
  Cond.methodLink R_M 96 y_M_isBad,
  Cond.static y_M_isBad,
  Cond.code y_M_isBad c_M_isBad 3 (some .boolean),
  Cond.instanceMethod y_M_isSafe,
  Cond.selects R_M y_M_isSafe y_M_isSafe,
  Cond.code y_M_isSafe c_M_isSafe 5 (some .boolean),
  Cond.methodLink R_M 102 y_M_reachedFrom,
  Cond.instanceMethod y_M_reachedFrom,
  Cond.code y_M_reachedFrom c_M_reachedFrom 5 (some .int),
  Cond.instanceMethod y_M_bad,
  Cond.selects R_M y_M_bad y_M_bad,
  Cond.code y_M_bad c_M_bad 7 (some .int),
  Cond.instanceMethod y_M_order,
  Cond.selects R_M y_M_order y_M_order,
  Cond.code y_M_order c_M_order 4 (some .int),
  Cond.methodLink R_M 109 y_M_findOrder,
  Cond.instanceMethod y_M_findOrder,
  Cond.code y_M_findOrder c_M_findOrder 6 (some .int),
  Cond.methodLink R_M 106 y_M_mayTake,
  Cond.instanceMethod y_M_mayTake,
  Cond.code y_M_mayTake c_M_mayTake 6 (some .boolean),
  Cond.instanceMethod y_M_reached,
  Cond.selects R_M y_M_reached y_M_reached,
  Cond.code y_M_reached c_M_reached 2 (some .int),
  Cond.instanceMethod y_M_product,
  Cond.selects R_M y_M_product y_M_product,
  Cond.code y_M_product c_M_product 8 (some .int),
  Cond.constantLong R_M 112 (31),
  Cond.instanceMethod y_M_about,
  Cond.selects R_M y_M_about y_M_about,
  Cond.code y_M_about c_M_about 2 (some .int),
  Cond.selects R_M y_M_isFunction y_M_isFunction,
  Cond.selects R_M y_M_refused y_M_refused,
  Cond.selects R_M y_M_find y_M_find,
  Cond.selects R_M y_M_add y_M_add,
  Cond.selects R_M y_M_between y_M_between,
  Cond.selects R_M y_M_fallsAt y_M_fallsAt,
  Cond.selects R_M y_M_reachedFrom y_M_reachedFrom,
  Cond.selects R_M y_M_findOrder y_M_findOrder,
  Cond.selects R_M y_M_mayTake y_M_mayTake]
abbrev wMw : List Cond := wM0 ++ f_M
theorem wMw_good : wMw.all goodWord = true := by decide +kernel
theorem k_M_0 : Cond.initialized R_M ∈ wMw := List.mem_append_left _ (List.mem_of_getElem? (i := 0) rfl)
theorem k_M_1 : Cond.instanceMethod objectInit ∈ wMw := List.mem_append_left _ (List.mem_of_getElem? (i := 1) rfl)
theorem k_M_2 : Cond.code objectInit ⟨#[0xb1]⟩ 1 none ∈ wMw := List.mem_append_left _ (List.mem_of_getElem? (i := 2) rfl)
theorem k_M_3 : Cond.arrayClass .int ∈ wMw := List.mem_append_left _ (List.mem_of_getElem? (i := 3) rfl)
theorem k_M_4 : Cond.instantiable R_M 18 ∈ wMw := List.mem_append_left _ (List.mem_of_getElem? (i := 4) rfl)
theorem k_M_5 : Cond.instanceMethod y_M_init ∈ wMw := List.mem_append_left _ (List.mem_of_getElem? (i := 5) rfl)
theorem k_M_6 : Cond.code y_M_init c_M_init 1 none ∈ wMw := List.mem_append_left _ (List.mem_of_getElem? (i := 6) rfl)
theorem k_M_7 : Cond.methodLink R_M 1 objectInit ∈ wMw := List.mem_append_left _ (List.mem_of_getElem? (i := 7) rfl)
theorem k_M_8 : Cond.fieldLink R_M 53 R_M "thrown" "I" ∈ wMw := List.mem_append_left _ (List.mem_of_getElem? (i := 8) rfl)
theorem k_M_9 : Cond.fieldLink R_M 57 R_M "functions" "I" ∈ wMw := List.mem_append_left _ (List.mem_of_getElem? (i := 9) rfl)
theorem k_M_10 : Cond.fieldLink R_M 64 R_M "calls" "I" ∈ wMw := List.mem_append_left _ (List.mem_of_getElem? (i := 10) rfl)
theorem k_M_11 : Cond.fieldLink R_M 7 R_M "places" "[I" ∈ wMw := List.mem_append_left _ (List.mem_of_getElem? (i := 11) rfl)
theorem k_M_12 : Cond.fieldLink R_M 13 R_M "from" "[I" ∈ wMw := List.mem_append_left _ (List.mem_of_getElem? (i := 12) rfl)
theorem k_M_13 : Cond.fieldLink R_M 16 R_M "to" "[I" ∈ wMw := List.mem_append_left _ (List.mem_of_getElem? (i := 13) rfl)
theorem k_M_14 : Cond.fieldLink R_M 19 R_M "known" "[I" ∈ wMw := List.mem_append_left _ (List.mem_of_getElem? (i := 14) rfl)
theorem k_M_15 : Cond.fieldLink R_M 71 R_M "graphs" "I" ∈ wMw := List.mem_append_left _ (List.mem_of_getElem? (i := 15) rfl)
theorem k_M_16 : Cond.fieldLink R_M 22 R_M "first" "[I" ∈ wMw := List.mem_append_left _ (List.mem_of_getElem? (i := 16) rfl)
theorem k_M_17 : Cond.fieldLink R_M 25 R_M "last" "[I" ∈ wMw := List.mem_append_left _ (List.mem_of_getElem? (i := 17) rfl)
theorem k_M_18 : Cond.fieldLink R_M 28 R_M "bits" "[I" ∈ wMw := List.mem_append_left _ (List.mem_of_getElem? (i := 18) rfl)
theorem k_M_19 : Cond.fieldLink R_M 31 R_M "ahead" "[I" ∈ wMw := List.mem_append_left _ (List.mem_of_getElem? (i := 19) rfl)
theorem k_M_20 : Cond.fieldLink R_M 34 R_M "by" "[I" ∈ wMw := List.mem_append_left _ (List.mem_of_getElem? (i := 20) rfl)
theorem k_M_21 : Cond.fieldLink R_M 37 R_M "row" "[I" ∈ wMw := List.mem_append_left _ (List.mem_of_getElem? (i := 21) rfl)
theorem k_M_22 : Cond.fieldLink R_M 40 R_M "taken" "[Z" ∈ wMw := List.mem_append_left _ (List.mem_of_getElem? (i := 22) rfl)
theorem k_M_23 : Cond.fieldLink R_M 44 R_M "open" "[Z" ∈ wMw := List.mem_append_left _ (List.mem_of_getElem? (i := 23) rfl)
theorem k_M_24 : Cond.fieldLink R_M 47 R_M "order" "[I" ∈ wMw := List.mem_append_left _ (List.mem_of_getElem? (i := 24) rfl)
theorem k_M_25 : Cond.fieldLink R_M 50 R_M "sorted" "[I" ∈ wMw := List.mem_append_left _ (List.mem_of_getElem? (i := 25) rfl)
theorem k_M_26 : Cond.arrayClass .boolean ∈ wMw := List.mem_append_left _ (List.mem_of_getElem? (i := 26) rfl)
theorem k_M_27 : Cond.instanceMethod y_M_thrown ∈ wMw := List.mem_append_left _ (List.mem_of_getElem? (i := 27) rfl)
theorem k_M_28 : Cond.selects R_M y_M_thrown y_M_thrown ∈ wMw := List.mem_append_left _ (List.mem_of_getElem? (i := 28) rfl)
theorem k_M_29 : Cond.code y_M_thrown c_M_thrown 1 (some .int) ∈ wMw := List.mem_append_left _ (List.mem_of_getElem? (i := 29) rfl)
theorem k_M_30 : Cond.instanceMethod y_M_function ∈ wMw := List.mem_append_left _ (List.mem_of_getElem? (i := 30) rfl)
theorem k_M_31 : Cond.selects R_M y_M_function y_M_function ∈ wMw := List.mem_append_left _ (List.mem_of_getElem? (i := 31) rfl)
theorem k_M_32 : Cond.code y_M_function c_M_function 2 (some .int) ∈ wMw := List.mem_append_left _ (List.mem_of_getElem? (i := 32) rfl)
theorem k_M_33 : Cond.instanceMethod y_M_call ∈ wMw := List.mem_append_left _ (List.mem_of_getElem? (i := 33) rfl)
theorem k_M_34 : Cond.selects R_M y_M_call y_M_call ∈ wMw := List.mem_append_left _ (List.mem_of_getElem? (i := 34) rfl)
theorem k_M_35 : Cond.code y_M_call c_M_call 8 (some .int) ∈ wMw := List.mem_append_left _ (List.mem_of_getElem? (i := 35) rfl)
theorem k_M_36 : Cond.methodLink R_M 60 y_M_isFunction ∈ wMw := List.mem_append_left _ (List.mem_of_getElem? (i := 36) rfl)
theorem k_M_37 : Cond.instanceMethod y_M_isFunction ∈ wMw := List.mem_append_left _ (List.mem_of_getElem? (i := 37) rfl)
theorem k_M_38 : Cond.code y_M_isFunction c_M_isFunction 2 (some .boolean) ∈ wMw := List.mem_append_left _ (List.mem_of_getElem? (i := 38) rfl)
theorem k_M_39 : Cond.methodLink R_M 67 y_M_at ∈ wMw := List.mem_append_left _ (List.mem_of_getElem? (i := 39) rfl)
theorem k_M_40 : Cond.static y_M_at ∈ wMw := List.mem_append_left _ (List.mem_of_getElem? (i := 40) rfl)
theorem k_M_41 : Cond.code y_M_at c_M_at 3 (some .int) ∈ wMw := List.mem_append_left _ (List.mem_of_getElem? (i := 41) rfl)
theorem k_M_42 : Cond.instanceMethod y_M_undo ∈ wMw := List.mem_append_left _ (List.mem_of_getElem? (i := 42) rfl)
theorem k_M_43 : Cond.selects R_M y_M_undo y_M_undo ∈ wMw := List.mem_append_left _ (List.mem_of_getElem? (i := 43) rfl)
theorem k_M_44 : Cond.code y_M_undo c_M_undo 1 (some .boolean) ∈ wMw := List.mem_append_left _ (List.mem_of_getElem? (i := 44) rfl)
theorem k_M_45 : Cond.instanceMethod y_M_told ∈ wMw := List.mem_append_left _ (List.mem_of_getElem? (i := 45) rfl)
theorem k_M_46 : Cond.selects R_M y_M_told y_M_told ∈ wMw := List.mem_append_left _ (List.mem_of_getElem? (i := 46) rfl)
theorem k_M_47 : Cond.code y_M_told c_M_told 3 (some .int) ∈ wMw := List.mem_append_left _ (List.mem_of_getElem? (i := 47) rfl)
theorem k_M_48 : Cond.instanceMethod y_M_graphs ∈ wMw := List.mem_append_left _ (List.mem_of_getElem? (i := 48) rfl)
theorem k_M_49 : Cond.selects R_M y_M_graphs y_M_graphs ∈ wMw := List.mem_append_left _ (List.mem_of_getElem? (i := 49) rfl)
theorem k_M_50 : Cond.code y_M_graphs c_M_graphs 4 (some .int) ∈ wMw := List.mem_append_left _ (List.mem_of_getElem? (i := 50) rfl)
theorem k_M_51 : Cond.methodLink R_M 85 y_M_refused ∈ wMw := List.mem_append_left _ (List.mem_of_getElem? (i := 51) rfl)
theorem k_M_52 : Cond.instanceMethod y_M_refused ∈ wMw := List.mem_append_left _ (List.mem_of_getElem? (i := 52) rfl)
theorem k_M_53 : Cond.code y_M_refused c_M_refused 3 (some .boolean) ∈ wMw := List.mem_append_left _ (List.mem_of_getElem? (i := 53) rfl)
theorem k_M_54 : Cond.methodLink R_M 82 y_M_find ∈ wMw := List.mem_append_left _ (List.mem_of_getElem? (i := 54) rfl)
theorem k_M_55 : Cond.instanceMethod y_M_find ∈ wMw := List.mem_append_left _ (List.mem_of_getElem? (i := 55) rfl)
theorem k_M_56 : Cond.code y_M_find c_M_find 4 (some .boolean) ∈ wMw := List.mem_append_left _ (List.mem_of_getElem? (i := 56) rfl)
theorem k_M_57 : Cond.methodLink R_M 74 y_M_add ∈ wMw := List.mem_append_left _ (List.mem_of_getElem? (i := 57) rfl)
theorem k_M_58 : Cond.instanceMethod y_M_add ∈ wMw := List.mem_append_left _ (List.mem_of_getElem? (i := 58) rfl)
theorem k_M_59 : Cond.code y_M_add c_M_add 7 none ∈ wMw := List.mem_append_left _ (List.mem_of_getElem? (i := 59) rfl)
theorem k_M_60 : Cond.methodLink R_M 78 y_M_joined ∈ wMw := List.mem_append_left _ (List.mem_of_getElem? (i := 60) rfl)
theorem k_M_61 : Cond.static y_M_joined ∈ wMw := List.mem_append_left _ (List.mem_of_getElem? (i := 61) rfl)
theorem k_M_62 : Cond.code y_M_joined c_M_joined 10 (some .int) ∈ wMw := List.mem_append_left _ (List.mem_of_getElem? (i := 62) rfl)
theorem k_M_63 : Cond.methodLink R_M 89 y_M_between ∈ wMw := List.mem_append_left _ (List.mem_of_getElem? (i := 63) rfl)
theorem k_M_64 : Cond.instanceMethod y_M_between ∈ wMw := List.mem_append_left _ (List.mem_of_getElem? (i := 64) rfl)
theorem k_M_65 : Cond.code y_M_between c_M_between 5 (some .int) ∈ wMw := List.mem_append_left _ (List.mem_of_getElem? (i := 65) rfl)
theorem k_M_66 : Cond.instanceMethod y_M_graph ∈ wMw := List.mem_append_left _ (List.mem_of_getElem? (i := 66) rfl)
theorem k_M_67 : Cond.selects R_M y_M_graph y_M_graph ∈ wMw := List.mem_append_left _ (List.mem_of_getElem? (i := 67) rfl)
theorem k_M_68 : Cond.code y_M_graph c_M_graph 7 (some .int) ∈ wMw := List.mem_append_left _ (List.mem_of_getElem? (i := 68) rfl)
theorem k_M_69 : Cond.methodLink R_M 92 y_M_isLess ∈ wMw := List.mem_append_left _ (List.mem_of_getElem? (i := 69) rfl)
theorem k_M_70 : Cond.static y_M_isLess ∈ wMw := List.mem_append_left _ (List.mem_of_getElem? (i := 70) rfl)
theorem k_M_71 : Cond.code y_M_isLess c_M_isLess 2 (some .boolean) ∈ wMw := List.mem_append_left _ (List.mem_of_getElem? (i := 71) rfl)
theorem k_M_72 : Cond.instanceMethod y_M_falls ∈ wMw := List.mem_append_left _ (List.mem_of_getElem? (i := 72) rfl)
theorem k_M_73 : Cond.selects R_M y_M_falls y_M_falls ∈ wMw := List.mem_append_left _ (List.mem_of_getElem? (i := 73) rfl)
theorem k_M_74 : Cond.code y_M_falls c_M_falls 2 (some .boolean) ∈ wMw := List.mem_append_left _ (List.mem_of_getElem? (i := 74) rfl)
theorem k_M_75 : Cond.methodLink R_M 99 y_M_fallsAt ∈ wMw := List.mem_append_left _ (List.mem_of_getElem? (i := 75) rfl)
theorem k_M_76 : Cond.instanceMethod y_M_fallsAt ∈ wMw := List.mem_append_left _ (List.mem_of_getElem? (i := 76) rfl)
theorem k_M_77 : Cond.code y_M_fallsAt c_M_fallsAt 4 (some .boolean) ∈ wMw := List.mem_append_left _ (List.mem_of_getElem? (i := 77) rfl)
theorem k_M_78 : Cond.methodLink R_M 96 y_M_isBad ∈ wMw := List.mem_append_left _ (List.mem_of_getElem? (i := 78) rfl)
theorem k_M_79 : Cond.static y_M_isBad ∈ wMw := List.mem_append_left _ (List.mem_of_getElem? (i := 79) rfl)
theorem k_M_80 : Cond.code y_M_isBad c_M_isBad 3 (some .boolean) ∈ wMw := List.mem_append_left _ (List.mem_of_getElem? (i := 80) rfl)
theorem k_M_81 : Cond.instanceMethod y_M_isSafe ∈ wMw := List.mem_append_left _ (List.mem_of_getElem? (i := 81) rfl)
theorem k_M_82 : Cond.selects R_M y_M_isSafe y_M_isSafe ∈ wMw := List.mem_append_left _ (List.mem_of_getElem? (i := 82) rfl)
theorem k_M_83 : Cond.code y_M_isSafe c_M_isSafe 5 (some .boolean) ∈ wMw := List.mem_append_left _ (List.mem_of_getElem? (i := 83) rfl)
theorem k_M_84 : Cond.methodLink R_M 102 y_M_reachedFrom ∈ wMw := List.mem_append_left _ (List.mem_of_getElem? (i := 84) rfl)
theorem k_M_85 : Cond.instanceMethod y_M_reachedFrom ∈ wMw := List.mem_append_left _ (List.mem_of_getElem? (i := 85) rfl)
theorem k_M_86 : Cond.code y_M_reachedFrom c_M_reachedFrom 5 (some .int) ∈ wMw := List.mem_append_left _ (List.mem_of_getElem? (i := 86) rfl)
theorem k_M_87 : Cond.instanceMethod y_M_bad ∈ wMw := List.mem_append_left _ (List.mem_of_getElem? (i := 87) rfl)
theorem k_M_88 : Cond.selects R_M y_M_bad y_M_bad ∈ wMw := List.mem_append_left _ (List.mem_of_getElem? (i := 88) rfl)
theorem k_M_89 : Cond.code y_M_bad c_M_bad 7 (some .int) ∈ wMw := List.mem_append_left _ (List.mem_of_getElem? (i := 89) rfl)
theorem k_M_90 : Cond.instanceMethod y_M_order ∈ wMw := List.mem_append_left _ (List.mem_of_getElem? (i := 90) rfl)
theorem k_M_91 : Cond.selects R_M y_M_order y_M_order ∈ wMw := List.mem_append_left _ (List.mem_of_getElem? (i := 91) rfl)
theorem k_M_92 : Cond.code y_M_order c_M_order 4 (some .int) ∈ wMw := List.mem_append_left _ (List.mem_of_getElem? (i := 92) rfl)
theorem k_M_93 : Cond.methodLink R_M 109 y_M_findOrder ∈ wMw := List.mem_append_left _ (List.mem_of_getElem? (i := 93) rfl)
theorem k_M_94 : Cond.instanceMethod y_M_findOrder ∈ wMw := List.mem_append_left _ (List.mem_of_getElem? (i := 94) rfl)
theorem k_M_95 : Cond.code y_M_findOrder c_M_findOrder 6 (some .int) ∈ wMw := List.mem_append_left _ (List.mem_of_getElem? (i := 95) rfl)
theorem k_M_96 : Cond.methodLink R_M 106 y_M_mayTake ∈ wMw := List.mem_append_left _ (List.mem_of_getElem? (i := 96) rfl)
theorem k_M_97 : Cond.instanceMethod y_M_mayTake ∈ wMw := List.mem_append_left _ (List.mem_of_getElem? (i := 97) rfl)
theorem k_M_98 : Cond.code y_M_mayTake c_M_mayTake 6 (some .boolean) ∈ wMw := List.mem_append_left _ (List.mem_of_getElem? (i := 98) rfl)
theorem k_M_99 : Cond.instanceMethod y_M_reached ∈ wMw := List.mem_append_left _ (List.mem_of_getElem? (i := 99) rfl)
theorem k_M_100 : Cond.selects R_M y_M_reached y_M_reached ∈ wMw := List.mem_append_left _ (List.mem_of_getElem? (i := 100) rfl)
theorem k_M_101 : Cond.code y_M_reached c_M_reached 2 (some .int) ∈ wMw := List.mem_append_left _ (List.mem_of_getElem? (i := 101) rfl)
theorem k_M_102 : Cond.instanceMethod y_M_product ∈ wMw := List.mem_append_left _ (List.mem_of_getElem? (i := 102) rfl)
theorem k_M_103 : Cond.selects R_M y_M_product y_M_product ∈ wMw := List.mem_append_left _ (List.mem_of_getElem? (i := 103) rfl)
theorem k_M_104 : Cond.code y_M_product c_M_product 8 (some .int) ∈ wMw := List.mem_append_left _ (List.mem_of_getElem? (i := 104) rfl)
theorem k_M_105 : Cond.constantLong R_M 112 (31) ∈ wMw := List.mem_append_left _ (List.mem_of_getElem? (i := 105) rfl)
theorem k_M_106 : Cond.instanceMethod y_M_about ∈ wMw := List.mem_append_left _ (List.mem_of_getElem? (i := 106) rfl)
theorem k_M_107 : Cond.selects R_M y_M_about y_M_about ∈ wMw := List.mem_append_left _ (List.mem_of_getElem? (i := 107) rfl)
theorem k_M_108 : Cond.code y_M_about c_M_about 2 (some .int) ∈ wMw := List.mem_append_left _ (List.mem_of_getElem? (i := 108) rfl)
theorem k_M_109 : Cond.selects R_M y_M_isFunction y_M_isFunction ∈ wMw := List.mem_append_left _ (List.mem_of_getElem? (i := 109) rfl)
theorem k_M_110 : Cond.selects R_M y_M_refused y_M_refused ∈ wMw := List.mem_append_left _ (List.mem_of_getElem? (i := 110) rfl)
theorem k_M_111 : Cond.selects R_M y_M_find y_M_find ∈ wMw := List.mem_append_left _ (List.mem_of_getElem? (i := 111) rfl)
theorem k_M_112 : Cond.selects R_M y_M_add y_M_add ∈ wMw := List.mem_append_left _ (List.mem_of_getElem? (i := 112) rfl)
theorem k_M_113 : Cond.selects R_M y_M_between y_M_between ∈ wMw := List.mem_append_left _ (List.mem_of_getElem? (i := 113) rfl)
theorem k_M_114 : Cond.selects R_M y_M_fallsAt y_M_fallsAt ∈ wMw := List.mem_append_left _ (List.mem_of_getElem? (i := 114) rfl)
theorem k_M_115 : Cond.selects R_M y_M_reachedFrom y_M_reachedFrom ∈ wMw := List.mem_append_left _ (List.mem_of_getElem? (i := 115) rfl)
theorem k_M_116 : Cond.selects R_M y_M_findOrder y_M_findOrder ∈ wMw := List.mem_append_left _ (List.mem_of_getElem? (i := 116) rfl)
theorem k_M_117 : Cond.selects R_M y_M_mayTake y_M_mayTake ∈ wMw := List.mem_append_left _ (List.mem_of_getElem? (i := 117) rfl)
theorem k_M_f : ∀ w ∈ f_M, w ∈ wMw := fun _ h => List.mem_append_right _ h
abbrev w_M_init : List Cond := .code y_M_init c_M_init 1 none :: wMw
abbrev w_M_thrown : List Cond := .code y_M_thrown c_M_thrown 1 (some .int) :: wMw
abbrev w_M_function : List Cond := .code y_M_function c_M_function 2 (some .int) :: wMw
abbrev w_M_call : List Cond := .code y_M_call c_M_call 8 (some .int) :: wMw
abbrev w_M_isFunction : List Cond := .code y_M_isFunction c_M_isFunction 2 (some .boolean) :: wMw
abbrev w_M_at : List Cond := .code y_M_at c_M_at 3 (some .int) :: wMw
abbrev w_M_undo : List Cond := .code y_M_undo c_M_undo 1 (some .boolean) :: wMw
abbrev w_M_told : List Cond := .code y_M_told c_M_told 3 (some .int) :: wMw
abbrev w_M_graphs : List Cond := .code y_M_graphs c_M_graphs 4 (some .int) :: wMw
abbrev w_M_refused : List Cond := .code y_M_refused c_M_refused 3 (some .boolean) :: wMw
abbrev w_M_find : List Cond := .code y_M_find c_M_find 4 (some .boolean) :: wMw
abbrev w_M_add : List Cond := .code y_M_add c_M_add 7 none :: wMw
abbrev w_M_joined : List Cond := .code y_M_joined c_M_joined 10 (some .int) :: wMw
abbrev w_M_between : List Cond := .code y_M_between c_M_between 5 (some .int) :: wMw
abbrev w_M_graph : List Cond := .code y_M_graph c_M_graph 7 (some .int) :: wMw
abbrev w_M_isLess : List Cond := .code y_M_isLess c_M_isLess 2 (some .boolean) :: wMw
abbrev w_M_falls : List Cond := .code y_M_falls c_M_falls 2 (some .boolean) :: wMw
abbrev w_M_fallsAt : List Cond := .code y_M_fallsAt c_M_fallsAt 4 (some .boolean) :: wMw
abbrev w_M_isBad : List Cond := .code y_M_isBad c_M_isBad 3 (some .boolean) :: wMw
abbrev w_M_isSafe : List Cond := .code y_M_isSafe c_M_isSafe 5 (some .boolean) :: wMw
abbrev w_M_reachedFrom : List Cond := .code y_M_reachedFrom c_M_reachedFrom 5 (some .int) :: wMw
abbrev w_M_bad : List Cond := .code y_M_bad c_M_bad 7 (some .int) :: wMw
abbrev w_M_order : List Cond := .code y_M_order c_M_order 4 (some .int) :: wMw
abbrev w_M_findOrder : List Cond := .code y_M_findOrder c_M_findOrder 6 (some .int) :: wMw
abbrev w_M_mayTake : List Cond := .code y_M_mayTake c_M_mayTake 6 (some .boolean) :: wMw
abbrev w_M_reached : List Cond := .code y_M_reached c_M_reached 2 (some .int) :: wMw
abbrev w_M_product : List Cond := .code y_M_product c_M_product 8 (some .int) :: wMw
abbrev w_M_about : List Cond := .code y_M_about c_M_about 2 (some .int) :: wMw
end
section
theorem d_M_init_0 : decode c_M_init 0 = .ok (.aload_n 0, 1) := by decide +kernel
theorem d_M_init_1 : decode c_M_init 1 = .ok (.invokespecial 1, 3) := by decide +kernel
theorem d_M_init_4 : decode c_M_init 4 = .ok (.aload_n 0, 1) := by decide +kernel
theorem d_M_init_5 : decode c_M_init 5 = .ok (.bipush 10, 2) := by decide +kernel
theorem d_M_init_7 : decode c_M_init 7 = .ok (.newarray .int, 2) := by decide +kernel
theorem d_M_init_9 : decode c_M_init 9 = .ok (.putfield 7, 3) := by decide +kernel
theorem d_M_init_12 : decode c_M_init 12 = .ok (.aload_n 0, 1) := by decide +kernel
theorem d_M_init_13 : decode c_M_init 13 = .ok (.bipush 20, 2) := by decide +kernel
theorem d_M_init_15 : decode c_M_init 15 = .ok (.newarray .int, 2) := by decide +kernel
theorem d_M_init_17 : decode c_M_init 17 = .ok (.putfield 13, 3) := by decide +kernel
theorem d_M_init_20 : decode c_M_init 20 = .ok (.aload_n 0, 1) := by decide +kernel
theorem d_M_init_21 : decode c_M_init 21 = .ok (.bipush 20, 2) := by decide +kernel
theorem d_M_init_23 : decode c_M_init 23 = .ok (.newarray .int, 2) := by decide +kernel
theorem d_M_init_25 : decode c_M_init 25 = .ok (.putfield 16, 3) := by decide +kernel
theorem d_M_init_28 : decode c_M_init 28 = .ok (.aload_n 0, 1) := by decide +kernel
theorem d_M_init_29 : decode c_M_init 29 = .ok (.bipush 20, 2) := by decide +kernel
theorem d_M_init_31 : decode c_M_init 31 = .ok (.newarray .int, 2) := by decide +kernel
theorem d_M_init_33 : decode c_M_init 33 = .ok (.putfield 19, 3) := by decide +kernel
theorem d_M_init_36 : decode c_M_init 36 = .ok (.aload_n 0, 1) := by decide +kernel
theorem d_M_init_37 : decode c_M_init 37 = .ok (.sipush 801, 3) := by decide +kernel
theorem d_M_init_40 : decode c_M_init 40 = .ok (.newarray .int, 2) := by decide +kernel
theorem d_M_init_42 : decode c_M_init 42 = .ok (.putfield 22, 3) := by decide +kernel
theorem d_M_init_45 : decode c_M_init 45 = .ok (.aload_n 0, 1) := by decide +kernel
theorem d_M_init_46 : decode c_M_init 46 = .ok (.sipush 801, 3) := by decide +kernel
theorem d_M_init_49 : decode c_M_init 49 = .ok (.newarray .int, 2) := by decide +kernel
theorem d_M_init_51 : decode c_M_init 51 = .ok (.putfield 25, 3) := by decide +kernel
theorem d_M_init_54 : decode c_M_init 54 = .ok (.aload_n 0, 1) := by decide +kernel
theorem d_M_init_55 : decode c_M_init 55 = .ok (.sipush 801, 3) := by decide +kernel
theorem d_M_init_58 : decode c_M_init 58 = .ok (.newarray .int, 2) := by decide +kernel
theorem d_M_init_60 : decode c_M_init 60 = .ok (.putfield 28, 3) := by decide +kernel
theorem d_M_init_63 : decode c_M_init 63 = .ok (.aload_n 0, 1) := by decide +kernel
theorem d_M_init_64 : decode c_M_init 64 = .ok (.sipush 801, 3) := by decide +kernel
theorem d_M_init_67 : decode c_M_init 67 = .ok (.newarray .int, 2) := by decide +kernel
theorem d_M_init_69 : decode c_M_init 69 = .ok (.putfield 31, 3) := by decide +kernel
theorem d_M_init_72 : decode c_M_init 72 = .ok (.aload_n 0, 1) := by decide +kernel
theorem d_M_init_73 : decode c_M_init 73 = .ok (.sipush 801, 3) := by decide +kernel
theorem d_M_init_76 : decode c_M_init 76 = .ok (.newarray .int, 2) := by decide +kernel
theorem d_M_init_78 : decode c_M_init 78 = .ok (.putfield 34, 3) := by decide +kernel
theorem d_M_init_81 : decode c_M_init 81 = .ok (.aload_n 0, 1) := by decide +kernel
theorem d_M_init_82 : decode c_M_init 82 = .ok (.sipush 801, 3) := by decide +kernel
theorem d_M_init_85 : decode c_M_init 85 = .ok (.newarray .int, 2) := by decide +kernel
theorem d_M_init_87 : decode c_M_init 87 = .ok (.putfield 37, 3) := by decide +kernel
theorem d_M_init_90 : decode c_M_init 90 = .ok (.aload_n 0, 1) := by decide +kernel
theorem d_M_init_91 : decode c_M_init 91 = .ok (.iconst 4, 1) := by decide +kernel
theorem d_M_init_92 : decode c_M_init 92 = .ok (.newarray .boolean, 2) := by decide +kernel
theorem d_M_init_94 : decode c_M_init 94 = .ok (.putfield 40, 3) := by decide +kernel
theorem d_M_init_97 : decode c_M_init 97 = .ok (.aload_n 0, 1) := by decide +kernel
theorem d_M_init_98 : decode c_M_init 98 = .ok (.bipush 20, 2) := by decide +kernel
theorem d_M_init_100 : decode c_M_init 100 = .ok (.newarray .boolean, 2) := by decide +kernel
theorem d_M_init_102 : decode c_M_init 102 = .ok (.putfield 44, 3) := by decide +kernel
theorem d_M_init_105 : decode c_M_init 105 = .ok (.aload_n 0, 1) := by decide +kernel
theorem d_M_init_106 : decode c_M_init 106 = .ok (.iconst 4, 1) := by decide +kernel
theorem d_M_init_107 : decode c_M_init 107 = .ok (.newarray .int, 2) := by decide +kernel
theorem d_M_init_109 : decode c_M_init 109 = .ok (.putfield 47, 3) := by decide +kernel
theorem d_M_init_112 : decode c_M_init 112 = .ok (.aload_n 0, 1) := by decide +kernel
theorem d_M_init_113 : decode c_M_init 113 = .ok (.sipush 801, 3) := by decide +kernel
theorem d_M_init_116 : decode c_M_init 116 = .ok (.newarray .int, 2) := by decide +kernel
theorem d_M_init_118 : decode c_M_init 118 = .ok (.putfield 50, 3) := by decide +kernel
theorem d_M_init_121 : decode c_M_init 121 = .ok (.return_, 1) := by decide +kernel
theorem d_M_thrown_0 : decode c_M_thrown 0 = .ok (.aload_n 0, 1) := by decide +kernel
theorem d_M_thrown_1 : decode c_M_thrown 1 = .ok (.getfield 53, 3) := by decide +kernel
theorem d_M_thrown_4 : decode c_M_thrown 4 = .ok (.ireturn, 1) := by decide +kernel
theorem d_M_function_0 : decode c_M_function 0 = .ok (.aload_n 0, 1) := by decide +kernel
theorem d_M_function_1 : decode c_M_function 1 = .ok (.iload_n 1, 1) := by decide +kernel
theorem d_M_function_2 : decode c_M_function 2 = .ok (.iconst 1, 1) := by decide +kernel
theorem d_M_function_3 : decode c_M_function 3 = .ok (.if_icmp .lt 8, 3) := by decide +kernel
theorem d_M_function_6 : decode c_M_function 6 = .ok (.iload_n 1, 1) := by decide +kernel
theorem d_M_function_7 : decode c_M_function 7 = .ok (.iconst 4, 1) := by decide +kernel
theorem d_M_function_8 : decode c_M_function 8 = .ok (.if_icmp .le 7, 3) := by decide +kernel
theorem d_M_function_11 : decode c_M_function 11 = .ok (.iconst 1, 1) := by decide +kernel
theorem d_M_function_12 : decode c_M_function 12 = .ok (.goto 17, 3) := by decide +kernel
theorem d_M_function_15 : decode c_M_function 15 = .ok (.aload_n 0, 1) := by decide +kernel
theorem d_M_function_16 : decode c_M_function 16 = .ok (.getfield 57, 3) := by decide +kernel
theorem d_M_function_19 : decode c_M_function 19 = .ok (.bipush 10, 2) := by decide +kernel
theorem d_M_function_21 : decode c_M_function 21 = .ok (.if_icmp .ne 7, 3) := by decide +kernel
theorem d_M_function_24 : decode c_M_function 24 = .ok (.iconst 2, 1) := by decide +kernel
theorem d_M_function_25 : decode c_M_function 25 = .ok (.goto 4, 3) := by decide +kernel
theorem d_M_function_28 : decode c_M_function 28 = .ok (.iconst 0, 1) := by decide +kernel
theorem d_M_function_29 : decode c_M_function 29 = .ok (.putfield 53, 3) := by decide +kernel
theorem d_M_function_32 : decode c_M_function 32 = .ok (.aload_n 0, 1) := by decide +kernel
theorem d_M_function_33 : decode c_M_function 33 = .ok (.getfield 53, 3) := by decide +kernel
theorem d_M_function_36 : decode c_M_function 36 = .ok (.ifCond .le 5, 3) := by decide +kernel
theorem d_M_function_39 : decode c_M_function 39 = .ok (.iconst 0, 1) := by decide +kernel
theorem d_M_function_40 : decode c_M_function 40 = .ok (.ireturn, 1) := by decide +kernel
theorem d_M_function_41 : decode c_M_function 41 = .ok (.aload_n 0, 1) := by decide +kernel
theorem d_M_function_42 : decode c_M_function 42 = .ok (.getfield 7, 3) := by decide +kernel
theorem d_M_function_45 : decode c_M_function 45 = .ok (.aload_n 0, 1) := by decide +kernel
theorem d_M_function_46 : decode c_M_function 46 = .ok (.getfield 57, 3) := by decide +kernel
theorem d_M_function_49 : decode c_M_function 49 = .ok (.iload_n 1, 1) := by decide +kernel
theorem d_M_function_50 : decode c_M_function 50 = .ok (.iastore, 1) := by decide +kernel
theorem d_M_function_51 : decode c_M_function 51 = .ok (.aload_n 0, 1) := by decide +kernel
theorem d_M_function_52 : decode c_M_function 52 = .ok (.dup, 1) := by decide +kernel
theorem d_M_function_53 : decode c_M_function 53 = .ok (.getfield 57, 3) := by decide +kernel
theorem d_M_function_56 : decode c_M_function 56 = .ok (.iconst 1, 1) := by decide +kernel
theorem d_M_function_57 : decode c_M_function 57 = .ok (.iadd, 1) := by decide +kernel
theorem d_M_function_58 : decode c_M_function 58 = .ok (.putfield 57, 3) := by decide +kernel
theorem d_M_function_61 : decode c_M_function 61 = .ok (.aload_n 0, 1) := by decide +kernel
theorem d_M_function_62 : decode c_M_function 62 = .ok (.getfield 57, 3) := by decide +kernel
theorem d_M_function_65 : decode c_M_function 65 = .ok (.iconst 1, 1) := by decide +kernel
theorem d_M_function_66 : decode c_M_function 66 = .ok (.isub, 1) := by decide +kernel
theorem d_M_function_67 : decode c_M_function 67 = .ok (.ireturn, 1) := by decide +kernel
theorem d_M_call_0 : decode c_M_call 0 = .ok (.aload_n 0, 1) := by decide +kernel
theorem d_M_call_1 : decode c_M_call 1 = .ok (.aload_n 0, 1) := by decide +kernel
theorem d_M_call_2 : decode c_M_call 2 = .ok (.iload_n 1, 1) := by decide +kernel
theorem d_M_call_3 : decode c_M_call 3 = .ok (.invokevirtual 60, 3) := by decide +kernel
theorem d_M_call_6 : decode c_M_call 6 = .ok (.ifCond .eq 11, 3) := by decide +kernel
theorem d_M_call_9 : decode c_M_call 9 = .ok (.aload_n 0, 1) := by decide +kernel
theorem d_M_call_10 : decode c_M_call 10 = .ok (.iload_n 2, 1) := by decide +kernel
theorem d_M_call_11 : decode c_M_call 11 = .ok (.invokevirtual 60, 3) := by decide +kernel
theorem d_M_call_14 : decode c_M_call 14 = .ok (.ifCond .ne 7, 3) := by decide +kernel
theorem d_M_call_17 : decode c_M_call 17 = .ok (.iconst 1, 1) := by decide +kernel
theorem d_M_call_18 : decode c_M_call 18 = .ok (.goto 17, 3) := by decide +kernel
theorem d_M_call_21 : decode c_M_call 21 = .ok (.aload_n 0, 1) := by decide +kernel
theorem d_M_call_22 : decode c_M_call 22 = .ok (.getfield 64, 3) := by decide +kernel
theorem d_M_call_25 : decode c_M_call 25 = .ok (.bipush 20, 2) := by decide +kernel
theorem d_M_call_27 : decode c_M_call 27 = .ok (.if_icmp .ne 7, 3) := by decide +kernel
theorem d_M_call_30 : decode c_M_call 30 = .ok (.iconst 2, 1) := by decide +kernel
theorem d_M_call_31 : decode c_M_call 31 = .ok (.goto 4, 3) := by decide +kernel
theorem d_M_call_34 : decode c_M_call 34 = .ok (.iconst 0, 1) := by decide +kernel
theorem d_M_call_35 : decode c_M_call 35 = .ok (.putfield 53, 3) := by decide +kernel
theorem d_M_call_38 : decode c_M_call 38 = .ok (.aload_n 0, 1) := by decide +kernel
theorem d_M_call_39 : decode c_M_call 39 = .ok (.getfield 53, 3) := by decide +kernel
theorem d_M_call_42 : decode c_M_call 42 = .ok (.ifCond .le 5, 3) := by decide +kernel
theorem d_M_call_45 : decode c_M_call 45 = .ok (.iconst 0, 1) := by decide +kernel
theorem d_M_call_46 : decode c_M_call 46 = .ok (.ireturn, 1) := by decide +kernel
theorem d_M_call_47 : decode c_M_call 47 = .ok (.iconst 0, 1) := by decide +kernel
theorem d_M_call_48 : decode c_M_call 48 = .ok (.istore 4, 2) := by decide +kernel
theorem d_M_call_50 : decode c_M_call 50 = .ok (.iconst 0, 1) := by decide +kernel
theorem d_M_call_51 : decode c_M_call 51 = .ok (.istore 5, 2) := by decide +kernel
theorem d_M_call_53 : decode c_M_call 53 = .ok (.iload 5, 2) := by decide +kernel
theorem d_M_call_55 : decode c_M_call 55 = .ok (.aload_n 0, 1) := by decide +kernel
theorem d_M_call_56 : decode c_M_call 56 = .ok (.getfield 7, 3) := by decide +kernel
theorem d_M_call_59 : decode c_M_call 59 = .ok (.iload_n 1, 1) := by decide +kernel
theorem d_M_call_60 : decode c_M_call 60 = .ok (.iaload, 1) := by decide +kernel
theorem d_M_call_61 : decode c_M_call 61 = .ok (.if_icmp .ge 67, 3) := by decide +kernel
theorem d_M_call_64 : decode c_M_call 64 = .ok (.iconst 0, 1) := by decide +kernel
theorem d_M_call_65 : decode c_M_call 65 = .ok (.istore 6, 2) := by decide +kernel
theorem d_M_call_67 : decode c_M_call 67 = .ok (.iload 6, 2) := by decide +kernel
theorem d_M_call_69 : decode c_M_call 69 = .ok (.aload_n 0, 1) := by decide +kernel
theorem d_M_call_70 : decode c_M_call 70 = .ok (.getfield 7, 3) := by decide +kernel
theorem d_M_call_73 : decode c_M_call 73 = .ok (.iload_n 2, 1) := by decide +kernel
theorem d_M_call_74 : decode c_M_call 74 = .ok (.iaload, 1) := by decide +kernel
theorem d_M_call_75 : decode c_M_call 75 = .ok (.if_icmp .ge 47, 3) := by decide +kernel
theorem d_M_call_78 : decode c_M_call 78 = .ok (.iload_n 3, 1) := by decide +kernel
theorem d_M_call_79 : decode c_M_call 79 = .ok (.iload 5, 2) := by decide +kernel
theorem d_M_call_81 : decode c_M_call 81 = .ok (.iload 6, 2) := by decide +kernel
theorem d_M_call_83 : decode c_M_call 83 = .ok (.invokestatic 67, 3) := by decide +kernel
theorem d_M_call_86 : decode c_M_call 86 = .ok (.istore 7, 2) := by decide +kernel
theorem d_M_call_88 : decode c_M_call 88 = .ok (.iload 4, 2) := by decide +kernel
theorem d_M_call_90 : decode c_M_call 90 = .ok (.iload 7, 2) := by decide +kernel
theorem d_M_call_92 : decode c_M_call 92 = .ok (.iconst 3, 1) := by decide +kernel
theorem d_M_call_93 : decode c_M_call 93 = .ok (.if_icmp .ne 7, 3) := by decide +kernel
theorem d_M_call_96 : decode c_M_call 96 = .ok (.iconst 2, 1) := by decide +kernel
theorem d_M_call_97 : decode c_M_call 97 = .ok (.goto 5, 3) := by decide +kernel
theorem d_M_call_100 : decode c_M_call 100 = .ok (.iload 7, 2) := by decide +kernel
theorem d_M_call_102 : decode c_M_call 102 = .ok (.bipush 8, 2) := by decide +kernel
theorem d_M_call_104 : decode c_M_call 104 = .ok (.iload 5, 2) := by decide +kernel
theorem d_M_call_106 : decode c_M_call 106 = .ok (.imul, 1) := by decide +kernel
theorem d_M_call_107 : decode c_M_call 107 = .ok (.iconst 2, 1) := by decide +kernel
theorem d_M_call_108 : decode c_M_call 108 = .ok (.iload 6, 2) := by decide +kernel
theorem d_M_call_110 : decode c_M_call 110 = .ok (.imul, 1) := by decide +kernel
theorem d_M_call_111 : decode c_M_call 111 = .ok (.iadd, 1) := by decide +kernel
theorem d_M_call_112 : decode c_M_call 112 = .ok (.ishl, 1) := by decide +kernel
theorem d_M_call_113 : decode c_M_call 113 = .ok (.ior, 1) := by decide +kernel
theorem d_M_call_114 : decode c_M_call 114 = .ok (.istore 4, 2) := by decide +kernel
theorem d_M_call_116 : decode c_M_call 116 = .ok (.iinc 6 1, 3) := by decide +kernel
theorem d_M_call_119 : decode c_M_call 119 = .ok (.goto (-52), 3) := by decide +kernel
theorem d_M_call_122 : decode c_M_call 122 = .ok (.iinc 5 1, 3) := by decide +kernel
theorem d_M_call_125 : decode c_M_call 125 = .ok (.goto (-72), 3) := by decide +kernel
theorem d_M_call_128 : decode c_M_call 128 = .ok (.aload_n 0, 1) := by decide +kernel
theorem d_M_call_129 : decode c_M_call 129 = .ok (.getfield 13, 3) := by decide +kernel
theorem d_M_call_132 : decode c_M_call 132 = .ok (.aload_n 0, 1) := by decide +kernel
theorem d_M_call_133 : decode c_M_call 133 = .ok (.getfield 64, 3) := by decide +kernel
theorem d_M_call_136 : decode c_M_call 136 = .ok (.iload_n 1, 1) := by decide +kernel
theorem d_M_call_137 : decode c_M_call 137 = .ok (.iastore, 1) := by decide +kernel
theorem d_M_call_138 : decode c_M_call 138 = .ok (.aload_n 0, 1) := by decide +kernel
theorem d_M_call_139 : decode c_M_call 139 = .ok (.getfield 16, 3) := by decide +kernel
theorem d_M_call_142 : decode c_M_call 142 = .ok (.aload_n 0, 1) := by decide +kernel
theorem d_M_call_143 : decode c_M_call 143 = .ok (.getfield 64, 3) := by decide +kernel
theorem d_M_call_146 : decode c_M_call 146 = .ok (.iload_n 2, 1) := by decide +kernel
theorem d_M_call_147 : decode c_M_call 147 = .ok (.iastore, 1) := by decide +kernel
theorem d_M_call_148 : decode c_M_call 148 = .ok (.aload_n 0, 1) := by decide +kernel
theorem d_M_call_149 : decode c_M_call 149 = .ok (.getfield 19, 3) := by decide +kernel
theorem d_M_call_152 : decode c_M_call 152 = .ok (.aload_n 0, 1) := by decide +kernel
theorem d_M_call_153 : decode c_M_call 153 = .ok (.getfield 64, 3) := by decide +kernel
theorem d_M_call_156 : decode c_M_call 156 = .ok (.iload 4, 2) := by decide +kernel
theorem d_M_call_158 : decode c_M_call 158 = .ok (.iastore, 1) := by decide +kernel
theorem d_M_call_159 : decode c_M_call 159 = .ok (.aload_n 0, 1) := by decide +kernel
theorem d_M_call_160 : decode c_M_call 160 = .ok (.dup, 1) := by decide +kernel
theorem d_M_call_161 : decode c_M_call 161 = .ok (.getfield 64, 3) := by decide +kernel
theorem d_M_call_164 : decode c_M_call 164 = .ok (.iconst 1, 1) := by decide +kernel
theorem d_M_call_165 : decode c_M_call 165 = .ok (.iadd, 1) := by decide +kernel
theorem d_M_call_166 : decode c_M_call 166 = .ok (.putfield 64, 3) := by decide +kernel
theorem d_M_call_169 : decode c_M_call 169 = .ok (.aload_n 0, 1) := by decide +kernel
theorem d_M_call_170 : decode c_M_call 170 = .ok (.getfield 64, 3) := by decide +kernel
theorem d_M_call_173 : decode c_M_call 173 = .ok (.iconst 1, 1) := by decide +kernel
theorem d_M_call_174 : decode c_M_call 174 = .ok (.isub, 1) := by decide +kernel
theorem d_M_call_175 : decode c_M_call 175 = .ok (.ireturn, 1) := by decide +kernel
theorem d_M_isFunction_0 : decode c_M_isFunction 0 = .ok (.iload_n 1, 1) := by decide +kernel
theorem d_M_isFunction_1 : decode c_M_isFunction 1 = .ok (.ifCond .lt 15, 3) := by decide +kernel
theorem d_M_isFunction_4 : decode c_M_isFunction 4 = .ok (.iload_n 1, 1) := by decide +kernel
theorem d_M_isFunction_5 : decode c_M_isFunction 5 = .ok (.aload_n 0, 1) := by decide +kernel
theorem d_M_isFunction_6 : decode c_M_isFunction 6 = .ok (.getfield 57, 3) := by decide +kernel
theorem d_M_isFunction_9 : decode c_M_isFunction 9 = .ok (.if_icmp .ge 7, 3) := by decide +kernel
theorem d_M_isFunction_12 : decode c_M_isFunction 12 = .ok (.iconst 1, 1) := by decide +kernel
theorem d_M_isFunction_13 : decode c_M_isFunction 13 = .ok (.goto 4, 3) := by decide +kernel
theorem d_M_isFunction_16 : decode c_M_isFunction 16 = .ok (.iconst 0, 1) := by decide +kernel
theorem d_M_isFunction_17 : decode c_M_isFunction 17 = .ok (.ireturn, 1) := by decide +kernel
theorem d_M_at_0 : decode c_M_at 0 = .ok (.iload_n 0, 1) := by decide +kernel
theorem d_M_at_1 : decode c_M_at 1 = .ok (.bipush 8, 2) := by decide +kernel
theorem d_M_at_3 : decode c_M_at 3 = .ok (.iload_n 1, 1) := by decide +kernel
theorem d_M_at_4 : decode c_M_at 4 = .ok (.imul, 1) := by decide +kernel
theorem d_M_at_5 : decode c_M_at 5 = .ok (.iconst 2, 1) := by decide +kernel
theorem d_M_at_6 : decode c_M_at 6 = .ok (.iload_n 2, 1) := by decide +kernel
theorem d_M_at_7 : decode c_M_at 7 = .ok (.imul, 1) := by decide +kernel
theorem d_M_at_8 : decode c_M_at 8 = .ok (.iadd, 1) := by decide +kernel
theorem d_M_at_9 : decode c_M_at 9 = .ok (.iushr, 1) := by decide +kernel
theorem d_M_at_10 : decode c_M_at 10 = .ok (.iconst 3, 1) := by decide +kernel
theorem d_M_at_11 : decode c_M_at 11 = .ok (.iand, 1) := by decide +kernel
theorem d_M_at_12 : decode c_M_at 12 = .ok (.ireturn, 1) := by decide +kernel
theorem d_M_undo_0 : decode c_M_undo 0 = .ok (.aload_n 0, 1) := by decide +kernel
theorem d_M_undo_1 : decode c_M_undo 1 = .ok (.iconst 0, 1) := by decide +kernel
theorem d_M_undo_2 : decode c_M_undo 2 = .ok (.putfield 53, 3) := by decide +kernel
theorem d_M_undo_5 : decode c_M_undo 5 = .ok (.aload_n 0, 1) := by decide +kernel
theorem d_M_undo_6 : decode c_M_undo 6 = .ok (.getfield 64, 3) := by decide +kernel
theorem d_M_undo_9 : decode c_M_undo 9 = .ok (.ifCond .ne 5, 3) := by decide +kernel
theorem d_M_undo_12 : decode c_M_undo 12 = .ok (.iconst 0, 1) := by decide +kernel
theorem d_M_undo_13 : decode c_M_undo 13 = .ok (.ireturn, 1) := by decide +kernel
theorem d_M_undo_14 : decode c_M_undo 14 = .ok (.aload_n 0, 1) := by decide +kernel
theorem d_M_undo_15 : decode c_M_undo 15 = .ok (.dup, 1) := by decide +kernel
theorem d_M_undo_16 : decode c_M_undo 16 = .ok (.getfield 64, 3) := by decide +kernel
theorem d_M_undo_19 : decode c_M_undo 19 = .ok (.iconst 1, 1) := by decide +kernel
theorem d_M_undo_20 : decode c_M_undo 20 = .ok (.isub, 1) := by decide +kernel
theorem d_M_undo_21 : decode c_M_undo 21 = .ok (.putfield 64, 3) := by decide +kernel
theorem d_M_undo_24 : decode c_M_undo 24 = .ok (.iconst 1, 1) := by decide +kernel
theorem d_M_undo_25 : decode c_M_undo 25 = .ok (.ireturn, 1) := by decide +kernel
theorem d_M_told_0 : decode c_M_told 0 = .ok (.aload_n 0, 1) := by decide +kernel
theorem d_M_told_1 : decode c_M_told 1 = .ok (.iconst 0, 1) := by decide +kernel
theorem d_M_told_2 : decode c_M_told 2 = .ok (.putfield 53, 3) := by decide +kernel
theorem d_M_told_5 : decode c_M_told 5 = .ok (.iload_n 1, 1) := by decide +kernel
theorem d_M_told_6 : decode c_M_told 6 = .ok (.ifCond .lt 11, 3) := by decide +kernel
theorem d_M_told_9 : decode c_M_told 9 = .ok (.iload_n 1, 1) := by decide +kernel
theorem d_M_told_10 : decode c_M_told 10 = .ok (.aload_n 0, 1) := by decide +kernel
theorem d_M_told_11 : decode c_M_told 11 = .ok (.getfield 64, 3) := by decide +kernel
theorem d_M_told_14 : decode c_M_told 14 = .ok (.if_icmp .lt 5, 3) := by decide +kernel
theorem d_M_told_17 : decode c_M_told 17 = .ok (.iconst (-1), 1) := by decide +kernel
theorem d_M_told_18 : decode c_M_told 18 = .ok (.ireturn, 1) := by decide +kernel
theorem d_M_told_19 : decode c_M_told 19 = .ok (.iload_n 2, 1) := by decide +kernel
theorem d_M_told_20 : decode c_M_told 20 = .ok (.ifCond .ne 12, 3) := by decide +kernel
theorem d_M_told_23 : decode c_M_told 23 = .ok (.aload_n 0, 1) := by decide +kernel
theorem d_M_told_24 : decode c_M_told 24 = .ok (.getfield 13, 3) := by decide +kernel
theorem d_M_told_27 : decode c_M_told 27 = .ok (.iload_n 1, 1) := by decide +kernel
theorem d_M_told_28 : decode c_M_told 28 = .ok (.iaload, 1) := by decide +kernel
theorem d_M_told_29 : decode c_M_told 29 = .ok (.goto 32, 3) := by decide +kernel
theorem d_M_told_32 : decode c_M_told 32 = .ok (.iload_n 2, 1) := by decide +kernel
theorem d_M_told_33 : decode c_M_told 33 = .ok (.iconst 1, 1) := by decide +kernel
theorem d_M_told_34 : decode c_M_told 34 = .ok (.if_icmp .ne 12, 3) := by decide +kernel
theorem d_M_told_37 : decode c_M_told 37 = .ok (.aload_n 0, 1) := by decide +kernel
theorem d_M_told_38 : decode c_M_told 38 = .ok (.getfield 16, 3) := by decide +kernel
theorem d_M_told_41 : decode c_M_told 41 = .ok (.iload_n 1, 1) := by decide +kernel
theorem d_M_told_42 : decode c_M_told 42 = .ok (.iaload, 1) := by decide +kernel
theorem d_M_told_43 : decode c_M_told 43 = .ok (.goto 18, 3) := by decide +kernel
theorem d_M_told_46 : decode c_M_told 46 = .ok (.iload_n 2, 1) := by decide +kernel
theorem d_M_told_47 : decode c_M_told 47 = .ok (.iconst 2, 1) := by decide +kernel
theorem d_M_told_48 : decode c_M_told 48 = .ok (.if_icmp .ne 12, 3) := by decide +kernel
theorem d_M_told_51 : decode c_M_told 51 = .ok (.aload_n 0, 1) := by decide +kernel
theorem d_M_told_52 : decode c_M_told 52 = .ok (.getfield 19, 3) := by decide +kernel
theorem d_M_told_55 : decode c_M_told 55 = .ok (.iload_n 1, 1) := by decide +kernel
theorem d_M_told_56 : decode c_M_told 56 = .ok (.iaload, 1) := by decide +kernel
theorem d_M_told_57 : decode c_M_told 57 = .ok (.goto 4, 3) := by decide +kernel
theorem d_M_told_60 : decode c_M_told 60 = .ok (.iconst (-1), 1) := by decide +kernel
theorem d_M_told_61 : decode c_M_told 61 = .ok (.ireturn, 1) := by decide +kernel
theorem d_M_graphs_0 : decode c_M_graphs 0 = .ok (.aload_n 0, 1) := by decide +kernel
theorem d_M_graphs_1 : decode c_M_graphs 1 = .ok (.iload_n 1, 1) := by decide +kernel
theorem d_M_graphs_2 : decode c_M_graphs 2 = .ok (.invokevirtual 60, 3) := by decide +kernel
theorem d_M_graphs_5 : decode c_M_graphs 5 = .ok (.ifCond .eq 11, 3) := by decide +kernel
theorem d_M_graphs_8 : decode c_M_graphs 8 = .ok (.aload_n 0, 1) := by decide +kernel
theorem d_M_graphs_9 : decode c_M_graphs 9 = .ok (.iload_n 2, 1) := by decide +kernel
theorem d_M_graphs_10 : decode c_M_graphs 10 = .ok (.invokevirtual 60, 3) := by decide +kernel
theorem d_M_graphs_13 : decode c_M_graphs 13 = .ok (.ifCond .ne 7, 3) := by decide +kernel
theorem d_M_graphs_16 : decode c_M_graphs 16 = .ok (.iconst 1, 1) := by decide +kernel
theorem d_M_graphs_17 : decode c_M_graphs 17 = .ok (.goto 4, 3) := by decide +kernel
theorem d_M_graphs_20 : decode c_M_graphs 20 = .ok (.iconst 0, 1) := by decide +kernel
theorem d_M_graphs_21 : decode c_M_graphs 21 = .ok (.istore_n 3, 1) := by decide +kernel
theorem d_M_graphs_22 : decode c_M_graphs 22 = .ok (.aload_n 0, 1) := by decide +kernel
theorem d_M_graphs_23 : decode c_M_graphs 23 = .ok (.iconst 0, 1) := by decide +kernel
theorem d_M_graphs_24 : decode c_M_graphs 24 = .ok (.iload_n 3, 1) := by decide +kernel
theorem d_M_graphs_25 : decode c_M_graphs 25 = .ok (.invokevirtual 85, 3) := by decide +kernel
theorem d_M_graphs_28 : decode c_M_graphs 28 = .ok (.ifCond .eq 26, 3) := by decide +kernel
theorem d_M_graphs_31 : decode c_M_graphs 31 = .ok (.aload_n 0, 1) := by decide +kernel
theorem d_M_graphs_32 : decode c_M_graphs 32 = .ok (.getfield 53, 3) := by decide +kernel
theorem d_M_graphs_35 : decode c_M_graphs 35 = .ok (.iconst 2, 1) := by decide +kernel
theorem d_M_graphs_36 : decode c_M_graphs 36 = .ok (.if_icmp .ne 8, 3) := by decide +kernel
theorem d_M_graphs_39 : decode c_M_graphs 39 = .ok (.aload_n 0, 1) := by decide +kernel
theorem d_M_graphs_40 : decode c_M_graphs 40 = .ok (.iconst 1, 1) := by decide +kernel
theorem d_M_graphs_41 : decode c_M_graphs 41 = .ok (.putfield 53, 3) := by decide +kernel
theorem d_M_graphs_44 : decode c_M_graphs 44 = .ok (.iload_n 3, 1) := by decide +kernel
theorem d_M_graphs_45 : decode c_M_graphs 45 = .ok (.ifCond .eq 7, 3) := by decide +kernel
theorem d_M_graphs_48 : decode c_M_graphs 48 = .ok (.iconst (-1), 1) := by decide +kernel
theorem d_M_graphs_49 : decode c_M_graphs 49 = .ok (.goto 4, 3) := by decide +kernel
theorem d_M_graphs_52 : decode c_M_graphs 52 = .ok (.iconst 0, 1) := by decide +kernel
theorem d_M_graphs_53 : decode c_M_graphs 53 = .ok (.ireturn, 1) := by decide +kernel
theorem d_M_graphs_54 : decode c_M_graphs 54 = .ok (.aload_n 0, 1) := by decide +kernel
theorem d_M_graphs_55 : decode c_M_graphs 55 = .ok (.iload_n 1, 1) := by decide +kernel
theorem d_M_graphs_56 : decode c_M_graphs 56 = .ok (.iload_n 2, 1) := by decide +kernel
theorem d_M_graphs_57 : decode c_M_graphs 57 = .ok (.invokevirtual 89, 3) := by decide +kernel
theorem d_M_graphs_60 : decode c_M_graphs 60 = .ok (.ireturn, 1) := by decide +kernel
theorem d_M_refused_0 : decode c_M_refused 0 = .ok (.aload_n 0, 1) := by decide +kernel
theorem d_M_refused_1 : decode c_M_refused 1 = .ok (.iload_n 1, 1) := by decide +kernel
theorem d_M_refused_2 : decode c_M_refused 2 = .ok (.ifCond .eq 7, 3) := by decide +kernel
theorem d_M_refused_5 : decode c_M_refused 5 = .ok (.iconst 1, 1) := by decide +kernel
theorem d_M_refused_6 : decode c_M_refused 6 = .ok (.goto 4, 3) := by decide +kernel
theorem d_M_refused_9 : decode c_M_refused 9 = .ok (.iconst 0, 1) := by decide +kernel
theorem d_M_refused_10 : decode c_M_refused 10 = .ok (.putfield 53, 3) := by decide +kernel
theorem d_M_refused_13 : decode c_M_refused 13 = .ok (.iload_n 1, 1) := by decide +kernel
theorem d_M_refused_14 : decode c_M_refused 14 = .ok (.ifCond .ne 7, 3) := by decide +kernel
theorem d_M_refused_17 : decode c_M_refused 17 = .ok (.iload_n 2, 1) := by decide +kernel
theorem d_M_refused_18 : decode c_M_refused 18 = .ok (.ifCond .eq 5, 3) := by decide +kernel
theorem d_M_refused_21 : decode c_M_refused 21 = .ok (.iconst 1, 1) := by decide +kernel
theorem d_M_refused_22 : decode c_M_refused 22 = .ok (.ireturn, 1) := by decide +kernel
theorem d_M_refused_23 : decode c_M_refused 23 = .ok (.aload_n 0, 1) := by decide +kernel
theorem d_M_refused_24 : decode c_M_refused 24 = .ok (.iconst (-1), 1) := by decide +kernel
theorem d_M_refused_25 : decode c_M_refused 25 = .ok (.invokevirtual 82, 3) := by decide +kernel
theorem d_M_refused_28 : decode c_M_refused 28 = .ok (.ifCond .ne 8, 3) := by decide +kernel
theorem d_M_refused_31 : decode c_M_refused 31 = .ok (.aload_n 0, 1) := by decide +kernel
theorem d_M_refused_32 : decode c_M_refused 32 = .ok (.iconst 2, 1) := by decide +kernel
theorem d_M_refused_33 : decode c_M_refused 33 = .ok (.putfield 53, 3) := by decide +kernel
theorem d_M_refused_36 : decode c_M_refused 36 = .ok (.aload_n 0, 1) := by decide +kernel
theorem d_M_refused_37 : decode c_M_refused 37 = .ok (.getfield 53, 3) := by decide +kernel
theorem d_M_refused_40 : decode c_M_refused 40 = .ok (.ifCond .le 7, 3) := by decide +kernel
theorem d_M_refused_43 : decode c_M_refused 43 = .ok (.iconst 1, 1) := by decide +kernel
theorem d_M_refused_44 : decode c_M_refused 44 = .ok (.goto 4, 3) := by decide +kernel
theorem d_M_refused_47 : decode c_M_refused 47 = .ok (.iconst 0, 1) := by decide +kernel
theorem d_M_refused_48 : decode c_M_refused 48 = .ok (.ireturn, 1) := by decide +kernel
theorem d_M_find_0 : decode c_M_find 0 = .ok (.aload_n 0, 1) := by decide +kernel
theorem d_M_find_1 : decode c_M_find 1 = .ok (.iconst 0, 1) := by decide +kernel
theorem d_M_find_2 : decode c_M_find 2 = .ok (.putfield 71, 3) := by decide +kernel
theorem d_M_find_5 : decode c_M_find 5 = .ok (.iconst 0, 1) := by decide +kernel
theorem d_M_find_6 : decode c_M_find 6 = .ok (.istore_n 2, 1) := by decide +kernel
theorem d_M_find_7 : decode c_M_find 7 = .ok (.iload_n 2, 1) := by decide +kernel
theorem d_M_find_8 : decode c_M_find 8 = .ok (.aload_n 0, 1) := by decide +kernel
theorem d_M_find_9 : decode c_M_find 9 = .ok (.getfield 64, 3) := by decide +kernel
theorem d_M_find_12 : decode c_M_find 12 = .ok (.if_icmp .ge 48, 3) := by decide +kernel
theorem d_M_find_15 : decode c_M_find 15 = .ok (.iload_n 1, 1) := by decide +kernel
theorem d_M_find_16 : decode c_M_find 16 = .ok (.iconst (-1), 1) := by decide +kernel
theorem d_M_find_17 : decode c_M_find 17 = .ok (.if_icmp .eq 13, 3) := by decide +kernel
theorem d_M_find_20 : decode c_M_find 20 = .ok (.aload_n 0, 1) := by decide +kernel
theorem d_M_find_21 : decode c_M_find 21 = .ok (.getfield 13, 3) := by decide +kernel
theorem d_M_find_24 : decode c_M_find 24 = .ok (.iload_n 2, 1) := by decide +kernel
theorem d_M_find_25 : decode c_M_find 25 = .ok (.iaload, 1) := by decide +kernel
theorem d_M_find_26 : decode c_M_find 26 = .ok (.iload_n 1, 1) := by decide +kernel
theorem d_M_find_27 : decode c_M_find 27 = .ok (.if_icmp .ne 27, 3) := by decide +kernel
theorem d_M_find_30 : decode c_M_find 30 = .ok (.aload_n 0, 1) := by decide +kernel
theorem d_M_find_31 : decode c_M_find 31 = .ok (.aload_n 0, 1) := by decide +kernel
theorem d_M_find_32 : decode c_M_find 32 = .ok (.getfield 13, 3) := by decide +kernel
theorem d_M_find_35 : decode c_M_find 35 = .ok (.iload_n 2, 1) := by decide +kernel
theorem d_M_find_36 : decode c_M_find 36 = .ok (.iaload, 1) := by decide +kernel
theorem d_M_find_37 : decode c_M_find 37 = .ok (.aload_n 0, 1) := by decide +kernel
theorem d_M_find_38 : decode c_M_find 38 = .ok (.getfield 16, 3) := by decide +kernel
theorem d_M_find_41 : decode c_M_find 41 = .ok (.iload_n 2, 1) := by decide +kernel
theorem d_M_find_42 : decode c_M_find 42 = .ok (.iaload, 1) := by decide +kernel
theorem d_M_find_43 : decode c_M_find 43 = .ok (.aload_n 0, 1) := by decide +kernel
theorem d_M_find_44 : decode c_M_find 44 = .ok (.getfield 19, 3) := by decide +kernel
theorem d_M_find_47 : decode c_M_find 47 = .ok (.iload_n 2, 1) := by decide +kernel
theorem d_M_find_48 : decode c_M_find 48 = .ok (.iaload, 1) := by decide +kernel
theorem d_M_find_49 : decode c_M_find 49 = .ok (.iconst (-1), 1) := by decide +kernel
theorem d_M_find_50 : decode c_M_find 50 = .ok (.iload_n 2, 1) := by decide +kernel
theorem d_M_find_51 : decode c_M_find 51 = .ok (.invokevirtual 74, 3) := by decide +kernel
theorem d_M_find_54 : decode c_M_find 54 = .ok (.iinc 2 1, 3) := by decide +kernel
theorem d_M_find_57 : decode c_M_find 57 = .ok (.goto (-50), 3) := by decide +kernel
theorem d_M_find_60 : decode c_M_find 60 = .ok (.iconst 0, 1) := by decide +kernel
theorem d_M_find_61 : decode c_M_find 61 = .ok (.istore_n 2, 1) := by decide +kernel
theorem d_M_find_62 : decode c_M_find 62 = .ok (.iload_n 2, 1) := by decide +kernel
theorem d_M_find_63 : decode c_M_find 63 = .ok (.aload_n 0, 1) := by decide +kernel
theorem d_M_find_64 : decode c_M_find 64 = .ok (.getfield 71, 3) := by decide +kernel
theorem d_M_find_67 : decode c_M_find 67 = .ok (.if_icmp .ge 83, 3) := by decide +kernel
theorem d_M_find_70 : decode c_M_find 70 = .ok (.aload_n 0, 1) := by decide +kernel
theorem d_M_find_71 : decode c_M_find 71 = .ok (.getfield 71, 3) := by decide +kernel
theorem d_M_find_74 : decode c_M_find 74 = .ok (.sipush 800, 3) := by decide +kernel
theorem d_M_find_77 : decode c_M_find 77 = .ok (.if_icmp .gt 73, 3) := by decide +kernel
theorem d_M_find_80 : decode c_M_find 80 = .ok (.iconst 0, 1) := by decide +kernel
theorem d_M_find_81 : decode c_M_find 81 = .ok (.istore_n 3, 1) := by decide +kernel
theorem d_M_find_82 : decode c_M_find 82 = .ok (.iload_n 3, 1) := by decide +kernel
theorem d_M_find_83 : decode c_M_find 83 = .ok (.aload_n 0, 1) := by decide +kernel
theorem d_M_find_84 : decode c_M_find 84 = .ok (.getfield 64, 3) := by decide +kernel
theorem d_M_find_87 : decode c_M_find 87 = .ok (.if_icmp .ge 57, 3) := by decide +kernel
theorem d_M_find_90 : decode c_M_find 90 = .ok (.aload_n 0, 1) := by decide +kernel
theorem d_M_find_91 : decode c_M_find 91 = .ok (.getfield 13, 3) := by decide +kernel
theorem d_M_find_94 : decode c_M_find 94 = .ok (.iload_n 3, 1) := by decide +kernel
theorem d_M_find_95 : decode c_M_find 95 = .ok (.iaload, 1) := by decide +kernel
theorem d_M_find_96 : decode c_M_find 96 = .ok (.aload_n 0, 1) := by decide +kernel
theorem d_M_find_97 : decode c_M_find 97 = .ok (.getfield 25, 3) := by decide +kernel
theorem d_M_find_100 : decode c_M_find 100 = .ok (.iload_n 2, 1) := by decide +kernel
theorem d_M_find_101 : decode c_M_find 101 = .ok (.iaload, 1) := by decide +kernel
theorem d_M_find_102 : decode c_M_find 102 = .ok (.if_icmp .ne 36, 3) := by decide +kernel
theorem d_M_find_105 : decode c_M_find 105 = .ok (.aload_n 0, 1) := by decide +kernel
theorem d_M_find_106 : decode c_M_find 106 = .ok (.aload_n 0, 1) := by decide +kernel
theorem d_M_find_107 : decode c_M_find 107 = .ok (.getfield 22, 3) := by decide +kernel
theorem d_M_find_110 : decode c_M_find 110 = .ok (.iload_n 2, 1) := by decide +kernel
theorem d_M_find_111 : decode c_M_find 111 = .ok (.iaload, 1) := by decide +kernel
theorem d_M_find_112 : decode c_M_find 112 = .ok (.aload_n 0, 1) := by decide +kernel
theorem d_M_find_113 : decode c_M_find 113 = .ok (.getfield 16, 3) := by decide +kernel
theorem d_M_find_116 : decode c_M_find 116 = .ok (.iload_n 3, 1) := by decide +kernel
theorem d_M_find_117 : decode c_M_find 117 = .ok (.iaload, 1) := by decide +kernel
theorem d_M_find_118 : decode c_M_find 118 = .ok (.aload_n 0, 1) := by decide +kernel
theorem d_M_find_119 : decode c_M_find 119 = .ok (.getfield 28, 3) := by decide +kernel
theorem d_M_find_122 : decode c_M_find 122 = .ok (.iload_n 2, 1) := by decide +kernel
theorem d_M_find_123 : decode c_M_find 123 = .ok (.iaload, 1) := by decide +kernel
theorem d_M_find_124 : decode c_M_find 124 = .ok (.aload_n 0, 1) := by decide +kernel
theorem d_M_find_125 : decode c_M_find 125 = .ok (.getfield 19, 3) := by decide +kernel
theorem d_M_find_128 : decode c_M_find 128 = .ok (.iload_n 3, 1) := by decide +kernel
theorem d_M_find_129 : decode c_M_find 129 = .ok (.iaload, 1) := by decide +kernel
theorem d_M_find_130 : decode c_M_find 130 = .ok (.invokestatic 78, 3) := by decide +kernel
theorem d_M_find_133 : decode c_M_find 133 = .ok (.iload_n 2, 1) := by decide +kernel
theorem d_M_find_134 : decode c_M_find 134 = .ok (.iload_n 3, 1) := by decide +kernel
theorem d_M_find_135 : decode c_M_find 135 = .ok (.invokevirtual 74, 3) := by decide +kernel
theorem d_M_find_138 : decode c_M_find 138 = .ok (.iinc 3 1, 3) := by decide +kernel
theorem d_M_find_141 : decode c_M_find 141 = .ok (.goto (-59), 3) := by decide +kernel
theorem d_M_find_144 : decode c_M_find 144 = .ok (.iinc 2 1, 3) := by decide +kernel
theorem d_M_find_147 : decode c_M_find 147 = .ok (.goto (-85), 3) := by decide +kernel
theorem d_M_find_150 : decode c_M_find 150 = .ok (.aload_n 0, 1) := by decide +kernel
theorem d_M_find_151 : decode c_M_find 151 = .ok (.getfield 71, 3) := by decide +kernel
theorem d_M_find_154 : decode c_M_find 154 = .ok (.sipush 800, 3) := by decide +kernel
theorem d_M_find_157 : decode c_M_find 157 = .ok (.if_icmp .gt 7, 3) := by decide +kernel
theorem d_M_find_160 : decode c_M_find 160 = .ok (.iconst 1, 1) := by decide +kernel
theorem d_M_find_161 : decode c_M_find 161 = .ok (.goto 4, 3) := by decide +kernel
theorem d_M_find_164 : decode c_M_find 164 = .ok (.iconst 0, 1) := by decide +kernel
theorem d_M_find_165 : decode c_M_find 165 = .ok (.ireturn, 1) := by decide +kernel
theorem d_M_add_0 : decode c_M_add 0 = .ok (.iconst 0, 1) := by decide +kernel
theorem d_M_add_1 : decode c_M_add 1 = .ok (.istore 6, 2) := by decide +kernel
theorem d_M_add_3 : decode c_M_add 3 = .ok (.iload 6, 2) := by decide +kernel
theorem d_M_add_5 : decode c_M_add 5 = .ok (.aload_n 0, 1) := by decide +kernel
theorem d_M_add_6 : decode c_M_add 6 = .ok (.getfield 71, 3) := by decide +kernel
theorem d_M_add_9 : decode c_M_add 9 = .ok (.if_icmp .ge 42, 3) := by decide +kernel
theorem d_M_add_12 : decode c_M_add 12 = .ok (.aload_n 0, 1) := by decide +kernel
theorem d_M_add_13 : decode c_M_add 13 = .ok (.getfield 22, 3) := by decide +kernel
theorem d_M_add_16 : decode c_M_add 16 = .ok (.iload 6, 2) := by decide +kernel
theorem d_M_add_18 : decode c_M_add 18 = .ok (.iaload, 1) := by decide +kernel
theorem d_M_add_19 : decode c_M_add 19 = .ok (.iload_n 1, 1) := by decide +kernel
theorem d_M_add_20 : decode c_M_add 20 = .ok (.if_icmp .ne 25, 3) := by decide +kernel
theorem d_M_add_23 : decode c_M_add 23 = .ok (.aload_n 0, 1) := by decide +kernel
theorem d_M_add_24 : decode c_M_add 24 = .ok (.getfield 25, 3) := by decide +kernel
theorem d_M_add_27 : decode c_M_add 27 = .ok (.iload 6, 2) := by decide +kernel
theorem d_M_add_29 : decode c_M_add 29 = .ok (.iaload, 1) := by decide +kernel
theorem d_M_add_30 : decode c_M_add 30 = .ok (.iload_n 2, 1) := by decide +kernel
theorem d_M_add_31 : decode c_M_add 31 = .ok (.if_icmp .ne 14, 3) := by decide +kernel
theorem d_M_add_34 : decode c_M_add 34 = .ok (.aload_n 0, 1) := by decide +kernel
theorem d_M_add_35 : decode c_M_add 35 = .ok (.getfield 28, 3) := by decide +kernel
theorem d_M_add_38 : decode c_M_add 38 = .ok (.iload 6, 2) := by decide +kernel
theorem d_M_add_40 : decode c_M_add 40 = .ok (.iaload, 1) := by decide +kernel
theorem d_M_add_41 : decode c_M_add 41 = .ok (.iload_n 3, 1) := by decide +kernel
theorem d_M_add_42 : decode c_M_add 42 = .ok (.if_icmp .eq 9, 3) := by decide +kernel
theorem d_M_add_45 : decode c_M_add 45 = .ok (.iinc 6 1, 3) := by decide +kernel
theorem d_M_add_48 : decode c_M_add 48 = .ok (.goto (-45), 3) := by decide +kernel
theorem d_M_add_51 : decode c_M_add 51 = .ok (.iload 6, 2) := by decide +kernel
theorem d_M_add_53 : decode c_M_add 53 = .ok (.aload_n 0, 1) := by decide +kernel
theorem d_M_add_54 : decode c_M_add 54 = .ok (.getfield 71, 3) := by decide +kernel
theorem d_M_add_57 : decode c_M_add 57 = .ok (.if_icmp .lt 13, 3) := by decide +kernel
theorem d_M_add_60 : decode c_M_add 60 = .ok (.aload_n 0, 1) := by decide +kernel
theorem d_M_add_61 : decode c_M_add 61 = .ok (.getfield 71, 3) := by decide +kernel
theorem d_M_add_64 : decode c_M_add 64 = .ok (.sipush 800, 3) := by decide +kernel
theorem d_M_add_67 : decode c_M_add 67 = .ok (.if_icmp .le 4, 3) := by decide +kernel
theorem d_M_add_70 : decode c_M_add 70 = .ok (.return_, 1) := by decide +kernel
theorem d_M_add_71 : decode c_M_add 71 = .ok (.aload_n 0, 1) := by decide +kernel
theorem d_M_add_72 : decode c_M_add 72 = .ok (.getfield 22, 3) := by decide +kernel
theorem d_M_add_75 : decode c_M_add 75 = .ok (.iload 6, 2) := by decide +kernel
theorem d_M_add_77 : decode c_M_add 77 = .ok (.iload_n 1, 1) := by decide +kernel
theorem d_M_add_78 : decode c_M_add 78 = .ok (.iastore, 1) := by decide +kernel
theorem d_M_add_79 : decode c_M_add 79 = .ok (.aload_n 0, 1) := by decide +kernel
theorem d_M_add_80 : decode c_M_add 80 = .ok (.getfield 25, 3) := by decide +kernel
theorem d_M_add_83 : decode c_M_add 83 = .ok (.iload 6, 2) := by decide +kernel
theorem d_M_add_85 : decode c_M_add 85 = .ok (.iload_n 2, 1) := by decide +kernel
theorem d_M_add_86 : decode c_M_add 86 = .ok (.iastore, 1) := by decide +kernel
theorem d_M_add_87 : decode c_M_add 87 = .ok (.aload_n 0, 1) := by decide +kernel
theorem d_M_add_88 : decode c_M_add 88 = .ok (.getfield 28, 3) := by decide +kernel
theorem d_M_add_91 : decode c_M_add 91 = .ok (.iload 6, 2) := by decide +kernel
theorem d_M_add_93 : decode c_M_add 93 = .ok (.iload_n 3, 1) := by decide +kernel
theorem d_M_add_94 : decode c_M_add 94 = .ok (.iastore, 1) := by decide +kernel
theorem d_M_add_95 : decode c_M_add 95 = .ok (.aload_n 0, 1) := by decide +kernel
theorem d_M_add_96 : decode c_M_add 96 = .ok (.getfield 31, 3) := by decide +kernel
theorem d_M_add_99 : decode c_M_add 99 = .ok (.iload 6, 2) := by decide +kernel
theorem d_M_add_101 : decode c_M_add 101 = .ok (.iload 4, 2) := by decide +kernel
theorem d_M_add_103 : decode c_M_add 103 = .ok (.iastore, 1) := by decide +kernel
theorem d_M_add_104 : decode c_M_add 104 = .ok (.aload_n 0, 1) := by decide +kernel
theorem d_M_add_105 : decode c_M_add 105 = .ok (.getfield 34, 3) := by decide +kernel
theorem d_M_add_108 : decode c_M_add 108 = .ok (.iload 6, 2) := by decide +kernel
theorem d_M_add_110 : decode c_M_add 110 = .ok (.iload 5, 2) := by decide +kernel
theorem d_M_add_112 : decode c_M_add 112 = .ok (.iastore, 1) := by decide +kernel
theorem d_M_add_113 : decode c_M_add 113 = .ok (.aload_n 0, 1) := by decide +kernel
theorem d_M_add_114 : decode c_M_add 114 = .ok (.dup, 1) := by decide +kernel
theorem d_M_add_115 : decode c_M_add 115 = .ok (.getfield 71, 3) := by decide +kernel
theorem d_M_add_118 : decode c_M_add 118 = .ok (.iconst 1, 1) := by decide +kernel
theorem d_M_add_119 : decode c_M_add 119 = .ok (.iadd, 1) := by decide +kernel
theorem d_M_add_120 : decode c_M_add 120 = .ok (.putfield 71, 3) := by decide +kernel
theorem d_M_add_123 : decode c_M_add 123 = .ok (.return_, 1) := by decide +kernel
theorem d_M_joined_0 : decode c_M_joined 0 = .ok (.iconst 0, 1) := by decide +kernel
theorem d_M_joined_1 : decode c_M_joined 1 = .ok (.istore_n 2, 1) := by decide +kernel
theorem d_M_joined_2 : decode c_M_joined 2 = .ok (.iconst 0, 1) := by decide +kernel
theorem d_M_joined_3 : decode c_M_joined 3 = .ok (.istore_n 3, 1) := by decide +kernel
theorem d_M_joined_4 : decode c_M_joined 4 = .ok (.iload_n 3, 1) := by decide +kernel
theorem d_M_joined_5 : decode c_M_joined 5 = .ok (.iconst 4, 1) := by decide +kernel
theorem d_M_joined_6 : decode c_M_joined 6 = .ok (.if_icmp .ge 122, 3) := by decide +kernel
theorem d_M_joined_9 : decode c_M_joined 9 = .ok (.iconst 0, 1) := by decide +kernel
theorem d_M_joined_10 : decode c_M_joined 10 = .ok (.istore 4, 2) := by decide +kernel
theorem d_M_joined_12 : decode c_M_joined 12 = .ok (.iload 4, 2) := by decide +kernel
theorem d_M_joined_14 : decode c_M_joined 14 = .ok (.iconst 4, 1) := by decide +kernel
theorem d_M_joined_15 : decode c_M_joined 15 = .ok (.if_icmp .ge 107, 3) := by decide +kernel
theorem d_M_joined_18 : decode c_M_joined 18 = .ok (.iconst 0, 1) := by decide +kernel
theorem d_M_joined_19 : decode c_M_joined 19 = .ok (.istore 5, 2) := by decide +kernel
theorem d_M_joined_21 : decode c_M_joined 21 = .ok (.iconst 0, 1) := by decide +kernel
theorem d_M_joined_22 : decode c_M_joined 22 = .ok (.istore 6, 2) := by decide +kernel
theorem d_M_joined_24 : decode c_M_joined 24 = .ok (.iload 6, 2) := by decide +kernel
theorem d_M_joined_26 : decode c_M_joined 26 = .ok (.iconst 4, 1) := by decide +kernel
theorem d_M_joined_27 : decode c_M_joined 27 = .ok (.if_icmp .ge 74, 3) := by decide +kernel
theorem d_M_joined_30 : decode c_M_joined 30 = .ok (.iload_n 0, 1) := by decide +kernel
theorem d_M_joined_31 : decode c_M_joined 31 = .ok (.iload_n 3, 1) := by decide +kernel
theorem d_M_joined_32 : decode c_M_joined 32 = .ok (.iload 6, 2) := by decide +kernel
theorem d_M_joined_34 : decode c_M_joined 34 = .ok (.invokestatic 67, 3) := by decide +kernel
theorem d_M_joined_37 : decode c_M_joined 37 = .ok (.istore 7, 2) := by decide +kernel
theorem d_M_joined_39 : decode c_M_joined 39 = .ok (.iload_n 1, 1) := by decide +kernel
theorem d_M_joined_40 : decode c_M_joined 40 = .ok (.iload 6, 2) := by decide +kernel
theorem d_M_joined_42 : decode c_M_joined 42 = .ok (.iload 4, 2) := by decide +kernel
theorem d_M_joined_44 : decode c_M_joined 44 = .ok (.invokestatic 67, 3) := by decide +kernel
theorem d_M_joined_47 : decode c_M_joined 47 = .ok (.istore 8, 2) := by decide +kernel
theorem d_M_joined_49 : decode c_M_joined 49 = .ok (.iload 7, 2) := by decide +kernel
theorem d_M_joined_51 : decode c_M_joined 51 = .ok (.ifCond .eq 8, 3) := by decide +kernel
theorem d_M_joined_54 : decode c_M_joined 54 = .ok (.iload 8, 2) := by decide +kernel
theorem d_M_joined_56 : decode c_M_joined 56 = .ok (.ifCond .ne 7, 3) := by decide +kernel
theorem d_M_joined_59 : decode c_M_joined 59 = .ok (.iconst 0, 1) := by decide +kernel
theorem d_M_joined_60 : decode c_M_joined 60 = .ok (.goto 17, 3) := by decide +kernel
theorem d_M_joined_63 : decode c_M_joined 63 = .ok (.iload 7, 2) := by decide +kernel
theorem d_M_joined_65 : decode c_M_joined 65 = .ok (.iload 8, 2) := by decide +kernel
theorem d_M_joined_67 : decode c_M_joined 67 = .ok (.if_icmp .le 8, 3) := by decide +kernel
theorem d_M_joined_70 : decode c_M_joined 70 = .ok (.iload 7, 2) := by decide +kernel
theorem d_M_joined_72 : decode c_M_joined 72 = .ok (.goto 5, 3) := by decide +kernel
theorem d_M_joined_75 : decode c_M_joined 75 = .ok (.iload 8, 2) := by decide +kernel
theorem d_M_joined_77 : decode c_M_joined 77 = .ok (.istore 9, 2) := by decide +kernel
theorem d_M_joined_79 : decode c_M_joined 79 = .ok (.iload 9, 2) := by decide +kernel
theorem d_M_joined_81 : decode c_M_joined 81 = .ok (.iload 5, 2) := by decide +kernel
theorem d_M_joined_83 : decode c_M_joined 83 = .ok (.if_icmp .le 8, 3) := by decide +kernel
theorem d_M_joined_86 : decode c_M_joined 86 = .ok (.iload 9, 2) := by decide +kernel
theorem d_M_joined_88 : decode c_M_joined 88 = .ok (.goto 5, 3) := by decide +kernel
theorem d_M_joined_91 : decode c_M_joined 91 = .ok (.iload 5, 2) := by decide +kernel
theorem d_M_joined_93 : decode c_M_joined 93 = .ok (.istore 5, 2) := by decide +kernel
theorem d_M_joined_95 : decode c_M_joined 95 = .ok (.iinc 6 1, 3) := by decide +kernel
theorem d_M_joined_98 : decode c_M_joined 98 = .ok (.goto (-74), 3) := by decide +kernel
theorem d_M_joined_101 : decode c_M_joined 101 = .ok (.iload_n 2, 1) := by decide +kernel
theorem d_M_joined_102 : decode c_M_joined 102 = .ok (.iload 5, 2) := by decide +kernel
theorem d_M_joined_104 : decode c_M_joined 104 = .ok (.bipush 8, 2) := by decide +kernel
theorem d_M_joined_106 : decode c_M_joined 106 = .ok (.iload_n 3, 1) := by decide +kernel
theorem d_M_joined_107 : decode c_M_joined 107 = .ok (.imul, 1) := by decide +kernel
theorem d_M_joined_108 : decode c_M_joined 108 = .ok (.iconst 2, 1) := by decide +kernel
theorem d_M_joined_109 : decode c_M_joined 109 = .ok (.iload 4, 2) := by decide +kernel
theorem d_M_joined_111 : decode c_M_joined 111 = .ok (.imul, 1) := by decide +kernel
theorem d_M_joined_112 : decode c_M_joined 112 = .ok (.iadd, 1) := by decide +kernel
theorem d_M_joined_113 : decode c_M_joined 113 = .ok (.ishl, 1) := by decide +kernel
theorem d_M_joined_114 : decode c_M_joined 114 = .ok (.ior, 1) := by decide +kernel
theorem d_M_joined_115 : decode c_M_joined 115 = .ok (.istore_n 2, 1) := by decide +kernel
theorem d_M_joined_116 : decode c_M_joined 116 = .ok (.iinc 4 1, 3) := by decide +kernel
theorem d_M_joined_119 : decode c_M_joined 119 = .ok (.goto (-107), 3) := by decide +kernel
theorem d_M_joined_122 : decode c_M_joined 122 = .ok (.iinc 3 1, 3) := by decide +kernel
theorem d_M_joined_125 : decode c_M_joined 125 = .ok (.goto (-121), 3) := by decide +kernel
theorem d_M_joined_128 : decode c_M_joined 128 = .ok (.iload_n 2, 1) := by decide +kernel
theorem d_M_joined_129 : decode c_M_joined 129 = .ok (.ireturn, 1) := by decide +kernel
theorem d_M_between_0 : decode c_M_between 0 = .ok (.iconst 0, 1) := by decide +kernel
theorem d_M_between_1 : decode c_M_between 1 = .ok (.istore_n 3, 1) := by decide +kernel
theorem d_M_between_2 : decode c_M_between 2 = .ok (.iconst 0, 1) := by decide +kernel
theorem d_M_between_3 : decode c_M_between 3 = .ok (.istore 4, 2) := by decide +kernel
theorem d_M_between_5 : decode c_M_between 5 = .ok (.iload 4, 2) := by decide +kernel
theorem d_M_between_7 : decode c_M_between 7 = .ok (.aload_n 0, 1) := by decide +kernel
theorem d_M_between_8 : decode c_M_between 8 = .ok (.getfield 71, 3) := by decide +kernel
theorem d_M_between_11 : decode c_M_between 11 = .ok (.if_icmp .ge 39, 3) := by decide +kernel
theorem d_M_between_14 : decode c_M_between 14 = .ok (.iload_n 3, 1) := by decide +kernel
theorem d_M_between_15 : decode c_M_between 15 = .ok (.aload_n 0, 1) := by decide +kernel
theorem d_M_between_16 : decode c_M_between 16 = .ok (.getfield 22, 3) := by decide +kernel
theorem d_M_between_19 : decode c_M_between 19 = .ok (.iload 4, 2) := by decide +kernel
theorem d_M_between_21 : decode c_M_between 21 = .ok (.iaload, 1) := by decide +kernel
theorem d_M_between_22 : decode c_M_between 22 = .ok (.iload_n 1, 1) := by decide +kernel
theorem d_M_between_23 : decode c_M_between 23 = .ok (.if_icmp .ne 18, 3) := by decide +kernel
theorem d_M_between_26 : decode c_M_between 26 = .ok (.aload_n 0, 1) := by decide +kernel
theorem d_M_between_27 : decode c_M_between 27 = .ok (.getfield 25, 3) := by decide +kernel
theorem d_M_between_30 : decode c_M_between 30 = .ok (.iload 4, 2) := by decide +kernel
theorem d_M_between_32 : decode c_M_between 32 = .ok (.iaload, 1) := by decide +kernel
theorem d_M_between_33 : decode c_M_between 33 = .ok (.iload_n 2, 1) := by decide +kernel
theorem d_M_between_34 : decode c_M_between 34 = .ok (.if_icmp .ne 7, 3) := by decide +kernel
theorem d_M_between_37 : decode c_M_between 37 = .ok (.iconst 1, 1) := by decide +kernel
theorem d_M_between_38 : decode c_M_between 38 = .ok (.goto 4, 3) := by decide +kernel
theorem d_M_between_41 : decode c_M_between 41 = .ok (.iconst 0, 1) := by decide +kernel
theorem d_M_between_42 : decode c_M_between 42 = .ok (.iadd, 1) := by decide +kernel
theorem d_M_between_43 : decode c_M_between 43 = .ok (.istore_n 3, 1) := by decide +kernel
theorem d_M_between_44 : decode c_M_between 44 = .ok (.iinc 4 1, 3) := by decide +kernel
theorem d_M_between_47 : decode c_M_between 47 = .ok (.goto (-42), 3) := by decide +kernel
theorem d_M_between_50 : decode c_M_between 50 = .ok (.iload_n 3, 1) := by decide +kernel
theorem d_M_between_51 : decode c_M_between 51 = .ok (.ireturn, 1) := by decide +kernel
theorem d_M_graph_0 : decode c_M_graph 0 = .ok (.aload_n 0, 1) := by decide +kernel
theorem d_M_graph_1 : decode c_M_graph 1 = .ok (.aload_n 0, 1) := by decide +kernel
theorem d_M_graph_2 : decode c_M_graph 2 = .ok (.iload_n 1, 1) := by decide +kernel
theorem d_M_graph_3 : decode c_M_graph 3 = .ok (.invokevirtual 60, 3) := by decide +kernel
theorem d_M_graph_6 : decode c_M_graph 6 = .ok (.ifCond .eq 15, 3) := by decide +kernel
theorem d_M_graph_9 : decode c_M_graph 9 = .ok (.aload_n 0, 1) := by decide +kernel
theorem d_M_graph_10 : decode c_M_graph 10 = .ok (.iload_n 2, 1) := by decide +kernel
theorem d_M_graph_11 : decode c_M_graph 11 = .ok (.invokevirtual 60, 3) := by decide +kernel
theorem d_M_graph_14 : decode c_M_graph 14 = .ok (.ifCond .eq 7, 3) := by decide +kernel
theorem d_M_graph_17 : decode c_M_graph 17 = .ok (.iload_n 3, 1) := by decide +kernel
theorem d_M_graph_18 : decode c_M_graph 18 = .ok (.ifCond .ge 7, 3) := by decide +kernel
theorem d_M_graph_21 : decode c_M_graph 21 = .ok (.iconst 1, 1) := by decide +kernel
theorem d_M_graph_22 : decode c_M_graph 22 = .ok (.goto 4, 3) := by decide +kernel
theorem d_M_graph_25 : decode c_M_graph 25 = .ok (.iconst 0, 1) := by decide +kernel
theorem d_M_graph_26 : decode c_M_graph 26 = .ok (.iconst 0, 1) := by decide +kernel
theorem d_M_graph_27 : decode c_M_graph 27 = .ok (.invokevirtual 85, 3) := by decide +kernel
theorem d_M_graph_30 : decode c_M_graph 30 = .ok (.ifCond .eq 5, 3) := by decide +kernel
theorem d_M_graph_33 : decode c_M_graph 33 = .ok (.iconst 0, 1) := by decide +kernel
theorem d_M_graph_34 : decode c_M_graph 34 = .ok (.ireturn, 1) := by decide +kernel
theorem d_M_graph_35 : decode c_M_graph 35 = .ok (.iload_n 3, 1) := by decide +kernel
theorem d_M_graph_36 : decode c_M_graph 36 = .ok (.aload_n 0, 1) := by decide +kernel
theorem d_M_graph_37 : decode c_M_graph 37 = .ok (.iload_n 1, 1) := by decide +kernel
theorem d_M_graph_38 : decode c_M_graph 38 = .ok (.iload_n 2, 1) := by decide +kernel
theorem d_M_graph_39 : decode c_M_graph 39 = .ok (.invokevirtual 89, 3) := by decide +kernel
theorem d_M_graph_42 : decode c_M_graph 42 = .ok (.if_icmp .lt 10, 3) := by decide +kernel
theorem d_M_graph_45 : decode c_M_graph 45 = .ok (.aload_n 0, 1) := by decide +kernel
theorem d_M_graph_46 : decode c_M_graph 46 = .ok (.iconst 1, 1) := by decide +kernel
theorem d_M_graph_47 : decode c_M_graph 47 = .ok (.putfield 53, 3) := by decide +kernel
theorem d_M_graph_50 : decode c_M_graph 50 = .ok (.iconst 0, 1) := by decide +kernel
theorem d_M_graph_51 : decode c_M_graph 51 = .ok (.ireturn, 1) := by decide +kernel
theorem d_M_graph_52 : decode c_M_graph 52 = .ok (.iconst 0, 1) := by decide +kernel
theorem d_M_graph_53 : decode c_M_graph 53 = .ok (.istore 4, 2) := by decide +kernel
theorem d_M_graph_55 : decode c_M_graph 55 = .ok (.iconst 0, 1) := by decide +kernel
theorem d_M_graph_56 : decode c_M_graph 56 = .ok (.istore 5, 2) := by decide +kernel
theorem d_M_graph_58 : decode c_M_graph 58 = .ok (.iload 5, 2) := by decide +kernel
theorem d_M_graph_60 : decode c_M_graph 60 = .ok (.aload_n 0, 1) := by decide +kernel
theorem d_M_graph_61 : decode c_M_graph 61 = .ok (.getfield 71, 3) := by decide +kernel
theorem d_M_graph_64 : decode c_M_graph 64 = .ok (.if_icmp .ge 104, 3) := by decide +kernel
theorem d_M_graph_67 : decode c_M_graph 67 = .ok (.aload_n 0, 1) := by decide +kernel
theorem d_M_graph_68 : decode c_M_graph 68 = .ok (.getfield 22, 3) := by decide +kernel
theorem d_M_graph_71 : decode c_M_graph 71 = .ok (.iload 5, 2) := by decide +kernel
theorem d_M_graph_73 : decode c_M_graph 73 = .ok (.iaload, 1) := by decide +kernel
theorem d_M_graph_74 : decode c_M_graph 74 = .ok (.iload_n 1, 1) := by decide +kernel
theorem d_M_graph_75 : decode c_M_graph 75 = .ok (.if_icmp .ne 87, 3) := by decide +kernel
theorem d_M_graph_78 : decode c_M_graph 78 = .ok (.aload_n 0, 1) := by decide +kernel
theorem d_M_graph_79 : decode c_M_graph 79 = .ok (.getfield 25, 3) := by decide +kernel
theorem d_M_graph_82 : decode c_M_graph 82 = .ok (.iload 5, 2) := by decide +kernel
theorem d_M_graph_84 : decode c_M_graph 84 = .ok (.iaload, 1) := by decide +kernel
theorem d_M_graph_85 : decode c_M_graph 85 = .ok (.iload_n 2, 1) := by decide +kernel
theorem d_M_graph_86 : decode c_M_graph 86 = .ok (.if_icmp .eq 6, 3) := by decide +kernel
theorem d_M_graph_89 : decode c_M_graph 89 = .ok (.goto 73, 3) := by decide +kernel
theorem d_M_graph_92 : decode c_M_graph 92 = .ok (.iload 4, 2) := by decide +kernel
theorem d_M_graph_94 : decode c_M_graph 94 = .ok (.istore 6, 2) := by decide +kernel
theorem d_M_graph_96 : decode c_M_graph 96 = .ok (.iload 6, 2) := by decide +kernel
theorem d_M_graph_98 : decode c_M_graph 98 = .ok (.ifCond .le 47, 3) := by decide +kernel
theorem d_M_graph_101 : decode c_M_graph 101 = .ok (.aload_n 0, 1) := by decide +kernel
theorem d_M_graph_102 : decode c_M_graph 102 = .ok (.getfield 28, 3) := by decide +kernel
theorem d_M_graph_105 : decode c_M_graph 105 = .ok (.iload 5, 2) := by decide +kernel
theorem d_M_graph_107 : decode c_M_graph 107 = .ok (.iaload, 1) := by decide +kernel
theorem d_M_graph_108 : decode c_M_graph 108 = .ok (.aload_n 0, 1) := by decide +kernel
theorem d_M_graph_109 : decode c_M_graph 109 = .ok (.getfield 50, 3) := by decide +kernel
theorem d_M_graph_112 : decode c_M_graph 112 = .ok (.iload 6, 2) := by decide +kernel
theorem d_M_graph_114 : decode c_M_graph 114 = .ok (.iconst 1, 1) := by decide +kernel
theorem d_M_graph_115 : decode c_M_graph 115 = .ok (.isub, 1) := by decide +kernel
theorem d_M_graph_116 : decode c_M_graph 116 = .ok (.iaload, 1) := by decide +kernel
theorem d_M_graph_117 : decode c_M_graph 117 = .ok (.invokestatic 92, 3) := by decide +kernel
theorem d_M_graph_120 : decode c_M_graph 120 = .ok (.ifCond .eq 25, 3) := by decide +kernel
end
section
theorem d_M_graph_123 : decode c_M_graph 123 = .ok (.aload_n 0, 1) := by decide +kernel
theorem d_M_graph_124 : decode c_M_graph 124 = .ok (.getfield 50, 3) := by decide +kernel
theorem d_M_graph_127 : decode c_M_graph 127 = .ok (.iload 6, 2) := by decide +kernel
theorem d_M_graph_129 : decode c_M_graph 129 = .ok (.aload_n 0, 1) := by decide +kernel
theorem d_M_graph_130 : decode c_M_graph 130 = .ok (.getfield 50, 3) := by decide +kernel
theorem d_M_graph_133 : decode c_M_graph 133 = .ok (.iload 6, 2) := by decide +kernel
theorem d_M_graph_135 : decode c_M_graph 135 = .ok (.iconst 1, 1) := by decide +kernel
theorem d_M_graph_136 : decode c_M_graph 136 = .ok (.isub, 1) := by decide +kernel
theorem d_M_graph_137 : decode c_M_graph 137 = .ok (.iaload, 1) := by decide +kernel
theorem d_M_graph_138 : decode c_M_graph 138 = .ok (.iastore, 1) := by decide +kernel
theorem d_M_graph_139 : decode c_M_graph 139 = .ok (.iinc 6 (-1), 3) := by decide +kernel
theorem d_M_graph_142 : decode c_M_graph 142 = .ok (.goto (-46), 3) := by decide +kernel
theorem d_M_graph_145 : decode c_M_graph 145 = .ok (.aload_n 0, 1) := by decide +kernel
theorem d_M_graph_146 : decode c_M_graph 146 = .ok (.getfield 50, 3) := by decide +kernel
theorem d_M_graph_149 : decode c_M_graph 149 = .ok (.iload 6, 2) := by decide +kernel
theorem d_M_graph_151 : decode c_M_graph 151 = .ok (.aload_n 0, 1) := by decide +kernel
theorem d_M_graph_152 : decode c_M_graph 152 = .ok (.getfield 28, 3) := by decide +kernel
theorem d_M_graph_155 : decode c_M_graph 155 = .ok (.iload 5, 2) := by decide +kernel
theorem d_M_graph_157 : decode c_M_graph 157 = .ok (.iaload, 1) := by decide +kernel
theorem d_M_graph_158 : decode c_M_graph 158 = .ok (.iastore, 1) := by decide +kernel
theorem d_M_graph_159 : decode c_M_graph 159 = .ok (.iinc 4 1, 3) := by decide +kernel
theorem d_M_graph_162 : decode c_M_graph 162 = .ok (.iinc 5 1, 3) := by decide +kernel
theorem d_M_graph_165 : decode c_M_graph 165 = .ok (.goto (-107), 3) := by decide +kernel
theorem d_M_graph_168 : decode c_M_graph 168 = .ok (.aload_n 0, 1) := by decide +kernel
theorem d_M_graph_169 : decode c_M_graph 169 = .ok (.getfield 50, 3) := by decide +kernel
theorem d_M_graph_172 : decode c_M_graph 172 = .ok (.iload_n 3, 1) := by decide +kernel
theorem d_M_graph_173 : decode c_M_graph 173 = .ok (.iaload, 1) := by decide +kernel
theorem d_M_graph_174 : decode c_M_graph 174 = .ok (.ireturn, 1) := by decide +kernel
theorem d_M_isLess_0 : decode c_M_isLess 0 = .ok (.iload_n 0, 1) := by decide +kernel
theorem d_M_isLess_1 : decode c_M_isLess 1 = .ok (.ifCond .ge 7, 3) := by decide +kernel
theorem d_M_isLess_4 : decode c_M_isLess 4 = .ok (.iconst 1, 1) := by decide +kernel
theorem d_M_isLess_5 : decode c_M_isLess 5 = .ok (.goto 4, 3) := by decide +kernel
theorem d_M_isLess_8 : decode c_M_isLess 8 = .ok (.iconst 0, 1) := by decide +kernel
theorem d_M_isLess_9 : decode c_M_isLess 9 = .ok (.iload_n 1, 1) := by decide +kernel
theorem d_M_isLess_10 : decode c_M_isLess 10 = .ok (.ifCond .ge 7, 3) := by decide +kernel
theorem d_M_isLess_13 : decode c_M_isLess 13 = .ok (.iconst 1, 1) := by decide +kernel
theorem d_M_isLess_14 : decode c_M_isLess 14 = .ok (.goto 4, 3) := by decide +kernel
theorem d_M_isLess_17 : decode c_M_isLess 17 = .ok (.iconst 0, 1) := by decide +kernel
theorem d_M_isLess_18 : decode c_M_isLess 18 = .ok (.if_icmp .ne 16, 3) := by decide +kernel
theorem d_M_isLess_21 : decode c_M_isLess 21 = .ok (.iload_n 0, 1) := by decide +kernel
theorem d_M_isLess_22 : decode c_M_isLess 22 = .ok (.iload_n 1, 1) := by decide +kernel
theorem d_M_isLess_23 : decode c_M_isLess 23 = .ok (.if_icmp .ge 7, 3) := by decide +kernel
theorem d_M_isLess_26 : decode c_M_isLess 26 = .ok (.iconst 1, 1) := by decide +kernel
theorem d_M_isLess_27 : decode c_M_isLess 27 = .ok (.goto 16, 3) := by decide +kernel
theorem d_M_isLess_30 : decode c_M_isLess 30 = .ok (.iconst 0, 1) := by decide +kernel
theorem d_M_isLess_31 : decode c_M_isLess 31 = .ok (.goto 12, 3) := by decide +kernel
theorem d_M_isLess_34 : decode c_M_isLess 34 = .ok (.iload_n 1, 1) := by decide +kernel
theorem d_M_isLess_35 : decode c_M_isLess 35 = .ok (.ifCond .ge 7, 3) := by decide +kernel
theorem d_M_isLess_38 : decode c_M_isLess 38 = .ok (.iconst 1, 1) := by decide +kernel
theorem d_M_isLess_39 : decode c_M_isLess 39 = .ok (.goto 4, 3) := by decide +kernel
theorem d_M_isLess_42 : decode c_M_isLess 42 = .ok (.iconst 0, 1) := by decide +kernel
theorem d_M_isLess_43 : decode c_M_isLess 43 = .ok (.ireturn, 1) := by decide +kernel
theorem d_M_falls_0 : decode c_M_falls 0 = .ok (.aload_n 0, 1) := by decide +kernel
theorem d_M_falls_1 : decode c_M_falls 1 = .ok (.aload_n 0, 1) := by decide +kernel
theorem d_M_falls_2 : decode c_M_falls 2 = .ok (.iload_n 1, 1) := by decide +kernel
theorem d_M_falls_3 : decode c_M_falls 3 = .ok (.invokevirtual 60, 3) := by decide +kernel
theorem d_M_falls_6 : decode c_M_falls 6 = .ok (.ifCond .ne 7, 3) := by decide +kernel
theorem d_M_falls_9 : decode c_M_falls 9 = .ok (.iconst 1, 1) := by decide +kernel
theorem d_M_falls_10 : decode c_M_falls 10 = .ok (.goto 4, 3) := by decide +kernel
theorem d_M_falls_13 : decode c_M_falls 13 = .ok (.iconst 0, 1) := by decide +kernel
theorem d_M_falls_14 : decode c_M_falls 14 = .ok (.iconst 0, 1) := by decide +kernel
theorem d_M_falls_15 : decode c_M_falls 15 = .ok (.invokevirtual 85, 3) := by decide +kernel
theorem d_M_falls_18 : decode c_M_falls 18 = .ok (.ifCond .ne 15, 3) := by decide +kernel
theorem d_M_falls_21 : decode c_M_falls 21 = .ok (.aload_n 0, 1) := by decide +kernel
theorem d_M_falls_22 : decode c_M_falls 22 = .ok (.iload_n 1, 1) := by decide +kernel
theorem d_M_falls_23 : decode c_M_falls 23 = .ok (.invokevirtual 99, 3) := by decide +kernel
theorem d_M_falls_26 : decode c_M_falls 26 = .ok (.ifCond .eq 7, 3) := by decide +kernel
theorem d_M_falls_29 : decode c_M_falls 29 = .ok (.iconst 1, 1) := by decide +kernel
theorem d_M_falls_30 : decode c_M_falls 30 = .ok (.goto 4, 3) := by decide +kernel
theorem d_M_falls_33 : decode c_M_falls 33 = .ok (.iconst 0, 1) := by decide +kernel
theorem d_M_falls_34 : decode c_M_falls 34 = .ok (.ireturn, 1) := by decide +kernel
theorem d_M_fallsAt_0 : decode c_M_fallsAt 0 = .ok (.iconst 1, 1) := by decide +kernel
theorem d_M_fallsAt_1 : decode c_M_fallsAt 1 = .ok (.istore_n 2, 1) := by decide +kernel
theorem d_M_fallsAt_2 : decode c_M_fallsAt 2 = .ok (.iconst 0, 1) := by decide +kernel
theorem d_M_fallsAt_3 : decode c_M_fallsAt 3 = .ok (.istore_n 3, 1) := by decide +kernel
theorem d_M_fallsAt_4 : decode c_M_fallsAt 4 = .ok (.iload_n 3, 1) := by decide +kernel
theorem d_M_fallsAt_5 : decode c_M_fallsAt 5 = .ok (.aload_n 0, 1) := by decide +kernel
theorem d_M_fallsAt_6 : decode c_M_fallsAt 6 = .ok (.getfield 71, 3) := by decide +kernel
theorem d_M_fallsAt_9 : decode c_M_fallsAt 9 = .ok (.if_icmp .ge 51, 3) := by decide +kernel
theorem d_M_fallsAt_12 : decode c_M_fallsAt 12 = .ok (.iload_n 2, 1) := by decide +kernel
theorem d_M_fallsAt_13 : decode c_M_fallsAt 13 = .ok (.ifCond .eq 39, 3) := by decide +kernel
theorem d_M_fallsAt_16 : decode c_M_fallsAt 16 = .ok (.aload_n 0, 1) := by decide +kernel
theorem d_M_fallsAt_17 : decode c_M_fallsAt 17 = .ok (.getfield 22, 3) := by decide +kernel
theorem d_M_fallsAt_20 : decode c_M_fallsAt 20 = .ok (.iload_n 3, 1) := by decide +kernel
theorem d_M_fallsAt_21 : decode c_M_fallsAt 21 = .ok (.iaload, 1) := by decide +kernel
theorem d_M_fallsAt_22 : decode c_M_fallsAt 22 = .ok (.iload_n 1, 1) := by decide +kernel
theorem d_M_fallsAt_23 : decode c_M_fallsAt 23 = .ok (.if_icmp .ne 25, 3) := by decide +kernel
theorem d_M_fallsAt_26 : decode c_M_fallsAt 26 = .ok (.aload_n 0, 1) := by decide +kernel
theorem d_M_fallsAt_27 : decode c_M_fallsAt 27 = .ok (.getfield 25, 3) := by decide +kernel
theorem d_M_fallsAt_30 : decode c_M_fallsAt 30 = .ok (.iload_n 3, 1) := by decide +kernel
theorem d_M_fallsAt_31 : decode c_M_fallsAt 31 = .ok (.iaload, 1) := by decide +kernel
theorem d_M_fallsAt_32 : decode c_M_fallsAt 32 = .ok (.iload_n 1, 1) := by decide +kernel
theorem d_M_fallsAt_33 : decode c_M_fallsAt 33 = .ok (.if_icmp .ne 15, 3) := by decide +kernel
theorem d_M_fallsAt_36 : decode c_M_fallsAt 36 = .ok (.aload_n 0, 1) := by decide +kernel
theorem d_M_fallsAt_37 : decode c_M_fallsAt 37 = .ok (.getfield 28, 3) := by decide +kernel
theorem d_M_fallsAt_40 : decode c_M_fallsAt 40 = .ok (.iload_n 3, 1) := by decide +kernel
theorem d_M_fallsAt_41 : decode c_M_fallsAt 41 = .ok (.iaload, 1) := by decide +kernel
theorem d_M_fallsAt_42 : decode c_M_fallsAt 42 = .ok (.invokestatic 96, 3) := by decide +kernel
theorem d_M_fallsAt_45 : decode c_M_fallsAt 45 = .ok (.ifCond .ne 7, 3) := by decide +kernel
theorem d_M_fallsAt_48 : decode c_M_fallsAt 48 = .ok (.iconst 1, 1) := by decide +kernel
theorem d_M_fallsAt_49 : decode c_M_fallsAt 49 = .ok (.goto 4, 3) := by decide +kernel
theorem d_M_fallsAt_52 : decode c_M_fallsAt 52 = .ok (.iconst 0, 1) := by decide +kernel
theorem d_M_fallsAt_53 : decode c_M_fallsAt 53 = .ok (.istore_n 2, 1) := by decide +kernel
theorem d_M_fallsAt_54 : decode c_M_fallsAt 54 = .ok (.iinc 3 1, 3) := by decide +kernel
theorem d_M_fallsAt_57 : decode c_M_fallsAt 57 = .ok (.goto (-53), 3) := by decide +kernel
theorem d_M_fallsAt_60 : decode c_M_fallsAt 60 = .ok (.iload_n 2, 1) := by decide +kernel
theorem d_M_fallsAt_61 : decode c_M_fallsAt 61 = .ok (.ireturn, 1) := by decide +kernel
theorem d_M_isBad_0 : decode c_M_isBad 0 = .ok (.iload_n 0, 1) := by decide +kernel
theorem d_M_isBad_1 : decode c_M_isBad 1 = .ok (.iload_n 0, 1) := by decide +kernel
theorem d_M_isBad_2 : decode c_M_isBad 2 = .ok (.invokestatic 78, 3) := by decide +kernel
theorem d_M_isBad_5 : decode c_M_isBad 5 = .ok (.iload_n 0, 1) := by decide +kernel
theorem d_M_isBad_6 : decode c_M_isBad 6 = .ok (.if_icmp .eq 5, 3) := by decide +kernel
theorem d_M_isBad_9 : decode c_M_isBad 9 = .ok (.iconst 0, 1) := by decide +kernel
theorem d_M_isBad_10 : decode c_M_isBad 10 = .ok (.ireturn, 1) := by decide +kernel
theorem d_M_isBad_11 : decode c_M_isBad 11 = .ok (.iconst 0, 1) := by decide +kernel
theorem d_M_isBad_12 : decode c_M_isBad 12 = .ok (.istore_n 1, 1) := by decide +kernel
theorem d_M_isBad_13 : decode c_M_isBad 13 = .ok (.iconst 0, 1) := by decide +kernel
theorem d_M_isBad_14 : decode c_M_isBad 14 = .ok (.istore_n 2, 1) := by decide +kernel
theorem d_M_isBad_15 : decode c_M_isBad 15 = .ok (.iload_n 2, 1) := by decide +kernel
theorem d_M_isBad_16 : decode c_M_isBad 16 = .ok (.iconst 4, 1) := by decide +kernel
theorem d_M_isBad_17 : decode c_M_isBad 17 = .ok (.if_icmp .ge 29, 3) := by decide +kernel
theorem d_M_isBad_20 : decode c_M_isBad 20 = .ok (.iload_n 1, 1) := by decide +kernel
theorem d_M_isBad_21 : decode c_M_isBad 21 = .ok (.ifCond .ne 13, 3) := by decide +kernel
theorem d_M_isBad_24 : decode c_M_isBad 24 = .ok (.iload_n 0, 1) := by decide +kernel
theorem d_M_isBad_25 : decode c_M_isBad 25 = .ok (.iload_n 2, 1) := by decide +kernel
theorem d_M_isBad_26 : decode c_M_isBad 26 = .ok (.iload_n 2, 1) := by decide +kernel
theorem d_M_isBad_27 : decode c_M_isBad 27 = .ok (.invokestatic 67, 3) := by decide +kernel
theorem d_M_isBad_30 : decode c_M_isBad 30 = .ok (.iconst 2, 1) := by decide +kernel
theorem d_M_isBad_31 : decode c_M_isBad 31 = .ok (.if_icmp .ne 7, 3) := by decide +kernel
theorem d_M_isBad_34 : decode c_M_isBad 34 = .ok (.iconst 1, 1) := by decide +kernel
theorem d_M_isBad_35 : decode c_M_isBad 35 = .ok (.goto 4, 3) := by decide +kernel
theorem d_M_isBad_38 : decode c_M_isBad 38 = .ok (.iconst 0, 1) := by decide +kernel
theorem d_M_isBad_39 : decode c_M_isBad 39 = .ok (.istore_n 1, 1) := by decide +kernel
theorem d_M_isBad_40 : decode c_M_isBad 40 = .ok (.iinc 2 1, 3) := by decide +kernel
theorem d_M_isBad_43 : decode c_M_isBad 43 = .ok (.goto (-28), 3) := by decide +kernel
theorem d_M_isBad_46 : decode c_M_isBad 46 = .ok (.iload_n 1, 1) := by decide +kernel
theorem d_M_isBad_47 : decode c_M_isBad 47 = .ok (.ifCond .ne 7, 3) := by decide +kernel
theorem d_M_isBad_50 : decode c_M_isBad 50 = .ok (.iconst 1, 1) := by decide +kernel
theorem d_M_isBad_51 : decode c_M_isBad 51 = .ok (.goto 4, 3) := by decide +kernel
theorem d_M_isBad_54 : decode c_M_isBad 54 = .ok (.iconst 0, 1) := by decide +kernel
theorem d_M_isBad_55 : decode c_M_isBad 55 = .ok (.ireturn, 1) := by decide +kernel
theorem d_M_isSafe_0 : decode c_M_isSafe 0 = .ok (.aload_n 0, 1) := by decide +kernel
theorem d_M_isSafe_1 : decode c_M_isSafe 1 = .ok (.aload_n 0, 1) := by decide +kernel
theorem d_M_isSafe_2 : decode c_M_isSafe 2 = .ok (.iload_n 1, 1) := by decide +kernel
theorem d_M_isSafe_3 : decode c_M_isSafe 3 = .ok (.invokevirtual 60, 3) := by decide +kernel
theorem d_M_isSafe_6 : decode c_M_isSafe 6 = .ok (.ifCond .ne 7, 3) := by decide +kernel
theorem d_M_isSafe_9 : decode c_M_isSafe 9 = .ok (.iconst 1, 1) := by decide +kernel
theorem d_M_isSafe_10 : decode c_M_isSafe 10 = .ok (.goto 4, 3) := by decide +kernel
theorem d_M_isSafe_13 : decode c_M_isSafe 13 = .ok (.iconst 0, 1) := by decide +kernel
theorem d_M_isSafe_14 : decode c_M_isSafe 14 = .ok (.iconst 0, 1) := by decide +kernel
theorem d_M_isSafe_15 : decode c_M_isSafe 15 = .ok (.invokevirtual 85, 3) := by decide +kernel
theorem d_M_isSafe_18 : decode c_M_isSafe 18 = .ok (.ifCond .eq 5, 3) := by decide +kernel
theorem d_M_isSafe_21 : decode c_M_isSafe 21 = .ok (.iconst 0, 1) := by decide +kernel
theorem d_M_isSafe_22 : decode c_M_isSafe 22 = .ok (.ireturn, 1) := by decide +kernel
theorem d_M_isSafe_23 : decode c_M_isSafe 23 = .ok (.aload_n 0, 1) := by decide +kernel
theorem d_M_isSafe_24 : decode c_M_isSafe 24 = .ok (.iload_n 1, 1) := by decide +kernel
theorem d_M_isSafe_25 : decode c_M_isSafe 25 = .ok (.invokevirtual 102, 3) := by decide +kernel
theorem d_M_isSafe_28 : decode c_M_isSafe 28 = .ok (.iconst 1, 1) := by decide +kernel
theorem d_M_isSafe_29 : decode c_M_isSafe 29 = .ok (.iload_n 1, 1) := by decide +kernel
theorem d_M_isSafe_30 : decode c_M_isSafe 30 = .ok (.ishl, 1) := by decide +kernel
theorem d_M_isSafe_31 : decode c_M_isSafe 31 = .ok (.ior, 1) := by decide +kernel
theorem d_M_isSafe_32 : decode c_M_isSafe 32 = .ok (.istore_n 2, 1) := by decide +kernel
theorem d_M_isSafe_33 : decode c_M_isSafe 33 = .ok (.iconst 1, 1) := by decide +kernel
theorem d_M_isSafe_34 : decode c_M_isSafe 34 = .ok (.istore_n 3, 1) := by decide +kernel
theorem d_M_isSafe_35 : decode c_M_isSafe 35 = .ok (.iconst 0, 1) := by decide +kernel
theorem d_M_isSafe_36 : decode c_M_isSafe 36 = .ok (.istore 4, 2) := by decide +kernel
theorem d_M_isSafe_38 : decode c_M_isSafe 38 = .ok (.iload 4, 2) := by decide +kernel
theorem d_M_isSafe_40 : decode c_M_isSafe 40 = .ok (.aload_n 0, 1) := by decide +kernel
theorem d_M_isSafe_41 : decode c_M_isSafe 41 = .ok (.getfield 57, 3) := by decide +kernel
theorem d_M_isSafe_44 : decode c_M_isSafe 44 = .ok (.if_icmp .ge 38, 3) := by decide +kernel
theorem d_M_isSafe_47 : decode c_M_isSafe 47 = .ok (.iload_n 2, 1) := by decide +kernel
theorem d_M_isSafe_48 : decode c_M_isSafe 48 = .ok (.iload 4, 2) := by decide +kernel
theorem d_M_isSafe_50 : decode c_M_isSafe 50 = .ok (.ishr, 1) := by decide +kernel
theorem d_M_isSafe_51 : decode c_M_isSafe 51 = .ok (.iconst 1, 1) := by decide +kernel
theorem d_M_isSafe_52 : decode c_M_isSafe 52 = .ok (.iand, 1) := by decide +kernel
theorem d_M_isSafe_53 : decode c_M_isSafe 53 = .ok (.iconst 1, 1) := by decide +kernel
theorem d_M_isSafe_54 : decode c_M_isSafe 54 = .ok (.if_icmp .ne 22, 3) := by decide +kernel
theorem d_M_isSafe_57 : decode c_M_isSafe 57 = .ok (.iload_n 3, 1) := by decide +kernel
theorem d_M_isSafe_58 : decode c_M_isSafe 58 = .ok (.ifCond .eq 16, 3) := by decide +kernel
theorem d_M_isSafe_61 : decode c_M_isSafe 61 = .ok (.aload_n 0, 1) := by decide +kernel
theorem d_M_isSafe_62 : decode c_M_isSafe 62 = .ok (.iload 4, 2) := by decide +kernel
theorem d_M_isSafe_64 : decode c_M_isSafe 64 = .ok (.invokevirtual 99, 3) := by decide +kernel
theorem d_M_isSafe_67 : decode c_M_isSafe 67 = .ok (.ifCond .eq 7, 3) := by decide +kernel
theorem d_M_isSafe_70 : decode c_M_isSafe 70 = .ok (.iconst 1, 1) := by decide +kernel
theorem d_M_isSafe_71 : decode c_M_isSafe 71 = .ok (.goto 4, 3) := by decide +kernel
theorem d_M_isSafe_74 : decode c_M_isSafe 74 = .ok (.iconst 0, 1) := by decide +kernel
theorem d_M_isSafe_75 : decode c_M_isSafe 75 = .ok (.istore_n 3, 1) := by decide +kernel
theorem d_M_isSafe_76 : decode c_M_isSafe 76 = .ok (.iinc 4 1, 3) := by decide +kernel
theorem d_M_isSafe_79 : decode c_M_isSafe 79 = .ok (.goto (-41), 3) := by decide +kernel
theorem d_M_isSafe_82 : decode c_M_isSafe 82 = .ok (.iload_n 3, 1) := by decide +kernel
theorem d_M_isSafe_83 : decode c_M_isSafe 83 = .ok (.ireturn, 1) := by decide +kernel
theorem d_M_reachedFrom_0 : decode c_M_reachedFrom 0 = .ok (.iconst 0, 1) := by decide +kernel
theorem d_M_reachedFrom_1 : decode c_M_reachedFrom 1 = .ok (.istore_n 2, 1) := by decide +kernel
theorem d_M_reachedFrom_2 : decode c_M_reachedFrom 2 = .ok (.iconst 1, 1) := by decide +kernel
theorem d_M_reachedFrom_3 : decode c_M_reachedFrom 3 = .ok (.istore_n 3, 1) := by decide +kernel
theorem d_M_reachedFrom_4 : decode c_M_reachedFrom 4 = .ok (.iload_n 3, 1) := by decide +kernel
theorem d_M_reachedFrom_5 : decode c_M_reachedFrom 5 = .ok (.ifCond .eq 83, 3) := by decide +kernel
theorem d_M_reachedFrom_8 : decode c_M_reachedFrom 8 = .ok (.iconst 0, 1) := by decide +kernel
theorem d_M_reachedFrom_9 : decode c_M_reachedFrom 9 = .ok (.istore_n 3, 1) := by decide +kernel
theorem d_M_reachedFrom_10 : decode c_M_reachedFrom 10 = .ok (.iconst 0, 1) := by decide +kernel
theorem d_M_reachedFrom_11 : decode c_M_reachedFrom 11 = .ok (.istore 4, 2) := by decide +kernel
theorem d_M_reachedFrom_13 : decode c_M_reachedFrom 13 = .ok (.iload 4, 2) := by decide +kernel
theorem d_M_reachedFrom_15 : decode c_M_reachedFrom 15 = .ok (.aload_n 0, 1) := by decide +kernel
theorem d_M_reachedFrom_16 : decode c_M_reachedFrom 16 = .ok (.getfield 64, 3) := by decide +kernel
theorem d_M_reachedFrom_19 : decode c_M_reachedFrom 19 = .ok (.if_icmp .ge 66, 3) := by decide +kernel
theorem d_M_reachedFrom_22 : decode c_M_reachedFrom 22 = .ok (.aload_n 0, 1) := by decide +kernel
theorem d_M_reachedFrom_23 : decode c_M_reachedFrom 23 = .ok (.getfield 13, 3) := by decide +kernel
theorem d_M_reachedFrom_26 : decode c_M_reachedFrom 26 = .ok (.iload 4, 2) := by decide +kernel
theorem d_M_reachedFrom_28 : decode c_M_reachedFrom 28 = .ok (.iaload, 1) := by decide +kernel
theorem d_M_reachedFrom_29 : decode c_M_reachedFrom 29 = .ok (.iload_n 1, 1) := by decide +kernel
theorem d_M_reachedFrom_30 : decode c_M_reachedFrom 30 = .ok (.if_icmp .eq 17, 3) := by decide +kernel
theorem d_M_reachedFrom_33 : decode c_M_reachedFrom 33 = .ok (.iload_n 2, 1) := by decide +kernel
theorem d_M_reachedFrom_34 : decode c_M_reachedFrom 34 = .ok (.aload_n 0, 1) := by decide +kernel
theorem d_M_reachedFrom_35 : decode c_M_reachedFrom 35 = .ok (.getfield 13, 3) := by decide +kernel
theorem d_M_reachedFrom_38 : decode c_M_reachedFrom 38 = .ok (.iload 4, 2) := by decide +kernel
theorem d_M_reachedFrom_40 : decode c_M_reachedFrom 40 = .ok (.iaload, 1) := by decide +kernel
theorem d_M_reachedFrom_41 : decode c_M_reachedFrom 41 = .ok (.ishr, 1) := by decide +kernel
theorem d_M_reachedFrom_42 : decode c_M_reachedFrom 42 = .ok (.iconst 1, 1) := by decide +kernel
theorem d_M_reachedFrom_43 : decode c_M_reachedFrom 43 = .ok (.iand, 1) := by decide +kernel
theorem d_M_reachedFrom_44 : decode c_M_reachedFrom 44 = .ok (.ifCond .eq 35, 3) := by decide +kernel
theorem d_M_reachedFrom_47 : decode c_M_reachedFrom 47 = .ok (.iload_n 2, 1) := by decide +kernel
theorem d_M_reachedFrom_48 : decode c_M_reachedFrom 48 = .ok (.aload_n 0, 1) := by decide +kernel
theorem d_M_reachedFrom_49 : decode c_M_reachedFrom 49 = .ok (.getfield 16, 3) := by decide +kernel
theorem d_M_reachedFrom_52 : decode c_M_reachedFrom 52 = .ok (.iload 4, 2) := by decide +kernel
theorem d_M_reachedFrom_54 : decode c_M_reachedFrom 54 = .ok (.iaload, 1) := by decide +kernel
theorem d_M_reachedFrom_55 : decode c_M_reachedFrom 55 = .ok (.ishr, 1) := by decide +kernel
theorem d_M_reachedFrom_56 : decode c_M_reachedFrom 56 = .ok (.iconst 1, 1) := by decide +kernel
theorem d_M_reachedFrom_57 : decode c_M_reachedFrom 57 = .ok (.iand, 1) := by decide +kernel
theorem d_M_reachedFrom_58 : decode c_M_reachedFrom 58 = .ok (.iconst 1, 1) := by decide +kernel
theorem d_M_reachedFrom_59 : decode c_M_reachedFrom 59 = .ok (.if_icmp .ne 6, 3) := by decide +kernel
theorem d_M_reachedFrom_62 : decode c_M_reachedFrom 62 = .ok (.goto 17, 3) := by decide +kernel
theorem d_M_reachedFrom_65 : decode c_M_reachedFrom 65 = .ok (.iload_n 2, 1) := by decide +kernel
theorem d_M_reachedFrom_66 : decode c_M_reachedFrom 66 = .ok (.iconst 1, 1) := by decide +kernel
theorem d_M_reachedFrom_67 : decode c_M_reachedFrom 67 = .ok (.aload_n 0, 1) := by decide +kernel
theorem d_M_reachedFrom_68 : decode c_M_reachedFrom 68 = .ok (.getfield 16, 3) := by decide +kernel
theorem d_M_reachedFrom_71 : decode c_M_reachedFrom 71 = .ok (.iload 4, 2) := by decide +kernel
theorem d_M_reachedFrom_73 : decode c_M_reachedFrom 73 = .ok (.iaload, 1) := by decide +kernel
theorem d_M_reachedFrom_74 : decode c_M_reachedFrom 74 = .ok (.ishl, 1) := by decide +kernel
theorem d_M_reachedFrom_75 : decode c_M_reachedFrom 75 = .ok (.ior, 1) := by decide +kernel
theorem d_M_reachedFrom_76 : decode c_M_reachedFrom 76 = .ok (.istore_n 2, 1) := by decide +kernel
theorem d_M_reachedFrom_77 : decode c_M_reachedFrom 77 = .ok (.iconst 1, 1) := by decide +kernel
theorem d_M_reachedFrom_78 : decode c_M_reachedFrom 78 = .ok (.istore_n 3, 1) := by decide +kernel
theorem d_M_reachedFrom_79 : decode c_M_reachedFrom 79 = .ok (.iinc 4 1, 3) := by decide +kernel
theorem d_M_reachedFrom_82 : decode c_M_reachedFrom 82 = .ok (.goto (-69), 3) := by decide +kernel
theorem d_M_reachedFrom_85 : decode c_M_reachedFrom 85 = .ok (.goto (-81), 3) := by decide +kernel
theorem d_M_reachedFrom_88 : decode c_M_reachedFrom 88 = .ok (.iload_n 2, 1) := by decide +kernel
theorem d_M_reachedFrom_89 : decode c_M_reachedFrom 89 = .ok (.ireturn, 1) := by decide +kernel
theorem d_M_bad_0 : decode c_M_bad 0 = .ok (.aload_n 0, 1) := by decide +kernel
theorem d_M_bad_1 : decode c_M_bad 1 = .ok (.iload_n 1, 1) := by decide +kernel
theorem d_M_bad_2 : decode c_M_bad 2 = .ok (.invokevirtual 60, 3) := by decide +kernel
theorem d_M_bad_5 : decode c_M_bad 5 = .ok (.ifCond .eq 8, 3) := by decide +kernel
theorem d_M_bad_8 : decode c_M_bad 8 = .ok (.iload_n 2, 1) := by decide +kernel
theorem d_M_bad_9 : decode c_M_bad 9 = .ok (.iconst (-1), 1) := by decide +kernel
theorem d_M_bad_10 : decode c_M_bad 10 = .ok (.if_icmp .ge 7, 3) := by decide +kernel
theorem d_M_bad_13 : decode c_M_bad 13 = .ok (.iconst 1, 1) := by decide +kernel
theorem d_M_bad_14 : decode c_M_bad 14 = .ok (.goto 4, 3) := by decide +kernel
theorem d_M_bad_17 : decode c_M_bad 17 = .ok (.iconst 0, 1) := by decide +kernel
theorem d_M_bad_18 : decode c_M_bad 18 = .ok (.istore_n 3, 1) := by decide +kernel
theorem d_M_bad_19 : decode c_M_bad 19 = .ok (.aload_n 0, 1) := by decide +kernel
theorem d_M_bad_20 : decode c_M_bad 20 = .ok (.iconst 0, 1) := by decide +kernel
theorem d_M_bad_21 : decode c_M_bad 21 = .ok (.iload_n 3, 1) := by decide +kernel
theorem d_M_bad_22 : decode c_M_bad 22 = .ok (.invokevirtual 85, 3) := by decide +kernel
theorem d_M_bad_25 : decode c_M_bad 25 = .ok (.ifCond .eq 26, 3) := by decide +kernel
theorem d_M_bad_28 : decode c_M_bad 28 = .ok (.aload_n 0, 1) := by decide +kernel
theorem d_M_bad_29 : decode c_M_bad 29 = .ok (.getfield 53, 3) := by decide +kernel
theorem d_M_bad_32 : decode c_M_bad 32 = .ok (.iconst 2, 1) := by decide +kernel
theorem d_M_bad_33 : decode c_M_bad 33 = .ok (.if_icmp .ne 8, 3) := by decide +kernel
theorem d_M_bad_36 : decode c_M_bad 36 = .ok (.aload_n 0, 1) := by decide +kernel
theorem d_M_bad_37 : decode c_M_bad 37 = .ok (.iconst 1, 1) := by decide +kernel
theorem d_M_bad_38 : decode c_M_bad 38 = .ok (.putfield 53, 3) := by decide +kernel
theorem d_M_bad_41 : decode c_M_bad 41 = .ok (.iload_n 3, 1) := by decide +kernel
theorem d_M_bad_42 : decode c_M_bad 42 = .ok (.ifCond .eq 7, 3) := by decide +kernel
theorem d_M_bad_45 : decode c_M_bad 45 = .ok (.iconst (-1), 1) := by decide +kernel
theorem d_M_bad_46 : decode c_M_bad 46 = .ok (.goto 4, 3) := by decide +kernel
theorem d_M_bad_49 : decode c_M_bad 49 = .ok (.iconst 0, 1) := by decide +kernel
theorem d_M_bad_50 : decode c_M_bad 50 = .ok (.ireturn, 1) := by decide +kernel
theorem d_M_bad_51 : decode c_M_bad 51 = .ok (.aload_n 0, 1) := by decide +kernel
theorem d_M_bad_52 : decode c_M_bad 52 = .ok (.iload_n 1, 1) := by decide +kernel
theorem d_M_bad_53 : decode c_M_bad 53 = .ok (.invokevirtual 82, 3) := by decide +kernel
theorem d_M_bad_56 : decode c_M_bad 56 = .ok (.pop, 1) := by decide +kernel
theorem d_M_bad_57 : decode c_M_bad 57 = .ok (.iconst 0, 1) := by decide +kernel
theorem d_M_bad_58 : decode c_M_bad 58 = .ok (.istore 4, 2) := by decide +kernel
theorem d_M_bad_60 : decode c_M_bad 60 = .ok (.iload 4, 2) := by decide +kernel
theorem d_M_bad_62 : decode c_M_bad 62 = .ok (.aload_n 0, 1) := by decide +kernel
theorem d_M_bad_63 : decode c_M_bad 63 = .ok (.getfield 71, 3) := by decide +kernel
theorem d_M_bad_66 : decode c_M_bad 66 = .ok (.if_icmp .ge 33, 3) := by decide +kernel
theorem d_M_bad_69 : decode c_M_bad 69 = .ok (.aload_n 0, 1) := by decide +kernel
theorem d_M_bad_70 : decode c_M_bad 70 = .ok (.getfield 25, 3) := by decide +kernel
theorem d_M_bad_73 : decode c_M_bad 73 = .ok (.iload 4, 2) := by decide +kernel
theorem d_M_bad_75 : decode c_M_bad 75 = .ok (.iaload, 1) := by decide +kernel
theorem d_M_bad_76 : decode c_M_bad 76 = .ok (.iload_n 1, 1) := by decide +kernel
theorem d_M_bad_77 : decode c_M_bad 77 = .ok (.if_icmp .ne 16, 3) := by decide +kernel
theorem d_M_bad_80 : decode c_M_bad 80 = .ok (.aload_n 0, 1) := by decide +kernel
theorem d_M_bad_81 : decode c_M_bad 81 = .ok (.getfield 28, 3) := by decide +kernel
theorem d_M_bad_84 : decode c_M_bad 84 = .ok (.iload 4, 2) := by decide +kernel
theorem d_M_bad_86 : decode c_M_bad 86 = .ok (.iaload, 1) := by decide +kernel
theorem d_M_bad_87 : decode c_M_bad 87 = .ok (.invokestatic 96, 3) := by decide +kernel
theorem d_M_bad_90 : decode c_M_bad 90 = .ok (.ifCond .ne 9, 3) := by decide +kernel
theorem d_M_bad_93 : decode c_M_bad 93 = .ok (.iinc 4 1, 3) := by decide +kernel
theorem d_M_bad_96 : decode c_M_bad 96 = .ok (.goto (-36), 3) := by decide +kernel
theorem d_M_bad_99 : decode c_M_bad 99 = .ok (.iload 4, 2) := by decide +kernel
theorem d_M_bad_101 : decode c_M_bad 101 = .ok (.aload_n 0, 1) := by decide +kernel
theorem d_M_bad_102 : decode c_M_bad 102 = .ok (.getfield 71, 3) := by decide +kernel
theorem d_M_bad_105 : decode c_M_bad 105 = .ok (.if_icmp .ne 14, 3) := by decide +kernel
theorem d_M_bad_108 : decode c_M_bad 108 = .ok (.iload_n 2, 1) := by decide +kernel
theorem d_M_bad_109 : decode c_M_bad 109 = .ok (.iconst (-1), 1) := by decide +kernel
theorem d_M_bad_110 : decode c_M_bad 110 = .ok (.if_icmp .ne 7, 3) := by decide +kernel
theorem d_M_bad_113 : decode c_M_bad 113 = .ok (.iconst 0, 1) := by decide +kernel
theorem d_M_bad_114 : decode c_M_bad 114 = .ok (.goto 4, 3) := by decide +kernel
theorem d_M_bad_117 : decode c_M_bad 117 = .ok (.iconst (-1), 1) := by decide +kernel
theorem d_M_bad_118 : decode c_M_bad 118 = .ok (.ireturn, 1) := by decide +kernel
theorem d_M_bad_119 : decode c_M_bad 119 = .ok (.iconst 0, 1) := by decide +kernel
theorem d_M_bad_120 : decode c_M_bad 120 = .ok (.istore 5, 2) := by decide +kernel
theorem d_M_bad_122 : decode c_M_bad 122 = .ok (.iload 4, 2) := by decide +kernel
theorem d_M_bad_124 : decode c_M_bad 124 = .ok (.istore 6, 2) := by decide +kernel
theorem d_M_bad_126 : decode c_M_bad 126 = .ok (.iload 6, 2) := by decide +kernel
theorem d_M_bad_128 : decode c_M_bad 128 = .ok (.iconst (-1), 1) := by decide +kernel
theorem d_M_bad_129 : decode c_M_bad 129 = .ok (.if_icmp .eq 32, 3) := by decide +kernel
theorem d_M_bad_132 : decode c_M_bad 132 = .ok (.aload_n 0, 1) := by decide +kernel
theorem d_M_bad_133 : decode c_M_bad 133 = .ok (.getfield 37, 3) := by decide +kernel
theorem d_M_bad_136 : decode c_M_bad 136 = .ok (.iload 5, 2) := by decide +kernel
theorem d_M_bad_138 : decode c_M_bad 138 = .ok (.aload_n 0, 1) := by decide +kernel
theorem d_M_bad_139 : decode c_M_bad 139 = .ok (.getfield 34, 3) := by decide +kernel
theorem d_M_bad_142 : decode c_M_bad 142 = .ok (.iload 6, 2) := by decide +kernel
theorem d_M_bad_144 : decode c_M_bad 144 = .ok (.iaload, 1) := by decide +kernel
theorem d_M_bad_145 : decode c_M_bad 145 = .ok (.iastore, 1) := by decide +kernel
theorem d_M_bad_146 : decode c_M_bad 146 = .ok (.iinc 5 1, 3) := by decide +kernel
theorem d_M_bad_149 : decode c_M_bad 149 = .ok (.aload_n 0, 1) := by decide +kernel
theorem d_M_bad_150 : decode c_M_bad 150 = .ok (.getfield 31, 3) := by decide +kernel
theorem d_M_bad_153 : decode c_M_bad 153 = .ok (.iload 6, 2) := by decide +kernel
theorem d_M_bad_155 : decode c_M_bad 155 = .ok (.iaload, 1) := by decide +kernel
theorem d_M_bad_156 : decode c_M_bad 156 = .ok (.istore 6, 2) := by decide +kernel
theorem d_M_bad_158 : decode c_M_bad 158 = .ok (.goto (-32), 3) := by decide +kernel
theorem d_M_bad_161 : decode c_M_bad 161 = .ok (.iload_n 2, 1) := by decide +kernel
theorem d_M_bad_162 : decode c_M_bad 162 = .ok (.iconst (-1), 1) := by decide +kernel
theorem d_M_bad_163 : decode c_M_bad 163 = .ok (.if_icmp .ne 8, 3) := by decide +kernel
theorem d_M_bad_166 : decode c_M_bad 166 = .ok (.iload 5, 2) := by decide +kernel
theorem d_M_bad_168 : decode c_M_bad 168 = .ok (.goto 24, 3) := by decide +kernel
theorem d_M_bad_171 : decode c_M_bad 171 = .ok (.iload_n 2, 1) := by decide +kernel
theorem d_M_bad_172 : decode c_M_bad 172 = .ok (.iload 5, 2) := by decide +kernel
theorem d_M_bad_174 : decode c_M_bad 174 = .ok (.if_icmp .ge 17, 3) := by decide +kernel
theorem d_M_bad_177 : decode c_M_bad 177 = .ok (.aload_n 0, 1) := by decide +kernel
theorem d_M_bad_178 : decode c_M_bad 178 = .ok (.getfield 37, 3) := by decide +kernel
theorem d_M_bad_181 : decode c_M_bad 181 = .ok (.iload 5, 2) := by decide +kernel
theorem d_M_bad_183 : decode c_M_bad 183 = .ok (.iconst 1, 1) := by decide +kernel
theorem d_M_bad_184 : decode c_M_bad 184 = .ok (.isub, 1) := by decide +kernel
theorem d_M_bad_185 : decode c_M_bad 185 = .ok (.iload_n 2, 1) := by decide +kernel
theorem d_M_bad_186 : decode c_M_bad 186 = .ok (.isub, 1) := by decide +kernel
theorem d_M_bad_187 : decode c_M_bad 187 = .ok (.iaload, 1) := by decide +kernel
theorem d_M_bad_188 : decode c_M_bad 188 = .ok (.goto 4, 3) := by decide +kernel
theorem d_M_bad_191 : decode c_M_bad 191 = .ok (.iconst (-1), 1) := by decide +kernel
theorem d_M_bad_192 : decode c_M_bad 192 = .ok (.ireturn, 1) := by decide +kernel
theorem d_M_order_0 : decode c_M_order 0 = .ok (.aload_n 0, 1) := by decide +kernel
theorem d_M_order_1 : decode c_M_order 1 = .ok (.iconst 0, 1) := by decide +kernel
theorem d_M_order_2 : decode c_M_order 2 = .ok (.putfield 53, 3) := by decide +kernel
theorem d_M_order_5 : decode c_M_order 5 = .ok (.aload_n 0, 1) := by decide +kernel
theorem d_M_order_6 : decode c_M_order 6 = .ok (.iload_n 1, 1) := by decide +kernel
theorem d_M_order_7 : decode c_M_order 7 = .ok (.invokevirtual 60, 3) := by decide +kernel
theorem d_M_order_10 : decode c_M_order 10 = .ok (.ifCond .eq 8, 3) := by decide +kernel
theorem d_M_order_13 : decode c_M_order 13 = .ok (.iload_n 2, 1) := by decide +kernel
theorem d_M_order_14 : decode c_M_order 14 = .ok (.iconst (-1), 1) := by decide +kernel
theorem d_M_order_15 : decode c_M_order 15 = .ok (.if_icmp .ge 5, 3) := by decide +kernel
theorem d_M_order_18 : decode c_M_order 18 = .ok (.iconst (-1), 1) := by decide +kernel
theorem d_M_order_19 : decode c_M_order 19 = .ok (.ireturn, 1) := by decide +kernel
theorem d_M_order_20 : decode c_M_order 20 = .ok (.aload_n 0, 1) := by decide +kernel
theorem d_M_order_21 : decode c_M_order 21 = .ok (.iload_n 1, 1) := by decide +kernel
theorem d_M_order_22 : decode c_M_order 22 = .ok (.invokevirtual 109, 3) := by decide +kernel
theorem d_M_order_25 : decode c_M_order 25 = .ok (.istore_n 3, 1) := by decide +kernel
theorem d_M_order_26 : decode c_M_order 26 = .ok (.iload_n 2, 1) := by decide +kernel
theorem d_M_order_27 : decode c_M_order 27 = .ok (.iconst (-1), 1) := by decide +kernel
theorem d_M_order_28 : decode c_M_order 28 = .ok (.if_icmp .ne 7, 3) := by decide +kernel
theorem d_M_order_31 : decode c_M_order 31 = .ok (.iload_n 3, 1) := by decide +kernel
theorem d_M_order_32 : decode c_M_order 32 = .ok (.goto 18, 3) := by decide +kernel
theorem d_M_order_35 : decode c_M_order 35 = .ok (.iload_n 2, 1) := by decide +kernel
theorem d_M_order_36 : decode c_M_order 36 = .ok (.iload_n 3, 1) := by decide +kernel
theorem d_M_order_37 : decode c_M_order 37 = .ok (.if_icmp .ge 12, 3) := by decide +kernel
theorem d_M_order_40 : decode c_M_order 40 = .ok (.aload_n 0, 1) := by decide +kernel
theorem d_M_order_41 : decode c_M_order 41 = .ok (.getfield 47, 3) := by decide +kernel
theorem d_M_order_44 : decode c_M_order 44 = .ok (.iload_n 2, 1) := by decide +kernel
theorem d_M_order_45 : decode c_M_order 45 = .ok (.iaload, 1) := by decide +kernel
theorem d_M_order_46 : decode c_M_order 46 = .ok (.goto 4, 3) := by decide +kernel
theorem d_M_order_49 : decode c_M_order 49 = .ok (.iconst (-1), 1) := by decide +kernel
theorem d_M_order_50 : decode c_M_order 50 = .ok (.ireturn, 1) := by decide +kernel
theorem d_M_findOrder_0 : decode c_M_findOrder 0 = .ok (.iconst 0, 1) := by decide +kernel
theorem d_M_findOrder_1 : decode c_M_findOrder 1 = .ok (.istore_n 2, 1) := by decide +kernel
theorem d_M_findOrder_2 : decode c_M_findOrder 2 = .ok (.iconst 0, 1) := by decide +kernel
theorem d_M_findOrder_3 : decode c_M_findOrder 3 = .ok (.istore_n 3, 1) := by decide +kernel
theorem d_M_findOrder_4 : decode c_M_findOrder 4 = .ok (.iload_n 3, 1) := by decide +kernel
theorem d_M_findOrder_5 : decode c_M_findOrder 5 = .ok (.aload_n 0, 1) := by decide +kernel
theorem d_M_findOrder_6 : decode c_M_findOrder 6 = .ok (.getfield 64, 3) := by decide +kernel
theorem d_M_findOrder_9 : decode c_M_findOrder 9 = .ok (.if_icmp .ge 57, 3) := by decide +kernel
theorem d_M_findOrder_12 : decode c_M_findOrder 12 = .ok (.aload_n 0, 1) := by decide +kernel
theorem d_M_findOrder_13 : decode c_M_findOrder 13 = .ok (.getfield 44, 3) := by decide +kernel
theorem d_M_findOrder_16 : decode c_M_findOrder 16 = .ok (.iload_n 3, 1) := by decide +kernel
theorem d_M_findOrder_17 : decode c_M_findOrder 17 = .ok (.aload_n 0, 1) := by decide +kernel
theorem d_M_findOrder_18 : decode c_M_findOrder 18 = .ok (.getfield 13, 3) := by decide +kernel
theorem d_M_findOrder_21 : decode c_M_findOrder 21 = .ok (.iload_n 3, 1) := by decide +kernel
theorem d_M_findOrder_22 : decode c_M_findOrder 22 = .ok (.iaload, 1) := by decide +kernel
theorem d_M_findOrder_23 : decode c_M_findOrder 23 = .ok (.iload_n 1, 1) := by decide +kernel
theorem d_M_findOrder_24 : decode c_M_findOrder 24 = .ok (.if_icmp .ne 17, 3) := by decide +kernel
theorem d_M_findOrder_27 : decode c_M_findOrder 27 = .ok (.aload_n 0, 1) := by decide +kernel
theorem d_M_findOrder_28 : decode c_M_findOrder 28 = .ok (.getfield 16, 3) := by decide +kernel
theorem d_M_findOrder_31 : decode c_M_findOrder 31 = .ok (.iload_n 3, 1) := by decide +kernel
theorem d_M_findOrder_32 : decode c_M_findOrder 32 = .ok (.iaload, 1) := by decide +kernel
theorem d_M_findOrder_33 : decode c_M_findOrder 33 = .ok (.iload_n 1, 1) := by decide +kernel
theorem d_M_findOrder_34 : decode c_M_findOrder 34 = .ok (.if_icmp .ne 7, 3) := by decide +kernel
theorem d_M_findOrder_37 : decode c_M_findOrder 37 = .ok (.iconst 1, 1) := by decide +kernel
theorem d_M_findOrder_38 : decode c_M_findOrder 38 = .ok (.goto 4, 3) := by decide +kernel
theorem d_M_findOrder_41 : decode c_M_findOrder 41 = .ok (.iconst 0, 1) := by decide +kernel
theorem d_M_findOrder_42 : decode c_M_findOrder 42 = .ok (.bastore, 1) := by decide +kernel
theorem d_M_findOrder_43 : decode c_M_findOrder 43 = .ok (.iload_n 2, 1) := by decide +kernel
theorem d_M_findOrder_44 : decode c_M_findOrder 44 = .ok (.aload_n 0, 1) := by decide +kernel
theorem d_M_findOrder_45 : decode c_M_findOrder 45 = .ok (.getfield 44, 3) := by decide +kernel
theorem d_M_findOrder_48 : decode c_M_findOrder 48 = .ok (.iload_n 3, 1) := by decide +kernel
theorem d_M_findOrder_49 : decode c_M_findOrder 49 = .ok (.baload, 1) := by decide +kernel
theorem d_M_findOrder_50 : decode c_M_findOrder 50 = .ok (.ifCond .eq 7, 3) := by decide +kernel
theorem d_M_findOrder_53 : decode c_M_findOrder 53 = .ok (.iconst 1, 1) := by decide +kernel
theorem d_M_findOrder_54 : decode c_M_findOrder 54 = .ok (.goto 4, 3) := by decide +kernel
theorem d_M_findOrder_57 : decode c_M_findOrder 57 = .ok (.iconst 0, 1) := by decide +kernel
theorem d_M_findOrder_58 : decode c_M_findOrder 58 = .ok (.iadd, 1) := by decide +kernel
theorem d_M_findOrder_59 : decode c_M_findOrder 59 = .ok (.istore_n 2, 1) := by decide +kernel
theorem d_M_findOrder_60 : decode c_M_findOrder 60 = .ok (.iinc 3 1, 3) := by decide +kernel
theorem d_M_findOrder_63 : decode c_M_findOrder 63 = .ok (.goto (-59), 3) := by decide +kernel
theorem d_M_findOrder_66 : decode c_M_findOrder 66 = .ok (.iconst 0, 1) := by decide +kernel
theorem d_M_findOrder_67 : decode c_M_findOrder 67 = .ok (.istore_n 3, 1) := by decide +kernel
theorem d_M_findOrder_68 : decode c_M_findOrder 68 = .ok (.iload_n 3, 1) := by decide +kernel
theorem d_M_findOrder_69 : decode c_M_findOrder 69 = .ok (.iconst 4, 1) := by decide +kernel
theorem d_M_findOrder_70 : decode c_M_findOrder 70 = .ok (.if_icmp .ge 16, 3) := by decide +kernel
theorem d_M_findOrder_73 : decode c_M_findOrder 73 = .ok (.aload_n 0, 1) := by decide +kernel
theorem d_M_findOrder_74 : decode c_M_findOrder 74 = .ok (.getfield 40, 3) := by decide +kernel
theorem d_M_findOrder_77 : decode c_M_findOrder 77 = .ok (.iload_n 3, 1) := by decide +kernel
theorem d_M_findOrder_78 : decode c_M_findOrder 78 = .ok (.iconst 0, 1) := by decide +kernel
theorem d_M_findOrder_79 : decode c_M_findOrder 79 = .ok (.bastore, 1) := by decide +kernel
theorem d_M_findOrder_80 : decode c_M_findOrder 80 = .ok (.iinc 3 1, 3) := by decide +kernel
theorem d_M_findOrder_83 : decode c_M_findOrder 83 = .ok (.goto (-15), 3) := by decide +kernel
theorem d_M_findOrder_86 : decode c_M_findOrder 86 = .ok (.iconst 0, 1) := by decide +kernel
theorem d_M_findOrder_87 : decode c_M_findOrder 87 = .ok (.istore_n 3, 1) := by decide +kernel
theorem d_M_findOrder_88 : decode c_M_findOrder 88 = .ok (.iload_n 2, 1) := by decide +kernel
theorem d_M_findOrder_89 : decode c_M_findOrder 89 = .ok (.ifCond .le 128, 3) := by decide +kernel
theorem d_M_findOrder_92 : decode c_M_findOrder 92 = .ok (.iconst 0, 1) := by decide +kernel
theorem d_M_findOrder_93 : decode c_M_findOrder 93 = .ok (.istore 4, 2) := by decide +kernel
theorem d_M_findOrder_95 : decode c_M_findOrder 95 = .ok (.iload 4, 2) := by decide +kernel
theorem d_M_findOrder_97 : decode c_M_findOrder 97 = .ok (.aload_n 0, 1) := by decide +kernel
theorem d_M_findOrder_98 : decode c_M_findOrder 98 = .ok (.getfield 7, 3) := by decide +kernel
theorem d_M_findOrder_101 : decode c_M_findOrder 101 = .ok (.iload_n 1, 1) := by decide +kernel
theorem d_M_findOrder_102 : decode c_M_findOrder 102 = .ok (.iaload, 1) := by decide +kernel
theorem d_M_findOrder_103 : decode c_M_findOrder 103 = .ok (.if_icmp .ge 19, 3) := by decide +kernel
theorem d_M_findOrder_106 : decode c_M_findOrder 106 = .ok (.aload_n 0, 1) := by decide +kernel
theorem d_M_findOrder_107 : decode c_M_findOrder 107 = .ok (.iload 4, 2) := by decide +kernel
theorem d_M_findOrder_109 : decode c_M_findOrder 109 = .ok (.iload_n 1, 1) := by decide +kernel
theorem d_M_findOrder_110 : decode c_M_findOrder 110 = .ok (.invokevirtual 106, 3) := by decide +kernel
theorem d_M_findOrder_113 : decode c_M_findOrder 113 = .ok (.ifCond .ne 9, 3) := by decide +kernel
theorem d_M_findOrder_116 : decode c_M_findOrder 116 = .ok (.iinc 4 1, 3) := by decide +kernel
theorem d_M_findOrder_119 : decode c_M_findOrder 119 = .ok (.goto (-24), 3) := by decide +kernel
theorem d_M_findOrder_122 : decode c_M_findOrder 122 = .ok (.iload 4, 2) := by decide +kernel
theorem d_M_findOrder_124 : decode c_M_findOrder 124 = .ok (.aload_n 0, 1) := by decide +kernel
theorem d_M_findOrder_125 : decode c_M_findOrder 125 = .ok (.getfield 7, 3) := by decide +kernel
theorem d_M_findOrder_128 : decode c_M_findOrder 128 = .ok (.iload_n 1, 1) := by decide +kernel
theorem d_M_findOrder_129 : decode c_M_findOrder 129 = .ok (.iaload, 1) := by decide +kernel
theorem d_M_findOrder_130 : decode c_M_findOrder 130 = .ok (.if_icmp .ne 5, 3) := by decide +kernel
theorem d_M_findOrder_133 : decode c_M_findOrder 133 = .ok (.iconst (-1), 1) := by decide +kernel
theorem d_M_findOrder_134 : decode c_M_findOrder 134 = .ok (.ireturn, 1) := by decide +kernel
theorem d_M_findOrder_135 : decode c_M_findOrder 135 = .ok (.aload_n 0, 1) := by decide +kernel
theorem d_M_findOrder_136 : decode c_M_findOrder 136 = .ok (.getfield 40, 3) := by decide +kernel
theorem d_M_findOrder_139 : decode c_M_findOrder 139 = .ok (.iload 4, 2) := by decide +kernel
theorem d_M_findOrder_141 : decode c_M_findOrder 141 = .ok (.iconst 1, 1) := by decide +kernel
theorem d_M_findOrder_142 : decode c_M_findOrder 142 = .ok (.bastore, 1) := by decide +kernel
theorem d_M_findOrder_143 : decode c_M_findOrder 143 = .ok (.aload_n 0, 1) := by decide +kernel
theorem d_M_findOrder_144 : decode c_M_findOrder 144 = .ok (.getfield 47, 3) := by decide +kernel
theorem d_M_findOrder_147 : decode c_M_findOrder 147 = .ok (.iload_n 3, 1) := by decide +kernel
theorem d_M_findOrder_148 : decode c_M_findOrder 148 = .ok (.iload 4, 2) := by decide +kernel
theorem d_M_findOrder_150 : decode c_M_findOrder 150 = .ok (.iastore, 1) := by decide +kernel
theorem d_M_findOrder_151 : decode c_M_findOrder 151 = .ok (.iinc 3 1, 3) := by decide +kernel
theorem d_M_findOrder_154 : decode c_M_findOrder 154 = .ok (.iconst 0, 1) := by decide +kernel
theorem d_M_findOrder_155 : decode c_M_findOrder 155 = .ok (.istore 5, 2) := by decide +kernel
theorem d_M_findOrder_157 : decode c_M_findOrder 157 = .ok (.iload 5, 2) := by decide +kernel
theorem d_M_findOrder_159 : decode c_M_findOrder 159 = .ok (.aload_n 0, 1) := by decide +kernel
theorem d_M_findOrder_160 : decode c_M_findOrder 160 = .ok (.getfield 64, 3) := by decide +kernel
theorem d_M_findOrder_163 : decode c_M_findOrder 163 = .ok (.if_icmp .ge 51, 3) := by decide +kernel
theorem d_M_findOrder_166 : decode c_M_findOrder 166 = .ok (.aload_n 0, 1) := by decide +kernel
theorem d_M_findOrder_167 : decode c_M_findOrder 167 = .ok (.getfield 44, 3) := by decide +kernel
theorem d_M_findOrder_170 : decode c_M_findOrder 170 = .ok (.iload 5, 2) := by decide +kernel
theorem d_M_findOrder_172 : decode c_M_findOrder 172 = .ok (.baload, 1) := by decide +kernel
theorem d_M_findOrder_173 : decode c_M_findOrder 173 = .ok (.ifCond .eq 35, 3) := by decide +kernel
theorem d_M_findOrder_176 : decode c_M_findOrder 176 = .ok (.aload_n 0, 1) := by decide +kernel
theorem d_M_findOrder_177 : decode c_M_findOrder 177 = .ok (.getfield 19, 3) := by decide +kernel
theorem d_M_findOrder_180 : decode c_M_findOrder 180 = .ok (.iload 5, 2) := by decide +kernel
theorem d_M_findOrder_182 : decode c_M_findOrder 182 = .ok (.iaload, 1) := by decide +kernel
theorem d_M_findOrder_183 : decode c_M_findOrder 183 = .ok (.iload 4, 2) := by decide +kernel
theorem d_M_findOrder_185 : decode c_M_findOrder 185 = .ok (.iload 4, 2) := by decide +kernel
theorem d_M_findOrder_187 : decode c_M_findOrder 187 = .ok (.invokestatic 67, 3) := by decide +kernel
theorem d_M_findOrder_190 : decode c_M_findOrder 190 = .ok (.iconst 2, 1) := by decide +kernel
theorem d_M_findOrder_191 : decode c_M_findOrder 191 = .ok (.if_icmp .eq 6, 3) := by decide +kernel
theorem d_M_findOrder_194 : decode c_M_findOrder 194 = .ok (.goto 14, 3) := by decide +kernel
theorem d_M_findOrder_197 : decode c_M_findOrder 197 = .ok (.aload_n 0, 1) := by decide +kernel
theorem d_M_findOrder_198 : decode c_M_findOrder 198 = .ok (.getfield 44, 3) := by decide +kernel
theorem d_M_findOrder_201 : decode c_M_findOrder 201 = .ok (.iload 5, 2) := by decide +kernel
theorem d_M_findOrder_203 : decode c_M_findOrder 203 = .ok (.iconst 0, 1) := by decide +kernel
theorem d_M_findOrder_204 : decode c_M_findOrder 204 = .ok (.bastore, 1) := by decide +kernel
theorem d_M_findOrder_205 : decode c_M_findOrder 205 = .ok (.iinc 2 (-1), 3) := by decide +kernel
theorem d_M_findOrder_208 : decode c_M_findOrder 208 = .ok (.iinc 5 1, 3) := by decide +kernel
theorem d_M_findOrder_211 : decode c_M_findOrder 211 = .ok (.goto (-54), 3) := by decide +kernel
theorem d_M_findOrder_214 : decode c_M_findOrder 214 = .ok (.goto (-126), 3) := by decide +kernel
theorem d_M_findOrder_217 : decode c_M_findOrder 217 = .ok (.iload_n 3, 1) := by decide +kernel
theorem d_M_findOrder_218 : decode c_M_findOrder 218 = .ok (.ireturn, 1) := by decide +kernel
theorem d_M_mayTake_0 : decode c_M_mayTake 0 = .ok (.aload_n 0, 1) := by decide +kernel
theorem d_M_mayTake_1 : decode c_M_mayTake 1 = .ok (.getfield 40, 3) := by decide +kernel
theorem d_M_mayTake_4 : decode c_M_mayTake 4 = .ok (.iload_n 1, 1) := by decide +kernel
theorem d_M_mayTake_5 : decode c_M_mayTake 5 = .ok (.baload, 1) := by decide +kernel
theorem d_M_mayTake_6 : decode c_M_mayTake 6 = .ok (.ifCond .ne 7, 3) := by decide +kernel
theorem d_M_mayTake_9 : decode c_M_mayTake 9 = .ok (.iconst 1, 1) := by decide +kernel
theorem d_M_mayTake_10 : decode c_M_mayTake 10 = .ok (.goto 4, 3) := by decide +kernel
theorem d_M_mayTake_13 : decode c_M_mayTake 13 = .ok (.iconst 0, 1) := by decide +kernel
theorem d_M_mayTake_14 : decode c_M_mayTake 14 = .ok (.istore_n 3, 1) := by decide +kernel
theorem d_M_mayTake_15 : decode c_M_mayTake 15 = .ok (.iconst 0, 1) := by decide +kernel
theorem d_M_mayTake_16 : decode c_M_mayTake 16 = .ok (.istore 4, 2) := by decide +kernel
theorem d_M_mayTake_18 : decode c_M_mayTake 18 = .ok (.iconst 0, 1) := by decide +kernel
theorem d_M_mayTake_19 : decode c_M_mayTake 19 = .ok (.istore 5, 2) := by decide +kernel
theorem d_M_mayTake_21 : decode c_M_mayTake 21 = .ok (.iload 5, 2) := by decide +kernel
theorem d_M_mayTake_23 : decode c_M_mayTake 23 = .ok (.aload_n 0, 1) := by decide +kernel
theorem d_M_mayTake_24 : decode c_M_mayTake 24 = .ok (.getfield 64, 3) := by decide +kernel
theorem d_M_mayTake_27 : decode c_M_mayTake 27 = .ok (.if_icmp .ge 75, 3) := by decide +kernel
theorem d_M_mayTake_30 : decode c_M_mayTake 30 = .ok (.aload_n 0, 1) := by decide +kernel
theorem d_M_mayTake_31 : decode c_M_mayTake 31 = .ok (.getfield 44, 3) := by decide +kernel
theorem d_M_mayTake_34 : decode c_M_mayTake 34 = .ok (.iload 5, 2) := by decide +kernel
theorem d_M_mayTake_36 : decode c_M_mayTake 36 = .ok (.baload, 1) := by decide +kernel
theorem d_M_mayTake_37 : decode c_M_mayTake 37 = .ok (.ifCond .ne 6, 3) := by decide +kernel
theorem d_M_mayTake_40 : decode c_M_mayTake 40 = .ok (.goto 56, 3) := by decide +kernel
theorem d_M_mayTake_43 : decode c_M_mayTake 43 = .ok (.iload_n 3, 1) := by decide +kernel
theorem d_M_mayTake_44 : decode c_M_mayTake 44 = .ok (.ifCond .eq 22, 3) := by decide +kernel
theorem d_M_mayTake_47 : decode c_M_mayTake 47 = .ok (.aload_n 0, 1) := by decide +kernel
theorem d_M_mayTake_48 : decode c_M_mayTake 48 = .ok (.getfield 19, 3) := by decide +kernel
theorem d_M_mayTake_51 : decode c_M_mayTake 51 = .ok (.iload 5, 2) := by decide +kernel
theorem d_M_mayTake_53 : decode c_M_mayTake 53 = .ok (.iaload, 1) := by decide +kernel
theorem d_M_mayTake_54 : decode c_M_mayTake 54 = .ok (.iload_n 1, 1) := by decide +kernel
theorem d_M_mayTake_55 : decode c_M_mayTake 55 = .ok (.iload_n 1, 1) := by decide +kernel
theorem d_M_mayTake_56 : decode c_M_mayTake 56 = .ok (.invokestatic 67, 3) := by decide +kernel
theorem d_M_mayTake_59 : decode c_M_mayTake 59 = .ok (.ifCond .le 7, 3) := by decide +kernel
theorem d_M_mayTake_62 : decode c_M_mayTake 62 = .ok (.iconst 1, 1) := by decide +kernel
theorem d_M_mayTake_63 : decode c_M_mayTake 63 = .ok (.goto 4, 3) := by decide +kernel
theorem d_M_mayTake_66 : decode c_M_mayTake 66 = .ok (.iconst 0, 1) := by decide +kernel
theorem d_M_mayTake_67 : decode c_M_mayTake 67 = .ok (.istore_n 3, 1) := by decide +kernel
theorem d_M_mayTake_68 : decode c_M_mayTake 68 = .ok (.iload 4, 2) := by decide +kernel
theorem d_M_mayTake_70 : decode c_M_mayTake 70 = .ok (.ifCond .ne 19, 3) := by decide +kernel
theorem d_M_mayTake_73 : decode c_M_mayTake 73 = .ok (.aload_n 0, 1) := by decide +kernel
theorem d_M_mayTake_74 : decode c_M_mayTake 74 = .ok (.getfield 19, 3) := by decide +kernel
theorem d_M_mayTake_77 : decode c_M_mayTake 77 = .ok (.iload 5, 2) := by decide +kernel
theorem d_M_mayTake_79 : decode c_M_mayTake 79 = .ok (.iaload, 1) := by decide +kernel
theorem d_M_mayTake_80 : decode c_M_mayTake 80 = .ok (.iload_n 1, 1) := by decide +kernel
theorem d_M_mayTake_81 : decode c_M_mayTake 81 = .ok (.iload_n 1, 1) := by decide +kernel
theorem d_M_mayTake_82 : decode c_M_mayTake 82 = .ok (.invokestatic 67, 3) := by decide +kernel
theorem d_M_mayTake_85 : decode c_M_mayTake 85 = .ok (.iconst 2, 1) := by decide +kernel
theorem d_M_mayTake_86 : decode c_M_mayTake 86 = .ok (.if_icmp .ne 7, 3) := by decide +kernel
theorem d_M_mayTake_89 : decode c_M_mayTake 89 = .ok (.iconst 1, 1) := by decide +kernel
theorem d_M_mayTake_90 : decode c_M_mayTake 90 = .ok (.goto 4, 3) := by decide +kernel
theorem d_M_mayTake_93 : decode c_M_mayTake 93 = .ok (.iconst 0, 1) := by decide +kernel
theorem d_M_mayTake_94 : decode c_M_mayTake 94 = .ok (.istore 4, 2) := by decide +kernel
theorem d_M_mayTake_96 : decode c_M_mayTake 96 = .ok (.iinc 5 1, 3) := by decide +kernel
theorem d_M_mayTake_99 : decode c_M_mayTake 99 = .ok (.goto (-78), 3) := by decide +kernel
theorem d_M_mayTake_102 : decode c_M_mayTake 102 = .ok (.iload_n 3, 1) := by decide +kernel
theorem d_M_mayTake_103 : decode c_M_mayTake 103 = .ok (.ifCond .eq 12, 3) := by decide +kernel
theorem d_M_mayTake_106 : decode c_M_mayTake 106 = .ok (.iload 4, 2) := by decide +kernel
theorem d_M_mayTake_108 : decode c_M_mayTake 108 = .ok (.ifCond .eq 7, 3) := by decide +kernel
theorem d_M_mayTake_111 : decode c_M_mayTake 111 = .ok (.iconst 1, 1) := by decide +kernel
theorem d_M_mayTake_112 : decode c_M_mayTake 112 = .ok (.goto 4, 3) := by decide +kernel
theorem d_M_mayTake_115 : decode c_M_mayTake 115 = .ok (.iconst 0, 1) := by decide +kernel
theorem d_M_mayTake_116 : decode c_M_mayTake 116 = .ok (.ireturn, 1) := by decide +kernel
theorem d_M_reached_0 : decode c_M_reached 0 = .ok (.aload_n 0, 1) := by decide +kernel
theorem d_M_reached_1 : decode c_M_reached 1 = .ok (.iconst 0, 1) := by decide +kernel
theorem d_M_reached_2 : decode c_M_reached 2 = .ok (.putfield 53, 3) := by decide +kernel
theorem d_M_reached_5 : decode c_M_reached 5 = .ok (.aload_n 0, 1) := by decide +kernel
theorem d_M_reached_6 : decode c_M_reached 6 = .ok (.iload_n 1, 1) := by decide +kernel
theorem d_M_reached_7 : decode c_M_reached 7 = .ok (.invokevirtual 60, 3) := by decide +kernel
theorem d_M_reached_10 : decode c_M_reached 10 = .ok (.ifCond .eq 11, 3) := by decide +kernel
theorem d_M_reached_13 : decode c_M_reached 13 = .ok (.aload_n 0, 1) := by decide +kernel
theorem d_M_reached_14 : decode c_M_reached 14 = .ok (.iload_n 1, 1) := by decide +kernel
theorem d_M_reached_15 : decode c_M_reached 15 = .ok (.invokevirtual 102, 3) := by decide +kernel
theorem d_M_reached_18 : decode c_M_reached 18 = .ok (.goto 4, 3) := by decide +kernel
theorem d_M_reached_21 : decode c_M_reached 21 = .ok (.iconst (-1), 1) := by decide +kernel
theorem d_M_reached_22 : decode c_M_reached 22 = .ok (.ireturn, 1) := by decide +kernel
theorem d_M_product_0 : decode c_M_product 0 = .ok (.aload_n 0, 1) := by decide +kernel
theorem d_M_product_1 : decode c_M_product 1 = .ok (.iconst 0, 1) := by decide +kernel
theorem d_M_product_2 : decode c_M_product 2 = .ok (.putfield 53, 3) := by decide +kernel
theorem d_M_product_5 : decode c_M_product 5 = .ok (.iload_n 3, 1) := by decide +kernel
theorem d_M_product_6 : decode c_M_product 6 = .ok (.iconst 1, 1) := by decide +kernel
theorem d_M_product_7 : decode c_M_product 7 = .ok (.if_icmp .lt 9, 3) := by decide +kernel
theorem d_M_product_10 : decode c_M_product 10 = .ok (.iload_n 3, 1) := by decide +kernel
theorem d_M_product_11 : decode c_M_product 11 = .ok (.bipush 12, 2) := by decide +kernel
theorem d_M_product_13 : decode c_M_product 13 = .ok (.if_icmp .le 6, 3) := by decide +kernel
theorem d_M_product_16 : decode c_M_product 16 = .ok (.bipush (-2), 2) := by decide +kernel
theorem d_M_product_18 : decode c_M_product 18 = .ok (.ireturn, 1) := by decide +kernel
theorem d_M_product_19 : decode c_M_product 19 = .ok (.iconst 0, 1) := by decide +kernel
theorem d_M_product_20 : decode c_M_product 20 = .ok (.istore 4, 2) := by decide +kernel
theorem d_M_product_22 : decode c_M_product 22 = .ok (.iconst (-1), 1) := by decide +kernel
theorem d_M_product_23 : decode c_M_product 23 = .ok (.istore 5, 2) := by decide +kernel
theorem d_M_product_25 : decode c_M_product 25 = .ok (.iconst 0, 1) := by decide +kernel
theorem d_M_product_26 : decode c_M_product 26 = .ok (.istore 6, 2) := by decide +kernel
theorem d_M_product_28 : decode c_M_product 28 = .ok (.iload 6, 2) := by decide +kernel
theorem d_M_product_30 : decode c_M_product 30 = .ok (.iload_n 3, 1) := by decide +kernel
theorem d_M_product_31 : decode c_M_product 31 = .ok (.if_icmp .ge 89, 3) := by decide +kernel
theorem d_M_product_34 : decode c_M_product 34 = .ok (.lload_n 1, 1) := by decide +kernel
theorem d_M_product_35 : decode c_M_product 35 = .ok (.iconst 5, 1) := by decide +kernel
theorem d_M_product_36 : decode c_M_product 36 = .ok (.iload 6, 2) := by decide +kernel
theorem d_M_product_38 : decode c_M_product 38 = .ok (.imul, 1) := by decide +kernel
theorem d_M_product_39 : decode c_M_product 39 = .ok (.lshr, 1) := by decide +kernel
theorem d_M_product_40 : decode c_M_product 40 = .ok (.ldc2_w 112, 3) := by decide +kernel
theorem d_M_product_43 : decode c_M_product 43 = .ok (.land, 1) := by decide +kernel
theorem d_M_product_44 : decode c_M_product 44 = .ok (.l2i, 1) := by decide +kernel
theorem d_M_product_45 : decode c_M_product 45 = .ok (.istore 7, 2) := by decide +kernel
theorem d_M_product_47 : decode c_M_product 47 = .ok (.iload 7, 2) := by decide +kernel
theorem d_M_product_49 : decode c_M_product 49 = .ok (.aload_n 0, 1) := by decide +kernel
theorem d_M_product_50 : decode c_M_product 50 = .ok (.getfield 64, 3) := by decide +kernel
theorem d_M_product_53 : decode c_M_product 53 = .ok (.if_icmp .ge 20, 3) := by decide +kernel
theorem d_M_product_56 : decode c_M_product 56 = .ok (.iload 6, 2) := by decide +kernel
theorem d_M_product_58 : decode c_M_product 58 = .ok (.ifCond .le 18, 3) := by decide +kernel
theorem d_M_product_61 : decode c_M_product 61 = .ok (.aload_n 0, 1) := by decide +kernel
theorem d_M_product_62 : decode c_M_product 62 = .ok (.getfield 13, 3) := by decide +kernel
theorem d_M_product_65 : decode c_M_product 65 = .ok (.iload 7, 2) := by decide +kernel
theorem d_M_product_67 : decode c_M_product 67 = .ok (.iaload, 1) := by decide +kernel
theorem d_M_product_68 : decode c_M_product 68 = .ok (.iload 5, 2) := by decide +kernel
theorem d_M_product_70 : decode c_M_product 70 = .ok (.if_icmp .eq 6, 3) := by decide +kernel
theorem d_M_product_73 : decode c_M_product 73 = .ok (.bipush (-2), 2) := by decide +kernel
theorem d_M_product_75 : decode c_M_product 75 = .ok (.ireturn, 1) := by decide +kernel
theorem d_M_product_76 : decode c_M_product 76 = .ok (.iload 6, 2) := by decide +kernel
theorem d_M_product_78 : decode c_M_product 78 = .ok (.ifCond .ne 13, 3) := by decide +kernel
theorem d_M_product_81 : decode c_M_product 81 = .ok (.aload_n 0, 1) := by decide +kernel
theorem d_M_product_82 : decode c_M_product 82 = .ok (.getfield 19, 3) := by decide +kernel
theorem d_M_product_85 : decode c_M_product 85 = .ok (.iload 7, 2) := by decide +kernel
theorem d_M_product_87 : decode c_M_product 87 = .ok (.iaload, 1) := by decide +kernel
theorem d_M_product_88 : decode c_M_product 88 = .ok (.goto 15, 3) := by decide +kernel
theorem d_M_product_91 : decode c_M_product 91 = .ok (.iload 4, 2) := by decide +kernel
theorem d_M_product_93 : decode c_M_product 93 = .ok (.aload_n 0, 1) := by decide +kernel
theorem d_M_product_94 : decode c_M_product 94 = .ok (.getfield 19, 3) := by decide +kernel
theorem d_M_product_97 : decode c_M_product 97 = .ok (.iload 7, 2) := by decide +kernel
theorem d_M_product_99 : decode c_M_product 99 = .ok (.iaload, 1) := by decide +kernel
theorem d_M_product_100 : decode c_M_product 100 = .ok (.invokestatic 78, 3) := by decide +kernel
theorem d_M_product_103 : decode c_M_product 103 = .ok (.istore 4, 2) := by decide +kernel
theorem d_M_product_105 : decode c_M_product 105 = .ok (.aload_n 0, 1) := by decide +kernel
theorem d_M_product_106 : decode c_M_product 106 = .ok (.getfield 16, 3) := by decide +kernel
theorem d_M_product_109 : decode c_M_product 109 = .ok (.iload 7, 2) := by decide +kernel
theorem d_M_product_111 : decode c_M_product 111 = .ok (.iaload, 1) := by decide +kernel
theorem d_M_product_112 : decode c_M_product 112 = .ok (.istore 5, 2) := by decide +kernel
theorem d_M_product_114 : decode c_M_product 114 = .ok (.iinc 6 1, 3) := by decide +kernel
theorem d_M_product_117 : decode c_M_product 117 = .ok (.goto (-89), 3) := by decide +kernel
theorem d_M_product_120 : decode c_M_product 120 = .ok (.iload 4, 2) := by decide +kernel
theorem d_M_product_122 : decode c_M_product 122 = .ok (.ireturn, 1) := by decide +kernel
theorem d_M_about_0 : decode c_M_about 0 = .ok (.aload_n 0, 1) := by decide +kernel
theorem d_M_about_1 : decode c_M_about 1 = .ok (.iconst 0, 1) := by decide +kernel
theorem d_M_about_2 : decode c_M_about 2 = .ok (.putfield 53, 3) := by decide +kernel
theorem d_M_about_5 : decode c_M_about 5 = .ok (.iload_n 1, 1) := by decide +kernel
theorem d_M_about_6 : decode c_M_about 6 = .ok (.ifCond .ne 10, 3) := by decide +kernel
theorem d_M_about_9 : decode c_M_about 9 = .ok (.aload_n 0, 1) := by decide +kernel
theorem d_M_about_10 : decode c_M_about 10 = .ok (.getfield 57, 3) := by decide +kernel
theorem d_M_about_13 : decode c_M_about 13 = .ok (.goto 16, 3) := by decide +kernel
theorem d_M_about_16 : decode c_M_about 16 = .ok (.iload_n 1, 1) := by decide +kernel
theorem d_M_about_17 : decode c_M_about 17 = .ok (.iconst 1, 1) := by decide +kernel
theorem d_M_about_18 : decode c_M_about 18 = .ok (.if_icmp .ne 10, 3) := by decide +kernel
theorem d_M_about_21 : decode c_M_about 21 = .ok (.aload_n 0, 1) := by decide +kernel
theorem d_M_about_22 : decode c_M_about 22 = .ok (.getfield 64, 3) := by decide +kernel
theorem d_M_about_25 : decode c_M_about 25 = .ok (.goto 4, 3) := by decide +kernel
theorem d_M_about_28 : decode c_M_about 28 = .ok (.iconst (-1), 1) := by decide +kernel
theorem d_M_about_29 : decode c_M_about 29 = .ok (.ireturn, 1) := by decide +kernel
end
section
/-! PURE: rows of calls and the search for their graphs. An entry: first, last, bits, the entry ahead, by which call. -/
abbrev En : Type := Nat × Nat × Int32 × Option Nat × Nat
abbrev Ky : Type := Nat × Nat × Int32
def kyE (e : En) : Ky := (e.1, e.2.1, e.2.2.1)
def addE (es : List En) (e : En) : List En := if kyE e ∈ es.map kyE then es else es ++ [e]
theorem pg_le {α : Type} [DecidableEq α] (l1 l2 : List α) (hn : l1.Nodup) (hs : ∀ x ∈ l1, x ∈ l2) : l1.length ≤ l2.length := List.Nodup.length_le_of_subset hn hs
theorem pg_eq {α : Type} [DecidableEq α] {l1 l2 : List α} (h1 : l1.Nodup) (h2 : l2.Nodup) (h : ∀ x, x ∈ l1 ↔ x ∈ l2) : l1.length = l2.length :=
  Nat.le_antisymm (pg_le l1 l2 h1 (fun x hx => (h x).mp hx)) (pg_le l2 l1 h2 (fun x hx => (h x).mpr hx))
theorem pg_cnt {α : Type} [DecidableEq α] {l1 l2 : List α} (h1 : l1.Nodup) (h2 : l2.Nodup) (h : ∀ x, x ∈ l1 ↔ x ∈ l2) (p : α → Bool) : l1.countP p = l2.countP p := by
  rw [List.countP_eq_length_filter, List.countP_eq_length_filter]
  exact pg_eq (List.Nodup.sublist List.filter_sublist h1) (List.Nodup.sublist List.filter_sublist h2) (fun x => by simp only [List.mem_filter, h x])
theorem addE_ext (es : List En) (e : En) : ∃ t, addE es e = es ++ t := by
  unfold addE
  split
  · exact ⟨[], (List.append_nil _).symm⟩
  · exact ⟨[e], rfl⟩
theorem addE_mem {es : List En} {e x : En} (h : x ∈ addE es e) : x ∈ es ∨ x = e := by
  unfold addE at h
  split at h
  · exact Or.inl h
  · rcases List.mem_append.mp h with h | h
    · exact Or.inl h
    · exact Or.inr (List.mem_singleton.mp h)
theorem addE_in (es : List En) (e : En) : kyE e ∈ (addE es e).map kyE := by
  unfold addE
  split
  · assumption
  · rw [List.map_append]; exact List.mem_append_right _ List.mem_cons_self
theorem addE_nd {es : List En} {e : En} (h : (es.map kyE).Nodup) : ((addE es e).map kyE).Nodup := by
  unfold addE
  split
  · exact h
  · rename_i hne
    rw [List.map_append, List.nodup_append]
    refine ⟨h, List.nodup_cons.mpr ⟨List.not_mem_nil, List.nodup_nil⟩, ?_⟩
    intro a ha b hb hab
    rw [List.map_cons, List.map_nil, List.mem_singleton] at hb
    exact hne (hb ▸ hab ▸ ha)
theorem ext_trans {α : Type} {a b c : List α} (h1 : ∃ t, b = a ++ t) (h2 : ∃ t, c = b ++ t) : ∃ t, c = a ++ t := by
  obtain ⟨t, rfl⟩ := h1
  obtain ⟨u, rfl⟩ := h2
  exact ⟨t ++ u, List.append_assoc ..⟩
theorem ext_at {α : Type} {a b : List α} (h : ∃ t, b = a ++ t) {k : Nat} {x : α} (hk : a[k]? = some x) : b[k]? = some x := by
  obtain ⟨t, rfl⟩ := h
  rw [List.getElem?_append_left (by have := (List.getElem?_eq_some_iff.mp hk).1; exact this)]
  exact hk
theorem ext_mem {α : Type} {a b : List α} (h : ∃ t, b = a ++ t) {x : α} (hx : x ∈ a) : x ∈ b := by
  obtain ⟨t, rfl⟩ := h
  exact List.mem_append_left _ hx
theorem ext_len {α : Type} {a b : List α} (h : ∃ t, b = a ++ t) : a.length ≤ b.length := by
  obtain ⟨t, rfl⟩ := h
  rw [List.length_append]; omega
theorem ext_map {α β : Type} {a b : List α} (f : α → β) (h : ∃ t, b = a ++ t) : ∃ t, b.map f = a.map f ++ t := by
  obtain ⟨t, rfl⟩ := h
  exact ⟨t.map f, List.map_append ..⟩
section PB
variable (nC : Nat) (cf ct : Nat → Nat) (ck : Nat → Int32) (J : Int32 → Int32 → Int32) (ok : Nat → Bool)
/-- the search's start: the first calls, in their order -/
def bs0 : Nat → List En
  | 0 => []
  | c + 1 => if ok (cf c) = true then addE (bs0 c) (cf c, ct c, ck c, none, c) else bs0 c
/-- entry k, e, goes on by each of the first calls -/
def bsI (k : Nat) (e : En) (es : List En) : Nat → List En
  | 0 => es
  | c + 1 => if cf c = e.2.1 then addE (bsI k e es c) (e.1, ct c, J e.2.2.1 (ck c), some k, c) else bsI k e es c
/-- k entries have gone on -/
def bsG : Nat → List En
  | 0 => bs0 cf ct ck ok nC
  | k + 1 => match (bsG k)[k]? with
    | none => bsG k
    | some e => bsI cf ct ck J k e (bsG k) nC
/-- rows of n + 1 calls -/
def rwN : Nat → Nat → Nat → Int32 → Prop
  | 0, f, g, b => ∃ c, c < nC ∧ cf c = f ∧ ct c = g ∧ ck c = b
  | n + 1, f, g, b => ∃ g' b' c, rwN n f g' b' ∧ c < nC ∧ cf c = g' ∧ ct c = g ∧ J b' (ck c) = b
def Rch (f g : Nat) (b : Int32) : Prop := ∃ n, rwN nC cf ct ck J n f g b
theorem bs0_ext (c : Nat) : ∃ t, bs0 cf ct ck ok (c + 1) = bs0 cf ct ck ok c ++ t := by
  rw [bs0]
  split
  · exact addE_ext _ _
  · exact ⟨[], (List.append_nil _).symm⟩
theorem bsI_ext1 (k : Nat) (e : En) (es : List En) (c : Nat) : ∃ t, bsI cf ct ck J k e es (c + 1) = bsI cf ct ck J k e es c ++ t := by
  rw [bsI]
  split
  · exact addE_ext _ _
  · exact ⟨[], (List.append_nil _).symm⟩
theorem bsI_ext (k : Nat) (e : En) (es : List En) : ∀ c, ∃ t, bsI cf ct ck J k e es c = es ++ t
  | 0 => ⟨[], (List.append_nil _).symm⟩
  | c + 1 => ext_trans (bsI_ext k e es c) (bsI_ext1 cf ct ck J k e es c)
theorem bsI_extL (k : Nat) (e : En) (es : List En) {c : Nat} : ∀ {d}, c ≤ d → ∃ t, bsI cf ct ck J k e es d = bsI cf ct ck J k e es c ++ t := by
  intro d h
  induction d with
  | zero => obtain rfl : c = 0 := by omega
            exact ⟨[], (List.append_nil _).symm⟩
  | succ d ih =>
    rcases Nat.lt_or_ge d c with h1 | h1
    · obtain rfl : c = d + 1 := by omega
      exact ⟨[], (List.append_nil _).symm⟩
    · exact ext_trans (ih h1) (bsI_ext1 cf ct ck J k e es d)
theorem bsG_ext1 (k : Nat) : ∃ t, bsG nC cf ct ck J ok (k + 1) = bsG nC cf ct ck J ok k ++ t := by
  rw [bsG]
  split
  · exact ⟨[], (List.append_nil _).symm⟩
  · exact bsI_ext cf ct ck J _ _ _ _
theorem bsG_ext {k : Nat} : ∀ {d}, k ≤ d → ∃ t, bsG nC cf ct ck J ok d = bsG nC cf ct ck J ok k ++ t := by
  intro d h
  induction d with
  | zero => obtain rfl : k = 0 := by omega
            exact ⟨[], (List.append_nil _).symm⟩
  | succ d ih =>
    rcases Nat.lt_or_ge d k with h1 | h1
    · obtain rfl : k = d + 1 := by omega
      exact ⟨[], (List.append_nil _).symm⟩
    · exact ext_trans (ih h1) (bsG_ext1 nC cf ct ck J ok d)
theorem bs0_nd : ∀ c, ((bs0 cf ct ck ok c).map kyE).Nodup
  | 0 => List.nodup_nil
  | c + 1 => by
    rw [bs0]
    split
    · exact addE_nd (bs0_nd c)
    · exact bs0_nd c
theorem bsI_nd (k : Nat) (e : En) {es : List En} (h : (es.map kyE).Nodup) : ∀ c, ((bsI cf ct ck J k e es c).map kyE).Nodup
  | 0 => h
  | c + 1 => by
    rw [bsI]
    split
    · exact addE_nd (bsI_nd k e h c)
    · exact bsI_nd k e h c
theorem bsG_nd : ∀ k, ((bsG nC cf ct ck J ok k).map kyE).Nodup
  | 0 => bs0_nd cf ct ck ok nC
  | k + 1 => by
    rw [bsG]
    split
    · exact bsG_nd k
    · exact bsI_nd cf ct ck J _ _ (bsG_nd k) _
/-- what is found is a row's, from where it may begin -/
def bsOk (e : En) : Prop := ok e.1 = true ∧ Rch nC cf ct ck J e.1 e.2.1 e.2.2.1
theorem bs0_ok : ∀ c, c ≤ nC → ∀ e ∈ bs0 cf ct ck ok c, bsOk nC cf ct ck J ok e
  | 0, _ => fun e h => by cases h
  | c + 1, hc => by
    intro e h
    rw [bs0] at h
    split at h
    · rename_i hok
      rcases addE_mem h with h | rfl
      · exact bs0_ok c (by omega) e h
      · exact ⟨hok, 0, c, hc, rfl, rfl, rfl⟩
    · exact bs0_ok c (by omega) e h
theorem bsI_ok (k : Nat) {e : En} {es : List En} (he : bsOk nC cf ct ck J ok e) (hes : ∀ x ∈ es, bsOk nC cf ct ck J ok x) : ∀ c, c ≤ nC → ∀ x ∈ bsI cf ct ck J k e es c, bsOk nC cf ct ck J ok x
  | 0, _ => hes
  | c + 1, hc => by
    intro x h
    rw [bsI] at h
    split at h
    · rename_i hcf
      rcases addE_mem h with h | rfl
      · exact bsI_ok k he hes c (by omega) x h
      · obtain ⟨h1, n, h2⟩ := he
        exact ⟨h1, n + 1, e.2.1, e.2.2.1, c, h2, hc, hcf, rfl, rfl⟩
    · exact bsI_ok k he hes c (by omega) x h
theorem bsG_ok : ∀ k, ∀ e ∈ bsG nC cf ct ck J ok k, bsOk nC cf ct ck J ok e
  | 0 => bs0_ok nC cf ct ck J ok nC (Nat.le_refl _)
  | k + 1 => by
    rw [bsG]
    split
    · exact bsG_ok k
    · rename_i e he
      exact bsI_ok nC cf ct ck J ok k (bsG_ok k e (List.mem_of_getElem? he)) (bsG_ok k) nC (Nat.le_refl _)
theorem bsI_in (k : Nat) (e : En) (es : List En) {c : Nat} (hcf : cf c = e.2.1) : (e.1, ct c, J e.2.2.1 (ck c)) ∈ (bsI cf ct ck J k e es (c + 1)).map kyE := by
  rw [bsI, if_pos hcf]
  exact addE_in (bsI cf ct ck J k e es c) (e.1, ct c, J e.2.2.1 (ck c), some k, c)
theorem bs0_in {c : Nat} (hok : ok (cf c) = true) : ∀ {d}, c < d → (cf c, ct c, ck c) ∈ (bs0 cf ct ck ok d).map kyE := by
  intro d h
  induction d with
  | zero => omega
  | succ d ih =>
    rcases Nat.lt_or_ge c d with h1 | h1
    · exact ext_mem (ext_map kyE (bs0_ext cf ct ck ok d)) (ih h1)
    · obtain rfl : c = d := by omega
      rw [bs0, if_pos hok]
      exact addE_in (bs0 cf ct ck ok c) (cf c, ct c, ck c, none, c)
/-- entries that have gone on: what comes of them is there -/
theorem bsG_done : ∀ k j, j < k → ∀ e, (bsG nC cf ct ck J ok k)[j]? = some e → ∀ c, c < nC → cf c = e.2.1 → (e.1, ct c, J e.2.2.1 (ck c)) ∈ (bsG nC cf ct ck J ok k).map kyE
  | 0, j, h => absurd h (Nat.not_lt_zero _)
  | k + 1, j, h => by
    intro e he c hc hcf
    by_cases hjl : j < (bsG nC cf ct ck J ok k).length
    · obtain ⟨e0, he0⟩ : ∃ e0, (bsG nC cf ct ck J ok k)[j]? = some e0 := ⟨_, List.getElem?_eq_getElem hjl⟩
      have := ext_at (bsG_ext1 nC cf ct ck J ok k) he0
      rw [this] at he
      cases he
      rcases Nat.lt_or_ge j k with h1 | h1
      · exact ext_mem (ext_map kyE (bsG_ext1 nC cf ct ck J ok k)) (bsG_done k j h1 e he0 c hc hcf)
      · obtain rfl : j = k := by omega
        have h2 : bsG nC cf ct ck J ok (j + 1) = bsI cf ct ck J j e (bsG nC cf ct ck J ok j) nC := by rw [bsG, he0]
        rw [h2]
        exact ext_mem (ext_map kyE (bsI_extL cf ct ck J j e (bsG nC cf ct ck J ok j) (show c + 1 ≤ nC from hc))) (bsI_in cf ct ck J j e (bsG nC cf ct ck J ok j) hcf)
    · have h3 : (bsG nC cf ct ck J ok k)[k]? = none := List.getElem?_eq_none (by omega)
      have h2 : bsG nC cf ct ck J ok (k + 1) = bsG nC cf ct ck J ok k := by rw [bsG, h3]
      rw [h2, List.getElem?_eq_none (by omega)] at he
      cases he
/-- all have gone on: every row's graph is there -/
theorem bsG_all {k : Nat} (hk : (bsG nC cf ct ck J ok k).length ≤ k) {f : Nat} (hf : ok f = true) : ∀ n g b, rwN nC cf ct ck J n f g b → (f, g, b) ∈ (bsG nC cf ct ck J ok k).map kyE
  | 0, g, b, h => by
    obtain ⟨c, hc, rfl, rfl, rfl⟩ := h
    exact ext_mem (ext_map kyE (bsG_ext nC cf ct ck J ok (Nat.zero_le k))) (bs0_in cf ct ck ok hf hc)
  | n + 1, g, b, h => by
    obtain ⟨g', b', c, h1, hc, hcf, rfl, rfl⟩ := h
    obtain ⟨e, he, hke⟩ := List.mem_map.mp (bsG_all hk hf n g' b' h1)
    obtain ⟨j, hj⟩ := List.getElem?_of_mem he
    have hjl := (List.getElem?_eq_some_iff.mp hj).1
    have h4 : e.1 = f ∧ e.2.1 = g' ∧ e.2.2.1 = b' := by
      have := hke; simp only [kyE, Prod.mk.injEq] at this; exact this
    have := bsG_done nC cf ct ck J ok k j (by omega) e hj c hc (by rw [h4.2.1]; exact hcf)
    rw [h4.1, h4.2.2] at this
    exact this
/-- and nothing comes any more -/
theorem bsG_stay {k : Nat} (hk : (bsG nC cf ct ck J ok k).length ≤ k) : ∀ {d}, k ≤ d → bsG nC cf ct ck J ok d = bsG nC cf ct ck J ok k := by
  intro d h
  induction d with
  | zero => obtain rfl : k = 0 := by omega
            rfl
  | succ d ih =>
    rcases Nat.lt_or_ge d k with h1 | h1
    · obtain rfl : k = d + 1 := by omega
      rfl
    · have h2 := ih h1
      rw [bsG, h2, List.getElem?_eq_none (by omega)]
/-- the entry ahead stands ahead -/
theorem bsG_ahead : ∀ k, ∀ (j i : Nat) (e : En), (bsG nC cf ct ck J ok k)[j]? = some e → e.2.2.2.1 = some i → i < j := by
  have hA : ∀ (es : List En) (x : En), (∀ (j i : Nat) (e : En), es[j]? = some e → e.2.2.2.1 = some i → i < j) → (∀ i, x.2.2.2.1 = some i → i < es.length) → ∀ (j i : Nat) (e : En), (addE es x)[j]? = some e → e.2.2.2.1 = some i → i < j := by
    intro es x h1 h2 j i e hj hi
    unfold addE at hj
    split at hj
    · exact h1 j i e hj hi
    · rcases Nat.lt_or_ge j es.length with hl | hl
      · rw [List.getElem?_append_left hl] at hj
        exact h1 j i e hj hi
      · rw [List.getElem?_append_right hl] at hj
        have hjl := (List.getElem?_eq_some_iff.mp hj).1
        simp only [List.length_cons, List.length_nil] at hjl
        have h0 : j - es.length = 0 := by omega
        rw [h0] at hj
        cases hj
        have := h2 i hi
        omega
  have hI : ∀ (k : Nat) (e : En) (es : List En), k < es.length → (∀ (j i : Nat) (e : En), es[j]? = some e → e.2.2.2.1 = some i → i < j) → ∀ c, ∀ (j i : Nat) (x : En), (bsI cf ct ck J k e es c)[j]? = some x → x.2.2.2.1 = some i → i < j := by
    intro k e es hk hes c
    induction c with
    | zero => exact hes
    | succ c ih =>
      rw [bsI]
      split
      · refine hA _ _ ih ?_
        intro i hi
        cases hi
        exact Nat.lt_of_lt_of_le hk (ext_len (bsI_ext cf ct ck J k e es c))
      · exact ih
  have h0 : ∀ c, ∀ (j i : Nat) (e : En), (bs0 cf ct ck ok c)[j]? = some e → e.2.2.2.1 = some i → i < j := by
    intro c
    induction c with
    | zero => intro j i e hj; simp [bs0] at hj
    | succ c ih =>
      rw [bs0]
      split
      · exact hA _ _ ih (fun i hi => by cases hi)
      · exact ih
  intro k
  induction k with
  | zero => exact h0 nC
  | succ k ih =>
    rw [bsG]
    split
    · exact ih
    · rename_i e he
      exact hI k e _ (List.getElem?_eq_some_iff.mp he).1 ih nC
end PB
end
section
/-! PURE: all rows at once, and function by function -/
section PC
variable (nC : Nat) (cf ct : Nat → Nat) (ck : Nat → Int32) (J : Int32 → Int32 → Int32) (K : Nat)
/-- all graphs, found at once; those of rows from f -/
def gA : List En := bsG nC cf ct ck J (fun _ => true) K
def gF (f : Nat) : List En := bsG nC cf ct ck J (fun x => x == f) K
def gN : Nat → Nat
  | 0 => 0
  | f + 1 => gN f + (gF nC cf ct ck J K f).length
def gK : Nat → List Ky
  | 0 => []
  | f + 1 => gK f ++ (gF nC cf ct ck J K f).map kyE
theorem gK_len : ∀ f, (gK nC cf ct ck J K f).length = gN nC cf ct ck J K f
  | 0 => rfl
  | f + 1 => by rw [gK, gN, List.length_append, List.length_map, gK_len f]
theorem gF_first {f : Nat} {e : En} (h : e ∈ gF nC cf ct ck J K f) : e.1 = f := by
  have := (bsG_ok nC cf ct ck J _ _ e h).1
  exact beq_iff_eq.mp this
theorem gK_first : ∀ {n : Nat} {q : Ky}, q ∈ gK nC cf ct ck J K n → q.1 < n
  | 0, q, h => by cases h
  | n + 1, q, h => by
    rw [gK] at h
    rcases List.mem_append.mp h with h | h
    · exact Nat.lt_succ_of_lt (gK_first h)
    · obtain ⟨e, he, rfl⟩ := List.mem_map.mp h
      have := gF_first nC cf ct ck J K he
      show e.1 < n + 1
      omega
theorem gK_nd : ∀ n, (gK nC cf ct ck J K n).Nodup
  | 0 => List.nodup_nil
  | n + 1 => by
    rw [gK, List.nodup_append]
    refine ⟨gK_nd n, bsG_nd nC cf ct ck J _ _, ?_⟩
    intro a ha b hb hab
    obtain ⟨e, he, rfl⟩ := List.mem_map.mp hb
    have h1 := gK_first nC cf ct ck J K ha
    have h2 := gF_first nC cf ct ck J K he
    rw [hab] at h1
    have h3 : (kyE e).1 = e.1 := rfl
    omega
theorem gK_mem : ∀ {n : Nat} {q : Ky}, q ∈ gK nC cf ct ck J K n ↔ ∃ f, f < n ∧ q ∈ (gF nC cf ct ck J K f).map kyE
  | 0, q => by
    constructor
    · intro h; exact absurd h List.not_mem_nil
    · rintro ⟨f, h, -⟩; exact absurd h (Nat.not_lt_zero _)
  | n + 1, q => by
    rw [gK, List.mem_append, gK_mem]
    constructor
    · rintro (⟨f, h1, h2⟩ | h)
      · exact ⟨f, by omega, h2⟩
      · exact ⟨n, by omega, h⟩
    · rintro ⟨f, h1, h2⟩
      rcases Nat.lt_or_ge f n with h | h
      · exact Or.inl ⟨f, h, h2⟩
      · obtain rfl : f = n := by omega
        exact Or.inr h2
theorem gA_all (h : (gA nC cf ct ck J K).length ≤ K) {f g : Nat} {b : Int32} (hr : Rch nC cf ct ck J f g b) : (f, g, b) ∈ (gA nC cf ct ck J K).map kyE := by
  obtain ⟨n, hn⟩ := hr
  exact bsG_all nC cf ct ck J _ h rfl n g b hn
theorem gF_all {f : Nat} (h : (gF nC cf ct ck J K f).length ≤ K) {g : Nat} {b : Int32} (hr : Rch nC cf ct ck J f g b) : (f, g, b) ∈ (gF nC cf ct ck J K f).map kyE := by
  obtain ⟨n, hn⟩ := hr
  exact bsG_all nC cf ct ck J _ h (beq_iff_eq.mpr rfl) n g b hn
theorem rch_of {ok : Nat → Bool} {k : Nat} {q : Ky} (h : q ∈ (bsG nC cf ct ck J ok k).map kyE) : Rch nC cf ct ck J q.1 q.2.1 q.2.2 := by
  obtain ⟨e, he, rfl⟩ := List.mem_map.mp h
  exact (bsG_ok nC cf ct ck J ok k e he).2
theorem rch_first {nF : Nat} (hF : ∀ c, c < nC → cf c < nF) : ∀ {n f g b}, rwN nC cf ct ck J n f g b → f < nF
  | 0, f, g, b, h => by obtain ⟨c, hc, rfl, -, -⟩ := h; exact hF c hc
  | n + 1, f, g, b, h => by obtain ⟨g', b', c, h1, -⟩ := h; exact rch_first hF h1
theorem gN_ge : ∀ {n f : Nat}, f < n → (gF nC cf ct ck J K f).length ≤ gN nC cf ct ck J K n
  | 0, f, h => absurd h (Nat.not_lt_zero _)
  | n + 1, f, h => by
    rw [gN]
    rcases Nat.lt_or_ge f n with h1 | h1
    · have := gN_ge h1; omega
    · obtain rfl : f = n := by omega
      omega
theorem gN_mono {a : Nat} : ∀ {b : Nat}, a ≤ b → gN nC cf ct ck J K a ≤ gN nC cf ct ck J K b := by
  intro b h
  induction b with
  | zero => obtain rfl : a = 0 := by omega
            exact Nat.le_refl _
  | succ b ih =>
    rcases Nat.lt_or_ge b a with h1 | h1
    · obtain rfl : a = b + 1 := by omega
      exact Nat.le_refl _
    · have := ih h1
      rw [gN]; omega
/-- at most 800 in all, counted in either way -/
theorem g_few {nF : Nat} (hK : 801 ≤ K) (hF : ∀ c, c < nC → cf c < nF) : (gA nC cf ct ck J K).length ≤ 800 ↔ gN nC cf ct ck J K nF ≤ 800 := by
  constructor
  · intro h
    rw [← gK_len]
    refine Nat.le_trans (pg_le _ ((gA nC cf ct ck J K).map kyE) (gK_nd nC cf ct ck J K nF) ?_) (by rw [List.length_map]; exact h)
    intro q hq
    obtain ⟨f, -, hq⟩ := (gK_mem nC cf ct ck J K).mp hq
    exact gA_all nC cf ct ck J K (by omega) (rch_of nC cf ct ck J hq)
  · intro h
    rw [← gK_len] at h
    rw [← List.length_map (f := kyE)]
    refine Nat.le_trans (pg_le _ (gK nC cf ct ck J K nF) (bsG_nd nC cf ct ck J _ _) ?_) h
    intro q hq
    have hr := rch_of nC cf ct ck J hq
    have hlt : q.1 < nF := by obtain ⟨n, hn⟩ := hr; exact rch_first nC cf ct ck J hF hn
    rw [gK_len] at h
    have := gN_ge nC cf ct ck J K hlt
    exact (gK_mem nC cf ct ck J K).mpr ⟨q.1, hlt, gF_all nC cf ct ck J K (by omega) hr⟩
/-- with at most 800 the rows from f are the same ones -/
theorem g_same {nF : Nat} (hK : 801 ≤ K) (hF : ∀ c, c < nC → cf c < nF) (h : (gA nC cf ct ck J K).length ≤ 800) {f : Nat} (hf : f < nF) (q : Ky) : q ∈ (gF nC cf ct ck J K f).map kyE ↔ q ∈ (gA nC cf ct ck J K).map kyE ∧ q.1 = f := by
  have hl : (gF nC cf ct ck J K f).length ≤ 800 := Nat.le_trans (gN_ge nC cf ct ck J K hf) ((g_few nC cf ct ck J K hK hF).mp h)
  constructor
  · intro hq
    refine ⟨gA_all nC cf ct ck J K (by omega) (rch_of nC cf ct ck J hq), ?_⟩
    obtain ⟨e, he, rfl⟩ := List.mem_map.mp hq
    exact gF_first nC cf ct ck J K he
  · rintro ⟨hq, rfl⟩
    exact gF_all nC cf ct ck J K (by omega) (rch_of nC cf ct ck J hq)
theorem g_cnt {nF : Nat} (hK : 801 ≤ K) (hF : ∀ c, c < nC → cf c < nF) (h : (gA nC cf ct ck J K).length ≤ 800) {f : Nat} (hf : f < nF) (p : Ky → Bool) : ((gF nC cf ct ck J K f).map kyE).countP p = ((gA nC cf ct ck J K).map kyE).countP (fun q => q.1 == f && p q) := by
  have h1 := pg_cnt (l1 := (gF nC cf ct ck J K f).map kyE) (l2 := ((gA nC cf ct ck J K).map kyE).filter (fun q => q.1 == f)) (bsG_nd nC cf ct ck J _ _) (List.Nodup.sublist List.filter_sublist (bsG_nd nC cf ct ck J _ _)) (fun q => by
    rw [g_same nC cf ct ck J K hK hF h hf, List.mem_filter, beq_iff_eq]) p
  rw [h1, List.countP_filter]
  exact congrArg (fun z => List.countP z _) (funext fun q => Bool.and_comm _ _)
end PC
end
section
/-! PURE: the k-th of different numbers, sorted by moving, or found bit by bit -/
theorem cn_congr {B : List Nat} {p q : Nat → Bool} (h : ∀ z ∈ B, p z = q z) : B.countP p = B.countP q := by
  induction B with
  | nil => rfl
  | cons a t ih =>
    rw [List.countP_cons, List.countP_cons, ih (fun z hz => h z (List.mem_cons_of_mem _ hz)), h a List.mem_cons_self]
theorem cn_add {B : List Nat} {p q r : Nat → Bool} (h : ∀ z ∈ B, (if p z = true then 1 else 0) = (if q z = true then 1 else 0) + (if r z = true then 1 else 0)) : B.countP p = B.countP q + B.countP r := by
  induction B with
  | nil => rfl
  | cons a t ih =>
    rw [List.countP_cons, List.countP_cons, List.countP_cons, ih (fun z hz => h z (List.mem_cons_of_mem _ hz))]
    have := h a List.mem_cons_self
    omega
theorem cn_le {B : List Nat} {p q : Nat → Bool} (h : ∀ z ∈ B, p z = true → q z = true) : B.countP p ≤ B.countP q := by
  induction B with
  | nil => exact Nat.le_refl _
  | cons a t ih =>
    rw [List.countP_cons, List.countP_cons]
    have h1 := ih (fun z hz => h z (List.mem_cons_of_mem _ hz))
    have h2 := h a List.mem_cons_self
    by_cases hp : p a = true
    · rw [if_pos hp, if_pos (h2 hp)]; omega
    · rw [if_neg hp]; omega
theorem cn_lt {B : List Nat} {x y : Nat} (hx : x ∈ B) (h : x < y) : B.countP (fun z => decide (z < x)) < B.countP (fun z => decide (z < y)) := by
  induction B with
  | nil => cases hx
  | cons a t ih =>
    rw [List.countP_cons, List.countP_cons]
    rcases List.mem_cons.mp hx with rfl | hx
    · have h1 := cn_le (B := t) (p := fun z => decide (z < x)) (q := fun z => decide (z < y)) (fun z _ hz => by simp only [decide_eq_true_eq] at hz ⊢; omega)
      rw [if_neg (by simp), if_pos (by simpa using h)]
      omega
    · have h1 := ih hx
      by_cases hp : a < x
      · rw [if_pos (by simpa using hp), if_pos (by simp; omega)]; omega
      · rw [if_neg (by simpa using hp)]; omega
theorem kth_one {B : List Nat} {x y : Nat} (hx : x ∈ B) (hy : y ∈ B) (h : B.countP (fun z => decide (z < x)) = B.countP (fun z => decide (z < y))) : x = y := by
  rcases Nat.lt_trichotomy x y with h1 | h1 | h1
  · have := cn_lt hx h1; omega
  · exact h1
  · have := cn_lt hy h1; omega
theorem srt_cnt : ∀ {S : List Nat} {k x : Nat}, S.Pairwise (· < ·) → S[k]? = some x → S.countP (fun z => decide (z < x)) = k
  | [], k, x, _, h => by simp at h
  | a :: t, 0, x, hp, h => by
    cases h
    have h1 := (List.pairwise_cons.mp hp).1
    rw [List.countP_cons, if_neg (by simp)]
    have : t.countP (fun z => decide (z < a)) = t.countP (fun _ => false) := cn_congr (fun z hz => by have := h1 z hz; simp; omega)
    rw [this]; simp
  | a :: t, k + 1, x, hp, h => by
    have h1 := (List.pairwise_cons.mp hp).1
    have h2 : t[k]? = some x := h
    have h3 := h1 x (List.mem_of_getElem? h2)
    rw [List.countP_cons, if_pos (by simpa using h3), srt_cnt (List.pairwise_cons.mp hp).2 h2]
/-- a new one, moved to its place -/
theorem srt_put {S : List Nat} {p x : Nat} (hS : S.Pairwise (· < ·)) (hp : p ≤ S.length) (hlo : ∀ j z, j < p → S[j]? = some z → z < x) (hhi : ∀ j z, p ≤ j → S[j]? = some z → x < z) : (S.take p ++ x :: S.drop p).Pairwise (· < ·) := by
  rw [List.pairwise_append]
  refine ⟨hS.take, ?_, ?_⟩
  · rw [List.pairwise_cons]
    refine ⟨?_, hS.drop⟩
    intro z hz
    obtain ⟨j, hj⟩ := List.getElem?_of_mem hz
    rw [List.getElem?_drop] at hj
    exact hhi (p + j) z (by omega) hj
  · intro a ha b hb
    obtain ⟨j, hj⟩ := List.getElem?_of_mem ha
    have hjl := (List.getElem?_eq_some_iff.mp hj).1
    rw [List.length_take] at hjl
    have hjp : j < p := by omega
    rw [List.getElem?_take_of_lt hjp] at hj
    have hax := hlo j a hjp hj
    rcases List.mem_cons.mp hb with rfl | hb
    · exact hax
    · obtain ⟨i, hi⟩ := List.getElem?_of_mem hb
      rw [List.getElem?_drop] at hi
      have := hhi (p + i) b (by omega) hi
      omega
theorem mem_put {S : List Nat} {p x y : Nat} : y ∈ S.take p ++ x :: S.drop p ↔ y = x ∨ y ∈ S := by
  have h : y ∈ S ↔ y ∈ S.take p ∨ y ∈ S.drop p := by
    conv => lhs; rw [← List.take_append_drop p S]
    exact List.mem_append
  rw [List.mem_append, List.mem_cons, h]
  constructor
  · rintro (h | h | h)
    · exact Or.inr (Or.inl h)
    · exact Or.inl h
    · exact Or.inr (Or.inr h)
  · rintro (h | h | h)
    · exact Or.inr (Or.inl h)
    · exact Or.inl h
    · exact Or.inr (Or.inr h)
/-- bit by bit, the highest first: b bits are left, F are those found, left of k -/
def selOk (B : List Nat) (k b F left : Nat) : Prop := left + B.countP (fun z => decide (z / 2 ^ b < F)) = k ∧ left < B.countP (fun z => decide (z / 2 ^ b = F))
theorem sel_half (z b : Nat) : z / 2 ^ (b + 1) = z / 2 ^ b / 2 := by
  rw [Nat.pow_succ, Nat.div_div_eq_div_mul]
theorem sel_lt (B : List Nat) (b F : Nat) : B.countP (fun z => decide (z / 2 ^ (b + 1) < F)) = B.countP (fun z => decide (z / 2 ^ b < 2 * F)) :=
  cn_congr (fun z _ => by rw [sel_half]; congr 1; apply propext; omega)
theorem sel_eq (B : List Nat) (b F : Nat) : B.countP (fun z => decide (z / 2 ^ (b + 1) = F)) = B.countP (fun z => decide (z / 2 ^ b = 2 * F)) + B.countP (fun z => decide (z / 2 ^ b = 2 * F + 1)) :=
  cn_add (fun z _ => by
    rw [sel_half]
    simp only [decide_eq_true_eq]
    by_cases h1 : z / 2 ^ b = 2 * F
    · rw [if_pos (by omega), if_pos h1, if_neg (by omega)]
    · by_cases h2 : z / 2 ^ b = 2 * F + 1
      · rw [if_pos (by omega), if_neg h1, if_pos h2]
      · rw [if_neg (by omega), if_neg h1, if_neg h2])
theorem sel_lt1 (B : List Nat) (b F : Nat) : B.countP (fun z => decide (z / 2 ^ b < F + 1)) = B.countP (fun z => decide (z / 2 ^ b < F)) + B.countP (fun z => decide (z / 2 ^ b = F)) :=
  cn_add (fun z _ => by
    simp only [decide_eq_true_eq]
    by_cases h1 : z / 2 ^ b = F
    · rw [if_pos (by omega), if_neg (by omega), if_pos h1]
    · by_cases h2 : z / 2 ^ b < F
      · rw [if_pos (by omega), if_pos h2, if_neg h1]
      · rw [if_neg (by omega), if_neg h2, if_neg h1])
theorem sel_one {B : List Nat} {k b F left : Nat} (h : selOk B k (b + 1) F left) (hw : B.countP (fun z => decide (z / 2 ^ b = 2 * F)) ≤ left) : selOk B k b (2 * F + 1) (left - B.countP (fun z => decide (z / 2 ^ b = 2 * F))) := by
  obtain ⟨h1, h2⟩ := h
  rw [sel_lt] at h1
  rw [sel_eq] at h2
  refine ⟨?_, by omega⟩
  rw [sel_lt1]
  omega
theorem sel_zero {B : List Nat} {k b F left : Nat} (h : selOk B k (b + 1) F left) (hw : left < B.countP (fun z => decide (z / 2 ^ b = 2 * F))) : selOk B k b (2 * F) left := by
  obtain ⟨h1, h2⟩ := h
  rw [sel_lt] at h1
  exact ⟨h1, hw⟩
theorem sel_0 {B : List Nat} {k : Nat} (hB : ∀ z ∈ B, z < 2 ^ 32) (hk : k < B.length) : selOk B k 32 0 k := by
  have h1 : B.countP (fun z => decide (z / 2 ^ 32 < 0)) = B.countP (fun _ => false) := cn_congr (fun z _ => by simp)
  have h2 : B.countP (fun z => decide (z / 2 ^ 32 = 0)) = B.countP (fun _ => true) := cn_congr (fun z hz => by have := hB z hz; rw [Nat.div_eq_of_lt this]; rfl)
  refine ⟨?_, ?_⟩
  · rw [h1]; simp
  · rw [h2]; simpa using hk
theorem cn_one {B : List Nat} (hn : B.Nodup) (x : Nat) : B.countP (fun z => decide (z = x)) ≤ 1 := by
  induction B with
  | nil => exact Nat.zero_le _
  | cons a t ih =>
    have hn2 := List.nodup_cons.mp hn
    rw [List.countP_cons]
    by_cases h : a = x
    · have : t.countP (fun z => decide (z = x)) = t.countP (fun _ => false) := cn_congr (fun z hz => by
        have hne : z ≠ x := fun e => hn2.1 (h.trans e.symm ▸ hz)
        simp [hne])
      rw [this]
      split <;> simp
    · rw [if_neg (by simpa using h)]
      exact ih hn2.2
theorem sel_end {B : List Nat} {k F left : Nat} (hn : B.Nodup) (h : selOk B k 0 F left) : F ∈ B ∧ B.countP (fun z => decide (z < F)) = k := by
  obtain ⟨h1, h2⟩ := h
  simp only [Nat.pow_zero, Nat.div_one] at h1 h2
  have h3 := cn_one hn F
  refine ⟨?_, by omega⟩
  have h4 : 0 < B.countP (fun z => decide (z = F)) := by omega
  obtain ⟨a, ha, hb⟩ := List.countP_pos_iff.mp h4
  have : a = F := by simpa using hb
  exact this ▸ ha
end
section
/-! PURE: what is reached, as bits: passes over the calls until nothing comes -/
section PR
variable (nC : Nat) (cf ct : Nat → Nat) (f : Nat)
/-- a pass over the first calls -/
def rcP (m : Nat) : Nat → Nat
  | 0 => m
  | c + 1 => if cf c = f ∨ (rcP m c).testBit (cf c) = true then rcP m c ||| 2 ^ ct c else rcP m c
/-- passes -/
def rcN : Nat → Nat
  | 0 => 0
  | n + 1 => rcP cf ct f (rcN n) nC
theorem rcP_keep (m : Nat) : ∀ c i, m.testBit i = true → (rcP cf ct f m c).testBit i = true
  | 0, i, h => h
  | c + 1, i, h => by
    rw [rcP]
    split
    · rw [Nat.testBit_or, rcP_keep m c i h]; rfl
    · exact rcP_keep m c i h
theorem rcP_lt {nF : Nat} (hT : ∀ c, c < nC → ct c < nF) {m : Nat} (hm : m < 2 ^ nF) : ∀ c, c ≤ nC → rcP cf ct f m c < 2 ^ nF
  | 0, _ => hm
  | c + 1, h => by
    rw [rcP]
    split
    · exact Nat.or_lt_two_pow (rcP_lt hT hm c (by omega)) (Nat.pow_lt_pow_right (by omega) (hT c (by omega)))
    · exact rcP_lt hT hm c (by omega)
theorem rcN_lt {nF : Nat} (hT : ∀ c, c < nC → ct c < nF) : ∀ n, rcN nC cf ct f n < 2 ^ nF
  | 0 => Nat.two_pow_pos _
  | n + 1 => rcP_lt nC cf ct f hT (rcN_lt hT n) nC (Nat.le_refl _)
/-- how many bits below nF -/
def bitsN (nF m : Nat) : Nat := (List.range nF).countP (fun i => m.testBit i)
theorem bits_more {nF m m' : Nat} (hm : m < 2 ^ nF) (hm' : m' < 2 ^ nF) (h : ∀ i, m.testBit i = true → m'.testBit i = true) (hne : m' ≠ m) : bitsN nF m < bitsN nF m' := by
  unfold bitsN
  obtain ⟨i, hi⟩ : ∃ i, m'.testBit i ≠ m.testBit i := by
    rcases Classical.em (∃ i, m'.testBit i ≠ m.testBit i) with h1 | h1
    · exact h1
    · exact absurd (Nat.eq_of_testBit_eq (fun i => Classical.byContradiction fun h2 => h1 ⟨i, h2⟩)) hne
  have h1 : m.testBit i = false := by
    cases hb : m.testBit i
    · rfl
    · rw [hb, h i hb] at hi; exact absurd rfl hi
  have h2 : m'.testBit i = true := by
    cases hb : m'.testBit i
    · rw [hb, h1] at hi; exact absurd rfl hi
    · rfl
  have hiF : i < nF := by
    rcases Nat.lt_or_ge i nF with h3 | h3
    · exact h3
    · rw [Nat.testBit_lt_two_pow (Nat.lt_of_lt_of_le hm' (Nat.pow_le_pow_right (by omega) h3))] at h2
      cases h2
  have key : ∀ (l : List Nat), i ∈ l → l.countP (fun i => m.testBit i) < l.countP (fun i => m'.testBit i) := by
    intro l
    induction l with
    | nil => intro h; cases h
    | cons a t ih =>
      intro ha
      have hle : t.countP (fun i => m.testBit i) ≤ t.countP (fun i => m'.testBit i) := cn_le (fun z _ hz => h z hz)
      rw [List.countP_cons, List.countP_cons]
      rcases List.mem_cons.mp ha with rfl | ha
      · rw [if_neg (by rw [h1]; decide), if_pos h2]; omega
      · have := ih ha
        by_cases hz : m.testBit a = true
        · rw [if_pos hz, if_pos (h a hz)]; omega
        · rw [if_neg hz]; omega
  exact key _ (List.mem_range.mpr hiF)
theorem bits_le (nF m : Nat) : bitsN nF m ≤ nF := by
  unfold bitsN
  have := List.countP_le_length (p := fun i => m.testBit i) (l := List.range nF)
  rwa [List.length_range] at this
theorem rcN_stay {n : Nat} (h : rcN nC cf ct f (n + 1) = rcN nC cf ct f n) : ∀ {d}, n ≤ d → rcN nC cf ct f d = rcN nC cf ct f n := by
  intro d hd
  induction d with
  | zero => obtain rfl : n = 0 := by omega
            rfl
  | succ d ih =>
    rcases Nat.lt_or_ge d n with h1 | h1
    · obtain rfl : n = d + 1 := by omega
      rfl
    · rw [rcN, ih h1]; exact h
theorem rcN_full {nF : Nat} (hT : ∀ c, c < nC → ct c < nF) : ∀ n, (∃ k, k < n ∧ rcN nC cf ct f (k + 1) = rcN nC cf ct f k) ∨ n ≤ bitsN nF (rcN nC cf ct f n)
  | 0 => Or.inr (Nat.zero_le _)
  | n + 1 => by
    rcases rcN_full hT n with ⟨k, h1, h2⟩ | h
    · exact Or.inl ⟨k, by omega, h2⟩
    · by_cases he : rcN nC cf ct f (n + 1) = rcN nC cf ct f n
      · exact Or.inl ⟨n, by omega, he⟩
      · have := bits_more (nF := nF) (rcN_lt nC cf ct f hT n) (rcN_lt nC cf ct f hT (n + 1)) (fun i hi => by rw [rcN]; exact rcP_keep cf ct f _ nC i hi) he
        exact Or.inr (by omega)
/-- so many passes as there are functions: nothing comes any more -/
theorem rcN_end {nF : Nat} (hT : ∀ c, c < nC → ct c < nF) : rcN nC cf ct f (nF + 1) = rcN nC cf ct f nF := by
  rcases rcN_full nC cf ct f hT nF with ⟨k, h1, h2⟩ | h
  · rw [rcN_stay nC cf ct f h2 (show k ≤ nF + 1 by omega), rcN_stay nC cf ct f h2 (show k ≤ nF by omega)]
  · by_cases he : rcN nC cf ct f (nF + 1) = rcN nC cf ct f nF
    · exact he
    · have h1 := bits_more (nF := nF) (rcN_lt nC cf ct f hT nF) (rcN_lt nC cf ct f hT (nF + 1)) (fun i hi => by rw [rcN]; exact rcP_keep cf ct f _ nC i hi) he
      have := bits_le nF (rcN nC cf ct f (nF + 1))
      omega
/-- a pass behind which nothing has come: that is the end too -/
theorem rcN_same {nF n : Nat} (hT : ∀ c, c < nC → ct c < nF) (h : rcN nC cf ct f (n + 1) = rcN nC cf ct f n) : rcN nC cf ct f n = rcN nC cf ct f nF := by
  rcases Nat.le_total n nF with h1 | h1
  · exact (rcN_stay nC cf ct f h h1).symm
  · exact rcN_stay nC cf ct f (rcN_end nC cf ct f hT) h1
end PR
end
section
/-! PURE: graphs as bits. bt and its rows began as BITS.to-paste. -/
def bt (x : Int32) (i : Nat) : Bool := x.toBitVec.getLsbD i
theorem b_ext {x y : Int32} (h : ∀ i, i < 32 → bt x i = bt y i) : x = y := Int32.toBitVec_inj.mp (BitVec.eq_of_getLsbD_eq (fun i hi => h i hi))
theorem b_or (x y : Int32) (i : Nat) : bt (x ||| y) i = (bt x i || bt y i) := by unfold bt; rw [Int32.toBitVec_or, BitVec.getLsbD_or]
theorem b_and (x y : Int32) (i : Nat) : bt (x &&& y) i = (bt x i && bt y i) := by unfold bt; rw [Int32.toBitVec_and, BitVec.getLsbD_and]
theorem b_xor (x y : Int32) (i : Nat) : bt (x ^^^ y) i = (bt x i ^^ bt y i) := by unfold bt; rw [Int32.toBitVec_xor, BitVec.getLsbD_xor]
theorem b_big {x : Int32} {i : Nat} (h : 32 ≤ i) : bt x i = false := BitVec.getLsbD_of_ge _ _ h
theorem b_0 (i : Nat) : bt 0 i = false := BitVec.getLsbD_zero
theorem s_l : ∀ n, n < 32 → ((nI n &&& 31).toBitVec.smod 32).toNat = n := by decide +kernel
theorem s_u : ∀ n, n < 32 → (((nI n).toUInt32 &&& Int32.toUInt32 31).toBitVec % 32).toNat = n := by decide +kernel
def ush (x : Int32) (n : Nat) : Int32 := (x.toUInt32 >>> ((nI n).toUInt32 &&& Int32.toUInt32 31)).toInt32
def shl (x : Int32) (n : Nat) : Int32 := x <<< (nI n &&& 31)
theorem b_shl {n : Nat} (hn : n < 32) (x : Int32) {i : Nat} (hi : i < 32) : bt (shl x n) i = (decide (n ≤ i) && bt x (i - n)) := by
  unfold bt shl
  rw [Int32.toBitVec_shiftLeft]
  show (x.toBitVec <<< ((nI n &&& 31).toBitVec.smod 32).toNat).getLsbD i = _
  rw [s_l n hn, BitVec.getLsbD_shiftLeft]
  rcases Nat.lt_or_ge i n with h | h
  · simp [h, Nat.not_le.mpr h]
  · simp [hi, h, Nat.not_lt.mpr h]
theorem b_ush {n : Nat} (hn : n < 32) (x : Int32) (i : Nat) : bt (ush x n) i = bt x (n + i) := by
  show (x.toUInt32 >>> ((nI n).toUInt32 &&& Int32.toUInt32 31)).toBitVec.getLsbD i = x.toUInt32.toBitVec.getLsbD (n + i)
  rw [UInt32.toBitVec_shiftRight]
  show (x.toUInt32.toBitVec >>> (((nI n).toUInt32 &&& Int32.toUInt32 31).toBitVec % 32).toNat).getLsbD i = _
  rw [s_u n hn, BitVec.getLsbD_ushiftRight]
theorem b_m1 : ∀ i, i < 32 → bt (-1) i = true := by decide +kernel
theorem b_55 : ∀ i, i < 32 → bt 0x55555555 i = decide (i % 2 = 0) := by decide +kernel
theorem b_01 : ∀ i, i < 32 → bt 0x01010101 i = decide (i % 8 = 0) := by decide +kernel
theorem b_255 : ∀ i, i < 32 → bt 255 i = decide (i < 8) := by decide +kernel
theorem b_3 : ∀ i, i < 32 → bt 3 i = decide (i < 2) := by decide +kernel
/-! threes as twos -/
def t3 (x : Int32) : Int32 := x &&& ((ush x 1 &&& 0x55555555) ^^^ (-1))
theorem t3_lo (x : Int32) {p : Nat} (hp : p < 16) : bt (t3 x) (2 * p) = (bt x (2 * p) && !bt x (2 * p + 1)) := by
  unfold t3
  rw [b_and, b_xor, b_and, b_ush (by omega), b_55 _ (by omega), b_m1 _ (by omega), decide_eq_true (by omega), Nat.add_comm 1 (2 * p)]
  simp
theorem t3_hi (x : Int32) {p : Nat} (hp : p < 16) : bt (t3 x) (2 * p + 1) = bt x (2 * p + 1) := by
  unfold t3
  rw [b_and, b_xor, b_and, b_ush (by omega), b_55 _ (by omega), b_m1 _ (by omega), decide_eq_false (by omega)]
  simp
/-- no threes -/
def clN (x : Int32) : Prop := ∀ p, p < 16 → (bt x (2 * p) && bt x (2 * p + 1)) = false
theorem t3_cl (x : Int32) : clN (t3 x) := by
  intro p hp
  rw [t3_lo x hp, t3_hi x hp]
  cases bt x (2 * p) <;> cases bt x (2 * p + 1) <;> rfl
/-! a mask of lowest bits of bytes, times a byte -/
theorem by_bit {c0 c1 c2 c3 : Nat} (h0 : c0 < 2 ^ 8) (h1 : c1 < 2 ^ 8) (h2 : c2 < 2 ^ 8) (n : Nat) : (2 ^ 8 * (2 ^ 8 * (2 ^ 8 * c3 + c2) + c1) + c0).testBit n = if n < 8 then c0.testBit n else if n < 16 then c1.testBit (n - 8) else if n < 24 then c2.testBit (n - 16) else c3.testBit (n - 24) := by
  rw [Nat.testBit_two_pow_mul_add _ h0]
  by_cases g0 : n < 8
  · rw [if_pos g0, if_pos g0]
  · rw [if_neg g0, if_neg g0, Nat.testBit_two_pow_mul_add _ h1]
    by_cases g1 : n < 16
    · rw [if_pos (by omega), if_pos g1]
    · rw [if_neg (by omega), if_neg g1, Nat.testBit_two_pow_mul_add _ h2]
      by_cases g2 : n < 24
      · rw [if_pos (by omega), if_pos g2, show n - 8 - 8 = n - 16 by omega]
      · rw [if_neg (by omega), if_neg g2, show n - 8 - 8 - 8 = n - 24 by omega]
theorem bool_bit (b : Bool) (t : Nat) : b.toNat.testBit t = (b && decide (t = 0)) := by
  cases b
  · simp
  · cases t with
    | zero => rfl
    | succ t => simp [Nat.testBit_succ]
theorem bool_mul_bit (b : Bool) (r t : Nat) : (b.toNat * r).testBit t = (b && r.testBit t) := by
  cases b <;> simp
theorem bt_nat (x : Int32) (i : Nat) : bt x i = x.toBitVec.toNat.testBit i := rfl
theorem o_nat {o : Int32} (ho : ∀ n, n < 32 → n % 8 ≠ 0 → bt o n = false) : o.toBitVec.toNat = 2 ^ 8 * (2 ^ 8 * (2 ^ 8 * (bt o 24).toNat + (bt o 16).toNat) + (bt o 8).toNat) + (bt o 0).toNat := by
  have hB : ∀ b : Bool, b.toNat < 2 ^ 8 := by decide
  apply Nat.eq_of_testBit_eq
  intro n
  rw [by_bit (hB _) (hB _) (hB _), bool_bit, bool_bit, bool_bit, bool_bit, ← bt_nat]
  by_cases h32 : n < 32
  · by_cases h8 : n % 8 = 0
    · rcases (by omega : n = 0 ∨ n = 8 ∨ n = 16 ∨ n = 24) with rfl | rfl | rfl | rfl <;> simp
    · rw [ho n h32 h8]
      split
      · rw [decide_eq_false (by omega)]; simp
      · split
        · rw [decide_eq_false (by omega)]; simp
        · split
          · rw [decide_eq_false (by omega)]; simp
          · rw [decide_eq_false (by omega)]; simp
  · rw [b_big (by omega), if_neg (by omega), if_neg (by omega), if_neg (by omega), decide_eq_false (by omega)]; simp
theorem b_mul {o r : Int32} (ho : ∀ n, n < 32 → n % 8 ≠ 0 → bt o n = false) (hr : ∀ n, 8 ≤ n → n < 32 → bt r n = false) {i t : Nat} (hi : i < 4) (ht : t < 8) : bt (o * r) (8 * i + t) = (bt o (8 * i) && bt r t) := by
  have hr8 : r.toBitVec.toNat < 2 ^ 8 := by
    apply Nat.lt_pow_two_of_testBit
    intro n hn
    rw [← bt_nat]
    by_cases h : n < 32
    · exact hr n hn h
    · exact b_big (by omega)
  have e := o_nat ho
  rw [bt_nat (o * r), bt_nat r, Int32.toBitVec_mul, BitVec.toNat_mul, e]
  generalize r.toBitVec.toNat = q at hr8 ⊢
  have hc : ∀ b : Bool, b.toNat * q < 2 ^ 8 := by intro b; cases b <;> simp <;> omega
  have e2 : (2 ^ 8 * (2 ^ 8 * (2 ^ 8 * (bt o 24).toNat + (bt o 16).toNat) + (bt o 8).toNat) + (bt o 0).toNat) * q = 2 ^ 8 * (2 ^ 8 * (2 ^ 8 * ((bt o 24).toNat * q) + (bt o 16).toNat * q) + (bt o 8).toNat * q) + (bt o 0).toNat * q := by
    cases bt o 24 <;> cases bt o 16 <;> cases bt o 8 <;> cases bt o 0 <;> simp <;> omega
  rw [e2, Nat.mod_eq_of_lt (by have := hc (bt o 24); have := hc (bt o 16); have := hc (bt o 8); have := hc (bt o 0); omega), by_bit (hc _) (hc _) (hc _)]
  rcases (by omega : i = 0 ∨ i = 1 ∨ i = 2 ∨ i = 3) with rfl | rfl | rfl | rfl
  · rw [if_pos (by omega), bool_mul_bit]; simp
  · rw [if_neg (by omega), if_pos (by omega), bool_mul_bit, show 8 * 1 + t - 8 = t by omega]
  · rw [if_neg (by omega), if_neg (by omega), if_pos (by omega), bool_mul_bit, show 8 * 2 + t - 16 = t by omega]
  · rw [if_neg (by omega), if_neg (by omega), if_neg (by omega), bool_mul_bit, show 8 * 3 + t - 24 = t by omega]
/-! the class's way of joining two graphs: place j between -/
def cjR (b : Int32) (j : Nat) : Int32 := ush b (8 * j) &&& 255
def cjT (b : Int32) (j : Nat) : Int32 := shl ((cjR b j ||| ush (cjR b j) 1) &&& 0x55555555) 1
def cj1 (a b : Int32) (j : Nat) (z : Int32) : Int32 := z ||| ((ush a (2 * j) &&& 0x01010101) * cjR b j ||| (ush a (2 * j + 1) &&& 0x01010101) * cjT b j)
def cjN (a b : Int32) : Nat → Int32
  | 0 => 0
  | j + 1 => cj1 a b j (cjN a b j)
def cj (a b : Int32) : Int32 := t3 (cjN a b 4)
theorem cjR_bt (b : Int32) {j : Nat} (hj : j < 4) {t : Nat} (ht : t < 32) : bt (cjR b j) t = (decide (t < 8) && bt b (8 * j + t)) := by
  unfold cjR
  rw [b_and, b_ush (by omega), b_255 t ht, Bool.and_comm]
theorem cjT_lo (b : Int32) {j : Nat} (hj : j < 4) {k : Nat} (hk : k < 4) : bt (cjT b j) (2 * k) = false := by
  unfold cjT
  rw [b_shl (by omega) _ (by omega), b_and]
  by_cases h : 1 ≤ 2 * k
  · rw [b_55 _ (by omega), decide_eq_false (show ¬ (2 * k - 1) % 2 = 0 by omega)]; simp
  · rw [decide_eq_false h]; rfl
theorem cjT_hi (b : Int32) {j : Nat} (hj : j < 4) {k : Nat} (hk : k < 4) : bt (cjT b j) (2 * k + 1) = (bt b (8 * j + 2 * k) || bt b (8 * j + 2 * k + 1)) := by
  unfold cjT
  rw [b_shl (by omega) _ (by omega), b_and, show 2 * k + 1 - 1 = 2 * k by omega, b_55 _ (by omega), decide_eq_true (show (2 * k) % 2 = 0 by omega), decide_eq_true (show 1 ≤ 2 * k + 1 by omega), b_or, b_ush (by omega), cjR_bt b hj (by omega), cjR_bt b hj (by omega), decide_eq_true (show 2 * k < 8 by omega), decide_eq_true (show 1 + 2 * k < 8 by omega), show 8 * j + (1 + 2 * k) = 8 * j + 2 * k + 1 by omega]
  simp
theorem cjT_big (b : Int32) {j : Nat} (hj : j < 4) {n : Nat} (h8 : 8 ≤ n) (hn : n < 32) : bt (cjT b j) n = false := by
  unfold cjT
  rw [b_shl (by omega) _ hn, b_and, b_or, b_ush (by omega), b_55 _ (by omega), cjR_bt b hj (by omega), cjR_bt b hj (by omega), decide_eq_false (show ¬ 1 + (n - 1) < 8 by omega)]
  by_cases h : n - 1 < 8
  · rw [decide_eq_false (show ¬ (n - 1) % 2 = 0 by omega)]; simp
  · rw [decide_eq_false h]; simp
theorem cjO (a : Int32) {s : Nat} (hs : s < 32) : (∀ n, n < 32 → n % 8 ≠ 0 → bt (ush a s &&& 0x01010101) n = false) ∧ ∀ i, i < 4 → bt (ush a s &&& 0x01010101) (8 * i) = bt a (8 * i + s) := by
  refine ⟨fun n hn h => ?_, fun i hi => ?_⟩
  · rw [b_and, b_01 n hn, decide_eq_false h]; simp
  · rw [b_and, b_01 _ (by omega), decide_eq_true (by omega), b_ush hs, Nat.add_comm]; simp
theorem cj1_lo (a b : Int32) {j : Nat} (hj : j < 4) (z : Int32) {i k : Nat} (hi : i < 4) (hk : k < 4) : bt (cj1 a b j z) (8 * i + 2 * k) = (bt z (8 * i + 2 * k) || (bt a (8 * i + 2 * j) && bt b (8 * j + 2 * k))) := by
  unfold cj1
  rw [b_or, b_or, b_mul (cjO a (by omega)).1 (fun n h8 hn => by rw [cjR_bt b hj hn, decide_eq_false (by omega)]; rfl) hi (show 2 * k < 8 by omega), b_mul (cjO a (by omega)).1 (fun n h8 hn => cjT_big b hj h8 hn) hi (show 2 * k < 8 by omega), (cjO a (by omega)).2 i hi, cjT_lo b hj hk, cjR_bt b hj (by omega), decide_eq_true (show 2 * k < 8 by omega)]
  simp
theorem cj1_hi (a b : Int32) {j : Nat} (hj : j < 4) (z : Int32) {i k : Nat} (hi : i < 4) (hk : k < 4) : bt (cj1 a b j z) (8 * i + 2 * k + 1) = (bt z (8 * i + 2 * k + 1) || ((bt a (8 * i + 2 * j) && bt b (8 * j + 2 * k + 1)) || (bt a (8 * i + 2 * j + 1) && (bt b (8 * j + 2 * k) || bt b (8 * j + 2 * k + 1))))) := by
  unfold cj1
  rw [show 8 * i + 2 * k + 1 = 8 * i + (2 * k + 1) by omega, b_or, b_or, b_mul (cjO a (by omega)).1 (fun n h8 hn => by rw [cjR_bt b hj hn, decide_eq_false (by omega)]; rfl) hi (show 2 * k + 1 < 8 by omega), b_mul (cjO a (by omega)).1 (fun n h8 hn => cjT_big b hj h8 hn) hi (show 2 * k + 1 < 8 by omega), (cjO a (by omega)).2 i hi, (cjO a (by omega)).2 i hi, cjT_hi b hj hk, cjR_bt b hj (by omega), decide_eq_true (show 2 * k + 1 < 8 by omega)]
  simp [Nat.add_assoc]
/-! the reference's way -/
def atN (x : Int32) (i j : Nat) : Nat := (bt x (8 * i + 2 * j)).toNat + 2 * (bt x (8 * i + 2 * j + 1)).toNat
theorem at_nI (x : Int32) {i j : Nat} (hi : i < 4) (hj : j < 4) : ush x (8 * i + 2 * j) &&& 3 = nI (atN x i j) := by
  have h : ∀ (b0 b1 : Bool) (n : Nat), n < 32 → bt (nI (b0.toNat + 2 * b1.toNat)) n = (if n = 0 then b0 else if n = 1 then b1 else false) := by decide +kernel
  apply b_ext
  intro n hn
  unfold atN
  rw [h _ _ n hn, b_and, b_3 n hn, b_ush (by omega)]
  by_cases h0 : n = 0
  · subst h0; simp
  · by_cases h1 : n = 1
    · subst h1; simp
    · rw [if_neg h0, if_neg h1, decide_eq_false (by omega)]; simp
theorem atN_lt (x : Int32) (i j : Nat) : atN x i j < 4 := by
  unfold atN
  cases bt x (8 * i + 2 * j) <;> cases bt x (8 * i + 2 * j + 1) <;> decide
theorem atN_cl {x : Int32} (h : clN x) {i j : Nat} (hi : i < 4) (hj : j < 4) : atN x i j < 3 := by
  unfold atN
  have := h (4 * i + j) (by omega)
  rw [show 2 * (4 * i + j) = 8 * i + 2 * j by omega] at this
  revert this
  cases bt x (8 * i + 2 * j) <;> cases bt x (8 * i + 2 * j + 1) <;> decide
def mxN (x y : Nat) : Nat := if x = 0 ∨ y = 0 then 0 else if y < x then x else y
def moN (a b : Int32) (i k : Nat) : Nat → Nat
  | 0 => 0
  | j + 1 => if moN a b i k j < mxN (atN a i j) (atN b j k) then mxN (atN a i j) (atN b j k) else moN a b i k j
/-- values of two bits, packed: row i, then rows -/
def pkK (v : Nat → Nat) (i : Nat) (z : Int32) : Nat → Int32
  | 0 => z
  | k + 1 => pkK v i z k ||| shl (nI (v k)) (8 * i + 2 * k)
def pkI (v : Nat → Nat → Nat) (q : Nat) : Nat → Int32
  | 0 => 0
  | i + 1 => pkK (v i) i (pkI v q i) q
def rj (a b : Int32) : Int32 := pkI (fun i k => moN a b i k 4) 4 4
def orN (p : Nat → Bool) : Nat → Bool
  | 0 => false
  | j + 1 => orN p j || p j
def enN (h l : Bool) : Nat := if h = true then 2 else if l = true then 1 else 0
theorem mo_step : ∀ (H L xl xh yl yh : Bool), (xl && xh) = false → (yl && yh) = false → (if enN H L < mxN (xl.toNat + 2 * xh.toNat) (yl.toNat + 2 * yh.toNat) then mxN (xl.toNat + 2 * xh.toNat) (yl.toNat + 2 * yh.toNat) else enN H L) = enN (H || (xl && yh || xh && (yl || yh))) (L || xl && yl) := by decide +kernel
theorem mo_en {a b : Int32} (ha : clN a) (hb : clN b) {i k : Nat} (hi : i < 4) (hk : k < 4) : ∀ j, j ≤ 4 → moN a b i k j = enN (orN (fun j => bt a (8 * i + 2 * j) && bt b (8 * j + 2 * k + 1) || bt a (8 * i + 2 * j + 1) && (bt b (8 * j + 2 * k) || bt b (8 * j + 2 * k + 1))) j) (orN (fun j => bt a (8 * i + 2 * j) && bt b (8 * j + 2 * k)) j)
  | 0, _ => rfl
  | j + 1, hj => by
    have h1 := ha (4 * i + j) (by omega)
    have h2 := hb (4 * j + k) (by omega)
    rw [show 2 * (4 * i + j) = 8 * i + 2 * j by omega] at h1
    rw [show 2 * (4 * j + k) = 8 * j + 2 * k by omega] at h2
    rw [moN, mo_en ha hb hi hk j (by omega), orN, orN]
    exact mo_step _ _ _ _ _ _ h1 h2
theorem mo_lt (a b : Int32) (i k : Nat) : ∀ j, moN a b i k j < 4
  | 0 => show 0 < 4 by decide
  | j + 1 => by
    rw [moN]
    split
    · unfold mxN
      have h1 := atN_lt a i j
      have h2 := atN_lt b j k
      split
      · decide
      · split
        · exact h1
        · exact h2
    · exact mo_lt a b i k j
theorem b_nI4 : ∀ v, v < 4 → ∀ n, n < 32 → bt (nI v) n = v.testBit n := by decide +kernel
theorem pkK_bt {v : Nat → Nat} (hv : ∀ k, v k < 4) {i : Nat} (hi : i < 4) (z : Int32) {n : Nat} (hn : n < 32) : ∀ m, m ≤ 4 → bt (pkK v i z m) n = (bt z n || (decide (8 * i ≤ n ∧ n < 8 * i + 2 * m) && (v ((n - 8 * i) / 2)).testBit ((n - 8 * i) % 2)))
  | 0, _ => by
    rw [pkK, decide_eq_false (by omega)]; simp
  | m + 1, hm => by
    rw [pkK, b_or, pkK_bt hv hi z hn m (by omega), b_shl (by omega) _ hn, b_nI4 _ (hv m) _ (by omega)]
    by_cases h1 : 8 * i + 2 * m ≤ n
    · by_cases h2 : n < 8 * i + 2 * m + 2
      · rw [decide_eq_false (show ¬ (8 * i ≤ n ∧ n < 8 * i + 2 * m) by omega), decide_eq_true h1, decide_eq_true (show 8 * i ≤ n ∧ n < 8 * i + 2 * (m + 1) by omega), show (n - 8 * i) / 2 = m by omega, show n - (8 * i + 2 * m) = (n - 8 * i) % 2 by omega]
        simp
      · rw [decide_eq_false (show ¬ (8 * i ≤ n ∧ n < 8 * i + 2 * m) by omega), decide_eq_false (show ¬ (8 * i ≤ n ∧ n < 8 * i + 2 * (m + 1)) by omega), Nat.testBit_lt_two_pow (Nat.lt_of_lt_of_le (hv m) (Nat.le_trans (show 4 ≤ 2 ^ 2 by decide) (Nat.pow_le_pow_right (n := 2) (by omega) (show 2 ≤ n - (8 * i + 2 * m) by omega))))]
        simp
    · rw [decide_eq_false h1]
      by_cases h3 : 8 * i ≤ n
      · rw [decide_eq_true (show 8 * i ≤ n ∧ n < 8 * i + 2 * m by omega), decide_eq_true (show 8 * i ≤ n ∧ n < 8 * i + 2 * (m + 1) by omega)]; simp
      · rw [decide_eq_false (show ¬ (8 * i ≤ n ∧ n < 8 * i + 2 * m) by omega), decide_eq_false (show ¬ (8 * i ≤ n ∧ n < 8 * i + 2 * (m + 1)) by omega)]; simp
theorem pkI_bt {v : Nat → Nat → Nat} (hv : ∀ i k, v i k < 4) {q : Nat} (hq : q ≤ 4) {n : Nat} (hn : n < 32) : ∀ m, m ≤ 4 → bt (pkI v q m) n = (decide (n < 8 * m ∧ n % 8 < 2 * q) && (v (n / 8) (n % 8 / 2)).testBit (n % 2))
  | 0, _ => by rw [pkI, b_0, decide_eq_false (by omega)]; rfl
  | m + 1, hm => by
    rw [pkI, pkK_bt (hv m) (by omega) _ hn q hq, pkI_bt hv hq hn m (by omega)]
    by_cases h1 : n < 8 * m
    · rw [decide_eq_false (show ¬ (8 * m ≤ n ∧ n < 8 * m + 2 * q) by omega)]
      by_cases h3 : n % 8 < 2 * q
      · rw [decide_eq_true (show n < 8 * m ∧ n % 8 < 2 * q by omega), decide_eq_true (show n < 8 * (m + 1) ∧ n % 8 < 2 * q by omega)]; simp
      · rw [decide_eq_false (show ¬ (n < 8 * m ∧ n % 8 < 2 * q) by omega), decide_eq_false (show ¬ (n < 8 * (m + 1) ∧ n % 8 < 2 * q) by omega)]; simp
    · rw [decide_eq_false (show ¬ (n < 8 * m ∧ n % 8 < 2 * q) by omega)]
      by_cases h2 : n < 8 * m + 2 * q
      · rw [decide_eq_true (show 8 * m ≤ n ∧ n < 8 * m + 2 * q by omega), decide_eq_true (show n < 8 * (m + 1) ∧ n % 8 < 2 * q by omega), show n / 8 = m by omega, show n % 8 / 2 = (n - 8 * m) / 2 by omega, show n % 2 = (n - 8 * m) % 2 by omega]; simp
      · rw [decide_eq_false (show ¬ (8 * m ≤ n ∧ n < 8 * m + 2 * q) by omega), decide_eq_false (show ¬ (n < 8 * (m + 1) ∧ n % 8 < 2 * q) by omega)]; simp
theorem en_0 : ∀ h l : Bool, (enN h l).testBit 0 = (l && !h) := by decide
theorem en_1 : ∀ h l : Bool, (enN h l).testBit 1 = h := by decide
theorem cjN_lo (a b : Int32) {i k : Nat} (hi : i < 4) (hk : k < 4) : ∀ j, j ≤ 4 → bt (cjN a b j) (8 * i + 2 * k) = orN (fun j => bt a (8 * i + 2 * j) && bt b (8 * j + 2 * k)) j
  | 0, _ => b_0 _
  | j + 1, hj => by rw [cjN, cj1_lo a b (by omega) _ hi hk, cjN_lo a b hi hk j (by omega), orN]
theorem cjN_hi (a b : Int32) {i k : Nat} (hi : i < 4) (hk : k < 4) : ∀ j, j ≤ 4 → bt (cjN a b j) (8 * i + 2 * k + 1) = orN (fun j => bt a (8 * i + 2 * j) && bt b (8 * j + 2 * k + 1) || bt a (8 * i + 2 * j + 1) && (bt b (8 * j + 2 * k) || bt b (8 * j + 2 * k + 1))) j
  | 0, _ => b_0 _
  | j + 1, hj => by rw [cjN, cj1_hi a b (by omega) _ hi hk, cjN_hi a b hi hk j (by omega), orN]
/-- both ways give the same graph -/
theorem cj_rj {a b : Int32} (ha : clN a) (hb : clN b) : cj a b = rj a b := by
  apply b_ext
  intro n hn
  unfold cj rj
  rw [pkI_bt (fun i k => mo_lt a b i k 4) (Nat.le_refl 4) hn 4 (Nat.le_refl _), decide_eq_true (by omega), Bool.true_and, mo_en ha hb (by omega) (by omega) 4 (Nat.le_refl _)]
  by_cases h : n % 2 = 0
  · rw [h, en_0]
    have e : n = 2 * (n / 2) := by omega
    have e2 : 2 * (n / 2) = 8 * (n / 8) + 2 * (n % 8 / 2) := by omega
    have h1 := t3_lo (cjN a b 4) (p := n / 2) (by omega)
    rw [← e] at h1
    rw [h1]
    rw [show bt (cjN a b 4) n = bt (cjN a b 4) (8 * (n / 8) + 2 * (n % 8 / 2)) by rw [← e2, ← e], show bt (cjN a b 4) (n + 1) = bt (cjN a b 4) (8 * (n / 8) + 2 * (n % 8 / 2) + 1) by rw [← e2, ← e]]
    rw [cjN_lo a b (by omega) (by omega) 4 (Nat.le_refl _), cjN_hi a b (by omega) (by omega) 4 (Nat.le_refl _)]
  · rw [show n % 2 = 1 by omega, en_1]
    have e : n = 2 * (n / 2) + 1 := by omega
    have e2 : 2 * (n / 2) + 1 = 8 * (n / 8) + 2 * (n % 8 / 2) + 1 := by omega
    have h1 := t3_hi (cjN a b 4) (p := n / 2) (by omega)
    rw [← e] at h1
    rw [h1, show bt (cjN a b 4) n = bt (cjN a b 4) (8 * (n / 8) + 2 * (n % 8 / 2) + 1) by rw [← e2, ← e], cjN_hi a b (by omega) (by omega) 4 (Nat.le_refl _)]
theorem cj_cl (a b : Int32) : clN (cj a b) := t3_cl _
/-! what is told of a call: bits of places that are there, two for three -/
def thI (row : Int32) : Nat → Int32
  | 0 => 0
  | i + 1 => thI row i ||| shl row (8 * i)
def clC (x : Int32) (p q : Nat) : Int32 := t3 (x &&& thI (shl 1 (2 * q) - 1) p)
theorem b_th : ∀ q, q < 5 → ∀ p, p < 5 → ∀ n, n < 32 → bt (thI (shl 1 (2 * q) - 1) p) n = decide (n < 8 * p ∧ n % 8 < 2 * q) := by decide +kernel
def v3 (v : Nat) : Nat := if v = 3 then 2 else v
def clR (x : Int32) (p q : Nat) : Int32 := pkI (fun i j => v3 (atN x i j)) q p
theorem v3_bit : ∀ b0 b1 : Bool, (v3 (b0.toNat + 2 * b1.toNat)).testBit 0 = (b0 && !b1) ∧ (v3 (b0.toNat + 2 * b1.toNat)).testBit 1 = b1 := by decide
theorem v3_lt {v : Nat} (h : v < 4) : v3 v < 4 := by unfold v3; split <;> omega
theorem cl_eq (x : Int32) {p q : Nat} (hp : p < 5) (hq : q < 5) : clC x p q = clR x p q := by
  apply b_ext
  intro n hn
  unfold clC clR
  rw [pkI_bt (fun i j => v3_lt (atN_lt x i j)) (by omega) hn p (by omega)]
  unfold atN
  by_cases h : n % 2 = 0
  · have e : n = 2 * (n / 2) := by omega
    have e2 : 8 * (n / 8) + 2 * (n % 8 / 2) = n := by omega
    have h1 := t3_lo (x &&& thI (shl 1 (2 * q) - 1) p) (p := n / 2) (by omega)
    rw [← e] at h1
    rw [h1, h, e2, (v3_bit _ _).1, b_and, b_and, b_th q hq p hp n hn, b_th q hq p hp (n + 1) (by omega)]
    by_cases h3 : n < 8 * p ∧ n % 8 < 2 * q
    · rw [decide_eq_true h3, decide_eq_true (show n + 1 < 8 * p ∧ (n + 1) % 8 < 2 * q by omega)]; simp
    · rw [decide_eq_false h3]; simp
  · have e : n = 2 * (n / 2) + 1 := by omega
    have e2 : 8 * (n / 8) + 2 * (n % 8 / 2) + 1 = n := by omega
    have h1 := t3_hi (x &&& thI (shl 1 (2 * q) - 1) p) (p := n / 2) (by omega)
    rw [← e] at h1
    rw [h1, show n % 2 = 1 by omega, (v3_bit _ _).2, e2, b_and, b_th q hq p hp n hn, Bool.and_comm]
theorem cl_cl (x : Int32) (p q : Nat) : clN (clC x p q) := t3_cl _
/-! a 2 from a place to itself -/
theorem b_di : ∀ n, n < 32 → bt 0x80200802 n = decide (n = 1 ∨ n = 11 ∨ n = 21 ∨ n = 31) := by decide +kernel
theorem at2_iff {x : Int32} (h : clN x) {i j : Nat} (hi : i < 4) (hj : j < 4) : atN x i j = 2 ↔ bt x (8 * i + 2 * j + 1) = true := by
  unfold atN
  have := h (4 * i + j) (by omega)
  rw [show 2 * (4 * i + j) = 8 * i + 2 * j by omega] at this
  revert this
  cases bt x (8 * i + 2 * j) <;> cases bt x (8 * i + 2 * j + 1) <;> decide
theorem di_iff {x : Int32} (h : clN x) : x &&& 0x80200802 = 0 ↔ ∀ i, i < 4 → atN x i i ≠ 2 := by
  constructor
  · intro e i hi h2
    have hb := (at2_iff h hi hi).mp h2
    have h3 : bt (x &&& 0x80200802) (8 * i + 2 * i + 1) = true := by
      rw [b_and, hb, b_di _ (by omega), decide_eq_true (by omega)]; rfl
    rw [e, b_0] at h3
    cases h3
  · intro e
    apply b_ext
    intro n hn
    rw [b_0, b_and, b_di n hn]
    by_cases h1 : n = 1 ∨ n = 11 ∨ n = 21 ∨ n = 31
    · have h2 := e (n / 10) (by omega)
      rw [Ne, at2_iff h (by omega) (by omega), show 8 * (n / 10) + 2 * (n / 10) + 1 = n by omega] at h2
      rw [Bool.not_eq_true] at h2
      rw [h2]; rfl
    · rw [decide_eq_false h1]; simp
end
section
/-! PURE: the order of a function's places. op: the open calls; pl: how many places. -/
section PO
variable (nC : Nat) (at2 : Nat → Nat → Nat) (pl : Nat)
/-- at2 c i: what call c has from place i to itself -/
def oCan (op : Nat → Bool) (i : Nat) : Prop := (∀ c, c < nC → op c = true → 0 < at2 c i) ∧ ∃ c, c < nC ∧ op c = true ∧ at2 c i = 2
/-- the least place that may be taken -/
def oNext (op : Nat → Bool) (i : Nat) : Prop := i < pl ∧ oCan nC at2 op i ∧ ∀ j, j < i → ¬ oCan nC at2 op j
def oNone (op : Nat → Bool) : Prop := ∀ i, i < pl → ¬ oCan nC at2 op i
def oCut (op : Nat → Bool) (i : Nat) : Nat → Bool := fun c => op c && !decide (at2 c i = 2)
def oOpen (op : Nat → Bool) : Prop := ∃ c, c < nC ∧ op c = true
/-- places taken one after another: op0 .. op -/
def oWay : List Nat → (Nat → Bool) → (Nat → Bool) → Prop
  | [], op0, op => op = op0
  | i :: t, op0, op => oOpen nC op0 ∧ oNext nC at2 pl op0 i ∧ oWay t (oCut at2 op0 i) op
theorem oNext_one {op : Nat → Bool} {i j : Nat} (hi : oNext nC at2 pl op i) (hj : oNext nC at2 pl op j) : i = j := by
  rcases Nat.lt_trichotomy i j with h | h | h
  · exact absurd hi.2.1 (hj.2.2 i h)
  · exact h
  · exact absurd hj.2.1 (hi.2.2 j h)
/-- how it ends: with none open, or with no place to take -/
def oEnd (op : Nat → Bool) : Prop := ¬ oOpen nC op ∨ oNone nC at2 pl op
/-- the way that ends is one -/
theorem oWay_one : ∀ {t u : List Nat} {op0 op op' : Nat → Bool}, oWay nC at2 pl t op0 op → oWay nC at2 pl u op0 op' → oEnd nC at2 pl op → oEnd nC at2 pl op' → t = u ∧ op = op'
  | [], [], op0, op, op', h1, h2, _, _ => ⟨rfl, h1.trans h2.symm⟩
  | [], j :: u, op0, op, op', h1, h2, e1, _ => by
    cases h1
    obtain ⟨a, b, -⟩ := h2
    rcases e1 with e1 | e1
    · exact absurd a e1
    · exact absurd b.2.1 (e1 j b.1)
  | i :: t, [], op0, op, op', h1, h2, _, e2 => by
    cases h2
    obtain ⟨a, b, -⟩ := h1
    rcases e2 with e2 | e2
    · exact absurd a e2
    · exact absurd b.2.1 (e2 i b.1)
  | i :: t, j :: u, op0, op, op', h1, h2, e1, e2 => by
    obtain ⟨-, b1, c1⟩ := h1
    obtain ⟨-, b2, c2⟩ := h2
    obtain rfl := oNext_one nC at2 pl b1 b2
    obtain ⟨rfl, rfl⟩ := oWay_one c1 c2 e1 e2
    exact ⟨rfl, rfl⟩
theorem oWay_snoc : ∀ {t : List Nat} {op0 op : Nat → Bool} {i : Nat}, oWay nC at2 pl t op0 op → oOpen nC op → oNext nC at2 pl op i → oWay nC at2 pl (t ++ [i]) op0 (oCut at2 op i)
  | [], op0, op, i, h, h2, h3 => by
    cases h
    exact ⟨h2, h3, rfl⟩
  | j :: t, op0, op, i, h, h2, h3 => ⟨h.1, h.2.1, oWay_snoc h.2.2 h2 h3⟩
/-- places taken have 2 in no open call -/
theorem oWay_no2 : ∀ {t : List Nat} {op0 op : Nat → Bool}, oWay nC at2 pl t op0 op → (∀ c, op c = true → op0 c = true) ∧ ∀ i ∈ t, ∀ c, op c = true → at2 c i ≠ 2
  | [], op0, op, h => by
    cases h
    exact ⟨fun _ h => h, fun i hi => by cases hi⟩
  | j :: t, op0, op, h => by
    obtain ⟨h1, h2⟩ := oWay_no2 h.2.2
    have hc : ∀ c, oCut at2 op0 j c = true → op0 c = true ∧ at2 c j ≠ 2 := by
      intro c hc
      unfold oCut at hc
      rw [Bool.and_eq_true, Bool.not_eq_true', decide_eq_false_iff_not] at hc
      exact hc
    refine ⟨fun c hop => (hc c (h1 c hop)).1, fun i hi c hop => ?_⟩
    rcases List.mem_cons.mp hi with rfl | hi
    · exact (hc c (h1 c hop)).2
    · exact h2 i hi c hop
theorem oNew {t : List Nat} {op0 op : Nat → Bool} {i : Nat} (h : oWay nC at2 pl t op0 op) (hi : oCan nC at2 op i) : i ∉ t := by
  intro hm
  obtain ⟨c, -, h1, h2⟩ := hi.2
  exact (oWay_no2 nC at2 pl h).2 i hm c h1 h2
/-- no more than there are places; and with all taken there is none to take -/
theorem oFull {t : List Nat} {op0 op : Nat → Bool} (h : oWay nC at2 pl t op0 op) (hn : t.Nodup) (hl : ∀ i ∈ t, i < pl) (hp : pl ≤ t.length) : oNone nC at2 pl op := by
  intro i hi hc
  have h1 := pg_le (i :: t) (List.range pl) (List.nodup_cons.mpr ⟨oNew nC at2 pl h hc, hn⟩) (fun x hx => by
    rcases List.mem_cons.mp hx with rfl | hx
    · exact List.mem_range.mpr hi
    · exact List.mem_range.mpr (hl x hx))
  rw [List.length_cons, List.length_range] at h1
  omega
theorem oLen {t : List Nat} (hn : t.Nodup) (hl : ∀ i ∈ t, i < pl) : t.length ≤ pl := by
  have h1 := pg_le t (List.range pl) hn (fun x hx => List.mem_range.mpr (hl x hx))
  rwa [List.length_range] at h1
end PO
/-! PURE: the row that led to an entry: its calls, the last first -/
def chn (es : List En) : Nat → Option Nat → List Nat
  | 0, _ => []
  | _ + 1, none => []
  | n + 1, some k => match es[k]? with
    | none => []
    | some e => e.2.2.2.2 :: chn es n e.2.2.2.1
theorem chn_more {es : List En} (hA : ∀ (j i : Nat) (e : En), es[j]? = some e → e.2.2.2.1 = some i → i < j) : ∀ {k n m : Nat}, k < n → k < m → chn es n (some k) = chn es m (some k) := by
  intro k
  induction k using Nat.strongRecOn with
  | ind k ih =>
    intro n m hn hm
    obtain ⟨n, rfl⟩ : ∃ a, n = a + 1 := ⟨n - 1, by omega⟩
    obtain ⟨m, rfl⟩ : ∃ a, m = a + 1 := ⟨m - 1, by omega⟩
    rw [chn, chn]
    cases he : es[k]? with
    | none => rfl
    | some e =>
      dsimp only
      cases hi : e.2.2.2.1 with
      | none => cases n <;> cases m <;> rfl
      | some i =>
        have := hA k i e he hi
        rw [ih i this (show i < n by omega) (show i < m by omega)]
end
section
abbrev wM (h : Nat → Nat) (cI cZ : ClassId) (xt xf xc xg : Int32) (aP aF aT aK bF bL bB bA bY bR oT oO oR bS : Nat → Int32) : va_W :=
  [(h 0, .inr (0, [.int xt, .int xf, .int xc, .ref (h 1), .ref (h 2), .ref (h 3), .ref (h 4), .int xg, .ref (h 5), .ref (h 6), .ref (h 7), .ref (h 8), .ref (h 9), .ref (h 10), .ref (h 11), .ref (h 12), .ref (h 13), .ref (h 14)])), (h 1, .inl (cI, 10, .inl aP)), (h 2, .inl (cI, 20, .inl aF)), (h 3, .inl (cI, 20, .inl aT)), (h 4, .inl (cI, 20, .inl aK)), (h 5, .inl (cI, 801, .inl bF)), (h 6, .inl (cI, 801, .inl bL)), (h 7, .inl (cI, 801, .inl bB)), (h 8, .inl (cI, 801, .inl bA)), (h 9, .inl (cI, 801, .inl bY)), (h 10, .inl (cI, 801, .inl bR)), (h 11, .inl (cZ, 4, .inl oT)), (h 12, .inl (cZ, 20, .inl oO)), (h 13, .inl (cI, 4, .inl oR)), (h 14, .inl (cI, 801, .inl bS))]
abbrev tyM (cI cZ : ClassId) : List (ClassId × FieldType) := [(cI, .int), (cZ, .boolean)]
def sar (x : Int32) (n : Nat) : Int32 := x >>> (nI n &&& 31)
theorem rd {f : Nat → Int32} {k : Nat} (h : k < 2 ^ 31) : f (nI k).toNatClampNeg = f k := by rw [nI_clamp h]
theorem gm_V {idx : Nat} {y : MethodName} {cb : Cond} (h1 : Cond.methodLink R_M idx y ∈ wMw) (h2 : Cond.instanceMethod y ∈ wMw) (h3 : Cond.selects R_M y y ∈ wMw) (h5 : Cond.initialized R_M ∈ wMw) (h4 : cb ∈ wMw) : GoodIn wMw (wsV R_M idx R_M y (cb :: wMw)) := by
  intro w hw
  have hm : w ∈ wMw := by
    rcases List.mem_append.mp hw with h | h
    · rcases List.mem_cons.mp h with rfl | h
      · exact h1
      · rcases List.mem_cons.mp h with rfl | h
        · exact h2
        · rcases List.mem_cons.mp h with rfl | h
          · exact h3
          · rcases List.mem_cons.mp h with rfl | h
            · exact h5
            · cases h
    · rcases List.mem_cons.mp h with rfl | h
      · exact h4
      · exact h
  exact ⟨hm, good_of_word (List.all_eq_true.mp wMw_good w hm)⟩
theorem gm_S {idx : Nat} {y : MethodName} {cb : Cond} (h1 : Cond.methodLink R_M idx y ∈ wMw) (h2 : Cond.static y ∈ wMw) (h5 : Cond.initialized R_M ∈ wMw) (h4 : cb ∈ wMw) : GoodIn wMw (wsS R_M idx y (cb :: wMw)) := by
  intro w hw
  have hm : w ∈ wMw := by
    rcases List.mem_append.mp hw with h | h
    · rcases List.mem_cons.mp h with rfl | h
      · exact h1
      · rcases List.mem_cons.mp h with rfl | h
        · exact h2
        · rcases List.mem_cons.mp h with rfl | h
          · exact h5
          · cases h
    · rcases List.mem_cons.mp h with rfl | h
      · exact h4
      · exact h
  exact ⟨hm, good_of_word (List.all_eq_true.mp wMw_good w hm)⟩
theorem g_M_isFunction : GoodIn wMw (wsV R_M 60 R_M y_M_isFunction w_M_isFunction) := gm_V k_M_36 k_M_37 k_M_109 k_M_0 k_M_38
theorem g_M_at : GoodIn wMw (wsS R_M 67 y_M_at w_M_at) := gm_S k_M_39 k_M_40 k_M_0 k_M_41
theorem g_M_refused : GoodIn wMw (wsV R_M 85 R_M y_M_refused w_M_refused) := gm_V k_M_51 k_M_52 k_M_110 k_M_0 k_M_53
theorem g_M_find : GoodIn wMw (wsV R_M 82 R_M y_M_find w_M_find) := gm_V k_M_54 k_M_55 k_M_111 k_M_0 k_M_56
theorem g_M_add : GoodIn wMw (wsV R_M 74 R_M y_M_add w_M_add) := gm_V k_M_57 k_M_58 k_M_112 k_M_0 k_M_59
theorem g_M_joined : GoodIn wMw (wsS R_M 78 y_M_joined w_M_joined) := gm_S k_M_60 k_M_61 k_M_0 k_M_62
theorem g_M_between : GoodIn wMw (wsV R_M 89 R_M y_M_between w_M_between) := gm_V k_M_63 k_M_64 k_M_113 k_M_0 k_M_65
theorem g_M_isLess : GoodIn wMw (wsS R_M 92 y_M_isLess w_M_isLess) := gm_S k_M_69 k_M_70 k_M_0 k_M_71
theorem g_M_fallsAt : GoodIn wMw (wsV R_M 99 R_M y_M_fallsAt w_M_fallsAt) := gm_V k_M_75 k_M_76 k_M_114 k_M_0 k_M_77
theorem g_M_isBad : GoodIn wMw (wsS R_M 96 y_M_isBad w_M_isBad) := gm_S k_M_78 k_M_79 k_M_0 k_M_80
theorem g_M_reachedFrom : GoodIn wMw (wsV R_M 102 R_M y_M_reachedFrom w_M_reachedFrom) := gm_V k_M_84 k_M_85 k_M_115 k_M_0 k_M_86
theorem g_M_findOrder : GoodIn wMw (wsV R_M 109 R_M y_M_findOrder w_M_findOrder) := gm_V k_M_93 k_M_94 k_M_116 k_M_0 k_M_95
theorem g_M_mayTake : GoodIn wMw (wsV R_M 106 R_M y_M_mayTake w_M_mayTake) := gm_V k_M_96 k_M_97 k_M_117 k_M_0 k_M_98
set_option maxHeartbeats 4000000 in
set_option maxRecDepth 100000 in
theorem m_thrown (l : Launch) (dC : Nat → ClassId) (dI : Nat → Nat → Nat) (cI cZ : ClassId) (h : Nat → Nat) (sz : Nat) (xt xf xc xg : Int32) (aP aF aT aK bF bL bB bA bY bR oT oO oR bS : Nat → Int32) : Met l y_M_thrown w_M_thrown ({ frames := 0, cells := 0, slots := 0, locals := 0 }) (va_Pc [.ref (h 0)] (fun U => U.heap.size = sz ∧ va_P (dC, dI) kls (wM h cI cZ xt xf xc xg aP aF aT aK bF bL bB bA bY bR oT oO oR bS) U.heap ∧ va_K (dC, dI) kls (tyM cI cZ) U ∧ va_D (fun _ => True) (wM h cI cZ xt xf xc xg aP aF aT aK bF bL bB bA bY bR oT oO oR bS))) (va_Qi (fun (r : Int32) (u : Unit) => r = xt) (fun (u : Unit) (t : State) => va_P (dC, dI) kls (wM h cI cZ xt xf xc xg aP aF aT aK bF bL bB bA bY bR oT oO oR bS) t.heap ∧ va_K (dC, dI) kls (tyM cI cZ) t ∧ va_D (va_A (wM h cI cZ xt xf xc xg aP aF aT aK bF bL bB bA bY bR oT oO oR bS) sz) (wM h cI cZ xt xf xc xg aP aF aT aK bF bL bB bA bY bR oT oO oR bS)) (va_A (wM h cI cZ xt xf xc xg aP aF aT aK bF bL bB bA bY bR oT oO oR bS) sz)) 0 0 (va_A (wM h cI cZ xt xf xc xg aP aF aT aK bF bL bB bA bY bR oT oO oR bS) sz) := by
  refine Met.ofW (cc := c_M_thrown) (maxL := 1) (ret := (some .int)) (by decide) rfl ?_
  intro p e s m args below meth c s₁ B hml hv
  obtain ⟨rfl, hsz, hP, hK, hD0⟩ := hv
  have hx := B.exec
  have hb := B.bytes
  have hr := B.returns
  have hts := atoms_spec (ws := w_M_thrown) B.pre
  have hk : ∀ w ∈ wMw, w.before _ s = true := fun w h => hts w (List.mem_cons_of_mem _ h)
  have hown : s.vm.findClass R_M = some m.cls := findClass_of_methodNamed B.named
  have hlocks := B.notSynchronized
  subst hsz
  have hD := hD0.self (sz := s.heap.size)
  generalize hAe : va_A (wM h cI cZ xt xf xc xg aP aF aT aK bF bL bB bA bY bR oT oO oR bS) s.heap.size = A at hD ⊢
  have hA : ∀ q : Nat, s.heap.size ≤ q → A q := fun q h => by rw [← hAe]; exact Or.inr h
  have hS : va_S A s.heap s.heap [] := va_S.rf
  have hl := lv_entry ([.ref (h 0)]) (n := 1) (Nat.le_of_ble_eq_true rfl)
  rw [lg_entry_eq]
  generalize (lg_sl ([.ref (h 0)]) ++ List.replicate (1 - (lg_sl ([.ref (h 0)])).length) Slot.unset).toArray = ls at hl ⊢
  have hl : lv_has ls 1 [(0, .ref (h 0))] := hl
  refine lv_aload_n hx hb d_M_thrown_0 rfl (lv_at hl 0 rfl) ?_
  refine va_get (D := (dC, dI)) (ci := 0) (v := .int xt) (C := R_M) (T := F_M) (N := 18) hx hb hk k_M_f hown hK hP 0 rfl rfl 0 (by decide) (hk _ k_M_8) (fun _ h9 => h9) rfl d_M_thrown_1 ?_
  exact W.iret (v := xt) hx hb hr (fun t ht hW => ⟨⟨xt, (), rfl, rfl, by rw [ht]; exact hP, va_K.moved hW.alike hK, hD⟩, hS.F ht⟩) hS.2.2 d_M_thrown_4
set_option maxHeartbeats 4000000 in
set_option maxRecDepth 100000 in
theorem m_isFunction (l : Launch) (dC : Nat → ClassId) (dI : Nat → Nat → Nat) (cI cZ : ClassId) (h : Nat → Nat) (sz : Nat) (xt xc xg : Int32) (aP aF aT aK bF bL bB bA bY bR oT oO oR bS : Nat → Int32) (nF : Nat) (f : Int32) (hF : nF < 2 ^ 31) : Met l y_M_isFunction w_M_isFunction ({ frames := 0, cells := 0, slots := 0, locals := 0 }) (va_Pc [.ref (h 0), .int f] (fun U => U.heap.size = sz ∧ va_P (dC, dI) kls (wM h cI cZ xt (nI nF) xc xg aP aF aT aK bF bL bB bA bY bR oT oO oR bS) U.heap ∧ va_K (dC, dI) kls (tyM cI cZ) U ∧ va_D (fun _ => True) (wM h cI cZ xt (nI nF) xc xg aP aF aT aK bF bL bB bA bY bR oT oO oR bS))) (va_Qi (fun (r : Int32) (u : Unit) => (r = nI 1 ∧ ∃ j, j < nF ∧ f = nI j) ∨ (r = nI 0 ∧ ¬ ∃ j, j < nF ∧ f = nI j)) (fun (u : Unit) (t : State) => va_P (dC, dI) kls (wM h cI cZ xt (nI nF) xc xg aP aF aT aK bF bL bB bA bY bR oT oO oR bS) t.heap ∧ va_K (dC, dI) kls (tyM cI cZ) t ∧ va_D (va_A (wM h cI cZ xt (nI nF) xc xg aP aF aT aK bF bL bB bA bY bR oT oO oR bS) sz) (wM h cI cZ xt (nI nF) xc xg aP aF aT aK bF bL bB bA bY bR oT oO oR bS)) (va_A (wM h cI cZ xt (nI nF) xc xg aP aF aT aK bF bL bB bA bY bR oT oO oR bS) sz)) 0 0 (va_A (wM h cI cZ xt (nI nF) xc xg aP aF aT aK bF bL bB bA bY bR oT oO oR bS) sz) := by
  refine Met.ofW (cc := c_M_isFunction) (maxL := 2) (ret := (some .boolean)) (by decide) rfl ?_
  intro p e s m args below meth c s₁ B hml hv
  obtain ⟨rfl, hsz, hP, hK, hD0⟩ := hv
  have hx := B.exec
  have hb := B.bytes
  have hr := B.returns
  have hts := atoms_spec (ws := w_M_isFunction) B.pre
  have hk : ∀ w ∈ wMw, w.before _ s = true := fun w h => hts w (List.mem_cons_of_mem _ h)
  have hown : s.vm.findClass R_M = some m.cls := findClass_of_methodNamed B.named
  have hlocks := B.notSynchronized
  subst hsz
  have hD := hD0.self (sz := s.heap.size)
  generalize hAe : va_A (wM h cI cZ xt (nI nF) xc xg aP aF aT aK bF bL bB bA bY bR oT oO oR bS) s.heap.size = A at hD ⊢
  have hA : ∀ q : Nat, s.heap.size ≤ q → A q := fun q h => by rw [← hAe]; exact Or.inr h
  have hS : va_S A s.heap s.heap [] := va_S.rf
  have hl := lv_entry ([.ref (h 0), .int f]) (n := 2) (Nat.le_of_ble_eq_true rfl)
  rw [lg_entry_eq]
  generalize (lg_sl ([.ref (h 0), .int f]) ++ List.replicate (2 - (lg_sl ([.ref (h 0), .int f])).length) Slot.unset).toArray = ls at hl ⊢
  have hl : lv_has ls 2 [(0, .ref (h 0)), (1, .int f)] := hl
  refine lv_iload_n hx hb d_M_isFunction_0 rfl (lv_at hl 1 rfl) ?_
  refine lv_if_lt (tgt := 16) hx hb d_M_isFunction_1 (by decide) (fun c_1 => ?_) (fun c_1 => ?_)
  · refine lv_iconst (v := nI 0) hx hb d_M_isFunction_16 (by decide +kernel) ?_
    have hj : ¬ ∃ j, j < nF ∧ f = nI j := by
      rintro ⟨j, hj, rfl⟩
      first
        | exact nI_pos (by omega) c_1
        | exact absurd c_9 (Int32.not_le.mpr (nI_lt hj hF))
    exact W.zret (v := nI 0) (ty := .boolean) hx hb hr rfl (fun t ht hW => ⟨⟨nI 0, (), rfl, Or.inr ⟨rfl, hj⟩, by rw [ht]; exact hP, va_K.moved hW.alike hK, hD⟩, hS.F ht⟩) hS.2.2 d_M_isFunction_17
  · refine lv_iload_n hx hb d_M_isFunction_4 rfl (lv_at hl 1 rfl) ?_
    refine lv_aload_n hx hb d_M_isFunction_5 rfl (lv_at hl 0 rfl) ?_
    refine va_get (D := (dC, dI)) (ci := 0) (v := .int (nI nF)) (C := R_M) (T := F_M) (N := 18) hx hb hk k_M_f hown hK hP 0 rfl rfl 1 (by decide) (hk _ k_M_9) (fun _ h9 => h9) rfl d_M_isFunction_6 ?_
    refine lv_icmp_ge (tgt := 16) hx hb d_M_isFunction_9 (by decide) (fun c_9 => ?_) (fun c_9 => ?_)
    · refine lv_iconst (v := nI 0) hx hb d_M_isFunction_16 (by decide +kernel) ?_
      have hj : ¬ ∃ j, j < nF ∧ f = nI j := by
        rintro ⟨j, hj, rfl⟩
        first
          | exact nI_pos (by omega) c_1
          | exact absurd c_9 (Int32.not_le.mpr (nI_lt hj hF))
      exact W.zret (v := nI 0) (ty := .boolean) hx hb hr rfl (fun t ht hW => ⟨⟨nI 0, (), rfl, Or.inr ⟨rfl, hj⟩, by rw [ht]; exact hP, va_K.moved hW.alike hK, hD⟩, hS.F ht⟩) hS.2.2 d_M_isFunction_17
    · refine lv_iconst (v := nI 1) hx hb d_M_isFunction_12 (by decide +kernel) ?_
      refine lv_goto (tgt := 17) hx hb d_M_isFunction_13 (by decide) ?_
      have hj : ∃ j, j < nF ∧ f = nI j := by
        obtain ⟨j, hj, rfl⟩ := nI_of c_1
        exact ⟨j, (nI_ltI hj hF).mp (Int32.not_le.mp c_9), rfl⟩
      exact W.zret (v := nI 1) (ty := .boolean) hx hb hr rfl (fun t ht hW => ⟨⟨nI 1, (), rfl, Or.inl ⟨rfl, hj⟩, by rw [ht]; exact hP, va_K.moved hW.alike hK, hD⟩, hS.F ht⟩) hS.2.2 d_M_isFunction_17
set_option maxHeartbeats 4000000 in
set_option maxRecDepth 100000 in
theorem m_at (l : Launch) (x : Int32) (i j : Nat) (hi : i < 4) (hj : j < 4) : Met l y_M_at w_M_at ({ frames := 0, cells := 0, slots := 0, locals := 0 }) (va_Pc [.int x, .int (nI i), .int (nI j)] (fun _ => True)) (vp_Si (fun r => r = nI (atN x i j))) 0 0 (fun _ => False) := by
  refine Met.ofW (cc := c_M_at) (maxL := 3) (ret := (some .int)) (by decide) rfl ?_
  intro p e s m args below meth c s₁ B hml hv
  obtain ⟨rfl, -⟩ := hv
  have hx := B.exec
  have hb := B.bytes
  have hr := B.returns
  have hts := atoms_spec (ws := w_M_at) B.pre
  have hk : ∀ w ∈ wMw, w.before _ s = true := fun w h => hts w (List.mem_cons_of_mem _ h)
  have hown : s.vm.findClass R_M = some m.cls := findClass_of_methodNamed B.named
  have hlocks := B.notSynchronized
  have hl := lv_entry ([.int x, .int (nI i), .int (nI j)]) (n := 3) (Nat.le_of_ble_eq_true rfl)
  rw [lg_entry_eq]
  generalize (lg_sl ([.int x, .int (nI i), .int (nI j)]) ++ List.replicate (3 - (lg_sl ([.int x, .int (nI i), .int (nI j)])).length) Slot.unset).toArray = ls at hl ⊢
  have hl : lv_has ls 3 [(0, .int x), (1, .int (nI i)), (2, .int (nI j))] := hl
  refine lv_iload_n hx hb d_M_at_0 rfl (lv_at hl 0 rfl) ?_
  refine lv_bipush (v := nI 8) hx hb d_M_at_1 (by decide +kernel) ?_
  refine lv_iload_n hx hb d_M_at_3 rfl (lv_at hl 1 rfl) ?_
  refine lv_imul hx hb d_M_at_4 ?_
  refine lv_topi (fun z1 ez1 => ?_)
  obtain rfl : z1 = nI (8 * i) := ez1.trans (pk_mul _ _)
  refine lv_iconst (v := nI 2) hx hb d_M_at_5 (by decide +kernel) ?_
  refine lv_iload_n hx hb d_M_at_6 rfl (lv_at hl 2 rfl) ?_
  refine lv_imul hx hb d_M_at_7 ?_
  refine lv_topi (fun z2 ez2 => ?_)
  obtain rfl : z2 = nI (2 * j) := ez2.trans (pk_mul _ _)
  refine lv_iadd hx hb d_M_at_8 ?_
  refine lv_topi (fun z3 ez3 => ?_)
  obtain rfl : z3 = nI (8 * i + (2 * j)) := ez3.trans (nI_add _ _)
  refine lv_iushr (v := ush x (8 * i + (2 * j))) hx hb d_M_at_9 rfl ?_
  refine lv_iconst (v := nI 3) hx hb d_M_at_10 (by decide +kernel) ?_
  refine lv_iand hx hb d_M_at_11 ?_
  exact W.iret (v := (ush x (8 * i + (2 * j))) &&& (nI 3)) hx hb hr (fun t ht hW => ⟨(ush x (8 * i + (2 * j))) &&& (nI 3), rfl, (at_nI x hi hj), ht⟩) (fun q h9 => absurd h9 List.not_mem_nil) d_M_at_12
set_option maxHeartbeats 4000000 in
set_option maxRecDepth 100000 in
theorem m_undo (l : Launch) (dC : Nat → ClassId) (dI : Nat → Nat → Nat) (cI cZ : ClassId) (h : Nat → Nat) (sz : Nat) (xt xf xg : Int32) (aP aF aT aK bF bL bB bA bY bR oT oO oR bS : Nat → Int32) (nC : Nat) (hC : nC < 2 ^ 31) : Met l y_M_undo w_M_undo ({ frames := 0, cells := 0, slots := 0, locals := 0 }) (va_Pc [.ref (h 0)] (fun U => U.heap.size = sz ∧ va_P (dC, dI) kls (wM h cI cZ xt xf (nI nC) xg aP aF aT aK bF bL bB bA bY bR oT oO oR bS) U.heap ∧ va_K (dC, dI) kls (tyM cI cZ) U ∧ va_D (fun _ => True) (wM h cI cZ xt xf (nI nC) xg aP aF aT aK bF bL bB bA bY bR oT oO oR bS))) (va_Qi (fun (r : Int32) (u : Int32 × Int32) => u.1 = nI 0 ∧ u.2 = nI (nC - 1) ∧ ((r = nI 1 ∧ 0 < nC) ∨ (r = nI 0 ∧ nC = 0))) (fun (u : Int32 × Int32) (t : State) => va_P (dC, dI) kls (wM h cI cZ u.1 xf u.2 xg aP aF aT aK bF bL bB bA bY bR oT oO oR bS) t.heap ∧ va_K (dC, dI) kls (tyM cI cZ) t ∧ va_D (va_A (wM h cI cZ xt xf (nI nC) xg aP aF aT aK bF bL bB bA bY bR oT oO oR bS) sz) (wM h cI cZ u.1 xf u.2 xg aP aF aT aK bF bL bB bA bY bR oT oO oR bS)) (va_A (wM h cI cZ xt xf (nI nC) xg aP aF aT aK bF bL bB bA bY bR oT oO oR bS) sz)) 0 0 (va_A (wM h cI cZ xt xf (nI nC) xg aP aF aT aK bF bL bB bA bY bR oT oO oR bS) sz) := by
  refine Met.ofW (cc := c_M_undo) (maxL := 1) (ret := (some .boolean)) (by decide) rfl ?_
  intro p e s m args below meth c s₁ B hml hv
  obtain ⟨rfl, hsz, hP, hK, hD0⟩ := hv
  have hx := B.exec
  have hb := B.bytes
  have hr := B.returns
  have hts := atoms_spec (ws := w_M_undo) B.pre
  have hk : ∀ w ∈ wMw, w.before _ s = true := fun w h => hts w (List.mem_cons_of_mem _ h)
  have hown : s.vm.findClass R_M = some m.cls := findClass_of_methodNamed B.named
  have hlocks := B.notSynchronized
  subst hsz
  have hD := hD0.self (sz := s.heap.size)
  generalize hAe : va_A (wM h cI cZ xt xf (nI nC) xg aP aF aT aK bF bL bB bA bY bR oT oO oR bS) s.heap.size = A at hD ⊢
  have hA : ∀ q : Nat, s.heap.size ≤ q → A q := fun q h => by rw [← hAe]; exact Or.inr h
  have hS : va_S A s.heap s.heap [] := va_S.rf
  have hl := lv_entry ([.ref (h 0)]) (n := 1) (Nat.le_of_ble_eq_true rfl)
  rw [lg_entry_eq]
  generalize (lg_sl ([.ref (h 0)]) ++ List.replicate (1 - (lg_sl ([.ref (h 0)])).length) Slot.unset).toArray = ls at hl ⊢
  have hl : lv_has ls 1 [(0, .ref (h 0))] := hl
  refine lv_aload_n hx hb d_M_undo_0 rfl (lv_at hl 0 rfl) ?_
  refine lv_iconst (v := nI 0) hx hb d_M_undo_1 (by decide +kernel) ?_
  refine va_put (D := (dC, dI)) (ci := 0) (v := .int (nI 0)) (ty := .int) (C := R_M) (T := F_M) (N := 18) hx hb hk k_M_f t_M t_M_ok n_M hown hK hP hD hS 0 rfl rfl 0 (by decide) (hk _ k_M_8) (fun _ h9 => h9) rfl (by decide +kernel) rfl rfl (Nat.le_of_ble_eq_true rfl) d_M_undo_2 (fun H locs hP hD hS => ?_)
  have hP : va_P (dC, dI) kls (wM h cI cZ (nI 0) xf (nI nC) xg aP aF aT aK bF bL bB bA bY bR oT oO oR bS) H := hP
  have hD : va_D A (wM h cI cZ (nI 0) xf (nI nC) xg aP aF aT aK bF bL bB bA bY bR oT oO oR bS) := hD
  refine lv_aload_n hx hb d_M_undo_5 rfl (lv_at hl 0 rfl) ?_
  refine va_get (D := (dC, dI)) (ci := 0) (v := .int (nI nC)) (C := R_M) (T := F_M) (N := 18) hx hb hk k_M_f hown hK hP 0 rfl rfl 2 (by decide) (hk _ k_M_10) (fun _ h9 => h9) rfl d_M_undo_6 ?_
  refine lv_if_ne (tgt := 14) hx hb d_M_undo_9 (by decide) (fun c_9 => ?_) (fun c_9 => ?_)
  · have c_9 : ¬ nC = 0 := fun z9 => c_9 ((nI_eq (a := nC) (b := 0) (by omega) (by omega)).mpr z9)
    refine lv_aload_n hx hb d_M_undo_14 rfl (lv_at hl 0 rfl) ?_
    refine lv_dup hx hb d_M_undo_15 rfl ?_
    refine va_get (D := (dC, dI)) (ci := 0) (v := .int (nI nC)) (C := R_M) (T := F_M) (N := 18) hx hb hk k_M_f hown hK hP 0 rfl rfl 2 (by decide) (hk _ k_M_10) (fun _ h9 => h9) rfl d_M_undo_16 ?_
    refine lv_iconst (v := nI 1) hx hb d_M_undo_19 (by decide +kernel) ?_
    refine lv_isub hx hb d_M_undo_20 ?_
    refine lv_topi (fun z1 ez1 => ?_)
    obtain rfl : z1 = nI (nC - 1) := ez1.trans (pk_sub (by omega))
    refine va_put (D := (dC, dI)) (ci := 0) (v := .int (nI (nC - 1))) (ty := .int) (C := R_M) (T := F_M) (N := 18) hx hb hk k_M_f t_M t_M_ok n_M hown hK hP hD hS 0 rfl rfl 2 (by decide) (hk _ k_M_10) (fun _ h9 => h9) rfl (by decide +kernel) rfl rfl (Nat.le_of_ble_eq_true rfl) d_M_undo_21 (fun H locs hP hD hS => ?_)
    have hP : va_P (dC, dI) kls (wM h cI cZ (nI 0) xf (nI (nC - 1)) xg aP aF aT aK bF bL bB bA bY bR oT oO oR bS) H := hP
    have hD : va_D A (wM h cI cZ (nI 0) xf (nI (nC - 1)) xg aP aF aT aK bF bL bB bA bY bR oT oO oR bS) := hD
    refine lv_iconst (v := nI 1) hx hb d_M_undo_24 (by decide +kernel) ?_
    exact W.zret (v := nI 1) (ty := .boolean) hx hb hr rfl (fun t ht hW => ⟨⟨nI 1, (nI 0, nI (nC - 1)), rfl, ⟨rfl, rfl, Or.inl ⟨rfl, by omega⟩⟩, by rw [ht]; exact hP, va_K.moved hW.alike hK, hD⟩, hS.F ht⟩) hS.2.2 d_M_undo_25
  · have c_9 : nC = 0 := (nI_eq (a := nC) (b := 0) (by omega) (by omega)).mp c_9
    refine lv_iconst (v := nI 0) hx hb d_M_undo_12 (by decide +kernel) ?_
    exact W.zret (v := nI 0) (ty := .boolean) hx hb hr rfl (fun t ht hW => ⟨⟨nI 0, (nI 0, nI nC), rfl, ⟨rfl, by subst c_9; rfl, Or.inr ⟨rfl, c_9⟩⟩, by rw [ht]; exact hP, va_K.moved hW.alike hK, hD⟩, hS.F ht⟩) hS.2.2 d_M_undo_13
set_option maxHeartbeats 4000000 in
set_option maxRecDepth 100000 in
theorem m_about (l : Launch) (dC : Nat → ClassId) (dI : Nat → Nat → Nat) (cI cZ : ClassId) (h : Nat → Nat) (sz : Nat) (xt xg : Int32) (aP aF aT aK bF bL bB bA bY bR oT oO oR bS : Nat → Int32) (nF nC : Nat) (q : Int32) : Met l y_M_about w_M_about ({ frames := 0, cells := 0, slots := 0, locals := 0 }) (va_Pc [.ref (h 0), .int q] (fun U => U.heap.size = sz ∧ va_P (dC, dI) kls (wM h cI cZ xt (nI nF) (nI nC) xg aP aF aT aK bF bL bB bA bY bR oT oO oR bS) U.heap ∧ va_K (dC, dI) kls (tyM cI cZ) U ∧ va_D (fun _ => True) (wM h cI cZ xt (nI nF) (nI nC) xg aP aF aT aK bF bL bB bA bY bR oT oO oR bS))) (va_Qi (fun (r : Int32) (u : Int32) => u = nI 0 ∧ r = (if q = 0 then nI nF else if q = nI 1 then nI nC else -1)) (fun (u : Int32) (t : State) => va_P (dC, dI) kls (wM h cI cZ u (nI nF) (nI nC) xg aP aF aT aK bF bL bB bA bY bR oT oO oR bS) t.heap ∧ va_K (dC, dI) kls (tyM cI cZ) t ∧ va_D (va_A (wM h cI cZ xt (nI nF) (nI nC) xg aP aF aT aK bF bL bB bA bY bR oT oO oR bS) sz) (wM h cI cZ u (nI nF) (nI nC) xg aP aF aT aK bF bL bB bA bY bR oT oO oR bS)) (va_A (wM h cI cZ xt (nI nF) (nI nC) xg aP aF aT aK bF bL bB bA bY bR oT oO oR bS) sz)) 0 0 (va_A (wM h cI cZ xt (nI nF) (nI nC) xg aP aF aT aK bF bL bB bA bY bR oT oO oR bS) sz) := by
  refine Met.ofW (cc := c_M_about) (maxL := 2) (ret := (some .int)) (by decide) rfl ?_
  intro p e s m args below meth c s₁ B hml hv
  obtain ⟨rfl, hsz, hP, hK, hD0⟩ := hv
  have hx := B.exec
  have hb := B.bytes
  have hr := B.returns
  have hts := atoms_spec (ws := w_M_about) B.pre
  have hk : ∀ w ∈ wMw, w.before _ s = true := fun w h => hts w (List.mem_cons_of_mem _ h)
  have hown : s.vm.findClass R_M = some m.cls := findClass_of_methodNamed B.named
  have hlocks := B.notSynchronized
  subst hsz
  have hD := hD0.self (sz := s.heap.size)
  generalize hAe : va_A (wM h cI cZ xt (nI nF) (nI nC) xg aP aF aT aK bF bL bB bA bY bR oT oO oR bS) s.heap.size = A at hD ⊢
  have hA : ∀ q : Nat, s.heap.size ≤ q → A q := fun q h => by rw [← hAe]; exact Or.inr h
  have hS : va_S A s.heap s.heap [] := va_S.rf
  have hl := lv_entry ([.ref (h 0), .int q]) (n := 2) (Nat.le_of_ble_eq_true rfl)
  rw [lg_entry_eq]
  generalize (lg_sl ([.ref (h 0), .int q]) ++ List.replicate (2 - (lg_sl ([.ref (h 0), .int q])).length) Slot.unset).toArray = ls at hl ⊢
  have hl : lv_has ls 2 [(0, .ref (h 0)), (1, .int q)] := hl
  refine lv_aload_n hx hb d_M_about_0 rfl (lv_at hl 0 rfl) ?_
  refine lv_iconst (v := nI 0) hx hb d_M_about_1 (by decide +kernel) ?_
  refine va_put (D := (dC, dI)) (ci := 0) (v := .int (nI 0)) (ty := .int) (C := R_M) (T := F_M) (N := 18) hx hb hk k_M_f t_M t_M_ok n_M hown hK hP hD hS 0 rfl rfl 0 (by decide) (hk _ k_M_8) (fun _ h9 => h9) rfl (by decide +kernel) rfl rfl (Nat.le_of_ble_eq_true rfl) d_M_about_2 (fun H locs hP hD hS => ?_)
  have hP : va_P (dC, dI) kls (wM h cI cZ (nI 0) (nI nF) (nI nC) xg aP aF aT aK bF bL bB bA bY bR oT oO oR bS) H := hP
  have hD : va_D A (wM h cI cZ (nI 0) (nI nF) (nI nC) xg aP aF aT aK bF bL bB bA bY bR oT oO oR bS) := hD
  refine lv_iload_n hx hb d_M_about_5 rfl (lv_at hl 1 rfl) ?_
  refine lv_if_ne (tgt := 16) hx hb d_M_about_6 (by decide) (fun c_6 => ?_) (fun c_6 => ?_)
  · refine lv_iload_n hx hb d_M_about_16 rfl (lv_at hl 1 rfl) ?_
    refine lv_iconst (v := nI 1) hx hb d_M_about_17 (by decide +kernel) ?_
    refine lv_icmp_ne (tgt := 28) hx hb d_M_about_18 (by decide) (fun c_18 => ?_) (fun c_18 => ?_)
    · refine lv_iconst (v := (-1)) hx hb d_M_about_28 (by decide +kernel) ?_
      have hq : (-1) = (if q = 0 then nI nF else if q = nI 1 then nI nC else -1) := by
        first
          | rw [if_pos c_6]
          | rw [if_neg c_6, if_pos c_18]
          | rw [if_neg c_6, if_neg c_18]
      exact W.iret (v := (-1)) hx hb hr (fun t ht hW => ⟨⟨(-1), nI 0, rfl, ⟨rfl, hq⟩, by rw [ht]; exact hP, va_K.moved hW.alike hK, hD⟩, hS.F ht⟩) hS.2.2 d_M_about_29
    · refine lv_aload_n hx hb d_M_about_21 rfl (lv_at hl 0 rfl) ?_
      refine va_get (D := (dC, dI)) (ci := 0) (v := .int (nI nC)) (C := R_M) (T := F_M) (N := 18) hx hb hk k_M_f hown hK hP 0 rfl rfl 2 (by decide) (hk _ k_M_10) (fun _ h9 => h9) rfl d_M_about_22 ?_
      refine lv_goto (tgt := 29) hx hb d_M_about_25 (by decide) ?_
      have hq : nI nC = (if q = 0 then nI nF else if q = nI 1 then nI nC else -1) := by
        first
          | rw [if_pos c_6]
          | rw [if_neg c_6, if_pos c_18]
          | rw [if_neg c_6, if_neg c_18]
      exact W.iret (v := nI nC) hx hb hr (fun t ht hW => ⟨⟨nI nC, nI 0, rfl, ⟨rfl, hq⟩, by rw [ht]; exact hP, va_K.moved hW.alike hK, hD⟩, hS.F ht⟩) hS.2.2 d_M_about_29
  · refine lv_aload_n hx hb d_M_about_9 rfl (lv_at hl 0 rfl) ?_
    refine va_get (D := (dC, dI)) (ci := 0) (v := .int (nI nF)) (C := R_M) (T := F_M) (N := 18) hx hb hk k_M_f hown hK hP 0 rfl rfl 1 (by decide) (hk _ k_M_9) (fun _ h9 => h9) rfl d_M_about_10 ?_
    refine lv_goto (tgt := 29) hx hb d_M_about_13 (by decide) ?_
    have hq : nI nF = (if q = 0 then nI nF else if q = nI 1 then nI nC else -1) := by
      first
        | rw [if_pos c_6]
        | rw [if_neg c_6, if_pos c_18]
        | rw [if_neg c_6, if_neg c_18]
    exact W.iret (v := nI nF) hx hb hr (fun t ht hW => ⟨⟨nI nF, nI 0, rfl, ⟨rfl, hq⟩, by rw [ht]; exact hP, va_K.moved hW.alike hK, hD⟩, hS.F ht⟩) hS.2.2 d_M_about_29
end
section
def uN (x : Int32) : Nat := x.toBitVec.toNat
theorem uN_lt (x : Int32) : uN x < 2 ^ 32 := x.toBitVec.isLt
theorem uN_inj {x y : Int32} (h : uN x = uN y) : x = y := Int32.toBitVec_inj.mp (BitVec.eq_of_toNat_eq h)
theorem uI (x : Int32) : x.toInt = if 2 * uN x < 2 ^ 32 then (uN x : Int) else (uN x : Int) - 2 ^ 32 := BitVec.toInt_eq_toNat_cond x.toBitVec
theorem in14 {x : Int32} (h1 : ¬ x < nI 1) (h4 : x ≤ nI 4) : ∃ j, 1 ≤ j ∧ j ≤ 4 ∧ x = nI j := by
  have h0 : ¬ x < 0 := by
    intro h
    rw [Int32.lt_iff_toInt_lt] at h h1
    have e1 : (nI 1).toInt = 1 := by decide +kernel
    have e0 : (0 : Int32).toInt = 0 := by decide +kernel
    omega
  obtain ⟨j, hj, rfl⟩ := nI_of2 (M := nI 4) (n := 4) (by decide +kernel) h0 h4
  refine ⟨j, ?_, hj, rfl⟩
  rcases Nat.eq_zero_or_pos j with rfl | h
  · exact absurd (show nI 0 < nI 1 from nI_lt (by omega) (by omega)) h1
  · exact h
theorem no14 {x : Int32} (h : x < nI 1 ∨ ¬ x ≤ nI 4) : ¬ ∃ j, 1 ≤ j ∧ j ≤ 4 ∧ x = nI j := by
  rintro ⟨j, h1, h4, rfl⟩
  rcases h with h | h
  · exact absurd ((nI_ltI (by omega) (by omega)).mp h) (by omega)
  · exact h (nI_le h4 (by omega))
def ahI (o : Option Nat) : Int32 := match o with
  | none => -1
  | some k => nI k
/-- the arrays hold the entries -/
def hE (es : List En) (bF bL bB bA bY : Nat → Int32) : Prop := ∀ k e, es[k]? = some e → bF k = nI e.1 ∧ bL k = nI e.2.1 ∧ bB k = e.2.2.1 ∧ bA k = ahI e.2.2.2.1 ∧ bY k = nI e.2.2.2.2
/-- their functions are small -/
def smE (es : List En) : Prop := ∀ e ∈ es, e.1 < 16 ∧ e.2.1 < 16
def addC (cap : Nat) (es : List En) (e : En) : List En := if kyE e ∈ es.map kyE ∨ cap ≤ es.length then es else es ++ [e]
theorem hE_snoc {es : List En} {bF bL bB bA bY : Nat → Int32} (h : hE es bF bL bB bA bY) (e : En) : hE (es ++ [e]) (upd bF es.length (nI e.1)) (upd bL es.length (nI e.2.1)) (upd bB es.length e.2.2.1) (upd bA es.length (ahI e.2.2.2.1)) (upd bY es.length (nI e.2.2.2.2)) := by
  intro k x hk
  rcases Nat.lt_trichotomy k es.length with h1 | h1 | h1
  · rw [List.getElem?_append_left h1] at hk
    have hne : k ≠ es.length := by omega
    rw [pk_un hne, pk_un hne, pk_un hne, pk_un hne, pk_un hne]
    exact h k x hk
  · subst h1
    rw [List.getElem?_append_right (Nat.le_refl _), Nat.sub_self] at hk
    cases hk
    rw [pk_us, pk_us, pk_us, pk_us, pk_us]
    exact ⟨rfl, rfl, rfl, rfl, rfl⟩
  · rw [List.getElem?_eq_none (by rw [List.length_append]; simp; omega)] at hk
    cases hk
theorem hE_not {es : List En} {bF bL bB bA bY : Nat → Int32} (h : hE es bF bL bB bA bY) (hs : smE es) {f g k : Nat} {b : Int32} (hf : f < 16) (hg : g < 16) (hne : ¬ bF k = nI f ∨ ¬ bL k = nI g ∨ ¬ bB k = b) : ∀ e, es[k]? = some e → kyE e ≠ (f, g, b) := by
  intro e he heq
  obtain ⟨h1, h2, h3, -, -⟩ := h k e he
  obtain ⟨rfl, rfl, rfl⟩ : e.1 = f ∧ e.2.1 = g ∧ e.2.2.1 = b := by
    have := heq; simp only [kyE, Prod.mk.injEq] at this; exact this
  rcases hne with q | q | q
  · exact q h1
  · exact q h2
  · exact q h3
theorem hE_yes {es : List En} {bF bL bB bA bY : Nat → Int32} (h : hE es bF bL bB bA bY) (hs : smE es) {f g k : Nat} {b : Int32} (hf : f < 16) (hg : g < 16) (hk : k < es.length) (h1 : bF k = nI f) (h2 : bL k = nI g) (h3 : bB k = b) : (f, g, b) ∈ es.map kyE := by
  obtain ⟨e, he⟩ : ∃ e, es[k]? = some e := ⟨_, List.getElem?_eq_getElem hk⟩
  obtain ⟨q1, q2, q3, -, -⟩ := h k e he
  have hm := List.mem_of_getElem? he
  have hsm := hs e hm
  refine List.mem_map.mpr ⟨e, hm, ?_⟩
  have e1 : e.1 = f := (nI_eq (by omega) (by omega)).mp (q1.symm.trans h1)
  have e2 : e.2.1 = g := (nI_eq (by omega) (by omega)).mp (q2.symm.trans h2)
  have e3 : e.2.2.1 = b := q3.symm.trans h3
  rw [kyE, e1, e2, e3]
theorem ky_none {es : List En} {q : Ky} (h : ∀ j e, j < es.length → es[j]? = some e → kyE e ≠ q) : q ∉ es.map kyE := by
  intro hq
  obtain ⟨e, he, rfl⟩ := List.mem_map.mp hq
  obtain ⟨j, hj⟩ := List.getElem?_of_mem he
  exact h j e (List.getElem?_eq_some_iff.mp hj).1 hj rfl
/-- the bounded list of the growing one -/
theorem addC_take (cap : Nat) (es : List En) (e : En) : addC cap (es.take cap) e = (addE es e).take cap := by
  unfold addC addE
  have hsub : ∀ q, q ∈ (es.take cap).map kyE → q ∈ es.map kyE := by
    intro q hq
    obtain ⟨x, hx, rfl⟩ := List.mem_map.mp hq
    exact List.mem_map.mpr ⟨x, List.mem_of_mem_take hx, rfl⟩
  by_cases h1 : kyE e ∈ (es.take cap).map kyE
  · rw [if_pos (Or.inl h1), if_pos (hsub _ h1)]
  · by_cases h2 : cap ≤ es.length
    · rw [if_pos (Or.inr (by rw [List.length_take]; omega))]
      split
      · rfl
      · rw [List.take_append_of_le_length h2]
    · have h3 : es.take cap = es := List.take_of_length_le (by omega)
      rw [h3] at h1 ⊢
      rw [if_neg (by intro q; rcases q with q | q; exact h1 q; exact h2 q), if_neg h1, List.take_of_length_le (by rw [List.length_append]; simp; omega)]
set_option maxHeartbeats 4000000 in
set_option maxRecDepth 100000 in
theorem m_function (l : Launch) (dC : Nat → ClassId) (dI : Nat → Nat → Nat) (cI cZ : ClassId) (h : Nat → Nat) (sz : Nat) (xt xc xg : Int32) (aP aF aT aK bF bL bB bA bY bR oT oO oR bS : Nat → Int32) (nF : Nat) (n : Int32) (hF : nF ≤ 10) : Met l y_M_function w_M_function ({ frames := 0, cells := 0, slots := 0, locals := 0 }) (va_Pc [.ref (h 0), .int n] (fun U => U.heap.size = sz ∧ va_P (dC, dI) kls (wM h cI cZ xt (nI nF) xc xg aP aF aT aK bF bL bB bA bY bR oT oO oR bS) U.heap ∧ va_K (dC, dI) kls (tyM cI cZ) U ∧ va_D (fun _ => True) (wM h cI cZ xt (nI nF) xc xg aP aF aT aK bF bL bB bA bY bR oT oO oR bS))) (va_Qi (fun (r : Int32) (u : Int32 × Int32 × (Nat → Int32)) => ((¬ ∃ j, 1 ≤ j ∧ j ≤ 4 ∧ n = nI j) ∧ u.1 = nI 1 ∧ u.2.1 = nI nF ∧ u.2.2 = aP) ∨ ((∃ j, 1 ≤ j ∧ j ≤ 4 ∧ n = nI j) ∧ nF = 10 ∧ u.1 = nI 2 ∧ u.2.1 = nI nF ∧ u.2.2 = aP) ∨ ((∃ j, 1 ≤ j ∧ j ≤ 4 ∧ n = nI j) ∧ nF < 10 ∧ u.1 = nI 0 ∧ u.2.1 = nI (nF + 1) ∧ u.2.2 = upd aP nF n ∧ r = nI nF)) (fun (u : Int32 × Int32 × (Nat → Int32)) (t : State) => va_P (dC, dI) kls (wM h cI cZ u.1 u.2.1 xc xg u.2.2 aF aT aK bF bL bB bA bY bR oT oO oR bS) t.heap ∧ va_K (dC, dI) kls (tyM cI cZ) t ∧ va_D (va_A (wM h cI cZ xt (nI nF) xc xg aP aF aT aK bF bL bB bA bY bR oT oO oR bS) sz) (wM h cI cZ u.1 u.2.1 xc xg u.2.2 aF aT aK bF bL bB bA bY bR oT oO oR bS)) (va_A (wM h cI cZ xt (nI nF) xc xg aP aF aT aK bF bL bB bA bY bR oT oO oR bS) sz)) 0 0 (va_A (wM h cI cZ xt (nI nF) xc xg aP aF aT aK bF bL bB bA bY bR oT oO oR bS) sz) := by
  refine Met.ofW (cc := c_M_function) (maxL := 2) (ret := (some .int)) (by decide) rfl ?_
  intro p e s m args below meth c s₁ B hml hv
  obtain ⟨rfl, hsz, hP, hK, hD0⟩ := hv
  have hx := B.exec
  have hb := B.bytes
  have hr := B.returns
  have hts := atoms_spec (ws := w_M_function) B.pre
  have hk : ∀ w ∈ wMw, w.before _ s = true := fun w h => hts w (List.mem_cons_of_mem _ h)
  have hown : s.vm.findClass R_M = some m.cls := findClass_of_methodNamed B.named
  have hlocks := B.notSynchronized
  subst hsz
  have hD := hD0.self (sz := s.heap.size)
  generalize hAe : va_A (wM h cI cZ xt (nI nF) xc xg aP aF aT aK bF bL bB bA bY bR oT oO oR bS) s.heap.size = A at hD ⊢
  have hA : ∀ q : Nat, s.heap.size ≤ q → A q := fun q h => by rw [← hAe]; exact Or.inr h
  have hS : va_S A s.heap s.heap [] := va_S.rf
  have hl := lv_entry ([.ref (h 0), .int n]) (n := 2) (Nat.le_of_ble_eq_true rfl)
  rw [lg_entry_eq]
  generalize (lg_sl ([.ref (h 0), .int n]) ++ List.replicate (2 - (lg_sl ([.ref (h 0), .int n])).length) Slot.unset).toArray = ls at hl ⊢
  have hl : lv_has ls 2 [(0, .ref (h 0)), (1, .int n)] := hl
  refine lv_aload_n hx hb d_M_function_0 rfl (lv_at hl 0 rfl) ?_
  refine lv_iload_n hx hb d_M_function_1 rfl (lv_at hl 1 rfl) ?_
  refine lv_iconst (v := nI 1) hx hb d_M_function_2 (by decide +kernel) ?_
  refine lv_icmp_lt (tgt := 11) hx hb d_M_function_3 (by decide) (fun c_3 => ?_) (fun c_3 => ?_)
  · refine lv_iconst (v := nI 1) hx hb d_M_function_11 (by decide +kernel) ?_
    refine lv_goto (tgt := 29) hx hb d_M_function_12 (by decide) ?_
    refine va_put (D := (dC, dI)) (ci := 0) (v := .int (nI 1)) (ty := .int) (C := R_M) (T := F_M) (N := 18) hx hb hk k_M_f t_M t_M_ok n_M hown hK hP hD hS 0 rfl rfl 0 (by decide) (hk _ k_M_8) (fun _ h9 => h9) rfl (by decide +kernel) rfl rfl (Nat.le_of_ble_eq_true rfl) d_M_function_29 (fun H locs hP hD hS => ?_)
    have hP : va_P (dC, dI) kls (wM h cI cZ (nI 1) (nI nF) xc xg aP aF aT aK bF bL bB bA bY bR oT oO oR bS) H := hP
    have hD : va_D A (wM h cI cZ (nI 1) (nI nF) xc xg aP aF aT aK bF bL bB bA bY bR oT oO oR bS) := hD
    refine lv_aload_n hx hb d_M_function_32 rfl (lv_at hl 0 rfl) ?_
    refine va_get (D := (dC, dI)) (ci := 0) (v := .int (nI 1)) (C := R_M) (T := F_M) (N := 18) hx hb hk k_M_f hown hK hP 0 rfl rfl 0 (by decide) (hk _ k_M_8) (fun _ h9 => h9) rfl d_M_function_33 ?_
    refine lv_if_le (tgt := 41) hx hb d_M_function_36 (by decide) (fun c9 => absurd c9 (by decide +kernel)) (fun _ => ?_)
    refine lv_iconst (v := nI 0) hx hb d_M_function_39 (by decide +kernel) ?_
    exact W.iret (v := nI 0) hx hb hr (fun t ht hW => ⟨⟨nI 0, (nI 1, nI nF, aP), rfl, Or.inl ⟨no14 (by first | exact Or.inl c_3 | exact Or.inr c_8), rfl, rfl, rfl⟩, by rw [ht]; exact hP, va_K.moved hW.alike hK, hD⟩, hS.F ht⟩) hS.2.2 d_M_function_40
  · refine lv_iload_n hx hb d_M_function_6 rfl (lv_at hl 1 rfl) ?_
    refine lv_iconst (v := nI 4) hx hb d_M_function_7 (by decide +kernel) ?_
    refine lv_icmp_le (tgt := 15) hx hb d_M_function_8 (by decide) (fun c_8 => ?_) (fun c_8 => ?_)
    · refine lv_aload_n hx hb d_M_function_15 rfl (lv_at hl 0 rfl) ?_
      refine va_get (D := (dC, dI)) (ci := 0) (v := .int (nI nF)) (C := R_M) (T := F_M) (N := 18) hx hb hk k_M_f hown hK hP 0 rfl rfl 1 (by decide) (hk _ k_M_9) (fun _ h9 => h9) rfl d_M_function_16 ?_
      refine lv_bipush (v := nI 10) hx hb d_M_function_19 (by decide +kernel) ?_
      refine lv_icmp_ne (tgt := 28) hx hb d_M_function_21 (by decide) (fun c_21 => ?_) (fun c_21 => ?_)
      · have c_21 : ¬ nF = 10 := fun z9 => c_21 ((nI_eq (a := nF) (b := 10) (by omega) (by omega)).mpr z9)
        refine lv_iconst (v := nI 0) hx hb d_M_function_28 (by decide +kernel) ?_
        refine va_put (D := (dC, dI)) (ci := 0) (v := .int (nI 0)) (ty := .int) (C := R_M) (T := F_M) (N := 18) hx hb hk k_M_f t_M t_M_ok n_M hown hK hP hD hS 0 rfl rfl 0 (by decide) (hk _ k_M_8) (fun _ h9 => h9) rfl (by decide +kernel) rfl rfl (Nat.le_of_ble_eq_true rfl) d_M_function_29 (fun H locs hP hD hS => ?_)
        have hP : va_P (dC, dI) kls (wM h cI cZ (nI 0) (nI nF) xc xg aP aF aT aK bF bL bB bA bY bR oT oO oR bS) H := hP
        have hD : va_D A (wM h cI cZ (nI 0) (nI nF) xc xg aP aF aT aK bF bL bB bA bY bR oT oO oR bS) := hD
        refine lv_aload_n hx hb d_M_function_32 rfl (lv_at hl 0 rfl) ?_
        refine va_get (D := (dC, dI)) (ci := 0) (v := .int (nI 0)) (C := R_M) (T := F_M) (N := 18) hx hb hk k_M_f hown hK hP 0 rfl rfl 0 (by decide) (hk _ k_M_8) (fun _ h9 => h9) rfl d_M_function_33 ?_
        refine lv_if_le (tgt := 41) hx hb d_M_function_36 (by decide) (fun _ => ?_) (fun c9 => absurd c9 (by decide +kernel))
        refine lv_aload_n hx hb d_M_function_41 rfl (lv_at hl 0 rfl) ?_
        refine va_get (D := (dC, dI)) (ci := 0) (v := .ref (h 1)) (C := R_M) (T := F_M) (N := 18) hx hb hk k_M_f hown hK hP 0 rfl rfl 3 (by decide) (hk _ k_M_11) (fun _ h9 => h9) rfl d_M_function_42 ?_
        refine lv_aload_n hx hb d_M_function_45 rfl (lv_at hl 0 rfl) ?_
        refine va_get (D := (dC, dI)) (ci := 0) (v := .int (nI nF)) (C := R_M) (T := F_M) (N := 18) hx hb hk k_M_f hown hK hP 0 rfl rfl 1 (by decide) (hk _ k_M_9) (fun _ h9 => h9) rfl d_M_function_46 ?_
        refine lv_iload_n hx hb d_M_function_49 rfl (lv_at hl 1 rfl) ?_
        refine va_iast hx hb hK hP hD hS 1 0 rfl rfl (pk_in nF 10 (by omega)) d_M_function_50 (fun H locs hP hD hS => ?_)
        rw [nI_clamp (n := nF) (by omega)] at hP hD
        have hP : va_P (dC, dI) kls (wM h cI cZ (nI 0) (nI nF) xc xg (upd aP nF n) aF aT aK bF bL bB bA bY bR oT oO oR bS) H := hP
        have hD : va_D A (wM h cI cZ (nI 0) (nI nF) xc xg (upd aP nF n) aF aT aK bF bL bB bA bY bR oT oO oR bS) := hD
        refine lv_aload_n hx hb d_M_function_51 rfl (lv_at hl 0 rfl) ?_
        refine lv_dup hx hb d_M_function_52 rfl ?_
        refine va_get (D := (dC, dI)) (ci := 0) (v := .int (nI nF)) (C := R_M) (T := F_M) (N := 18) hx hb hk k_M_f hown hK hP 0 rfl rfl 1 (by decide) (hk _ k_M_9) (fun _ h9 => h9) rfl d_M_function_53 ?_
        refine lv_iconst (v := nI 1) hx hb d_M_function_56 (by decide +kernel) ?_
        refine lv_iadd hx hb d_M_function_57 ?_
        refine lv_topi (fun z1 ez1 => ?_)
        obtain rfl : z1 = nI (nF + 1) := ez1.trans (nI_add _ _)
        refine va_put (D := (dC, dI)) (ci := 0) (v := .int (nI (nF + 1))) (ty := .int) (C := R_M) (T := F_M) (N := 18) hx hb hk k_M_f t_M t_M_ok n_M hown hK hP hD hS 0 rfl rfl 1 (by decide) (hk _ k_M_9) (fun _ h9 => h9) rfl (by decide +kernel) rfl rfl (Nat.le_of_ble_eq_true rfl) d_M_function_58 (fun H locs hP hD hS => ?_)
        have hP : va_P (dC, dI) kls (wM h cI cZ (nI 0) (nI (nF + 1)) xc xg (upd aP nF n) aF aT aK bF bL bB bA bY bR oT oO oR bS) H := hP
        have hD : va_D A (wM h cI cZ (nI 0) (nI (nF + 1)) xc xg (upd aP nF n) aF aT aK bF bL bB bA bY bR oT oO oR bS) := hD
        refine lv_aload_n hx hb d_M_function_61 rfl (lv_at hl 0 rfl) ?_
        refine va_get (D := (dC, dI)) (ci := 0) (v := .int (nI (nF + 1))) (C := R_M) (T := F_M) (N := 18) hx hb hk k_M_f hown hK hP 0 rfl rfl 1 (by decide) (hk _ k_M_9) (fun _ h9 => h9) rfl d_M_function_62 ?_
        refine lv_iconst (v := nI 1) hx hb d_M_function_65 (by decide +kernel) ?_
        refine lv_isub hx hb d_M_function_66 ?_
        refine lv_topi (fun z2 ez2 => ?_)
        obtain rfl : z2 = nI nF := ez2.trans (pk_sub (by omega))
        exact W.iret (v := nI nF) hx hb hr (fun t ht hW => ⟨⟨nI nF, (nI 0, nI (nF + 1), upd aP nF n), rfl, Or.inr (Or.inr ⟨in14 c_3 c_8, by omega, rfl, rfl, rfl, rfl⟩), by rw [ht]; exact hP, va_K.moved hW.alike hK, hD⟩, hS.F ht⟩) hS.2.2 d_M_function_67
      · have c_21 : nF = 10 := (nI_eq (a := nF) (b := 10) (by omega) (by omega)).mp c_21
        refine lv_iconst (v := nI 2) hx hb d_M_function_24 (by decide +kernel) ?_
        refine lv_goto (tgt := 29) hx hb d_M_function_25 (by decide) ?_
        refine va_put (D := (dC, dI)) (ci := 0) (v := .int (nI 2)) (ty := .int) (C := R_M) (T := F_M) (N := 18) hx hb hk k_M_f t_M t_M_ok n_M hown hK hP hD hS 0 rfl rfl 0 (by decide) (hk _ k_M_8) (fun _ h9 => h9) rfl (by decide +kernel) rfl rfl (Nat.le_of_ble_eq_true rfl) d_M_function_29 (fun H locs hP hD hS => ?_)
        have hP : va_P (dC, dI) kls (wM h cI cZ (nI 2) (nI nF) xc xg aP aF aT aK bF bL bB bA bY bR oT oO oR bS) H := hP
        have hD : va_D A (wM h cI cZ (nI 2) (nI nF) xc xg aP aF aT aK bF bL bB bA bY bR oT oO oR bS) := hD
        refine lv_aload_n hx hb d_M_function_32 rfl (lv_at hl 0 rfl) ?_
        refine va_get (D := (dC, dI)) (ci := 0) (v := .int (nI 2)) (C := R_M) (T := F_M) (N := 18) hx hb hk k_M_f hown hK hP 0 rfl rfl 0 (by decide) (hk _ k_M_8) (fun _ h9 => h9) rfl d_M_function_33 ?_
        refine lv_if_le (tgt := 41) hx hb d_M_function_36 (by decide) (fun c9 => absurd c9 (by decide +kernel)) (fun _ => ?_)
        refine lv_iconst (v := nI 0) hx hb d_M_function_39 (by decide +kernel) ?_
        exact W.iret (v := nI 0) hx hb hr (fun t ht hW => ⟨⟨nI 0, (nI 2, nI nF, aP), rfl, Or.inr (Or.inl ⟨in14 c_3 c_8, c_21, rfl, rfl, rfl⟩), by rw [ht]; exact hP, va_K.moved hW.alike hK, hD⟩, hS.F ht⟩) hS.2.2 d_M_function_40
    · refine lv_iconst (v := nI 1) hx hb d_M_function_11 (by decide +kernel) ?_
      refine lv_goto (tgt := 29) hx hb d_M_function_12 (by decide) ?_
      refine va_put (D := (dC, dI)) (ci := 0) (v := .int (nI 1)) (ty := .int) (C := R_M) (T := F_M) (N := 18) hx hb hk k_M_f t_M t_M_ok n_M hown hK hP hD hS 0 rfl rfl 0 (by decide) (hk _ k_M_8) (fun _ h9 => h9) rfl (by decide +kernel) rfl rfl (Nat.le_of_ble_eq_true rfl) d_M_function_29 (fun H locs hP hD hS => ?_)
      have hP : va_P (dC, dI) kls (wM h cI cZ (nI 1) (nI nF) xc xg aP aF aT aK bF bL bB bA bY bR oT oO oR bS) H := hP
      have hD : va_D A (wM h cI cZ (nI 1) (nI nF) xc xg aP aF aT aK bF bL bB bA bY bR oT oO oR bS) := hD
      refine lv_aload_n hx hb d_M_function_32 rfl (lv_at hl 0 rfl) ?_
      refine va_get (D := (dC, dI)) (ci := 0) (v := .int (nI 1)) (C := R_M) (T := F_M) (N := 18) hx hb hk k_M_f hown hK hP 0 rfl rfl 0 (by decide) (hk _ k_M_8) (fun _ h9 => h9) rfl d_M_function_33 ?_
      refine lv_if_le (tgt := 41) hx hb d_M_function_36 (by decide) (fun c9 => absurd c9 (by decide +kernel)) (fun _ => ?_)
      refine lv_iconst (v := nI 0) hx hb d_M_function_39 (by decide +kernel) ?_
      exact W.iret (v := nI 0) hx hb hr (fun t ht hW => ⟨⟨nI 0, (nI 1, nI nF, aP), rfl, Or.inl ⟨no14 (by first | exact Or.inl c_3 | exact Or.inr c_8), rfl, rfl, rfl⟩, by rw [ht]; exact hP, va_K.moved hW.alike hK, hD⟩, hS.F ht⟩) hS.2.2 d_M_function_40
set_option maxHeartbeats 4000000 in
set_option maxRecDepth 100000 in
theorem m_told (l : Launch) (dC : Nat → ClassId) (dI : Nat → Nat → Nat) (cI cZ : ClassId) (h : Nat → Nat) (sz : Nat) (xt xf xg : Int32) (aP aF aT aK bF bL bB bA bY bR oT oO oR bS : Nat → Int32) (nC : Nat) (q w : Int32) (hC : nC ≤ 20) : Met l y_M_told w_M_told ({ frames := 0, cells := 0, slots := 0, locals := 0 }) (va_Pc [.ref (h 0), .int q, .int w] (fun U => U.heap.size = sz ∧ va_P (dC, dI) kls (wM h cI cZ xt xf (nI nC) xg aP aF aT aK bF bL bB bA bY bR oT oO oR bS) U.heap ∧ va_K (dC, dI) kls (tyM cI cZ) U ∧ va_D (fun _ => True) (wM h cI cZ xt xf (nI nC) xg aP aF aT aK bF bL bB bA bY bR oT oO oR bS))) (va_Qi (fun (r : Int32) (u : Int32) => u = nI 0 ∧ (((¬ ∃ j, j < nC ∧ q = nI j) ∧ r = -1) ∨ ∃ j, j < nC ∧ q = nI j ∧ r = (if w = 0 then aF j else if w = nI 1 then aT j else if w = nI 2 then aK j else -1))) (fun (u : Int32) (t : State) => va_P (dC, dI) kls (wM h cI cZ u xf (nI nC) xg aP aF aT aK bF bL bB bA bY bR oT oO oR bS) t.heap ∧ va_K (dC, dI) kls (tyM cI cZ) t ∧ va_D (va_A (wM h cI cZ xt xf (nI nC) xg aP aF aT aK bF bL bB bA bY bR oT oO oR bS) sz) (wM h cI cZ u xf (nI nC) xg aP aF aT aK bF bL bB bA bY bR oT oO oR bS)) (va_A (wM h cI cZ xt xf (nI nC) xg aP aF aT aK bF bL bB bA bY bR oT oO oR bS) sz)) 0 0 (va_A (wM h cI cZ xt xf (nI nC) xg aP aF aT aK bF bL bB bA bY bR oT oO oR bS) sz) := by
  refine Met.ofW (cc := c_M_told) (maxL := 3) (ret := (some .int)) (by decide) rfl ?_
  intro p e s m args below meth c s₁ B hml hv
  obtain ⟨rfl, hsz, hP, hK, hD0⟩ := hv
  have hx := B.exec
  have hb := B.bytes
  have hr := B.returns
  have hts := atoms_spec (ws := w_M_told) B.pre
  have hk : ∀ w ∈ wMw, w.before _ s = true := fun w h => hts w (List.mem_cons_of_mem _ h)
  have hown : s.vm.findClass R_M = some m.cls := findClass_of_methodNamed B.named
  have hlocks := B.notSynchronized
  subst hsz
  have hD := hD0.self (sz := s.heap.size)
  generalize hAe : va_A (wM h cI cZ xt xf (nI nC) xg aP aF aT aK bF bL bB bA bY bR oT oO oR bS) s.heap.size = A at hD ⊢
  have hA : ∀ q : Nat, s.heap.size ≤ q → A q := fun q h => by rw [← hAe]; exact Or.inr h
  have hS : va_S A s.heap s.heap [] := va_S.rf
  have hl := lv_entry ([.ref (h 0), .int q, .int w]) (n := 3) (Nat.le_of_ble_eq_true rfl)
  rw [lg_entry_eq]
  generalize (lg_sl ([.ref (h 0), .int q, .int w]) ++ List.replicate (3 - (lg_sl ([.ref (h 0), .int q, .int w])).length) Slot.unset).toArray = ls at hl ⊢
  have hl : lv_has ls 3 [(0, .ref (h 0)), (1, .int q), (2, .int w)] := hl
  refine lv_aload_n hx hb d_M_told_0 rfl (lv_at hl 0 rfl) ?_
  refine lv_iconst (v := nI 0) hx hb d_M_told_1 (by decide +kernel) ?_
  refine va_put (D := (dC, dI)) (ci := 0) (v := .int (nI 0)) (ty := .int) (C := R_M) (T := F_M) (N := 18) hx hb hk k_M_f t_M t_M_ok n_M hown hK hP hD hS 0 rfl rfl 0 (by decide) (hk _ k_M_8) (fun _ h9 => h9) rfl (by decide +kernel) rfl rfl (Nat.le_of_ble_eq_true rfl) d_M_told_2 (fun H locs hP hD hS => ?_)
  have hP : va_P (dC, dI) kls (wM h cI cZ (nI 0) xf (nI nC) xg aP aF aT aK bF bL bB bA bY bR oT oO oR bS) H := hP
  have hD : va_D A (wM h cI cZ (nI 0) xf (nI nC) xg aP aF aT aK bF bL bB bA bY bR oT oO oR bS) := hD
  refine lv_iload_n hx hb d_M_told_5 rfl (lv_at hl 1 rfl) ?_
  refine lv_if_lt (tgt := 17) hx hb d_M_told_6 (by decide) (fun c_6 => ?_) (fun c_6 => ?_)
  · refine lv_iconst (v := (-1)) hx hb d_M_told_17 (by decide +kernel) ?_
    have hno : ¬ ∃ j, j < nC ∧ q = nI j := by
      rintro ⟨j, hj, rfl⟩
      first
        | exact nI_pos (by omega) c_6
        | exact c_14 (nI_lt hj (by omega))
    exact W.iret (v := (-1)) hx hb hr (fun t ht hW => ⟨⟨(-1), nI 0, rfl, ⟨rfl, Or.inl ⟨hno, rfl⟩⟩, by rw [ht]; exact hP, va_K.moved hW.alike hK, hD⟩, hS.F ht⟩) hS.2.2 d_M_told_18
  · refine lv_iload_n hx hb d_M_told_9 rfl (lv_at hl 1 rfl) ?_
    refine lv_aload_n hx hb d_M_told_10 rfl (lv_at hl 0 rfl) ?_
    refine va_get (D := (dC, dI)) (ci := 0) (v := .int (nI nC)) (C := R_M) (T := F_M) (N := 18) hx hb hk k_M_f hown hK hP 0 rfl rfl 2 (by decide) (hk _ k_M_10) (fun _ h9 => h9) rfl d_M_told_11 ?_
    refine lv_icmp_lt (tgt := 19) hx hb d_M_told_14 (by decide) (fun c_14 => ?_) (fun c_14 => ?_)
    · obtain ⟨j, hj9, rfl⟩ := nI_of c_6
      have hj : j < nC := (nI_ltI hj9 (by omega)).mp c_14
      refine lv_iload_n hx hb d_M_told_19 rfl (lv_at hl 2 rfl) ?_
      refine lv_if_ne (tgt := 32) hx hb d_M_told_20 (by decide) (fun c_20 => ?_) (fun c_20 => ?_)
      · refine lv_iload_n hx hb d_M_told_32 rfl (lv_at hl 2 rfl) ?_
        refine lv_iconst (v := nI 1) hx hb d_M_told_33 (by decide +kernel) ?_
        refine lv_icmp_ne (tgt := 46) hx hb d_M_told_34 (by decide) (fun c_34 => ?_) (fun c_34 => ?_)
        · refine lv_iload_n hx hb d_M_told_46 rfl (lv_at hl 2 rfl) ?_
          refine lv_iconst (v := nI 2) hx hb d_M_told_47 (by decide +kernel) ?_
          refine lv_icmp_ne (tgt := 60) hx hb d_M_told_48 (by decide) (fun c_48 => ?_) (fun c_48 => ?_)
          · refine lv_iconst (v := (-1)) hx hb d_M_told_60 (by decide +kernel) ?_
            have hq : (-1) = (if w = 0 then aF j else if w = nI 1 then aT j else if w = nI 2 then aK j else -1) := by
              first
                | rw [if_pos c_20]
                | rw [if_neg c_20, if_pos c_34]
                | rw [if_neg c_20, if_neg c_34, if_pos c_48]
                | rw [if_neg c_20, if_neg c_34, if_neg c_48]
            exact W.iret (v := (-1)) hx hb hr (fun t ht hW => ⟨⟨(-1), nI 0, rfl, ⟨rfl, Or.inr ⟨j, hj, rfl, hq⟩⟩, by rw [ht]; exact hP, va_K.moved hW.alike hK, hD⟩, hS.F ht⟩) hS.2.2 d_M_told_61
          · refine lv_aload_n hx hb d_M_told_51 rfl (lv_at hl 0 rfl) ?_
            refine va_get (D := (dC, dI)) (ci := 0) (v := .ref (h 4)) (C := R_M) (T := F_M) (N := 18) hx hb hk k_M_f hown hK hP 0 rfl rfl 6 (by decide) (hk _ k_M_14) (fun _ h9 => h9) rfl d_M_told_52 ?_
            refine lv_iload_n hx hb d_M_told_55 rfl (lv_at hl 1 rfl) ?_
            refine va_iald hx hb hK hP 4 0 rfl rfl (pk_in j 20 (by omega)) d_M_told_56 ?_
            refine lv_topi (fun z1 ez1 => ?_)
            obtain rfl : z1 = aK j := ez1.trans (rd (f := aK) (k := j) (by omega))
            refine lv_goto (tgt := 61) hx hb d_M_told_57 (by decide) ?_
            have hq : aK j = (if w = 0 then aF j else if w = nI 1 then aT j else if w = nI 2 then aK j else -1) := by
              first
                | rw [if_pos c_20]
                | rw [if_neg c_20, if_pos c_34]
                | rw [if_neg c_20, if_neg c_34, if_pos c_48]
                | rw [if_neg c_20, if_neg c_34, if_neg c_48]
            exact W.iret (v := aK j) hx hb hr (fun t ht hW => ⟨⟨aK j, nI 0, rfl, ⟨rfl, Or.inr ⟨j, hj, rfl, hq⟩⟩, by rw [ht]; exact hP, va_K.moved hW.alike hK, hD⟩, hS.F ht⟩) hS.2.2 d_M_told_61
        · refine lv_aload_n hx hb d_M_told_37 rfl (lv_at hl 0 rfl) ?_
          refine va_get (D := (dC, dI)) (ci := 0) (v := .ref (h 3)) (C := R_M) (T := F_M) (N := 18) hx hb hk k_M_f hown hK hP 0 rfl rfl 5 (by decide) (hk _ k_M_13) (fun _ h9 => h9) rfl d_M_told_38 ?_
          refine lv_iload_n hx hb d_M_told_41 rfl (lv_at hl 1 rfl) ?_
          refine va_iald hx hb hK hP 3 0 rfl rfl (pk_in j 20 (by omega)) d_M_told_42 ?_
          refine lv_topi (fun z2 ez2 => ?_)
          obtain rfl : z2 = aT j := ez2.trans (rd (f := aT) (k := j) (by omega))
          refine lv_goto (tgt := 61) hx hb d_M_told_43 (by decide) ?_
          have hq : aT j = (if w = 0 then aF j else if w = nI 1 then aT j else if w = nI 2 then aK j else -1) := by
            first
              | rw [if_pos c_20]
              | rw [if_neg c_20, if_pos c_34]
              | rw [if_neg c_20, if_neg c_34, if_pos c_48]
              | rw [if_neg c_20, if_neg c_34, if_neg c_48]
          exact W.iret (v := aT j) hx hb hr (fun t ht hW => ⟨⟨aT j, nI 0, rfl, ⟨rfl, Or.inr ⟨j, hj, rfl, hq⟩⟩, by rw [ht]; exact hP, va_K.moved hW.alike hK, hD⟩, hS.F ht⟩) hS.2.2 d_M_told_61
      · refine lv_aload_n hx hb d_M_told_23 rfl (lv_at hl 0 rfl) ?_
        refine va_get (D := (dC, dI)) (ci := 0) (v := .ref (h 2)) (C := R_M) (T := F_M) (N := 18) hx hb hk k_M_f hown hK hP 0 rfl rfl 4 (by decide) (hk _ k_M_12) (fun _ h9 => h9) rfl d_M_told_24 ?_
        refine lv_iload_n hx hb d_M_told_27 rfl (lv_at hl 1 rfl) ?_
        refine va_iald hx hb hK hP 2 0 rfl rfl (pk_in j 20 (by omega)) d_M_told_28 ?_
        refine lv_topi (fun z3 ez3 => ?_)
        obtain rfl : z3 = aF j := ez3.trans (rd (f := aF) (k := j) (by omega))
        refine lv_goto (tgt := 61) hx hb d_M_told_29 (by decide) ?_
        have hq : aF j = (if w = 0 then aF j else if w = nI 1 then aT j else if w = nI 2 then aK j else -1) := by
          first
            | rw [if_pos c_20]
            | rw [if_neg c_20, if_pos c_34]
            | rw [if_neg c_20, if_neg c_34, if_pos c_48]
            | rw [if_neg c_20, if_neg c_34, if_neg c_48]
        exact W.iret (v := aF j) hx hb hr (fun t ht hW => ⟨⟨aF j, nI 0, rfl, ⟨rfl, Or.inr ⟨j, hj, rfl, hq⟩⟩, by rw [ht]; exact hP, va_K.moved hW.alike hK, hD⟩, hS.F ht⟩) hS.2.2 d_M_told_61
    · refine lv_iconst (v := (-1)) hx hb d_M_told_17 (by decide +kernel) ?_
      have hno : ¬ ∃ j, j < nC ∧ q = nI j := by
        rintro ⟨j, hj, rfl⟩
        first
          | exact nI_pos (by omega) c_6
          | exact c_14 (nI_lt hj (by omega))
      exact W.iret (v := (-1)) hx hb hr (fun t ht hW => ⟨⟨(-1), nI 0, rfl, ⟨rfl, Or.inl ⟨hno, rfl⟩⟩, by rw [ht]; exact hP, va_K.moved hW.alike hK, hD⟩, hS.F ht⟩) hS.2.2 d_M_told_18
set_option maxHeartbeats 4000000 in
set_option maxRecDepth 100000 in
theorem m_isLess (l : Launch) (a b : Int32) : Met l y_M_isLess w_M_isLess ({ frames := 0, cells := 0, slots := 0, locals := 0 }) (va_Pc [.int a, .int b] (fun _ => True)) (vp_Si (fun r => (r = nI 1 ∧ uN a < uN b) ∨ (r = nI 0 ∧ ¬ uN a < uN b))) 0 0 (fun _ => False) := by
  refine Met.ofW (cc := c_M_isLess) (maxL := 2) (ret := (some .boolean)) (by decide) rfl ?_
  intro p e s m args below meth c s₁ B hml hv
  obtain ⟨rfl, -⟩ := hv
  have hx := B.exec
  have hb := B.bytes
  have hr := B.returns
  have hts := atoms_spec (ws := w_M_isLess) B.pre
  have hk : ∀ w ∈ wMw, w.before _ s = true := fun w h => hts w (List.mem_cons_of_mem _ h)
  have hown : s.vm.findClass R_M = some m.cls := findClass_of_methodNamed B.named
  have hlocks := B.notSynchronized
  have hl := lv_entry ([.int a, .int b]) (n := 2) (Nat.le_of_ble_eq_true rfl)
  rw [lg_entry_eq]
  generalize (lg_sl ([.int a, .int b]) ++ List.replicate (2 - (lg_sl ([.int a, .int b])).length) Slot.unset).toArray = ls at hl ⊢
  have hl : lv_has ls 2 [(0, .int a), (1, .int b)] := hl
  refine lv_iload_n hx hb d_M_isLess_0 rfl (lv_at hl 0 rfl) ?_
  refine lv_if_ge (tgt := 8) hx hb d_M_isLess_1 (by decide) (fun c_1 => ?_) (fun c_1 => ?_)
  · refine lv_iconst (v := nI 0) hx hb d_M_isLess_8 (by decide +kernel) ?_
    refine lv_iload_n hx hb d_M_isLess_9 rfl (lv_at hl 1 rfl) ?_
    refine lv_if_ge (tgt := 17) hx hb d_M_isLess_10 (by decide) (fun c_10 => ?_) (fun c_10 => ?_)
    · refine lv_iconst (v := nI 0) hx hb d_M_isLess_17 (by decide +kernel) ?_
      refine lv_icmp_ne (tgt := 34) hx hb d_M_isLess_18 (by decide) (fun c9 => absurd c9 (by decide +kernel)) (fun _ => ?_)
      refine lv_iload_n hx hb d_M_isLess_21 rfl (lv_at hl 0 rfl) ?_
      refine lv_iload_n hx hb d_M_isLess_22 rfl (lv_at hl 1 rfl) ?_
      refine lv_icmp_ge (tgt := 30) hx hb d_M_isLess_23 (by decide) (fun c_23 => ?_) (fun c_23 => ?_)
      · refine lv_iconst (v := nI 0) hx hb d_M_isLess_30 (by decide +kernel) ?_
        refine lv_goto (tgt := 43) hx hb d_M_isLess_31 (by decide) ?_
        have hq : ¬ uN a < uN b := by
          have ha := uI a
          have hb9 := uI b
          have ha2 := uN_lt a
          have hb2 := uN_lt b
          have e0 : (0 : Int32).toInt = 0 := by decide +kernel
          rw [Int32.le_iff_toInt_le] at c_1 c_10
          try rw [Int32.le_iff_toInt_le] at c_23
          try rw [Int32.le_iff_toInt_le] at c_35
          split at ha <;> split at hb9 <;> omega
        exact W.zret (v := nI 0) (ty := .boolean) hx hb hr rfl (fun t ht hW => ⟨nI 0, rfl, Or.inr ⟨rfl, hq⟩, ht⟩) (fun q h9 => absurd h9 List.not_mem_nil) d_M_isLess_43
      · refine lv_iconst (v := nI 1) hx hb d_M_isLess_26 (by decide +kernel) ?_
        refine lv_goto (tgt := 43) hx hb d_M_isLess_27 (by decide) ?_
        have hq : uN a < uN b := by
          have ha := uI a
          have hb9 := uI b
          have ha2 := uN_lt a
          have hb2 := uN_lt b
          have e0 : (0 : Int32).toInt = 0 := by decide +kernel
          rw [Int32.le_iff_toInt_le] at c_1 c_10
          try rw [Int32.le_iff_toInt_le] at c_23
          try rw [Int32.le_iff_toInt_le] at c_35
          split at ha <;> split at hb9 <;> omega
        exact W.zret (v := nI 1) (ty := .boolean) hx hb hr rfl (fun t ht hW => ⟨nI 1, rfl, Or.inl ⟨rfl, hq⟩, ht⟩) (fun q h9 => absurd h9 List.not_mem_nil) d_M_isLess_43
    · refine lv_iconst (v := nI 1) hx hb d_M_isLess_13 (by decide +kernel) ?_
      refine lv_goto (tgt := 18) hx hb d_M_isLess_14 (by decide) ?_
      refine lv_icmp_ne (tgt := 34) hx hb d_M_isLess_18 (by decide) (fun _ => ?_) (fun c9 => absurd c9 (by decide +kernel))
      refine lv_iload_n hx hb d_M_isLess_34 rfl (lv_at hl 1 rfl) ?_
      refine lv_if_ge (tgt := 42) hx hb d_M_isLess_35 (by decide) (fun c_35 => ?_) (fun c_35 => ?_)
      · refine lv_iconst (v := nI 0) hx hb d_M_isLess_42 (by decide +kernel) ?_
        have hq : ¬ uN a < uN b := by
          have ha := uI a
          have hb9 := uI b
          have ha2 := uN_lt a
          have hb2 := uN_lt b
          have e0 : (0 : Int32).toInt = 0 := by decide +kernel
          rw [Int32.le_iff_toInt_le] at c_1 c_10
          try rw [Int32.le_iff_toInt_le] at c_23
          try rw [Int32.le_iff_toInt_le] at c_35
          split at ha <;> split at hb9 <;> omega
        exact W.zret (v := nI 0) (ty := .boolean) hx hb hr rfl (fun t ht hW => ⟨nI 0, rfl, Or.inr ⟨rfl, hq⟩, ht⟩) (fun q h9 => absurd h9 List.not_mem_nil) d_M_isLess_43
      · refine lv_iconst (v := nI 1) hx hb d_M_isLess_38 (by decide +kernel) ?_
        refine lv_goto (tgt := 43) hx hb d_M_isLess_39 (by decide) ?_
        have hq : uN a < uN b := by
          have ha := uI a
          have hb9 := uI b
          have ha2 := uN_lt a
          have hb2 := uN_lt b
          have e0 : (0 : Int32).toInt = 0 := by decide +kernel
          rw [Int32.le_iff_toInt_le] at c_1 c_10
          try rw [Int32.le_iff_toInt_le] at c_23
          try rw [Int32.le_iff_toInt_le] at c_35
          split at ha <;> split at hb9 <;> omega
        exact W.zret (v := nI 1) (ty := .boolean) hx hb hr rfl (fun t ht hW => ⟨nI 1, rfl, Or.inl ⟨rfl, hq⟩, ht⟩) (fun q h9 => absurd h9 List.not_mem_nil) d_M_isLess_43
  · refine lv_iconst (v := nI 1) hx hb d_M_isLess_4 (by decide +kernel) ?_
    refine lv_goto (tgt := 9) hx hb d_M_isLess_5 (by decide) ?_
    refine lv_iload_n hx hb d_M_isLess_9 rfl (lv_at hl 1 rfl) ?_
    refine lv_if_ge (tgt := 17) hx hb d_M_isLess_10 (by decide) (fun c_10 => ?_) (fun c_10 => ?_)
    · refine lv_iconst (v := nI 0) hx hb d_M_isLess_17 (by decide +kernel) ?_
      refine lv_icmp_ne (tgt := 34) hx hb d_M_isLess_18 (by decide) (fun _ => ?_) (fun c9 => absurd c9 (by decide +kernel))
      refine lv_iload_n hx hb d_M_isLess_34 rfl (lv_at hl 1 rfl) ?_
      refine lv_if_ge (tgt := 42) hx hb d_M_isLess_35 (by decide) (fun c_35 => ?_) (fun c_35 => ?_)
      · refine lv_iconst (v := nI 0) hx hb d_M_isLess_42 (by decide +kernel) ?_
        have hq : ¬ uN a < uN b := by
          have ha := uI a
          have hb9 := uI b
          have ha2 := uN_lt a
          have hb2 := uN_lt b
          have e0 : (0 : Int32).toInt = 0 := by decide +kernel
          rw [Int32.le_iff_toInt_le] at c_1 c_10
          try rw [Int32.le_iff_toInt_le] at c_23
          try rw [Int32.le_iff_toInt_le] at c_35
          split at ha <;> split at hb9 <;> omega
        exact W.zret (v := nI 0) (ty := .boolean) hx hb hr rfl (fun t ht hW => ⟨nI 0, rfl, Or.inr ⟨rfl, hq⟩, ht⟩) (fun q h9 => absurd h9 List.not_mem_nil) d_M_isLess_43
      · refine lv_iconst (v := nI 1) hx hb d_M_isLess_38 (by decide +kernel) ?_
        refine lv_goto (tgt := 43) hx hb d_M_isLess_39 (by decide) ?_
        have hq : uN a < uN b := by
          have ha := uI a
          have hb9 := uI b
          have ha2 := uN_lt a
          have hb2 := uN_lt b
          have e0 : (0 : Int32).toInt = 0 := by decide +kernel
          rw [Int32.le_iff_toInt_le] at c_1 c_10
          try rw [Int32.le_iff_toInt_le] at c_23
          try rw [Int32.le_iff_toInt_le] at c_35
          split at ha <;> split at hb9 <;> omega
        exact W.zret (v := nI 1) (ty := .boolean) hx hb hr rfl (fun t ht hW => ⟨nI 1, rfl, Or.inl ⟨rfl, hq⟩, ht⟩) (fun q h9 => absurd h9 List.not_mem_nil) d_M_isLess_43
    · refine lv_iconst (v := nI 1) hx hb d_M_isLess_13 (by decide +kernel) ?_
      refine lv_goto (tgt := 18) hx hb d_M_isLess_14 (by decide) ?_
      refine lv_icmp_ne (tgt := 34) hx hb d_M_isLess_18 (by decide) (fun c9 => absurd c9 (by decide +kernel)) (fun _ => ?_)
      refine lv_iload_n hx hb d_M_isLess_21 rfl (lv_at hl 0 rfl) ?_
      refine lv_iload_n hx hb d_M_isLess_22 rfl (lv_at hl 1 rfl) ?_
      refine lv_icmp_ge (tgt := 30) hx hb d_M_isLess_23 (by decide) (fun c_23 => ?_) (fun c_23 => ?_)
      · refine lv_iconst (v := nI 0) hx hb d_M_isLess_30 (by decide +kernel) ?_
        refine lv_goto (tgt := 43) hx hb d_M_isLess_31 (by decide) ?_
        have hq : ¬ uN a < uN b := by
          have ha := uI a
          have hb9 := uI b
          have ha2 := uN_lt a
          have hb2 := uN_lt b
          have e0 : (0 : Int32).toInt = 0 := by decide +kernel
          rw [Int32.le_iff_toInt_le] at c_1 c_10
          try rw [Int32.le_iff_toInt_le] at c_23
          try rw [Int32.le_iff_toInt_le] at c_35
          split at ha <;> split at hb9 <;> omega
        exact W.zret (v := nI 0) (ty := .boolean) hx hb hr rfl (fun t ht hW => ⟨nI 0, rfl, Or.inr ⟨rfl, hq⟩, ht⟩) (fun q h9 => absurd h9 List.not_mem_nil) d_M_isLess_43
      · refine lv_iconst (v := nI 1) hx hb d_M_isLess_26 (by decide +kernel) ?_
        refine lv_goto (tgt := 43) hx hb d_M_isLess_27 (by decide) ?_
        have hq : uN a < uN b := by
          have ha := uI a
          have hb9 := uI b
          have ha2 := uN_lt a
          have hb2 := uN_lt b
          have e0 : (0 : Int32).toInt = 0 := by decide +kernel
          rw [Int32.le_iff_toInt_le] at c_1 c_10
          try rw [Int32.le_iff_toInt_le] at c_23
          try rw [Int32.le_iff_toInt_le] at c_35
          split at ha <;> split at hb9 <;> omega
        exact W.zret (v := nI 1) (ty := .boolean) hx hb hr rfl (fun t ht hW => ⟨nI 1, rfl, Or.inl ⟨rfl, hq⟩, ht⟩) (fun q h9 => absurd h9 List.not_mem_nil) d_M_isLess_43
set_option maxHeartbeats 4000000 in
set_option maxRecDepth 100000 in
theorem m_joined (l : Launch) (a b : Int32) : Met l y_M_joined w_M_joined ({ frames := 1, cells := 0, slots := 0, locals := 22 }) (va_Pc [.int a, .int b] (fun _ => True)) (vp_Si (fun r => r = rj a b)) 0 0 (fun _ => False) := by
  refine Met.ofW (cc := c_M_joined) (maxL := 10) (ret := (some .int)) (by decide) rfl ?_
  intro p e s m args below meth c s₁ B hml hv
  obtain ⟨rfl, -⟩ := hv
  have hx := B.exec
  have hb := B.bytes
  have hr := B.returns
  have hts := atoms_spec (ws := w_M_joined) B.pre
  have hk : ∀ w ∈ wMw, w.before _ s = true := fun w h => hts w (List.mem_cons_of_mem _ h)
  have hown : s.vm.findClass R_M = some m.cls := findClass_of_methodNamed B.named
  have hlocks := B.notSynchronized
  have hl := lv_entry ([.int a, .int b]) (n := 10) (Nat.le_of_ble_eq_true rfl)
  rw [lg_entry_eq]
  generalize (lg_sl ([.int a, .int b]) ++ List.replicate (10 - (lg_sl ([.int a, .int b])).length) Slot.unset).toArray = ls at hl ⊢
  have hl : lv_has ls 10 [(0, .int a), (1, .int b)] := hl
  refine lv_iconst (v := nI 0) hx hb d_M_joined_0 (by decide +kernel) ?_
  refine lv_istore_n (lv' := [(2, .int (nI 0)), (0, .int a), (1, .int b)]) hx hb d_M_joined_1 rfl hl (by decide) rfl (fun ls hl => ?_)
  refine lv_iconst (v := nI 0) hx hb d_M_joined_2 (by decide +kernel) ?_
  refine lv_istore_n (lv' := [(3, .int (nI 0)), (2, .int (nI 0)), (0, .int a), (1, .int b)]) hx hb d_M_joined_3 rfl hl (by decide) rfl (fun ls hl => ?_)
  have lp1 : ∀ (n_lp1 : Nat) (i : Nat), (i ≤ 4) → 4 - i < n_lp1 → ∀ (ls : Array Slot), lv_has ls 10 [(0, .int a), (1, .int b), (2, .int (pkI (fun x y => moN a b x y 4) 4 i)), (3, .int (nI i))] → W p l e (headSpec w_M_joined ({ frames := 1, cells := 0, slots := 0, locals := 22 })).room s m ([.int a, .int b]).toArray below meth c s.heap [] 0 0 (MQ below (vp_Si (fun r => r = rj a b)) ([.int a, .int b]).toArray s 0 0 (fun _ => False)) (F0 m 4 ls []) := by
    intro n_lp1
    induction n_lp1 with
    | zero => intro i hi hn; exact absurd hn (Nat.not_lt_zero _)
    | succ n_lp1 ih_lp1 =>
      intro i hi hn ls hl
      refine lv_iload_n hx hb d_M_joined_4 rfl (lv_at hl 3 rfl) ?_
      refine lv_iconst (v := nI 4) hx hb d_M_joined_5 (by decide +kernel) ?_
      refine lv_icmp_ge (tgt := 128) hx hb d_M_joined_6 (by decide) (fun c_6 => ?_) (fun c_6 => ?_)
      · have c_6 : 4 ≤ i := (nI_leI (a := 4) (b := i) (by omega) (by omega)).mp c_6
        have hi4 : i = 4 := by omega
        subst hi4
        refine lv_iload_n hx hb d_M_joined_128 rfl (lv_at hl 2 rfl) ?_
        exact W.iret (v := pkI (fun x y => moN a b x y 4) 4 4) hx hb hr (fun t ht hW => ⟨pkI (fun x y => moN a b x y 4) 4 4, rfl, rfl, ht⟩) (fun q h9 => absurd h9 List.not_mem_nil) d_M_joined_129
      · have c_6 : ¬ 4 ≤ i := fun z9 => c_6 ((nI_leI (a := 4) (b := i) (by omega) (by omega)).mpr z9)
        refine lv_iconst (v := nI 0) hx hb d_M_joined_9 (by decide +kernel) ?_
        refine lv_istore (lv' := [(4, .int (nI 0)), (0, .int a), (1, .int b), (2, .int (pkI (fun x y => moN a b x y 4) 4 i)), (3, .int (nI i))]) hx hb d_M_joined_10 hl (by decide) rfl (fun ls hl => ?_)
        have lp2 : ∀ (n_lp2 : Nat) (k : Nat), (k ≤ 4) → 4 - k < n_lp2 → ∀ (ls : Array Slot), lv_has ls 10 [(0, .int a), (1, .int b), (2, .int (pkK (fun y => moN a b i y 4) i (pkI (fun x y => moN a b x y 4) 4 i) k)), (3, .int (nI i)), (4, .int (nI k))] → W p l e (headSpec w_M_joined ({ frames := 1, cells := 0, slots := 0, locals := 22 })).room s m ([.int a, .int b]).toArray below meth c s.heap [] 0 0 (MQ below (vp_Si (fun r => r = rj a b)) ([.int a, .int b]).toArray s 0 0 (fun _ => False)) (F0 m 12 ls []) := by
          intro n_lp2
          induction n_lp2 with
          | zero => intro k hk4 hn; exact absurd hn (Nat.not_lt_zero _)
          | succ n_lp2 ih_lp2 =>
            intro k hk4 hn ls hl
            refine lv_iload hx hb d_M_joined_12 (lv_at hl 4 rfl) ?_
            refine lv_iconst (v := nI 4) hx hb d_M_joined_14 (by decide +kernel) ?_
            refine lv_icmp_ge (tgt := 122) hx hb d_M_joined_15 (by decide) (fun c_15 => ?_) (fun c_15 => ?_)
            · have c_15 : 4 ≤ k := (nI_leI (a := 4) (b := k) (by omega) (by omega)).mp c_15
              have hk5 : k = 4 := by omega
              subst hk5
              refine lv_iinc (v := nI (i + 1)) (lv' := [(3, .int (nI (i + 1))), (0, .int a), (1, .int b), (2, .int (pkK (fun y => moN a b i y 4) i (pkI (fun x y => moN a b x y 4) 4 i) 4)), (4, .int (nI 4))]) hx hb d_M_joined_122 hl (k := 3) rfl (nI_add i 1) (by decide) rfl (fun ls hl => ?_)
              refine lv_goto (tgt := 4) hx hb d_M_joined_125 (by decide) ?_
              exact ih_lp1 (i + 1) (by omega) (by omega) _ (lv_sub hl [1, 2, 3, 0] rfl)
            · have c_15 : ¬ 4 ≤ k := fun z9 => c_15 ((nI_leI (a := 4) (b := k) (by omega) (by omega)).mpr z9)
              refine lv_iconst (v := nI 0) hx hb d_M_joined_18 (by decide +kernel) ?_
              refine lv_istore (lv' := [(5, .int (nI 0)), (0, .int a), (1, .int b), (2, .int (pkK (fun y => moN a b i y 4) i (pkI (fun x y => moN a b x y 4) 4 i) k)), (3, .int (nI i)), (4, .int (nI k))]) hx hb d_M_joined_19 hl (by decide) rfl (fun ls hl => ?_)
              refine lv_iconst (v := nI 0) hx hb d_M_joined_21 (by decide +kernel) ?_
              refine lv_istore (lv' := [(6, .int (nI 0)), (5, .int (nI 0)), (0, .int a), (1, .int b), (2, .int (pkK (fun y => moN a b i y 4) i (pkI (fun x y => moN a b x y 4) 4 i) k)), (3, .int (nI i)), (4, .int (nI k))]) hx hb d_M_joined_22 hl (by decide) rfl (fun ls hl => ?_)
              have lp3 : ∀ (n_lp3 : Nat) (j : Nat), (j ≤ 4) → 4 - j < n_lp3 → ∀ (ls : Array Slot), lv_has ls 10 [(0, .int a), (1, .int b), (2, .int (pkK (fun y => moN a b i y 4) i (pkI (fun x y => moN a b x y 4) 4 i) k)), (3, .int (nI i)), (4, .int (nI k)), (5, .int (nI (moN a b i k j))), (6, .int (nI j))] → W p l e (headSpec w_M_joined ({ frames := 1, cells := 0, slots := 0, locals := 22 })).room s m ([.int a, .int b]).toArray below meth c s.heap [] 0 0 (MQ below (vp_Si (fun r => r = rj a b)) ([.int a, .int b]).toArray s 0 0 (fun _ => False)) (F0 m 24 ls []) := by
                intro n_lp3
                induction n_lp3 with
                | zero => intro j hj hn; exact absurd hn (Nat.not_lt_zero _)
                | succ n_lp3 ih_lp3 =>
                  intro j hj hn ls hl
                  refine lv_iload hx hb d_M_joined_24 (lv_at hl 6 rfl) ?_
                  refine lv_iconst (v := nI 4) hx hb d_M_joined_26 (by decide +kernel) ?_
                  refine lv_icmp_ge (tgt := 101) hx hb d_M_joined_27 (by decide) (fun c_27 => ?_) (fun c_27 => ?_)
                  · have c_27 : 4 ≤ j := (nI_leI (a := 4) (b := j) (by omega) (by omega)).mp c_27
                    have hj4 : j = 4 := by omega
                    subst hj4
                    refine lv_iload_n hx hb d_M_joined_101 rfl (lv_at hl 2 rfl) ?_
                    refine lv_iload hx hb d_M_joined_102 (lv_at hl 5 rfl) ?_
                    refine lv_bipush (v := nI 8) hx hb d_M_joined_104 (by decide +kernel) ?_
                    refine lv_iload_n hx hb d_M_joined_106 rfl (lv_at hl 3 rfl) ?_
                    refine lv_imul hx hb d_M_joined_107 ?_
                    refine lv_topi (fun z1 ez1 => ?_)
                    obtain rfl : z1 = nI (8 * i) := ez1.trans (pk_mul _ _)
                    refine lv_iconst (v := nI 2) hx hb d_M_joined_108 (by decide +kernel) ?_
                    refine lv_iload hx hb d_M_joined_109 (lv_at hl 4 rfl) ?_
                    refine lv_imul hx hb d_M_joined_111 ?_
                    refine lv_topi (fun z2 ez2 => ?_)
                    obtain rfl : z2 = nI (2 * k) := ez2.trans (pk_mul _ _)
                    refine lv_iadd hx hb d_M_joined_112 ?_
                    refine lv_topi (fun z3 ez3 => ?_)
                    obtain rfl : z3 = nI (8 * i + (2 * k)) := ez3.trans (nI_add _ _)
                    refine lv_ishl hx hb d_M_joined_113 ?_
                    refine lv_topi (fun z4 ez4 => ?_)
                    obtain rfl : z4 = shl (nI (moN a b i k 4)) (8 * i + (2 * k)) := ez4.trans (rfl)
                    refine lv_ior hx hb d_M_joined_114 ?_
                    refine lv_istore_n (lv' := [(2, .int ((pkK (fun y => moN a b i y 4) i (pkI (fun x y => moN a b x y 4) 4 i) k) ||| (shl (nI (moN a b i k 4)) (8 * i + (2 * k))))), (0, .int a), (1, .int b), (3, .int (nI i)), (4, .int (nI k)), (5, .int (nI (moN a b i k 4))), (6, .int (nI 4))]) hx hb d_M_joined_115 rfl hl (by decide) rfl (fun ls hl => ?_)
                    refine lv_iinc (v := nI (k + 1)) (lv' := [(4, .int (nI (k + 1))), (2, .int ((pkK (fun y => moN a b i y 4) i (pkI (fun x y => moN a b x y 4) 4 i) k) ||| (shl (nI (moN a b i k 4)) (8 * i + (2 * k))))), (0, .int a), (1, .int b), (3, .int (nI i)), (5, .int (nI (moN a b i k 4))), (6, .int (nI 4))]) hx hb d_M_joined_116 hl (k := 4) rfl (nI_add k 1) (by decide) rfl (fun ls hl => ?_)
                    refine lv_goto (tgt := 12) hx hb d_M_joined_119 (by decide) ?_
                    exact ih_lp2 (k + 1) (by omega) (by omega) _ (lv_sub hl [2, 3, 1, 4, 0] rfl)
                  · have c_27 : ¬ 4 ≤ j := fun z9 => c_27 ((nI_leI (a := 4) (b := j) (by omega) (by omega)).mpr z9)
                    refine lv_iload_n hx hb d_M_joined_30 rfl (lv_at hl 0 rfl) ?_
                    refine lv_iload_n hx hb d_M_joined_31 rfl (lv_at hl 3 rfl) ?_
                    refine lv_iload hx hb d_M_joined_32 (lv_at hl 6 rfl) ?_
                    refine vp_callSi (W.runS (As := [.int a, .int (nI i), .int (nI j)]) (rest := []) ⟨hx, hb, hml, hown, hk⟩ (m_at l a i j (by omega) (by omega)) (cwS 3 hk g_M_at rfl rfl rfl (by decide +kernel) ⟨Nat.le_of_ble_eq_true rfl, Nat.le_of_ble_eq_true rfl⟩) ⟨fun a U g mk q => q, fun U hU hW => ⟨rfl, trivial⟩⟩ rfl rfl hl.1 rfl (lv_room (Nat.le_of_ble_eq_true rfl)) d_M_joined_34 ⟨Nat.le_of_ble_eq_true rfl, Nat.le_of_ble_eq_true rfl⟩) (fun r5 hw => ?_)
                    subst hw
                    refine lv_istore (lv' := [(7, .int (nI (atN a i j))), (0, .int a), (1, .int b), (2, .int (pkK (fun y => moN a b i y 4) i (pkI (fun x y => moN a b x y 4) 4 i) k)), (3, .int (nI i)), (4, .int (nI k)), (5, .int (nI (moN a b i k j))), (6, .int (nI j))]) hx hb d_M_joined_37 hl (by decide) rfl (fun ls hl => ?_)
                    refine lv_iload_n hx hb d_M_joined_39 rfl (lv_at hl 2 rfl) ?_
                    refine lv_iload hx hb d_M_joined_40 (lv_at hl 7 rfl) ?_
                    refine lv_iload hx hb d_M_joined_42 (lv_at hl 5 rfl) ?_
                    refine vp_callSi (W.runS (As := [.int b, .int (nI j), .int (nI k)]) (rest := []) ⟨hx, hb, hml, hown, hk⟩ (m_at l b j k (by omega) (by omega)) (cwS 3 hk g_M_at rfl rfl rfl (by decide +kernel) ⟨Nat.le_of_ble_eq_true rfl, Nat.le_of_ble_eq_true rfl⟩) ⟨fun a U g mk q => q, fun U hU hW => ⟨rfl, trivial⟩⟩ rfl rfl hl.1 rfl (lv_room (Nat.le_of_ble_eq_true rfl)) d_M_joined_44 ⟨Nat.le_of_ble_eq_true rfl, Nat.le_of_ble_eq_true rfl⟩) (fun r6 hw => ?_)
                    subst hw
                    refine lv_istore (lv' := [(8, .int (nI (atN b j k))), (7, .int (nI (atN a i j))), (0, .int a), (1, .int b), (2, .int (pkK (fun y => moN a b i y 4) i (pkI (fun x y => moN a b x y 4) 4 i) k)), (3, .int (nI i)), (4, .int (nI k)), (5, .int (nI (moN a b i k j))), (6, .int (nI j))]) hx hb d_M_joined_47 hl (by decide) rfl (fun ls hl => ?_)
                    have hx9 := atN_lt a i j
                    have hy9 := atN_lt b j k
                    have hm9 := mo_lt a b i k j
                    refine lv_iload hx hb d_M_joined_49 (lv_at hl 1 rfl) ?_
                    refine lv_if_eq (tgt := 59) hx hb d_M_joined_51 (by decide) (fun c_51 => ?_) (fun c_51 => ?_)
                    · have c_51 : atN a i j = 0 := (nI_eq (a := atN a i j) (b := 0) (by omega) (by omega)).mp c_51
                      refine lv_iconst (v := nI 0) hx hb d_M_joined_59 (by decide +kernel) ?_
                      refine lv_goto (tgt := 77) hx hb d_M_joined_60 (by decide) ?_
                      refine lv_istore (lv' := [(9, .int (nI 0)), (8, .int (nI (atN b j k))), (7, .int (nI (atN a i j))), (0, .int a), (1, .int b), (2, .int (pkK (fun y => moN a b i y 4) i (pkI (fun x y => moN a b x y 4) 4 i) k)), (3, .int (nI i)), (4, .int (nI k)), (5, .int (nI (moN a b i k j))), (6, .int (nI j))]) hx hb d_M_joined_77 hl (by decide) rfl (fun ls hl => ?_)
                      refine lv_iload hx hb d_M_joined_79 (lv_at hl 0 rfl) ?_
                      refine lv_iload hx hb d_M_joined_81 (lv_at hl 8 rfl) ?_
                      refine lv_icmp_le (tgt := 91) hx hb d_M_joined_83 (by decide) (fun c_83 => ?_) (fun c_83 => ?_)
                      · have c_83 : 0 ≤ moN a b i k j := (nI_leI (a := 0) (b := moN a b i k j) (by omega) (by omega)).mp c_83
                        refine lv_iload hx hb d_M_joined_91 (lv_at hl 8 rfl) ?_
                        refine lv_topi (fun z7 ez7 => ?_)
                        obtain rfl : z7 = nI (moN a b i k (j + 1)) := ez7.trans (congrArg nI (by rw [moN]; unfold mxN; first | omega | grind))
                        refine lv_istore (lv' := [(5, .int (nI (moN a b i k (j + 1)))), (9, .int (nI 0)), (8, .int (nI (atN b j k))), (7, .int (nI (atN a i j))), (0, .int a), (1, .int b), (2, .int (pkK (fun y => moN a b i y 4) i (pkI (fun x y => moN a b x y 4) 4 i) k)), (3, .int (nI i)), (4, .int (nI k)), (6, .int (nI j))]) hx hb d_M_joined_93 hl (by decide) rfl (fun ls hl => ?_)
                        refine lv_iinc (v := nI (j + 1)) (lv' := [(6, .int (nI (j + 1))), (5, .int (nI (moN a b i k (j + 1)))), (9, .int (nI 0)), (8, .int (nI (atN b j k))), (7, .int (nI (atN a i j))), (0, .int a), (1, .int b), (2, .int (pkK (fun y => moN a b i y 4) i (pkI (fun x y => moN a b x y 4) 4 i) k)), (3, .int (nI i)), (4, .int (nI k))]) hx hb d_M_joined_95 hl (k := 9) rfl (nI_add j 1) (by decide) rfl (fun ls hl => ?_)
                        refine lv_goto (tgt := 24) hx hb d_M_joined_98 (by decide) ?_
                        exact ih_lp3 (j + 1) (by omega) (by omega) _ (lv_sub hl [5, 6, 7, 8, 9, 1, 0] rfl)
                      · have c_83 : ¬ 0 ≤ moN a b i k j := fun z9 => c_83 ((nI_leI (a := 0) (b := moN a b i k j) (by omega) (by omega)).mpr z9)
                        refine lv_iload hx hb d_M_joined_86 (lv_at hl 0 rfl) ?_
                        refine lv_goto (tgt := 93) hx hb d_M_joined_88 (by decide) ?_
                        refine lv_topi (fun z8 ez8 => ?_)
                        obtain rfl : z8 = nI (moN a b i k (j + 1)) := ez8.trans (congrArg nI (by rw [moN]; unfold mxN; first | omega | grind))
                        refine lv_istore (lv' := [(5, .int (nI (moN a b i k (j + 1)))), (9, .int (nI 0)), (8, .int (nI (atN b j k))), (7, .int (nI (atN a i j))), (0, .int a), (1, .int b), (2, .int (pkK (fun y => moN a b i y 4) i (pkI (fun x y => moN a b x y 4) 4 i) k)), (3, .int (nI i)), (4, .int (nI k)), (6, .int (nI j))]) hx hb d_M_joined_93 hl (by decide) rfl (fun ls hl => ?_)
                        refine lv_iinc (v := nI (j + 1)) (lv' := [(6, .int (nI (j + 1))), (5, .int (nI (moN a b i k (j + 1)))), (9, .int (nI 0)), (8, .int (nI (atN b j k))), (7, .int (nI (atN a i j))), (0, .int a), (1, .int b), (2, .int (pkK (fun y => moN a b i y 4) i (pkI (fun x y => moN a b x y 4) 4 i) k)), (3, .int (nI i)), (4, .int (nI k))]) hx hb d_M_joined_95 hl (k := 9) rfl (nI_add j 1) (by decide) rfl (fun ls hl => ?_)
                        refine lv_goto (tgt := 24) hx hb d_M_joined_98 (by decide) ?_
                        exact ih_lp3 (j + 1) (by omega) (by omega) _ (lv_sub hl [5, 6, 7, 8, 9, 1, 0] rfl)
                    · have c_51 : ¬ atN a i j = 0 := fun z9 => c_51 ((nI_eq (a := atN a i j) (b := 0) (by omega) (by omega)).mpr z9)
                      refine lv_iload hx hb d_M_joined_54 (lv_at hl 0 rfl) ?_
                      refine lv_if_ne (tgt := 63) hx hb d_M_joined_56 (by decide) (fun c_56 => ?_) (fun c_56 => ?_)
                      · have c_56 : ¬ atN b j k = 0 := fun z9 => c_56 ((nI_eq (a := atN b j k) (b := 0) (by omega) (by omega)).mpr z9)
                        refine lv_iload hx hb d_M_joined_63 (lv_at hl 1 rfl) ?_
                        refine lv_iload hx hb d_M_joined_65 (lv_at hl 0 rfl) ?_
                        refine lv_icmp_le (tgt := 75) hx hb d_M_joined_67 (by decide) (fun c_67 => ?_) (fun c_67 => ?_)
                        · have c_67 : atN a i j ≤ atN b j k := (nI_leI (a := atN a i j) (b := atN b j k) (by omega) (by omega)).mp c_67
                          refine lv_iload hx hb d_M_joined_75 (lv_at hl 0 rfl) ?_
                          refine lv_istore (lv' := [(9, .int (nI (atN b j k))), (8, .int (nI (atN b j k))), (7, .int (nI (atN a i j))), (0, .int a), (1, .int b), (2, .int (pkK (fun y => moN a b i y 4) i (pkI (fun x y => moN a b x y 4) 4 i) k)), (3, .int (nI i)), (4, .int (nI k)), (5, .int (nI (moN a b i k j))), (6, .int (nI j))]) hx hb d_M_joined_77 hl (by decide) rfl (fun ls hl => ?_)
                          refine lv_iload hx hb d_M_joined_79 (lv_at hl 0 rfl) ?_
                          refine lv_iload hx hb d_M_joined_81 (lv_at hl 8 rfl) ?_
                          refine lv_icmp_le (tgt := 91) hx hb d_M_joined_83 (by decide) (fun c_83 => ?_) (fun c_83 => ?_)
                          · have c_83 : atN b j k ≤ moN a b i k j := (nI_leI (a := atN b j k) (b := moN a b i k j) (by omega) (by omega)).mp c_83
                            refine lv_iload hx hb d_M_joined_91 (lv_at hl 8 rfl) ?_
                            refine lv_topi (fun z9 ez9 => ?_)
                            obtain rfl : z9 = nI (moN a b i k (j + 1)) := ez9.trans (congrArg nI (by rw [moN]; unfold mxN; first | omega | grind))
                            refine lv_istore (lv' := [(5, .int (nI (moN a b i k (j + 1)))), (9, .int (nI (atN b j k))), (8, .int (nI (atN b j k))), (7, .int (nI (atN a i j))), (0, .int a), (1, .int b), (2, .int (pkK (fun y => moN a b i y 4) i (pkI (fun x y => moN a b x y 4) 4 i) k)), (3, .int (nI i)), (4, .int (nI k)), (6, .int (nI j))]) hx hb d_M_joined_93 hl (by decide) rfl (fun ls hl => ?_)
                            refine lv_iinc (v := nI (j + 1)) (lv' := [(6, .int (nI (j + 1))), (5, .int (nI (moN a b i k (j + 1)))), (9, .int (nI (atN b j k))), (8, .int (nI (atN b j k))), (7, .int (nI (atN a i j))), (0, .int a), (1, .int b), (2, .int (pkK (fun y => moN a b i y 4) i (pkI (fun x y => moN a b x y 4) 4 i) k)), (3, .int (nI i)), (4, .int (nI k))]) hx hb d_M_joined_95 hl (k := 9) rfl (nI_add j 1) (by decide) rfl (fun ls hl => ?_)
                            refine lv_goto (tgt := 24) hx hb d_M_joined_98 (by decide) ?_
                            exact ih_lp3 (j + 1) (by omega) (by omega) _ (lv_sub hl [5, 6, 7, 8, 9, 1, 0] rfl)
                          · have c_83 : ¬ atN b j k ≤ moN a b i k j := fun z9 => c_83 ((nI_leI (a := atN b j k) (b := moN a b i k j) (by omega) (by omega)).mpr z9)
                            refine lv_iload hx hb d_M_joined_86 (lv_at hl 0 rfl) ?_
                            refine lv_goto (tgt := 93) hx hb d_M_joined_88 (by decide) ?_
                            refine lv_topi (fun z10 ez10 => ?_)
                            obtain rfl : z10 = nI (moN a b i k (j + 1)) := ez10.trans (congrArg nI (by rw [moN]; unfold mxN; first | omega | grind))
                            refine lv_istore (lv' := [(5, .int (nI (moN a b i k (j + 1)))), (9, .int (nI (atN b j k))), (8, .int (nI (atN b j k))), (7, .int (nI (atN a i j))), (0, .int a), (1, .int b), (2, .int (pkK (fun y => moN a b i y 4) i (pkI (fun x y => moN a b x y 4) 4 i) k)), (3, .int (nI i)), (4, .int (nI k)), (6, .int (nI j))]) hx hb d_M_joined_93 hl (by decide) rfl (fun ls hl => ?_)
                            refine lv_iinc (v := nI (j + 1)) (lv' := [(6, .int (nI (j + 1))), (5, .int (nI (moN a b i k (j + 1)))), (9, .int (nI (atN b j k))), (8, .int (nI (atN b j k))), (7, .int (nI (atN a i j))), (0, .int a), (1, .int b), (2, .int (pkK (fun y => moN a b i y 4) i (pkI (fun x y => moN a b x y 4) 4 i) k)), (3, .int (nI i)), (4, .int (nI k))]) hx hb d_M_joined_95 hl (k := 9) rfl (nI_add j 1) (by decide) rfl (fun ls hl => ?_)
                            refine lv_goto (tgt := 24) hx hb d_M_joined_98 (by decide) ?_
                            exact ih_lp3 (j + 1) (by omega) (by omega) _ (lv_sub hl [5, 6, 7, 8, 9, 1, 0] rfl)
                        · have c_67 : ¬ atN a i j ≤ atN b j k := fun z9 => c_67 ((nI_leI (a := atN a i j) (b := atN b j k) (by omega) (by omega)).mpr z9)
                          refine lv_iload hx hb d_M_joined_70 (lv_at hl 1 rfl) ?_
                          refine lv_goto (tgt := 77) hx hb d_M_joined_72 (by decide) ?_
                          refine lv_istore (lv' := [(9, .int (nI (atN a i j))), (8, .int (nI (atN b j k))), (7, .int (nI (atN a i j))), (0, .int a), (1, .int b), (2, .int (pkK (fun y => moN a b i y 4) i (pkI (fun x y => moN a b x y 4) 4 i) k)), (3, .int (nI i)), (4, .int (nI k)), (5, .int (nI (moN a b i k j))), (6, .int (nI j))]) hx hb d_M_joined_77 hl (by decide) rfl (fun ls hl => ?_)
                          refine lv_iload hx hb d_M_joined_79 (lv_at hl 0 rfl) ?_
                          refine lv_iload hx hb d_M_joined_81 (lv_at hl 8 rfl) ?_
                          refine lv_icmp_le (tgt := 91) hx hb d_M_joined_83 (by decide) (fun c_83 => ?_) (fun c_83 => ?_)
                          · have c_83 : atN a i j ≤ moN a b i k j := (nI_leI (a := atN a i j) (b := moN a b i k j) (by omega) (by omega)).mp c_83
                            refine lv_iload hx hb d_M_joined_91 (lv_at hl 8 rfl) ?_
                            refine lv_topi (fun z11 ez11 => ?_)
                            obtain rfl : z11 = nI (moN a b i k (j + 1)) := ez11.trans (congrArg nI (by rw [moN]; unfold mxN; first | omega | grind))
                            refine lv_istore (lv' := [(5, .int (nI (moN a b i k (j + 1)))), (9, .int (nI (atN a i j))), (8, .int (nI (atN b j k))), (7, .int (nI (atN a i j))), (0, .int a), (1, .int b), (2, .int (pkK (fun y => moN a b i y 4) i (pkI (fun x y => moN a b x y 4) 4 i) k)), (3, .int (nI i)), (4, .int (nI k)), (6, .int (nI j))]) hx hb d_M_joined_93 hl (by decide) rfl (fun ls hl => ?_)
                            refine lv_iinc (v := nI (j + 1)) (lv' := [(6, .int (nI (j + 1))), (5, .int (nI (moN a b i k (j + 1)))), (9, .int (nI (atN a i j))), (8, .int (nI (atN b j k))), (7, .int (nI (atN a i j))), (0, .int a), (1, .int b), (2, .int (pkK (fun y => moN a b i y 4) i (pkI (fun x y => moN a b x y 4) 4 i) k)), (3, .int (nI i)), (4, .int (nI k))]) hx hb d_M_joined_95 hl (k := 9) rfl (nI_add j 1) (by decide) rfl (fun ls hl => ?_)
                            refine lv_goto (tgt := 24) hx hb d_M_joined_98 (by decide) ?_
                            exact ih_lp3 (j + 1) (by omega) (by omega) _ (lv_sub hl [5, 6, 7, 8, 9, 1, 0] rfl)
                          · have c_83 : ¬ atN a i j ≤ moN a b i k j := fun z9 => c_83 ((nI_leI (a := atN a i j) (b := moN a b i k j) (by omega) (by omega)).mpr z9)
                            refine lv_iload hx hb d_M_joined_86 (lv_at hl 0 rfl) ?_
                            refine lv_goto (tgt := 93) hx hb d_M_joined_88 (by decide) ?_
                            refine lv_topi (fun z12 ez12 => ?_)
                            obtain rfl : z12 = nI (moN a b i k (j + 1)) := ez12.trans (congrArg nI (by rw [moN]; unfold mxN; first | omega | grind))
                            refine lv_istore (lv' := [(5, .int (nI (moN a b i k (j + 1)))), (9, .int (nI (atN a i j))), (8, .int (nI (atN b j k))), (7, .int (nI (atN a i j))), (0, .int a), (1, .int b), (2, .int (pkK (fun y => moN a b i y 4) i (pkI (fun x y => moN a b x y 4) 4 i) k)), (3, .int (nI i)), (4, .int (nI k)), (6, .int (nI j))]) hx hb d_M_joined_93 hl (by decide) rfl (fun ls hl => ?_)
                            refine lv_iinc (v := nI (j + 1)) (lv' := [(6, .int (nI (j + 1))), (5, .int (nI (moN a b i k (j + 1)))), (9, .int (nI (atN a i j))), (8, .int (nI (atN b j k))), (7, .int (nI (atN a i j))), (0, .int a), (1, .int b), (2, .int (pkK (fun y => moN a b i y 4) i (pkI (fun x y => moN a b x y 4) 4 i) k)), (3, .int (nI i)), (4, .int (nI k))]) hx hb d_M_joined_95 hl (k := 9) rfl (nI_add j 1) (by decide) rfl (fun ls hl => ?_)
                            refine lv_goto (tgt := 24) hx hb d_M_joined_98 (by decide) ?_
                            exact ih_lp3 (j + 1) (by omega) (by omega) _ (lv_sub hl [5, 6, 7, 8, 9, 1, 0] rfl)
                      · have c_56 : atN b j k = 0 := (nI_eq (a := atN b j k) (b := 0) (by omega) (by omega)).mp c_56
                        refine lv_iconst (v := nI 0) hx hb d_M_joined_59 (by decide +kernel) ?_
                        refine lv_goto (tgt := 77) hx hb d_M_joined_60 (by decide) ?_
                        refine lv_istore (lv' := [(9, .int (nI 0)), (8, .int (nI (atN b j k))), (7, .int (nI (atN a i j))), (0, .int a), (1, .int b), (2, .int (pkK (fun y => moN a b i y 4) i (pkI (fun x y => moN a b x y 4) 4 i) k)), (3, .int (nI i)), (4, .int (nI k)), (5, .int (nI (moN a b i k j))), (6, .int (nI j))]) hx hb d_M_joined_77 hl (by decide) rfl (fun ls hl => ?_)
                        refine lv_iload hx hb d_M_joined_79 (lv_at hl 0 rfl) ?_
                        refine lv_iload hx hb d_M_joined_81 (lv_at hl 8 rfl) ?_
                        refine lv_icmp_le (tgt := 91) hx hb d_M_joined_83 (by decide) (fun c_83 => ?_) (fun c_83 => ?_)
                        · have c_83 : 0 ≤ moN a b i k j := (nI_leI (a := 0) (b := moN a b i k j) (by omega) (by omega)).mp c_83
                          refine lv_iload hx hb d_M_joined_91 (lv_at hl 8 rfl) ?_
                          refine lv_topi (fun z13 ez13 => ?_)
                          obtain rfl : z13 = nI (moN a b i k (j + 1)) := ez13.trans (congrArg nI (by rw [moN]; unfold mxN; first | omega | grind))
                          refine lv_istore (lv' := [(5, .int (nI (moN a b i k (j + 1)))), (9, .int (nI 0)), (8, .int (nI (atN b j k))), (7, .int (nI (atN a i j))), (0, .int a), (1, .int b), (2, .int (pkK (fun y => moN a b i y 4) i (pkI (fun x y => moN a b x y 4) 4 i) k)), (3, .int (nI i)), (4, .int (nI k)), (6, .int (nI j))]) hx hb d_M_joined_93 hl (by decide) rfl (fun ls hl => ?_)
                          refine lv_iinc (v := nI (j + 1)) (lv' := [(6, .int (nI (j + 1))), (5, .int (nI (moN a b i k (j + 1)))), (9, .int (nI 0)), (8, .int (nI (atN b j k))), (7, .int (nI (atN a i j))), (0, .int a), (1, .int b), (2, .int (pkK (fun y => moN a b i y 4) i (pkI (fun x y => moN a b x y 4) 4 i) k)), (3, .int (nI i)), (4, .int (nI k))]) hx hb d_M_joined_95 hl (k := 9) rfl (nI_add j 1) (by decide) rfl (fun ls hl => ?_)
                          refine lv_goto (tgt := 24) hx hb d_M_joined_98 (by decide) ?_
                          exact ih_lp3 (j + 1) (by omega) (by omega) _ (lv_sub hl [5, 6, 7, 8, 9, 1, 0] rfl)
                        · have c_83 : ¬ 0 ≤ moN a b i k j := fun z9 => c_83 ((nI_leI (a := 0) (b := moN a b i k j) (by omega) (by omega)).mpr z9)
                          refine lv_iload hx hb d_M_joined_86 (lv_at hl 0 rfl) ?_
                          refine lv_goto (tgt := 93) hx hb d_M_joined_88 (by decide) ?_
                          refine lv_topi (fun z14 ez14 => ?_)
                          obtain rfl : z14 = nI (moN a b i k (j + 1)) := ez14.trans (congrArg nI (by rw [moN]; unfold mxN; first | omega | grind))
                          refine lv_istore (lv' := [(5, .int (nI (moN a b i k (j + 1)))), (9, .int (nI 0)), (8, .int (nI (atN b j k))), (7, .int (nI (atN a i j))), (0, .int a), (1, .int b), (2, .int (pkK (fun y => moN a b i y 4) i (pkI (fun x y => moN a b x y 4) 4 i) k)), (3, .int (nI i)), (4, .int (nI k)), (6, .int (nI j))]) hx hb d_M_joined_93 hl (by decide) rfl (fun ls hl => ?_)
                          refine lv_iinc (v := nI (j + 1)) (lv' := [(6, .int (nI (j + 1))), (5, .int (nI (moN a b i k (j + 1)))), (9, .int (nI 0)), (8, .int (nI (atN b j k))), (7, .int (nI (atN a i j))), (0, .int a), (1, .int b), (2, .int (pkK (fun y => moN a b i y 4) i (pkI (fun x y => moN a b x y 4) 4 i) k)), (3, .int (nI i)), (4, .int (nI k))]) hx hb d_M_joined_95 hl (k := 9) rfl (nI_add j 1) (by decide) rfl (fun ls hl => ?_)
                          refine lv_goto (tgt := 24) hx hb d_M_joined_98 (by decide) ?_
                          exact ih_lp3 (j + 1) (by omega) (by omega) _ (lv_sub hl [5, 6, 7, 8, 9, 1, 0] rfl)
              exact lp3 _ 0 (Nat.zero_le _) (Nat.lt_succ_self _) _ (lv_sub hl [2, 3, 4, 5, 6, 1, 0] rfl)
        exact lp2 _ 0 (Nat.zero_le _) (Nat.lt_succ_self _) _ (lv_sub hl [1, 2, 3, 4, 0] rfl)
  exact lp1 _ 0 (Nat.zero_le _) (Nat.lt_succ_self _) _ (lv_sub hl [2, 3, 1, 0] rfl)
set_option maxHeartbeats 4000000 in
set_option maxRecDepth 100000 in
theorem m_add (l : Launch) (dC : Nat → ClassId) (dI : Nat → Nat → Nat) (cI cZ : ClassId) (h : Nat → Nat) (sz : Nat) (xt xf xc : Int32) (aP aF aT aK bF bL bB bA bY bR oT oO oR bS : Nat → Int32) (es : List En) (f g y : Nat) (b : Int32) (a : Option Nat) (hL : es.length ≤ 801) (hE0 : hE es bF bL bB bA bY) (hs : smE es) (hf : f < 16) (hg : g < 16) : Met l y_M_add w_M_add ({ frames := 0, cells := 0, slots := 0, locals := 0 }) (va_Pc [.ref (h 0), .int (nI f), .int (nI g), .int b, .int (ahI a), .int (nI y)] (fun U => U.heap.size = sz ∧ va_P (dC, dI) kls (wM h cI cZ xt xf xc (nI es.length) aP aF aT aK bF bL bB bA bY bR oT oO oR bS) U.heap ∧ va_K (dC, dI) kls (tyM cI cZ) U ∧ va_D (fun _ => True) (wM h cI cZ xt xf xc (nI es.length) aP aF aT aK bF bL bB bA bY bR oT oO oR bS))) (va_Qv (fun (u : Int32 × (Nat → Int32) × (Nat → Int32) × (Nat → Int32) × (Nat → Int32) × (Nat → Int32)) => u.1 = nI (addC 801 es (f, g, b, a, y)).length ∧ hE (addC 801 es (f, g, b, a, y)) u.2.1 u.2.2.1 u.2.2.2.1 u.2.2.2.2.1 u.2.2.2.2.2) (fun (u : Int32 × (Nat → Int32) × (Nat → Int32) × (Nat → Int32) × (Nat → Int32) × (Nat → Int32)) (t : State) => va_P (dC, dI) kls (wM h cI cZ xt xf xc u.1 aP aF aT aK u.2.1 u.2.2.1 u.2.2.2.1 u.2.2.2.2.1 u.2.2.2.2.2 bR oT oO oR bS) t.heap ∧ va_K (dC, dI) kls (tyM cI cZ) t ∧ va_D (va_A (wM h cI cZ xt xf xc (nI es.length) aP aF aT aK bF bL bB bA bY bR oT oO oR bS) sz) (wM h cI cZ xt xf xc u.1 aP aF aT aK u.2.1 u.2.2.1 u.2.2.2.1 u.2.2.2.2.1 u.2.2.2.2.2 bR oT oO oR bS)) (va_A (wM h cI cZ xt xf xc (nI es.length) aP aF aT aK bF bL bB bA bY bR oT oO oR bS) sz)) 0 0 (va_A (wM h cI cZ xt xf xc (nI es.length) aP aF aT aK bF bL bB bA bY bR oT oO oR bS) sz) := by
  refine Met.ofW (cc := c_M_add) (maxL := 7) (ret := none) (by decide) rfl ?_
  intro p e s m args below meth c s₁ B hml hv
  obtain ⟨rfl, hsz, hP, hK, hD0⟩ := hv
  have hx := B.exec
  have hb := B.bytes
  have hr := B.returns
  have hts := atoms_spec (ws := w_M_add) B.pre
  have hk : ∀ w ∈ wMw, w.before _ s = true := fun w h => hts w (List.mem_cons_of_mem _ h)
  have hown : s.vm.findClass R_M = some m.cls := findClass_of_methodNamed B.named
  have hlocks := B.notSynchronized
  subst hsz
  have hD := hD0.self (sz := s.heap.size)
  generalize hAe : va_A (wM h cI cZ xt xf xc (nI es.length) aP aF aT aK bF bL bB bA bY bR oT oO oR bS) s.heap.size = A at hD ⊢
  have hA : ∀ q : Nat, s.heap.size ≤ q → A q := fun q h => by rw [← hAe]; exact Or.inr h
  have hS : va_S A s.heap s.heap [] := va_S.rf
  have hl := lv_entry ([.ref (h 0), .int (nI f), .int (nI g), .int b, .int (ahI a), .int (nI y)]) (n := 7) (Nat.le_of_ble_eq_true rfl)
  rw [lg_entry_eq]
  generalize (lg_sl ([.ref (h 0), .int (nI f), .int (nI g), .int b, .int (ahI a), .int (nI y)]) ++ List.replicate (7 - (lg_sl ([.ref (h 0), .int (nI f), .int (nI g), .int b, .int (ahI a), .int (nI y)])).length) Slot.unset).toArray = ls at hl ⊢
  have hl : lv_has ls 7 [(0, .ref (h 0)), (1, .int (nI f)), (2, .int (nI g)), (3, .int b), (4, .int (ahI a)), (5, .int (nI y))] := hl
  refine lv_iconst (v := nI 0) hx hb d_M_add_0 (by decide +kernel) ?_
  refine lv_istore (lv' := [(6, .int (nI 0)), (0, .ref (h 0)), (1, .int (nI f)), (2, .int (nI g)), (3, .int b), (4, .int (ahI a)), (5, .int (nI y))]) hx hb d_M_add_1 hl (by decide) rfl (fun ls hl => ?_)
  have lp : ∀ (n_lp : Nat) (k : Nat), (k ≤ es.length) → (∀ j e, j < k → es[j]? = some e → kyE e ≠ (f, g, b)) → es.length - k < n_lp → ∀ (H : Heap) (locs : List Loc) (ls : Array Slot), va_P (dC, dI) kls (wM h cI cZ xt xf xc (nI es.length) aP aF aT aK bF bL bB bA bY bR oT oO oR bS) H → va_D A (wM h cI cZ xt xf xc (nI es.length) aP aF aT aK bF bL bB bA bY bR oT oO oR bS) → va_S A s.heap H locs → lv_has ls 7 [(0, .ref (h 0)), (1, .int (nI f)), (2, .int (nI g)), (3, .int b), (4, .int (ahI a)), (5, .int (nI y)), (6, .int (nI k))] → W p l e (headSpec w_M_add ({ frames := 0, cells := 0, slots := 0, locals := 0 })).room s m ([.ref (h 0), .int (nI f), .int (nI g), .int b, .int (ahI a), .int (nI y)]).toArray below meth c H locs 0 0 (MQ below (va_Qv (fun (u : Int32 × (Nat → Int32) × (Nat → Int32) × (Nat → Int32) × (Nat → Int32) × (Nat → Int32)) => u.1 = nI (addC 801 es (f, g, b, a, y)).length ∧ hE (addC 801 es (f, g, b, a, y)) u.2.1 u.2.2.1 u.2.2.2.1 u.2.2.2.2.1 u.2.2.2.2.2) (fun (u : Int32 × (Nat → Int32) × (Nat → Int32) × (Nat → Int32) × (Nat → Int32) × (Nat → Int32)) (t : State) => va_P (dC, dI) kls (wM h cI cZ xt xf xc u.1 aP aF aT aK u.2.1 u.2.2.1 u.2.2.2.1 u.2.2.2.2.1 u.2.2.2.2.2 bR oT oO oR bS) t.heap ∧ va_K (dC, dI) kls (tyM cI cZ) t ∧ va_D (A) (wM h cI cZ xt xf xc u.1 aP aF aT aK u.2.1 u.2.2.1 u.2.2.2.1 u.2.2.2.2.1 u.2.2.2.2.2 bR oT oO oR bS)) A) ([.ref (h 0), .int (nI f), .int (nI g), .int b, .int (ahI a), .int (nI y)]).toArray s 0 0 A) (F0 m 3 ls []) := by
    intro n_lp
    induction n_lp with
    | zero => intro k hk9 hno hn; exact absurd hn (Nat.not_lt_zero _)
    | succ n_lp ih_lp =>
      intro k hk9 hno hn H locs ls hP hD hS hl
      refine lv_iload hx hb d_M_add_3 (lv_at hl 6 rfl) ?_
      refine lv_aload_n hx hb d_M_add_5 rfl (lv_at hl 0 rfl) ?_
      refine va_get (D := (dC, dI)) (ci := 0) (v := .int (nI es.length)) (C := R_M) (T := F_M) (N := 18) hx hb hk k_M_f hown hK hP 0 rfl rfl 7 (by decide) (hk _ k_M_15) (fun _ h9 => h9) rfl d_M_add_6 ?_
      refine lv_icmp_ge (tgt := 51) hx hb d_M_add_9 (by decide) (fun c_9 => ?_) (fun c_9 => ?_)
      · have c_9 : es.length ≤ k := (nI_leI (a := es.length) (b := k) (by omega) (by omega)).mp c_9
        have hke : k = es.length := by omega
        subst hke
        refine lv_iload hx hb d_M_add_51 (lv_at hl 6 rfl) ?_
        refine lv_aload_n hx hb d_M_add_53 rfl (lv_at hl 0 rfl) ?_
        refine va_get (D := (dC, dI)) (ci := 0) (v := .int (nI es.length)) (C := R_M) (T := F_M) (N := 18) hx hb hk k_M_f hown hK hP 0 rfl rfl 7 (by decide) (hk _ k_M_15) (fun _ h9 => h9) rfl d_M_add_54 ?_
        refine lv_icmp_lt (tgt := 70) hx hb d_M_add_57 (by decide) (fun c_57 => ?_) (fun c_57 => ?_)
        · have c_57 : es.length < es.length := (nI_ltI (a := es.length) (b := es.length) (by omega) (by omega)).mp c_57
          exfalso; omega
        · have c_57 : ¬ es.length < es.length := fun z9 => c_57 ((nI_ltI (a := es.length) (b := es.length) (by omega) (by omega)).mpr z9)
          refine lv_aload_n hx hb d_M_add_60 rfl (lv_at hl 0 rfl) ?_
          refine va_get (D := (dC, dI)) (ci := 0) (v := .int (nI es.length)) (C := R_M) (T := F_M) (N := 18) hx hb hk k_M_f hown hK hP 0 rfl rfl 7 (by decide) (hk _ k_M_15) (fun _ h9 => h9) rfl d_M_add_61 ?_
          refine lv_sipush (v := nI 800) hx hb d_M_add_64 (by decide +kernel) ?_
          refine lv_icmp_le (tgt := 71) hx hb d_M_add_67 (by decide) (fun c_67 => ?_) (fun c_67 => ?_)
          · have c_67 : es.length ≤ 800 := (nI_leI (a := es.length) (b := 800) (by omega) (by omega)).mp c_67
            refine lv_aload_n hx hb d_M_add_71 rfl (lv_at hl 0 rfl) ?_
            refine va_get (D := (dC, dI)) (ci := 0) (v := .ref (h 5)) (C := R_M) (T := F_M) (N := 18) hx hb hk k_M_f hown hK hP 0 rfl rfl 8 (by decide) (hk _ k_M_16) (fun _ h9 => h9) rfl d_M_add_72 ?_
            refine lv_iload hx hb d_M_add_75 (lv_at hl 6 rfl) ?_
            refine lv_iload_n hx hb d_M_add_77 rfl (lv_at hl 1 rfl) ?_
            refine va_iast hx hb hK hP hD hS 5 0 rfl rfl (pk_in es.length 801 (by omega)) d_M_add_78 (fun H locs hP hD hS => ?_)
            rw [nI_clamp (n := es.length) (by omega)] at hP hD
            have hP : va_P (dC, dI) kls (wM h cI cZ xt xf xc (nI es.length) aP aF aT aK (upd bF es.length (nI f)) bL bB bA bY bR oT oO oR bS) H := hP
            have hD : va_D A (wM h cI cZ xt xf xc (nI es.length) aP aF aT aK (upd bF es.length (nI f)) bL bB bA bY bR oT oO oR bS) := hD
            refine lv_aload_n hx hb d_M_add_79 rfl (lv_at hl 0 rfl) ?_
            refine va_get (D := (dC, dI)) (ci := 0) (v := .ref (h 6)) (C := R_M) (T := F_M) (N := 18) hx hb hk k_M_f hown hK hP 0 rfl rfl 9 (by decide) (hk _ k_M_17) (fun _ h9 => h9) rfl d_M_add_80 ?_
            refine lv_iload hx hb d_M_add_83 (lv_at hl 6 rfl) ?_
            refine lv_iload_n hx hb d_M_add_85 rfl (lv_at hl 2 rfl) ?_
            refine va_iast hx hb hK hP hD hS 6 0 rfl rfl (pk_in es.length 801 (by omega)) d_M_add_86 (fun H locs hP hD hS => ?_)
            rw [nI_clamp (n := es.length) (by omega)] at hP hD
            have hP : va_P (dC, dI) kls (wM h cI cZ xt xf xc (nI es.length) aP aF aT aK (upd bF es.length (nI f)) (upd bL es.length (nI g)) bB bA bY bR oT oO oR bS) H := hP
            have hD : va_D A (wM h cI cZ xt xf xc (nI es.length) aP aF aT aK (upd bF es.length (nI f)) (upd bL es.length (nI g)) bB bA bY bR oT oO oR bS) := hD
            refine lv_aload_n hx hb d_M_add_87 rfl (lv_at hl 0 rfl) ?_
            refine va_get (D := (dC, dI)) (ci := 0) (v := .ref (h 7)) (C := R_M) (T := F_M) (N := 18) hx hb hk k_M_f hown hK hP 0 rfl rfl 10 (by decide) (hk _ k_M_18) (fun _ h9 => h9) rfl d_M_add_88 ?_
            refine lv_iload hx hb d_M_add_91 (lv_at hl 6 rfl) ?_
            refine lv_iload_n hx hb d_M_add_93 rfl (lv_at hl 3 rfl) ?_
            refine va_iast hx hb hK hP hD hS 7 0 rfl rfl (pk_in es.length 801 (by omega)) d_M_add_94 (fun H locs hP hD hS => ?_)
            rw [nI_clamp (n := es.length) (by omega)] at hP hD
            have hP : va_P (dC, dI) kls (wM h cI cZ xt xf xc (nI es.length) aP aF aT aK (upd bF es.length (nI f)) (upd bL es.length (nI g)) (upd bB es.length b) bA bY bR oT oO oR bS) H := hP
            have hD : va_D A (wM h cI cZ xt xf xc (nI es.length) aP aF aT aK (upd bF es.length (nI f)) (upd bL es.length (nI g)) (upd bB es.length b) bA bY bR oT oO oR bS) := hD
            refine lv_aload_n hx hb d_M_add_95 rfl (lv_at hl 0 rfl) ?_
            refine va_get (D := (dC, dI)) (ci := 0) (v := .ref (h 8)) (C := R_M) (T := F_M) (N := 18) hx hb hk k_M_f hown hK hP 0 rfl rfl 11 (by decide) (hk _ k_M_19) (fun _ h9 => h9) rfl d_M_add_96 ?_
            refine lv_iload hx hb d_M_add_99 (lv_at hl 6 rfl) ?_
            refine lv_iload hx hb d_M_add_101 (lv_at hl 4 rfl) ?_
            refine va_iast hx hb hK hP hD hS 8 0 rfl rfl (pk_in es.length 801 (by omega)) d_M_add_103 (fun H locs hP hD hS => ?_)
            rw [nI_clamp (n := es.length) (by omega)] at hP hD
            have hP : va_P (dC, dI) kls (wM h cI cZ xt xf xc (nI es.length) aP aF aT aK (upd bF es.length (nI f)) (upd bL es.length (nI g)) (upd bB es.length b) (upd bA es.length (ahI a)) bY bR oT oO oR bS) H := hP
            have hD : va_D A (wM h cI cZ xt xf xc (nI es.length) aP aF aT aK (upd bF es.length (nI f)) (upd bL es.length (nI g)) (upd bB es.length b) (upd bA es.length (ahI a)) bY bR oT oO oR bS) := hD
            refine lv_aload_n hx hb d_M_add_104 rfl (lv_at hl 0 rfl) ?_
            refine va_get (D := (dC, dI)) (ci := 0) (v := .ref (h 9)) (C := R_M) (T := F_M) (N := 18) hx hb hk k_M_f hown hK hP 0 rfl rfl 12 (by decide) (hk _ k_M_20) (fun _ h9 => h9) rfl d_M_add_105 ?_
            refine lv_iload hx hb d_M_add_108 (lv_at hl 6 rfl) ?_
            refine lv_iload hx hb d_M_add_110 (lv_at hl 5 rfl) ?_
            refine va_iast hx hb hK hP hD hS 9 0 rfl rfl (pk_in es.length 801 (by omega)) d_M_add_112 (fun H locs hP hD hS => ?_)
            rw [nI_clamp (n := es.length) (by omega)] at hP hD
            have hP : va_P (dC, dI) kls (wM h cI cZ xt xf xc (nI es.length) aP aF aT aK (upd bF es.length (nI f)) (upd bL es.length (nI g)) (upd bB es.length b) (upd bA es.length (ahI a)) (upd bY es.length (nI y)) bR oT oO oR bS) H := hP
            have hD : va_D A (wM h cI cZ xt xf xc (nI es.length) aP aF aT aK (upd bF es.length (nI f)) (upd bL es.length (nI g)) (upd bB es.length b) (upd bA es.length (ahI a)) (upd bY es.length (nI y)) bR oT oO oR bS) := hD
            refine lv_aload_n hx hb d_M_add_113 rfl (lv_at hl 0 rfl) ?_
            refine lv_dup hx hb d_M_add_114 rfl ?_
            refine va_get (D := (dC, dI)) (ci := 0) (v := .int (nI es.length)) (C := R_M) (T := F_M) (N := 18) hx hb hk k_M_f hown hK hP 0 rfl rfl 7 (by decide) (hk _ k_M_15) (fun _ h9 => h9) rfl d_M_add_115 ?_
            refine lv_iconst (v := nI 1) hx hb d_M_add_118 (by decide +kernel) ?_
            refine lv_iadd hx hb d_M_add_119 ?_
            refine lv_topi (fun z1 ez1 => ?_)
            obtain rfl : z1 = nI (es.length + 1) := ez1.trans (nI_add _ _)
            refine va_put (D := (dC, dI)) (ci := 0) (v := .int (nI (es.length + 1))) (ty := .int) (C := R_M) (T := F_M) (N := 18) hx hb hk k_M_f t_M t_M_ok n_M hown hK hP hD hS 0 rfl rfl 7 (by decide) (hk _ k_M_15) (fun _ h9 => h9) rfl (by decide +kernel) rfl rfl (Nat.le_of_ble_eq_true rfl) d_M_add_120 (fun H locs hP hD hS => ?_)
            have hP : va_P (dC, dI) kls (wM h cI cZ xt xf xc (nI (es.length + 1)) aP aF aT aK (upd bF es.length (nI f)) (upd bL es.length (nI g)) (upd bB es.length b) (upd bA es.length (ahI a)) (upd bY es.length (nI y)) bR oT oO oR bS) H := hP
            have hD : va_D A (wM h cI cZ xt xf xc (nI (es.length + 1)) aP aF aT aK (upd bF es.length (nI f)) (upd bL es.length (nI g)) (upd bB es.length b) (upd bA es.length (ahI a)) (upd bY es.length (nI y)) bR oT oO oR bS) := hD
            have hq : addC 801 es (f, g, b, a, y) = es ++ [(f, g, b, a, y)] := if_neg (by
              intro q
              rcases q with q | q
              · exact ky_none (fun j e hj he => hno j e hj he) q
              · omega)
            exact W.vret hx hb hr (fun t ht hW => ⟨⟨(nI (es.length + 1), upd bF es.length (nI f), upd bL es.length (nI g), upd bB es.length b, upd bA es.length (ahI a), upd bY es.length (nI y)), rfl, by rw [hq, List.length_append]; exact ⟨rfl, hE_snoc hE0 (f, g, b, a, y)⟩, by rw [ht]; exact hP, va_K.moved hW.alike hK, hD⟩, hS.F ht⟩) hS.2.2 d_M_add_123
          · have c_67 : ¬ es.length ≤ 800 := fun z9 => c_67 ((nI_leI (a := es.length) (b := 800) (by omega) (by omega)).mpr z9)
            have hq : addC 801 es (f, g, b, a, y) = es := by
              first
                | exact if_pos (Or.inl (hE_yes hE0 hs hf hg (by omega) c_20 c_31 c_42))
                | exact if_pos (Or.inr (by omega))
            exact W.vret hx hb hr (fun t ht hW => ⟨⟨(nI es.length, bF, bL, bB, bA, bY), rfl, by rw [hq]; exact ⟨rfl, hE0⟩, by rw [ht]; exact hP, va_K.moved hW.alike hK, hD⟩, hS.F ht⟩) hS.2.2 d_M_add_70
      · have c_9 : ¬ es.length ≤ k := fun z9 => c_9 ((nI_leI (a := es.length) (b := k) (by omega) (by omega)).mpr z9)
        refine lv_aload_n hx hb d_M_add_12 rfl (lv_at hl 0 rfl) ?_
        refine va_get (D := (dC, dI)) (ci := 0) (v := .ref (h 5)) (C := R_M) (T := F_M) (N := 18) hx hb hk k_M_f hown hK hP 0 rfl rfl 8 (by decide) (hk _ k_M_16) (fun _ h9 => h9) rfl d_M_add_13 ?_
        refine lv_iload hx hb d_M_add_16 (lv_at hl 6 rfl) ?_
        refine va_iald hx hb hK hP 5 0 rfl rfl (pk_in k 801 (by omega)) d_M_add_18 ?_
        refine lv_topi (fun z2 ez2 => ?_)
        obtain rfl : z2 = bF k := ez2.trans (rd (f := bF) (k := k) (by omega))
        refine lv_iload_n hx hb d_M_add_19 rfl (lv_at hl 1 rfl) ?_
        refine lv_icmp_ne (tgt := 45) hx hb d_M_add_20 (by decide) (fun c_20 => ?_) (fun c_20 => ?_)
        · refine lv_iinc (v := nI (k + 1)) (lv' := [(6, .int (nI (k + 1))), (0, .ref (h 0)), (1, .int (nI f)), (2, .int (nI g)), (3, .int b), (4, .int (ahI a)), (5, .int (nI y))]) hx hb d_M_add_45 hl (k := 6) rfl (nI_add k 1) (by decide) rfl (fun ls hl => ?_)
          refine lv_goto (tgt := 3) hx hb d_M_add_48 (by decide) ?_
          have hne := hE_not hE0 hs (k := k) (b := b) hf hg (by first | exact Or.inl c_20 | exact Or.inr (Or.inl c_31) | exact Or.inr (Or.inr c_42))
          have hno2 : ∀ j e, j < k + 1 → es[j]? = some e → kyE e ≠ (f, g, b) := by
            intro j e hj he
            rcases Nat.lt_or_ge j k with q | q
            · exact hno j e q he
            · obtain rfl : j = k := by omega
              exact hne e he
          exact ih_lp (k + 1) (by omega) (hno2) (by omega) _ _ _ hP hD hS (lv_sub hl [1, 2, 3, 4, 5, 6, 0] rfl)
        · refine lv_aload_n hx hb d_M_add_23 rfl (lv_at hl 0 rfl) ?_
          refine va_get (D := (dC, dI)) (ci := 0) (v := .ref (h 6)) (C := R_M) (T := F_M) (N := 18) hx hb hk k_M_f hown hK hP 0 rfl rfl 9 (by decide) (hk _ k_M_17) (fun _ h9 => h9) rfl d_M_add_24 ?_
          refine lv_iload hx hb d_M_add_27 (lv_at hl 6 rfl) ?_
          refine va_iald hx hb hK hP 6 0 rfl rfl (pk_in k 801 (by omega)) d_M_add_29 ?_
          refine lv_topi (fun z3 ez3 => ?_)
          obtain rfl : z3 = bL k := ez3.trans (rd (f := bL) (k := k) (by omega))
          refine lv_iload_n hx hb d_M_add_30 rfl (lv_at hl 2 rfl) ?_
          refine lv_icmp_ne (tgt := 45) hx hb d_M_add_31 (by decide) (fun c_31 => ?_) (fun c_31 => ?_)
          · refine lv_iinc (v := nI (k + 1)) (lv' := [(6, .int (nI (k + 1))), (0, .ref (h 0)), (1, .int (nI f)), (2, .int (nI g)), (3, .int b), (4, .int (ahI a)), (5, .int (nI y))]) hx hb d_M_add_45 hl (k := 6) rfl (nI_add k 1) (by decide) rfl (fun ls hl => ?_)
            refine lv_goto (tgt := 3) hx hb d_M_add_48 (by decide) ?_
            have hne := hE_not hE0 hs (k := k) (b := b) hf hg (by first | exact Or.inl c_20 | exact Or.inr (Or.inl c_31) | exact Or.inr (Or.inr c_42))
            have hno2 : ∀ j e, j < k + 1 → es[j]? = some e → kyE e ≠ (f, g, b) := by
              intro j e hj he
              rcases Nat.lt_or_ge j k with q | q
              · exact hno j e q he
              · obtain rfl : j = k := by omega
                exact hne e he
            exact ih_lp (k + 1) (by omega) (hno2) (by omega) _ _ _ hP hD hS (lv_sub hl [1, 2, 3, 4, 5, 6, 0] rfl)
          · refine lv_aload_n hx hb d_M_add_34 rfl (lv_at hl 0 rfl) ?_
            refine va_get (D := (dC, dI)) (ci := 0) (v := .ref (h 7)) (C := R_M) (T := F_M) (N := 18) hx hb hk k_M_f hown hK hP 0 rfl rfl 10 (by decide) (hk _ k_M_18) (fun _ h9 => h9) rfl d_M_add_35 ?_
            refine lv_iload hx hb d_M_add_38 (lv_at hl 6 rfl) ?_
            refine va_iald hx hb hK hP 7 0 rfl rfl (pk_in k 801 (by omega)) d_M_add_40 ?_
            refine lv_topi (fun z4 ez4 => ?_)
            obtain rfl : z4 = bB k := ez4.trans (rd (f := bB) (k := k) (by omega))
            refine lv_iload_n hx hb d_M_add_41 rfl (lv_at hl 3 rfl) ?_
            refine lv_icmp_eq (tgt := 51) hx hb d_M_add_42 (by decide) (fun c_42 => ?_) (fun c_42 => ?_)
            · refine lv_iload hx hb d_M_add_51 (lv_at hl 6 rfl) ?_
              refine lv_aload_n hx hb d_M_add_53 rfl (lv_at hl 0 rfl) ?_
              refine va_get (D := (dC, dI)) (ci := 0) (v := .int (nI es.length)) (C := R_M) (T := F_M) (N := 18) hx hb hk k_M_f hown hK hP 0 rfl rfl 7 (by decide) (hk _ k_M_15) (fun _ h9 => h9) rfl d_M_add_54 ?_
              refine lv_icmp_lt (tgt := 70) hx hb d_M_add_57 (by decide) (fun c_57 => ?_) (fun c_57 => ?_)
              · have c_57 : k < es.length := (nI_ltI (a := k) (b := es.length) (by omega) (by omega)).mp c_57
                have hq : addC 801 es (f, g, b, a, y) = es := by
                  first
                    | exact if_pos (Or.inl (hE_yes hE0 hs hf hg (by omega) c_20 c_31 c_42))
                    | exact if_pos (Or.inr (by omega))
                exact W.vret hx hb hr (fun t ht hW => ⟨⟨(nI es.length, bF, bL, bB, bA, bY), rfl, by rw [hq]; exact ⟨rfl, hE0⟩, by rw [ht]; exact hP, va_K.moved hW.alike hK, hD⟩, hS.F ht⟩) hS.2.2 d_M_add_70
              · have c_57 : ¬ k < es.length := fun z9 => c_57 ((nI_ltI (a := k) (b := es.length) (by omega) (by omega)).mpr z9)
                exfalso; omega
            · refine lv_iinc (v := nI (k + 1)) (lv' := [(6, .int (nI (k + 1))), (0, .ref (h 0)), (1, .int (nI f)), (2, .int (nI g)), (3, .int b), (4, .int (ahI a)), (5, .int (nI y))]) hx hb d_M_add_45 hl (k := 6) rfl (nI_add k 1) (by decide) rfl (fun ls hl => ?_)
              refine lv_goto (tgt := 3) hx hb d_M_add_48 (by decide) ?_
              have hne := hE_not hE0 hs (k := k) (b := b) hf hg (by first | exact Or.inl c_20 | exact Or.inr (Or.inl c_31) | exact Or.inr (Or.inr c_42))
              have hno2 : ∀ j e, j < k + 1 → es[j]? = some e → kyE e ≠ (f, g, b) := by
                intro j e hj he
                rcases Nat.lt_or_ge j k with q | q
                · exact hno j e q he
                · obtain rfl : j = k := by omega
                  exact hne e he
              exact ih_lp (k + 1) (by omega) (hno2) (by omega) _ _ _ hP hD hS (lv_sub hl [1, 2, 3, 4, 5, 6, 0] rfl)
  exact lp _ 0 (Nat.zero_le _) (fun j e hj => absurd hj (Nat.not_lt_zero _)) (Nat.lt_succ_self _) _ _ _ hP hD hS (lv_sub hl [1, 2, 3, 4, 5, 6, 0] rfl)
end
section
theorem take_next {α : Type} {l : List α} {k : Nat} {x : α} (h : l[k]? = some x) : l.take (k + 1) = l.take k ++ [x] := by
  rw [List.take_add_one, h]; rfl
theorem cnt_next {es : List En} {k : Nat} {x : En} (q : En → Bool) (h : es[k]? = some x) : (es.take (k + 1)).countP q = (es.take k).countP q + (if q x = true then 1 else 0) := by
  rw [take_next h, List.countP_append, List.countP_cons, List.countP_nil, Nat.zero_add]
theorem sm_of {nC : Nat} {cf ct : Nat → Nat} {ck : Nat → Int32} {J : Int32 → Int32 → Int32} {ok : Nat → Bool} (hS : ∀ c, c < nC → cf c < 16 ∧ ct c < 16) {es : List En} (h : ∀ e ∈ es, bsOk nC cf ct ck J ok e) : smE es := by
  have key : ∀ n f g b, rwN nC cf ct ck J n f g b → f < 16 ∧ g < 16 := by
    intro n
    induction n with
    | zero => rintro f g b ⟨c, hc, rfl, rfl, -⟩; exact hS c hc
    | succ n ih =>
      rintro f g b ⟨g', b', c, h1, hc, -, rfl, -⟩
      exact ⟨(ih f g' b' h1).1, (hS c hc).2⟩
  intro e he
  obtain ⟨-, n, hn⟩ := h e he
  exact key n _ _ _ hn
theorem sm_take {es : List En} (h : smE es) (n : Nat) : smE (es.take n) := fun e he => h e (List.mem_of_mem_take he)
theorem sm_ext {es fs : List En} (h : smE fs) (hx : ∃ t, fs = es ++ t) : smE es := fun e he => h e (ext_mem hx he)
def badX (x : Int32) : Prop := rj x x = x ∧ ∀ i, i < 4 → atN x i i ≠ 2
set_option maxHeartbeats 4000000 in
set_option maxRecDepth 100000 in
theorem m_find (l : Launch) (dC : Nat → ClassId) (dI : Nat → Nat → Nat) (cI cZ : ClassId) (h : Nat → Nat) (sz : Nat) (xt xf xg : Int32) (aP aK bF bL bB bA bY bR oT oO oR bS : Nat → Int32) (nC K : Nat) (cf ct : Nat → Nat) (ok : Nat → Bool) (q : Int32) (hC : nC ≤ 20) (hK8 : 801 ≤ K) (hS0 : ∀ c, c < nC → cf c < 16 ∧ ct c < 16) (hok : ∀ c, c < nC → (ok (cf c) = true ↔ q = -1 ∨ nI (cf c) = q)) : Met l y_M_find w_M_find ({ frames := 2, cells := 0, slots := 0, locals := 51 }) (va_Pc [.ref (h 0), .int q] (fun U => U.heap.size = sz ∧ va_P (dC, dI) kls (wM h cI cZ xt xf (nI nC) xg aP (fun c => nI (cf c)) (fun c => nI (ct c)) aK bF bL bB bA bY bR oT oO oR bS) U.heap ∧ va_K (dC, dI) kls (tyM cI cZ) U ∧ va_D (fun _ => True) (wM h cI cZ xt xf (nI nC) xg aP (fun c => nI (cf c)) (fun c => nI (ct c)) aK bF bL bB bA bY bR oT oO oR bS))) (va_Qi (fun (r : Int32) (u : Int32 × (Nat → Int32) × (Nat → Int32) × (Nat → Int32) × (Nat → Int32) × (Nat → Int32)) => (r = nI 1 ∧ (bsG nC cf ct aK rj ok K).length ≤ 800 ∧ u.1 = nI (bsG nC cf ct aK rj ok K).length ∧ hE (bsG nC cf ct aK rj ok K) u.2.1 u.2.2.1 u.2.2.2.1 u.2.2.2.2.1 u.2.2.2.2.2) ∨ (r = nI 0 ∧ 800 < (bsG nC cf ct aK rj ok K).length)) (fun (u : Int32 × (Nat → Int32) × (Nat → Int32) × (Nat → Int32) × (Nat → Int32) × (Nat → Int32)) (t : State) => va_P (dC, dI) kls (wM h cI cZ xt xf (nI nC) u.1 aP (fun c => nI (cf c)) (fun c => nI (ct c)) aK u.2.1 u.2.2.1 u.2.2.2.1 u.2.2.2.2.1 u.2.2.2.2.2 bR oT oO oR bS) t.heap ∧ va_K (dC, dI) kls (tyM cI cZ) t ∧ va_D (va_A (wM h cI cZ xt xf (nI nC) xg aP (fun c => nI (cf c)) (fun c => nI (ct c)) aK bF bL bB bA bY bR oT oO oR bS) sz) (wM h cI cZ xt xf (nI nC) u.1 aP (fun c => nI (cf c)) (fun c => nI (ct c)) aK u.2.1 u.2.2.1 u.2.2.2.1 u.2.2.2.2.1 u.2.2.2.2.2 bR oT oO oR bS)) (va_A (wM h cI cZ xt xf (nI nC) xg aP (fun c => nI (cf c)) (fun c => nI (ct c)) aK bF bL bB bA bY bR oT oO oR bS) sz)) 0 0 (va_A (wM h cI cZ xt xf (nI nC) xg aP (fun c => nI (cf c)) (fun c => nI (ct c)) aK bF bL bB bA bY bR oT oO oR bS) sz) := by
  refine Met.ofW (cc := c_M_find) (maxL := 4) (ret := (some .boolean)) (by decide) rfl ?_
  intro p e s m args below meth c s₁ B hml hv
  obtain ⟨rfl, hsz, hP, hK, hD0⟩ := hv
  have hx := B.exec
  have hb := B.bytes
  have hr := B.returns
  have hts := atoms_spec (ws := w_M_find) B.pre
  have hk : ∀ w ∈ wMw, w.before _ s = true := fun w h => hts w (List.mem_cons_of_mem _ h)
  have hown : s.vm.findClass R_M = some m.cls := findClass_of_methodNamed B.named
  have hlocks := B.notSynchronized
  subst hsz
  have hD := hD0.self (sz := s.heap.size)
  generalize hAe : va_A (wM h cI cZ xt xf (nI nC) xg aP (fun c => nI (cf c)) (fun c => nI (ct c)) aK bF bL bB bA bY bR oT oO oR bS) s.heap.size = A at hD ⊢
  have hA : ∀ q : Nat, s.heap.size ≤ q → A q := fun q h => by rw [← hAe]; exact Or.inr h
  have hS : va_S A s.heap s.heap [] := va_S.rf
  have hl := lv_entry ([.ref (h 0), .int q]) (n := 4) (Nat.le_of_ble_eq_true rfl)
  rw [lg_entry_eq]
  generalize (lg_sl ([.ref (h 0), .int q]) ++ List.replicate (4 - (lg_sl ([.ref (h 0), .int q])).length) Slot.unset).toArray = ls at hl ⊢
  have hl : lv_has ls 4 [(0, .ref (h 0)), (1, .int q)] := hl
  refine lv_aload_n hx hb d_M_find_0 rfl (lv_at hl 0 rfl) ?_
  refine lv_iconst (v := nI 0) hx hb d_M_find_1 (by decide +kernel) ?_
  refine va_put (D := (dC, dI)) (ci := 0) (v := .int (nI 0)) (ty := .int) (C := R_M) (T := F_M) (N := 18) hx hb hk k_M_f t_M t_M_ok n_M hown hK hP hD hS 0 rfl rfl 7 (by decide) (hk _ k_M_15) (fun _ h9 => h9) rfl (by decide +kernel) rfl rfl (Nat.le_of_ble_eq_true rfl) d_M_find_2 (fun H locs hP hD hS => ?_)
  have hP : va_P (dC, dI) kls (wM h cI cZ xt xf (nI nC) (nI 0) aP (fun c => nI (cf c)) (fun c => nI (ct c)) aK bF bL bB bA bY bR oT oO oR bS) H := hP
  have hD : va_D A (wM h cI cZ xt xf (nI nC) (nI 0) aP (fun c => nI (cf c)) (fun c => nI (ct c)) aK bF bL bB bA bY bR oT oO oR bS) := hD
  refine lv_iconst (v := nI 0) hx hb d_M_find_5 (by decide +kernel) ?_
  refine lv_istore_n (lv' := [(2, .int (nI 0)), (0, .ref (h 0)), (1, .int q)]) hx hb d_M_find_6 rfl hl (by decide) rfl (fun ls hl => ?_)
  have lpA : ∀ (n_lpA : Nat) (k : Nat) (bF : Nat → Int32) (bL : Nat → Int32) (bB : Nat → Int32) (bA : Nat → Int32) (bY : Nat → Int32), (k ≤ nC) → (hE ((bs0 cf ct aK ok k).take 801) bF bL bB bA bY) → nC - k < n_lpA → ∀ (H : Heap) (locs : List Loc) (ls : Array Slot), va_P (dC, dI) kls (wM h cI cZ xt xf (nI nC) (nI (((bs0 cf ct aK ok k).take 801).length)) aP (fun c => nI (cf c)) (fun c => nI (ct c)) aK bF bL bB bA bY bR oT oO oR bS) H → va_D A (wM h cI cZ xt xf (nI nC) (nI (((bs0 cf ct aK ok k).take 801).length)) aP (fun c => nI (cf c)) (fun c => nI (ct c)) aK bF bL bB bA bY bR oT oO oR bS) → va_S A s.heap H locs → lv_has ls 4 [(0, .ref (h 0)), (1, .int q), (2, .int (nI k))] → W p l e (headSpec w_M_find ({ frames := 2, cells := 0, slots := 0, locals := 51 })).room s m ([.ref (h 0), .int q]).toArray below meth c H locs 0 0 (MQ below (va_Qi (fun (r : Int32) (u : Int32 × (Nat → Int32) × (Nat → Int32) × (Nat → Int32) × (Nat → Int32) × (Nat → Int32)) => (r = nI 1 ∧ (bsG nC cf ct aK rj ok K).length ≤ 800 ∧ u.1 = nI (bsG nC cf ct aK rj ok K).length ∧ hE (bsG nC cf ct aK rj ok K) u.2.1 u.2.2.1 u.2.2.2.1 u.2.2.2.2.1 u.2.2.2.2.2) ∨ (r = nI 0 ∧ 800 < (bsG nC cf ct aK rj ok K).length)) (fun (u : Int32 × (Nat → Int32) × (Nat → Int32) × (Nat → Int32) × (Nat → Int32) × (Nat → Int32)) (t : State) => va_P (dC, dI) kls (wM h cI cZ xt xf (nI nC) u.1 aP (fun c => nI (cf c)) (fun c => nI (ct c)) aK u.2.1 u.2.2.1 u.2.2.2.1 u.2.2.2.2.1 u.2.2.2.2.2 bR oT oO oR bS) t.heap ∧ va_K (dC, dI) kls (tyM cI cZ) t ∧ va_D (A) (wM h cI cZ xt xf (nI nC) u.1 aP (fun c => nI (cf c)) (fun c => nI (ct c)) aK u.2.1 u.2.2.1 u.2.2.2.1 u.2.2.2.2.1 u.2.2.2.2.2 bR oT oO oR bS)) A) ([.ref (h 0), .int q]).toArray s 0 0 A) (F0 m 7 ls []) := by
    intro n_lpA
    induction n_lpA with
    | zero => intro k bF bL bB bA bY hk0 hE0 hn; exact absurd hn (Nat.not_lt_zero _)
    | succ n_lpA ih_lpA =>
      intro k bF bL bB bA bY hk0 hE0 hn H locs ls hP hD hS hl
      refine lv_iload_n hx hb d_M_find_7 rfl (lv_at hl 2 rfl) ?_
      refine lv_aload_n hx hb d_M_find_8 rfl (lv_at hl 0 rfl) ?_
      refine va_get (D := (dC, dI)) (ci := 0) (v := .int (nI nC)) (C := R_M) (T := F_M) (N := 18) hx hb hk k_M_f hown hK hP 0 rfl rfl 2 (by decide) (hk _ k_M_10) (fun _ h9 => h9) rfl d_M_find_9 ?_
      refine lv_icmp_ge (tgt := 60) hx hb d_M_find_12 (by decide) (fun c_12 => ?_) (fun c_12 => ?_)
      · have c_12 : nC ≤ k := (nI_leI (a := nC) (b := k) (by omega) (by omega)).mp c_12
        have hkn : k = nC := by omega
        rw [hkn] at hE0 hP hD
        clear hkn hk0 hn
        refine lv_iconst (v := nI 0) hx hb d_M_find_60 (by decide +kernel) ?_
        refine lv_istore_n (lv' := [(2, .int (nI 0)), (0, .ref (h 0)), (1, .int q)]) hx hb d_M_find_61 rfl hl (by decide) rfl (fun ls hl => ?_)
        have lpB : ∀ (n_lpB : Nat) (k : Nat) (bF : Nat → Int32) (bL : Nat → Int32) (bB : Nat → Int32) (bA : Nat → Int32) (bY : Nat → Int32), (k ≤ 801) → (hE ((bsG nC cf ct aK rj ok k).take 801) bF bL bB bA bY) → 801 - k < n_lpB → ∀ (H : Heap) (locs : List Loc) (ls : Array Slot), va_P (dC, dI) kls (wM h cI cZ xt xf (nI nC) (nI (((bsG nC cf ct aK rj ok k).take 801).length)) aP (fun c => nI (cf c)) (fun c => nI (ct c)) aK bF bL bB bA bY bR oT oO oR bS) H → va_D A (wM h cI cZ xt xf (nI nC) (nI (((bsG nC cf ct aK rj ok k).take 801).length)) aP (fun c => nI (cf c)) (fun c => nI (ct c)) aK bF bL bB bA bY bR oT oO oR bS) → va_S A s.heap H locs → lv_has ls 4 [(0, .ref (h 0)), (2, .int (nI k))] → W p l e (headSpec w_M_find ({ frames := 2, cells := 0, slots := 0, locals := 51 })).room s m ([.ref (h 0), .int q]).toArray below meth c H locs 0 0 (MQ below (va_Qi (fun (r : Int32) (u : Int32 × (Nat → Int32) × (Nat → Int32) × (Nat → Int32) × (Nat → Int32) × (Nat → Int32)) => (r = nI 1 ∧ (bsG nC cf ct aK rj ok K).length ≤ 800 ∧ u.1 = nI (bsG nC cf ct aK rj ok K).length ∧ hE (bsG nC cf ct aK rj ok K) u.2.1 u.2.2.1 u.2.2.2.1 u.2.2.2.2.1 u.2.2.2.2.2) ∨ (r = nI 0 ∧ 800 < (bsG nC cf ct aK rj ok K).length)) (fun (u : Int32 × (Nat → Int32) × (Nat → Int32) × (Nat → Int32) × (Nat → Int32) × (Nat → Int32)) (t : State) => va_P (dC, dI) kls (wM h cI cZ xt xf (nI nC) u.1 aP (fun c => nI (cf c)) (fun c => nI (ct c)) aK u.2.1 u.2.2.1 u.2.2.2.1 u.2.2.2.2.1 u.2.2.2.2.2 bR oT oO oR bS) t.heap ∧ va_K (dC, dI) kls (tyM cI cZ) t ∧ va_D (A) (wM h cI cZ xt xf (nI nC) u.1 aP (fun c => nI (cf c)) (fun c => nI (ct c)) aK u.2.1 u.2.2.1 u.2.2.2.1 u.2.2.2.2.1 u.2.2.2.2.2 bR oT oO oR bS)) A) ([.ref (h 0), .int q]).toArray s 0 0 A) (F0 m 62 ls []) := by
          intro n_lpB
          induction n_lpB with
          | zero => intro k bF bL bB bA bY hk0 hE0 hn; exact absurd hn (Nat.not_lt_zero _)
          | succ n_lpB ih_lpB =>
            intro k bF bL bB bA bY hk0 hE0 hn H locs ls hP hD hS hl
            have hL9 : ((bsG nC cf ct aK rj ok k).take 801).length ≤ 801 := by rw [List.length_take]; omega
            refine lv_iload_n hx hb d_M_find_62 rfl (lv_at hl 1 rfl) ?_
            refine lv_aload_n hx hb d_M_find_63 rfl (lv_at hl 0 rfl) ?_
            refine va_get (D := (dC, dI)) (ci := 0) (v := .int (nI (((bsG nC cf ct aK rj ok k).take 801).length))) (C := R_M) (T := F_M) (N := 18) hx hb hk k_M_f hown hK hP 0 rfl rfl 7 (by decide) (hk _ k_M_15) (fun _ h9 => h9) rfl d_M_find_64 ?_
            refine lv_icmp_ge (tgt := 150) hx hb d_M_find_67 (by decide) (fun c_67 => ?_) (fun c_67 => ?_)
            · have c_67 : ((bsG nC cf ct aK rj ok k).take 801).length ≤ k := (nI_leI (a := ((bsG nC cf ct aK rj ok k).take 801).length) (b := k) (by omega) (by omega)).mp c_67
              refine lv_aload_n hx hb d_M_find_150 rfl (lv_at hl 0 rfl) ?_
              refine va_get (D := (dC, dI)) (ci := 0) (v := .int (nI (((bsG nC cf ct aK rj ok k).take 801).length))) (C := R_M) (T := F_M) (N := 18) hx hb hk k_M_f hown hK hP 0 rfl rfl 7 (by decide) (hk _ k_M_15) (fun _ h9 => h9) rfl d_M_find_151 ?_
              refine lv_sipush (v := nI 800) hx hb d_M_find_154 (by decide +kernel) ?_
              refine lv_icmp_gt (tgt := 164) hx hb d_M_find_157 (by decide) (fun c_157 => ?_) (fun c_157 => ?_)
              · have c_157 : 800 < ((bsG nC cf ct aK rj ok k).take 801).length := (nI_ltI (a := 800) (b := ((bsG nC cf ct aK rj ok k).take 801).length) (by omega) (by omega)).mp c_157
                refine lv_iconst (v := nI 0) hx hb d_M_find_164 (by decide +kernel) ?_
                have hlen : 800 < (bsG nC cf ct aK rj ok k).length := by rw [List.length_take] at c_157; omega
                have hKk := ext_len (bsG_ext nC cf ct aK rj ok (show k ≤ K by omega))
                exact W.zret (v := nI 0) (ty := .boolean) hx hb hr rfl (fun t ht hW => ⟨⟨nI 0, (nI ((bsG nC cf ct aK rj ok k).take 801).length, bF, bL, bB, bA, bY), rfl, Or.inr ⟨rfl, by omega⟩, by rw [ht]; exact hP, va_K.moved hW.alike hK, hD⟩, hS.F ht⟩) hS.2.2 d_M_find_165
              · have c_157 : ¬ 800 < ((bsG nC cf ct aK rj ok k).take 801).length := fun z9 => c_157 ((nI_ltI (a := 800) (b := ((bsG nC cf ct aK rj ok k).take 801).length) (by omega) (by omega)).mpr z9)
                refine lv_iconst (v := nI 1) hx hb d_M_find_160 (by decide +kernel) ?_
                refine lv_goto (tgt := 165) hx hb d_M_find_161 (by decide) ?_
                have hlen : (bsG nC cf ct aK rj ok k).length ≤ 800 := by rw [List.length_take] at c_157; omega
                have htk : (bsG nC cf ct aK rj ok k).take 801 = bsG nC cf ct aK rj ok k := List.take_of_length_le (by omega)
                rw [htk] at hE0 hP hD
                have hend : (bsG nC cf ct aK rj ok k).length ≤ k := by first | (rw [htk] at c_67; exact c_67) | (rw [htk] at c_77; omega)
                have hKk : bsG nC cf ct aK rj ok K = bsG nC cf ct aK rj ok k := bsG_stay nC cf ct aK rj ok hend (by omega)
                exact W.zret (v := nI 1) (ty := .boolean) hx hb hr rfl (fun t ht hW => ⟨⟨nI 1, (nI (bsG nC cf ct aK rj ok k).length, bF, bL, bB, bA, bY), rfl, Or.inl ⟨rfl, by rw [hKk]; exact hlen, by rw [hKk], by rw [hKk]; exact hE0⟩, by rw [ht]; exact hP, va_K.moved hW.alike hK, hD⟩, hS.F ht⟩) hS.2.2 d_M_find_165
            · have c_67 : ¬ ((bsG nC cf ct aK rj ok k).take 801).length ≤ k := fun z9 => c_67 ((nI_leI (a := ((bsG nC cf ct aK rj ok k).take 801).length) (b := k) (by omega) (by omega)).mpr z9)
              refine lv_aload_n hx hb d_M_find_70 rfl (lv_at hl 0 rfl) ?_
              refine va_get (D := (dC, dI)) (ci := 0) (v := .int (nI (((bsG nC cf ct aK rj ok k).take 801).length))) (C := R_M) (T := F_M) (N := 18) hx hb hk k_M_f hown hK hP 0 rfl rfl 7 (by decide) (hk _ k_M_15) (fun _ h9 => h9) rfl d_M_find_71 ?_
              refine lv_sipush (v := nI 800) hx hb d_M_find_74 (by decide +kernel) ?_
              refine lv_icmp_gt (tgt := 150) hx hb d_M_find_77 (by decide) (fun c_77 => ?_) (fun c_77 => ?_)
              · have c_77 : 800 < ((bsG nC cf ct aK rj ok k).take 801).length := (nI_ltI (a := 800) (b := ((bsG nC cf ct aK rj ok k).take 801).length) (by omega) (by omega)).mp c_77
                refine lv_aload_n hx hb d_M_find_150 rfl (lv_at hl 0 rfl) ?_
                refine va_get (D := (dC, dI)) (ci := 0) (v := .int (nI (((bsG nC cf ct aK rj ok k).take 801).length))) (C := R_M) (T := F_M) (N := 18) hx hb hk k_M_f hown hK hP 0 rfl rfl 7 (by decide) (hk _ k_M_15) (fun _ h9 => h9) rfl d_M_find_151 ?_
                refine lv_sipush (v := nI 800) hx hb d_M_find_154 (by decide +kernel) ?_
                refine lv_icmp_gt (tgt := 164) hx hb d_M_find_157 (by decide) (fun c_157 => ?_) (fun c_157 => ?_)
                · have c_157 : 800 < ((bsG nC cf ct aK rj ok k).take 801).length := (nI_ltI (a := 800) (b := ((bsG nC cf ct aK rj ok k).take 801).length) (by omega) (by omega)).mp c_157
                  refine lv_iconst (v := nI 0) hx hb d_M_find_164 (by decide +kernel) ?_
                  have hlen : 800 < (bsG nC cf ct aK rj ok k).length := by rw [List.length_take] at c_157; omega
                  have hKk := ext_len (bsG_ext nC cf ct aK rj ok (show k ≤ K by omega))
                  exact W.zret (v := nI 0) (ty := .boolean) hx hb hr rfl (fun t ht hW => ⟨⟨nI 0, (nI ((bsG nC cf ct aK rj ok k).take 801).length, bF, bL, bB, bA, bY), rfl, Or.inr ⟨rfl, by omega⟩, by rw [ht]; exact hP, va_K.moved hW.alike hK, hD⟩, hS.F ht⟩) hS.2.2 d_M_find_165
                · have c_157 : ¬ 800 < ((bsG nC cf ct aK rj ok k).take 801).length := fun z9 => c_157 ((nI_ltI (a := 800) (b := ((bsG nC cf ct aK rj ok k).take 801).length) (by omega) (by omega)).mpr z9)
                  refine lv_iconst (v := nI 1) hx hb d_M_find_160 (by decide +kernel) ?_
                  refine lv_goto (tgt := 165) hx hb d_M_find_161 (by decide) ?_
                  have hlen : (bsG nC cf ct aK rj ok k).length ≤ 800 := by rw [List.length_take] at c_157; omega
                  have htk : (bsG nC cf ct aK rj ok k).take 801 = bsG nC cf ct aK rj ok k := List.take_of_length_le (by omega)
                  rw [htk] at hE0 hP hD
                  have hend : (bsG nC cf ct aK rj ok k).length ≤ k := by first | (rw [htk] at c_67; exact c_67) | (rw [htk] at c_77; omega)
                  have hKk : bsG nC cf ct aK rj ok K = bsG nC cf ct aK rj ok k := bsG_stay nC cf ct aK rj ok hend (by omega)
                  exact W.zret (v := nI 1) (ty := .boolean) hx hb hr rfl (fun t ht hW => ⟨⟨nI 1, (nI (bsG nC cf ct aK rj ok k).length, bF, bL, bB, bA, bY), rfl, Or.inl ⟨rfl, by rw [hKk]; exact hlen, by rw [hKk], by rw [hKk]; exact hE0⟩, by rw [ht]; exact hP, va_K.moved hW.alike hK, hD⟩, hS.F ht⟩) hS.2.2 d_M_find_165
              · have c_77 : ¬ 800 < ((bsG nC cf ct aK rj ok k).take 801).length := fun z9 => c_77 ((nI_ltI (a := 800) (b := ((bsG nC cf ct aK rj ok k).take 801).length) (by omega) (by omega)).mpr z9)
                refine lv_iconst (v := nI 0) hx hb d_M_find_80 (by decide +kernel) ?_
                refine lv_istore_n (lv' := [(3, .int (nI 0)), (0, .ref (h 0)), (2, .int (nI k))]) hx hb d_M_find_81 rfl hl (by decide) rfl (fun ls hl => ?_)
                have hlk : k < (bsG nC cf ct aK rj ok k).length := by rw [List.length_take] at c_67; omega
                obtain ⟨en, hen⟩ : ∃ en, (bsG nC cf ct aK rj ok k)[k]? = some en := ⟨_, List.getElem?_eq_getElem hlk⟩
                have lpC : ∀ (n_lpC : Nat) (i : Nat) (bF : Nat → Int32) (bL : Nat → Int32) (bB : Nat → Int32) (bA : Nat → Int32) (bY : Nat → Int32), (i ≤ nC) → (hE ((bsI cf ct aK rj k en (bsG nC cf ct aK rj ok k) i).take 801) bF bL bB bA bY) → nC - i < n_lpC → ∀ (H : Heap) (locs : List Loc) (ls : Array Slot), va_P (dC, dI) kls (wM h cI cZ xt xf (nI nC) (nI (((bsI cf ct aK rj k en (bsG nC cf ct aK rj ok k) i).take 801).length)) aP (fun c => nI (cf c)) (fun c => nI (ct c)) aK bF bL bB bA bY bR oT oO oR bS) H → va_D A (wM h cI cZ xt xf (nI nC) (nI (((bsI cf ct aK rj k en (bsG nC cf ct aK rj ok k) i).take 801).length)) aP (fun c => nI (cf c)) (fun c => nI (ct c)) aK bF bL bB bA bY bR oT oO oR bS) → va_S A s.heap H locs → lv_has ls 4 [(0, .ref (h 0)), (2, .int (nI k)), (3, .int (nI i))] → W p l e (headSpec w_M_find ({ frames := 2, cells := 0, slots := 0, locals := 51 })).room s m ([.ref (h 0), .int q]).toArray below meth c H locs 0 0 (MQ below (va_Qi (fun (r : Int32) (u : Int32 × (Nat → Int32) × (Nat → Int32) × (Nat → Int32) × (Nat → Int32) × (Nat → Int32)) => (r = nI 1 ∧ (bsG nC cf ct aK rj ok K).length ≤ 800 ∧ u.1 = nI (bsG nC cf ct aK rj ok K).length ∧ hE (bsG nC cf ct aK rj ok K) u.2.1 u.2.2.1 u.2.2.2.1 u.2.2.2.2.1 u.2.2.2.2.2) ∨ (r = nI 0 ∧ 800 < (bsG nC cf ct aK rj ok K).length)) (fun (u : Int32 × (Nat → Int32) × (Nat → Int32) × (Nat → Int32) × (Nat → Int32) × (Nat → Int32)) (t : State) => va_P (dC, dI) kls (wM h cI cZ xt xf (nI nC) u.1 aP (fun c => nI (cf c)) (fun c => nI (ct c)) aK u.2.1 u.2.2.1 u.2.2.2.1 u.2.2.2.2.1 u.2.2.2.2.2 bR oT oO oR bS) t.heap ∧ va_K (dC, dI) kls (tyM cI cZ) t ∧ va_D (A) (wM h cI cZ xt xf (nI nC) u.1 aP (fun c => nI (cf c)) (fun c => nI (ct c)) aK u.2.1 u.2.2.1 u.2.2.2.1 u.2.2.2.2.1 u.2.2.2.2.2 bR oT oO oR bS)) A) ([.ref (h 0), .int q]).toArray s 0 0 A) (F0 m 82 ls []) := by
                  intro n_lpC
                  induction n_lpC with
                  | zero => intro i bF bL bB bA bY hi0 hE0 hn; exact absurd hn (Nat.not_lt_zero _)
                  | succ n_lpC ih_lpC =>
                    intro i bF bL bB bA bY hi0 hE0 hn H locs ls hP hD hS hl
                    refine lv_iload_n hx hb d_M_find_82 rfl (lv_at hl 2 rfl) ?_
                    refine lv_aload_n hx hb d_M_find_83 rfl (lv_at hl 0 rfl) ?_
                    refine va_get (D := (dC, dI)) (ci := 0) (v := .int (nI nC)) (C := R_M) (T := F_M) (N := 18) hx hb hk k_M_f hown hK hP 0 rfl rfl 2 (by decide) (hk _ k_M_10) (fun _ h9 => h9) rfl d_M_find_84 ?_
                    refine lv_icmp_ge (tgt := 144) hx hb d_M_find_87 (by decide) (fun c_87 => ?_) (fun c_87 => ?_)
                    · have c_87 : nC ≤ i := (nI_leI (a := nC) (b := i) (by omega) (by omega)).mp c_87
                      have hin : i = nC := by omega
                      rw [hin] at hE0 hP hD
                      refine lv_iinc (v := nI (k + 1)) (lv' := [(2, .int (nI (k + 1))), (0, .ref (h 0)), (3, .int (nI i))]) hx hb d_M_find_144 hl (k := 1) rfl (nI_add k 1) (by decide) rfl (fun ls hl => ?_)
                      refine lv_goto (tgt := 62) hx hb d_M_find_147 (by decide) ?_
                      have hbs : bsG nC cf ct aK rj ok (k + 1) = bsI cf ct aK rj k en (bsG nC cf ct aK rj ok k) nC := by rw [bsG, hen]
                      rw [← hbs] at hE0 hP hD
                      exact ih_lpB (k + 1) bF bL bB bA bY (by omega) (hE0) (by omega) _ _ _ hP hD hS (lv_sub hl [1, 0] rfl)
                    · have c_87 : ¬ nC ≤ i := fun z9 => c_87 ((nI_leI (a := nC) (b := i) (by omega) (by omega)).mpr z9)
                      have hek : ((bsI cf ct aK rj k en (bsG nC cf ct aK rj ok k) i).take 801)[k]? = some en := by
                        rw [List.getElem?_take_of_lt (by omega)]
                        exact ext_at (bsI_ext cf ct aK rj k en (bsG nC cf ct aK rj ok k) i) hen
                      obtain ⟨q1, q2, q3, -, -⟩ := hE0 k en hek
                      have hsG : smE (bsG nC cf ct aK rj ok k) := sm_of hS0 (bsG_ok nC cf ct aK rj ok k)
                      have hsn := hsG en (List.mem_of_getElem? hen)
                      have hci := hS0 i (by omega)
                      refine lv_aload_n hx hb d_M_find_90 rfl (lv_at hl 0 rfl) ?_
                      refine va_get (D := (dC, dI)) (ci := 0) (v := .ref (h 2)) (C := R_M) (T := F_M) (N := 18) hx hb hk k_M_f hown hK hP 0 rfl rfl 4 (by decide) (hk _ k_M_12) (fun _ h9 => h9) rfl d_M_find_91 ?_
                      refine lv_iload_n hx hb d_M_find_94 rfl (lv_at hl 2 rfl) ?_
                      refine va_iald hx hb hK hP 2 0 rfl rfl (pk_in i 20 (by omega)) d_M_find_95 ?_
                      refine lv_topi (fun z1 ez1 => ?_)
                      obtain rfl : z1 = nI (cf i) := ez1.trans (rd (f := fun c => nI (cf c)) (k := i) (by omega))
                      refine lv_aload_n hx hb d_M_find_96 rfl (lv_at hl 0 rfl) ?_
                      refine va_get (D := (dC, dI)) (ci := 0) (v := .ref (h 6)) (C := R_M) (T := F_M) (N := 18) hx hb hk k_M_f hown hK hP 0 rfl rfl 9 (by decide) (hk _ k_M_17) (fun _ h9 => h9) rfl d_M_find_97 ?_
                      refine lv_iload_n hx hb d_M_find_100 rfl (lv_at hl 1 rfl) ?_
                      refine va_iald hx hb hK hP 6 0 rfl rfl (pk_in k 801 (by omega)) d_M_find_101 ?_
                      refine lv_topi (fun z2 ez2 => ?_)
                      obtain rfl : z2 = nI en.2.1 := ez2.trans ((rd (f := bL) (k := k) (by omega)).trans q2)
                      refine lv_icmp_ne (tgt := 138) hx hb d_M_find_102 (by decide) (fun c_102 => ?_) (fun c_102 => ?_)
                      · have c_102 : ¬ cf i = en.2.1 := fun z9 => c_102 ((nI_eq (a := cf i) (b := en.2.1) (by omega) (by omega)).mpr z9)
                        refine lv_iinc (v := nI (i + 1)) (lv' := [(3, .int (nI (i + 1))), (0, .ref (h 0)), (2, .int (nI k))]) hx hb d_M_find_138 hl (k := 2) rfl (nI_add i 1) (by decide) rfl (fun ls hl => ?_)
                        refine lv_goto (tgt := 82) hx hb d_M_find_141 (by decide) ?_
                        have hb0 : bsI cf ct aK rj k en (bsG nC cf ct aK rj ok k) (i + 1) = bsI cf ct aK rj k en (bsG nC cf ct aK rj ok k) i := by rw [bsI, if_neg c_102]
                        rw [← hb0] at hE0 hP hD
                        exact ih_lpC (i + 1) bF bL bB bA bY (by omega) (hE0) (by omega) _ _ _ hP hD hS (lv_sub hl [1, 2, 0] rfl)
                      · have c_102 : cf i = en.2.1 := (nI_eq (a := cf i) (b := en.2.1) (by omega) (by omega)).mp c_102
                        refine lv_aload_n hx hb d_M_find_105 rfl (lv_at hl 0 rfl) ?_
                        refine lv_aload_n hx hb d_M_find_106 rfl (lv_at hl 0 rfl) ?_
                        refine va_get (D := (dC, dI)) (ci := 0) (v := .ref (h 5)) (C := R_M) (T := F_M) (N := 18) hx hb hk k_M_f hown hK hP 0 rfl rfl 8 (by decide) (hk _ k_M_16) (fun _ h9 => h9) rfl d_M_find_107 ?_
                        refine lv_iload_n hx hb d_M_find_110 rfl (lv_at hl 1 rfl) ?_
                        refine va_iald hx hb hK hP 5 0 rfl rfl (pk_in k 801 (by omega)) d_M_find_111 ?_
                        refine lv_topi (fun z3 ez3 => ?_)
                        obtain rfl : z3 = nI en.1 := ez3.trans ((rd (f := bF) (k := k) (by omega)).trans q1)
                        refine lv_aload_n hx hb d_M_find_112 rfl (lv_at hl 0 rfl) ?_
                        refine va_get (D := (dC, dI)) (ci := 0) (v := .ref (h 3)) (C := R_M) (T := F_M) (N := 18) hx hb hk k_M_f hown hK hP 0 rfl rfl 5 (by decide) (hk _ k_M_13) (fun _ h9 => h9) rfl d_M_find_113 ?_
                        refine lv_iload_n hx hb d_M_find_116 rfl (lv_at hl 2 rfl) ?_
                        refine va_iald hx hb hK hP 3 0 rfl rfl (pk_in i 20 (by omega)) d_M_find_117 ?_
                        refine lv_topi (fun z4 ez4 => ?_)
                        obtain rfl : z4 = nI (ct i) := ez4.trans (rd (f := fun c => nI (ct c)) (k := i) (by omega))
                        refine lv_aload_n hx hb d_M_find_118 rfl (lv_at hl 0 rfl) ?_
                        refine va_get (D := (dC, dI)) (ci := 0) (v := .ref (h 7)) (C := R_M) (T := F_M) (N := 18) hx hb hk k_M_f hown hK hP 0 rfl rfl 10 (by decide) (hk _ k_M_18) (fun _ h9 => h9) rfl d_M_find_119 ?_
                        refine lv_iload_n hx hb d_M_find_122 rfl (lv_at hl 1 rfl) ?_
                        refine va_iald hx hb hK hP 7 0 rfl rfl (pk_in k 801 (by omega)) d_M_find_123 ?_
                        refine lv_topi (fun z5 ez5 => ?_)
                        obtain rfl : z5 = en.2.2.1 := ez5.trans ((rd (f := bB) (k := k) (by omega)).trans q3)
                        refine lv_aload_n hx hb d_M_find_124 rfl (lv_at hl 0 rfl) ?_
                        refine va_get (D := (dC, dI)) (ci := 0) (v := .ref (h 4)) (C := R_M) (T := F_M) (N := 18) hx hb hk k_M_f hown hK hP 0 rfl rfl 6 (by decide) (hk _ k_M_14) (fun _ h9 => h9) rfl d_M_find_125 ?_
                        refine lv_iload_n hx hb d_M_find_128 rfl (lv_at hl 2 rfl) ?_
                        refine va_iald hx hb hK hP 4 0 rfl rfl (pk_in i 20 (by omega)) d_M_find_129 ?_
                        refine lv_topi (fun z6 ez6 => ?_)
                        obtain rfl : z6 = aK i := ez6.trans (rd (f := aK) (k := i) (by omega))
                        refine vp_callSi (W.runS (As := [.int en.2.2.1, .int (aK i)]) (rest := [.int (nI (ct i)), .int (nI en.1), .ref (h 0)]) ⟨hx, hb, hml, hown, hk⟩ (m_joined l en.2.2.1 (aK i)) (cwS 2 hk g_M_joined rfl rfl rfl (by decide +kernel) ⟨Nat.le_of_ble_eq_true rfl, Nat.le_of_ble_eq_true rfl⟩) ⟨fun a U g mk q => q, fun U hU hW => ⟨rfl, trivial⟩⟩ rfl rfl hl.1 rfl (lv_room (Nat.le_of_ble_eq_true rfl)) d_M_find_130 ⟨Nat.le_of_ble_eq_true rfl, Nat.le_of_ble_eq_true rfl⟩) (fun r7 hw => ?_)
                        subst hw
                        refine lv_iload_n hx hb d_M_find_133 rfl (lv_at hl 1 rfl) ?_
                        refine lv_iload_n hx hb d_M_find_134 rfl (lv_at hl 2 rfl) ?_
                        have hFc := va_free (wc := wM h cI cZ xt xf (nI nC) (nI (((bsI cf ct aK rj k en (bsG nC cf ct aK rj ok k) i).take 801).length)) aP (fun c => nI (cf c)) (fun c => nI (ct c)) aK bF bL bB bA bY bR oT oO oR bS) hD hS hA [0, 1, 2, 3, 4, 5, 6, 7, 8, 9, 10, 11, 12, 13, 14] rfl
                        refine va_callv (va_runV (As := [.int (nI en.1), .int (nI (ct i)), .int (rj en.2.2.1 (aK i)), .int (nI k), .int (nI i)]) (rest := []) ⟨hx, hb, hml, hown, hk⟩ (m_add l dC dI cI cZ h H.size xt xf (nI nC) aP (fun c => nI (cf c)) (fun c => nI (ct c)) aK bF bL bB bA bY bR oT oO oR bS ((bsI cf ct aK rj k en (bsG nC cf ct aK rj ok k) i).take 801) en.1 (ct i) i (rj en.2.2.1 (aK i)) (some k) (by rw [List.length_take]; omega) (hE0) (sm_take (sm_of hS0 (bsI_ok nC cf ct aK rj ok k (bsG_ok nC cf ct aK rj ok k en (List.mem_of_getElem? hen)) (bsG_ok nC cf ct aK rj ok k) i (by omega))) _) (by omega) (by omega)) (cwV 5 hk g_M_add rfl rfl rfl (by decide +kernel) ⟨Nat.le_of_ble_eq_true rfl, Nat.le_of_ble_eq_true rfl⟩) ⟨fun a U g mk q => by obtain ⟨q0, q1, qP, qK, qD⟩ := q; exact ⟨q0, q1, qP, va_K.moved (u := U) (U := U.calling g mk a) (Vm.Alike.refl U.vm) qK, qD⟩, va_recv hK hP (ci := 0) (q0 := 0) rfl rfl, fun U hU hW => ⟨rfl, by rw [hU], by rw [hU]; exact hP, va_K.moved hW.alike hK, hD.weaken (fun _ _ _ _ => trivial)⟩⟩ rfl rfl hl.1 rfl (lv_room (Nat.le_of_ble_eq_true rfl)) d_M_find_135 ⟨Nat.le_of_ble_eq_true rfl, Nat.le_of_ble_eq_true rfl⟩) hS (fun q _ h => hFc q h) hFc (fun u9 t H1 locs ht hvm hw hB hz1 hk1 hS => ?_)
                        obtain ⟨xg9, bF9, bL9, bB9, bA9, bY9⟩ := u9
                        obtain ⟨hP1, hK1, hD1⟩ := hB
                        rw [ht] at hP1
                        try dsimp only at hw
                        obtain ⟨hP, hD⟩ := va_join (wr := []) (w1 := wM h cI cZ xt xf (nI nC) xg9 aP (fun c => nI (cf c)) (fun c => nI (ct c)) aK bF9 bL9 bB9 bA9 bY9 bR oT oO oR bS) hP hD [0, 1, 2, 3, 4, 5, 6, 7, 8, 9, 10, 11, 12, 13, 14] [] rfl rfl (by decide) (by decide) hk1 hFc hP1 hD1
                        generalize H1 = H at hP hS ⊢
                        have hP : va_P (dC, dI) kls (wM h cI cZ xt xf (nI nC) xg9 aP (fun c => nI (cf c)) (fun c => nI (ct c)) aK bF9 bL9 bB9 bA9 bY9 bR oT oO oR bS) H := hP
                        have hD : va_D A (wM h cI cZ xt xf (nI nC) xg9 aP (fun c => nI (cf c)) (fun c => nI (ct c)) aK bF9 bL9 bB9 bA9 bY9 bR oT oO oR bS) := hD
                        have hnx : bsI cf ct aK rj k en (bsG nC cf ct aK rj ok k) (i + 1) = addE (bsI cf ct aK rj k en (bsG nC cf ct aK rj ok k) i) (en.1, ct i, rj en.2.2.1 (aK i), some k, i) := by rw [bsI, if_pos c_102]
                        rw [addC_take, ← hnx] at hw
                        obtain ⟨hg9, hE9⟩ := hw
                        subst hg9
                        refine lv_iinc (v := nI (i + 1)) (lv' := [(3, .int (nI (i + 1))), (0, .ref (h 0)), (2, .int (nI k))]) hx hb d_M_find_138 hl (k := 2) rfl (nI_add i 1) (by decide) rfl (fun ls hl => ?_)
                        refine lv_goto (tgt := 82) hx hb d_M_find_141 (by decide) ?_
                        exact ih_lpC (i + 1) bF9 bL9 bB9 bA9 bY9 (by omega) (hE9) (by omega) _ _ _ hP hD hS (lv_sub hl [1, 2, 0] rfl)
                exact lpC _ 0 bF bL bB bA bY (Nat.zero_le _) (hE0) (Nat.lt_succ_self _) _ _ _ hP hD hS (lv_sub hl [1, 2, 0] rfl)
        exact lpB _ 0 bF bL bB bA bY (Nat.zero_le _) (hE0) (Nat.lt_succ_self _) _ _ _ hP hD hS (lv_sub hl [1, 0] rfl)
      · have c_12 : ¬ nC ≤ k := fun z9 => c_12 ((nI_leI (a := nC) (b := k) (by omega) (by omega)).mpr z9)
        have hck := hS0 k (by omega)
        refine lv_iload_n hx hb d_M_find_15 rfl (lv_at hl 1 rfl) ?_
        refine lv_iconst (v := (-1)) hx hb d_M_find_16 (by decide +kernel) ?_
        refine lv_icmp_eq (tgt := 30) hx hb d_M_find_17 (by decide) (fun c_17 => ?_) (fun c_17 => ?_)
        · refine lv_aload_n hx hb d_M_find_30 rfl (lv_at hl 0 rfl) ?_
          refine lv_aload_n hx hb d_M_find_31 rfl (lv_at hl 0 rfl) ?_
          refine va_get (D := (dC, dI)) (ci := 0) (v := .ref (h 2)) (C := R_M) (T := F_M) (N := 18) hx hb hk k_M_f hown hK hP 0 rfl rfl 4 (by decide) (hk _ k_M_12) (fun _ h9 => h9) rfl d_M_find_32 ?_
          refine lv_iload_n hx hb d_M_find_35 rfl (lv_at hl 2 rfl) ?_
          refine va_iald hx hb hK hP 2 0 rfl rfl (pk_in k 20 (by omega)) d_M_find_36 ?_
          refine lv_topi (fun z9 ez9 => ?_)
          obtain rfl : z9 = nI (cf k) := ez9.trans (rd (f := fun c => nI (cf c)) (k := k) (by omega))
          refine lv_aload_n hx hb d_M_find_37 rfl (lv_at hl 0 rfl) ?_
          refine va_get (D := (dC, dI)) (ci := 0) (v := .ref (h 3)) (C := R_M) (T := F_M) (N := 18) hx hb hk k_M_f hown hK hP 0 rfl rfl 5 (by decide) (hk _ k_M_13) (fun _ h9 => h9) rfl d_M_find_38 ?_
          refine lv_iload_n hx hb d_M_find_41 rfl (lv_at hl 2 rfl) ?_
          refine va_iald hx hb hK hP 3 0 rfl rfl (pk_in k 20 (by omega)) d_M_find_42 ?_
          refine lv_topi (fun z10 ez10 => ?_)
          obtain rfl : z10 = nI (ct k) := ez10.trans (rd (f := fun c => nI (ct c)) (k := k) (by omega))
          refine lv_aload_n hx hb d_M_find_43 rfl (lv_at hl 0 rfl) ?_
          refine va_get (D := (dC, dI)) (ci := 0) (v := .ref (h 4)) (C := R_M) (T := F_M) (N := 18) hx hb hk k_M_f hown hK hP 0 rfl rfl 6 (by decide) (hk _ k_M_14) (fun _ h9 => h9) rfl d_M_find_44 ?_
          refine lv_iload_n hx hb d_M_find_47 rfl (lv_at hl 2 rfl) ?_
          refine va_iald hx hb hK hP 4 0 rfl rfl (pk_in k 20 (by omega)) d_M_find_48 ?_
          refine lv_topi (fun z11 ez11 => ?_)
          obtain rfl : z11 = aK k := ez11.trans (rd (f := aK) (k := k) (by omega))
          refine lv_iconst (v := (-1)) hx hb d_M_find_49 (by decide +kernel) ?_
          refine lv_iload_n hx hb d_M_find_50 rfl (lv_at hl 2 rfl) ?_
          have hFc := va_free (wc := wM h cI cZ xt xf (nI nC) (nI (((bs0 cf ct aK ok k).take 801).length)) aP (fun c => nI (cf c)) (fun c => nI (ct c)) aK bF bL bB bA bY bR oT oO oR bS) hD hS hA [0, 1, 2, 3, 4, 5, 6, 7, 8, 9, 10, 11, 12, 13, 14] rfl
          refine va_callv (va_runV (As := [.int (nI (cf k)), .int (nI (ct k)), .int (aK k), .int (-1), .int (nI k)]) (rest := []) ⟨hx, hb, hml, hown, hk⟩ (m_add l dC dI cI cZ h H.size xt xf (nI nC) aP (fun c => nI (cf c)) (fun c => nI (ct c)) aK bF bL bB bA bY bR oT oO oR bS ((bs0 cf ct aK ok k).take 801) (cf k) (ct k) k (aK k) none (by rw [List.length_take]; omega) (hE0) (sm_take (sm_of (J := rj) hS0 (bs0_ok nC cf ct aK rj ok k (by omega))) _) (by omega) (by omega)) (cwV 5 hk g_M_add rfl rfl rfl (by decide +kernel) ⟨Nat.le_of_ble_eq_true rfl, Nat.le_of_ble_eq_true rfl⟩) ⟨fun a U g mk q => by obtain ⟨q0, q1, qP, qK, qD⟩ := q; exact ⟨q0, q1, qP, va_K.moved (u := U) (U := U.calling g mk a) (Vm.Alike.refl U.vm) qK, qD⟩, va_recv hK hP (ci := 0) (q0 := 0) rfl rfl, fun U hU hW => ⟨rfl, by rw [hU], by rw [hU]; exact hP, va_K.moved hW.alike hK, hD.weaken (fun _ _ _ _ => trivial)⟩⟩ rfl rfl hl.1 rfl (lv_room (Nat.le_of_ble_eq_true rfl)) d_M_find_51 ⟨Nat.le_of_ble_eq_true rfl, Nat.le_of_ble_eq_true rfl⟩) hS (fun q _ h => hFc q h) hFc (fun u9 t H1 locs ht hvm hw hB hz1 hk1 hS => ?_)
          obtain ⟨xg9, bF9, bL9, bB9, bA9, bY9⟩ := u9
          obtain ⟨hP1, hK1, hD1⟩ := hB
          rw [ht] at hP1
          try dsimp only at hw
          obtain ⟨hP, hD⟩ := va_join (wr := []) (w1 := wM h cI cZ xt xf (nI nC) xg9 aP (fun c => nI (cf c)) (fun c => nI (ct c)) aK bF9 bL9 bB9 bA9 bY9 bR oT oO oR bS) hP hD [0, 1, 2, 3, 4, 5, 6, 7, 8, 9, 10, 11, 12, 13, 14] [] rfl rfl (by decide) (by decide) hk1 hFc hP1 hD1
          generalize H1 = H at hP hS ⊢
          have hP : va_P (dC, dI) kls (wM h cI cZ xt xf (nI nC) xg9 aP (fun c => nI (cf c)) (fun c => nI (ct c)) aK bF9 bL9 bB9 bA9 bY9 bR oT oO oR bS) H := hP
          have hD : va_D A (wM h cI cZ xt xf (nI nC) xg9 aP (fun c => nI (cf c)) (fun c => nI (ct c)) aK bF9 bL9 bB9 bA9 bY9 bR oT oO oR bS) := hD
          have hnx : bs0 cf ct aK ok (k + 1) = addE (bs0 cf ct aK ok k) (cf k, ct k, aK k, none, k) := by rw [bs0, if_pos ((hok k (by omega)).mpr (by first | exact Or.inl c_17 | exact Or.inr c_27))]
          rw [addC_take, ← hnx] at hw
          obtain ⟨hg9, hE9⟩ := hw
          subst hg9
          refine lv_iinc (v := nI (k + 1)) (lv' := [(2, .int (nI (k + 1))), (0, .ref (h 0)), (1, .int q)]) hx hb d_M_find_54 hl (k := 2) rfl (nI_add k 1) (by decide) rfl (fun ls hl => ?_)
          refine lv_goto (tgt := 7) hx hb d_M_find_57 (by decide) ?_
          exact ih_lpA (k + 1) bF9 bL9 bB9 bA9 bY9 (by omega) (hE9) (by omega) _ _ _ hP hD hS (lv_sub hl [1, 2, 0] rfl)
        · refine lv_aload_n hx hb d_M_find_20 rfl (lv_at hl 0 rfl) ?_
          refine va_get (D := (dC, dI)) (ci := 0) (v := .ref (h 2)) (C := R_M) (T := F_M) (N := 18) hx hb hk k_M_f hown hK hP 0 rfl rfl 4 (by decide) (hk _ k_M_12) (fun _ h9 => h9) rfl d_M_find_21 ?_
          refine lv_iload_n hx hb d_M_find_24 rfl (lv_at hl 2 rfl) ?_
          refine va_iald hx hb hK hP 2 0 rfl rfl (pk_in k 20 (by omega)) d_M_find_25 ?_
          refine lv_topi (fun z13 ez13 => ?_)
          obtain rfl : z13 = nI (cf k) := ez13.trans (rd (f := fun c => nI (cf c)) (k := k) (by omega))
          refine lv_iload_n hx hb d_M_find_26 rfl (lv_at hl 1 rfl) ?_
          refine lv_icmp_ne (tgt := 54) hx hb d_M_find_27 (by decide) (fun c_27 => ?_) (fun c_27 => ?_)
          · refine lv_iinc (v := nI (k + 1)) (lv' := [(2, .int (nI (k + 1))), (0, .ref (h 0)), (1, .int q)]) hx hb d_M_find_54 hl (k := 2) rfl (nI_add k 1) (by decide) rfl (fun ls hl => ?_)
            refine lv_goto (tgt := 7) hx hb d_M_find_57 (by decide) ?_
            have hb0 : bs0 cf ct aK ok (k + 1) = bs0 cf ct aK ok k := by rw [bs0, if_neg (fun z9 => by rcases (hok k (by omega)).mp z9 with z | z; exact c_17 z; exact c_27 z)]
            rw [← hb0] at hE0 hP hD
            exact ih_lpA (k + 1) bF bL bB bA bY (by omega) (hE0) (by omega) _ _ _ hP hD hS (lv_sub hl [1, 2, 0] rfl)
          · refine lv_aload_n hx hb d_M_find_30 rfl (lv_at hl 0 rfl) ?_
            refine lv_aload_n hx hb d_M_find_31 rfl (lv_at hl 0 rfl) ?_
            refine va_get (D := (dC, dI)) (ci := 0) (v := .ref (h 2)) (C := R_M) (T := F_M) (N := 18) hx hb hk k_M_f hown hK hP 0 rfl rfl 4 (by decide) (hk _ k_M_12) (fun _ h9 => h9) rfl d_M_find_32 ?_
            refine lv_iload_n hx hb d_M_find_35 rfl (lv_at hl 2 rfl) ?_
            refine va_iald hx hb hK hP 2 0 rfl rfl (pk_in k 20 (by omega)) d_M_find_36 ?_
            refine lv_topi (fun z14 ez14 => ?_)
            obtain rfl : z14 = nI (cf k) := ez14.trans (rd (f := fun c => nI (cf c)) (k := k) (by omega))
            refine lv_aload_n hx hb d_M_find_37 rfl (lv_at hl 0 rfl) ?_
            refine va_get (D := (dC, dI)) (ci := 0) (v := .ref (h 3)) (C := R_M) (T := F_M) (N := 18) hx hb hk k_M_f hown hK hP 0 rfl rfl 5 (by decide) (hk _ k_M_13) (fun _ h9 => h9) rfl d_M_find_38 ?_
            refine lv_iload_n hx hb d_M_find_41 rfl (lv_at hl 2 rfl) ?_
            refine va_iald hx hb hK hP 3 0 rfl rfl (pk_in k 20 (by omega)) d_M_find_42 ?_
            refine lv_topi (fun z15 ez15 => ?_)
            obtain rfl : z15 = nI (ct k) := ez15.trans (rd (f := fun c => nI (ct c)) (k := k) (by omega))
            refine lv_aload_n hx hb d_M_find_43 rfl (lv_at hl 0 rfl) ?_
            refine va_get (D := (dC, dI)) (ci := 0) (v := .ref (h 4)) (C := R_M) (T := F_M) (N := 18) hx hb hk k_M_f hown hK hP 0 rfl rfl 6 (by decide) (hk _ k_M_14) (fun _ h9 => h9) rfl d_M_find_44 ?_
            refine lv_iload_n hx hb d_M_find_47 rfl (lv_at hl 2 rfl) ?_
            refine va_iald hx hb hK hP 4 0 rfl rfl (pk_in k 20 (by omega)) d_M_find_48 ?_
            refine lv_topi (fun z16 ez16 => ?_)
            obtain rfl : z16 = aK k := ez16.trans (rd (f := aK) (k := k) (by omega))
            refine lv_iconst (v := (-1)) hx hb d_M_find_49 (by decide +kernel) ?_
            refine lv_iload_n hx hb d_M_find_50 rfl (lv_at hl 2 rfl) ?_
            have hFc := va_free (wc := wM h cI cZ xt xf (nI nC) (nI (((bs0 cf ct aK ok k).take 801).length)) aP (fun c => nI (cf c)) (fun c => nI (ct c)) aK bF bL bB bA bY bR oT oO oR bS) hD hS hA [0, 1, 2, 3, 4, 5, 6, 7, 8, 9, 10, 11, 12, 13, 14] rfl
            refine va_callv (va_runV (As := [.int (nI (cf k)), .int (nI (ct k)), .int (aK k), .int (-1), .int (nI k)]) (rest := []) ⟨hx, hb, hml, hown, hk⟩ (m_add l dC dI cI cZ h H.size xt xf (nI nC) aP (fun c => nI (cf c)) (fun c => nI (ct c)) aK bF bL bB bA bY bR oT oO oR bS ((bs0 cf ct aK ok k).take 801) (cf k) (ct k) k (aK k) none (by rw [List.length_take]; omega) (hE0) (sm_take (sm_of (J := rj) hS0 (bs0_ok nC cf ct aK rj ok k (by omega))) _) (by omega) (by omega)) (cwV 5 hk g_M_add rfl rfl rfl (by decide +kernel) ⟨Nat.le_of_ble_eq_true rfl, Nat.le_of_ble_eq_true rfl⟩) ⟨fun a U g mk q => by obtain ⟨q0, q1, qP, qK, qD⟩ := q; exact ⟨q0, q1, qP, va_K.moved (u := U) (U := U.calling g mk a) (Vm.Alike.refl U.vm) qK, qD⟩, va_recv hK hP (ci := 0) (q0 := 0) rfl rfl, fun U hU hW => ⟨rfl, by rw [hU], by rw [hU]; exact hP, va_K.moved hW.alike hK, hD.weaken (fun _ _ _ _ => trivial)⟩⟩ rfl rfl hl.1 rfl (lv_room (Nat.le_of_ble_eq_true rfl)) d_M_find_51 ⟨Nat.le_of_ble_eq_true rfl, Nat.le_of_ble_eq_true rfl⟩) hS (fun q _ h => hFc q h) hFc (fun u9 t H1 locs ht hvm hw hB hz1 hk1 hS => ?_)
            obtain ⟨xg9, bF9, bL9, bB9, bA9, bY9⟩ := u9
            obtain ⟨hP1, hK1, hD1⟩ := hB
            rw [ht] at hP1
            try dsimp only at hw
            obtain ⟨hP, hD⟩ := va_join (wr := []) (w1 := wM h cI cZ xt xf (nI nC) xg9 aP (fun c => nI (cf c)) (fun c => nI (ct c)) aK bF9 bL9 bB9 bA9 bY9 bR oT oO oR bS) hP hD [0, 1, 2, 3, 4, 5, 6, 7, 8, 9, 10, 11, 12, 13, 14] [] rfl rfl (by decide) (by decide) hk1 hFc hP1 hD1
            generalize H1 = H at hP hS ⊢
            have hP : va_P (dC, dI) kls (wM h cI cZ xt xf (nI nC) xg9 aP (fun c => nI (cf c)) (fun c => nI (ct c)) aK bF9 bL9 bB9 bA9 bY9 bR oT oO oR bS) H := hP
            have hD : va_D A (wM h cI cZ xt xf (nI nC) xg9 aP (fun c => nI (cf c)) (fun c => nI (ct c)) aK bF9 bL9 bB9 bA9 bY9 bR oT oO oR bS) := hD
            have hnx : bs0 cf ct aK ok (k + 1) = addE (bs0 cf ct aK ok k) (cf k, ct k, aK k, none, k) := by rw [bs0, if_pos ((hok k (by omega)).mpr (by first | exact Or.inl c_17 | exact Or.inr c_27))]
            rw [addC_take, ← hnx] at hw
            obtain ⟨hg9, hE9⟩ := hw
            subst hg9
            refine lv_iinc (v := nI (k + 1)) (lv' := [(2, .int (nI (k + 1))), (0, .ref (h 0)), (1, .int q)]) hx hb d_M_find_54 hl (k := 2) rfl (nI_add k 1) (by decide) rfl (fun ls hl => ?_)
            refine lv_goto (tgt := 7) hx hb d_M_find_57 (by decide) ?_
            exact ih_lpA (k + 1) bF9 bL9 bB9 bA9 bY9 (by omega) (hE9) (by omega) _ _ _ hP hD hS (lv_sub hl [1, 2, 0] rfl)
  exact lpA _ 0 bF bL bB bA bY (Nat.zero_le _) (fun k9 e9 h9 => by simp [bs0] at h9) (Nat.lt_succ_self _) _ _ _ hP hD hS (lv_sub hl [1, 2, 0] rfl)
end
section
def qFG (f g : Nat) : En → Bool := fun z => z.1 == f && z.2.1 == g
set_option maxHeartbeats 4000000 in
set_option maxRecDepth 100000 in
theorem m_refused_o (l : Launch) (dC : Nat → ClassId) (dI : Nat → Nat → Nat) (cI cZ : ClassId) (h : Nat → Nat) (sz : Nat) (xt xf xc xg : Int32) (aP aF aT aK bF bL bB bA bY bR oT oO oR bS : Nat → Int32) : Met l y_M_refused w_M_refused ({ frames := 3, cells := 0, slots := 0, locals := 74 }) (va_Pc [.ref (h 0), .int (nI 1), .int (nI 0)] (fun U => U.heap.size = sz ∧ va_P (dC, dI) kls (wM h cI cZ xt xf xc xg aP aF aT aK bF bL bB bA bY bR oT oO oR bS) U.heap ∧ va_K (dC, dI) kls (tyM cI cZ) U ∧ va_D (fun _ => True) (wM h cI cZ xt xf xc xg aP aF aT aK bF bL bB bA bY bR oT oO oR bS))) (va_Qi (fun (r : Int32) (u : Int32) => r = nI 1 ∧ u = nI 1) (fun (u : Int32) (t : State) => va_P (dC, dI) kls (wM h cI cZ u xf xc xg aP aF aT aK bF bL bB bA bY bR oT oO oR bS) t.heap ∧ va_K (dC, dI) kls (tyM cI cZ) t ∧ va_D (va_A (wM h cI cZ xt xf xc xg aP aF aT aK bF bL bB bA bY bR oT oO oR bS) sz) (wM h cI cZ u xf xc xg aP aF aT aK bF bL bB bA bY bR oT oO oR bS)) (va_A (wM h cI cZ xt xf xc xg aP aF aT aK bF bL bB bA bY bR oT oO oR bS) sz)) 0 0 (va_A (wM h cI cZ xt xf xc xg aP aF aT aK bF bL bB bA bY bR oT oO oR bS) sz) := by
  refine Met.ofW (cc := c_M_refused) (maxL := 3) (ret := (some .boolean)) (by decide) rfl ?_
  intro p e s m args below meth c s₁ B hml hv
  obtain ⟨rfl, hsz, hP, hK, hD0⟩ := hv
  have hx := B.exec
  have hb := B.bytes
  have hr := B.returns
  have hts := atoms_spec (ws := w_M_refused) B.pre
  have hk : ∀ w ∈ wMw, w.before _ s = true := fun w h => hts w (List.mem_cons_of_mem _ h)
  have hown : s.vm.findClass R_M = some m.cls := findClass_of_methodNamed B.named
  have hlocks := B.notSynchronized
  subst hsz
  have hD := hD0.self (sz := s.heap.size)
  generalize hAe : va_A (wM h cI cZ xt xf xc xg aP aF aT aK bF bL bB bA bY bR oT oO oR bS) s.heap.size = A at hD ⊢
  have hA : ∀ q : Nat, s.heap.size ≤ q → A q := fun q h => by rw [← hAe]; exact Or.inr h
  have hS : va_S A s.heap s.heap [] := va_S.rf
  have hl := lv_entry ([.ref (h 0), .int (nI 1), .int (nI 0)]) (n := 3) (Nat.le_of_ble_eq_true rfl)
  rw [lg_entry_eq]
  generalize (lg_sl ([.ref (h 0), .int (nI 1), .int (nI 0)]) ++ List.replicate (3 - (lg_sl ([.ref (h 0), .int (nI 1), .int (nI 0)])).length) Slot.unset).toArray = ls at hl ⊢
  have hl : lv_has ls 3 [(0, .ref (h 0)), (1, .int (nI 1)), (2, .int (nI 0))] := hl
  refine lv_aload_n hx hb d_M_refused_0 rfl (lv_at hl 0 rfl) ?_
  refine lv_iload_n hx hb d_M_refused_1 rfl (lv_at hl 1 rfl) ?_
  refine lv_if_eq (tgt := 9) hx hb d_M_refused_2 (by decide) (fun c9 => absurd c9 (by decide +kernel)) (fun _ => ?_)
  refine lv_iconst (v := nI 1) hx hb d_M_refused_5 (by decide +kernel) ?_
  refine lv_goto (tgt := 10) hx hb d_M_refused_6 (by decide) ?_
  refine va_put (D := (dC, dI)) (ci := 0) (v := .int (nI 1)) (ty := .int) (C := R_M) (T := F_M) (N := 18) hx hb hk k_M_f t_M t_M_ok n_M hown hK hP hD hS 0 rfl rfl 0 (by decide) (hk _ k_M_8) (fun _ h9 => h9) rfl (by decide +kernel) rfl rfl (Nat.le_of_ble_eq_true rfl) d_M_refused_10 (fun H locs hP hD hS => ?_)
  have hP : va_P (dC, dI) kls (wM h cI cZ (nI 1) xf xc xg aP aF aT aK bF bL bB bA bY bR oT oO oR bS) H := hP
  have hD : va_D A (wM h cI cZ (nI 1) xf xc xg aP aF aT aK bF bL bB bA bY bR oT oO oR bS) := hD
  refine lv_iload_n hx hb d_M_refused_13 rfl (lv_at hl 1 rfl) ?_
  refine lv_if_ne (tgt := 21) hx hb d_M_refused_14 (by decide) (fun _ => ?_) (fun c9 => absurd c9 (by decide +kernel))
  refine lv_iconst (v := nI 1) hx hb d_M_refused_21 (by decide +kernel) ?_
  exact W.zret (v := nI 1) (ty := .boolean) hx hb hr rfl (fun t ht hW => ⟨⟨nI 1, nI 1, rfl, ⟨rfl, rfl⟩, by rw [ht]; exact hP, va_K.moved hW.alike hK, hD⟩, hS.F ht⟩) hS.2.2 d_M_refused_22
set_option maxHeartbeats 4000000 in
set_option maxRecDepth 100000 in
theorem m_refused_n (l : Launch) (dC : Nat → ClassId) (dI : Nat → Nat → Nat) (cI cZ : ClassId) (h : Nat → Nat) (sz : Nat) (xt xf xc xg : Int32) (aP aF aT aK bF bL bB bA bY bR oT oO oR bS : Nat → Int32) : Met l y_M_refused w_M_refused ({ frames := 3, cells := 0, slots := 0, locals := 74 }) (va_Pc [.ref (h 0), .int (nI 0), .int (nI 1)] (fun U => U.heap.size = sz ∧ va_P (dC, dI) kls (wM h cI cZ xt xf xc xg aP aF aT aK bF bL bB bA bY bR oT oO oR bS) U.heap ∧ va_K (dC, dI) kls (tyM cI cZ) U ∧ va_D (fun _ => True) (wM h cI cZ xt xf xc xg aP aF aT aK bF bL bB bA bY bR oT oO oR bS))) (va_Qi (fun (r : Int32) (u : Int32) => r = nI 1 ∧ u = nI 0) (fun (u : Int32) (t : State) => va_P (dC, dI) kls (wM h cI cZ u xf xc xg aP aF aT aK bF bL bB bA bY bR oT oO oR bS) t.heap ∧ va_K (dC, dI) kls (tyM cI cZ) t ∧ va_D (va_A (wM h cI cZ xt xf xc xg aP aF aT aK bF bL bB bA bY bR oT oO oR bS) sz) (wM h cI cZ u xf xc xg aP aF aT aK bF bL bB bA bY bR oT oO oR bS)) (va_A (wM h cI cZ xt xf xc xg aP aF aT aK bF bL bB bA bY bR oT oO oR bS) sz)) 0 0 (va_A (wM h cI cZ xt xf xc xg aP aF aT aK bF bL bB bA bY bR oT oO oR bS) sz) := by
  refine Met.ofW (cc := c_M_refused) (maxL := 3) (ret := (some .boolean)) (by decide) rfl ?_
  intro p e s m args below meth c s₁ B hml hv
  obtain ⟨rfl, hsz, hP, hK, hD0⟩ := hv
  have hx := B.exec
  have hb := B.bytes
  have hr := B.returns
  have hts := atoms_spec (ws := w_M_refused) B.pre
  have hk : ∀ w ∈ wMw, w.before _ s = true := fun w h => hts w (List.mem_cons_of_mem _ h)
  have hown : s.vm.findClass R_M = some m.cls := findClass_of_methodNamed B.named
  have hlocks := B.notSynchronized
  subst hsz
  have hD := hD0.self (sz := s.heap.size)
  generalize hAe : va_A (wM h cI cZ xt xf xc xg aP aF aT aK bF bL bB bA bY bR oT oO oR bS) s.heap.size = A at hD ⊢
  have hA : ∀ q : Nat, s.heap.size ≤ q → A q := fun q h => by rw [← hAe]; exact Or.inr h
  have hS : va_S A s.heap s.heap [] := va_S.rf
  have hl := lv_entry ([.ref (h 0), .int (nI 0), .int (nI 1)]) (n := 3) (Nat.le_of_ble_eq_true rfl)
  rw [lg_entry_eq]
  generalize (lg_sl ([.ref (h 0), .int (nI 0), .int (nI 1)]) ++ List.replicate (3 - (lg_sl ([.ref (h 0), .int (nI 0), .int (nI 1)])).length) Slot.unset).toArray = ls at hl ⊢
  have hl : lv_has ls 3 [(0, .ref (h 0)), (1, .int (nI 0)), (2, .int (nI 1))] := hl
  refine lv_aload_n hx hb d_M_refused_0 rfl (lv_at hl 0 rfl) ?_
  refine lv_iload_n hx hb d_M_refused_1 rfl (lv_at hl 1 rfl) ?_
  refine lv_if_eq (tgt := 9) hx hb d_M_refused_2 (by decide) (fun _ => ?_) (fun c9 => absurd c9 (by decide +kernel))
  refine lv_iconst (v := nI 0) hx hb d_M_refused_9 (by decide +kernel) ?_
  refine va_put (D := (dC, dI)) (ci := 0) (v := .int (nI 0)) (ty := .int) (C := R_M) (T := F_M) (N := 18) hx hb hk k_M_f t_M t_M_ok n_M hown hK hP hD hS 0 rfl rfl 0 (by decide) (hk _ k_M_8) (fun _ h9 => h9) rfl (by decide +kernel) rfl rfl (Nat.le_of_ble_eq_true rfl) d_M_refused_10 (fun H locs hP hD hS => ?_)
  have hP : va_P (dC, dI) kls (wM h cI cZ (nI 0) xf xc xg aP aF aT aK bF bL bB bA bY bR oT oO oR bS) H := hP
  have hD : va_D A (wM h cI cZ (nI 0) xf xc xg aP aF aT aK bF bL bB bA bY bR oT oO oR bS) := hD
  refine lv_iload_n hx hb d_M_refused_13 rfl (lv_at hl 1 rfl) ?_
  refine lv_if_ne (tgt := 21) hx hb d_M_refused_14 (by decide) (fun c9 => absurd c9 (by decide +kernel)) (fun _ => ?_)
  refine lv_iload_n hx hb d_M_refused_17 rfl (lv_at hl 2 rfl) ?_
  refine lv_if_eq (tgt := 23) hx hb d_M_refused_18 (by decide) (fun c9 => absurd c9 (by decide +kernel)) (fun _ => ?_)
  refine lv_iconst (v := nI 1) hx hb d_M_refused_21 (by decide +kernel) ?_
  exact W.zret (v := nI 1) (ty := .boolean) hx hb hr rfl (fun t ht hW => ⟨⟨nI 1, nI 0, rfl, ⟨rfl, rfl⟩, by rw [ht]; exact hP, va_K.moved hW.alike hK, hD⟩, hS.F ht⟩) hS.2.2 d_M_refused_22
set_option maxHeartbeats 4000000 in
set_option maxRecDepth 100000 in
theorem m_refused (l : Launch) (dC : Nat → ClassId) (dI : Nat → Nat → Nat) (cI cZ : ClassId) (h : Nat → Nat) (sz : Nat) (xt xf xg : Int32) (aP aK bF bL bB bA bY bR oT oO oR bS : Nat → Int32) (nC K : Nat) (cf ct : Nat → Nat) (hC : nC ≤ 20) (hK8 : 801 ≤ K) (hS0 : ∀ c, c < nC → cf c < 16 ∧ ct c < 16) : Met l y_M_refused w_M_refused ({ frames := 3, cells := 0, slots := 0, locals := 74 }) (va_Pc [.ref (h 0), .int (nI 0), .int (nI 0)] (fun U => U.heap.size = sz ∧ va_P (dC, dI) kls (wM h cI cZ xt xf (nI nC) xg aP (fun c => nI (cf c)) (fun c => nI (ct c)) aK bF bL bB bA bY bR oT oO oR bS) U.heap ∧ va_K (dC, dI) kls (tyM cI cZ) U ∧ va_D (fun _ => True) (wM h cI cZ xt xf (nI nC) xg aP (fun c => nI (cf c)) (fun c => nI (ct c)) aK bF bL bB bA bY bR oT oO oR bS))) (va_Qi (fun (r : Int32) (u : Int32 × Int32 × (Nat → Int32) × (Nat → Int32) × (Nat → Int32) × (Nat → Int32) × (Nat → Int32)) => (r = nI 0 ∧ u.1 = nI 0 ∧ (gA nC cf ct aK rj K).length ≤ 800 ∧ u.2.1 = nI (gA nC cf ct aK rj K).length ∧ hE (gA nC cf ct aK rj K) u.2.2.1 u.2.2.2.1 u.2.2.2.2.1 u.2.2.2.2.2.1 u.2.2.2.2.2.2) ∨ (r = nI 1 ∧ u.1 = nI 2 ∧ 800 < (gA nC cf ct aK rj K).length)) (fun (u : Int32 × Int32 × (Nat → Int32) × (Nat → Int32) × (Nat → Int32) × (Nat → Int32) × (Nat → Int32)) (t : State) => va_P (dC, dI) kls (wM h cI cZ u.1 xf (nI nC) u.2.1 aP (fun c => nI (cf c)) (fun c => nI (ct c)) aK u.2.2.1 u.2.2.2.1 u.2.2.2.2.1 u.2.2.2.2.2.1 u.2.2.2.2.2.2 bR oT oO oR bS) t.heap ∧ va_K (dC, dI) kls (tyM cI cZ) t ∧ va_D (va_A (wM h cI cZ xt xf (nI nC) xg aP (fun c => nI (cf c)) (fun c => nI (ct c)) aK bF bL bB bA bY bR oT oO oR bS) sz) (wM h cI cZ u.1 xf (nI nC) u.2.1 aP (fun c => nI (cf c)) (fun c => nI (ct c)) aK u.2.2.1 u.2.2.2.1 u.2.2.2.2.1 u.2.2.2.2.2.1 u.2.2.2.2.2.2 bR oT oO oR bS)) (va_A (wM h cI cZ xt xf (nI nC) xg aP (fun c => nI (cf c)) (fun c => nI (ct c)) aK bF bL bB bA bY bR oT oO oR bS) sz)) 0 0 (va_A (wM h cI cZ xt xf (nI nC) xg aP (fun c => nI (cf c)) (fun c => nI (ct c)) aK bF bL bB bA bY bR oT oO oR bS) sz) := by
  refine Met.ofW (cc := c_M_refused) (maxL := 3) (ret := (some .boolean)) (by decide) rfl ?_
  intro p e s m args below meth c s₁ B hml hv
  obtain ⟨rfl, hsz, hP, hK, hD0⟩ := hv
  have hx := B.exec
  have hb := B.bytes
  have hr := B.returns
  have hts := atoms_spec (ws := w_M_refused) B.pre
  have hk : ∀ w ∈ wMw, w.before _ s = true := fun w h => hts w (List.mem_cons_of_mem _ h)
  have hown : s.vm.findClass R_M = some m.cls := findClass_of_methodNamed B.named
  have hlocks := B.notSynchronized
  subst hsz
  have hD := hD0.self (sz := s.heap.size)
  generalize hAe : va_A (wM h cI cZ xt xf (nI nC) xg aP (fun c => nI (cf c)) (fun c => nI (ct c)) aK bF bL bB bA bY bR oT oO oR bS) s.heap.size = A at hD ⊢
  have hA : ∀ q : Nat, s.heap.size ≤ q → A q := fun q h => by rw [← hAe]; exact Or.inr h
  have hS : va_S A s.heap s.heap [] := va_S.rf
  have hl := lv_entry ([.ref (h 0), .int (nI 0), .int (nI 0)]) (n := 3) (Nat.le_of_ble_eq_true rfl)
  rw [lg_entry_eq]
  generalize (lg_sl ([.ref (h 0), .int (nI 0), .int (nI 0)]) ++ List.replicate (3 - (lg_sl ([.ref (h 0), .int (nI 0), .int (nI 0)])).length) Slot.unset).toArray = ls at hl ⊢
  have hl : lv_has ls 3 [(0, .ref (h 0)), (1, .int (nI 0)), (2, .int (nI 0))] := hl
  refine lv_aload_n hx hb d_M_refused_0 rfl (lv_at hl 0 rfl) ?_
  refine lv_iload_n hx hb d_M_refused_1 rfl (lv_at hl 1 rfl) ?_
  refine lv_if_eq (tgt := 9) hx hb d_M_refused_2 (by decide) (fun _ => ?_) (fun c9 => absurd c9 (by decide +kernel))
  refine lv_iconst (v := nI 0) hx hb d_M_refused_9 (by decide +kernel) ?_
  refine va_put (D := (dC, dI)) (ci := 0) (v := .int (nI 0)) (ty := .int) (C := R_M) (T := F_M) (N := 18) hx hb hk k_M_f t_M t_M_ok n_M hown hK hP hD hS 0 rfl rfl 0 (by decide) (hk _ k_M_8) (fun _ h9 => h9) rfl (by decide +kernel) rfl rfl (Nat.le_of_ble_eq_true rfl) d_M_refused_10 (fun H locs hP hD hS => ?_)
  have hP : va_P (dC, dI) kls (wM h cI cZ (nI 0) xf (nI nC) xg aP (fun c => nI (cf c)) (fun c => nI (ct c)) aK bF bL bB bA bY bR oT oO oR bS) H := hP
  have hD : va_D A (wM h cI cZ (nI 0) xf (nI nC) xg aP (fun c => nI (cf c)) (fun c => nI (ct c)) aK bF bL bB bA bY bR oT oO oR bS) := hD
  refine lv_iload_n hx hb d_M_refused_13 rfl (lv_at hl 1 rfl) ?_
  refine lv_if_ne (tgt := 21) hx hb d_M_refused_14 (by decide) (fun c9 => absurd c9 (by decide +kernel)) (fun _ => ?_)
  refine lv_iload_n hx hb d_M_refused_17 rfl (lv_at hl 2 rfl) ?_
  refine lv_if_eq (tgt := 23) hx hb d_M_refused_18 (by decide) (fun _ => ?_) (fun c9 => absurd c9 (by decide +kernel))
  refine lv_aload_n hx hb d_M_refused_23 rfl (lv_at hl 0 rfl) ?_
  refine lv_iconst (v := (-1)) hx hb d_M_refused_24 (by decide +kernel) ?_
  have hFc := va_free (wc := wM h cI cZ (nI 0) xf (nI nC) xg aP (fun c => nI (cf c)) (fun c => nI (ct c)) aK bF bL bB bA bY bR oT oO oR bS) hD hS hA [0, 1, 2, 3, 4, 5, 6, 7, 8, 9, 10, 11, 12, 13, 14] rfl
  refine va_calli (va_runV (As := [.int (-1)]) (rest := []) ⟨hx, hb, hml, hown, hk⟩ (m_find l dC dI cI cZ h H.size (nI 0) xf xg aP aK bF bL bB bA bY bR oT oO oR bS nC K cf ct (fun _ => true) (-1) (hC) (hK8) (hS0) (fun _ _ => ⟨fun _ => Or.inl rfl, fun _ => rfl⟩)) (cwV 1 hk g_M_find rfl rfl rfl (by decide +kernel) ⟨Nat.le_of_ble_eq_true rfl, Nat.le_of_ble_eq_true rfl⟩) ⟨fun a U g mk q => by obtain ⟨q0, q1, qP, qK, qD⟩ := q; exact ⟨q0, q1, qP, va_K.moved (u := U) (U := U.calling g mk a) (Vm.Alike.refl U.vm) qK, qD⟩, va_recv hK hP (ci := 0) (q0 := 0) rfl rfl, fun U hU hW => ⟨rfl, by rw [hU], by rw [hU]; exact hP, va_K.moved hW.alike hK, hD.weaken (fun _ _ _ _ => trivial)⟩⟩ rfl rfl hl.1 rfl (lv_room (Nat.le_of_ble_eq_true rfl)) d_M_refused_25 ⟨Nat.le_of_ble_eq_true rfl, Nat.le_of_ble_eq_true rfl⟩) hS (fun q _ h => hFc q h) hFc (fun r1 u9 t H1 locs ht hvm hw hB hz1 hk1 hS => ?_)
  obtain ⟨xg9, bF9, bL9, bB9, bA9, bY9⟩ := u9
  obtain ⟨hP1, hK1, hD1⟩ := hB
  rw [ht] at hP1
  try dsimp only at hw
  obtain ⟨hP, hD⟩ := va_join (wr := []) (w1 := wM h cI cZ (nI 0) xf (nI nC) xg9 aP (fun c => nI (cf c)) (fun c => nI (ct c)) aK bF9 bL9 bB9 bA9 bY9 bR oT oO oR bS) hP hD [0, 1, 2, 3, 4, 5, 6, 7, 8, 9, 10, 11, 12, 13, 14] [] rfl rfl (by decide) (by decide) hk1 hFc hP1 hD1
  generalize H1 = H at hP hS ⊢
  have hP : va_P (dC, dI) kls (wM h cI cZ (nI 0) xf (nI nC) xg9 aP (fun c => nI (cf c)) (fun c => nI (ct c)) aK bF9 bL9 bB9 bA9 bY9 bR oT oO oR bS) H := hP
  have hD : va_D A (wM h cI cZ (nI 0) xf (nI nC) xg9 aP (fun c => nI (cf c)) (fun c => nI (ct c)) aK bF9 bL9 bB9 bA9 bY9 bR oT oO oR bS) := hD
  rcases hw with ⟨hr9, hle, hg9, hE9⟩ | ⟨hr9, hgt⟩
  · subst hr9
    subst hg9
    have hle : (gA nC cf ct aK rj K).length ≤ 800 := hle
    have hE9 : hE (gA nC cf ct aK rj K) bF9 bL9 bB9 bA9 bY9 := hE9
    refine lv_if_ne (tgt := 36) hx hb d_M_refused_28 (by decide) (fun _ => ?_) (fun c9 => absurd c9 (by decide +kernel))
    refine lv_aload_n hx hb d_M_refused_36 rfl (lv_at hl 0 rfl) ?_
    refine va_get (D := (dC, dI)) (ci := 0) (v := .int (nI 0)) (C := R_M) (T := F_M) (N := 18) hx hb hk k_M_f hown hK hP 0 rfl rfl 0 (by decide) (hk _ k_M_8) (fun _ h9 => h9) rfl d_M_refused_37 ?_
    refine lv_if_le (tgt := 47) hx hb d_M_refused_40 (by decide) (fun _ => ?_) (fun c9 => absurd c9 (by decide +kernel))
    refine lv_iconst (v := nI 0) hx hb d_M_refused_47 (by decide +kernel) ?_
    exact W.zret (v := nI 0) (ty := .boolean) hx hb hr rfl (fun t ht hW => ⟨⟨nI 0, (nI 0, nI (gA nC cf ct aK rj K).length, bF9, bL9, bB9, bA9, bY9), rfl, Or.inl ⟨rfl, rfl, hle, rfl, hE9⟩, by rw [ht]; exact hP, va_K.moved hW.alike hK, hD⟩, hS.F ht⟩) hS.2.2 d_M_refused_48
  · subst hr9
    have hgt : 800 < (gA nC cf ct aK rj K).length := hgt
    refine lv_if_ne (tgt := 36) hx hb d_M_refused_28 (by decide) (fun c9 => absurd c9 (by decide +kernel)) (fun _ => ?_)
    refine lv_aload_n hx hb d_M_refused_31 rfl (lv_at hl 0 rfl) ?_
    refine lv_iconst (v := nI 2) hx hb d_M_refused_32 (by decide +kernel) ?_
    refine va_put (D := (dC, dI)) (ci := 0) (v := .int (nI 2)) (ty := .int) (C := R_M) (T := F_M) (N := 18) hx hb hk k_M_f t_M t_M_ok n_M hown hK hP hD hS 0 rfl rfl 0 (by decide) (hk _ k_M_8) (fun _ h9 => h9) rfl (by decide +kernel) rfl rfl (Nat.le_of_ble_eq_true rfl) d_M_refused_33 (fun H locs hP hD hS => ?_)
    have hP : va_P (dC, dI) kls (wM h cI cZ (nI 2) xf (nI nC) xg9 aP (fun c => nI (cf c)) (fun c => nI (ct c)) aK bF9 bL9 bB9 bA9 bY9 bR oT oO oR bS) H := hP
    have hD : va_D A (wM h cI cZ (nI 2) xf (nI nC) xg9 aP (fun c => nI (cf c)) (fun c => nI (ct c)) aK bF9 bL9 bB9 bA9 bY9 bR oT oO oR bS) := hD
    refine lv_aload_n hx hb d_M_refused_36 rfl (lv_at hl 0 rfl) ?_
    refine va_get (D := (dC, dI)) (ci := 0) (v := .int (nI 2)) (C := R_M) (T := F_M) (N := 18) hx hb hk k_M_f hown hK hP 0 rfl rfl 0 (by decide) (hk _ k_M_8) (fun _ h9 => h9) rfl d_M_refused_37 ?_
    refine lv_if_le (tgt := 47) hx hb d_M_refused_40 (by decide) (fun c9 => absurd c9 (by decide +kernel)) (fun _ => ?_)
    refine lv_iconst (v := nI 1) hx hb d_M_refused_43 (by decide +kernel) ?_
    refine lv_goto (tgt := 48) hx hb d_M_refused_44 (by decide) ?_
    exact W.zret (v := nI 1) (ty := .boolean) hx hb hr rfl (fun t ht hW => ⟨⟨nI 1, (nI 2, xg9, bF9, bL9, bB9, bA9, bY9), rfl, Or.inr ⟨rfl, rfl, hgt⟩, by rw [ht]; exact hP, va_K.moved hW.alike hK, hD⟩, hS.F ht⟩) hS.2.2 d_M_refused_48
set_option maxHeartbeats 4000000 in
set_option maxRecDepth 100000 in
theorem m_between (l : Launch) (dC : Nat → ClassId) (dI : Nat → Nat → Nat) (cI cZ : ClassId) (h : Nat → Nat) (sz : Nat) (xt xf xc : Int32) (aP aF aT aK bF bL bB bA bY bR oT oO oR bS : Nat → Int32) (es : List En) (f g : Nat) (hL : es.length ≤ 801) (hE0 : hE es bF bL bB bA bY) (hs : smE es) (hf : f < 16) (hg : g < 16) : Met l y_M_between w_M_between ({ frames := 0, cells := 0, slots := 0, locals := 0 }) (va_Pc [.ref (h 0), .int (nI f), .int (nI g)] (fun U => U.heap.size = sz ∧ va_P (dC, dI) kls (wM h cI cZ xt xf xc (nI es.length) aP aF aT aK bF bL bB bA bY bR oT oO oR bS) U.heap ∧ va_K (dC, dI) kls (tyM cI cZ) U ∧ va_D (fun _ => True) (wM h cI cZ xt xf xc (nI es.length) aP aF aT aK bF bL bB bA bY bR oT oO oR bS))) (va_Qi (fun (r : Int32) (u : Unit) => r = nI (es.countP (qFG f g))) (fun (u : Unit) (t : State) => va_P (dC, dI) kls (wM h cI cZ xt xf xc (nI es.length) aP aF aT aK bF bL bB bA bY bR oT oO oR bS) t.heap ∧ va_K (dC, dI) kls (tyM cI cZ) t ∧ va_D (va_A (wM h cI cZ xt xf xc (nI es.length) aP aF aT aK bF bL bB bA bY bR oT oO oR bS) sz) (wM h cI cZ xt xf xc (nI es.length) aP aF aT aK bF bL bB bA bY bR oT oO oR bS)) (va_A (wM h cI cZ xt xf xc (nI es.length) aP aF aT aK bF bL bB bA bY bR oT oO oR bS) sz)) 0 0 (va_A (wM h cI cZ xt xf xc (nI es.length) aP aF aT aK bF bL bB bA bY bR oT oO oR bS) sz) := by
  refine Met.ofW (cc := c_M_between) (maxL := 5) (ret := (some .int)) (by decide) rfl ?_
  intro p e s m args below meth c s₁ B hml hv
  obtain ⟨rfl, hsz, hP, hK, hD0⟩ := hv
  have hx := B.exec
  have hb := B.bytes
  have hr := B.returns
  have hts := atoms_spec (ws := w_M_between) B.pre
  have hk : ∀ w ∈ wMw, w.before _ s = true := fun w h => hts w (List.mem_cons_of_mem _ h)
  have hown : s.vm.findClass R_M = some m.cls := findClass_of_methodNamed B.named
  have hlocks := B.notSynchronized
  subst hsz
  have hD := hD0.self (sz := s.heap.size)
  generalize hAe : va_A (wM h cI cZ xt xf xc (nI es.length) aP aF aT aK bF bL bB bA bY bR oT oO oR bS) s.heap.size = A at hD ⊢
  have hA : ∀ q : Nat, s.heap.size ≤ q → A q := fun q h => by rw [← hAe]; exact Or.inr h
  have hS : va_S A s.heap s.heap [] := va_S.rf
  have hl := lv_entry ([.ref (h 0), .int (nI f), .int (nI g)]) (n := 5) (Nat.le_of_ble_eq_true rfl)
  rw [lg_entry_eq]
  generalize (lg_sl ([.ref (h 0), .int (nI f), .int (nI g)]) ++ List.replicate (5 - (lg_sl ([.ref (h 0), .int (nI f), .int (nI g)])).length) Slot.unset).toArray = ls at hl ⊢
  have hl : lv_has ls 5 [(0, .ref (h 0)), (1, .int (nI f)), (2, .int (nI g))] := hl
  refine lv_iconst (v := nI 0) hx hb d_M_between_0 (by decide +kernel) ?_
  refine lv_istore_n (lv' := [(3, .int (nI 0)), (0, .ref (h 0)), (1, .int (nI f)), (2, .int (nI g))]) hx hb d_M_between_1 rfl hl (by decide) rfl (fun ls hl => ?_)
  refine lv_iconst (v := nI 0) hx hb d_M_between_2 (by decide +kernel) ?_
  refine lv_istore (lv' := [(4, .int (nI 0)), (3, .int (nI 0)), (0, .ref (h 0)), (1, .int (nI f)), (2, .int (nI g))]) hx hb d_M_between_3 hl (by decide) rfl (fun ls hl => ?_)
  have lp : ∀ (n_lp : Nat) (k : Nat), (k ≤ es.length) → es.length - k < n_lp → ∀ (H : Heap) (locs : List Loc) (ls : Array Slot), va_P (dC, dI) kls (wM h cI cZ xt xf xc (nI es.length) aP aF aT aK bF bL bB bA bY bR oT oO oR bS) H → va_D A (wM h cI cZ xt xf xc (nI es.length) aP aF aT aK bF bL bB bA bY bR oT oO oR bS) → va_S A s.heap H locs → lv_has ls 5 [(0, .ref (h 0)), (1, .int (nI f)), (2, .int (nI g)), (3, .int (nI ((es.take k).countP (qFG f g)))), (4, .int (nI k))] → W p l e (headSpec w_M_between ({ frames := 0, cells := 0, slots := 0, locals := 0 })).room s m ([.ref (h 0), .int (nI f), .int (nI g)]).toArray below meth c H locs 0 0 (MQ below (va_Qi (fun (r : Int32) (u : Unit) => r = nI (es.countP (qFG f g))) (fun (u : Unit) (t : State) => va_P (dC, dI) kls (wM h cI cZ xt xf xc (nI es.length) aP aF aT aK bF bL bB bA bY bR oT oO oR bS) t.heap ∧ va_K (dC, dI) kls (tyM cI cZ) t ∧ va_D (A) (wM h cI cZ xt xf xc (nI es.length) aP aF aT aK bF bL bB bA bY bR oT oO oR bS)) A) ([.ref (h 0), .int (nI f), .int (nI g)]).toArray s 0 0 A) (F0 m 5 ls []) := by
    intro n_lp
    induction n_lp with
    | zero => intro k hk0 hn; exact absurd hn (Nat.not_lt_zero _)
    | succ n_lp ih_lp =>
      intro k hk0 hn H locs ls hP hD hS hl
      refine lv_iload hx hb d_M_between_5 (lv_at hl 4 rfl) ?_
      refine lv_aload_n hx hb d_M_between_7 rfl (lv_at hl 0 rfl) ?_
      refine va_get (D := (dC, dI)) (ci := 0) (v := .int (nI es.length)) (C := R_M) (T := F_M) (N := 18) hx hb hk k_M_f hown hK hP 0 rfl rfl 7 (by decide) (hk _ k_M_15) (fun _ h9 => h9) rfl d_M_between_8 ?_
      refine lv_icmp_ge (tgt := 50) hx hb d_M_between_11 (by decide) (fun c_11 => ?_) (fun c_11 => ?_)
      · have c_11 : es.length ≤ k := (nI_leI (a := es.length) (b := k) (by omega) (by omega)).mp c_11
        have hke : es.take k = es := List.take_of_length_le (by omega)
        rw [hke] at hl
        refine lv_iload_n hx hb d_M_between_50 rfl (lv_at hl 3 rfl) ?_
        exact W.iret (v := nI (es.countP (qFG f g))) hx hb hr (fun t ht hW => ⟨⟨nI (es.countP (qFG f g)), (), rfl, rfl, by rw [ht]; exact hP, va_K.moved hW.alike hK, hD⟩, hS.F ht⟩) hS.2.2 d_M_between_51
      · have c_11 : ¬ es.length ≤ k := fun z9 => c_11 ((nI_leI (a := es.length) (b := k) (by omega) (by omega)).mpr z9)
        obtain ⟨en, hen⟩ : ∃ en, es[k]? = some en := ⟨_, List.getElem?_eq_getElem (by omega)⟩
        obtain ⟨q1, q2, -, -, -⟩ := hE0 k en hen
        have hsn := hs en (List.mem_of_getElem? hen)
        have hcn := cnt_next (qFG f g) hen
        refine lv_iload_n hx hb d_M_between_14 rfl (lv_at hl 3 rfl) ?_
        refine lv_aload_n hx hb d_M_between_15 rfl (lv_at hl 0 rfl) ?_
        refine va_get (D := (dC, dI)) (ci := 0) (v := .ref (h 5)) (C := R_M) (T := F_M) (N := 18) hx hb hk k_M_f hown hK hP 0 rfl rfl 8 (by decide) (hk _ k_M_16) (fun _ h9 => h9) rfl d_M_between_16 ?_
        refine lv_iload hx hb d_M_between_19 (lv_at hl 4 rfl) ?_
        refine va_iald hx hb hK hP 5 0 rfl rfl (pk_in k 801 (by omega)) d_M_between_21 ?_
        refine lv_topi (fun z1 ez1 => ?_)
        obtain rfl : z1 = nI en.1 := ez1.trans ((rd (f := bF) (k := k) (by omega)).trans q1)
        refine lv_iload_n hx hb d_M_between_22 rfl (lv_at hl 1 rfl) ?_
        refine lv_icmp_ne (tgt := 41) hx hb d_M_between_23 (by decide) (fun c_23 => ?_) (fun c_23 => ?_)
        · have c_23 : ¬ en.1 = f := fun z9 => c_23 ((nI_eq (a := en.1) (b := f) (by omega) (by omega)).mpr z9)
          refine lv_iconst (v := nI 0) hx hb d_M_between_41 (by decide +kernel) ?_
          refine lv_iadd hx hb d_M_between_42 ?_
          refine lv_topi (fun z2 ez2 => ?_)
          obtain rfl : z2 = nI ((es.take k).countP (qFG f g)) := ez2.trans (nI_add _ _)
          refine lv_topi (fun z3 ez3 => ?_)
          obtain rfl : z3 = nI ((es.take (k + 1)).countP (qFG f g)) := ez3.trans (congrArg nI (by rw [hcn]; split <;> rename_i z9 <;> simp only [qFG, Bool.and_eq_true, beq_iff_eq] at z9 <;> omega))
          refine lv_istore_n (lv' := [(3, .int (nI ((es.take (k + 1)).countP (qFG f g)))), (0, .ref (h 0)), (1, .int (nI f)), (2, .int (nI g)), (4, .int (nI k))]) hx hb d_M_between_43 rfl hl (by decide) rfl (fun ls hl => ?_)
          refine lv_iinc (v := nI (k + 1)) (lv' := [(4, .int (nI (k + 1))), (3, .int (nI ((es.take (k + 1)).countP (qFG f g)))), (0, .ref (h 0)), (1, .int (nI f)), (2, .int (nI g))]) hx hb d_M_between_44 hl (k := 4) rfl (nI_add k 1) (by decide) rfl (fun ls hl => ?_)
          refine lv_goto (tgt := 5) hx hb d_M_between_47 (by decide) ?_
          exact ih_lp (k + 1) (by omega) (by omega) _ _ _ hP hD hS (lv_sub hl [2, 3, 4, 1, 0] rfl)
        · have c_23 : en.1 = f := (nI_eq (a := en.1) (b := f) (by omega) (by omega)).mp c_23
          refine lv_aload_n hx hb d_M_between_26 rfl (lv_at hl 0 rfl) ?_
          refine va_get (D := (dC, dI)) (ci := 0) (v := .ref (h 6)) (C := R_M) (T := F_M) (N := 18) hx hb hk k_M_f hown hK hP 0 rfl rfl 9 (by decide) (hk _ k_M_17) (fun _ h9 => h9) rfl d_M_between_27 ?_
          refine lv_iload hx hb d_M_between_30 (lv_at hl 4 rfl) ?_
          refine va_iald hx hb hK hP 6 0 rfl rfl (pk_in k 801 (by omega)) d_M_between_32 ?_
          refine lv_topi (fun z4 ez4 => ?_)
          obtain rfl : z4 = nI en.2.1 := ez4.trans ((rd (f := bL) (k := k) (by omega)).trans q2)
          refine lv_iload_n hx hb d_M_between_33 rfl (lv_at hl 2 rfl) ?_
          refine lv_icmp_ne (tgt := 41) hx hb d_M_between_34 (by decide) (fun c_34 => ?_) (fun c_34 => ?_)
          · have c_34 : ¬ en.2.1 = g := fun z9 => c_34 ((nI_eq (a := en.2.1) (b := g) (by omega) (by omega)).mpr z9)
            refine lv_iconst (v := nI 0) hx hb d_M_between_41 (by decide +kernel) ?_
            refine lv_iadd hx hb d_M_between_42 ?_
            refine lv_topi (fun z5 ez5 => ?_)
            obtain rfl : z5 = nI ((es.take k).countP (qFG f g)) := ez5.trans (nI_add _ _)
            refine lv_topi (fun z6 ez6 => ?_)
            obtain rfl : z6 = nI ((es.take (k + 1)).countP (qFG f g)) := ez6.trans (congrArg nI (by rw [hcn]; split <;> rename_i z9 <;> simp only [qFG, Bool.and_eq_true, beq_iff_eq] at z9 <;> omega))
            refine lv_istore_n (lv' := [(3, .int (nI ((es.take (k + 1)).countP (qFG f g)))), (0, .ref (h 0)), (1, .int (nI f)), (2, .int (nI g)), (4, .int (nI k))]) hx hb d_M_between_43 rfl hl (by decide) rfl (fun ls hl => ?_)
            refine lv_iinc (v := nI (k + 1)) (lv' := [(4, .int (nI (k + 1))), (3, .int (nI ((es.take (k + 1)).countP (qFG f g)))), (0, .ref (h 0)), (1, .int (nI f)), (2, .int (nI g))]) hx hb d_M_between_44 hl (k := 4) rfl (nI_add k 1) (by decide) rfl (fun ls hl => ?_)
            refine lv_goto (tgt := 5) hx hb d_M_between_47 (by decide) ?_
            exact ih_lp (k + 1) (by omega) (by omega) _ _ _ hP hD hS (lv_sub hl [2, 3, 4, 1, 0] rfl)
          · have c_34 : en.2.1 = g := (nI_eq (a := en.2.1) (b := g) (by omega) (by omega)).mp c_34
            refine lv_iconst (v := nI 1) hx hb d_M_between_37 (by decide +kernel) ?_
            refine lv_goto (tgt := 42) hx hb d_M_between_38 (by decide) ?_
            refine lv_iadd hx hb d_M_between_42 ?_
            refine lv_topi (fun z7 ez7 => ?_)
            obtain rfl : z7 = nI ((es.take k).countP (qFG f g) + 1) := ez7.trans (nI_add _ _)
            refine lv_topi (fun z8 ez8 => ?_)
            obtain rfl : z8 = nI ((es.take (k + 1)).countP (qFG f g)) := ez8.trans (congrArg nI (by rw [hcn]; split <;> rename_i z9 <;> simp only [qFG, Bool.and_eq_true, beq_iff_eq] at z9 <;> omega))
            refine lv_istore_n (lv' := [(3, .int (nI ((es.take (k + 1)).countP (qFG f g)))), (0, .ref (h 0)), (1, .int (nI f)), (2, .int (nI g)), (4, .int (nI k))]) hx hb d_M_between_43 rfl hl (by decide) rfl (fun ls hl => ?_)
            refine lv_iinc (v := nI (k + 1)) (lv' := [(4, .int (nI (k + 1))), (3, .int (nI ((es.take (k + 1)).countP (qFG f g)))), (0, .ref (h 0)), (1, .int (nI f)), (2, .int (nI g))]) hx hb d_M_between_44 hl (k := 4) rfl (nI_add k 1) (by decide) rfl (fun ls hl => ?_)
            refine lv_goto (tgt := 5) hx hb d_M_between_47 (by decide) ?_
            exact ih_lp (k + 1) (by omega) (by omega) _ _ _ hP hD hS (lv_sub hl [2, 3, 4, 1, 0] rfl)
  exact lp _ 0 (Nat.zero_le _) (Nat.lt_succ_self _) _ _ _ hP hD hS (lv_sub hl [2, 3, 4, 1, 0] rfl)
set_option maxHeartbeats 4000000 in
set_option maxRecDepth 100000 in
theorem m_isBad (l : Launch) (x : Int32) : Met l y_M_isBad w_M_isBad ({ frames := 2, cells := 0, slots := 0, locals := 51 }) (va_Pc [.int x] (fun _ => True)) (vp_Si (fun r => (r = nI 1 ∧ badX x) ∨ (r = nI 0 ∧ ¬ badX x))) 0 0 (fun _ => False) := by
  refine Met.ofW (cc := c_M_isBad) (maxL := 3) (ret := (some .boolean)) (by decide) rfl ?_
  intro p e s m args below meth c s₁ B hml hv
  obtain ⟨rfl, -⟩ := hv
  have hx := B.exec
  have hb := B.bytes
  have hr := B.returns
  have hts := atoms_spec (ws := w_M_isBad) B.pre
  have hk : ∀ w ∈ wMw, w.before _ s = true := fun w h => hts w (List.mem_cons_of_mem _ h)
  have hown : s.vm.findClass R_M = some m.cls := findClass_of_methodNamed B.named
  have hlocks := B.notSynchronized
  have hl := lv_entry ([.int x]) (n := 3) (Nat.le_of_ble_eq_true rfl)
  rw [lg_entry_eq]
  generalize (lg_sl ([.int x]) ++ List.replicate (3 - (lg_sl ([.int x])).length) Slot.unset).toArray = ls at hl ⊢
  have hl : lv_has ls 3 [(0, .int x)] := hl
  refine lv_iload_n hx hb d_M_isBad_0 rfl (lv_at hl 0 rfl) ?_
  refine lv_iload_n hx hb d_M_isBad_1 rfl (lv_at hl 0 rfl) ?_
  refine vp_callSi (W.runS (As := [.int x, .int x]) (rest := []) ⟨hx, hb, hml, hown, hk⟩ (m_joined l x x) (cwS 2 hk g_M_joined rfl rfl rfl (by decide +kernel) ⟨Nat.le_of_ble_eq_true rfl, Nat.le_of_ble_eq_true rfl⟩) ⟨fun a U g mk q => q, fun U hU hW => ⟨rfl, trivial⟩⟩ rfl rfl hl.1 rfl (lv_room (Nat.le_of_ble_eq_true rfl)) d_M_isBad_2 ⟨Nat.le_of_ble_eq_true rfl, Nat.le_of_ble_eq_true rfl⟩) (fun r1 hw => ?_)
  subst hw
  refine lv_iload_n hx hb d_M_isBad_5 rfl (lv_at hl 0 rfl) ?_
  refine lv_icmp_eq (tgt := 11) hx hb d_M_isBad_6 (by decide) (fun c_6 => ?_) (fun c_6 => ?_)
  · refine lv_iconst (v := nI 0) hx hb d_M_isBad_11 (by decide +kernel) ?_
    refine lv_istore_n (lv' := [(1, .int (nI 0)), (0, .int x)]) hx hb d_M_isBad_12 rfl hl (by decide) rfl (fun ls hl => ?_)
    refine lv_iconst (v := nI 0) hx hb d_M_isBad_13 (by decide +kernel) ?_
    refine lv_istore_n (lv' := [(2, .int (nI 0)), (1, .int (nI 0)), (0, .int x)]) hx hb d_M_isBad_14 rfl hl (by decide) rfl (fun ls hl => ?_)
    have lp : ∀ (n_lp : Nat) (i : Nat) (b : Nat), (i ≤ 4) → ((b = 1 ∧ ∃ j, j < i ∧ atN x j j = 2) ∨ (b = 0 ∧ ∀ j, j < i → atN x j j ≠ 2)) → 4 - i < n_lp → ∀ (ls : Array Slot), lv_has ls 3 [(0, .int x), (1, .int (nI b)), (2, .int (nI i))] → W p l e (headSpec w_M_isBad ({ frames := 2, cells := 0, slots := 0, locals := 51 })).room s m ([.int x]).toArray below meth c s.heap [] 0 0 (MQ below (vp_Si (fun r => (r = nI 1 ∧ badX x) ∨ (r = nI 0 ∧ ¬ badX x))) ([.int x]).toArray s 0 0 (fun _ => False)) (F0 m 15 ls []) := by
      intro n_lp
      induction n_lp with
      | zero => intro i b hi hb2 hn; exact absurd hn (Nat.not_lt_zero _)
      | succ n_lp ih_lp =>
        intro i b hi hb2 hn ls hl
        have hb9 : b < 2 := by rcases hb2 with ⟨h1, -⟩ | ⟨h0, -⟩ <;> omega
        refine lv_iload_n hx hb d_M_isBad_15 rfl (lv_at hl 2 rfl) ?_
        refine lv_iconst (v := nI 4) hx hb d_M_isBad_16 (by decide +kernel) ?_
        refine lv_icmp_ge (tgt := 46) hx hb d_M_isBad_17 (by decide) (fun c_17 => ?_) (fun c_17 => ?_)
        · have c_17 : 4 ≤ i := (nI_leI (a := 4) (b := i) (by omega) (by omega)).mp c_17
          refine lv_iload_n hx hb d_M_isBad_46 rfl (lv_at hl 1 rfl) ?_
          refine lv_if_ne (tgt := 54) hx hb d_M_isBad_47 (by decide) (fun c_47 => ?_) (fun c_47 => ?_)
          · have c_47 : ¬ b = 0 := fun z9 => c_47 ((nI_eq (a := b) (b := 0) (by omega) (by omega)).mpr z9)
            refine lv_iconst (v := nI 0) hx hb d_M_isBad_54 (by decide +kernel) ?_
            have hq : ¬ badX x := by
              rintro ⟨h1, h2⟩
              first
                | exact c_6 h1
                | (rcases hb2 with ⟨-, j, hj, h3⟩ | ⟨h0, -⟩
                   · exact h2 j (by omega) h3
                   · exact absurd h0 c_47)
            exact W.zret (v := nI 0) (ty := .boolean) hx hb hr rfl (fun t ht hW => ⟨nI 0, rfl, Or.inr ⟨rfl, hq⟩, ht⟩) (fun q h9 => absurd h9 List.not_mem_nil) d_M_isBad_55
          · have c_47 : b = 0 := (nI_eq (a := b) (b := 0) (by omega) (by omega)).mp c_47
            refine lv_iconst (v := nI 1) hx hb d_M_isBad_50 (by decide +kernel) ?_
            refine lv_goto (tgt := 55) hx hb d_M_isBad_51 (by decide) ?_
            have hq : ∀ j, j < 4 → atN x j j ≠ 2 := by
              rcases hb2 with ⟨h1, -⟩ | ⟨-, h0⟩
              · omega
              · exact fun j hj => h0 j (by omega)
            exact W.zret (v := nI 1) (ty := .boolean) hx hb hr rfl (fun t ht hW => ⟨nI 1, rfl, Or.inl ⟨rfl, c_6, hq⟩, ht⟩) (fun q h9 => absurd h9 List.not_mem_nil) d_M_isBad_55
        · have c_17 : ¬ 4 ≤ i := fun z9 => c_17 ((nI_leI (a := 4) (b := i) (by omega) (by omega)).mpr z9)
          refine lv_iload_n hx hb d_M_isBad_20 rfl (lv_at hl 1 rfl) ?_
          refine lv_if_ne (tgt := 34) hx hb d_M_isBad_21 (by decide) (fun c_21 => ?_) (fun c_21 => ?_)
          · have c_21 : ¬ b = 0 := fun z9 => c_21 ((nI_eq (a := b) (b := 0) (by omega) (by omega)).mpr z9)
            refine lv_iconst (v := nI 1) hx hb d_M_isBad_34 (by decide +kernel) ?_
            refine lv_goto (tgt := 39) hx hb d_M_isBad_35 (by decide) ?_
            refine lv_istore_n (lv' := [(1, .int (nI 1)), (0, .int x), (2, .int (nI i))]) hx hb d_M_isBad_39 rfl hl (by decide) rfl (fun ls hl => ?_)
            refine lv_iinc (v := nI (i + 1)) (lv' := [(2, .int (nI (i + 1))), (1, .int (nI 1)), (0, .int x)]) hx hb d_M_isBad_40 hl (k := 2) rfl (nI_add i 1) (by decide) rfl (fun ls hl => ?_)
            refine lv_goto (tgt := 15) hx hb d_M_isBad_43 (by decide) ?_
            have hb3 : (1 = 1 ∧ ∃ j, j < i + 1 ∧ atN x j j = 2) ∨ (1 = 0 ∧ ∀ j, j < i + 1 → atN x j j ≠ 2) := by
              refine Or.inl ⟨rfl, ?_⟩
              first
                | exact ⟨i, by omega, c_31⟩
                | (rcases hb2 with ⟨-, j, hj, h2⟩ | ⟨h0, -⟩
                   · exact ⟨j, by omega, h2⟩
                   · exact absurd h0 c_21)
            exact ih_lp (i + 1) 1 (by omega) (hb3) (by omega) _ (lv_sub hl [2, 1, 0] rfl)
          · have c_21 : b = 0 := (nI_eq (a := b) (b := 0) (by omega) (by omega)).mp c_21
            refine lv_iload_n hx hb d_M_isBad_24 rfl (lv_at hl 0 rfl) ?_
            refine lv_iload_n hx hb d_M_isBad_25 rfl (lv_at hl 2 rfl) ?_
            refine lv_iload_n hx hb d_M_isBad_26 rfl (lv_at hl 2 rfl) ?_
            have hat := atN_lt x i i
            refine vp_callSi (W.runS (As := [.int x, .int (nI i), .int (nI i)]) (rest := []) ⟨hx, hb, hml, hown, hk⟩ (m_at l x i i (by omega) (by omega)) (cwS 3 hk g_M_at rfl rfl rfl (by decide +kernel) ⟨Nat.le_of_ble_eq_true rfl, Nat.le_of_ble_eq_true rfl⟩) ⟨fun a U g mk q => q, fun U hU hW => ⟨rfl, trivial⟩⟩ rfl rfl hl.1 rfl (lv_room (Nat.le_of_ble_eq_true rfl)) d_M_isBad_27 ⟨Nat.le_of_ble_eq_true rfl, Nat.le_of_ble_eq_true rfl⟩) (fun r2 hw => ?_)
            subst hw
            refine lv_iconst (v := nI 2) hx hb d_M_isBad_30 (by decide +kernel) ?_
            refine lv_icmp_ne (tgt := 38) hx hb d_M_isBad_31 (by decide) (fun c_31 => ?_) (fun c_31 => ?_)
            · have c_31 : ¬ atN x i i = 2 := fun z9 => c_31 ((nI_eq (a := atN x i i) (b := 2) (by omega) (by omega)).mpr z9)
              refine lv_iconst (v := nI 0) hx hb d_M_isBad_38 (by decide +kernel) ?_
              refine lv_istore_n (lv' := [(1, .int (nI 0)), (0, .int x), (2, .int (nI i))]) hx hb d_M_isBad_39 rfl hl (by decide) rfl (fun ls hl => ?_)
              refine lv_iinc (v := nI (i + 1)) (lv' := [(2, .int (nI (i + 1))), (1, .int (nI 0)), (0, .int x)]) hx hb d_M_isBad_40 hl (k := 2) rfl (nI_add i 1) (by decide) rfl (fun ls hl => ?_)
              refine lv_goto (tgt := 15) hx hb d_M_isBad_43 (by decide) ?_
              have hb3 : (0 = 1 ∧ ∃ j, j < i + 1 ∧ atN x j j = 2) ∨ (0 = 0 ∧ ∀ j, j < i + 1 → atN x j j ≠ 2) := by
                refine Or.inr ⟨rfl, fun j hj => ?_⟩
                rcases hb2 with ⟨h1, -⟩ | ⟨-, h0⟩
                · omega
                · rcases Nat.lt_or_ge j i with q | q
                  · exact h0 j q
                  · obtain rfl : j = i := by omega
                    exact c_31
              exact ih_lp (i + 1) 0 (by omega) (hb3) (by omega) _ (lv_sub hl [2, 1, 0] rfl)
            · have c_31 : atN x i i = 2 := (nI_eq (a := atN x i i) (b := 2) (by omega) (by omega)).mp c_31
              refine lv_iconst (v := nI 1) hx hb d_M_isBad_34 (by decide +kernel) ?_
              refine lv_goto (tgt := 39) hx hb d_M_isBad_35 (by decide) ?_
              refine lv_istore_n (lv' := [(1, .int (nI 1)), (0, .int x), (2, .int (nI i))]) hx hb d_M_isBad_39 rfl hl (by decide) rfl (fun ls hl => ?_)
              refine lv_iinc (v := nI (i + 1)) (lv' := [(2, .int (nI (i + 1))), (1, .int (nI 1)), (0, .int x)]) hx hb d_M_isBad_40 hl (k := 2) rfl (nI_add i 1) (by decide) rfl (fun ls hl => ?_)
              refine lv_goto (tgt := 15) hx hb d_M_isBad_43 (by decide) ?_
              have hb3 : (1 = 1 ∧ ∃ j, j < i + 1 ∧ atN x j j = 2) ∨ (1 = 0 ∧ ∀ j, j < i + 1 → atN x j j ≠ 2) := by
                refine Or.inl ⟨rfl, ?_⟩
                first
                  | exact ⟨i, by omega, c_31⟩
                  | (rcases hb2 with ⟨-, j, hj, h2⟩ | ⟨h0, -⟩
                     · exact ⟨j, by omega, h2⟩
                     · exact absurd h0 c_21)
              exact ih_lp (i + 1) 1 (by omega) (hb3) (by omega) _ (lv_sub hl [2, 1, 0] rfl)
    exact lp _ 0 0 (Nat.zero_le _) (Or.inr ⟨rfl, fun j hj => absurd hj (Nat.not_lt_zero _)⟩) (Nat.lt_succ_self _) _ (lv_sub hl [2, 1, 0] rfl)
  · refine lv_iconst (v := nI 0) hx hb d_M_isBad_9 (by decide +kernel) ?_
    have hq : ¬ badX x := by
      rintro ⟨h1, h2⟩
      first
        | exact c_6 h1
        | (rcases hb2 with ⟨-, j, hj, h3⟩ | ⟨h0, -⟩
           · exact h2 j (by omega) h3
           · exact absurd h0 c_47)
    exact W.zret (v := nI 0) (ty := .boolean) hx hb hr rfl (fun t ht hW => ⟨nI 0, rfl, Or.inr ⟨rfl, hq⟩, ht⟩) (fun q h9 => absurd h9 List.not_mem_nil) d_M_isBad_10
set_option maxHeartbeats 4000000 in
set_option maxRecDepth 100000 in
theorem m_fallsAt (l : Launch) (dC : Nat → ClassId) (dI : Nat → Nat → Nat) (cI cZ : ClassId) (h : Nat → Nat) (sz : Nat) (xt xf xc : Int32) (aP aF aT aK bF bL bB bA bY bR oT oO oR bS : Nat → Int32) (es : List En) (f : Nat) (hL : es.length ≤ 801) (hE0 : hE es bF bL bB bA bY) (hs : smE es) (hf : f < 16) : Met l y_M_fallsAt w_M_fallsAt ({ frames := 3, cells := 0, slots := 0, locals := 73 }) (va_Pc [.ref (h 0), .int (nI f)] (fun U => U.heap.size = sz ∧ va_P (dC, dI) kls (wM h cI cZ xt xf xc (nI es.length) aP aF aT aK bF bL bB bA bY bR oT oO oR bS) U.heap ∧ va_K (dC, dI) kls (tyM cI cZ) U ∧ va_D (fun _ => True) (wM h cI cZ xt xf xc (nI es.length) aP aF aT aK bF bL bB bA bY bR oT oO oR bS))) (va_Qi (fun (r : Int32) (u : Unit) => (r = nI 1 ∧ ∀ en ∈ es, ¬ (en.1 = f ∧ en.2.1 = f ∧ badX en.2.2.1)) ∨ (r = nI 0 ∧ ∃ en ∈ es, en.1 = f ∧ en.2.1 = f ∧ badX en.2.2.1)) (fun (u : Unit) (t : State) => va_P (dC, dI) kls (wM h cI cZ xt xf xc (nI es.length) aP aF aT aK bF bL bB bA bY bR oT oO oR bS) t.heap ∧ va_K (dC, dI) kls (tyM cI cZ) t ∧ va_D (va_A (wM h cI cZ xt xf xc (nI es.length) aP aF aT aK bF bL bB bA bY bR oT oO oR bS) sz) (wM h cI cZ xt xf xc (nI es.length) aP aF aT aK bF bL bB bA bY bR oT oO oR bS)) (va_A (wM h cI cZ xt xf xc (nI es.length) aP aF aT aK bF bL bB bA bY bR oT oO oR bS) sz)) 0 0 (va_A (wM h cI cZ xt xf xc (nI es.length) aP aF aT aK bF bL bB bA bY bR oT oO oR bS) sz) := by
  refine Met.ofW (cc := c_M_fallsAt) (maxL := 4) (ret := (some .boolean)) (by decide) rfl ?_
  intro p e s m args below meth c s₁ B hml hv
  obtain ⟨rfl, hsz, hP, hK, hD0⟩ := hv
  have hx := B.exec
  have hb := B.bytes
  have hr := B.returns
  have hts := atoms_spec (ws := w_M_fallsAt) B.pre
  have hk : ∀ w ∈ wMw, w.before _ s = true := fun w h => hts w (List.mem_cons_of_mem _ h)
  have hown : s.vm.findClass R_M = some m.cls := findClass_of_methodNamed B.named
  have hlocks := B.notSynchronized
  subst hsz
  have hD := hD0.self (sz := s.heap.size)
  generalize hAe : va_A (wM h cI cZ xt xf xc (nI es.length) aP aF aT aK bF bL bB bA bY bR oT oO oR bS) s.heap.size = A at hD ⊢
  have hA : ∀ q : Nat, s.heap.size ≤ q → A q := fun q h => by rw [← hAe]; exact Or.inr h
  have hS : va_S A s.heap s.heap [] := va_S.rf
  have hl := lv_entry ([.ref (h 0), .int (nI f)]) (n := 4) (Nat.le_of_ble_eq_true rfl)
  rw [lg_entry_eq]
  generalize (lg_sl ([.ref (h 0), .int (nI f)]) ++ List.replicate (4 - (lg_sl ([.ref (h 0), .int (nI f)])).length) Slot.unset).toArray = ls at hl ⊢
  have hl : lv_has ls 4 [(0, .ref (h 0)), (1, .int (nI f))] := hl
  refine lv_iconst (v := nI 1) hx hb d_M_fallsAt_0 (by decide +kernel) ?_
  refine lv_istore_n (lv' := [(2, .int (nI 1)), (0, .ref (h 0)), (1, .int (nI f))]) hx hb d_M_fallsAt_1 rfl hl (by decide) rfl (fun ls hl => ?_)
  refine lv_iconst (v := nI 0) hx hb d_M_fallsAt_2 (by decide +kernel) ?_
  refine lv_istore_n (lv' := [(3, .int (nI 0)), (2, .int (nI 1)), (0, .ref (h 0)), (1, .int (nI f))]) hx hb d_M_fallsAt_3 rfl hl (by decide) rfl (fun ls hl => ?_)
  have lp : ∀ (n_lp : Nat) (k : Nat) (b : Nat), (k ≤ es.length) → ((b = 1 ∧ ∀ j en, j < k → es[j]? = some en → ¬ (en.1 = f ∧ en.2.1 = f ∧ badX en.2.2.1)) ∨ (b = 0 ∧ ∃ en ∈ es, en.1 = f ∧ en.2.1 = f ∧ badX en.2.2.1)) → es.length - k < n_lp → ∀ (H : Heap) (locs : List Loc) (ls : Array Slot), va_P (dC, dI) kls (wM h cI cZ xt xf xc (nI es.length) aP aF aT aK bF bL bB bA bY bR oT oO oR bS) H → va_D A (wM h cI cZ xt xf xc (nI es.length) aP aF aT aK bF bL bB bA bY bR oT oO oR bS) → va_S A s.heap H locs → lv_has ls 4 [(0, .ref (h 0)), (1, .int (nI f)), (2, .int (nI b)), (3, .int (nI k))] → W p l e (headSpec w_M_fallsAt ({ frames := 3, cells := 0, slots := 0, locals := 73 })).room s m ([.ref (h 0), .int (nI f)]).toArray below meth c H locs 0 0 (MQ below (va_Qi (fun (r : Int32) (u : Unit) => (r = nI 1 ∧ ∀ en ∈ es, ¬ (en.1 = f ∧ en.2.1 = f ∧ badX en.2.2.1)) ∨ (r = nI 0 ∧ ∃ en ∈ es, en.1 = f ∧ en.2.1 = f ∧ badX en.2.2.1)) (fun (u : Unit) (t : State) => va_P (dC, dI) kls (wM h cI cZ xt xf xc (nI es.length) aP aF aT aK bF bL bB bA bY bR oT oO oR bS) t.heap ∧ va_K (dC, dI) kls (tyM cI cZ) t ∧ va_D (A) (wM h cI cZ xt xf xc (nI es.length) aP aF aT aK bF bL bB bA bY bR oT oO oR bS)) A) ([.ref (h 0), .int (nI f)]).toArray s 0 0 A) (F0 m 4 ls []) := by
    intro n_lp
    induction n_lp with
    | zero => intro k b hk0 hb2 hn; exact absurd hn (Nat.not_lt_zero _)
    | succ n_lp ih_lp =>
      intro k b hk0 hb2 hn H locs ls hP hD hS hl
      have hb9 : b < 2 := by rcases hb2 with ⟨h1, -⟩ | ⟨h0, -⟩ <;> omega
      have hnb : narrow .boolean (.int (nI b)) = .int (nI b) := by rcases hb2 with ⟨rfl, -⟩ | ⟨rfl, -⟩ <;> rfl
      refine lv_iload_n hx hb d_M_fallsAt_4 rfl (lv_at hl 3 rfl) ?_
      refine lv_aload_n hx hb d_M_fallsAt_5 rfl (lv_at hl 0 rfl) ?_
      refine va_get (D := (dC, dI)) (ci := 0) (v := .int (nI es.length)) (C := R_M) (T := F_M) (N := 18) hx hb hk k_M_f hown hK hP 0 rfl rfl 7 (by decide) (hk _ k_M_15) (fun _ h9 => h9) rfl d_M_fallsAt_6 ?_
      refine lv_icmp_ge (tgt := 60) hx hb d_M_fallsAt_9 (by decide) (fun c_9 => ?_) (fun c_9 => ?_)
      · have c_9 : es.length ≤ k := (nI_leI (a := es.length) (b := k) (by omega) (by omega)).mp c_9
        refine lv_iload_n hx hb d_M_fallsAt_60 rfl (lv_at hl 2 rfl) ?_
        have hq : (nI b = nI 1 ∧ ∀ en ∈ es, ¬ (en.1 = f ∧ en.2.1 = f ∧ badX en.2.2.1)) ∨ (nI b = nI 0 ∧ ∃ en ∈ es, en.1 = f ∧ en.2.1 = f ∧ badX en.2.2.1) := by
          rcases hb2 with ⟨rfl, h1⟩ | ⟨rfl, h0⟩
          · refine Or.inl ⟨rfl, fun en hm => ?_⟩
            obtain ⟨j, hj⟩ := List.getElem?_of_mem hm
            exact h1 j en (by have := (List.getElem?_eq_some_iff.mp hj).1; omega) hj
          · exact Or.inr ⟨rfl, h0⟩
        exact W.zret (v := nI b) (ty := .boolean) hx hb hr hnb (fun t ht hW => ⟨⟨nI b, (), rfl, hq, by rw [ht]; exact hP, va_K.moved hW.alike hK, hD⟩, hS.F ht⟩) hS.2.2 d_M_fallsAt_61
      · have c_9 : ¬ es.length ≤ k := fun z9 => c_9 ((nI_leI (a := es.length) (b := k) (by omega) (by omega)).mpr z9)
        obtain ⟨en, hen⟩ : ∃ en, es[k]? = some en := ⟨_, List.getElem?_eq_getElem (by omega)⟩
        obtain ⟨q1, q2, q3, -, -⟩ := hE0 k en hen
        have hsn := hs en (List.mem_of_getElem? hen)
        refine lv_iload_n hx hb d_M_fallsAt_12 rfl (lv_at hl 2 rfl) ?_
        refine lv_if_eq (tgt := 52) hx hb d_M_fallsAt_13 (by decide) (fun c_13 => ?_) (fun c_13 => ?_)
        · have c_13 : b = 0 := (nI_eq (a := b) (b := 0) (by omega) (by omega)).mp c_13
          refine lv_iconst (v := nI 0) hx hb d_M_fallsAt_52 (by decide +kernel) ?_
          refine lv_istore_n (lv' := [(2, .int (nI 0)), (0, .ref (h 0)), (1, .int (nI f)), (3, .int (nI k))]) hx hb d_M_fallsAt_53 rfl hl (by decide) rfl (fun ls hl => ?_)
          refine lv_iinc (v := nI (k + 1)) (lv' := [(3, .int (nI (k + 1))), (2, .int (nI 0)), (0, .ref (h 0)), (1, .int (nI f))]) hx hb d_M_fallsAt_54 hl (k := 3) rfl (nI_add k 1) (by decide) rfl (fun ls hl => ?_)
          refine lv_goto (tgt := 4) hx hb d_M_fallsAt_57 (by decide) ?_
          have hb3 : (0 = 1 ∧ ∀ j en, j < k + 1 → es[j]? = some en → ¬ (en.1 = f ∧ en.2.1 = f ∧ badX en.2.2.1)) ∨ (0 = 0 ∧ ∃ en ∈ es, en.1 = f ∧ en.2.1 = f ∧ badX en.2.2.1) := by
            refine Or.inr ⟨rfl, ?_⟩
            first
              | exact ⟨en, List.mem_of_getElem? hen, c_23, c_33, hbad⟩
              | (rcases hb2 with ⟨h1, -⟩ | ⟨-, h0⟩
                 · omega
                 · exact h0)
          exact ih_lp (k + 1) 0 (by omega) (hb3) (by omega) _ _ _ hP hD hS (lv_sub hl [2, 3, 1, 0] rfl)
        · have c_13 : ¬ b = 0 := fun z9 => c_13 ((nI_eq (a := b) (b := 0) (by omega) (by omega)).mpr z9)
          refine lv_aload_n hx hb d_M_fallsAt_16 rfl (lv_at hl 0 rfl) ?_
          refine va_get (D := (dC, dI)) (ci := 0) (v := .ref (h 5)) (C := R_M) (T := F_M) (N := 18) hx hb hk k_M_f hown hK hP 0 rfl rfl 8 (by decide) (hk _ k_M_16) (fun _ h9 => h9) rfl d_M_fallsAt_17 ?_
          refine lv_iload_n hx hb d_M_fallsAt_20 rfl (lv_at hl 3 rfl) ?_
          refine va_iald hx hb hK hP 5 0 rfl rfl (pk_in k 801 (by omega)) d_M_fallsAt_21 ?_
          refine lv_topi (fun z1 ez1 => ?_)
          obtain rfl : z1 = nI en.1 := ez1.trans ((rd (f := bF) (k := k) (by omega)).trans q1)
          refine lv_iload_n hx hb d_M_fallsAt_22 rfl (lv_at hl 1 rfl) ?_
          refine lv_icmp_ne (tgt := 48) hx hb d_M_fallsAt_23 (by decide) (fun c_23 => ?_) (fun c_23 => ?_)
          · have c_23 : ¬ en.1 = f := fun z9 => c_23 ((nI_eq (a := en.1) (b := f) (by omega) (by omega)).mpr z9)
            refine lv_iconst (v := nI 1) hx hb d_M_fallsAt_48 (by decide +kernel) ?_
            refine lv_goto (tgt := 53) hx hb d_M_fallsAt_49 (by decide) ?_
            refine lv_istore_n (lv' := [(2, .int (nI 1)), (0, .ref (h 0)), (1, .int (nI f)), (3, .int (nI k))]) hx hb d_M_fallsAt_53 rfl hl (by decide) rfl (fun ls hl => ?_)
            refine lv_iinc (v := nI (k + 1)) (lv' := [(3, .int (nI (k + 1))), (2, .int (nI 1)), (0, .ref (h 0)), (1, .int (nI f))]) hx hb d_M_fallsAt_54 hl (k := 3) rfl (nI_add k 1) (by decide) rfl (fun ls hl => ?_)
            refine lv_goto (tgt := 4) hx hb d_M_fallsAt_57 (by decide) ?_
            have hb3 : (1 = 1 ∧ ∀ j en, j < k + 1 → es[j]? = some en → ¬ (en.1 = f ∧ en.2.1 = f ∧ badX en.2.2.1)) ∨ (1 = 0 ∧ ∃ en ∈ es, en.1 = f ∧ en.2.1 = f ∧ badX en.2.2.1) := by
              refine Or.inl ⟨rfl, fun j x hj hx9 => ?_⟩
              rcases hb2 with ⟨-, h1⟩ | ⟨h0, -⟩
              · rcases Nat.lt_or_ge j k with q | q
                · exact h1 j x q hx9
                · obtain rfl : j = k := by omega
                  rw [hen] at hx9
                  cases hx9
                  rintro ⟨z1, z2, z3⟩
                  first
                    | exact c_23 z1
                    | exact c_33 z2
                    | exact hbad z3
              · exact absurd h0 c_13
            exact ih_lp (k + 1) 1 (by omega) (hb3) (by omega) _ _ _ hP hD hS (lv_sub hl [2, 3, 1, 0] rfl)
          · have c_23 : en.1 = f := (nI_eq (a := en.1) (b := f) (by omega) (by omega)).mp c_23
            refine lv_aload_n hx hb d_M_fallsAt_26 rfl (lv_at hl 0 rfl) ?_
            refine va_get (D := (dC, dI)) (ci := 0) (v := .ref (h 6)) (C := R_M) (T := F_M) (N := 18) hx hb hk k_M_f hown hK hP 0 rfl rfl 9 (by decide) (hk _ k_M_17) (fun _ h9 => h9) rfl d_M_fallsAt_27 ?_
            refine lv_iload_n hx hb d_M_fallsAt_30 rfl (lv_at hl 3 rfl) ?_
            refine va_iald hx hb hK hP 6 0 rfl rfl (pk_in k 801 (by omega)) d_M_fallsAt_31 ?_
            refine lv_topi (fun z2 ez2 => ?_)
            obtain rfl : z2 = nI en.2.1 := ez2.trans ((rd (f := bL) (k := k) (by omega)).trans q2)
            refine lv_iload_n hx hb d_M_fallsAt_32 rfl (lv_at hl 1 rfl) ?_
            refine lv_icmp_ne (tgt := 48) hx hb d_M_fallsAt_33 (by decide) (fun c_33 => ?_) (fun c_33 => ?_)
            · have c_33 : ¬ en.2.1 = f := fun z9 => c_33 ((nI_eq (a := en.2.1) (b := f) (by omega) (by omega)).mpr z9)
              refine lv_iconst (v := nI 1) hx hb d_M_fallsAt_48 (by decide +kernel) ?_
              refine lv_goto (tgt := 53) hx hb d_M_fallsAt_49 (by decide) ?_
              refine lv_istore_n (lv' := [(2, .int (nI 1)), (0, .ref (h 0)), (1, .int (nI f)), (3, .int (nI k))]) hx hb d_M_fallsAt_53 rfl hl (by decide) rfl (fun ls hl => ?_)
              refine lv_iinc (v := nI (k + 1)) (lv' := [(3, .int (nI (k + 1))), (2, .int (nI 1)), (0, .ref (h 0)), (1, .int (nI f))]) hx hb d_M_fallsAt_54 hl (k := 3) rfl (nI_add k 1) (by decide) rfl (fun ls hl => ?_)
              refine lv_goto (tgt := 4) hx hb d_M_fallsAt_57 (by decide) ?_
              have hb3 : (1 = 1 ∧ ∀ j en, j < k + 1 → es[j]? = some en → ¬ (en.1 = f ∧ en.2.1 = f ∧ badX en.2.2.1)) ∨ (1 = 0 ∧ ∃ en ∈ es, en.1 = f ∧ en.2.1 = f ∧ badX en.2.2.1) := by
                refine Or.inl ⟨rfl, fun j x hj hx9 => ?_⟩
                rcases hb2 with ⟨-, h1⟩ | ⟨h0, -⟩
                · rcases Nat.lt_or_ge j k with q | q
                  · exact h1 j x q hx9
                  · obtain rfl : j = k := by omega
                    rw [hen] at hx9
                    cases hx9
                    rintro ⟨z1, z2, z3⟩
                    first
                      | exact c_23 z1
                      | exact c_33 z2
                      | exact hbad z3
                · exact absurd h0 c_13
              exact ih_lp (k + 1) 1 (by omega) (hb3) (by omega) _ _ _ hP hD hS (lv_sub hl [2, 3, 1, 0] rfl)
            · have c_33 : en.2.1 = f := (nI_eq (a := en.2.1) (b := f) (by omega) (by omega)).mp c_33
              refine lv_aload_n hx hb d_M_fallsAt_36 rfl (lv_at hl 0 rfl) ?_
              refine va_get (D := (dC, dI)) (ci := 0) (v := .ref (h 7)) (C := R_M) (T := F_M) (N := 18) hx hb hk k_M_f hown hK hP 0 rfl rfl 10 (by decide) (hk _ k_M_18) (fun _ h9 => h9) rfl d_M_fallsAt_37 ?_
              refine lv_iload_n hx hb d_M_fallsAt_40 rfl (lv_at hl 3 rfl) ?_
              refine va_iald hx hb hK hP 7 0 rfl rfl (pk_in k 801 (by omega)) d_M_fallsAt_41 ?_
              refine lv_topi (fun z3 ez3 => ?_)
              obtain rfl : z3 = en.2.2.1 := ez3.trans ((rd (f := bB) (k := k) (by omega)).trans q3)
              refine vp_callSi (W.runS (As := [.int en.2.2.1]) (rest := []) ⟨hx, hb, hml, hown, hk⟩ (m_isBad l en.2.2.1) (cwS 1 hk g_M_isBad rfl rfl rfl (by decide +kernel) ⟨Nat.le_of_ble_eq_true rfl, Nat.le_of_ble_eq_true rfl⟩) ⟨fun a U g mk q => q, fun U hU hW => ⟨rfl, trivial⟩⟩ rfl rfl hl.1 rfl (lv_room (Nat.le_of_ble_eq_true rfl)) d_M_fallsAt_42 ⟨Nat.le_of_ble_eq_true rfl, Nat.le_of_ble_eq_true rfl⟩) (fun r4 hw => ?_)
              rcases hw with ⟨hr9, hbad⟩ | ⟨hr9, hbad⟩
              · subst hr9
                refine lv_if_ne (tgt := 52) hx hb d_M_fallsAt_45 (by decide) (fun _ => ?_) (fun c9 => absurd c9 (by decide +kernel))
                refine lv_iconst (v := nI 0) hx hb d_M_fallsAt_52 (by decide +kernel) ?_
                refine lv_istore_n (lv' := [(2, .int (nI 0)), (0, .ref (h 0)), (1, .int (nI f)), (3, .int (nI k))]) hx hb d_M_fallsAt_53 rfl hl (by decide) rfl (fun ls hl => ?_)
                refine lv_iinc (v := nI (k + 1)) (lv' := [(3, .int (nI (k + 1))), (2, .int (nI 0)), (0, .ref (h 0)), (1, .int (nI f))]) hx hb d_M_fallsAt_54 hl (k := 3) rfl (nI_add k 1) (by decide) rfl (fun ls hl => ?_)
                refine lv_goto (tgt := 4) hx hb d_M_fallsAt_57 (by decide) ?_
                have hb3 : (0 = 1 ∧ ∀ j en, j < k + 1 → es[j]? = some en → ¬ (en.1 = f ∧ en.2.1 = f ∧ badX en.2.2.1)) ∨ (0 = 0 ∧ ∃ en ∈ es, en.1 = f ∧ en.2.1 = f ∧ badX en.2.2.1) := by
                  refine Or.inr ⟨rfl, ?_⟩
                  first
                    | exact ⟨en, List.mem_of_getElem? hen, c_23, c_33, hbad⟩
                    | (rcases hb2 with ⟨h1, -⟩ | ⟨-, h0⟩
                       · omega
                       · exact h0)
                exact ih_lp (k + 1) 0 (by omega) (hb3) (by omega) _ _ _ hP hD hS (lv_sub hl [2, 3, 1, 0] rfl)
              · subst hr9
                refine lv_if_ne (tgt := 52) hx hb d_M_fallsAt_45 (by decide) (fun c9 => absurd c9 (by decide +kernel)) (fun _ => ?_)
                refine lv_iconst (v := nI 1) hx hb d_M_fallsAt_48 (by decide +kernel) ?_
                refine lv_goto (tgt := 53) hx hb d_M_fallsAt_49 (by decide) ?_
                refine lv_istore_n (lv' := [(2, .int (nI 1)), (0, .ref (h 0)), (1, .int (nI f)), (3, .int (nI k))]) hx hb d_M_fallsAt_53 rfl hl (by decide) rfl (fun ls hl => ?_)
                refine lv_iinc (v := nI (k + 1)) (lv' := [(3, .int (nI (k + 1))), (2, .int (nI 1)), (0, .ref (h 0)), (1, .int (nI f))]) hx hb d_M_fallsAt_54 hl (k := 3) rfl (nI_add k 1) (by decide) rfl (fun ls hl => ?_)
                refine lv_goto (tgt := 4) hx hb d_M_fallsAt_57 (by decide) ?_
                have hb3 : (1 = 1 ∧ ∀ j en, j < k + 1 → es[j]? = some en → ¬ (en.1 = f ∧ en.2.1 = f ∧ badX en.2.2.1)) ∨ (1 = 0 ∧ ∃ en ∈ es, en.1 = f ∧ en.2.1 = f ∧ badX en.2.2.1) := by
                  refine Or.inl ⟨rfl, fun j x hj hx9 => ?_⟩
                  rcases hb2 with ⟨-, h1⟩ | ⟨h0, -⟩
                  · rcases Nat.lt_or_ge j k with q | q
                    · exact h1 j x q hx9
                    · obtain rfl : j = k := by omega
                      rw [hen] at hx9
                      cases hx9
                      rintro ⟨z1, z2, z3⟩
                      first
                        | exact c_23 z1
                        | exact c_33 z2
                        | exact hbad z3
                  · exact absurd h0 c_13
                exact ih_lp (k + 1) 1 (by omega) (hb3) (by omega) _ _ _ hP hD hS (lv_sub hl [2, 3, 1, 0] rfl)
  exact lp _ 0 1 (Nat.zero_le _) (Or.inl ⟨rfl, fun j en hj => absurd hj (Nat.not_lt_zero _)⟩) (Nat.lt_succ_self _) _ _ _ hP hD hS (lv_sub hl [2, 3, 1, 0] rfl)
end
section
theorem nx_and (a b : Nat) : nI a &&& nI b = nI (a &&& b) := by
  apply Int32.toBitVec_inj.1
  show BitVec.ofNat 32 a &&& BitVec.ofNat 32 b = BitVec.ofNat 32 (a &&& b)
  apply BitVec.eq_of_getLsbD_eq
  intro i hi
  simp [hi]
theorem nx_or (a b : Nat) : nI a ||| nI b = nI (a ||| b) := by
  apply Int32.toBitVec_inj.1
  show BitVec.ofNat 32 a ||| BitVec.ofNat 32 b = BitVec.ofNat 32 (a ||| b)
  apply BitVec.eq_of_getLsbD_eq
  intro i hi
  simp [hi]
theorem bit_nat (a k : Nat) : a / 2 ^ k &&& 1 = (a.testBit k).toNat := by
  rw [Nat.and_one_is_mod, Nat.testBit_eq_decide_div_mod_eq]
  rcases Nat.mod_two_eq_zero_or_one (a / 2 ^ k) with h | h <;> rw [h] <;> rfl
theorem sar_bit {a k : Nat} (ha : a < 65536) (hk : k < 16) : sar (nI a) k &&& nI 1 = nI (a.testBit k).toNat := by
  unfold sar
  rw [pk_shrN (by omega) _ k (s_l k (by omega)), nx_and, bit_nat]
theorem ush_bit {a k : Nat} (ha : a < 65536) (hk : k < 16) : ush (nI a) k &&& nI 1 = nI (a.testBit k).toNat := by
  unfold ush
  rw [pk_ushrN (by omega) _ k (s_u k (by omega)), nx_and, bit_nat]
theorem shl_1 : ∀ k, k < 16 → shl (nI 1) k = nI (2 ^ k) := by decide +kernel
theorem or_bit {a k : Nat} (h : a.testBit k = true) : a ||| 2 ^ k = a := by
  apply Nat.eq_of_testBit_eq
  intro i
  rw [Nat.testBit_or, Nat.testBit_two_pow]
  by_cases hik : k = i
  · subst hik; rw [h]; rfl
  · rw [decide_eq_false hik]; simp
theorem or_new {a k : Nat} (h : a.testBit k = false) : a ||| 2 ^ k ≠ a := by
  intro e
  have h2 : (a ||| 2 ^ k).testBit k = true := by rw [Nat.testBit_or, Nat.testBit_two_pow, decide_eq_true rfl]; simp
  rw [e, h] at h2
  cases h2
theorem p2_lt {n : Nat} (h : n ≤ 10) : 2 ^ n ≤ 1024 := Nat.pow_le_pow_right (n := 2) (by omega) h
set_option maxHeartbeats 4000000 in
set_option maxRecDepth 100000 in
theorem m_graphs (l : Launch) (dC : Nat → ClassId) (dI : Nat → Nat → Nat) (cI cZ : ClassId) (h : Nat → Nat) (sz : Nat) (xt xg : Int32) (aP aK bF bL bB bA bY bR oT oO oR bS : Nat → Int32) (nF nC K : Nat) (cf ct : Nat → Nat) (f g : Int32) (hF : nF ≤ 10) (hC : nC ≤ 20) (hK8 : 801 ≤ K) (hS0 : ∀ c, c < nC → cf c < nF ∧ ct c < nF) : Met l y_M_graphs w_M_graphs ({ frames := 4, cells := 0, slots := 0, locals := 96 }) (va_Pc [.ref (h 0), .int f, .int g] (fun U => U.heap.size = sz ∧ va_P (dC, dI) kls (wM h cI cZ xt (nI nF) (nI nC) xg aP (fun c => nI (cf c)) (fun c => nI (ct c)) aK bF bL bB bA bY bR oT oO oR bS) U.heap ∧ va_K (dC, dI) kls (tyM cI cZ) U ∧ va_D (fun _ => True) (wM h cI cZ xt (nI nF) (nI nC) xg aP (fun c => nI (cf c)) (fun c => nI (ct c)) aK bF bL bB bA bY bR oT oO oR bS))) (va_Qi (fun (r : Int32) (u : Int32 × Int32 × (Nat → Int32) × (Nat → Int32) × (Nat → Int32) × (Nat → Int32) × (Nat → Int32)) => ((¬ ((∃ i, i < nF ∧ f = nI i) ∧ (∃ j, j < nF ∧ g = nI j))) ∧ u.1 = nI 0 ∧ r = -1) ∨ ∃ i j, i < nF ∧ j < nF ∧ f = nI i ∧ g = nI j ∧ ((800 < (gA nC cf ct aK rj K).length ∧ u.1 = nI 1) ∨ ((gA nC cf ct aK rj K).length ≤ 800 ∧ u.1 = nI 0 ∧ r = nI ((gA nC cf ct aK rj K).countP (qFG i j))))) (fun (u : Int32 × Int32 × (Nat → Int32) × (Nat → Int32) × (Nat → Int32) × (Nat → Int32) × (Nat → Int32)) (t : State) => va_P (dC, dI) kls (wM h cI cZ u.1 (nI nF) (nI nC) u.2.1 aP (fun c => nI (cf c)) (fun c => nI (ct c)) aK u.2.2.1 u.2.2.2.1 u.2.2.2.2.1 u.2.2.2.2.2.1 u.2.2.2.2.2.2 bR oT oO oR bS) t.heap ∧ va_K (dC, dI) kls (tyM cI cZ) t ∧ va_D (va_A (wM h cI cZ xt (nI nF) (nI nC) xg aP (fun c => nI (cf c)) (fun c => nI (ct c)) aK bF bL bB bA bY bR oT oO oR bS) sz) (wM h cI cZ u.1 (nI nF) (nI nC) u.2.1 aP (fun c => nI (cf c)) (fun c => nI (ct c)) aK u.2.2.1 u.2.2.2.1 u.2.2.2.2.1 u.2.2.2.2.2.1 u.2.2.2.2.2.2 bR oT oO oR bS)) (va_A (wM h cI cZ xt (nI nF) (nI nC) xg aP (fun c => nI (cf c)) (fun c => nI (ct c)) aK bF bL bB bA bY bR oT oO oR bS) sz)) 0 0 (va_A (wM h cI cZ xt (nI nF) (nI nC) xg aP (fun c => nI (cf c)) (fun c => nI (ct c)) aK bF bL bB bA bY bR oT oO oR bS) sz) := by
  refine Met.ofW (cc := c_M_graphs) (maxL := 4) (ret := (some .int)) (by decide) rfl ?_
  intro p e s m args below meth c s₁ B hml hv
  obtain ⟨rfl, hsz, hP, hK, hD0⟩ := hv
  have hx := B.exec
  have hb := B.bytes
  have hr := B.returns
  have hts := atoms_spec (ws := w_M_graphs) B.pre
  have hk : ∀ w ∈ wMw, w.before _ s = true := fun w h => hts w (List.mem_cons_of_mem _ h)
  have hown : s.vm.findClass R_M = some m.cls := findClass_of_methodNamed B.named
  have hlocks := B.notSynchronized
  subst hsz
  have hD := hD0.self (sz := s.heap.size)
  generalize hAe : va_A (wM h cI cZ xt (nI nF) (nI nC) xg aP (fun c => nI (cf c)) (fun c => nI (ct c)) aK bF bL bB bA bY bR oT oO oR bS) s.heap.size = A at hD ⊢
  have hA : ∀ q : Nat, s.heap.size ≤ q → A q := fun q h => by rw [← hAe]; exact Or.inr h
  have hS : va_S A s.heap s.heap [] := va_S.rf
  have hl := lv_entry ([.ref (h 0), .int f, .int g]) (n := 4) (Nat.le_of_ble_eq_true rfl)
  rw [lg_entry_eq]
  generalize (lg_sl ([.ref (h 0), .int f, .int g]) ++ List.replicate (4 - (lg_sl ([.ref (h 0), .int f, .int g])).length) Slot.unset).toArray = ls at hl ⊢
  have hl : lv_has ls 4 [(0, .ref (h 0)), (1, .int f), (2, .int g)] := hl
  refine lv_aload_n hx hb d_M_graphs_0 rfl (lv_at hl 0 rfl) ?_
  refine lv_iload_n hx hb d_M_graphs_1 rfl (lv_at hl 1 rfl) ?_
  have hFc := va_free (wc := wM h cI cZ xt (nI nF) (nI nC) xg aP (fun c => nI (cf c)) (fun c => nI (ct c)) aK bF bL bB bA bY bR oT oO oR bS) hD hS hA [0, 1, 2, 3, 4, 5, 6, 7, 8, 9, 10, 11, 12, 13, 14] rfl
  refine va_calli (va_runV (As := [.int f]) (rest := []) ⟨hx, hb, hml, hown, hk⟩ (m_isFunction l dC dI cI cZ h s.heap.size xt (nI nC) xg aP (fun c => nI (cf c)) (fun c => nI (ct c)) aK bF bL bB bA bY bR oT oO oR bS nF f (by omega)) (cwV 1 hk g_M_isFunction rfl rfl rfl (by decide +kernel) ⟨Nat.le_of_ble_eq_true rfl, Nat.le_of_ble_eq_true rfl⟩) ⟨fun a U g mk q => by obtain ⟨q0, q1, qP, qK, qD⟩ := q; exact ⟨q0, q1, qP, va_K.moved (u := U) (U := U.calling g mk a) (Vm.Alike.refl U.vm) qK, qD⟩, va_recv hK hP (ci := 0) (q0 := 0) rfl rfl, fun U hU hW => ⟨rfl, by rw [hU], by rw [hU]; exact hP, va_K.moved hW.alike hK, hD.weaken (fun _ _ _ _ => trivial)⟩⟩ rfl rfl hl.1 rfl (lv_room (Nat.le_of_ble_eq_true rfl)) d_M_graphs_2 ⟨Nat.le_of_ble_eq_true rfl, Nat.le_of_ble_eq_true rfl⟩) hS (fun q _ h => hFc q h) hFc (fun r1 u9 t H1 locs ht hvm hw hB hz1 hk1 hS => ?_)
  obtain ⟨hP1, hK1, hD1⟩ := hB
  rw [ht] at hP1
  try dsimp only at hw
  obtain ⟨hP, hD⟩ := va_join (wr := []) (w1 := wM h cI cZ xt (nI nF) (nI nC) xg aP (fun c => nI (cf c)) (fun c => nI (ct c)) aK bF bL bB bA bY bR oT oO oR bS) hP hD [0, 1, 2, 3, 4, 5, 6, 7, 8, 9, 10, 11, 12, 13, 14] [] rfl rfl (by decide) (by decide) hk1 hFc hP1 hD1
  generalize H1 = H at hP hS ⊢
  have hP : va_P (dC, dI) kls (wM h cI cZ xt (nI nF) (nI nC) xg aP (fun c => nI (cf c)) (fun c => nI (ct c)) aK bF bL bB bA bY bR oT oO oR bS) H := hP
  have hD : va_D A (wM h cI cZ xt (nI nF) (nI nC) xg aP (fun c => nI (cf c)) (fun c => nI (ct c)) aK bF bL bB bA bY bR oT oO oR bS) := hD
  rcases hw with ⟨hr9, i1, hi1, hfj⟩ | ⟨hr9, hno_f⟩
  · subst hr9
    subst hfj
    refine lv_if_eq (tgt := 16) hx hb d_M_graphs_5 (by decide) (fun c9 => absurd c9 (by decide +kernel)) (fun _ => ?_)
    refine lv_aload_n hx hb d_M_graphs_8 rfl (lv_at hl 0 rfl) ?_
    refine lv_iload_n hx hb d_M_graphs_9 rfl (lv_at hl 2 rfl) ?_
    have hFc := va_free (wc := wM h cI cZ xt (nI nF) (nI nC) xg aP (fun c => nI (cf c)) (fun c => nI (ct c)) aK bF bL bB bA bY bR oT oO oR bS) hD hS hA [0, 1, 2, 3, 4, 5, 6, 7, 8, 9, 10, 11, 12, 13, 14] rfl
    refine va_calli (va_runV (As := [.int g]) (rest := []) ⟨hx, hb, hml, hown, hk⟩ (m_isFunction l dC dI cI cZ h H.size xt (nI nC) xg aP (fun c => nI (cf c)) (fun c => nI (ct c)) aK bF bL bB bA bY bR oT oO oR bS nF g (by omega)) (cwV 1 hk g_M_isFunction rfl rfl rfl (by decide +kernel) ⟨Nat.le_of_ble_eq_true rfl, Nat.le_of_ble_eq_true rfl⟩) ⟨fun a U g mk q => by obtain ⟨q0, q1, qP, qK, qD⟩ := q; exact ⟨q0, q1, qP, va_K.moved (u := U) (U := U.calling g mk a) (Vm.Alike.refl U.vm) qK, qD⟩, va_recv hK hP (ci := 0) (q0 := 0) rfl rfl, fun U hU hW => ⟨rfl, by rw [hU], by rw [hU]; exact hP, va_K.moved hW.alike hK, hD.weaken (fun _ _ _ _ => trivial)⟩⟩ rfl rfl hl.1 rfl (lv_room (Nat.le_of_ble_eq_true rfl)) d_M_graphs_10 ⟨Nat.le_of_ble_eq_true rfl, Nat.le_of_ble_eq_true rfl⟩) hS (fun q _ h => hFc q h) hFc (fun r2 u9 t H1 locs ht hvm hw hB hz1 hk1 hS => ?_)
    obtain ⟨hP1, hK1, hD1⟩ := hB
    rw [ht] at hP1
    try dsimp only at hw
    obtain ⟨hP, hD⟩ := va_join (wr := []) (w1 := wM h cI cZ xt (nI nF) (nI nC) xg aP (fun c => nI (cf c)) (fun c => nI (ct c)) aK bF bL bB bA bY bR oT oO oR bS) hP hD [0, 1, 2, 3, 4, 5, 6, 7, 8, 9, 10, 11, 12, 13, 14] [] rfl rfl (by decide) (by decide) hk1 hFc hP1 hD1
    generalize H1 = H at hP hS ⊢
    have hP : va_P (dC, dI) kls (wM h cI cZ xt (nI nF) (nI nC) xg aP (fun c => nI (cf c)) (fun c => nI (ct c)) aK bF bL bB bA bY bR oT oO oR bS) H := hP
    have hD : va_D A (wM h cI cZ xt (nI nF) (nI nC) xg aP (fun c => nI (cf c)) (fun c => nI (ct c)) aK bF bL bB bA bY bR oT oO oR bS) := hD
    rcases hw with ⟨hr9, j1, hj1, hfj⟩ | ⟨hr9, hno_g⟩
    · subst hr9
      subst hfj
      refine lv_if_ne (tgt := 20) hx hb d_M_graphs_13 (by decide) (fun _ => ?_) (fun c9 => absurd c9 (by decide +kernel))
      refine lv_iconst (v := nI 0) hx hb d_M_graphs_20 (by decide +kernel) ?_
      refine lv_istore_n (lv' := [(3, .int (nI 0)), (0, .ref (h 0)), (1, .int (nI i1)), (2, .int (nI j1))]) hx hb d_M_graphs_21 rfl hl (by decide) rfl (fun ls hl => ?_)
      refine lv_aload_n hx hb d_M_graphs_22 rfl (lv_at hl 1 rfl) ?_
      refine lv_iconst (v := nI 0) hx hb d_M_graphs_23 (by decide +kernel) ?_
      refine lv_iload_n hx hb d_M_graphs_24 rfl (lv_at hl 0 rfl) ?_
      have hFc := va_free (wc := wM h cI cZ xt (nI nF) (nI nC) xg aP (fun c => nI (cf c)) (fun c => nI (ct c)) aK bF bL bB bA bY bR oT oO oR bS) hD hS hA [0, 1, 2, 3, 4, 5, 6, 7, 8, 9, 10, 11, 12, 13, 14] rfl
      refine va_calli (va_runV (As := [.int (nI 0), .int (nI 0)]) (rest := []) ⟨hx, hb, hml, hown, hk⟩ (m_refused l dC dI cI cZ h H.size xt (nI nF) xg aP aK bF bL bB bA bY bR oT oO oR bS nC K cf ct (hC) (hK8) (fun c hc => ⟨by have := hS0 c hc; omega, by have := hS0 c hc; omega⟩)) (cwV 2 hk g_M_refused rfl rfl rfl (by decide +kernel) ⟨Nat.le_of_ble_eq_true rfl, Nat.le_of_ble_eq_true rfl⟩) ⟨fun a U g mk q => by obtain ⟨q0, q1, qP, qK, qD⟩ := q; exact ⟨q0, q1, qP, va_K.moved (u := U) (U := U.calling g mk a) (Vm.Alike.refl U.vm) qK, qD⟩, va_recv hK hP (ci := 0) (q0 := 0) rfl rfl, fun U hU hW => ⟨rfl, by rw [hU], by rw [hU]; exact hP, va_K.moved hW.alike hK, hD.weaken (fun _ _ _ _ => trivial)⟩⟩ rfl rfl hl.1 rfl (lv_room (Nat.le_of_ble_eq_true rfl)) d_M_graphs_25 ⟨Nat.le_of_ble_eq_true rfl, Nat.le_of_ble_eq_true rfl⟩) hS (fun q _ h => hFc q h) hFc (fun r3 u9 t H1 locs ht hvm hw hB hz1 hk1 hS => ?_)
      obtain ⟨xt9, xg9, bF9, bL9, bB9, bA9, bY9⟩ := u9
      obtain ⟨hP1, hK1, hD1⟩ := hB
      rw [ht] at hP1
      try dsimp only at hw
      obtain ⟨hP, hD⟩ := va_join (wr := []) (w1 := wM h cI cZ xt9 (nI nF) (nI nC) xg9 aP (fun c => nI (cf c)) (fun c => nI (ct c)) aK bF9 bL9 bB9 bA9 bY9 bR oT oO oR bS) hP hD [0, 1, 2, 3, 4, 5, 6, 7, 8, 9, 10, 11, 12, 13, 14] [] rfl rfl (by decide) (by decide) hk1 hFc hP1 hD1
      generalize H1 = H at hP hS ⊢
      have hP : va_P (dC, dI) kls (wM h cI cZ xt9 (nI nF) (nI nC) xg9 aP (fun c => nI (cf c)) (fun c => nI (ct c)) aK bF9 bL9 bB9 bA9 bY9 bR oT oO oR bS) H := hP
      have hD : va_D A (wM h cI cZ xt9 (nI nF) (nI nC) xg9 aP (fun c => nI (cf c)) (fun c => nI (ct c)) aK bF9 bL9 bB9 bA9 bY9 bR oT oO oR bS) := hD
      rcases hw with ⟨hr9, hu9, hle, hg9, hE9⟩ | ⟨hr9, hu9, hgt⟩
      · subst hr9
        subst hu9
        subst hg9
        have hsm : smE (gA nC cf ct aK rj K) := sm_of (fun c hc => ⟨by have := hS0 c hc; omega, by have := hS0 c hc; omega⟩) (bsG_ok nC cf ct aK rj (fun _ => true) K)
        refine lv_if_eq (tgt := 54) hx hb d_M_graphs_28 (by decide) (fun _ => ?_) (fun c9 => absurd c9 (by decide +kernel))
        refine lv_aload_n hx hb d_M_graphs_54 rfl (lv_at hl 1 rfl) ?_
        refine lv_iload_n hx hb d_M_graphs_55 rfl (lv_at hl 2 rfl) ?_
        refine lv_iload_n hx hb d_M_graphs_56 rfl (lv_at hl 3 rfl) ?_
        have hFc := va_free (wc := wM h cI cZ (nI 0) (nI nF) (nI nC) (nI ((gA nC cf ct aK rj K).length)) aP (fun c => nI (cf c)) (fun c => nI (ct c)) aK bF9 bL9 bB9 bA9 bY9 bR oT oO oR bS) hD hS hA [0, 1, 2, 3, 4, 5, 6, 7, 8, 9, 10, 11, 12, 13, 14] rfl
        refine va_calli (va_runV (As := [.int (nI i1), .int (nI j1)]) (rest := []) ⟨hx, hb, hml, hown, hk⟩ (m_between l dC dI cI cZ h H.size (nI 0) (nI nF) (nI nC) aP (fun c => nI (cf c)) (fun c => nI (ct c)) aK bF9 bL9 bB9 bA9 bY9 bR oT oO oR bS (gA nC cf ct aK rj K) i1 j1 (by omega) (hE9) (hsm) (by omega) (by omega)) (cwV 2 hk g_M_between rfl rfl rfl (by decide +kernel) ⟨Nat.le_of_ble_eq_true rfl, Nat.le_of_ble_eq_true rfl⟩) ⟨fun a U g mk q => by obtain ⟨q0, q1, qP, qK, qD⟩ := q; exact ⟨q0, q1, qP, va_K.moved (u := U) (U := U.calling g mk a) (Vm.Alike.refl U.vm) qK, qD⟩, va_recv hK hP (ci := 0) (q0 := 0) rfl rfl, fun U hU hW => ⟨rfl, by rw [hU], by rw [hU]; exact hP, va_K.moved hW.alike hK, hD.weaken (fun _ _ _ _ => trivial)⟩⟩ rfl rfl hl.1 rfl (lv_room (Nat.le_of_ble_eq_true rfl)) d_M_graphs_57 ⟨Nat.le_of_ble_eq_true rfl, Nat.le_of_ble_eq_true rfl⟩) hS (fun q _ h => hFc q h) hFc (fun r4 u9 t H1 locs ht hvm hw hB hz1 hk1 hS => ?_)
        obtain ⟨hP1, hK1, hD1⟩ := hB
        rw [ht] at hP1
        try dsimp only at hw
        obtain ⟨hP, hD⟩ := va_join (wr := []) (w1 := wM h cI cZ (nI 0) (nI nF) (nI nC) (nI ((gA nC cf ct aK rj K).length)) aP (fun c => nI (cf c)) (fun c => nI (ct c)) aK bF9 bL9 bB9 bA9 bY9 bR oT oO oR bS) hP hD [0, 1, 2, 3, 4, 5, 6, 7, 8, 9, 10, 11, 12, 13, 14] [] rfl rfl (by decide) (by decide) hk1 hFc hP1 hD1
        generalize H1 = H at hP hS ⊢
        have hP : va_P (dC, dI) kls (wM h cI cZ (nI 0) (nI nF) (nI nC) (nI ((gA nC cf ct aK rj K).length)) aP (fun c => nI (cf c)) (fun c => nI (ct c)) aK bF9 bL9 bB9 bA9 bY9 bR oT oO oR bS) H := hP
        have hD : va_D A (wM h cI cZ (nI 0) (nI nF) (nI nC) (nI ((gA nC cf ct aK rj K).length)) aP (fun c => nI (cf c)) (fun c => nI (ct c)) aK bF9 bL9 bB9 bA9 bY9 bR oT oO oR bS) := hD
        subst hw
        exact W.iret (v := nI ((gA nC cf ct aK rj K).countP (qFG i1 j1))) hx hb hr (fun t ht hW => ⟨⟨nI ((gA nC cf ct aK rj K).countP (qFG i1 j1)), (nI 0, nI (gA nC cf ct aK rj K).length, bF9, bL9, bB9, bA9, bY9), rfl, Or.inr ⟨i1, j1, hi1, hj1, rfl, rfl, Or.inr ⟨hle, rfl, rfl⟩⟩, by rw [ht]; exact hP, va_K.moved hW.alike hK, hD⟩, hS.F ht⟩) hS.2.2 d_M_graphs_60
      · subst hr9
        subst hu9
        refine lv_if_eq (tgt := 54) hx hb d_M_graphs_28 (by decide) (fun c9 => absurd c9 (by decide +kernel)) (fun _ => ?_)
        refine lv_aload_n hx hb d_M_graphs_31 rfl (lv_at hl 1 rfl) ?_
        refine va_get (D := (dC, dI)) (ci := 0) (v := .int (nI 2)) (C := R_M) (T := F_M) (N := 18) hx hb hk k_M_f hown hK hP 0 rfl rfl 0 (by decide) (hk _ k_M_8) (fun _ h9 => h9) rfl d_M_graphs_32 ?_
        refine lv_iconst (v := nI 2) hx hb d_M_graphs_35 (by decide +kernel) ?_
        refine lv_icmp_ne (tgt := 44) hx hb d_M_graphs_36 (by decide) (fun c9 => absurd c9 (by decide +kernel)) (fun _ => ?_)
        refine lv_aload_n hx hb d_M_graphs_39 rfl (lv_at hl 1 rfl) ?_
        refine lv_iconst (v := nI 1) hx hb d_M_graphs_40 (by decide +kernel) ?_
        refine va_put (D := (dC, dI)) (ci := 0) (v := .int (nI 1)) (ty := .int) (C := R_M) (T := F_M) (N := 18) hx hb hk k_M_f t_M t_M_ok n_M hown hK hP hD hS 0 rfl rfl 0 (by decide) (hk _ k_M_8) (fun _ h9 => h9) rfl (by decide +kernel) rfl rfl (Nat.le_of_ble_eq_true rfl) d_M_graphs_41 (fun H locs hP hD hS => ?_)
        have hP : va_P (dC, dI) kls (wM h cI cZ (nI 1) (nI nF) (nI nC) xg9 aP (fun c => nI (cf c)) (fun c => nI (ct c)) aK bF9 bL9 bB9 bA9 bY9 bR oT oO oR bS) H := hP
        have hD : va_D A (wM h cI cZ (nI 1) (nI nF) (nI nC) xg9 aP (fun c => nI (cf c)) (fun c => nI (ct c)) aK bF9 bL9 bB9 bA9 bY9 bR oT oO oR bS) := hD
        refine lv_iload_n hx hb d_M_graphs_44 rfl (lv_at hl 0 rfl) ?_
        refine lv_if_eq (tgt := 52) hx hb d_M_graphs_45 (by decide) (fun _ => ?_) (fun c9 => absurd c9 (by decide +kernel))
        refine lv_iconst (v := nI 0) hx hb d_M_graphs_52 (by decide +kernel) ?_
        exact W.iret (v := nI 0) hx hb hr (fun t ht hW => ⟨⟨nI 0, (nI 1, xg9, bF9, bL9, bB9, bA9, bY9), rfl, Or.inr ⟨i1, j1, hi1, hj1, rfl, rfl, Or.inl ⟨hgt, rfl⟩⟩, by rw [ht]; exact hP, va_K.moved hW.alike hK, hD⟩, hS.F ht⟩) hS.2.2 d_M_graphs_53
    · subst hr9
      refine lv_if_ne (tgt := 20) hx hb d_M_graphs_13 (by decide) (fun c9 => absurd c9 (by decide +kernel)) (fun _ => ?_)
      refine lv_iconst (v := nI 1) hx hb d_M_graphs_16 (by decide +kernel) ?_
      refine lv_goto (tgt := 21) hx hb d_M_graphs_17 (by decide) ?_
      refine lv_istore_n (lv' := [(3, .int (nI 1)), (0, .ref (h 0)), (1, .int (nI i1)), (2, .int g)]) hx hb d_M_graphs_21 rfl hl (by decide) rfl (fun ls hl => ?_)
      refine lv_aload_n hx hb d_M_graphs_22 rfl (lv_at hl 1 rfl) ?_
      refine lv_iconst (v := nI 0) hx hb d_M_graphs_23 (by decide +kernel) ?_
      refine lv_iload_n hx hb d_M_graphs_24 rfl (lv_at hl 0 rfl) ?_
      have hFc := va_free (wc := wM h cI cZ xt (nI nF) (nI nC) xg aP (fun c => nI (cf c)) (fun c => nI (ct c)) aK bF bL bB bA bY bR oT oO oR bS) hD hS hA [0, 1, 2, 3, 4, 5, 6, 7, 8, 9, 10, 11, 12, 13, 14] rfl
      refine va_calli (va_runV (As := [.int (nI 0), .int (nI 1)]) (rest := []) ⟨hx, hb, hml, hown, hk⟩ (m_refused_n l dC dI cI cZ h H.size xt (nI nF) (nI nC) xg aP (fun c => nI (cf c)) (fun c => nI (ct c)) aK bF bL bB bA bY bR oT oO oR bS  ) (cwV 2 hk g_M_refused rfl rfl rfl (by decide +kernel) ⟨Nat.le_of_ble_eq_true rfl, Nat.le_of_ble_eq_true rfl⟩) ⟨fun a U g mk q => by obtain ⟨q0, q1, qP, qK, qD⟩ := q; exact ⟨q0, q1, qP, va_K.moved (u := U) (U := U.calling g mk a) (Vm.Alike.refl U.vm) qK, qD⟩, va_recv hK hP (ci := 0) (q0 := 0) rfl rfl, fun U hU hW => ⟨rfl, by rw [hU], by rw [hU]; exact hP, va_K.moved hW.alike hK, hD.weaken (fun _ _ _ _ => trivial)⟩⟩ rfl rfl hl.1 rfl (lv_room (Nat.le_of_ble_eq_true rfl)) d_M_graphs_25 ⟨Nat.le_of_ble_eq_true rfl, Nat.le_of_ble_eq_true rfl⟩) hS (fun q _ h => hFc q h) hFc (fun r5 u9 t H1 locs ht hvm hw hB hz1 hk1 hS => ?_)
      obtain ⟨xt9, rfl⟩ : ∃ z, z = u9 := ⟨_, rfl⟩
      obtain ⟨hP1, hK1, hD1⟩ := hB
      rw [ht] at hP1
      try dsimp only at hw
      obtain ⟨hP, hD⟩ := va_join (wr := []) (w1 := wM h cI cZ xt9 (nI nF) (nI nC) xg aP (fun c => nI (cf c)) (fun c => nI (ct c)) aK bF bL bB bA bY bR oT oO oR bS) hP hD [0, 1, 2, 3, 4, 5, 6, 7, 8, 9, 10, 11, 12, 13, 14] [] rfl rfl (by decide) (by decide) hk1 hFc hP1 hD1
      generalize H1 = H at hP hS ⊢
      have hP : va_P (dC, dI) kls (wM h cI cZ xt9 (nI nF) (nI nC) xg aP (fun c => nI (cf c)) (fun c => nI (ct c)) aK bF bL bB bA bY bR oT oO oR bS) H := hP
      have hD : va_D A (wM h cI cZ xt9 (nI nF) (nI nC) xg aP (fun c => nI (cf c)) (fun c => nI (ct c)) aK bF bL bB bA bY bR oT oO oR bS) := hD
      obtain ⟨hr9, hu9⟩ := hw
      subst hr9
      subst hu9
      refine lv_if_eq (tgt := 54) hx hb d_M_graphs_28 (by decide) (fun c9 => absurd c9 (by decide +kernel)) (fun _ => ?_)
      refine lv_aload_n hx hb d_M_graphs_31 rfl (lv_at hl 1 rfl) ?_
      refine va_get (D := (dC, dI)) (ci := 0) (v := .int (nI 0)) (C := R_M) (T := F_M) (N := 18) hx hb hk k_M_f hown hK hP 0 rfl rfl 0 (by decide) (hk _ k_M_8) (fun _ h9 => h9) rfl d_M_graphs_32 ?_
      refine lv_iconst (v := nI 2) hx hb d_M_graphs_35 (by decide +kernel) ?_
      refine lv_icmp_ne (tgt := 44) hx hb d_M_graphs_36 (by decide) (fun _ => ?_) (fun c9 => absurd c9 (by decide +kernel))
      refine lv_iload_n hx hb d_M_graphs_44 rfl (lv_at hl 0 rfl) ?_
      refine lv_if_eq (tgt := 52) hx hb d_M_graphs_45 (by decide) (fun c9 => absurd c9 (by decide +kernel)) (fun _ => ?_)
      refine lv_iconst (v := (-1)) hx hb d_M_graphs_48 (by decide +kernel) ?_
      refine lv_goto (tgt := 53) hx hb d_M_graphs_49 (by decide) ?_
      have hq : ¬ ((∃ i, i < nF ∧ nI i1 = nI i) ∧ (∃ j, j < nF ∧ g = nI j)) := by
        rintro ⟨z1, z2⟩
        first
          | exact hno_f z1
          | exact hno_g z2
      exact W.iret (v := (-1)) hx hb hr (fun t ht hW => ⟨⟨(-1), (nI 0, xg, bF, bL, bB, bA, bY), rfl, Or.inl ⟨hq, rfl, rfl⟩, by rw [ht]; exact hP, va_K.moved hW.alike hK, hD⟩, hS.F ht⟩) hS.2.2 d_M_graphs_53
  · subst hr9
    refine lv_if_eq (tgt := 16) hx hb d_M_graphs_5 (by decide) (fun _ => ?_) (fun c9 => absurd c9 (by decide +kernel))
    refine lv_iconst (v := nI 1) hx hb d_M_graphs_16 (by decide +kernel) ?_
    refine lv_goto (tgt := 21) hx hb d_M_graphs_17 (by decide) ?_
    refine lv_istore_n (lv' := [(3, .int (nI 1)), (0, .ref (h 0)), (1, .int f), (2, .int g)]) hx hb d_M_graphs_21 rfl hl (by decide) rfl (fun ls hl => ?_)
    refine lv_aload_n hx hb d_M_graphs_22 rfl (lv_at hl 1 rfl) ?_
    refine lv_iconst (v := nI 0) hx hb d_M_graphs_23 (by decide +kernel) ?_
    refine lv_iload_n hx hb d_M_graphs_24 rfl (lv_at hl 0 rfl) ?_
    have hFc := va_free (wc := wM h cI cZ xt (nI nF) (nI nC) xg aP (fun c => nI (cf c)) (fun c => nI (ct c)) aK bF bL bB bA bY bR oT oO oR bS) hD hS hA [0, 1, 2, 3, 4, 5, 6, 7, 8, 9, 10, 11, 12, 13, 14] rfl
    refine va_calli (va_runV (As := [.int (nI 0), .int (nI 1)]) (rest := []) ⟨hx, hb, hml, hown, hk⟩ (m_refused_n l dC dI cI cZ h H.size xt (nI nF) (nI nC) xg aP (fun c => nI (cf c)) (fun c => nI (ct c)) aK bF bL bB bA bY bR oT oO oR bS  ) (cwV 2 hk g_M_refused rfl rfl rfl (by decide +kernel) ⟨Nat.le_of_ble_eq_true rfl, Nat.le_of_ble_eq_true rfl⟩) ⟨fun a U g mk q => by obtain ⟨q0, q1, qP, qK, qD⟩ := q; exact ⟨q0, q1, qP, va_K.moved (u := U) (U := U.calling g mk a) (Vm.Alike.refl U.vm) qK, qD⟩, va_recv hK hP (ci := 0) (q0 := 0) rfl rfl, fun U hU hW => ⟨rfl, by rw [hU], by rw [hU]; exact hP, va_K.moved hW.alike hK, hD.weaken (fun _ _ _ _ => trivial)⟩⟩ rfl rfl hl.1 rfl (lv_room (Nat.le_of_ble_eq_true rfl)) d_M_graphs_25 ⟨Nat.le_of_ble_eq_true rfl, Nat.le_of_ble_eq_true rfl⟩) hS (fun q _ h => hFc q h) hFc (fun r6 u9 t H1 locs ht hvm hw hB hz1 hk1 hS => ?_)
    obtain ⟨xt9, rfl⟩ : ∃ z, z = u9 := ⟨_, rfl⟩
    obtain ⟨hP1, hK1, hD1⟩ := hB
    rw [ht] at hP1
    try dsimp only at hw
    obtain ⟨hP, hD⟩ := va_join (wr := []) (w1 := wM h cI cZ xt9 (nI nF) (nI nC) xg aP (fun c => nI (cf c)) (fun c => nI (ct c)) aK bF bL bB bA bY bR oT oO oR bS) hP hD [0, 1, 2, 3, 4, 5, 6, 7, 8, 9, 10, 11, 12, 13, 14] [] rfl rfl (by decide) (by decide) hk1 hFc hP1 hD1
    generalize H1 = H at hP hS ⊢
    have hP : va_P (dC, dI) kls (wM h cI cZ xt9 (nI nF) (nI nC) xg aP (fun c => nI (cf c)) (fun c => nI (ct c)) aK bF bL bB bA bY bR oT oO oR bS) H := hP
    have hD : va_D A (wM h cI cZ xt9 (nI nF) (nI nC) xg aP (fun c => nI (cf c)) (fun c => nI (ct c)) aK bF bL bB bA bY bR oT oO oR bS) := hD
    obtain ⟨hr9, hu9⟩ := hw
    subst hr9
    subst hu9
    refine lv_if_eq (tgt := 54) hx hb d_M_graphs_28 (by decide) (fun c9 => absurd c9 (by decide +kernel)) (fun _ => ?_)
    refine lv_aload_n hx hb d_M_graphs_31 rfl (lv_at hl 1 rfl) ?_
    refine va_get (D := (dC, dI)) (ci := 0) (v := .int (nI 0)) (C := R_M) (T := F_M) (N := 18) hx hb hk k_M_f hown hK hP 0 rfl rfl 0 (by decide) (hk _ k_M_8) (fun _ h9 => h9) rfl d_M_graphs_32 ?_
    refine lv_iconst (v := nI 2) hx hb d_M_graphs_35 (by decide +kernel) ?_
    refine lv_icmp_ne (tgt := 44) hx hb d_M_graphs_36 (by decide) (fun _ => ?_) (fun c9 => absurd c9 (by decide +kernel))
    refine lv_iload_n hx hb d_M_graphs_44 rfl (lv_at hl 0 rfl) ?_
    refine lv_if_eq (tgt := 52) hx hb d_M_graphs_45 (by decide) (fun c9 => absurd c9 (by decide +kernel)) (fun _ => ?_)
    refine lv_iconst (v := (-1)) hx hb d_M_graphs_48 (by decide +kernel) ?_
    refine lv_goto (tgt := 53) hx hb d_M_graphs_49 (by decide) ?_
    have hq : ¬ ((∃ i, i < nF ∧ f = nI i) ∧ (∃ j, j < nF ∧ g = nI j)) := by
      rintro ⟨z1, z2⟩
      first
        | exact hno_f z1
        | exact hno_g z2
    exact W.iret (v := (-1)) hx hb hr (fun t ht hW => ⟨⟨(-1), (nI 0, xg, bF, bL, bB, bA, bY), rfl, Or.inl ⟨hq, rfl, rfl⟩, by rw [ht]; exact hP, va_K.moved hW.alike hK, hD⟩, hS.F ht⟩) hS.2.2 d_M_graphs_53
set_option maxHeartbeats 4000000 in
set_option maxRecDepth 100000 in
theorem m_falls (l : Launch) (dC : Nat → ClassId) (dI : Nat → Nat → Nat) (cI cZ : ClassId) (h : Nat → Nat) (sz : Nat) (xt xg : Int32) (aP aK bF bL bB bA bY bR oT oO oR bS : Nat → Int32) (nF nC K : Nat) (cf ct : Nat → Nat) (f : Int32) (hF : nF ≤ 10) (hC : nC ≤ 20) (hK8 : 801 ≤ K) (hS0 : ∀ c, c < nC → cf c < nF ∧ ct c < nF) : Met l y_M_falls w_M_falls ({ frames := 4, cells := 0, slots := 0, locals := 96 }) (va_Pc [.ref (h 0), .int f] (fun U => U.heap.size = sz ∧ va_P (dC, dI) kls (wM h cI cZ xt (nI nF) (nI nC) xg aP (fun c => nI (cf c)) (fun c => nI (ct c)) aK bF bL bB bA bY bR oT oO oR bS) U.heap ∧ va_K (dC, dI) kls (tyM cI cZ) U ∧ va_D (fun _ => True) (wM h cI cZ xt (nI nF) (nI nC) xg aP (fun c => nI (cf c)) (fun c => nI (ct c)) aK bF bL bB bA bY bR oT oO oR bS))) (va_Qi (fun (r : Int32) (u : Int32 × Int32 × (Nat → Int32) × (Nat → Int32) × (Nat → Int32) × (Nat → Int32) × (Nat → Int32)) => ((¬ ∃ i, i < nF ∧ f = nI i) ∧ u.1 = nI 1) ∨ ∃ i, i < nF ∧ f = nI i ∧ ((800 < (gA nC cf ct aK rj K).length ∧ u.1 = nI 2) ∨ ((gA nC cf ct aK rj K).length ≤ 800 ∧ u.1 = nI 0 ∧ ((r = nI 1 ∧ ∀ en ∈ gA nC cf ct aK rj K, ¬ (en.1 = i ∧ en.2.1 = i ∧ badX en.2.2.1)) ∨ (r = nI 0 ∧ ∃ en ∈ gA nC cf ct aK rj K, en.1 = i ∧ en.2.1 = i ∧ badX en.2.2.1))))) (fun (u : Int32 × Int32 × (Nat → Int32) × (Nat → Int32) × (Nat → Int32) × (Nat → Int32) × (Nat → Int32)) (t : State) => va_P (dC, dI) kls (wM h cI cZ u.1 (nI nF) (nI nC) u.2.1 aP (fun c => nI (cf c)) (fun c => nI (ct c)) aK u.2.2.1 u.2.2.2.1 u.2.2.2.2.1 u.2.2.2.2.2.1 u.2.2.2.2.2.2 bR oT oO oR bS) t.heap ∧ va_K (dC, dI) kls (tyM cI cZ) t ∧ va_D (va_A (wM h cI cZ xt (nI nF) (nI nC) xg aP (fun c => nI (cf c)) (fun c => nI (ct c)) aK bF bL bB bA bY bR oT oO oR bS) sz) (wM h cI cZ u.1 (nI nF) (nI nC) u.2.1 aP (fun c => nI (cf c)) (fun c => nI (ct c)) aK u.2.2.1 u.2.2.2.1 u.2.2.2.2.1 u.2.2.2.2.2.1 u.2.2.2.2.2.2 bR oT oO oR bS)) (va_A (wM h cI cZ xt (nI nF) (nI nC) xg aP (fun c => nI (cf c)) (fun c => nI (ct c)) aK bF bL bB bA bY bR oT oO oR bS) sz)) 0 0 (va_A (wM h cI cZ xt (nI nF) (nI nC) xg aP (fun c => nI (cf c)) (fun c => nI (ct c)) aK bF bL bB bA bY bR oT oO oR bS) sz) := by
  refine Met.ofW (cc := c_M_falls) (maxL := 2) (ret := (some .boolean)) (by decide) rfl ?_
  intro p e s m args below meth c s₁ B hml hv
  obtain ⟨rfl, hsz, hP, hK, hD0⟩ := hv
  have hx := B.exec
  have hb := B.bytes
  have hr := B.returns
  have hts := atoms_spec (ws := w_M_falls) B.pre
  have hk : ∀ w ∈ wMw, w.before _ s = true := fun w h => hts w (List.mem_cons_of_mem _ h)
  have hown : s.vm.findClass R_M = some m.cls := findClass_of_methodNamed B.named
  have hlocks := B.notSynchronized
  subst hsz
  have hD := hD0.self (sz := s.heap.size)
  generalize hAe : va_A (wM h cI cZ xt (nI nF) (nI nC) xg aP (fun c => nI (cf c)) (fun c => nI (ct c)) aK bF bL bB bA bY bR oT oO oR bS) s.heap.size = A at hD ⊢
  have hA : ∀ q : Nat, s.heap.size ≤ q → A q := fun q h => by rw [← hAe]; exact Or.inr h
  have hS : va_S A s.heap s.heap [] := va_S.rf
  have hl := lv_entry ([.ref (h 0), .int f]) (n := 2) (Nat.le_of_ble_eq_true rfl)
  rw [lg_entry_eq]
  generalize (lg_sl ([.ref (h 0), .int f]) ++ List.replicate (2 - (lg_sl ([.ref (h 0), .int f])).length) Slot.unset).toArray = ls at hl ⊢
  have hl : lv_has ls 2 [(0, .ref (h 0)), (1, .int f)] := hl
  refine lv_aload_n hx hb d_M_falls_0 rfl (lv_at hl 0 rfl) ?_
  refine lv_aload_n hx hb d_M_falls_1 rfl (lv_at hl 0 rfl) ?_
  refine lv_iload_n hx hb d_M_falls_2 rfl (lv_at hl 1 rfl) ?_
  have hFc := va_free (wc := wM h cI cZ xt (nI nF) (nI nC) xg aP (fun c => nI (cf c)) (fun c => nI (ct c)) aK bF bL bB bA bY bR oT oO oR bS) hD hS hA [0, 1, 2, 3, 4, 5, 6, 7, 8, 9, 10, 11, 12, 13, 14] rfl
  refine va_calli (va_runV (As := [.int f]) (rest := [.ref (h 0)]) ⟨hx, hb, hml, hown, hk⟩ (m_isFunction l dC dI cI cZ h s.heap.size xt (nI nC) xg aP (fun c => nI (cf c)) (fun c => nI (ct c)) aK bF bL bB bA bY bR oT oO oR bS nF f (by omega)) (cwV 1 hk g_M_isFunction rfl rfl rfl (by decide +kernel) ⟨Nat.le_of_ble_eq_true rfl, Nat.le_of_ble_eq_true rfl⟩) ⟨fun a U g mk q => by obtain ⟨q0, q1, qP, qK, qD⟩ := q; exact ⟨q0, q1, qP, va_K.moved (u := U) (U := U.calling g mk a) (Vm.Alike.refl U.vm) qK, qD⟩, va_recv hK hP (ci := 0) (q0 := 0) rfl rfl, fun U hU hW => ⟨rfl, by rw [hU], by rw [hU]; exact hP, va_K.moved hW.alike hK, hD.weaken (fun _ _ _ _ => trivial)⟩⟩ rfl rfl hl.1 rfl (lv_room (Nat.le_of_ble_eq_true rfl)) d_M_falls_3 ⟨Nat.le_of_ble_eq_true rfl, Nat.le_of_ble_eq_true rfl⟩) hS (fun q _ h => hFc q h) hFc (fun r1 u9 t H1 locs ht hvm hw hB hz1 hk1 hS => ?_)
  obtain ⟨hP1, hK1, hD1⟩ := hB
  rw [ht] at hP1
  try dsimp only at hw
  obtain ⟨hP, hD⟩ := va_join (wr := []) (w1 := wM h cI cZ xt (nI nF) (nI nC) xg aP (fun c => nI (cf c)) (fun c => nI (ct c)) aK bF bL bB bA bY bR oT oO oR bS) hP hD [0, 1, 2, 3, 4, 5, 6, 7, 8, 9, 10, 11, 12, 13, 14] [] rfl rfl (by decide) (by decide) hk1 hFc hP1 hD1
  generalize H1 = H at hP hS ⊢
  have hP : va_P (dC, dI) kls (wM h cI cZ xt (nI nF) (nI nC) xg aP (fun c => nI (cf c)) (fun c => nI (ct c)) aK bF bL bB bA bY bR oT oO oR bS) H := hP
  have hD : va_D A (wM h cI cZ xt (nI nF) (nI nC) xg aP (fun c => nI (cf c)) (fun c => nI (ct c)) aK bF bL bB bA bY bR oT oO oR bS) := hD
  rcases hw with ⟨hr9, i1, hi1, hfj⟩ | ⟨hr9, hno_f⟩
  · subst hr9
    subst hfj
    refine lv_if_ne (tgt := 13) hx hb d_M_falls_6 (by decide) (fun _ => ?_) (fun c9 => absurd c9 (by decide +kernel))
    refine lv_iconst (v := nI 0) hx hb d_M_falls_13 (by decide +kernel) ?_
    refine lv_iconst (v := nI 0) hx hb d_M_falls_14 (by decide +kernel) ?_
    have hFc := va_free (wc := wM h cI cZ xt (nI nF) (nI nC) xg aP (fun c => nI (cf c)) (fun c => nI (ct c)) aK bF bL bB bA bY bR oT oO oR bS) hD hS hA [0, 1, 2, 3, 4, 5, 6, 7, 8, 9, 10, 11, 12, 13, 14] rfl
    refine va_calli (va_runV (As := [.int (nI 0), .int (nI 0)]) (rest := []) ⟨hx, hb, hml, hown, hk⟩ (m_refused l dC dI cI cZ h H.size xt (nI nF) xg aP aK bF bL bB bA bY bR oT oO oR bS nC K cf ct (hC) (hK8) (fun c hc => ⟨by have := hS0 c hc; omega, by have := hS0 c hc; omega⟩)) (cwV 2 hk g_M_refused rfl rfl rfl (by decide +kernel) ⟨Nat.le_of_ble_eq_true rfl, Nat.le_of_ble_eq_true rfl⟩) ⟨fun a U g mk q => by obtain ⟨q0, q1, qP, qK, qD⟩ := q; exact ⟨q0, q1, qP, va_K.moved (u := U) (U := U.calling g mk a) (Vm.Alike.refl U.vm) qK, qD⟩, va_recv hK hP (ci := 0) (q0 := 0) rfl rfl, fun U hU hW => ⟨rfl, by rw [hU], by rw [hU]; exact hP, va_K.moved hW.alike hK, hD.weaken (fun _ _ _ _ => trivial)⟩⟩ rfl rfl hl.1 rfl (lv_room (Nat.le_of_ble_eq_true rfl)) d_M_falls_15 ⟨Nat.le_of_ble_eq_true rfl, Nat.le_of_ble_eq_true rfl⟩) hS (fun q _ h => hFc q h) hFc (fun r2 u9 t H1 locs ht hvm hw hB hz1 hk1 hS => ?_)
    obtain ⟨xt9, xg9, bF9, bL9, bB9, bA9, bY9⟩ := u9
    obtain ⟨hP1, hK1, hD1⟩ := hB
    rw [ht] at hP1
    try dsimp only at hw
    obtain ⟨hP, hD⟩ := va_join (wr := []) (w1 := wM h cI cZ xt9 (nI nF) (nI nC) xg9 aP (fun c => nI (cf c)) (fun c => nI (ct c)) aK bF9 bL9 bB9 bA9 bY9 bR oT oO oR bS) hP hD [0, 1, 2, 3, 4, 5, 6, 7, 8, 9, 10, 11, 12, 13, 14] [] rfl rfl (by decide) (by decide) hk1 hFc hP1 hD1
    generalize H1 = H at hP hS ⊢
    have hP : va_P (dC, dI) kls (wM h cI cZ xt9 (nI nF) (nI nC) xg9 aP (fun c => nI (cf c)) (fun c => nI (ct c)) aK bF9 bL9 bB9 bA9 bY9 bR oT oO oR bS) H := hP
    have hD : va_D A (wM h cI cZ xt9 (nI nF) (nI nC) xg9 aP (fun c => nI (cf c)) (fun c => nI (ct c)) aK bF9 bL9 bB9 bA9 bY9 bR oT oO oR bS) := hD
    rcases hw with ⟨hr9, hu9, hle, hg9, hE9⟩ | ⟨hr9, hu9, hgt⟩
    · subst hr9
      subst hu9
      subst hg9
      have hsm : smE (gA nC cf ct aK rj K) := sm_of (fun c hc => ⟨by have := hS0 c hc; omega, by have := hS0 c hc; omega⟩) (bsG_ok nC cf ct aK rj (fun _ => true) K)
      refine lv_if_ne (tgt := 33) hx hb d_M_falls_18 (by decide) (fun c9 => absurd c9 (by decide +kernel)) (fun _ => ?_)
      refine lv_aload_n hx hb d_M_falls_21 rfl (lv_at hl 0 rfl) ?_
      refine lv_iload_n hx hb d_M_falls_22 rfl (lv_at hl 1 rfl) ?_
      have hFc := va_free (wc := wM h cI cZ (nI 0) (nI nF) (nI nC) (nI ((gA nC cf ct aK rj K).length)) aP (fun c => nI (cf c)) (fun c => nI (ct c)) aK bF9 bL9 bB9 bA9 bY9 bR oT oO oR bS) hD hS hA [0, 1, 2, 3, 4, 5, 6, 7, 8, 9, 10, 11, 12, 13, 14] rfl
      refine va_calli (va_runV (As := [.int (nI i1)]) (rest := []) ⟨hx, hb, hml, hown, hk⟩ (m_fallsAt l dC dI cI cZ h H.size (nI 0) (nI nF) (nI nC) aP (fun c => nI (cf c)) (fun c => nI (ct c)) aK bF9 bL9 bB9 bA9 bY9 bR oT oO oR bS (gA nC cf ct aK rj K) i1 (by omega) (hE9) (hsm) (by omega)) (cwV 1 hk g_M_fallsAt rfl rfl rfl (by decide +kernel) ⟨Nat.le_of_ble_eq_true rfl, Nat.le_of_ble_eq_true rfl⟩) ⟨fun a U g mk q => by obtain ⟨q0, q1, qP, qK, qD⟩ := q; exact ⟨q0, q1, qP, va_K.moved (u := U) (U := U.calling g mk a) (Vm.Alike.refl U.vm) qK, qD⟩, va_recv hK hP (ci := 0) (q0 := 0) rfl rfl, fun U hU hW => ⟨rfl, by rw [hU], by rw [hU]; exact hP, va_K.moved hW.alike hK, hD.weaken (fun _ _ _ _ => trivial)⟩⟩ rfl rfl hl.1 rfl (lv_room (Nat.le_of_ble_eq_true rfl)) d_M_falls_23 ⟨Nat.le_of_ble_eq_true rfl, Nat.le_of_ble_eq_true rfl⟩) hS (fun q _ h => hFc q h) hFc (fun r3 u9 t H1 locs ht hvm hw hB hz1 hk1 hS => ?_)
      obtain ⟨hP1, hK1, hD1⟩ := hB
      rw [ht] at hP1
      try dsimp only at hw
      obtain ⟨hP, hD⟩ := va_join (wr := []) (w1 := wM h cI cZ (nI 0) (nI nF) (nI nC) (nI ((gA nC cf ct aK rj K).length)) aP (fun c => nI (cf c)) (fun c => nI (ct c)) aK bF9 bL9 bB9 bA9 bY9 bR oT oO oR bS) hP hD [0, 1, 2, 3, 4, 5, 6, 7, 8, 9, 10, 11, 12, 13, 14] [] rfl rfl (by decide) (by decide) hk1 hFc hP1 hD1
      generalize H1 = H at hP hS ⊢
      have hP : va_P (dC, dI) kls (wM h cI cZ (nI 0) (nI nF) (nI nC) (nI ((gA nC cf ct aK rj K).length)) aP (fun c => nI (cf c)) (fun c => nI (ct c)) aK bF9 bL9 bB9 bA9 bY9 bR oT oO oR bS) H := hP
      have hD : va_D A (wM h cI cZ (nI 0) (nI nF) (nI nC) (nI ((gA nC cf ct aK rj K).length)) aP (fun c => nI (cf c)) (fun c => nI (ct c)) aK bF9 bL9 bB9 bA9 bY9 bR oT oO oR bS) := hD
      rcases hw with ⟨hr9, hfall⟩ | ⟨hr9, hfall⟩
      · subst hr9
        refine lv_if_eq (tgt := 33) hx hb d_M_falls_26 (by decide) (fun c9 => absurd c9 (by decide +kernel)) (fun _ => ?_)
        refine lv_iconst (v := nI 1) hx hb d_M_falls_29 (by decide +kernel) ?_
        refine lv_goto (tgt := 34) hx hb d_M_falls_30 (by decide) ?_
        exact W.zret (v := nI 1) (ty := .boolean) hx hb hr rfl (fun t ht hW => ⟨⟨nI 1, (nI 0, nI (gA nC cf ct aK rj K).length, bF9, bL9, bB9, bA9, bY9), rfl, Or.inr ⟨i1, hi1, rfl, Or.inr ⟨hle, rfl, Or.inl ⟨rfl, hfall⟩⟩⟩, by rw [ht]; exact hP, va_K.moved hW.alike hK, hD⟩, hS.F ht⟩) hS.2.2 d_M_falls_34
      · subst hr9
        refine lv_if_eq (tgt := 33) hx hb d_M_falls_26 (by decide) (fun _ => ?_) (fun c9 => absurd c9 (by decide +kernel))
        refine lv_iconst (v := nI 0) hx hb d_M_falls_33 (by decide +kernel) ?_
        exact W.zret (v := nI 0) (ty := .boolean) hx hb hr rfl (fun t ht hW => ⟨⟨nI 0, (nI 0, nI (gA nC cf ct aK rj K).length, bF9, bL9, bB9, bA9, bY9), rfl, Or.inr ⟨i1, hi1, rfl, Or.inr ⟨hle, rfl, Or.inr ⟨rfl, hfall⟩⟩⟩, by rw [ht]; exact hP, va_K.moved hW.alike hK, hD⟩, hS.F ht⟩) hS.2.2 d_M_falls_34
    · subst hr9
      subst hu9
      refine lv_if_ne (tgt := 33) hx hb d_M_falls_18 (by decide) (fun _ => ?_) (fun c9 => absurd c9 (by decide +kernel))
      refine lv_iconst (v := nI 0) hx hb d_M_falls_33 (by decide +kernel) ?_
      exact W.zret (v := nI 0) (ty := .boolean) hx hb hr rfl (fun t ht hW => ⟨⟨nI 0, (nI 2, xg9, bF9, bL9, bB9, bA9, bY9), rfl, Or.inr ⟨i1, hi1, rfl, Or.inl ⟨hgt, rfl⟩⟩, by rw [ht]; exact hP, va_K.moved hW.alike hK, hD⟩, hS.F ht⟩) hS.2.2 d_M_falls_34
  · subst hr9
    refine lv_if_ne (tgt := 13) hx hb d_M_falls_6 (by decide) (fun c9 => absurd c9 (by decide +kernel)) (fun _ => ?_)
    refine lv_iconst (v := nI 1) hx hb d_M_falls_9 (by decide +kernel) ?_
    refine lv_goto (tgt := 14) hx hb d_M_falls_10 (by decide) ?_
    refine lv_iconst (v := nI 0) hx hb d_M_falls_14 (by decide +kernel) ?_
    have hFc := va_free (wc := wM h cI cZ xt (nI nF) (nI nC) xg aP (fun c => nI (cf c)) (fun c => nI (ct c)) aK bF bL bB bA bY bR oT oO oR bS) hD hS hA [0, 1, 2, 3, 4, 5, 6, 7, 8, 9, 10, 11, 12, 13, 14] rfl
    refine va_calli (va_runV (As := [.int (nI 1), .int (nI 0)]) (rest := []) ⟨hx, hb, hml, hown, hk⟩ (m_refused_o l dC dI cI cZ h H.size xt (nI nF) (nI nC) xg aP (fun c => nI (cf c)) (fun c => nI (ct c)) aK bF bL bB bA bY bR oT oO oR bS  ) (cwV 2 hk g_M_refused rfl rfl rfl (by decide +kernel) ⟨Nat.le_of_ble_eq_true rfl, Nat.le_of_ble_eq_true rfl⟩) ⟨fun a U g mk q => by obtain ⟨q0, q1, qP, qK, qD⟩ := q; exact ⟨q0, q1, qP, va_K.moved (u := U) (U := U.calling g mk a) (Vm.Alike.refl U.vm) qK, qD⟩, va_recv hK hP (ci := 0) (q0 := 0) rfl rfl, fun U hU hW => ⟨rfl, by rw [hU], by rw [hU]; exact hP, va_K.moved hW.alike hK, hD.weaken (fun _ _ _ _ => trivial)⟩⟩ rfl rfl hl.1 rfl (lv_room (Nat.le_of_ble_eq_true rfl)) d_M_falls_15 ⟨Nat.le_of_ble_eq_true rfl, Nat.le_of_ble_eq_true rfl⟩) hS (fun q _ h => hFc q h) hFc (fun r4 u9 t H1 locs ht hvm hw hB hz1 hk1 hS => ?_)
    obtain ⟨xt9, rfl⟩ : ∃ z, z = u9 := ⟨_, rfl⟩
    obtain ⟨hP1, hK1, hD1⟩ := hB
    rw [ht] at hP1
    try dsimp only at hw
    obtain ⟨hP, hD⟩ := va_join (wr := []) (w1 := wM h cI cZ xt9 (nI nF) (nI nC) xg aP (fun c => nI (cf c)) (fun c => nI (ct c)) aK bF bL bB bA bY bR oT oO oR bS) hP hD [0, 1, 2, 3, 4, 5, 6, 7, 8, 9, 10, 11, 12, 13, 14] [] rfl rfl (by decide) (by decide) hk1 hFc hP1 hD1
    generalize H1 = H at hP hS ⊢
    have hP : va_P (dC, dI) kls (wM h cI cZ xt9 (nI nF) (nI nC) xg aP (fun c => nI (cf c)) (fun c => nI (ct c)) aK bF bL bB bA bY bR oT oO oR bS) H := hP
    have hD : va_D A (wM h cI cZ xt9 (nI nF) (nI nC) xg aP (fun c => nI (cf c)) (fun c => nI (ct c)) aK bF bL bB bA bY bR oT oO oR bS) := hD
    obtain ⟨hr9, hu9⟩ := hw
    subst hr9
    subst hu9
    refine lv_if_ne (tgt := 33) hx hb d_M_falls_18 (by decide) (fun _ => ?_) (fun c9 => absurd c9 (by decide +kernel))
    refine lv_iconst (v := nI 0) hx hb d_M_falls_33 (by decide +kernel) ?_
    exact W.zret (v := nI 0) (ty := .boolean) hx hb hr rfl (fun t ht hW => ⟨⟨nI 0, (nI 1, xg, bF, bL, bB, bA, bY), rfl, Or.inl ⟨hno_f, rfl⟩, by rw [ht]; exact hP, va_K.moved hW.alike hK, hD⟩, hS.F ht⟩) hS.2.2 d_M_falls_34
set_option maxHeartbeats 4000000 in
set_option maxRecDepth 100000 in
theorem m_reachedFrom (l : Launch) (dC : Nat → ClassId) (dI : Nat → Nat → Nat) (cI cZ : ClassId) (h : Nat → Nat) (sz : Nat) (xt xg : Int32) (aP aK bF bL bB bA bY bR oT oO oR bS : Nat → Int32) (nF nC f : Nat) (cf ct : Nat → Nat) (hF : nF ≤ 10) (hC : nC ≤ 20) (hS0 : ∀ c, c < nC → cf c < nF ∧ ct c < nF) (hf : f < nF) : Met l y_M_reachedFrom w_M_reachedFrom ({ frames := 0, cells := 0, slots := 0, locals := 0 }) (va_Pc [.ref (h 0), .int (nI f)] (fun U => U.heap.size = sz ∧ va_P (dC, dI) kls (wM h cI cZ xt (nI nF) (nI nC) xg aP (fun c => nI (cf c)) (fun c => nI (ct c)) aK bF bL bB bA bY bR oT oO oR bS) U.heap ∧ va_K (dC, dI) kls (tyM cI cZ) U ∧ va_D (fun _ => True) (wM h cI cZ xt (nI nF) (nI nC) xg aP (fun c => nI (cf c)) (fun c => nI (ct c)) aK bF bL bB bA bY bR oT oO oR bS))) (va_Qi (fun (r : Int32) (u : Unit) => r = nI (rcN nC cf ct f nF)) (fun (u : Unit) (t : State) => va_P (dC, dI) kls (wM h cI cZ xt (nI nF) (nI nC) xg aP (fun c => nI (cf c)) (fun c => nI (ct c)) aK bF bL bB bA bY bR oT oO oR bS) t.heap ∧ va_K (dC, dI) kls (tyM cI cZ) t ∧ va_D (va_A (wM h cI cZ xt (nI nF) (nI nC) xg aP (fun c => nI (cf c)) (fun c => nI (ct c)) aK bF bL bB bA bY bR oT oO oR bS) sz) (wM h cI cZ xt (nI nF) (nI nC) xg aP (fun c => nI (cf c)) (fun c => nI (ct c)) aK bF bL bB bA bY bR oT oO oR bS)) (va_A (wM h cI cZ xt (nI nF) (nI nC) xg aP (fun c => nI (cf c)) (fun c => nI (ct c)) aK bF bL bB bA bY bR oT oO oR bS) sz)) 0 0 (va_A (wM h cI cZ xt (nI nF) (nI nC) xg aP (fun c => nI (cf c)) (fun c => nI (ct c)) aK bF bL bB bA bY bR oT oO oR bS) sz) := by
  refine Met.ofW (cc := c_M_reachedFrom) (maxL := 5) (ret := (some .int)) (by decide) rfl ?_
  intro p e s m args below meth c s₁ B hml hv
  obtain ⟨rfl, hsz, hP, hK, hD0⟩ := hv
  have hx := B.exec
  have hb := B.bytes
  have hr := B.returns
  have hts := atoms_spec (ws := w_M_reachedFrom) B.pre
  have hk : ∀ w ∈ wMw, w.before _ s = true := fun w h => hts w (List.mem_cons_of_mem _ h)
  have hown : s.vm.findClass R_M = some m.cls := findClass_of_methodNamed B.named
  have hlocks := B.notSynchronized
  subst hsz
  have hD := hD0.self (sz := s.heap.size)
  generalize hAe : va_A (wM h cI cZ xt (nI nF) (nI nC) xg aP (fun c => nI (cf c)) (fun c => nI (ct c)) aK bF bL bB bA bY bR oT oO oR bS) s.heap.size = A at hD ⊢
  have hA : ∀ q : Nat, s.heap.size ≤ q → A q := fun q h => by rw [← hAe]; exact Or.inr h
  have hS : va_S A s.heap s.heap [] := va_S.rf
  have hl := lv_entry ([.ref (h 0), .int (nI f)]) (n := 5) (Nat.le_of_ble_eq_true rfl)
  rw [lg_entry_eq]
  generalize (lg_sl ([.ref (h 0), .int (nI f)]) ++ List.replicate (5 - (lg_sl ([.ref (h 0), .int (nI f)])).length) Slot.unset).toArray = ls at hl ⊢
  have hl : lv_has ls 5 [(0, .ref (h 0)), (1, .int (nI f))] := hl
  refine lv_iconst (v := nI 0) hx hb d_M_reachedFrom_0 (by decide +kernel) ?_
  refine lv_istore_n (lv' := [(2, .int (nI 0)), (0, .ref (h 0)), (1, .int (nI f))]) hx hb d_M_reachedFrom_1 rfl hl (by decide) rfl (fun ls hl => ?_)
  refine lv_iconst (v := nI 1) hx hb d_M_reachedFrom_2 (by decide +kernel) ?_
  refine lv_istore_n (lv' := [(3, .int (nI 1)), (2, .int (nI 0)), (0, .ref (h 0)), (1, .int (nI f))]) hx hb d_M_reachedFrom_3 rfl hl (by decide) rfl (fun ls hl => ?_)
  have lp1 : ∀ (n_lp1 : Nat) (t9 : Nat) (b : Nat), (t9 ≤ nF + 1) → ((b = 1 ∧ t9 ≤ bitsN nF (rcN nC cf ct f t9)) ∨ (b = 0 ∧ rcN nC cf ct f t9 = rcN nC cf ct f nF)) → nF + 2 - t9 < n_lp1 → ∀ (H : Heap) (locs : List Loc) (ls : Array Slot), va_P (dC, dI) kls (wM h cI cZ xt (nI nF) (nI nC) xg aP (fun c => nI (cf c)) (fun c => nI (ct c)) aK bF bL bB bA bY bR oT oO oR bS) H → va_D A (wM h cI cZ xt (nI nF) (nI nC) xg aP (fun c => nI (cf c)) (fun c => nI (ct c)) aK bF bL bB bA bY bR oT oO oR bS) → va_S A s.heap H locs → lv_has ls 5 [(0, .ref (h 0)), (1, .int (nI f)), (2, .int (nI (rcN nC cf ct f t9))), (3, .int (nI b))] → W p l e (headSpec w_M_reachedFrom ({ frames := 0, cells := 0, slots := 0, locals := 0 })).room s m ([.ref (h 0), .int (nI f)]).toArray below meth c H locs 0 0 (MQ below (va_Qi (fun (r : Int32) (u : Unit) => r = nI (rcN nC cf ct f nF)) (fun (u : Unit) (t : State) => va_P (dC, dI) kls (wM h cI cZ xt (nI nF) (nI nC) xg aP (fun c => nI (cf c)) (fun c => nI (ct c)) aK bF bL bB bA bY bR oT oO oR bS) t.heap ∧ va_K (dC, dI) kls (tyM cI cZ) t ∧ va_D (A) (wM h cI cZ xt (nI nF) (nI nC) xg aP (fun c => nI (cf c)) (fun c => nI (ct c)) aK bF bL bB bA bY bR oT oO oR bS)) A) ([.ref (h 0), .int (nI f)]).toArray s 0 0 A) (F0 m 4 ls []) := by
    intro n_lp1
    induction n_lp1 with
    | zero => intro t9 b ht hb2 hn; exact absurd hn (Nat.not_lt_zero _)
    | succ n_lp1 ih_lp1 =>
      intro t9 b ht hb2 hn H locs ls hP hD hS hl
      have hb9 : b < 2 := by rcases hb2 with ⟨h1, -⟩ | ⟨h0, -⟩ <;> omega
      refine lv_iload_n hx hb d_M_reachedFrom_4 rfl (lv_at hl 3 rfl) ?_
      refine lv_if_eq (tgt := 88) hx hb d_M_reachedFrom_5 (by decide) (fun c_5 => ?_) (fun c_5 => ?_)
      · have c_5 : b = 0 := (nI_eq (a := b) (b := 0) (by omega) (by omega)).mp c_5
        refine lv_iload_n hx hb d_M_reachedFrom_88 rfl (lv_at hl 2 rfl) ?_
        have hq : nI (rcN nC cf ct f t9) = nI (rcN nC cf ct f nF) := by
          rcases hb2 with ⟨h9, -⟩ | ⟨-, h9⟩
          · omega
          · rw [h9]
        exact W.iret (v := nI (rcN nC cf ct f t9)) hx hb hr (fun t ht hW => ⟨⟨nI (rcN nC cf ct f t9), (), rfl, hq, by rw [ht]; exact hP, va_K.moved hW.alike hK, hD⟩, hS.F ht⟩) hS.2.2 d_M_reachedFrom_89
      · have c_5 : ¬ b = 0 := fun z9 => c_5 ((nI_eq (a := b) (b := 0) (by omega) (by omega)).mpr z9)
        refine lv_iconst (v := nI 0) hx hb d_M_reachedFrom_8 (by decide +kernel) ?_
        refine lv_istore_n (lv' := [(3, .int (nI 0)), (0, .ref (h 0)), (1, .int (nI f)), (2, .int (nI (rcN nC cf ct f t9)))]) hx hb d_M_reachedFrom_9 rfl hl (by decide) rfl (fun ls hl => ?_)
        refine lv_iconst (v := nI 0) hx hb d_M_reachedFrom_10 (by decide +kernel) ?_
        refine lv_istore (lv' := [(4, .int (nI 0)), (3, .int (nI 0)), (0, .ref (h 0)), (1, .int (nI f)), (2, .int (nI (rcN nC cf ct f t9)))]) hx hb d_M_reachedFrom_11 hl (by decide) rfl (fun ls hl => ?_)
        have htf : t9 ≤ nF := by rcases hb2 with ⟨-, h9⟩ | ⟨h9, -⟩; exact Nat.le_trans h9 (bits_le _ _); exact absurd h9 c_5
        have lp2 : ∀ (n_lp2 : Nat) (i : Nat) (b2 : Nat), (i ≤ nC) → ((b2 = 0 ∧ rcP cf ct f (rcN nC cf ct f t9) i = rcN nC cf ct f t9) ∨ (b2 = 1 ∧ rcP cf ct f (rcN nC cf ct f t9) i ≠ rcN nC cf ct f t9)) → nC - i < n_lp2 → ∀ (H : Heap) (locs : List Loc) (ls : Array Slot), va_P (dC, dI) kls (wM h cI cZ xt (nI nF) (nI nC) xg aP (fun c => nI (cf c)) (fun c => nI (ct c)) aK bF bL bB bA bY bR oT oO oR bS) H → va_D A (wM h cI cZ xt (nI nF) (nI nC) xg aP (fun c => nI (cf c)) (fun c => nI (ct c)) aK bF bL bB bA bY bR oT oO oR bS) → va_S A s.heap H locs → lv_has ls 5 [(0, .ref (h 0)), (1, .int (nI f)), (2, .int (nI (rcP cf ct f (rcN nC cf ct f t9) i))), (3, .int (nI b2)), (4, .int (nI i))] → W p l e (headSpec w_M_reachedFrom ({ frames := 0, cells := 0, slots := 0, locals := 0 })).room s m ([.ref (h 0), .int (nI f)]).toArray below meth c H locs 0 0 (MQ below (va_Qi (fun (r : Int32) (u : Unit) => r = nI (rcN nC cf ct f nF)) (fun (u : Unit) (t : State) => va_P (dC, dI) kls (wM h cI cZ xt (nI nF) (nI nC) xg aP (fun c => nI (cf c)) (fun c => nI (ct c)) aK bF bL bB bA bY bR oT oO oR bS) t.heap ∧ va_K (dC, dI) kls (tyM cI cZ) t ∧ va_D (A) (wM h cI cZ xt (nI nF) (nI nC) xg aP (fun c => nI (cf c)) (fun c => nI (ct c)) aK bF bL bB bA bY bR oT oO oR bS)) A) ([.ref (h 0), .int (nI f)]).toArray s 0 0 A) (F0 m 13 ls []) := by
          intro n_lp2
          induction n_lp2 with
          | zero => intro i b2 hi hb3 hn; exact absurd hn (Nat.not_lt_zero _)
          | succ n_lp2 ih_lp2 =>
            intro i b2 hi hb3 hn H locs ls hP hD hS hl
            refine lv_iload hx hb d_M_reachedFrom_13 (lv_at hl 4 rfl) ?_
            refine lv_aload_n hx hb d_M_reachedFrom_15 rfl (lv_at hl 0 rfl) ?_
            refine va_get (D := (dC, dI)) (ci := 0) (v := .int (nI nC)) (C := R_M) (T := F_M) (N := 18) hx hb hk k_M_f hown hK hP 0 rfl rfl 2 (by decide) (hk _ k_M_10) (fun _ h9 => h9) rfl d_M_reachedFrom_16 ?_
            refine lv_icmp_ge (tgt := 85) hx hb d_M_reachedFrom_19 (by decide) (fun c_19 => ?_) (fun c_19 => ?_)
            · have c_19 : nC ≤ i := (nI_leI (a := nC) (b := i) (by omega) (by omega)).mp c_19
              refine lv_goto (tgt := 4) hx hb d_M_reachedFrom_85 (by decide) ?_
              have hin : i = nC := by omega
              subst hin
              have hre : rcP cf ct f (rcN i cf ct f t9) i = rcN i cf ct f (t9 + 1) := rfl
              rw [hre] at hl hb3
              have hb4 : (b2 = 1 ∧ t9 + 1 ≤ bitsN nF (rcN i cf ct f (t9 + 1))) ∨ (b2 = 0 ∧ rcN i cf ct f (t9 + 1) = rcN i cf ct f nF) := by
                rcases hb3 with ⟨hb0, hsame⟩ | ⟨hb1, hdiff⟩
                · exact Or.inr ⟨hb0, by rw [hsame]; exact rcN_same i cf ct f (fun c hc => (hS0 c hc).2) hsame⟩
                · refine Or.inl ⟨hb1, ?_⟩
                  have := bits_more (nF := nF) (rcN_lt i cf ct f (fun c hc => (hS0 c hc).2) t9) (rcN_lt i cf ct f (fun c hc => (hS0 c hc).2) (t9 + 1)) (fun q hq => by rw [rcN]; exact rcP_keep cf ct f _ i q hq) hdiff
                  rcases hb2 with ⟨-, h9⟩ | ⟨h9, -⟩
                  · omega
                  · exact absurd h9 c_5
              exact ih_lp1 (t9 + 1) b2 (by omega) (hb4) (by omega) _ _ _ hP hD hS (lv_sub hl [0, 1, 2, 3] rfl)
            · have c_19 : ¬ nC ≤ i := fun z9 => c_19 ((nI_leI (a := nC) (b := i) (by omega) (by omega)).mpr z9)
              have hci := hS0 i (by omega)
              have hml : rcP cf ct f (rcN nC cf ct f t9) i < 2 ^ nF := rcP_lt nC cf ct f (fun c hc => (hS0 c hc).2) (rcN_lt nC cf ct f (fun c hc => (hS0 c hc).2) t9) i (by omega)
              have hp2 := p2_lt hF
              refine lv_aload_n hx hb d_M_reachedFrom_22 rfl (lv_at hl 0 rfl) ?_
              refine va_get (D := (dC, dI)) (ci := 0) (v := .ref (h 2)) (C := R_M) (T := F_M) (N := 18) hx hb hk k_M_f hown hK hP 0 rfl rfl 4 (by decide) (hk _ k_M_12) (fun _ h9 => h9) rfl d_M_reachedFrom_23 ?_
              refine lv_iload hx hb d_M_reachedFrom_26 (lv_at hl 4 rfl) ?_
              refine va_iald hx hb hK hP 2 0 rfl rfl (pk_in i 20 (by omega)) d_M_reachedFrom_28 ?_
              refine lv_topi (fun z1 ez1 => ?_)
              obtain rfl : z1 = nI (cf i) := ez1.trans (rd (f := fun c => nI (cf c)) (k := i) (by omega))
              refine lv_iload_n hx hb d_M_reachedFrom_29 rfl (lv_at hl 1 rfl) ?_
              refine lv_icmp_eq (tgt := 47) hx hb d_M_reachedFrom_30 (by decide) (fun c_30 => ?_) (fun c_30 => ?_)
              · have c_30 : cf i = f := (nI_eq (a := cf i) (b := f) (by omega) (by omega)).mp c_30
                refine lv_iload_n hx hb d_M_reachedFrom_47 rfl (lv_at hl 2 rfl) ?_
                refine lv_aload_n hx hb d_M_reachedFrom_48 rfl (lv_at hl 0 rfl) ?_
                refine va_get (D := (dC, dI)) (ci := 0) (v := .ref (h 3)) (C := R_M) (T := F_M) (N := 18) hx hb hk k_M_f hown hK hP 0 rfl rfl 5 (by decide) (hk _ k_M_13) (fun _ h9 => h9) rfl d_M_reachedFrom_49 ?_
                refine lv_iload hx hb d_M_reachedFrom_52 (lv_at hl 4 rfl) ?_
                refine va_iald hx hb hK hP 3 0 rfl rfl (pk_in i 20 (by omega)) d_M_reachedFrom_54 ?_
                refine lv_topi (fun z2 ez2 => ?_)
                obtain rfl : z2 = nI (ct i) := ez2.trans (rd (f := fun c => nI (ct c)) (k := i) (by omega))
                refine lv_ishr hx hb d_M_reachedFrom_55 ?_
                refine lv_topi (fun z3 ez3 => ?_)
                obtain rfl : z3 = sar (nI (rcP cf ct f (rcN nC cf ct f t9) i)) (ct i) := ez3.trans (rfl)
                refine lv_iconst (v := nI 1) hx hb d_M_reachedFrom_56 (by decide +kernel) ?_
                refine lv_iand hx hb d_M_reachedFrom_57 ?_
                refine lv_topi (fun z4 ez4 => ?_)
                obtain rfl : z4 = nI (((rcP cf ct f (rcN nC cf ct f t9) i).testBit (ct i)).toNat) := ez4.trans (sar_bit (by omega) (by omega))
                have hbl2 : ((rcP cf ct f (rcN nC cf ct f t9) i).testBit (ct i)).toNat < 2 := by cases (rcP cf ct f (rcN nC cf ct f t9) i).testBit (ct i) <;> decide
                refine lv_iconst (v := nI 1) hx hb d_M_reachedFrom_58 (by decide +kernel) ?_
                refine lv_icmp_ne (tgt := 65) hx hb d_M_reachedFrom_59 (by decide) (fun c_59 => ?_) (fun c_59 => ?_)
                · have c_59 : ¬ ((rcP cf ct f (rcN nC cf ct f t9) i).testBit (ct i)).toNat = 1 := fun z9 => c_59 ((nI_eq (a := ((rcP cf ct f (rcN nC cf ct f t9) i).testBit (ct i)).toNat) (b := 1) (by omega) (by omega)).mpr z9)
                  refine lv_iload_n hx hb d_M_reachedFrom_65 rfl (lv_at hl 2 rfl) ?_
                  refine lv_iconst (v := nI 1) hx hb d_M_reachedFrom_66 (by decide +kernel) ?_
                  refine lv_aload_n hx hb d_M_reachedFrom_67 rfl (lv_at hl 0 rfl) ?_
                  refine va_get (D := (dC, dI)) (ci := 0) (v := .ref (h 3)) (C := R_M) (T := F_M) (N := 18) hx hb hk k_M_f hown hK hP 0 rfl rfl 5 (by decide) (hk _ k_M_13) (fun _ h9 => h9) rfl d_M_reachedFrom_68 ?_
                  refine lv_iload hx hb d_M_reachedFrom_71 (lv_at hl 4 rfl) ?_
                  refine va_iald hx hb hK hP 3 0 rfl rfl (pk_in i 20 (by omega)) d_M_reachedFrom_73 ?_
                  refine lv_topi (fun z5 ez5 => ?_)
                  obtain rfl : z5 = nI (ct i) := ez5.trans (rd (f := fun c => nI (ct c)) (k := i) (by omega))
                  refine lv_ishl hx hb d_M_reachedFrom_74 ?_
                  refine lv_topi (fun z6 ez6 => ?_)
                  obtain rfl : z6 = shl (nI 1) (ct i) := ez6.trans (rfl)
                  refine lv_ior hx hb d_M_reachedFrom_75 ?_
                  have hbt : (rcP cf ct f (rcN nC cf ct f t9) i).testBit (ct i) = false := by cases hb9 : (rcP cf ct f (rcN nC cf ct f t9) i).testBit (ct i); rfl; rw [hb9] at c_59; exact absurd rfl c_59
                  have hst : rcP cf ct f (rcN nC cf ct f t9) (i + 1) = rcP cf ct f (rcN nC cf ct f t9) i ||| 2 ^ ct i := by
                    rw [rcP]
                    first
                      | rw [if_pos (Or.inl c_30)]
                      | (rw [if_pos (Or.inr (by cases hb9 : (rcP cf ct f (rcN nC cf ct f t9) i).testBit (cf i); rw [hb9] at c_44; exact absurd rfl c_44; rfl))])
                  refine lv_topi (fun z7 ez7 => ?_)
                  obtain rfl : z7 = nI (rcP cf ct f (rcN nC cf ct f t9) (i + 1)) := ez7.trans (by rw [shl_1 _ (by omega), nx_or, hst])
                  refine lv_istore_n (lv' := [(2, .int (nI (rcP cf ct f (rcN nC cf ct f t9) (i + 1)))), (0, .ref (h 0)), (1, .int (nI f)), (3, .int (nI b2)), (4, .int (nI i))]) hx hb d_M_reachedFrom_76 rfl hl (by decide) rfl (fun ls hl => ?_)
                  refine lv_iconst (v := nI 1) hx hb d_M_reachedFrom_77 (by decide +kernel) ?_
                  refine lv_istore_n (lv' := [(3, .int (nI 1)), (2, .int (nI (rcP cf ct f (rcN nC cf ct f t9) (i + 1)))), (0, .ref (h 0)), (1, .int (nI f)), (4, .int (nI i))]) hx hb d_M_reachedFrom_78 rfl hl (by decide) rfl (fun ls hl => ?_)
                  refine lv_iinc (v := nI (i + 1)) (lv' := [(4, .int (nI (i + 1))), (3, .int (nI 1)), (2, .int (nI (rcP cf ct f (rcN nC cf ct f t9) (i + 1)))), (0, .ref (h 0)), (1, .int (nI f))]) hx hb d_M_reachedFrom_79 hl (k := 4) rfl (nI_add i 1) (by decide) rfl (fun ls hl => ?_)
                  refine lv_goto (tgt := 13) hx hb d_M_reachedFrom_82 (by decide) ?_
                  have hb4 : (1 = 0 ∧ rcP cf ct f (rcN nC cf ct f t9) (i + 1) = rcN nC cf ct f t9) ∨ (1 = 1 ∧ rcP cf ct f (rcN nC cf ct f t9) (i + 1) ≠ rcN nC cf ct f t9) := by
                    refine Or.inr ⟨rfl, fun z => ?_⟩
                    have h1 := or_new hbt
                    rw [← hst] at h1
                    have h2 : (rcP cf ct f (rcN nC cf ct f t9) (i + 1)).testBit (ct i) = true := by rw [hst, Nat.testBit_or, Nat.testBit_two_pow, decide_eq_true rfl]; simp
                    rw [z] at h2
                    have h3 := rcP_keep cf ct f (rcN nC cf ct f t9) i (ct i) h2
                    rw [hbt] at h3
                    cases h3
                  exact ih_lp2 (i + 1) 1 (by omega) (hb4) (by omega) _ _ _ hP hD hS (lv_sub hl [3, 4, 2, 1, 0] rfl)
                · have c_59 : ((rcP cf ct f (rcN nC cf ct f t9) i).testBit (ct i)).toNat = 1 := (nI_eq (a := ((rcP cf ct f (rcN nC cf ct f t9) i).testBit (ct i)).toNat) (b := 1) (by omega) (by omega)).mp c_59
                  refine lv_goto (tgt := 79) hx hb d_M_reachedFrom_62 (by decide) ?_
                  refine lv_iinc (v := nI (i + 1)) (lv' := [(4, .int (nI (i + 1))), (0, .ref (h 0)), (1, .int (nI f)), (2, .int (nI (rcP cf ct f (rcN nC cf ct f t9) i))), (3, .int (nI b2))]) hx hb d_M_reachedFrom_79 hl (k := 4) rfl (nI_add i 1) (by decide) rfl (fun ls hl => ?_)
                  refine lv_goto (tgt := 13) hx hb d_M_reachedFrom_82 (by decide) ?_
                  have hst : rcP cf ct f (rcN nC cf ct f t9) (i + 1) = rcP cf ct f (rcN nC cf ct f t9) i := by
                    rw [rcP]
                    first
                      | (rw [if_neg (by intro z; rcases z with z | z; exact c_30 z; rw [z] at c_44; exact absurd c_44 (by decide))])
                      | (split
                         · exact or_bit (by cases hb9 : (rcP cf ct f (rcN nC cf ct f t9) i).testBit (ct i); rw [hb9] at c_59; exact absurd c_59 (by decide); rfl)
                         · rfl)
                  rw [← hst] at hl hb3
                  exact ih_lp2 (i + 1) b2 (by omega) (hb3) (by omega) _ _ _ hP hD hS (lv_sub hl [1, 2, 3, 4, 0] rfl)
              · have c_30 : ¬ cf i = f := fun z9 => c_30 ((nI_eq (a := cf i) (b := f) (by omega) (by omega)).mpr z9)
                refine lv_iload_n hx hb d_M_reachedFrom_33 rfl (lv_at hl 2 rfl) ?_
                refine lv_aload_n hx hb d_M_reachedFrom_34 rfl (lv_at hl 0 rfl) ?_
                refine va_get (D := (dC, dI)) (ci := 0) (v := .ref (h 2)) (C := R_M) (T := F_M) (N := 18) hx hb hk k_M_f hown hK hP 0 rfl rfl 4 (by decide) (hk _ k_M_12) (fun _ h9 => h9) rfl d_M_reachedFrom_35 ?_
                refine lv_iload hx hb d_M_reachedFrom_38 (lv_at hl 4 rfl) ?_
                refine va_iald hx hb hK hP 2 0 rfl rfl (pk_in i 20 (by omega)) d_M_reachedFrom_40 ?_
                refine lv_topi (fun z8 ez8 => ?_)
                obtain rfl : z8 = nI (cf i) := ez8.trans (rd (f := fun c => nI (cf c)) (k := i) (by omega))
                refine lv_ishr hx hb d_M_reachedFrom_41 ?_
                refine lv_topi (fun z9 ez9 => ?_)
                obtain rfl : z9 = sar (nI (rcP cf ct f (rcN nC cf ct f t9) i)) (cf i) := ez9.trans (rfl)
                refine lv_iconst (v := nI 1) hx hb d_M_reachedFrom_42 (by decide +kernel) ?_
                refine lv_iand hx hb d_M_reachedFrom_43 ?_
                refine lv_topi (fun z10 ez10 => ?_)
                obtain rfl : z10 = nI (((rcP cf ct f (rcN nC cf ct f t9) i).testBit (cf i)).toNat) := ez10.trans (sar_bit (by omega) (by omega))
                have hbl : ((rcP cf ct f (rcN nC cf ct f t9) i).testBit (cf i)).toNat < 2 := by cases (rcP cf ct f (rcN nC cf ct f t9) i).testBit (cf i) <;> decide
                refine lv_if_eq (tgt := 79) hx hb d_M_reachedFrom_44 (by decide) (fun c_44 => ?_) (fun c_44 => ?_)
                · have c_44 : ((rcP cf ct f (rcN nC cf ct f t9) i).testBit (cf i)).toNat = 0 := (nI_eq (a := ((rcP cf ct f (rcN nC cf ct f t9) i).testBit (cf i)).toNat) (b := 0) (by omega) (by omega)).mp c_44
                  refine lv_iinc (v := nI (i + 1)) (lv' := [(4, .int (nI (i + 1))), (0, .ref (h 0)), (1, .int (nI f)), (2, .int (nI (rcP cf ct f (rcN nC cf ct f t9) i))), (3, .int (nI b2))]) hx hb d_M_reachedFrom_79 hl (k := 4) rfl (nI_add i 1) (by decide) rfl (fun ls hl => ?_)
                  refine lv_goto (tgt := 13) hx hb d_M_reachedFrom_82 (by decide) ?_
                  have hst : rcP cf ct f (rcN nC cf ct f t9) (i + 1) = rcP cf ct f (rcN nC cf ct f t9) i := by
                    rw [rcP]
                    first
                      | (rw [if_neg (by intro z; rcases z with z | z; exact c_30 z; rw [z] at c_44; exact absurd c_44 (by decide))])
                      | (split
                         · exact or_bit (by cases hb9 : (rcP cf ct f (rcN nC cf ct f t9) i).testBit (ct i); rw [hb9] at c_59; exact absurd c_59 (by decide); rfl)
                         · rfl)
                  rw [← hst] at hl hb3
                  exact ih_lp2 (i + 1) b2 (by omega) (hb3) (by omega) _ _ _ hP hD hS (lv_sub hl [1, 2, 3, 4, 0] rfl)
                · have c_44 : ¬ ((rcP cf ct f (rcN nC cf ct f t9) i).testBit (cf i)).toNat = 0 := fun z9 => c_44 ((nI_eq (a := ((rcP cf ct f (rcN nC cf ct f t9) i).testBit (cf i)).toNat) (b := 0) (by omega) (by omega)).mpr z9)
                  refine lv_iload_n hx hb d_M_reachedFrom_47 rfl (lv_at hl 2 rfl) ?_
                  refine lv_aload_n hx hb d_M_reachedFrom_48 rfl (lv_at hl 0 rfl) ?_
                  refine va_get (D := (dC, dI)) (ci := 0) (v := .ref (h 3)) (C := R_M) (T := F_M) (N := 18) hx hb hk k_M_f hown hK hP 0 rfl rfl 5 (by decide) (hk _ k_M_13) (fun _ h9 => h9) rfl d_M_reachedFrom_49 ?_
                  refine lv_iload hx hb d_M_reachedFrom_52 (lv_at hl 4 rfl) ?_
                  refine va_iald hx hb hK hP 3 0 rfl rfl (pk_in i 20 (by omega)) d_M_reachedFrom_54 ?_
                  refine lv_topi (fun z11 ez11 => ?_)
                  obtain rfl : z11 = nI (ct i) := ez11.trans (rd (f := fun c => nI (ct c)) (k := i) (by omega))
                  refine lv_ishr hx hb d_M_reachedFrom_55 ?_
                  refine lv_topi (fun z12 ez12 => ?_)
                  obtain rfl : z12 = sar (nI (rcP cf ct f (rcN nC cf ct f t9) i)) (ct i) := ez12.trans (rfl)
                  refine lv_iconst (v := nI 1) hx hb d_M_reachedFrom_56 (by decide +kernel) ?_
                  refine lv_iand hx hb d_M_reachedFrom_57 ?_
                  refine lv_topi (fun z13 ez13 => ?_)
                  obtain rfl : z13 = nI (((rcP cf ct f (rcN nC cf ct f t9) i).testBit (ct i)).toNat) := ez13.trans (sar_bit (by omega) (by omega))
                  have hbl2 : ((rcP cf ct f (rcN nC cf ct f t9) i).testBit (ct i)).toNat < 2 := by cases (rcP cf ct f (rcN nC cf ct f t9) i).testBit (ct i) <;> decide
                  refine lv_iconst (v := nI 1) hx hb d_M_reachedFrom_58 (by decide +kernel) ?_
                  refine lv_icmp_ne (tgt := 65) hx hb d_M_reachedFrom_59 (by decide) (fun c_59 => ?_) (fun c_59 => ?_)
                  · have c_59 : ¬ ((rcP cf ct f (rcN nC cf ct f t9) i).testBit (ct i)).toNat = 1 := fun z9 => c_59 ((nI_eq (a := ((rcP cf ct f (rcN nC cf ct f t9) i).testBit (ct i)).toNat) (b := 1) (by omega) (by omega)).mpr z9)
                    refine lv_iload_n hx hb d_M_reachedFrom_65 rfl (lv_at hl 2 rfl) ?_
                    refine lv_iconst (v := nI 1) hx hb d_M_reachedFrom_66 (by decide +kernel) ?_
                    refine lv_aload_n hx hb d_M_reachedFrom_67 rfl (lv_at hl 0 rfl) ?_
                    refine va_get (D := (dC, dI)) (ci := 0) (v := .ref (h 3)) (C := R_M) (T := F_M) (N := 18) hx hb hk k_M_f hown hK hP 0 rfl rfl 5 (by decide) (hk _ k_M_13) (fun _ h9 => h9) rfl d_M_reachedFrom_68 ?_
                    refine lv_iload hx hb d_M_reachedFrom_71 (lv_at hl 4 rfl) ?_
                    refine va_iald hx hb hK hP 3 0 rfl rfl (pk_in i 20 (by omega)) d_M_reachedFrom_73 ?_
                    refine lv_topi (fun z14 ez14 => ?_)
                    obtain rfl : z14 = nI (ct i) := ez14.trans (rd (f := fun c => nI (ct c)) (k := i) (by omega))
                    refine lv_ishl hx hb d_M_reachedFrom_74 ?_
                    refine lv_topi (fun z15 ez15 => ?_)
                    obtain rfl : z15 = shl (nI 1) (ct i) := ez15.trans (rfl)
                    refine lv_ior hx hb d_M_reachedFrom_75 ?_
                    have hbt : (rcP cf ct f (rcN nC cf ct f t9) i).testBit (ct i) = false := by cases hb9 : (rcP cf ct f (rcN nC cf ct f t9) i).testBit (ct i); rfl; rw [hb9] at c_59; exact absurd rfl c_59
                    have hst : rcP cf ct f (rcN nC cf ct f t9) (i + 1) = rcP cf ct f (rcN nC cf ct f t9) i ||| 2 ^ ct i := by
                      rw [rcP]
                      first
                        | rw [if_pos (Or.inl c_30)]
                        | (rw [if_pos (Or.inr (by cases hb9 : (rcP cf ct f (rcN nC cf ct f t9) i).testBit (cf i); rw [hb9] at c_44; exact absurd rfl c_44; rfl))])
                    refine lv_topi (fun z16 ez16 => ?_)
                    obtain rfl : z16 = nI (rcP cf ct f (rcN nC cf ct f t9) (i + 1)) := ez16.trans (by rw [shl_1 _ (by omega), nx_or, hst])
                    refine lv_istore_n (lv' := [(2, .int (nI (rcP cf ct f (rcN nC cf ct f t9) (i + 1)))), (0, .ref (h 0)), (1, .int (nI f)), (3, .int (nI b2)), (4, .int (nI i))]) hx hb d_M_reachedFrom_76 rfl hl (by decide) rfl (fun ls hl => ?_)
                    refine lv_iconst (v := nI 1) hx hb d_M_reachedFrom_77 (by decide +kernel) ?_
                    refine lv_istore_n (lv' := [(3, .int (nI 1)), (2, .int (nI (rcP cf ct f (rcN nC cf ct f t9) (i + 1)))), (0, .ref (h 0)), (1, .int (nI f)), (4, .int (nI i))]) hx hb d_M_reachedFrom_78 rfl hl (by decide) rfl (fun ls hl => ?_)
                    refine lv_iinc (v := nI (i + 1)) (lv' := [(4, .int (nI (i + 1))), (3, .int (nI 1)), (2, .int (nI (rcP cf ct f (rcN nC cf ct f t9) (i + 1)))), (0, .ref (h 0)), (1, .int (nI f))]) hx hb d_M_reachedFrom_79 hl (k := 4) rfl (nI_add i 1) (by decide) rfl (fun ls hl => ?_)
                    refine lv_goto (tgt := 13) hx hb d_M_reachedFrom_82 (by decide) ?_
                    have hb4 : (1 = 0 ∧ rcP cf ct f (rcN nC cf ct f t9) (i + 1) = rcN nC cf ct f t9) ∨ (1 = 1 ∧ rcP cf ct f (rcN nC cf ct f t9) (i + 1) ≠ rcN nC cf ct f t9) := by
                      refine Or.inr ⟨rfl, fun z => ?_⟩
                      have h1 := or_new hbt
                      rw [← hst] at h1
                      have h2 : (rcP cf ct f (rcN nC cf ct f t9) (i + 1)).testBit (ct i) = true := by rw [hst, Nat.testBit_or, Nat.testBit_two_pow, decide_eq_true rfl]; simp
                      rw [z] at h2
                      have h3 := rcP_keep cf ct f (rcN nC cf ct f t9) i (ct i) h2
                      rw [hbt] at h3
                      cases h3
                    exact ih_lp2 (i + 1) 1 (by omega) (hb4) (by omega) _ _ _ hP hD hS (lv_sub hl [3, 4, 2, 1, 0] rfl)
                  · have c_59 : ((rcP cf ct f (rcN nC cf ct f t9) i).testBit (ct i)).toNat = 1 := (nI_eq (a := ((rcP cf ct f (rcN nC cf ct f t9) i).testBit (ct i)).toNat) (b := 1) (by omega) (by omega)).mp c_59
                    refine lv_goto (tgt := 79) hx hb d_M_reachedFrom_62 (by decide) ?_
                    refine lv_iinc (v := nI (i + 1)) (lv' := [(4, .int (nI (i + 1))), (0, .ref (h 0)), (1, .int (nI f)), (2, .int (nI (rcP cf ct f (rcN nC cf ct f t9) i))), (3, .int (nI b2))]) hx hb d_M_reachedFrom_79 hl (k := 4) rfl (nI_add i 1) (by decide) rfl (fun ls hl => ?_)
                    refine lv_goto (tgt := 13) hx hb d_M_reachedFrom_82 (by decide) ?_
                    have hst : rcP cf ct f (rcN nC cf ct f t9) (i + 1) = rcP cf ct f (rcN nC cf ct f t9) i := by
                      rw [rcP]
                      first
                        | (rw [if_neg (by intro z; rcases z with z | z; exact c_30 z; rw [z] at c_44; exact absurd c_44 (by decide))])
                        | (split
                           · exact or_bit (by cases hb9 : (rcP cf ct f (rcN nC cf ct f t9) i).testBit (ct i); rw [hb9] at c_59; exact absurd c_59 (by decide); rfl)
                           · rfl)
                    rw [← hst] at hl hb3
                    exact ih_lp2 (i + 1) b2 (by omega) (hb3) (by omega) _ _ _ hP hD hS (lv_sub hl [1, 2, 3, 4, 0] rfl)
        exact lp2 _ 0 0 (Nat.zero_le _) (Or.inl ⟨rfl, rfl⟩) (Nat.lt_succ_self _) _ _ _ hP hD hS (lv_sub hl [2, 3, 4, 1, 0] rfl)
  exact lp1 _ 0 1 (Nat.zero_le _) (Or.inl ⟨rfl, Nat.zero_le _⟩) (Nat.lt_succ_self _) _ _ _ hP hD hS (lv_sub hl [2, 3, 1, 0] rfl)
end
section
set_option maxHeartbeats 4000000 in
set_option maxRecDepth 100000 in
theorem m_reached (l : Launch) (dC : Nat → ClassId) (dI : Nat → Nat → Nat) (cI cZ : ClassId) (h : Nat → Nat) (sz : Nat) (xt xg : Int32) (aP aK bF bL bB bA bY bR oT oO oR bS : Nat → Int32) (nF nC : Nat) (cf ct : Nat → Nat) (f : Int32) (hF : nF ≤ 10) (hC : nC ≤ 20) (hS0 : ∀ c, c < nC → cf c < nF ∧ ct c < nF) : Met l y_M_reached w_M_reached ({ frames := 1, cells := 0, slots := 0, locals := 24 }) (va_Pc [.ref (h 0), .int f] (fun U => U.heap.size = sz ∧ va_P (dC, dI) kls (wM h cI cZ xt (nI nF) (nI nC) xg aP (fun c => nI (cf c)) (fun c => nI (ct c)) aK bF bL bB bA bY bR oT oO oR bS) U.heap ∧ va_K (dC, dI) kls (tyM cI cZ) U ∧ va_D (fun _ => True) (wM h cI cZ xt (nI nF) (nI nC) xg aP (fun c => nI (cf c)) (fun c => nI (ct c)) aK bF bL bB bA bY bR oT oO oR bS))) (va_Qi (fun (r : Int32) (u : Int32) => u = nI 0 ∧ (((¬ ∃ i, i < nF ∧ f = nI i) ∧ r = -1) ∨ ∃ i, i < nF ∧ f = nI i ∧ r = nI (rcN nC cf ct i nF))) (fun (u : Int32) (t : State) => va_P (dC, dI) kls (wM h cI cZ u (nI nF) (nI nC) xg aP (fun c => nI (cf c)) (fun c => nI (ct c)) aK bF bL bB bA bY bR oT oO oR bS) t.heap ∧ va_K (dC, dI) kls (tyM cI cZ) t ∧ va_D (va_A (wM h cI cZ xt (nI nF) (nI nC) xg aP (fun c => nI (cf c)) (fun c => nI (ct c)) aK bF bL bB bA bY bR oT oO oR bS) sz) (wM h cI cZ u (nI nF) (nI nC) xg aP (fun c => nI (cf c)) (fun c => nI (ct c)) aK bF bL bB bA bY bR oT oO oR bS)) (va_A (wM h cI cZ xt (nI nF) (nI nC) xg aP (fun c => nI (cf c)) (fun c => nI (ct c)) aK bF bL bB bA bY bR oT oO oR bS) sz)) 0 0 (va_A (wM h cI cZ xt (nI nF) (nI nC) xg aP (fun c => nI (cf c)) (fun c => nI (ct c)) aK bF bL bB bA bY bR oT oO oR bS) sz) := by
  refine Met.ofW (cc := c_M_reached) (maxL := 2) (ret := (some .int)) (by decide) rfl ?_
  intro p e s m args below meth c s₁ B hml hv
  obtain ⟨rfl, hsz, hP, hK, hD0⟩ := hv
  have hx := B.exec
  have hb := B.bytes
  have hr := B.returns
  have hts := atoms_spec (ws := w_M_reached) B.pre
  have hk : ∀ w ∈ wMw, w.before _ s = true := fun w h => hts w (List.mem_cons_of_mem _ h)
  have hown : s.vm.findClass R_M = some m.cls := findClass_of_methodNamed B.named
  have hlocks := B.notSynchronized
  subst hsz
  have hD := hD0.self (sz := s.heap.size)
  generalize hAe : va_A (wM h cI cZ xt (nI nF) (nI nC) xg aP (fun c => nI (cf c)) (fun c => nI (ct c)) aK bF bL bB bA bY bR oT oO oR bS) s.heap.size = A at hD ⊢
  have hA : ∀ q : Nat, s.heap.size ≤ q → A q := fun q h => by rw [← hAe]; exact Or.inr h
  have hS : va_S A s.heap s.heap [] := va_S.rf
  have hl := lv_entry ([.ref (h 0), .int f]) (n := 2) (Nat.le_of_ble_eq_true rfl)
  rw [lg_entry_eq]
  generalize (lg_sl ([.ref (h 0), .int f]) ++ List.replicate (2 - (lg_sl ([.ref (h 0), .int f])).length) Slot.unset).toArray = ls at hl ⊢
  have hl : lv_has ls 2 [(0, .ref (h 0)), (1, .int f)] := hl
  refine lv_aload_n hx hb d_M_reached_0 rfl (lv_at hl 0 rfl) ?_
  refine lv_iconst (v := nI 0) hx hb d_M_reached_1 (by decide +kernel) ?_
  refine va_put (D := (dC, dI)) (ci := 0) (v := .int (nI 0)) (ty := .int) (C := R_M) (T := F_M) (N := 18) hx hb hk k_M_f t_M t_M_ok n_M hown hK hP hD hS 0 rfl rfl 0 (by decide) (hk _ k_M_8) (fun _ h9 => h9) rfl (by decide +kernel) rfl rfl (Nat.le_of_ble_eq_true rfl) d_M_reached_2 (fun H locs hP hD hS => ?_)
  have hP : va_P (dC, dI) kls (wM h cI cZ (nI 0) (nI nF) (nI nC) xg aP (fun c => nI (cf c)) (fun c => nI (ct c)) aK bF bL bB bA bY bR oT oO oR bS) H := hP
  have hD : va_D A (wM h cI cZ (nI 0) (nI nF) (nI nC) xg aP (fun c => nI (cf c)) (fun c => nI (ct c)) aK bF bL bB bA bY bR oT oO oR bS) := hD
  refine lv_aload_n hx hb d_M_reached_5 rfl (lv_at hl 0 rfl) ?_
  refine lv_iload_n hx hb d_M_reached_6 rfl (lv_at hl 1 rfl) ?_
  have hFc := va_free (wc := wM h cI cZ (nI 0) (nI nF) (nI nC) xg aP (fun c => nI (cf c)) (fun c => nI (ct c)) aK bF bL bB bA bY bR oT oO oR bS) hD hS hA [0, 1, 2, 3, 4, 5, 6, 7, 8, 9, 10, 11, 12, 13, 14] rfl
  refine va_calli (va_runV (As := [.int f]) (rest := []) ⟨hx, hb, hml, hown, hk⟩ (m_isFunction l dC dI cI cZ h H.size (nI 0) (nI nC) xg aP (fun c => nI (cf c)) (fun c => nI (ct c)) aK bF bL bB bA bY bR oT oO oR bS nF f (by omega)) (cwV 1 hk g_M_isFunction rfl rfl rfl (by decide +kernel) ⟨Nat.le_of_ble_eq_true rfl, Nat.le_of_ble_eq_true rfl⟩) ⟨fun a U g mk q => by obtain ⟨q0, q1, qP, qK, qD⟩ := q; exact ⟨q0, q1, qP, va_K.moved (u := U) (U := U.calling g mk a) (Vm.Alike.refl U.vm) qK, qD⟩, va_recv hK hP (ci := 0) (q0 := 0) rfl rfl, fun U hU hW => ⟨rfl, by rw [hU], by rw [hU]; exact hP, va_K.moved hW.alike hK, hD.weaken (fun _ _ _ _ => trivial)⟩⟩ rfl rfl hl.1 rfl (lv_room (Nat.le_of_ble_eq_true rfl)) d_M_reached_7 ⟨Nat.le_of_ble_eq_true rfl, Nat.le_of_ble_eq_true rfl⟩) hS (fun q _ h => hFc q h) hFc (fun r1 u9 t H1 locs ht hvm hw hB hz1 hk1 hS => ?_)
  obtain ⟨hP1, hK1, hD1⟩ := hB
  rw [ht] at hP1
  try dsimp only at hw
  obtain ⟨hP, hD⟩ := va_join (wr := []) (w1 := wM h cI cZ (nI 0) (nI nF) (nI nC) xg aP (fun c => nI (cf c)) (fun c => nI (ct c)) aK bF bL bB bA bY bR oT oO oR bS) hP hD [0, 1, 2, 3, 4, 5, 6, 7, 8, 9, 10, 11, 12, 13, 14] [] rfl rfl (by decide) (by decide) hk1 hFc hP1 hD1
  generalize H1 = H at hP hS ⊢
  have hP : va_P (dC, dI) kls (wM h cI cZ (nI 0) (nI nF) (nI nC) xg aP (fun c => nI (cf c)) (fun c => nI (ct c)) aK bF bL bB bA bY bR oT oO oR bS) H := hP
  have hD : va_D A (wM h cI cZ (nI 0) (nI nF) (nI nC) xg aP (fun c => nI (cf c)) (fun c => nI (ct c)) aK bF bL bB bA bY bR oT oO oR bS) := hD
  rcases hw with ⟨hr9, i1, hi1, hfj⟩ | ⟨hr9, hno_f⟩
  · subst hr9
    subst hfj
    refine lv_if_eq (tgt := 21) hx hb d_M_reached_10 (by decide) (fun c9 => absurd c9 (by decide +kernel)) (fun _ => ?_)
    refine lv_aload_n hx hb d_M_reached_13 rfl (lv_at hl 0 rfl) ?_
    refine lv_iload_n hx hb d_M_reached_14 rfl (lv_at hl 1 rfl) ?_
    have hFc := va_free (wc := wM h cI cZ (nI 0) (nI nF) (nI nC) xg aP (fun c => nI (cf c)) (fun c => nI (ct c)) aK bF bL bB bA bY bR oT oO oR bS) hD hS hA [0, 1, 2, 3, 4, 5, 6, 7, 8, 9, 10, 11, 12, 13, 14] rfl
    refine va_calli (va_runV (As := [.int (nI i1)]) (rest := []) ⟨hx, hb, hml, hown, hk⟩ (m_reachedFrom l dC dI cI cZ h H.size (nI 0) xg aP aK bF bL bB bA bY bR oT oO oR bS nF nC i1 cf ct (hF) (hC) (hS0) (hi1)) (cwV 1 hk g_M_reachedFrom rfl rfl rfl (by decide +kernel) ⟨Nat.le_of_ble_eq_true rfl, Nat.le_of_ble_eq_true rfl⟩) ⟨fun a U g mk q => by obtain ⟨q0, q1, qP, qK, qD⟩ := q; exact ⟨q0, q1, qP, va_K.moved (u := U) (U := U.calling g mk a) (Vm.Alike.refl U.vm) qK, qD⟩, va_recv hK hP (ci := 0) (q0 := 0) rfl rfl, fun U hU hW => ⟨rfl, by rw [hU], by rw [hU]; exact hP, va_K.moved hW.alike hK, hD.weaken (fun _ _ _ _ => trivial)⟩⟩ rfl rfl hl.1 rfl (lv_room (Nat.le_of_ble_eq_true rfl)) d_M_reached_15 ⟨Nat.le_of_ble_eq_true rfl, Nat.le_of_ble_eq_true rfl⟩) hS (fun q _ h => hFc q h) hFc (fun r2 u9 t H1 locs ht hvm hw hB hz1 hk1 hS => ?_)
    obtain ⟨hP1, hK1, hD1⟩ := hB
    rw [ht] at hP1
    try dsimp only at hw
    obtain ⟨hP, hD⟩ := va_join (wr := []) (w1 := wM h cI cZ (nI 0) (nI nF) (nI nC) xg aP (fun c => nI (cf c)) (fun c => nI (ct c)) aK bF bL bB bA bY bR oT oO oR bS) hP hD [0, 1, 2, 3, 4, 5, 6, 7, 8, 9, 10, 11, 12, 13, 14] [] rfl rfl (by decide) (by decide) hk1 hFc hP1 hD1
    generalize H1 = H at hP hS ⊢
    have hP : va_P (dC, dI) kls (wM h cI cZ (nI 0) (nI nF) (nI nC) xg aP (fun c => nI (cf c)) (fun c => nI (ct c)) aK bF bL bB bA bY bR oT oO oR bS) H := hP
    have hD : va_D A (wM h cI cZ (nI 0) (nI nF) (nI nC) xg aP (fun c => nI (cf c)) (fun c => nI (ct c)) aK bF bL bB bA bY bR oT oO oR bS) := hD
    subst hw
    refine lv_goto (tgt := 22) hx hb d_M_reached_18 (by decide) ?_
    exact W.iret (v := nI (rcN nC cf ct i1 nF)) hx hb hr (fun t ht hW => ⟨⟨nI (rcN nC cf ct i1 nF), nI 0, rfl, ⟨rfl, Or.inr ⟨i1, hi1, rfl, rfl⟩⟩, by rw [ht]; exact hP, va_K.moved hW.alike hK, hD⟩, hS.F ht⟩) hS.2.2 d_M_reached_22
  · subst hr9
    refine lv_if_eq (tgt := 21) hx hb d_M_reached_10 (by decide) (fun _ => ?_) (fun c9 => absurd c9 (by decide +kernel))
    refine lv_iconst (v := (-1)) hx hb d_M_reached_21 (by decide +kernel) ?_
    exact W.iret (v := (-1)) hx hb hr (fun t ht hW => ⟨⟨(-1), nI 0, rfl, ⟨rfl, Or.inl ⟨hno_f, rfl⟩⟩, by rw [ht]; exact hP, va_K.moved hW.alike hK, hD⟩, hS.F ht⟩) hS.2.2 d_M_reached_22
set_option maxHeartbeats 4000000 in
set_option maxRecDepth 100000 in
theorem m_isSafe (l : Launch) (dC : Nat → ClassId) (dI : Nat → Nat → Nat) (cI cZ : ClassId) (h : Nat → Nat) (sz : Nat) (xt xg : Int32) (aP aK bF bL bB bA bY bR oT oO oR bS : Nat → Int32) (nF nC K : Nat) (cf ct : Nat → Nat) (f : Int32) (hF : nF ≤ 10) (hC : nC ≤ 20) (hK8 : 801 ≤ K) (hS0 : ∀ c, c < nC → cf c < nF ∧ ct c < nF) : Met l y_M_isSafe w_M_isSafe ({ frames := 4, cells := 0, slots := 0, locals := 96 }) (va_Pc [.ref (h 0), .int f] (fun U => U.heap.size = sz ∧ va_P (dC, dI) kls (wM h cI cZ xt (nI nF) (nI nC) xg aP (fun c => nI (cf c)) (fun c => nI (ct c)) aK bF bL bB bA bY bR oT oO oR bS) U.heap ∧ va_K (dC, dI) kls (tyM cI cZ) U ∧ va_D (fun _ => True) (wM h cI cZ xt (nI nF) (nI nC) xg aP (fun c => nI (cf c)) (fun c => nI (ct c)) aK bF bL bB bA bY bR oT oO oR bS))) (va_Qi (fun (r : Int32) (u : Int32 × Int32 × (Nat → Int32) × (Nat → Int32) × (Nat → Int32) × (Nat → Int32) × (Nat → Int32)) => ((¬ ∃ i, i < nF ∧ f = nI i) ∧ u.1 = nI 1) ∨ ∃ i, i < nF ∧ f = nI i ∧ ((800 < (gA nC cf ct aK rj K).length ∧ u.1 = nI 2) ∨ ((gA nC cf ct aK rj K).length ≤ 800 ∧ u.1 = nI 0 ∧ ((r = nI 1 ∧ ∀ g, g < nF → (rcN nC cf ct i nF ||| 2 ^ i).testBit g = true → ∀ en ∈ gA nC cf ct aK rj K, ¬ (en.1 = g ∧ en.2.1 = g ∧ badX en.2.2.1)) ∨ (r = nI 0 ∧ ∃ g, g < nF ∧ (rcN nC cf ct i nF ||| 2 ^ i).testBit g = true ∧ ∃ en ∈ gA nC cf ct aK rj K, en.1 = g ∧ en.2.1 = g ∧ badX en.2.2.1))))) (fun (u : Int32 × Int32 × (Nat → Int32) × (Nat → Int32) × (Nat → Int32) × (Nat → Int32) × (Nat → Int32)) (t : State) => va_P (dC, dI) kls (wM h cI cZ u.1 (nI nF) (nI nC) u.2.1 aP (fun c => nI (cf c)) (fun c => nI (ct c)) aK u.2.2.1 u.2.2.2.1 u.2.2.2.2.1 u.2.2.2.2.2.1 u.2.2.2.2.2.2 bR oT oO oR bS) t.heap ∧ va_K (dC, dI) kls (tyM cI cZ) t ∧ va_D (va_A (wM h cI cZ xt (nI nF) (nI nC) xg aP (fun c => nI (cf c)) (fun c => nI (ct c)) aK bF bL bB bA bY bR oT oO oR bS) sz) (wM h cI cZ u.1 (nI nF) (nI nC) u.2.1 aP (fun c => nI (cf c)) (fun c => nI (ct c)) aK u.2.2.1 u.2.2.2.1 u.2.2.2.2.1 u.2.2.2.2.2.1 u.2.2.2.2.2.2 bR oT oO oR bS)) (va_A (wM h cI cZ xt (nI nF) (nI nC) xg aP (fun c => nI (cf c)) (fun c => nI (ct c)) aK bF bL bB bA bY bR oT oO oR bS) sz)) 0 0 (va_A (wM h cI cZ xt (nI nF) (nI nC) xg aP (fun c => nI (cf c)) (fun c => nI (ct c)) aK bF bL bB bA bY bR oT oO oR bS) sz) := by
  refine Met.ofW (cc := c_M_isSafe) (maxL := 5) (ret := (some .boolean)) (by decide) rfl ?_
  intro p e s m args below meth c s₁ B hml hv
  obtain ⟨rfl, hsz, hP, hK, hD0⟩ := hv
  have hx := B.exec
  have hb := B.bytes
  have hr := B.returns
  have hts := atoms_spec (ws := w_M_isSafe) B.pre
  have hk : ∀ w ∈ wMw, w.before _ s = true := fun w h => hts w (List.mem_cons_of_mem _ h)
  have hown : s.vm.findClass R_M = some m.cls := findClass_of_methodNamed B.named
  have hlocks := B.notSynchronized
  subst hsz
  have hD := hD0.self (sz := s.heap.size)
  generalize hAe : va_A (wM h cI cZ xt (nI nF) (nI nC) xg aP (fun c => nI (cf c)) (fun c => nI (ct c)) aK bF bL bB bA bY bR oT oO oR bS) s.heap.size = A at hD ⊢
  have hA : ∀ q : Nat, s.heap.size ≤ q → A q := fun q h => by rw [← hAe]; exact Or.inr h
  have hS : va_S A s.heap s.heap [] := va_S.rf
  have hl := lv_entry ([.ref (h 0), .int f]) (n := 5) (Nat.le_of_ble_eq_true rfl)
  rw [lg_entry_eq]
  generalize (lg_sl ([.ref (h 0), .int f]) ++ List.replicate (5 - (lg_sl ([.ref (h 0), .int f])).length) Slot.unset).toArray = ls at hl ⊢
  have hl : lv_has ls 5 [(0, .ref (h 0)), (1, .int f)] := hl
  refine lv_aload_n hx hb d_M_isSafe_0 rfl (lv_at hl 0 rfl) ?_
  refine lv_aload_n hx hb d_M_isSafe_1 rfl (lv_at hl 0 rfl) ?_
  refine lv_iload_n hx hb d_M_isSafe_2 rfl (lv_at hl 1 rfl) ?_
  have hFc := va_free (wc := wM h cI cZ xt (nI nF) (nI nC) xg aP (fun c => nI (cf c)) (fun c => nI (ct c)) aK bF bL bB bA bY bR oT oO oR bS) hD hS hA [0, 1, 2, 3, 4, 5, 6, 7, 8, 9, 10, 11, 12, 13, 14] rfl
  refine va_calli (va_runV (As := [.int f]) (rest := [.ref (h 0)]) ⟨hx, hb, hml, hown, hk⟩ (m_isFunction l dC dI cI cZ h s.heap.size xt (nI nC) xg aP (fun c => nI (cf c)) (fun c => nI (ct c)) aK bF bL bB bA bY bR oT oO oR bS nF f (by omega)) (cwV 1 hk g_M_isFunction rfl rfl rfl (by decide +kernel) ⟨Nat.le_of_ble_eq_true rfl, Nat.le_of_ble_eq_true rfl⟩) ⟨fun a U g mk q => by obtain ⟨q0, q1, qP, qK, qD⟩ := q; exact ⟨q0, q1, qP, va_K.moved (u := U) (U := U.calling g mk a) (Vm.Alike.refl U.vm) qK, qD⟩, va_recv hK hP (ci := 0) (q0 := 0) rfl rfl, fun U hU hW => ⟨rfl, by rw [hU], by rw [hU]; exact hP, va_K.moved hW.alike hK, hD.weaken (fun _ _ _ _ => trivial)⟩⟩ rfl rfl hl.1 rfl (lv_room (Nat.le_of_ble_eq_true rfl)) d_M_isSafe_3 ⟨Nat.le_of_ble_eq_true rfl, Nat.le_of_ble_eq_true rfl⟩) hS (fun q _ h => hFc q h) hFc (fun r1 u9 t H1 locs ht hvm hw hB hz1 hk1 hS => ?_)
  obtain ⟨hP1, hK1, hD1⟩ := hB
  rw [ht] at hP1
  try dsimp only at hw
  obtain ⟨hP, hD⟩ := va_join (wr := []) (w1 := wM h cI cZ xt (nI nF) (nI nC) xg aP (fun c => nI (cf c)) (fun c => nI (ct c)) aK bF bL bB bA bY bR oT oO oR bS) hP hD [0, 1, 2, 3, 4, 5, 6, 7, 8, 9, 10, 11, 12, 13, 14] [] rfl rfl (by decide) (by decide) hk1 hFc hP1 hD1
  generalize H1 = H at hP hS ⊢
  have hP : va_P (dC, dI) kls (wM h cI cZ xt (nI nF) (nI nC) xg aP (fun c => nI (cf c)) (fun c => nI (ct c)) aK bF bL bB bA bY bR oT oO oR bS) H := hP
  have hD : va_D A (wM h cI cZ xt (nI nF) (nI nC) xg aP (fun c => nI (cf c)) (fun c => nI (ct c)) aK bF bL bB bA bY bR oT oO oR bS) := hD
  rcases hw with ⟨hr9, i1, hi1, hfj⟩ | ⟨hr9, hno_f⟩
  · subst hr9
    subst hfj
    refine lv_if_ne (tgt := 13) hx hb d_M_isSafe_6 (by decide) (fun _ => ?_) (fun c9 => absurd c9 (by decide +kernel))
    refine lv_iconst (v := nI 0) hx hb d_M_isSafe_13 (by decide +kernel) ?_
    refine lv_iconst (v := nI 0) hx hb d_M_isSafe_14 (by decide +kernel) ?_
    have hFc := va_free (wc := wM h cI cZ xt (nI nF) (nI nC) xg aP (fun c => nI (cf c)) (fun c => nI (ct c)) aK bF bL bB bA bY bR oT oO oR bS) hD hS hA [0, 1, 2, 3, 4, 5, 6, 7, 8, 9, 10, 11, 12, 13, 14] rfl
    refine va_calli (va_runV (As := [.int (nI 0), .int (nI 0)]) (rest := []) ⟨hx, hb, hml, hown, hk⟩ (m_refused l dC dI cI cZ h H.size xt (nI nF) xg aP aK bF bL bB bA bY bR oT oO oR bS nC K cf ct (hC) (hK8) (fun c hc => ⟨by have := hS0 c hc; omega, by have := hS0 c hc; omega⟩)) (cwV 2 hk g_M_refused rfl rfl rfl (by decide +kernel) ⟨Nat.le_of_ble_eq_true rfl, Nat.le_of_ble_eq_true rfl⟩) ⟨fun a U g mk q => by obtain ⟨q0, q1, qP, qK, qD⟩ := q; exact ⟨q0, q1, qP, va_K.moved (u := U) (U := U.calling g mk a) (Vm.Alike.refl U.vm) qK, qD⟩, va_recv hK hP (ci := 0) (q0 := 0) rfl rfl, fun U hU hW => ⟨rfl, by rw [hU], by rw [hU]; exact hP, va_K.moved hW.alike hK, hD.weaken (fun _ _ _ _ => trivial)⟩⟩ rfl rfl hl.1 rfl (lv_room (Nat.le_of_ble_eq_true rfl)) d_M_isSafe_15 ⟨Nat.le_of_ble_eq_true rfl, Nat.le_of_ble_eq_true rfl⟩) hS (fun q _ h => hFc q h) hFc (fun r2 u9 t H1 locs ht hvm hw hB hz1 hk1 hS => ?_)
    obtain ⟨xt9, xg9, bF9, bL9, bB9, bA9, bY9⟩ := u9
    obtain ⟨hP1, hK1, hD1⟩ := hB
    rw [ht] at hP1
    try dsimp only at hw
    obtain ⟨hP, hD⟩ := va_join (wr := []) (w1 := wM h cI cZ xt9 (nI nF) (nI nC) xg9 aP (fun c => nI (cf c)) (fun c => nI (ct c)) aK bF9 bL9 bB9 bA9 bY9 bR oT oO oR bS) hP hD [0, 1, 2, 3, 4, 5, 6, 7, 8, 9, 10, 11, 12, 13, 14] [] rfl rfl (by decide) (by decide) hk1 hFc hP1 hD1
    generalize H1 = H at hP hS ⊢
    have hP : va_P (dC, dI) kls (wM h cI cZ xt9 (nI nF) (nI nC) xg9 aP (fun c => nI (cf c)) (fun c => nI (ct c)) aK bF9 bL9 bB9 bA9 bY9 bR oT oO oR bS) H := hP
    have hD : va_D A (wM h cI cZ xt9 (nI nF) (nI nC) xg9 aP (fun c => nI (cf c)) (fun c => nI (ct c)) aK bF9 bL9 bB9 bA9 bY9 bR oT oO oR bS) := hD
    rcases hw with ⟨hr9, hu9, hle, hg9, hE9⟩ | ⟨hr9, hu9, hgt⟩
    · subst hr9
      subst hu9
      subst hg9
      have hsm : smE (gA nC cf ct aK rj K) := sm_of (fun c hc => ⟨by have := hS0 c hc; omega, by have := hS0 c hc; omega⟩) (bsG_ok nC cf ct aK rj (fun _ => true) K)
      refine lv_if_eq (tgt := 23) hx hb d_M_isSafe_18 (by decide) (fun _ => ?_) (fun c9 => absurd c9 (by decide +kernel))
      refine lv_aload_n hx hb d_M_isSafe_23 rfl (lv_at hl 0 rfl) ?_
      refine lv_iload_n hx hb d_M_isSafe_24 rfl (lv_at hl 1 rfl) ?_
      have hFc := va_free (wc := wM h cI cZ (nI 0) (nI nF) (nI nC) (nI ((gA nC cf ct aK rj K).length)) aP (fun c => nI (cf c)) (fun c => nI (ct c)) aK bF9 bL9 bB9 bA9 bY9 bR oT oO oR bS) hD hS hA [0, 1, 2, 3, 4, 5, 6, 7, 8, 9, 10, 11, 12, 13, 14] rfl
      refine va_calli (va_runV (As := [.int (nI i1)]) (rest := []) ⟨hx, hb, hml, hown, hk⟩ (m_reachedFrom l dC dI cI cZ h H.size (nI 0) (nI ((gA nC cf ct aK rj K).length)) aP aK bF9 bL9 bB9 bA9 bY9 bR oT oO oR bS nF nC i1 cf ct (hF) (hC) (hS0) (hi1)) (cwV 1 hk g_M_reachedFrom rfl rfl rfl (by decide +kernel) ⟨Nat.le_of_ble_eq_true rfl, Nat.le_of_ble_eq_true rfl⟩) ⟨fun a U g mk q => by obtain ⟨q0, q1, qP, qK, qD⟩ := q; exact ⟨q0, q1, qP, va_K.moved (u := U) (U := U.calling g mk a) (Vm.Alike.refl U.vm) qK, qD⟩, va_recv hK hP (ci := 0) (q0 := 0) rfl rfl, fun U hU hW => ⟨rfl, by rw [hU], by rw [hU]; exact hP, va_K.moved hW.alike hK, hD.weaken (fun _ _ _ _ => trivial)⟩⟩ rfl rfl hl.1 rfl (lv_room (Nat.le_of_ble_eq_true rfl)) d_M_isSafe_25 ⟨Nat.le_of_ble_eq_true rfl, Nat.le_of_ble_eq_true rfl⟩) hS (fun q _ h => hFc q h) hFc (fun r3 u9 t H1 locs ht hvm hw hB hz1 hk1 hS => ?_)
      obtain ⟨hP1, hK1, hD1⟩ := hB
      rw [ht] at hP1
      try dsimp only at hw
      obtain ⟨hP, hD⟩ := va_join (wr := []) (w1 := wM h cI cZ (nI 0) (nI nF) (nI nC) (nI ((gA nC cf ct aK rj K).length)) aP (fun c => nI (cf c)) (fun c => nI (ct c)) aK bF9 bL9 bB9 bA9 bY9 bR oT oO oR bS) hP hD [0, 1, 2, 3, 4, 5, 6, 7, 8, 9, 10, 11, 12, 13, 14] [] rfl rfl (by decide) (by decide) hk1 hFc hP1 hD1
      generalize H1 = H at hP hS ⊢
      have hP : va_P (dC, dI) kls (wM h cI cZ (nI 0) (nI nF) (nI nC) (nI ((gA nC cf ct aK rj K).length)) aP (fun c => nI (cf c)) (fun c => nI (ct c)) aK bF9 bL9 bB9 bA9 bY9 bR oT oO oR bS) H := hP
      have hD : va_D A (wM h cI cZ (nI 0) (nI nF) (nI nC) (nI ((gA nC cf ct aK rj K).length)) aP (fun c => nI (cf c)) (fun c => nI (ct c)) aK bF9 bL9 bB9 bA9 bY9 bR oT oO oR bS) := hD
      subst hw
      refine lv_iconst (v := nI 1) hx hb d_M_isSafe_28 (by decide +kernel) ?_
      refine lv_iload_n hx hb d_M_isSafe_29 rfl (lv_at hl 1 rfl) ?_
      refine lv_ishl hx hb d_M_isSafe_30 ?_
      refine lv_topi (fun z4 ez4 => ?_)
      obtain rfl : z4 = shl (nI 1) i1 := ez4.trans (rfl)
      refine lv_ior hx hb d_M_isSafe_31 ?_
      refine lv_topi (fun z5 ez5 => ?_)
      obtain rfl : z5 = nI (rcN nC cf ct i1 nF ||| 2 ^ i1) := ez5.trans (by rw [shl_1 _ (by omega), nx_or])
      have hAl : rcN nC cf ct i1 nF ||| 2 ^ i1 < 2 ^ nF := Nat.or_lt_two_pow (rcN_lt nC cf ct i1 (fun c hc => (hS0 c hc).2) nF) (Nat.pow_lt_pow_right (by omega) hi1)
      have hp2 := p2_lt hF
      refine lv_istore_n (lv' := [(2, .int (nI (rcN nC cf ct i1 nF ||| 2 ^ i1))), (0, .ref (h 0)), (1, .int (nI i1))]) hx hb d_M_isSafe_32 rfl hl (by decide) rfl (fun ls hl => ?_)
      refine lv_iconst (v := nI 1) hx hb d_M_isSafe_33 (by decide +kernel) ?_
      refine lv_istore_n (lv' := [(3, .int (nI 1)), (2, .int (nI (rcN nC cf ct i1 nF ||| 2 ^ i1))), (0, .ref (h 0)), (1, .int (nI i1))]) hx hb d_M_isSafe_34 rfl hl (by decide) rfl (fun ls hl => ?_)
      refine lv_iconst (v := nI 0) hx hb d_M_isSafe_35 (by decide +kernel) ?_
      refine lv_istore (lv' := [(4, .int (nI 0)), (3, .int (nI 1)), (2, .int (nI (rcN nC cf ct i1 nF ||| 2 ^ i1))), (0, .ref (h 0)), (1, .int (nI i1))]) hx hb d_M_isSafe_36 hl (by decide) rfl (fun ls hl => ?_)
      have lp : ∀ (n_lp : Nat) (k : Nat) (b : Nat), (k ≤ nF) → ((b = 1 ∧ ∀ g, g < k → (rcN nC cf ct i1 nF ||| 2 ^ i1).testBit g = true → ∀ en ∈ gA nC cf ct aK rj K, ¬ (en.1 = g ∧ en.2.1 = g ∧ badX en.2.2.1)) ∨ (b = 0 ∧ ∃ g, g < nF ∧ (rcN nC cf ct i1 nF ||| 2 ^ i1).testBit g = true ∧ ∃ en ∈ gA nC cf ct aK rj K, en.1 = g ∧ en.2.1 = g ∧ badX en.2.2.1)) → nF - k < n_lp → ∀ (H : Heap) (locs : List Loc) (ls : Array Slot), va_P (dC, dI) kls (wM h cI cZ (nI 0) (nI nF) (nI nC) (nI ((gA nC cf ct aK rj K).length)) aP (fun c => nI (cf c)) (fun c => nI (ct c)) aK bF9 bL9 bB9 bA9 bY9 bR oT oO oR bS) H → va_D A (wM h cI cZ (nI 0) (nI nF) (nI nC) (nI ((gA nC cf ct aK rj K).length)) aP (fun c => nI (cf c)) (fun c => nI (ct c)) aK bF9 bL9 bB9 bA9 bY9 bR oT oO oR bS) → va_S A s.heap H locs → lv_has ls 5 [(0, .ref (h 0)), (1, .int (nI i1)), (2, .int (nI (rcN nC cf ct i1 nF ||| 2 ^ i1))), (3, .int (nI b)), (4, .int (nI k))] → W p l e (headSpec w_M_isSafe ({ frames := 4, cells := 0, slots := 0, locals := 96 })).room s m ([.ref (h 0), .int (nI i1)]).toArray below meth c H locs 0 0 (MQ below (va_Qi (fun (r : Int32) (u : Int32 × Int32 × (Nat → Int32) × (Nat → Int32) × (Nat → Int32) × (Nat → Int32) × (Nat → Int32)) => ((¬ ∃ i, i < nF ∧ (nI i1) = nI i) ∧ u.1 = nI 1) ∨ ∃ i, i < nF ∧ (nI i1) = nI i ∧ ((800 < (gA nC cf ct aK rj K).length ∧ u.1 = nI 2) ∨ ((gA nC cf ct aK rj K).length ≤ 800 ∧ u.1 = nI 0 ∧ ((r = nI 1 ∧ ∀ g, g < nF → (rcN nC cf ct i nF ||| 2 ^ i).testBit g = true → ∀ en ∈ gA nC cf ct aK rj K, ¬ (en.1 = g ∧ en.2.1 = g ∧ badX en.2.2.1)) ∨ (r = nI 0 ∧ ∃ g, g < nF ∧ (rcN nC cf ct i nF ||| 2 ^ i).testBit g = true ∧ ∃ en ∈ gA nC cf ct aK rj K, en.1 = g ∧ en.2.1 = g ∧ badX en.2.2.1))))) (fun (u : Int32 × Int32 × (Nat → Int32) × (Nat → Int32) × (Nat → Int32) × (Nat → Int32) × (Nat → Int32)) (t : State) => va_P (dC, dI) kls (wM h cI cZ u.1 (nI nF) (nI nC) u.2.1 aP (fun c => nI (cf c)) (fun c => nI (ct c)) aK u.2.2.1 u.2.2.2.1 u.2.2.2.2.1 u.2.2.2.2.2.1 u.2.2.2.2.2.2 bR oT oO oR bS) t.heap ∧ va_K (dC, dI) kls (tyM cI cZ) t ∧ va_D (A) (wM h cI cZ u.1 (nI nF) (nI nC) u.2.1 aP (fun c => nI (cf c)) (fun c => nI (ct c)) aK u.2.2.1 u.2.2.2.1 u.2.2.2.2.1 u.2.2.2.2.2.1 u.2.2.2.2.2.2 bR oT oO oR bS)) A) ([.ref (h 0), .int (nI i1)]).toArray s 0 0 A) (F0 m 38 ls []) := by
        intro n_lp
        induction n_lp with
        | zero => intro k b hk0 hb2 hn; exact absurd hn (Nat.not_lt_zero _)
        | succ n_lp ih_lp =>
          intro k b hk0 hb2 hn H locs ls hP hD hS hl
          have hb9 : b < 2 := by rcases hb2 with ⟨h1, -⟩ | ⟨h0, -⟩ <;> omega
          have hnb : narrow .boolean (.int (nI b)) = .int (nI b) := by rcases hb2 with ⟨rfl, -⟩ | ⟨rfl, -⟩ <;> rfl
          refine lv_iload hx hb d_M_isSafe_38 (lv_at hl 4 rfl) ?_
          refine lv_aload_n hx hb d_M_isSafe_40 rfl (lv_at hl 0 rfl) ?_
          refine va_get (D := (dC, dI)) (ci := 0) (v := .int (nI nF)) (C := R_M) (T := F_M) (N := 18) hx hb hk k_M_f hown hK hP 0 rfl rfl 1 (by decide) (hk _ k_M_9) (fun _ h9 => h9) rfl d_M_isSafe_41 ?_
          refine lv_icmp_ge (tgt := 82) hx hb d_M_isSafe_44 (by decide) (fun c_44 => ?_) (fun c_44 => ?_)
          · have c_44 : nF ≤ k := (nI_leI (a := nF) (b := k) (by omega) (by omega)).mp c_44
            refine lv_iload_n hx hb d_M_isSafe_82 rfl (lv_at hl 3 rfl) ?_
            have hkF : k = nF := by omega
            have hq : (nI b = nI 1 ∧ ∀ g, g < nF → (rcN nC cf ct i1 nF ||| 2 ^ i1).testBit g = true → ∀ en ∈ gA nC cf ct aK rj K, ¬ (en.1 = g ∧ en.2.1 = g ∧ badX en.2.2.1)) ∨ (nI b = nI 0 ∧ ∃ g, g < nF ∧ (rcN nC cf ct i1 nF ||| 2 ^ i1).testBit g = true ∧ ∃ en ∈ gA nC cf ct aK rj K, en.1 = g ∧ en.2.1 = g ∧ badX en.2.2.1) := by
              rcases hb2 with ⟨rfl, h1⟩ | ⟨rfl, h0⟩
              · exact Or.inl ⟨rfl, fun g hg => h1 g (by omega)⟩
              · exact Or.inr ⟨rfl, h0⟩
            exact W.zret (v := nI b) (ty := .boolean) hx hb hr hnb (fun t ht hW => ⟨⟨nI b, (nI 0, nI (gA nC cf ct aK rj K).length, bF9, bL9, bB9, bA9, bY9), rfl, Or.inr ⟨i1, hi1, rfl, Or.inr ⟨hle, rfl, hq⟩⟩, by rw [ht]; exact hP, va_K.moved hW.alike hK, hD⟩, hS.F ht⟩) hS.2.2 d_M_isSafe_83
          · have c_44 : ¬ nF ≤ k := fun z9 => c_44 ((nI_leI (a := nF) (b := k) (by omega) (by omega)).mpr z9)
            refine lv_iload_n hx hb d_M_isSafe_47 rfl (lv_at hl 2 rfl) ?_
            refine lv_iload hx hb d_M_isSafe_48 (lv_at hl 4 rfl) ?_
            refine lv_ishr hx hb d_M_isSafe_50 ?_
            refine lv_topi (fun z6 ez6 => ?_)
            obtain rfl : z6 = sar (nI (rcN nC cf ct i1 nF ||| 2 ^ i1)) k := ez6.trans (rfl)
            refine lv_iconst (v := nI 1) hx hb d_M_isSafe_51 (by decide +kernel) ?_
            refine lv_iand hx hb d_M_isSafe_52 ?_
            refine lv_topi (fun z7 ez7 => ?_)
            obtain rfl : z7 = nI (((rcN nC cf ct i1 nF ||| 2 ^ i1).testBit k).toNat) := ez7.trans (sar_bit (by omega) (by omega))
            have hbl : ((rcN nC cf ct i1 nF ||| 2 ^ i1).testBit k).toNat < 2 := by cases (rcN nC cf ct i1 nF ||| 2 ^ i1).testBit k <;> decide
            refine lv_iconst (v := nI 1) hx hb d_M_isSafe_53 (by decide +kernel) ?_
            refine lv_icmp_ne (tgt := 76) hx hb d_M_isSafe_54 (by decide) (fun c_54 => ?_) (fun c_54 => ?_)
            · have c_54 : ¬ ((rcN nC cf ct i1 nF ||| 2 ^ i1).testBit k).toNat = 1 := fun z9 => c_54 ((nI_eq (a := ((rcN nC cf ct i1 nF ||| 2 ^ i1).testBit k).toNat) (b := 1) (by omega) (by omega)).mpr z9)
              refine lv_iinc (v := nI (k + 1)) (lv' := [(4, .int (nI (k + 1))), (0, .ref (h 0)), (1, .int (nI i1)), (2, .int (nI (rcN nC cf ct i1 nF ||| 2 ^ i1))), (3, .int (nI b))]) hx hb d_M_isSafe_76 hl (k := 4) rfl (nI_add k 1) (by decide) rfl (fun ls hl => ?_)
              refine lv_goto (tgt := 38) hx hb d_M_isSafe_79 (by decide) ?_
              have hb3 : (b = 1 ∧ ∀ g, g < k + 1 → (rcN nC cf ct i1 nF ||| 2 ^ i1).testBit g = true → ∀ en ∈ gA nC cf ct aK rj K, ¬ (en.1 = g ∧ en.2.1 = g ∧ badX en.2.2.1)) ∨ (b = 0 ∧ ∃ g, g < nF ∧ (rcN nC cf ct i1 nF ||| 2 ^ i1).testBit g = true ∧ ∃ en ∈ gA nC cf ct aK rj K, en.1 = g ∧ en.2.1 = g ∧ badX en.2.2.1) := by
                rcases hb2 with ⟨h1, h2⟩ | h0
                · refine Or.inl ⟨h1, fun g hg ht => ?_⟩
                  rcases Nat.lt_or_ge g k with q | q
                  · exact h2 g q ht
                  · obtain rfl : g = k := by omega
                    rw [ht] at c_54
                    exact absurd rfl c_54
                · exact Or.inr h0
              exact ih_lp (k + 1) b (by omega) (hb3) (by omega) _ _ _ hP hD hS (lv_sub hl [1, 2, 3, 4, 0] rfl)
            · have c_54 : ((rcN nC cf ct i1 nF ||| 2 ^ i1).testBit k).toNat = 1 := (nI_eq (a := ((rcN nC cf ct i1 nF ||| 2 ^ i1).testBit k).toNat) (b := 1) (by omega) (by omega)).mp c_54
              refine lv_iload_n hx hb d_M_isSafe_57 rfl (lv_at hl 3 rfl) ?_
              refine lv_if_eq (tgt := 74) hx hb d_M_isSafe_58 (by decide) (fun c_58 => ?_) (fun c_58 => ?_)
              · have c_58 : b = 0 := (nI_eq (a := b) (b := 0) (by omega) (by omega)).mp c_58
                refine lv_iconst (v := nI 0) hx hb d_M_isSafe_74 (by decide +kernel) ?_
                refine lv_istore_n (lv' := [(3, .int (nI 0)), (0, .ref (h 0)), (1, .int (nI i1)), (2, .int (nI (rcN nC cf ct i1 nF ||| 2 ^ i1))), (4, .int (nI k))]) hx hb d_M_isSafe_75 rfl hl (by decide) rfl (fun ls hl => ?_)
                refine lv_iinc (v := nI (k + 1)) (lv' := [(4, .int (nI (k + 1))), (3, .int (nI 0)), (0, .ref (h 0)), (1, .int (nI i1)), (2, .int (nI (rcN nC cf ct i1 nF ||| 2 ^ i1)))]) hx hb d_M_isSafe_76 hl (k := 4) rfl (nI_add k 1) (by decide) rfl (fun ls hl => ?_)
                refine lv_goto (tgt := 38) hx hb d_M_isSafe_79 (by decide) ?_
                have htk : (rcN nC cf ct i1 nF ||| 2 ^ i1).testBit k = true := by cases hb9 : (rcN nC cf ct i1 nF ||| 2 ^ i1).testBit k; rw [hb9] at c_54; exact absurd c_54 (by decide); rfl
                have hb3 : (0 = 1 ∧ ∀ g, g < k + 1 → (rcN nC cf ct i1 nF ||| 2 ^ i1).testBit g = true → ∀ en ∈ gA nC cf ct aK rj K, ¬ (en.1 = g ∧ en.2.1 = g ∧ badX en.2.2.1)) ∨ (0 = 0 ∧ ∃ g, g < nF ∧ (rcN nC cf ct i1 nF ||| 2 ^ i1).testBit g = true ∧ ∃ en ∈ gA nC cf ct aK rj K, en.1 = g ∧ en.2.1 = g ∧ badX en.2.2.1) := by
                  refine Or.inr ⟨rfl, ?_⟩
                  first
                    | exact ⟨k, by omega, htk, hfall⟩
                    | (rcases hb2 with ⟨h1, -⟩ | ⟨-, h0⟩
                       · omega
                       · exact h0)
                exact ih_lp (k + 1) 0 (by omega) (hb3) (by omega) _ _ _ hP hD hS (lv_sub hl [2, 3, 4, 1, 0] rfl)
              · have c_58 : ¬ b = 0 := fun z9 => c_58 ((nI_eq (a := b) (b := 0) (by omega) (by omega)).mpr z9)
                refine lv_aload_n hx hb d_M_isSafe_61 rfl (lv_at hl 0 rfl) ?_
                refine lv_iload hx hb d_M_isSafe_62 (lv_at hl 4 rfl) ?_
                have hFc := va_free (wc := wM h cI cZ (nI 0) (nI nF) (nI nC) (nI ((gA nC cf ct aK rj K).length)) aP (fun c => nI (cf c)) (fun c => nI (ct c)) aK bF9 bL9 bB9 bA9 bY9 bR oT oO oR bS) hD hS hA [0, 1, 2, 3, 4, 5, 6, 7, 8, 9, 10, 11, 12, 13, 14] rfl
                refine va_calli (va_runV (As := [.int (nI k)]) (rest := []) ⟨hx, hb, hml, hown, hk⟩ (m_fallsAt l dC dI cI cZ h H.size (nI 0) (nI nF) (nI nC) aP (fun c => nI (cf c)) (fun c => nI (ct c)) aK bF9 bL9 bB9 bA9 bY9 bR oT oO oR bS (gA nC cf ct aK rj K) k (by omega) (hE9) (hsm) (by omega)) (cwV 1 hk g_M_fallsAt rfl rfl rfl (by decide +kernel) ⟨Nat.le_of_ble_eq_true rfl, Nat.le_of_ble_eq_true rfl⟩) ⟨fun a U g mk q => by obtain ⟨q0, q1, qP, qK, qD⟩ := q; exact ⟨q0, q1, qP, va_K.moved (u := U) (U := U.calling g mk a) (Vm.Alike.refl U.vm) qK, qD⟩, va_recv hK hP (ci := 0) (q0 := 0) rfl rfl, fun U hU hW => ⟨rfl, by rw [hU], by rw [hU]; exact hP, va_K.moved hW.alike hK, hD.weaken (fun _ _ _ _ => trivial)⟩⟩ rfl rfl hl.1 rfl (lv_room (Nat.le_of_ble_eq_true rfl)) d_M_isSafe_64 ⟨Nat.le_of_ble_eq_true rfl, Nat.le_of_ble_eq_true rfl⟩) hS (fun q _ h => hFc q h) hFc (fun r8 u9 t H1 locs ht hvm hw hB hz1 hk1 hS => ?_)
                obtain ⟨hP1, hK1, hD1⟩ := hB
                rw [ht] at hP1
                try dsimp only at hw
                obtain ⟨hP, hD⟩ := va_join (wr := []) (w1 := wM h cI cZ (nI 0) (nI nF) (nI nC) (nI ((gA nC cf ct aK rj K).length)) aP (fun c => nI (cf c)) (fun c => nI (ct c)) aK bF9 bL9 bB9 bA9 bY9 bR oT oO oR bS) hP hD [0, 1, 2, 3, 4, 5, 6, 7, 8, 9, 10, 11, 12, 13, 14] [] rfl rfl (by decide) (by decide) hk1 hFc hP1 hD1
                generalize H1 = H at hP hS ⊢
                have hP : va_P (dC, dI) kls (wM h cI cZ (nI 0) (nI nF) (nI nC) (nI ((gA nC cf ct aK rj K).length)) aP (fun c => nI (cf c)) (fun c => nI (ct c)) aK bF9 bL9 bB9 bA9 bY9 bR oT oO oR bS) H := hP
                have hD : va_D A (wM h cI cZ (nI 0) (nI nF) (nI nC) (nI ((gA nC cf ct aK rj K).length)) aP (fun c => nI (cf c)) (fun c => nI (ct c)) aK bF9 bL9 bB9 bA9 bY9 bR oT oO oR bS) := hD
                rcases hw with ⟨hr9, hfall⟩ | ⟨hr9, hfall⟩
                · subst hr9
                  refine lv_if_eq (tgt := 74) hx hb d_M_isSafe_67 (by decide) (fun c9 => absurd c9 (by decide +kernel)) (fun _ => ?_)
                  refine lv_iconst (v := nI 1) hx hb d_M_isSafe_70 (by decide +kernel) ?_
                  refine lv_goto (tgt := 75) hx hb d_M_isSafe_71 (by decide) ?_
                  refine lv_istore_n (lv' := [(3, .int (nI 1)), (0, .ref (h 0)), (1, .int (nI i1)), (2, .int (nI (rcN nC cf ct i1 nF ||| 2 ^ i1))), (4, .int (nI k))]) hx hb d_M_isSafe_75 rfl hl (by decide) rfl (fun ls hl => ?_)
                  refine lv_iinc (v := nI (k + 1)) (lv' := [(4, .int (nI (k + 1))), (3, .int (nI 1)), (0, .ref (h 0)), (1, .int (nI i1)), (2, .int (nI (rcN nC cf ct i1 nF ||| 2 ^ i1)))]) hx hb d_M_isSafe_76 hl (k := 4) rfl (nI_add k 1) (by decide) rfl (fun ls hl => ?_)
                  refine lv_goto (tgt := 38) hx hb d_M_isSafe_79 (by decide) ?_
                  have htk : (rcN nC cf ct i1 nF ||| 2 ^ i1).testBit k = true := by cases hb9 : (rcN nC cf ct i1 nF ||| 2 ^ i1).testBit k; rw [hb9] at c_54; exact absurd c_54 (by decide); rfl
                  have hb3 : (1 = 1 ∧ ∀ g, g < k + 1 → (rcN nC cf ct i1 nF ||| 2 ^ i1).testBit g = true → ∀ en ∈ gA nC cf ct aK rj K, ¬ (en.1 = g ∧ en.2.1 = g ∧ badX en.2.2.1)) ∨ (1 = 0 ∧ ∃ g, g < nF ∧ (rcN nC cf ct i1 nF ||| 2 ^ i1).testBit g = true ∧ ∃ en ∈ gA nC cf ct aK rj K, en.1 = g ∧ en.2.1 = g ∧ badX en.2.2.1) := by
                    refine Or.inl ⟨rfl, fun g hg ht => ?_⟩
                    rcases hb2 with ⟨-, h2⟩ | ⟨h0, -⟩
                    · rcases Nat.lt_or_ge g k with q | q
                      · exact h2 g q ht
                      · obtain rfl : g = k := by omega
                        exact hfall
                    · exact absurd h0 c_58
                  exact ih_lp (k + 1) 1 (by omega) (hb3) (by omega) _ _ _ hP hD hS (lv_sub hl [2, 3, 4, 1, 0] rfl)
                · subst hr9
                  refine lv_if_eq (tgt := 74) hx hb d_M_isSafe_67 (by decide) (fun _ => ?_) (fun c9 => absurd c9 (by decide +kernel))
                  refine lv_iconst (v := nI 0) hx hb d_M_isSafe_74 (by decide +kernel) ?_
                  refine lv_istore_n (lv' := [(3, .int (nI 0)), (0, .ref (h 0)), (1, .int (nI i1)), (2, .int (nI (rcN nC cf ct i1 nF ||| 2 ^ i1))), (4, .int (nI k))]) hx hb d_M_isSafe_75 rfl hl (by decide) rfl (fun ls hl => ?_)
                  refine lv_iinc (v := nI (k + 1)) (lv' := [(4, .int (nI (k + 1))), (3, .int (nI 0)), (0, .ref (h 0)), (1, .int (nI i1)), (2, .int (nI (rcN nC cf ct i1 nF ||| 2 ^ i1)))]) hx hb d_M_isSafe_76 hl (k := 4) rfl (nI_add k 1) (by decide) rfl (fun ls hl => ?_)
                  refine lv_goto (tgt := 38) hx hb d_M_isSafe_79 (by decide) ?_
                  have htk : (rcN nC cf ct i1 nF ||| 2 ^ i1).testBit k = true := by cases hb9 : (rcN nC cf ct i1 nF ||| 2 ^ i1).testBit k; rw [hb9] at c_54; exact absurd c_54 (by decide); rfl
                  have hb3 : (0 = 1 ∧ ∀ g, g < k + 1 → (rcN nC cf ct i1 nF ||| 2 ^ i1).testBit g = true → ∀ en ∈ gA nC cf ct aK rj K, ¬ (en.1 = g ∧ en.2.1 = g ∧ badX en.2.2.1)) ∨ (0 = 0 ∧ ∃ g, g < nF ∧ (rcN nC cf ct i1 nF ||| 2 ^ i1).testBit g = true ∧ ∃ en ∈ gA nC cf ct aK rj K, en.1 = g ∧ en.2.1 = g ∧ badX en.2.2.1) := by
                    refine Or.inr ⟨rfl, ?_⟩
                    first
                      | exact ⟨k, by omega, htk, hfall⟩
                      | (rcases hb2 with ⟨h1, -⟩ | ⟨-, h0⟩
                         · omega
                         · exact h0)
                  exact ih_lp (k + 1) 0 (by omega) (hb3) (by omega) _ _ _ hP hD hS (lv_sub hl [2, 3, 4, 1, 0] rfl)
      exact lp _ 0 1 (Nat.zero_le _) (Or.inl ⟨rfl, fun g hg => absurd hg (Nat.not_lt_zero _)⟩) (Nat.lt_succ_self _) _ _ _ hP hD hS (lv_sub hl [3, 4, 2, 1, 0] rfl)
    · subst hr9
      subst hu9
      refine lv_if_eq (tgt := 23) hx hb d_M_isSafe_18 (by decide) (fun c9 => absurd c9 (by decide +kernel)) (fun _ => ?_)
      refine lv_iconst (v := nI 0) hx hb d_M_isSafe_21 (by decide +kernel) ?_
      exact W.zret (v := nI 0) (ty := .boolean) hx hb hr rfl (fun t ht hW => ⟨⟨nI 0, (nI 2, xg9, bF9, bL9, bB9, bA9, bY9), rfl, Or.inr ⟨i1, hi1, rfl, Or.inl ⟨hgt, rfl⟩⟩, by rw [ht]; exact hP, va_K.moved hW.alike hK, hD⟩, hS.F ht⟩) hS.2.2 d_M_isSafe_22
  · subst hr9
    refine lv_if_ne (tgt := 13) hx hb d_M_isSafe_6 (by decide) (fun c9 => absurd c9 (by decide +kernel)) (fun _ => ?_)
    refine lv_iconst (v := nI 1) hx hb d_M_isSafe_9 (by decide +kernel) ?_
    refine lv_goto (tgt := 14) hx hb d_M_isSafe_10 (by decide) ?_
    refine lv_iconst (v := nI 0) hx hb d_M_isSafe_14 (by decide +kernel) ?_
    have hFc := va_free (wc := wM h cI cZ xt (nI nF) (nI nC) xg aP (fun c => nI (cf c)) (fun c => nI (ct c)) aK bF bL bB bA bY bR oT oO oR bS) hD hS hA [0, 1, 2, 3, 4, 5, 6, 7, 8, 9, 10, 11, 12, 13, 14] rfl
    refine va_calli (va_runV (As := [.int (nI 1), .int (nI 0)]) (rest := []) ⟨hx, hb, hml, hown, hk⟩ (m_refused_o l dC dI cI cZ h H.size xt (nI nF) (nI nC) xg aP (fun c => nI (cf c)) (fun c => nI (ct c)) aK bF bL bB bA bY bR oT oO oR bS  ) (cwV 2 hk g_M_refused rfl rfl rfl (by decide +kernel) ⟨Nat.le_of_ble_eq_true rfl, Nat.le_of_ble_eq_true rfl⟩) ⟨fun a U g mk q => by obtain ⟨q0, q1, qP, qK, qD⟩ := q; exact ⟨q0, q1, qP, va_K.moved (u := U) (U := U.calling g mk a) (Vm.Alike.refl U.vm) qK, qD⟩, va_recv hK hP (ci := 0) (q0 := 0) rfl rfl, fun U hU hW => ⟨rfl, by rw [hU], by rw [hU]; exact hP, va_K.moved hW.alike hK, hD.weaken (fun _ _ _ _ => trivial)⟩⟩ rfl rfl hl.1 rfl (lv_room (Nat.le_of_ble_eq_true rfl)) d_M_isSafe_15 ⟨Nat.le_of_ble_eq_true rfl, Nat.le_of_ble_eq_true rfl⟩) hS (fun q _ h => hFc q h) hFc (fun r9 u9 t H1 locs ht hvm hw hB hz1 hk1 hS => ?_)
    obtain ⟨xt9, rfl⟩ : ∃ z, z = u9 := ⟨_, rfl⟩
    obtain ⟨hP1, hK1, hD1⟩ := hB
    rw [ht] at hP1
    try dsimp only at hw
    obtain ⟨hP, hD⟩ := va_join (wr := []) (w1 := wM h cI cZ xt9 (nI nF) (nI nC) xg aP (fun c => nI (cf c)) (fun c => nI (ct c)) aK bF bL bB bA bY bR oT oO oR bS) hP hD [0, 1, 2, 3, 4, 5, 6, 7, 8, 9, 10, 11, 12, 13, 14] [] rfl rfl (by decide) (by decide) hk1 hFc hP1 hD1
    generalize H1 = H at hP hS ⊢
    have hP : va_P (dC, dI) kls (wM h cI cZ xt9 (nI nF) (nI nC) xg aP (fun c => nI (cf c)) (fun c => nI (ct c)) aK bF bL bB bA bY bR oT oO oR bS) H := hP
    have hD : va_D A (wM h cI cZ xt9 (nI nF) (nI nC) xg aP (fun c => nI (cf c)) (fun c => nI (ct c)) aK bF bL bB bA bY bR oT oO oR bS) := hD
    obtain ⟨hr9, hu9⟩ := hw
    subst hr9
    subst hu9
    refine lv_if_eq (tgt := 23) hx hb d_M_isSafe_18 (by decide) (fun c9 => absurd c9 (by decide +kernel)) (fun _ => ?_)
    refine lv_iconst (v := nI 0) hx hb d_M_isSafe_21 (by decide +kernel) ?_
    exact W.zret (v := nI 0) (ty := .boolean) hx hb hr rfl (fun t ht hW => ⟨⟨nI 0, (nI 1, xg, bF, bL, bB, bA, bY), rfl, Or.inl ⟨hno_f, rfl⟩, by rw [ht]; exact hP, va_K.moved hW.alike hK, hD⟩, hS.F ht⟩) hS.2.2 d_M_isSafe_22
end
section
/-- the sorted row: its numbers; what it holds of the first entries -/
def hT (T : List Int32) (bS : Nat → Int32) : Prop := ∀ j x, T[j]? = some x → bS j = x
def inT (es : List En) (f g i : Nat) (T : List Int32) : Prop := (T.map uN).Pairwise (· < ·) ∧ (∀ x, x ∈ T ↔ ∃ j en, j < i ∧ es[j]? = some en ∧ qFG f g en = true ∧ en.2.2.1 = x) ∧ T.length = (es.take i).countP (qFG f g)
theorem gp_put {T : List Int32} {p : Nat} {x : Int32} (hS : (T.map uN).Pairwise (· < ·)) (hp : p ≤ T.length) (hx : x ∉ T) (hlo : ∀ y, 0 < p → T[p - 1]? = some y → ¬ uN x < uN y) (hhi : ∀ j y, p ≤ j → T[j]? = some y → uN x < uN y) : ((T.take p ++ x :: T.drop p).map uN).Pairwise (· < ·) := by
  rw [List.map_append, List.map_cons, List.map_take, List.map_drop]
  refine srt_put hS (by rw [List.length_map]; exact hp) ?_ ?_
  · intro j z hj hz
    rw [List.getElem?_map] at hz
    cases hy : T[j]? with
    | none => rw [hy] at hz; cases hz
    | some y =>
      rw [hy] at hz
      cases hz
      obtain ⟨y1, hy1⟩ : ∃ y1, T[p - 1]? = some y1 := ⟨_, List.getElem?_eq_getElem (by omega)⟩
      have h1 := hlo y1 (by omega) hy1
      have hne : uN y1 ≠ uN x := fun q => hx (uN_inj q ▸ List.mem_of_getElem? hy1)
      rcases Nat.lt_or_ge j (p - 1) with h2 | h2
      · have h3 := List.pairwise_iff_getElem.mp hS j (p - 1) (by rw [List.length_map]; omega) (by rw [List.length_map]; omega) h2
        rw [List.getElem_map, List.getElem_map] at h3
        have e1 : T[j] = y := Option.some.inj ((List.getElem?_eq_getElem (by omega)).symm.trans hy)
        have e2 : T[p - 1] = y1 := Option.some.inj ((List.getElem?_eq_getElem (by omega)).symm.trans hy1)
        rw [e1, e2] at h3
        omega
      · obtain rfl : j = p - 1 := by omega
        rw [hy] at hy1
        cases hy1
        omega
  · intro j z hj hz
    rw [List.getElem?_map] at hz
    cases hy : T[j]? with
    | none => rw [hy] at hz; cases hz
    | some y =>
      rw [hy] at hz
      cases hz
      exact hhi j y hj hy
theorem hT_put {T : List Int32} {bS : Nat → Int32} {p : Nat} {x : Int32} (hp : p ≤ T.length) (h1 : ∀ j y, j < p → T[j]? = some y → bS j = y) (h2 : ∀ j y, p ≤ j → T[j]? = some y → bS (j + 1) = y) : hT (T.take p ++ x :: T.drop p) (upd bS p x) := by
  intro j y hy
  have hl : (T.take p).length = p := by rw [List.length_take]; omega
  rcases Nat.lt_trichotomy j p with h | h | h
  · rw [List.getElem?_append_left (by omega), List.getElem?_take_of_lt h] at hy
    rw [pk_un (by omega)]
    exact h1 j y h hy
  · subst h
    rw [List.getElem?_append_right (by omega), hl, Nat.sub_self] at hy
    cases hy
    exact pk_us
  · rw [List.getElem?_append_right (by omega), hl] at hy
    obtain ⟨q, hq⟩ : ∃ q, j - p = q + 1 := ⟨j - p - 1, by omega⟩
    rw [hq, List.getElem?_cons_succ, List.getElem?_drop] at hy
    rw [pk_un (by omega)]
    have := h2 (p + q) y (by omega) hy
    rw [show p + q + 1 = j by omega] at this
    exact this
theorem inT_skip {es : List En} {f g i : Nat} {T : List Int32} {en : En} (h : inT es f g i T) (he : es[i]? = some en) (hq : qFG f g en = false) : inT es f g (i + 1) T := by
  obtain ⟨h1, h2, h3⟩ := h
  refine ⟨h1, fun x => ?_, ?_⟩
  · rw [h2]
    constructor
    · rintro ⟨j, e2, hj, r⟩; exact ⟨j, e2, by omega, r⟩
    · rintro ⟨j, e2, hj, r1, r2, r3⟩
      rcases Nat.lt_or_ge j i with q | q
      · exact ⟨j, e2, q, r1, r2, r3⟩
      · obtain rfl : j = i := by omega
        rw [he] at r1
        cases r1
        rw [hq] at r2
        cases r2
  · rw [cnt_next _ he, hq, h3]; rfl
theorem inT_put {es : List En} {f g i p : Nat} {T : List Int32} {en : En} (h : inT es f g i T) (he : es[i]? = some en) (hq : qFG f g en = true) (hp : p ≤ T.length) (hS : ((T.take p ++ en.2.2.1 :: T.drop p).map uN).Pairwise (· < ·)) : inT es f g (i + 1) (T.take p ++ en.2.2.1 :: T.drop p) := by
  obtain ⟨h1, h2, h3⟩ := h
  refine ⟨hS, fun x => ?_, ?_⟩
  · have hm : x ∈ T.take p ++ en.2.2.1 :: T.drop p ↔ x = en.2.2.1 ∨ x ∈ T := by
      have h9 : x ∈ T ↔ x ∈ T.take p ∨ x ∈ T.drop p := by
        conv => lhs; rw [← List.take_append_drop p T]
        exact List.mem_append
      rw [List.mem_append, List.mem_cons, h9]
      constructor
      · rintro (q | q | q)
        · exact Or.inr (Or.inl q)
        · exact Or.inl q
        · exact Or.inr (Or.inr q)
      · rintro (q | q | q)
        · exact Or.inr (Or.inl q)
        · exact Or.inl q
        · exact Or.inr (Or.inr q)
    rw [hm, h2]
    constructor
    · rintro (rfl | ⟨j, e2, hj, r⟩)
      · exact ⟨i, en, by omega, he, hq, rfl⟩
      · exact ⟨j, e2, by omega, r⟩
    · rintro ⟨j, e2, hj, r1, r2, r3⟩
      rcases Nat.lt_or_ge j i with q | q
      · exact Or.inr ⟨j, e2, q, r1, r2, r3⟩
      · obtain rfl : j = i := by omega
        rw [he] at r1
        cases r1
        exact Or.inl r3.symm
  · rw [cnt_next _ he, hq, ← h3, List.length_append, List.length_cons, List.length_take, List.length_drop]
    show _ = T.length + 1
    omega
/-- a graph that comes again would be another entry of the same key -/
theorem inT_new {es : List En} {f g i : Nat} {T : List Int32} {en : En} (hn : (es.map kyE).Nodup) (h : inT es f g i T) (he : es[i]? = some en) (hq : qFG f g en = true) : en.2.2.1 ∉ T := by
  intro hm
  obtain ⟨j, e2, hj, r1, r2, r3⟩ := (h.2.1 _).mp hm
  have k1 : kyE e2 = kyE en := by
    unfold qFG at hq r2
    rw [Bool.and_eq_true, beq_iff_eq, beq_iff_eq] at hq r2
    unfold kyE
    rw [hq.1, hq.2, r2.1, r2.2, r3]
  have a1 : (es.map kyE)[j]? = some (kyE en) := by rw [List.getElem?_map, r1]; exact congrArg some k1
  have a2 : (es.map kyE)[i]? = some (kyE en) := by rw [List.getElem?_map, he]; rfl
  have hj2 : j < (es.map kyE).length := (List.getElem?_eq_some_iff.mp a1).1
  have hi2 : i < (es.map kyE).length := (List.getElem?_eq_some_iff.mp a2).1
  have := List.pairwise_iff_getElem.mp hn j i hj2 hi2 hj
  exact this ((Option.some.inj ((List.getElem?_eq_getElem hj2).symm.trans a1)).trans (Option.some.inj ((List.getElem?_eq_getElem hi2).symm.trans a2)).symm)
set_option maxHeartbeats 4000000 in
set_option maxRecDepth 100000 in
theorem m_graph (l : Launch) (dC : Nat → ClassId) (dI : Nat → Nat → Nat) (cI cZ : ClassId) (h : Nat → Nat) (sz : Nat) (xt xg : Int32) (aP aK bF bL bB bA bY bR oT oO oR bS : Nat → Int32) (nF nC K : Nat) (cf ct : Nat → Nat) (f g q : Int32) (hF : nF ≤ 10) (hC : nC ≤ 20) (hK8 : 801 ≤ K) (hS0 : ∀ c, c < nC → cf c < nF ∧ ct c < nF) : Met l y_M_graph w_M_graph ({ frames := 4, cells := 0, slots := 0, locals := 96 }) (va_Pc [.ref (h 0), .int f, .int g, .int q] (fun U => U.heap.size = sz ∧ va_P (dC, dI) kls (wM h cI cZ xt (nI nF) (nI nC) xg aP (fun c => nI (cf c)) (fun c => nI (ct c)) aK bF bL bB bA bY bR oT oO oR bS) U.heap ∧ va_K (dC, dI) kls (tyM cI cZ) U ∧ va_D (fun _ => True) (wM h cI cZ xt (nI nF) (nI nC) xg aP (fun c => nI (cf c)) (fun c => nI (ct c)) aK bF bL bB bA bY bR oT oO oR bS))) (va_Qi (fun (r : Int32) (u : Int32 × Int32 × (Nat → Int32) × (Nat → Int32) × (Nat → Int32) × (Nat → Int32) × (Nat → Int32) × (Nat → Int32)) => ((¬ (((∃ i, i < nF ∧ f = nI i) ∧ (∃ j, j < nF ∧ g = nI j)) ∧ 0 ≤ q)) ∧ u.1 = nI 1) ∨ ∃ i j k, i < nF ∧ j < nF ∧ k < 2 ^ 31 ∧ f = nI i ∧ g = nI j ∧ q = nI k ∧ ((800 < (gA nC cf ct aK rj K).length ∧ u.1 = nI 2) ∨ ((gA nC cf ct aK rj K).length ≤ 800 ∧ (((gA nC cf ct aK rj K).countP (qFG i j) ≤ k ∧ u.1 = nI 1) ∨ (k < (gA nC cf ct aK rj K).countP (qFG i j) ∧ u.1 = nI 0 ∧ ∃ T, inT (gA nC cf ct aK rj K) i j (gA nC cf ct aK rj K).length T ∧ T[k]? = some r))))) (fun (u : Int32 × Int32 × (Nat → Int32) × (Nat → Int32) × (Nat → Int32) × (Nat → Int32) × (Nat → Int32) × (Nat → Int32)) (t : State) => va_P (dC, dI) kls (wM h cI cZ u.1 (nI nF) (nI nC) u.2.1 aP (fun c => nI (cf c)) (fun c => nI (ct c)) aK u.2.2.1 u.2.2.2.1 u.2.2.2.2.1 u.2.2.2.2.2.1 u.2.2.2.2.2.2.1 bR oT oO oR u.2.2.2.2.2.2.2) t.heap ∧ va_K (dC, dI) kls (tyM cI cZ) t ∧ va_D (va_A (wM h cI cZ xt (nI nF) (nI nC) xg aP (fun c => nI (cf c)) (fun c => nI (ct c)) aK bF bL bB bA bY bR oT oO oR bS) sz) (wM h cI cZ u.1 (nI nF) (nI nC) u.2.1 aP (fun c => nI (cf c)) (fun c => nI (ct c)) aK u.2.2.1 u.2.2.2.1 u.2.2.2.2.1 u.2.2.2.2.2.1 u.2.2.2.2.2.2.1 bR oT oO oR u.2.2.2.2.2.2.2)) (va_A (wM h cI cZ xt (nI nF) (nI nC) xg aP (fun c => nI (cf c)) (fun c => nI (ct c)) aK bF bL bB bA bY bR oT oO oR bS) sz)) 0 0 (va_A (wM h cI cZ xt (nI nF) (nI nC) xg aP (fun c => nI (cf c)) (fun c => nI (ct c)) aK bF bL bB bA bY bR oT oO oR bS) sz) := by
  refine Met.ofW (cc := c_M_graph) (maxL := 7) (ret := (some .int)) (by decide) rfl ?_
  intro p e s m args below meth c s₁ B hml hv
  obtain ⟨rfl, hsz, hP, hK, hD0⟩ := hv
  have hx := B.exec
  have hb := B.bytes
  have hr := B.returns
  have hts := atoms_spec (ws := w_M_graph) B.pre
  have hk : ∀ w ∈ wMw, w.before _ s = true := fun w h => hts w (List.mem_cons_of_mem _ h)
  have hown : s.vm.findClass R_M = some m.cls := findClass_of_methodNamed B.named
  have hlocks := B.notSynchronized
  subst hsz
  have hD := hD0.self (sz := s.heap.size)
  generalize hAe : va_A (wM h cI cZ xt (nI nF) (nI nC) xg aP (fun c => nI (cf c)) (fun c => nI (ct c)) aK bF bL bB bA bY bR oT oO oR bS) s.heap.size = A at hD ⊢
  have hA : ∀ q : Nat, s.heap.size ≤ q → A q := fun q h => by rw [← hAe]; exact Or.inr h
  have hS : va_S A s.heap s.heap [] := va_S.rf
  have hl := lv_entry ([.ref (h 0), .int f, .int g, .int q]) (n := 7) (Nat.le_of_ble_eq_true rfl)
  rw [lg_entry_eq]
  generalize (lg_sl ([.ref (h 0), .int f, .int g, .int q]) ++ List.replicate (7 - (lg_sl ([.ref (h 0), .int f, .int g, .int q])).length) Slot.unset).toArray = ls at hl ⊢
  have hl : lv_has ls 7 [(0, .ref (h 0)), (1, .int f), (2, .int g), (3, .int q)] := hl
  refine lv_aload_n hx hb d_M_graph_0 rfl (lv_at hl 0 rfl) ?_
  refine lv_aload_n hx hb d_M_graph_1 rfl (lv_at hl 0 rfl) ?_
  refine lv_iload_n hx hb d_M_graph_2 rfl (lv_at hl 1 rfl) ?_
  have hFc := va_free (wc := wM h cI cZ xt (nI nF) (nI nC) xg aP (fun c => nI (cf c)) (fun c => nI (ct c)) aK bF bL bB bA bY bR oT oO oR bS) hD hS hA [0, 1, 2, 3, 4, 5, 6, 7, 8, 9, 10, 11, 12, 13, 14] rfl
  refine va_calli (va_runV (As := [.int f]) (rest := [.ref (h 0)]) ⟨hx, hb, hml, hown, hk⟩ (m_isFunction l dC dI cI cZ h s.heap.size xt (nI nC) xg aP (fun c => nI (cf c)) (fun c => nI (ct c)) aK bF bL bB bA bY bR oT oO oR bS nF f (by omega)) (cwV 1 hk g_M_isFunction rfl rfl rfl (by decide +kernel) ⟨Nat.le_of_ble_eq_true rfl, Nat.le_of_ble_eq_true rfl⟩) ⟨fun a U g mk q => by obtain ⟨q0, q1, qP, qK, qD⟩ := q; exact ⟨q0, q1, qP, va_K.moved (u := U) (U := U.calling g mk a) (Vm.Alike.refl U.vm) qK, qD⟩, va_recv hK hP (ci := 0) (q0 := 0) rfl rfl, fun U hU hW => ⟨rfl, by rw [hU], by rw [hU]; exact hP, va_K.moved hW.alike hK, hD.weaken (fun _ _ _ _ => trivial)⟩⟩ rfl rfl hl.1 rfl (lv_room (Nat.le_of_ble_eq_true rfl)) d_M_graph_3 ⟨Nat.le_of_ble_eq_true rfl, Nat.le_of_ble_eq_true rfl⟩) hS (fun q _ h => hFc q h) hFc (fun r1 u9 t H1 locs ht hvm hw hB hz1 hk1 hS => ?_)
  obtain ⟨hP1, hK1, hD1⟩ := hB
  rw [ht] at hP1
  try dsimp only at hw
  obtain ⟨hP, hD⟩ := va_join (wr := []) (w1 := wM h cI cZ xt (nI nF) (nI nC) xg aP (fun c => nI (cf c)) (fun c => nI (ct c)) aK bF bL bB bA bY bR oT oO oR bS) hP hD [0, 1, 2, 3, 4, 5, 6, 7, 8, 9, 10, 11, 12, 13, 14] [] rfl rfl (by decide) (by decide) hk1 hFc hP1 hD1
  generalize H1 = H at hP hS ⊢
  have hP : va_P (dC, dI) kls (wM h cI cZ xt (nI nF) (nI nC) xg aP (fun c => nI (cf c)) (fun c => nI (ct c)) aK bF bL bB bA bY bR oT oO oR bS) H := hP
  have hD : va_D A (wM h cI cZ xt (nI nF) (nI nC) xg aP (fun c => nI (cf c)) (fun c => nI (ct c)) aK bF bL bB bA bY bR oT oO oR bS) := hD
  rcases hw with ⟨hr9, i1, hi1, hfj⟩ | ⟨hr9, hno_f⟩
  · subst hr9
    subst hfj
    refine lv_if_eq (tgt := 21) hx hb d_M_graph_6 (by decide) (fun c9 => absurd c9 (by decide +kernel)) (fun _ => ?_)
    refine lv_aload_n hx hb d_M_graph_9 rfl (lv_at hl 0 rfl) ?_
    refine lv_iload_n hx hb d_M_graph_10 rfl (lv_at hl 2 rfl) ?_
    have hFc := va_free (wc := wM h cI cZ xt (nI nF) (nI nC) xg aP (fun c => nI (cf c)) (fun c => nI (ct c)) aK bF bL bB bA bY bR oT oO oR bS) hD hS hA [0, 1, 2, 3, 4, 5, 6, 7, 8, 9, 10, 11, 12, 13, 14] rfl
    refine va_calli (va_runV (As := [.int g]) (rest := [.ref (h 0)]) ⟨hx, hb, hml, hown, hk⟩ (m_isFunction l dC dI cI cZ h H.size xt (nI nC) xg aP (fun c => nI (cf c)) (fun c => nI (ct c)) aK bF bL bB bA bY bR oT oO oR bS nF g (by omega)) (cwV 1 hk g_M_isFunction rfl rfl rfl (by decide +kernel) ⟨Nat.le_of_ble_eq_true rfl, Nat.le_of_ble_eq_true rfl⟩) ⟨fun a U g mk q => by obtain ⟨q0, q1, qP, qK, qD⟩ := q; exact ⟨q0, q1, qP, va_K.moved (u := U) (U := U.calling g mk a) (Vm.Alike.refl U.vm) qK, qD⟩, va_recv hK hP (ci := 0) (q0 := 0) rfl rfl, fun U hU hW => ⟨rfl, by rw [hU], by rw [hU]; exact hP, va_K.moved hW.alike hK, hD.weaken (fun _ _ _ _ => trivial)⟩⟩ rfl rfl hl.1 rfl (lv_room (Nat.le_of_ble_eq_true rfl)) d_M_graph_11 ⟨Nat.le_of_ble_eq_true rfl, Nat.le_of_ble_eq_true rfl⟩) hS (fun q _ h => hFc q h) hFc (fun r2 u9 t H1 locs ht hvm hw hB hz1 hk1 hS => ?_)
    obtain ⟨hP1, hK1, hD1⟩ := hB
    rw [ht] at hP1
    try dsimp only at hw
    obtain ⟨hP, hD⟩ := va_join (wr := []) (w1 := wM h cI cZ xt (nI nF) (nI nC) xg aP (fun c => nI (cf c)) (fun c => nI (ct c)) aK bF bL bB bA bY bR oT oO oR bS) hP hD [0, 1, 2, 3, 4, 5, 6, 7, 8, 9, 10, 11, 12, 13, 14] [] rfl rfl (by decide) (by decide) hk1 hFc hP1 hD1
    generalize H1 = H at hP hS ⊢
    have hP : va_P (dC, dI) kls (wM h cI cZ xt (nI nF) (nI nC) xg aP (fun c => nI (cf c)) (fun c => nI (ct c)) aK bF bL bB bA bY bR oT oO oR bS) H := hP
    have hD : va_D A (wM h cI cZ xt (nI nF) (nI nC) xg aP (fun c => nI (cf c)) (fun c => nI (ct c)) aK bF bL bB bA bY bR oT oO oR bS) := hD
    rcases hw with ⟨hr9, j1, hj1, hfj⟩ | ⟨hr9, hno_g⟩
    · subst hr9
      subst hfj
      refine lv_if_eq (tgt := 21) hx hb d_M_graph_14 (by decide) (fun c9 => absurd c9 (by decide +kernel)) (fun _ => ?_)
      refine lv_iload_n hx hb d_M_graph_17 rfl (lv_at hl 3 rfl) ?_
      refine lv_if_ge (tgt := 25) hx hb d_M_graph_18 (by decide) (fun c_18 => ?_) (fun c_18 => ?_)
      · obtain ⟨k1, hkk1, rfl⟩ := nI_of (Int32.not_lt.mpr c_18)
        refine lv_iconst (v := nI 0) hx hb d_M_graph_25 (by decide +kernel) ?_
        refine lv_iconst (v := nI 0) hx hb d_M_graph_26 (by decide +kernel) ?_
        have hFc := va_free (wc := wM h cI cZ xt (nI nF) (nI nC) xg aP (fun c => nI (cf c)) (fun c => nI (ct c)) aK bF bL bB bA bY bR oT oO oR bS) hD hS hA [0, 1, 2, 3, 4, 5, 6, 7, 8, 9, 10, 11, 12, 13, 14] rfl
        refine va_calli (va_runV (As := [.int (nI 0), .int (nI 0)]) (rest := []) ⟨hx, hb, hml, hown, hk⟩ (m_refused l dC dI cI cZ h H.size xt (nI nF) xg aP aK bF bL bB bA bY bR oT oO oR bS nC K cf ct (hC) (hK8) (fun c hc => ⟨by have := hS0 c hc; omega, by have := hS0 c hc; omega⟩)) (cwV 2 hk g_M_refused rfl rfl rfl (by decide +kernel) ⟨Nat.le_of_ble_eq_true rfl, Nat.le_of_ble_eq_true rfl⟩) ⟨fun a U g mk q => by obtain ⟨q0, q1, qP, qK, qD⟩ := q; exact ⟨q0, q1, qP, va_K.moved (u := U) (U := U.calling g mk a) (Vm.Alike.refl U.vm) qK, qD⟩, va_recv hK hP (ci := 0) (q0 := 0) rfl rfl, fun U hU hW => ⟨rfl, by rw [hU], by rw [hU]; exact hP, va_K.moved hW.alike hK, hD.weaken (fun _ _ _ _ => trivial)⟩⟩ rfl rfl hl.1 rfl (lv_room (Nat.le_of_ble_eq_true rfl)) d_M_graph_27 ⟨Nat.le_of_ble_eq_true rfl, Nat.le_of_ble_eq_true rfl⟩) hS (fun q _ h => hFc q h) hFc (fun r3 u9 t H1 locs ht hvm hw hB hz1 hk1 hS => ?_)
        obtain ⟨xt9, xg9, bF9, bL9, bB9, bA9, bY9⟩ := u9
        obtain ⟨hP1, hK1, hD1⟩ := hB
        rw [ht] at hP1
        try dsimp only at hw
        obtain ⟨hP, hD⟩ := va_join (wr := []) (w1 := wM h cI cZ xt9 (nI nF) (nI nC) xg9 aP (fun c => nI (cf c)) (fun c => nI (ct c)) aK bF9 bL9 bB9 bA9 bY9 bR oT oO oR bS) hP hD [0, 1, 2, 3, 4, 5, 6, 7, 8, 9, 10, 11, 12, 13, 14] [] rfl rfl (by decide) (by decide) hk1 hFc hP1 hD1
        generalize H1 = H at hP hS ⊢
        have hP : va_P (dC, dI) kls (wM h cI cZ xt9 (nI nF) (nI nC) xg9 aP (fun c => nI (cf c)) (fun c => nI (ct c)) aK bF9 bL9 bB9 bA9 bY9 bR oT oO oR bS) H := hP
        have hD : va_D A (wM h cI cZ xt9 (nI nF) (nI nC) xg9 aP (fun c => nI (cf c)) (fun c => nI (ct c)) aK bF9 bL9 bB9 bA9 bY9 bR oT oO oR bS) := hD
        rcases hw with ⟨hr9, hu9, hle, hg9, hE9⟩ | ⟨hr9, hu9, hgt⟩
        · subst hr9
          subst hu9
          subst hg9
          have hsm : smE (gA nC cf ct aK rj K) := sm_of (fun c hc => ⟨by have := hS0 c hc; omega, by have := hS0 c hc; omega⟩) (bsG_ok nC cf ct aK rj (fun _ => true) K)
          refine lv_if_eq (tgt := 35) hx hb d_M_graph_30 (by decide) (fun _ => ?_) (fun c9 => absurd c9 (by decide +kernel))
          refine lv_iload_n hx hb d_M_graph_35 rfl (lv_at hl 3 rfl) ?_
          refine lv_aload_n hx hb d_M_graph_36 rfl (lv_at hl 0 rfl) ?_
          refine lv_iload_n hx hb d_M_graph_37 rfl (lv_at hl 1 rfl) ?_
          refine lv_iload_n hx hb d_M_graph_38 rfl (lv_at hl 2 rfl) ?_
          have hFc := va_free (wc := wM h cI cZ (nI 0) (nI nF) (nI nC) (nI ((gA nC cf ct aK rj K).length)) aP (fun c => nI (cf c)) (fun c => nI (ct c)) aK bF9 bL9 bB9 bA9 bY9 bR oT oO oR bS) hD hS hA [0, 1, 2, 3, 4, 5, 6, 7, 8, 9, 10, 11, 12, 13, 14] rfl
          refine va_calli (va_runV (As := [.int (nI i1), .int (nI j1)]) (rest := [.int (nI k1)]) ⟨hx, hb, hml, hown, hk⟩ (m_between l dC dI cI cZ h H.size (nI 0) (nI nF) (nI nC) aP (fun c => nI (cf c)) (fun c => nI (ct c)) aK bF9 bL9 bB9 bA9 bY9 bR oT oO oR bS (gA nC cf ct aK rj K) i1 j1 (by omega) (hE9) (hsm) (by omega) (by omega)) (cwV 2 hk g_M_between rfl rfl rfl (by decide +kernel) ⟨Nat.le_of_ble_eq_true rfl, Nat.le_of_ble_eq_true rfl⟩) ⟨fun a U g mk q => by obtain ⟨q0, q1, qP, qK, qD⟩ := q; exact ⟨q0, q1, qP, va_K.moved (u := U) (U := U.calling g mk a) (Vm.Alike.refl U.vm) qK, qD⟩, va_recv hK hP (ci := 0) (q0 := 0) rfl rfl, fun U hU hW => ⟨rfl, by rw [hU], by rw [hU]; exact hP, va_K.moved hW.alike hK, hD.weaken (fun _ _ _ _ => trivial)⟩⟩ rfl rfl hl.1 rfl (lv_room (Nat.le_of_ble_eq_true rfl)) d_M_graph_39 ⟨Nat.le_of_ble_eq_true rfl, Nat.le_of_ble_eq_true rfl⟩) hS (fun q _ h => hFc q h) hFc (fun r4 u9 t H1 locs ht hvm hw hB hz1 hk1 hS => ?_)
          obtain ⟨hP1, hK1, hD1⟩ := hB
          rw [ht] at hP1
          try dsimp only at hw
          obtain ⟨hP, hD⟩ := va_join (wr := []) (w1 := wM h cI cZ (nI 0) (nI nF) (nI nC) (nI ((gA nC cf ct aK rj K).length)) aP (fun c => nI (cf c)) (fun c => nI (ct c)) aK bF9 bL9 bB9 bA9 bY9 bR oT oO oR bS) hP hD [0, 1, 2, 3, 4, 5, 6, 7, 8, 9, 10, 11, 12, 13, 14] [] rfl rfl (by decide) (by decide) hk1 hFc hP1 hD1
          generalize H1 = H at hP hS ⊢
          have hP : va_P (dC, dI) kls (wM h cI cZ (nI 0) (nI nF) (nI nC) (nI ((gA nC cf ct aK rj K).length)) aP (fun c => nI (cf c)) (fun c => nI (ct c)) aK bF9 bL9 bB9 bA9 bY9 bR oT oO oR bS) H := hP
          have hD : va_D A (wM h cI cZ (nI 0) (nI nF) (nI nC) (nI ((gA nC cf ct aK rj K).length)) aP (fun c => nI (cf c)) (fun c => nI (ct c)) aK bF9 bL9 bB9 bA9 bY9 bR oT oO oR bS) := hD
          subst hw
          have hcl := List.countP_le_length (p := qFG i1 j1) (l := gA nC cf ct aK rj K)
          refine lv_icmp_lt (tgt := 52) hx hb d_M_graph_42 (by decide) (fun c_42 => ?_) (fun c_42 => ?_)
          · have c_42 : k1 < (gA nC cf ct aK rj K).countP (qFG i1 j1) := (nI_ltI (a := k1) (b := (gA nC cf ct aK rj K).countP (qFG i1 j1)) (by omega) (by omega)).mp c_42
            refine lv_iconst (v := nI 0) hx hb d_M_graph_52 (by decide +kernel) ?_
            refine lv_istore (lv' := [(4, .int (nI 0)), (0, .ref (h 0)), (1, .int (nI i1)), (2, .int (nI j1)), (3, .int (nI k1))]) hx hb d_M_graph_53 hl (by decide) rfl (fun ls hl => ?_)
            refine lv_iconst (v := nI 0) hx hb d_M_graph_55 (by decide +kernel) ?_
            refine lv_istore (lv' := [(5, .int (nI 0)), (4, .int (nI 0)), (0, .ref (h 0)), (1, .int (nI i1)), (2, .int (nI j1)), (3, .int (nI k1))]) hx hb d_M_graph_56 hl (by decide) rfl (fun ls hl => ?_)
            have hin0 : inT (gA nC cf ct aK rj K) i1 j1 0 [] := ⟨List.Pairwise.nil, fun x => ⟨fun z => absurd z List.not_mem_nil, fun ⟨j, _, hj, _⟩ => absurd hj (Nat.not_lt_zero _)⟩, rfl⟩
            have lpO : ∀ (n_lpO : Nat) (i : Nat) (T : List Int32) (bS : Nat → Int32), (i ≤ (gA nC cf ct aK rj K).length) → (inT (gA nC cf ct aK rj K) i1 j1 i T) → (hT T bS) → (gA nC cf ct aK rj K).length - i < n_lpO → ∀ (H : Heap) (locs : List Loc) (ls : Array Slot), va_P (dC, dI) kls (wM h cI cZ (nI 0) (nI nF) (nI nC) (nI ((gA nC cf ct aK rj K).length)) aP (fun c => nI (cf c)) (fun c => nI (ct c)) aK bF9 bL9 bB9 bA9 bY9 bR oT oO oR bS) H → va_D A (wM h cI cZ (nI 0) (nI nF) (nI nC) (nI ((gA nC cf ct aK rj K).length)) aP (fun c => nI (cf c)) (fun c => nI (ct c)) aK bF9 bL9 bB9 bA9 bY9 bR oT oO oR bS) → va_S A s.heap H locs → lv_has ls 7 [(0, .ref (h 0)), (1, .int (nI i1)), (2, .int (nI j1)), (3, .int (nI k1)), (4, .int (nI T.length)), (5, .int (nI i))] → W p l e (headSpec w_M_graph ({ frames := 4, cells := 0, slots := 0, locals := 96 })).room s m ([.ref (h 0), .int (nI i1), .int (nI j1), .int (nI k1)]).toArray below meth c H locs 0 0 (MQ below (va_Qi (fun (r : Int32) (u : Int32 × Int32 × (Nat → Int32) × (Nat → Int32) × (Nat → Int32) × (Nat → Int32) × (Nat → Int32) × (Nat → Int32)) => ((¬ (((∃ i, i < nF ∧ (nI i1) = nI i) ∧ (∃ j, j < nF ∧ (nI j1) = nI j)) ∧ 0 ≤ (nI k1))) ∧ u.1 = nI 1) ∨ ∃ i j k, i < nF ∧ j < nF ∧ k < 2 ^ 31 ∧ (nI i1) = nI i ∧ (nI j1) = nI j ∧ (nI k1) = nI k ∧ ((800 < (gA nC cf ct aK rj K).length ∧ u.1 = nI 2) ∨ ((gA nC cf ct aK rj K).length ≤ 800 ∧ (((gA nC cf ct aK rj K).countP (qFG i j) ≤ k ∧ u.1 = nI 1) ∨ (k < (gA nC cf ct aK rj K).countP (qFG i j) ∧ u.1 = nI 0 ∧ ∃ T, inT (gA nC cf ct aK rj K) i j (gA nC cf ct aK rj K).length T ∧ T[k]? = some r))))) (fun (u : Int32 × Int32 × (Nat → Int32) × (Nat → Int32) × (Nat → Int32) × (Nat → Int32) × (Nat → Int32) × (Nat → Int32)) (t : State) => va_P (dC, dI) kls (wM h cI cZ u.1 (nI nF) (nI nC) u.2.1 aP (fun c => nI (cf c)) (fun c => nI (ct c)) aK u.2.2.1 u.2.2.2.1 u.2.2.2.2.1 u.2.2.2.2.2.1 u.2.2.2.2.2.2.1 bR oT oO oR u.2.2.2.2.2.2.2) t.heap ∧ va_K (dC, dI) kls (tyM cI cZ) t ∧ va_D (A) (wM h cI cZ u.1 (nI nF) (nI nC) u.2.1 aP (fun c => nI (cf c)) (fun c => nI (ct c)) aK u.2.2.1 u.2.2.2.1 u.2.2.2.2.1 u.2.2.2.2.2.1 u.2.2.2.2.2.2.1 bR oT oO oR u.2.2.2.2.2.2.2)) A) ([.ref (h 0), .int (nI i1), .int (nI j1), .int (nI k1)]).toArray s 0 0 A) (F0 m 58 ls []) := by
              intro n_lpO
              induction n_lpO with
              | zero => intro i T bS hi0 hin hhT hn; exact absurd hn (Nat.not_lt_zero _)
              | succ n_lpO ih_lpO =>
                intro i T bS hi0 hin hhT hn H locs ls hP hD hS hl
                refine lv_iload hx hb d_M_graph_58 (lv_at hl 5 rfl) ?_
                refine lv_aload_n hx hb d_M_graph_60 rfl (lv_at hl 0 rfl) ?_
                refine va_get (D := (dC, dI)) (ci := 0) (v := .int (nI ((gA nC cf ct aK rj K).length))) (C := R_M) (T := F_M) (N := 18) hx hb hk k_M_f hown hK hP 0 rfl rfl 7 (by decide) (hk _ k_M_15) (fun _ h9 => h9) rfl d_M_graph_61 ?_
                refine lv_icmp_ge (tgt := 168) hx hb d_M_graph_64 (by decide) (fun c_64 => ?_) (fun c_64 => ?_)
                · have c_64 : (gA nC cf ct aK rj K).length ≤ i := (nI_leI (a := (gA nC cf ct aK rj K).length) (b := i) (by omega) (by omega)).mp c_64
                  refine lv_aload_n hx hb d_M_graph_168 rfl (lv_at hl 0 rfl) ?_
                  refine va_get (D := (dC, dI)) (ci := 0) (v := .ref (h 14)) (C := R_M) (T := F_M) (N := 18) hx hb hk k_M_f hown hK hP 0 rfl rfl 17 (by decide) (hk _ k_M_25) (fun _ h9 => h9) rfl d_M_graph_169 ?_
                  refine lv_iload_n hx hb d_M_graph_172 rfl (lv_at hl 3 rfl) ?_
                  refine va_iald hx hb hK hP 14 0 rfl rfl (pk_in k1 801 (by omega)) d_M_graph_173 ?_
                  refine lv_topi (fun z5 ez5 => ?_)
                  obtain rfl : z5 = bS k1 := ez5.trans (rd (f := bS) (k := k1) (by omega))
                  have hil : i = (gA nC cf ct aK rj K).length := by omega
                  rw [hil] at hin
                  have hkl : k1 < T.length := by rw [hin.2.2, List.take_length]; exact c_42
                  obtain ⟨y1, hy1⟩ : ∃ y1, T[k1]? = some y1 := ⟨_, List.getElem?_eq_getElem hkl⟩
                  have hk9 : T[k1]? = some (bS k1) := by rw [hhT k1 y1 hy1]; exact hy1
                  exact W.iret (v := bS k1) hx hb hr (fun t ht hW => ⟨⟨bS k1, (nI 0, nI (gA nC cf ct aK rj K).length, bF9, bL9, bB9, bA9, bY9, bS), rfl, Or.inr ⟨i1, j1, k1, hi1, hj1, hkk1, rfl, rfl, rfl, Or.inr ⟨hle, Or.inr ⟨c_42, rfl, T, hin, hk9⟩⟩⟩, by rw [ht]; exact hP, va_K.moved hW.alike hK, hD⟩, hS.F ht⟩) hS.2.2 d_M_graph_174
                · have c_64 : ¬ (gA nC cf ct aK rj K).length ≤ i := fun z9 => c_64 ((nI_leI (a := (gA nC cf ct aK rj K).length) (b := i) (by omega) (by omega)).mpr z9)
                  obtain ⟨en, hen⟩ : ∃ en, (gA nC cf ct aK rj K)[i]? = some en := ⟨_, List.getElem?_eq_getElem (by omega)⟩
                  obtain ⟨q1, q2, q3, -, -⟩ := hE9 i en hen
                  have hsn := hsm en (List.mem_of_getElem? hen)
                  have hTl : T.length ≤ i := by rw [hin.2.2]; exact Nat.le_trans List.countP_le_length (by rw [List.length_take]; omega)
                  refine lv_aload_n hx hb d_M_graph_67 rfl (lv_at hl 0 rfl) ?_
                  refine va_get (D := (dC, dI)) (ci := 0) (v := .ref (h 5)) (C := R_M) (T := F_M) (N := 18) hx hb hk k_M_f hown hK hP 0 rfl rfl 8 (by decide) (hk _ k_M_16) (fun _ h9 => h9) rfl d_M_graph_68 ?_
                  refine lv_iload hx hb d_M_graph_71 (lv_at hl 5 rfl) ?_
                  refine va_iald hx hb hK hP 5 0 rfl rfl (pk_in i 801 (by omega)) d_M_graph_73 ?_
                  refine lv_topi (fun z6 ez6 => ?_)
                  obtain rfl : z6 = nI en.1 := ez6.trans ((rd (f := bF9) (k := i) (by omega)).trans q1)
                  refine lv_iload_n hx hb d_M_graph_74 rfl (lv_at hl 1 rfl) ?_
                  refine lv_icmp_ne (tgt := 162) hx hb d_M_graph_75 (by decide) (fun c_75 => ?_) (fun c_75 => ?_)
                  · have c_75 : ¬ en.1 = i1 := fun z9 => c_75 ((nI_eq (a := en.1) (b := i1) (by omega) (by omega)).mpr z9)
                    refine lv_iinc (v := nI (i + 1)) (lv' := [(5, .int (nI (i + 1))), (0, .ref (h 0)), (1, .int (nI i1)), (2, .int (nI j1)), (3, .int (nI k1)), (4, .int (nI T.length))]) hx hb d_M_graph_162 hl (k := 5) rfl (nI_add i 1) (by decide) rfl (fun ls hl => ?_)
                    refine lv_goto (tgt := 58) hx hb d_M_graph_165 (by decide) ?_
                    have hq9 : qFG i1 j1 en = false := by unfold qFG; first | (rw [show (en.1 == i1) = false from beq_eq_false_iff_ne.mpr c_75]; rfl) | (rw [show (en.2.1 == j1) = false from beq_eq_false_iff_ne.mpr c_86]; simp)
                    exact ih_lpO (i + 1) T bS (by omega) (inT_skip hin hen hq9) (hhT) (by omega) _ _ _ hP hD hS (lv_sub hl [1, 2, 3, 4, 5, 0] rfl)
                  · have c_75 : en.1 = i1 := (nI_eq (a := en.1) (b := i1) (by omega) (by omega)).mp c_75
                    refine lv_aload_n hx hb d_M_graph_78 rfl (lv_at hl 0 rfl) ?_
                    refine va_get (D := (dC, dI)) (ci := 0) (v := .ref (h 6)) (C := R_M) (T := F_M) (N := 18) hx hb hk k_M_f hown hK hP 0 rfl rfl 9 (by decide) (hk _ k_M_17) (fun _ h9 => h9) rfl d_M_graph_79 ?_
                    refine lv_iload hx hb d_M_graph_82 (lv_at hl 5 rfl) ?_
                    refine va_iald hx hb hK hP 6 0 rfl rfl (pk_in i 801 (by omega)) d_M_graph_84 ?_
                    refine lv_topi (fun z7 ez7 => ?_)
                    obtain rfl : z7 = nI en.2.1 := ez7.trans ((rd (f := bL9) (k := i) (by omega)).trans q2)
                    refine lv_iload_n hx hb d_M_graph_85 rfl (lv_at hl 2 rfl) ?_
                    refine lv_icmp_eq (tgt := 92) hx hb d_M_graph_86 (by decide) (fun c_86 => ?_) (fun c_86 => ?_)
                    · have c_86 : en.2.1 = j1 := (nI_eq (a := en.2.1) (b := j1) (by omega) (by omega)).mp c_86
                      refine lv_iload hx hb d_M_graph_92 (lv_at hl 4 rfl) ?_
                      refine lv_istore (lv' := [(6, .int (nI T.length)), (0, .ref (h 0)), (1, .int (nI i1)), (2, .int (nI j1)), (3, .int (nI k1)), (4, .int (nI T.length)), (5, .int (nI i))]) hx hb d_M_graph_94 hl (by decide) rfl (fun ls hl => ?_)
                      have hq9 : qFG i1 j1 en = true := by unfold qFG; rw [c_75, c_86]; simp
                      have lpI : ∀ (n_lpI : Nat) (p9 : Nat) (bS : Nat → Int32), (p9 ≤ T.length) → (∀ j y, j < p9 → T[j]? = some y → bS j = y) → (∀ j y, p9 ≤ j → T[j]? = some y → bS (j + 1) = y) → (∀ j y, p9 ≤ j → T[j]? = some y → uN en.2.2.1 < uN y) → p9 < n_lpI → ∀ (H : Heap) (locs : List Loc) (ls : Array Slot), va_P (dC, dI) kls (wM h cI cZ (nI 0) (nI nF) (nI nC) (nI ((gA nC cf ct aK rj K).length)) aP (fun c => nI (cf c)) (fun c => nI (ct c)) aK bF9 bL9 bB9 bA9 bY9 bR oT oO oR bS) H → va_D A (wM h cI cZ (nI 0) (nI nF) (nI nC) (nI ((gA nC cf ct aK rj K).length)) aP (fun c => nI (cf c)) (fun c => nI (ct c)) aK bF9 bL9 bB9 bA9 bY9 bR oT oO oR bS) → va_S A s.heap H locs → lv_has ls 7 [(0, .ref (h 0)), (1, .int (nI i1)), (2, .int (nI j1)), (3, .int (nI k1)), (4, .int (nI T.length)), (5, .int (nI i)), (6, .int (nI p9))] → W p l e (headSpec w_M_graph ({ frames := 4, cells := 0, slots := 0, locals := 96 })).room s m ([.ref (h 0), .int (nI i1), .int (nI j1), .int (nI k1)]).toArray below meth c H locs 0 0 (MQ below (va_Qi (fun (r : Int32) (u : Int32 × Int32 × (Nat → Int32) × (Nat → Int32) × (Nat → Int32) × (Nat → Int32) × (Nat → Int32) × (Nat → Int32)) => ((¬ (((∃ i, i < nF ∧ (nI i1) = nI i) ∧ (∃ j, j < nF ∧ (nI j1) = nI j)) ∧ 0 ≤ (nI k1))) ∧ u.1 = nI 1) ∨ ∃ i j k, i < nF ∧ j < nF ∧ k < 2 ^ 31 ∧ (nI i1) = nI i ∧ (nI j1) = nI j ∧ (nI k1) = nI k ∧ ((800 < (gA nC cf ct aK rj K).length ∧ u.1 = nI 2) ∨ ((gA nC cf ct aK rj K).length ≤ 800 ∧ (((gA nC cf ct aK rj K).countP (qFG i j) ≤ k ∧ u.1 = nI 1) ∨ (k < (gA nC cf ct aK rj K).countP (qFG i j) ∧ u.1 = nI 0 ∧ ∃ T, inT (gA nC cf ct aK rj K) i j (gA nC cf ct aK rj K).length T ∧ T[k]? = some r))))) (fun (u : Int32 × Int32 × (Nat → Int32) × (Nat → Int32) × (Nat → Int32) × (Nat → Int32) × (Nat → Int32) × (Nat → Int32)) (t : State) => va_P (dC, dI) kls (wM h cI cZ u.1 (nI nF) (nI nC) u.2.1 aP (fun c => nI (cf c)) (fun c => nI (ct c)) aK u.2.2.1 u.2.2.2.1 u.2.2.2.2.1 u.2.2.2.2.2.1 u.2.2.2.2.2.2.1 bR oT oO oR u.2.2.2.2.2.2.2) t.heap ∧ va_K (dC, dI) kls (tyM cI cZ) t ∧ va_D (A) (wM h cI cZ u.1 (nI nF) (nI nC) u.2.1 aP (fun c => nI (cf c)) (fun c => nI (ct c)) aK u.2.2.1 u.2.2.2.1 u.2.2.2.2.1 u.2.2.2.2.2.1 u.2.2.2.2.2.2.1 bR oT oO oR u.2.2.2.2.2.2.2)) A) ([.ref (h 0), .int (nI i1), .int (nI j1), .int (nI k1)]).toArray s 0 0 A) (F0 m 96 ls []) := by
                        intro n_lpI
                        induction n_lpI with
                        | zero => intro p9 bS hp0 hA1 hA2 hbig hn; exact absurd hn (Nat.not_lt_zero _)
                        | succ n_lpI ih_lpI =>
                          intro p9 bS hp0 hA1 hA2 hbig hn H locs ls hP hD hS hl
                          refine lv_iload hx hb d_M_graph_96 (lv_at hl 6 rfl) ?_
                          refine lv_if_le (tgt := 145) hx hb d_M_graph_98 (by decide) (fun c_98 => ?_) (fun c_98 => ?_)
                          · have c_98 : p9 ≤ 0 := (nI_leI (a := p9) (b := 0) (by omega) (by omega)).mp c_98
                            have hlow : ∀ y, 0 < p9 → T[p9 - 1]? = some y → ¬ uN en.2.2.1 < uN y := by
                              intro y hp hy
                              first
                                | omega
                                | (have := hA1 (p9 - 1) y (by omega) hy; rw [this] at hless; exact hless)
                            refine lv_aload_n hx hb d_M_graph_145 rfl (lv_at hl 0 rfl) ?_
                            refine va_get (D := (dC, dI)) (ci := 0) (v := .ref (h 14)) (C := R_M) (T := F_M) (N := 18) hx hb hk k_M_f hown hK hP 0 rfl rfl 17 (by decide) (hk _ k_M_25) (fun _ h9 => h9) rfl d_M_graph_146 ?_
                            refine lv_iload hx hb d_M_graph_149 (lv_at hl 6 rfl) ?_
                            refine lv_aload_n hx hb d_M_graph_151 rfl (lv_at hl 0 rfl) ?_
                            refine va_get (D := (dC, dI)) (ci := 0) (v := .ref (h 7)) (C := R_M) (T := F_M) (N := 18) hx hb hk k_M_f hown hK hP 0 rfl rfl 10 (by decide) (hk _ k_M_18) (fun _ h9 => h9) rfl d_M_graph_152 ?_
                            refine lv_iload hx hb d_M_graph_155 (lv_at hl 5 rfl) ?_
                            refine va_iald hx hb hK hP 7 0 rfl rfl (pk_in i 801 (by omega)) d_M_graph_157 ?_
                            refine lv_topi (fun z8 ez8 => ?_)
                            obtain rfl : z8 = en.2.2.1 := ez8.trans ((rd (f := bB9) (k := i) (by omega)).trans q3)
                            refine va_iast hx hb hK hP hD hS 14 0 rfl rfl (pk_in p9 801 (by omega)) d_M_graph_158 (fun H locs hP hD hS => ?_)
                            rw [nI_clamp (n := p9) (by omega)] at hP hD
                            have hP : va_P (dC, dI) kls (wM h cI cZ (nI 0) (nI nF) (nI nC) (nI ((gA nC cf ct aK rj K).length)) aP (fun c => nI (cf c)) (fun c => nI (ct c)) aK bF9 bL9 bB9 bA9 bY9 bR oT oO oR (upd bS p9 en.2.2.1)) H := hP
                            have hD : va_D A (wM h cI cZ (nI 0) (nI nF) (nI nC) (nI ((gA nC cf ct aK rj K).length)) aP (fun c => nI (cf c)) (fun c => nI (ct c)) aK bF9 bL9 bB9 bA9 bY9 bR oT oO oR (upd bS p9 en.2.2.1)) := hD
                            refine lv_iinc (v := nI (T.length + 1)) (lv' := [(4, .int (nI (T.length + 1))), (0, .ref (h 0)), (1, .int (nI i1)), (2, .int (nI j1)), (3, .int (nI k1)), (5, .int (nI i)), (6, .int (nI p9))]) hx hb d_M_graph_159 hl (k := 4) rfl (nI_add T.length 1) (by decide) rfl (fun ls hl => ?_)
                            refine lv_iinc (v := nI (i + 1)) (lv' := [(5, .int (nI (i + 1))), (4, .int (nI (T.length + 1))), (0, .ref (h 0)), (1, .int (nI i1)), (2, .int (nI j1)), (3, .int (nI k1)), (6, .int (nI p9))]) hx hb d_M_graph_162 hl (k := 5) rfl (nI_add i 1) (by decide) rfl (fun ls hl => ?_)
                            refine lv_goto (tgt := 58) hx hb d_M_graph_165 (by decide) ?_
                            have hlen9 : (T.take p9 ++ en.2.2.1 :: T.drop p9).length = T.length + 1 := by rw [List.length_append, List.length_cons, List.length_take, List.length_drop]; omega
                            rw [← hlen9] at hl
                            have hput : inT (gA nC cf ct aK rj K) i1 j1 (i + 1) (T.take p9 ++ en.2.2.1 :: T.drop p9) := inT_put hin hen hq9 hp0 (gp_put hin.1 hp0 (inT_new (bsG_nd nC cf ct aK rj (fun _ => true) K) hin hen hq9) hlow hbig)
                            exact ih_lpO (i + 1) (T.take p9 ++ en.2.2.1 :: T.drop p9) (upd bS p9 en.2.2.1) (by omega) (hput) (hT_put hp0 hA1 hA2) (by omega) _ _ _ hP hD hS (lv_sub hl [2, 3, 4, 5, 1, 0] rfl)
                          · have c_98 : ¬ p9 ≤ 0 := fun z9 => c_98 ((nI_leI (a := p9) (b := 0) (by omega) (by omega)).mpr z9)
                            refine lv_aload_n hx hb d_M_graph_101 rfl (lv_at hl 0 rfl) ?_
                            refine va_get (D := (dC, dI)) (ci := 0) (v := .ref (h 7)) (C := R_M) (T := F_M) (N := 18) hx hb hk k_M_f hown hK hP 0 rfl rfl 10 (by decide) (hk _ k_M_18) (fun _ h9 => h9) rfl d_M_graph_102 ?_
                            refine lv_iload hx hb d_M_graph_105 (lv_at hl 5 rfl) ?_
                            refine va_iald hx hb hK hP 7 0 rfl rfl (pk_in i 801 (by omega)) d_M_graph_107 ?_
                            refine lv_topi (fun z9 ez9 => ?_)
                            obtain rfl : z9 = en.2.2.1 := ez9.trans ((rd (f := bB9) (k := i) (by omega)).trans q3)
                            refine lv_aload_n hx hb d_M_graph_108 rfl (lv_at hl 0 rfl) ?_
                            refine va_get (D := (dC, dI)) (ci := 0) (v := .ref (h 14)) (C := R_M) (T := F_M) (N := 18) hx hb hk k_M_f hown hK hP 0 rfl rfl 17 (by decide) (hk _ k_M_25) (fun _ h9 => h9) rfl d_M_graph_109 ?_
                            refine lv_iload hx hb d_M_graph_112 (lv_at hl 6 rfl) ?_
                            refine lv_iconst (v := nI 1) hx hb d_M_graph_114 (by decide +kernel) ?_
                            refine lv_isub hx hb d_M_graph_115 ?_
                            refine lv_topi (fun z10 ez10 => ?_)
                            obtain rfl : z10 = nI (p9 - 1) := ez10.trans (pk_sub (by omega))
                            refine va_iald hx hb hK hP 14 0 rfl rfl (pk_in (p9 - 1) 801 (by omega)) d_M_graph_116 ?_
                            refine lv_topi (fun z11 ez11 => ?_)
                            obtain rfl : z11 = bS (p9 - 1) := ez11.trans (rd (f := bS) (k := p9 - 1) (by omega))
                            refine vp_callSi (W.runS (As := [.int en.2.2.1, .int (bS (p9 - 1))]) (rest := []) ⟨hx, hb, hml, hown, hk⟩ (m_isLess l en.2.2.1 (bS (p9 - 1))) (cwS 2 hk g_M_isLess rfl rfl rfl (by decide +kernel) ⟨Nat.le_of_ble_eq_true rfl, Nat.le_of_ble_eq_true rfl⟩) ⟨fun a U g mk q => q, fun U hU hW => ⟨rfl, trivial⟩⟩ rfl rfl hl.1 rfl (lv_room (Nat.le_of_ble_eq_true rfl)) d_M_graph_117 ⟨Nat.le_of_ble_eq_true rfl, Nat.le_of_ble_eq_true rfl⟩) (fun r12 hw => ?_)
                            rcases hw with ⟨hr9, hless⟩ | ⟨hr9, hless⟩
                            · subst hr9
                              refine lv_if_eq (tgt := 145) hx hb d_M_graph_120 (by decide) (fun c9 => absurd c9 (by decide +kernel)) (fun _ => ?_)
                              refine lv_aload_n hx hb d_M_graph_123 rfl (lv_at hl 0 rfl) ?_
                              refine va_get (D := (dC, dI)) (ci := 0) (v := .ref (h 14)) (C := R_M) (T := F_M) (N := 18) hx hb hk k_M_f hown hK hP 0 rfl rfl 17 (by decide) (hk _ k_M_25) (fun _ h9 => h9) rfl d_M_graph_124 ?_
                              refine lv_iload hx hb d_M_graph_127 (lv_at hl 6 rfl) ?_
                              refine lv_aload_n hx hb d_M_graph_129 rfl (lv_at hl 0 rfl) ?_
                              refine va_get (D := (dC, dI)) (ci := 0) (v := .ref (h 14)) (C := R_M) (T := F_M) (N := 18) hx hb hk k_M_f hown hK hP 0 rfl rfl 17 (by decide) (hk _ k_M_25) (fun _ h9 => h9) rfl d_M_graph_130 ?_
                              refine lv_iload hx hb d_M_graph_133 (lv_at hl 6 rfl) ?_
                              refine lv_iconst (v := nI 1) hx hb d_M_graph_135 (by decide +kernel) ?_
                              refine lv_isub hx hb d_M_graph_136 ?_
                              refine lv_topi (fun z13 ez13 => ?_)
                              obtain rfl : z13 = nI (p9 - 1) := ez13.trans (pk_sub (by omega))
                              refine va_iald hx hb hK hP 14 0 rfl rfl (pk_in (p9 - 1) 801 (by omega)) d_M_graph_137 ?_
                              refine lv_topi (fun z14 ez14 => ?_)
                              obtain rfl : z14 = bS (p9 - 1) := ez14.trans (rd (f := bS) (k := p9 - 1) (by omega))
                              refine va_iast hx hb hK hP hD hS 14 0 rfl rfl (pk_in p9 801 (by omega)) d_M_graph_138 (fun H locs hP hD hS => ?_)
                              rw [nI_clamp (n := p9) (by omega)] at hP hD
                              have hP : va_P (dC, dI) kls (wM h cI cZ (nI 0) (nI nF) (nI nC) (nI ((gA nC cf ct aK rj K).length)) aP (fun c => nI (cf c)) (fun c => nI (ct c)) aK bF9 bL9 bB9 bA9 bY9 bR oT oO oR (upd bS p9 (bS (p9 - 1)))) H := hP
                              have hD : va_D A (wM h cI cZ (nI 0) (nI nF) (nI nC) (nI ((gA nC cf ct aK rj K).length)) aP (fun c => nI (cf c)) (fun c => nI (ct c)) aK bF9 bL9 bB9 bA9 bY9 bR oT oO oR (upd bS p9 (bS (p9 - 1)))) := hD
                              refine lv_iinc (v := nI (p9 - 1)) (lv' := [(6, .int (nI (p9 - 1))), (0, .ref (h 0)), (1, .int (nI i1)), (2, .int (nI j1)), (3, .int (nI k1)), (4, .int (nI T.length)), (5, .int (nI i))]) hx hb d_M_graph_139 hl (k := 6) rfl (sb_m1 (by omega)) (by decide) rfl (fun ls hl => ?_)
                              refine lv_goto (tgt := 96) hx hb d_M_graph_142 (by decide) ?_
                              obtain ⟨y1, hy1⟩ : ∃ y1, T[p9 - 1]? = some y1 := ⟨_, List.getElem?_eq_getElem (by omega)⟩
                              have hb1 := hA1 (p9 - 1) y1 (by omega) hy1
                              rw [hb1] at hless
                              have hB1 : ∀ j y, j < p9 - 1 → T[j]? = some y → upd bS p9 (bS (p9 - 1)) j = y := fun j y hj hy => by rw [pk_un (by omega)]; exact hA1 j y (by omega) hy
                              have hB2 : ∀ j y, p9 - 1 ≤ j → T[j]? = some y → upd bS p9 (bS (p9 - 1)) (j + 1) = y := by
                                intro j y hj hy
                                rcases Nat.lt_or_ge j p9 with z | z
                                · obtain rfl : j = p9 - 1 := by omega
                                  rw [show p9 - 1 + 1 = p9 by omega, pk_us, hb1]
                                  rw [hy1] at hy
                                  exact Option.some.inj hy
                                · rw [pk_un (by omega)]
                                  exact hA2 j y z hy
                              have hB3 : ∀ j y, p9 - 1 ≤ j → T[j]? = some y → uN en.2.2.1 < uN y := by
                                intro j y hj hy
                                rcases Nat.lt_or_ge j p9 with z | z
                                · obtain rfl : j = p9 - 1 := by omega
                                  rw [hy1] at hy
                                  cases hy
                                  exact hless
                                · exact hbig j y z hy
                              exact ih_lpI (p9 - 1) (upd bS p9 (bS (p9 - 1))) (by omega) (hB1) (hB2) (hB3) (by omega) _ _ _ hP hD hS (lv_sub hl [1, 2, 3, 4, 5, 6, 0] rfl)
                            · subst hr9
                              refine lv_if_eq (tgt := 145) hx hb d_M_graph_120 (by decide) (fun _ => ?_) (fun c9 => absurd c9 (by decide +kernel))
                              have hlow : ∀ y, 0 < p9 → T[p9 - 1]? = some y → ¬ uN en.2.2.1 < uN y := by
                                intro y hp hy
                                first
                                  | omega
                                  | (have := hA1 (p9 - 1) y (by omega) hy; rw [this] at hless; exact hless)
                              refine lv_aload_n hx hb d_M_graph_145 rfl (lv_at hl 0 rfl) ?_
                              refine va_get (D := (dC, dI)) (ci := 0) (v := .ref (h 14)) (C := R_M) (T := F_M) (N := 18) hx hb hk k_M_f hown hK hP 0 rfl rfl 17 (by decide) (hk _ k_M_25) (fun _ h9 => h9) rfl d_M_graph_146 ?_
                              refine lv_iload hx hb d_M_graph_149 (lv_at hl 6 rfl) ?_
                              refine lv_aload_n hx hb d_M_graph_151 rfl (lv_at hl 0 rfl) ?_
                              refine va_get (D := (dC, dI)) (ci := 0) (v := .ref (h 7)) (C := R_M) (T := F_M) (N := 18) hx hb hk k_M_f hown hK hP 0 rfl rfl 10 (by decide) (hk _ k_M_18) (fun _ h9 => h9) rfl d_M_graph_152 ?_
                              refine lv_iload hx hb d_M_graph_155 (lv_at hl 5 rfl) ?_
                              refine va_iald hx hb hK hP 7 0 rfl rfl (pk_in i 801 (by omega)) d_M_graph_157 ?_
                              refine lv_topi (fun z15 ez15 => ?_)
                              obtain rfl : z15 = en.2.2.1 := ez15.trans ((rd (f := bB9) (k := i) (by omega)).trans q3)
                              refine va_iast hx hb hK hP hD hS 14 0 rfl rfl (pk_in p9 801 (by omega)) d_M_graph_158 (fun H locs hP hD hS => ?_)
                              rw [nI_clamp (n := p9) (by omega)] at hP hD
                              have hP : va_P (dC, dI) kls (wM h cI cZ (nI 0) (nI nF) (nI nC) (nI ((gA nC cf ct aK rj K).length)) aP (fun c => nI (cf c)) (fun c => nI (ct c)) aK bF9 bL9 bB9 bA9 bY9 bR oT oO oR (upd bS p9 en.2.2.1)) H := hP
                              have hD : va_D A (wM h cI cZ (nI 0) (nI nF) (nI nC) (nI ((gA nC cf ct aK rj K).length)) aP (fun c => nI (cf c)) (fun c => nI (ct c)) aK bF9 bL9 bB9 bA9 bY9 bR oT oO oR (upd bS p9 en.2.2.1)) := hD
                              refine lv_iinc (v := nI (T.length + 1)) (lv' := [(4, .int (nI (T.length + 1))), (0, .ref (h 0)), (1, .int (nI i1)), (2, .int (nI j1)), (3, .int (nI k1)), (5, .int (nI i)), (6, .int (nI p9))]) hx hb d_M_graph_159 hl (k := 4) rfl (nI_add T.length 1) (by decide) rfl (fun ls hl => ?_)
                              refine lv_iinc (v := nI (i + 1)) (lv' := [(5, .int (nI (i + 1))), (4, .int (nI (T.length + 1))), (0, .ref (h 0)), (1, .int (nI i1)), (2, .int (nI j1)), (3, .int (nI k1)), (6, .int (nI p9))]) hx hb d_M_graph_162 hl (k := 5) rfl (nI_add i 1) (by decide) rfl (fun ls hl => ?_)
                              refine lv_goto (tgt := 58) hx hb d_M_graph_165 (by decide) ?_
                              have hlen9 : (T.take p9 ++ en.2.2.1 :: T.drop p9).length = T.length + 1 := by rw [List.length_append, List.length_cons, List.length_take, List.length_drop]; omega
                              rw [← hlen9] at hl
                              have hput : inT (gA nC cf ct aK rj K) i1 j1 (i + 1) (T.take p9 ++ en.2.2.1 :: T.drop p9) := inT_put hin hen hq9 hp0 (gp_put hin.1 hp0 (inT_new (bsG_nd nC cf ct aK rj (fun _ => true) K) hin hen hq9) hlow hbig)
                              exact ih_lpO (i + 1) (T.take p9 ++ en.2.2.1 :: T.drop p9) (upd bS p9 en.2.2.1) (by omega) (hput) (hT_put hp0 hA1 hA2) (by omega) _ _ _ hP hD hS (lv_sub hl [2, 3, 4, 5, 1, 0] rfl)
                      exact lpI _ T.length bS (Nat.le_refl _) (fun j y _ hy => hhT j y hy) (fun j y hj hy => absurd (List.getElem?_eq_some_iff.mp hy).1 (by omega)) (fun j y hj hy => absurd (List.getElem?_eq_some_iff.mp hy).1 (by omega)) (Nat.lt_succ_self _) _ _ _ hP hD hS (lv_sub hl [1, 2, 3, 4, 5, 6, 0] rfl)
                    · have c_86 : ¬ en.2.1 = j1 := fun z9 => c_86 ((nI_eq (a := en.2.1) (b := j1) (by omega) (by omega)).mpr z9)
                      refine lv_goto (tgt := 162) hx hb d_M_graph_89 (by decide) ?_
                      refine lv_iinc (v := nI (i + 1)) (lv' := [(5, .int (nI (i + 1))), (0, .ref (h 0)), (1, .int (nI i1)), (2, .int (nI j1)), (3, .int (nI k1)), (4, .int (nI T.length))]) hx hb d_M_graph_162 hl (k := 5) rfl (nI_add i 1) (by decide) rfl (fun ls hl => ?_)
                      refine lv_goto (tgt := 58) hx hb d_M_graph_165 (by decide) ?_
                      have hq9 : qFG i1 j1 en = false := by unfold qFG; first | (rw [show (en.1 == i1) = false from beq_eq_false_iff_ne.mpr c_75]; rfl) | (rw [show (en.2.1 == j1) = false from beq_eq_false_iff_ne.mpr c_86]; simp)
                      exact ih_lpO (i + 1) T bS (by omega) (inT_skip hin hen hq9) (hhT) (by omega) _ _ _ hP hD hS (lv_sub hl [1, 2, 3, 4, 5, 0] rfl)
            exact lpO _ 0 ([]) bS (Nat.zero_le _) (hin0) (fun j x hj => by simp at hj) (Nat.lt_succ_self _) _ _ _ hP hD hS (lv_sub hl [2, 3, 4, 5, 1, 0] rfl)
          · have c_42 : ¬ k1 < (gA nC cf ct aK rj K).countP (qFG i1 j1) := fun z9 => c_42 ((nI_ltI (a := k1) (b := (gA nC cf ct aK rj K).countP (qFG i1 j1)) (by omega) (by omega)).mpr z9)
            refine lv_aload_n hx hb d_M_graph_45 rfl (lv_at hl 0 rfl) ?_
            refine lv_iconst (v := nI 1) hx hb d_M_graph_46 (by decide +kernel) ?_
            refine va_put (D := (dC, dI)) (ci := 0) (v := .int (nI 1)) (ty := .int) (C := R_M) (T := F_M) (N := 18) hx hb hk k_M_f t_M t_M_ok n_M hown hK hP hD hS 0 rfl rfl 0 (by decide) (hk _ k_M_8) (fun _ h9 => h9) rfl (by decide +kernel) rfl rfl (Nat.le_of_ble_eq_true rfl) d_M_graph_47 (fun H locs hP hD hS => ?_)
            have hP : va_P (dC, dI) kls (wM h cI cZ (nI 1) (nI nF) (nI nC) (nI ((gA nC cf ct aK rj K).length)) aP (fun c => nI (cf c)) (fun c => nI (ct c)) aK bF9 bL9 bB9 bA9 bY9 bR oT oO oR bS) H := hP
            have hD : va_D A (wM h cI cZ (nI 1) (nI nF) (nI nC) (nI ((gA nC cf ct aK rj K).length)) aP (fun c => nI (cf c)) (fun c => nI (ct c)) aK bF9 bL9 bB9 bA9 bY9 bR oT oO oR bS) := hD
            refine lv_iconst (v := nI 0) hx hb d_M_graph_50 (by decide +kernel) ?_
            exact W.iret (v := nI 0) hx hb hr (fun t ht hW => ⟨⟨nI 0, (nI 1, nI (gA nC cf ct aK rj K).length, bF9, bL9, bB9, bA9, bY9, bS), rfl, Or.inr ⟨i1, j1, k1, hi1, hj1, hkk1, rfl, rfl, rfl, Or.inr ⟨hle, Or.inl ⟨by omega, rfl⟩⟩⟩, by rw [ht]; exact hP, va_K.moved hW.alike hK, hD⟩, hS.F ht⟩) hS.2.2 d_M_graph_51
        · subst hr9
          subst hu9
          refine lv_if_eq (tgt := 35) hx hb d_M_graph_30 (by decide) (fun c9 => absurd c9 (by decide +kernel)) (fun _ => ?_)
          refine lv_iconst (v := nI 0) hx hb d_M_graph_33 (by decide +kernel) ?_
          exact W.iret (v := nI 0) hx hb hr (fun t ht hW => ⟨⟨nI 0, (nI 2, xg9, bF9, bL9, bB9, bA9, bY9, bS), rfl, Or.inr ⟨i1, j1, k1, hi1, hj1, hkk1, rfl, rfl, rfl, Or.inl ⟨hgt, rfl⟩⟩, by rw [ht]; exact hP, va_K.moved hW.alike hK, hD⟩, hS.F ht⟩) hS.2.2 d_M_graph_34
      · refine lv_iconst (v := nI 1) hx hb d_M_graph_21 (by decide +kernel) ?_
        refine lv_goto (tgt := 26) hx hb d_M_graph_22 (by decide) ?_
        refine lv_iconst (v := nI 0) hx hb d_M_graph_26 (by decide +kernel) ?_
        have hFc := va_free (wc := wM h cI cZ xt (nI nF) (nI nC) xg aP (fun c => nI (cf c)) (fun c => nI (ct c)) aK bF bL bB bA bY bR oT oO oR bS) hD hS hA [0, 1, 2, 3, 4, 5, 6, 7, 8, 9, 10, 11, 12, 13, 14] rfl
        refine va_calli (va_runV (As := [.int (nI 1), .int (nI 0)]) (rest := []) ⟨hx, hb, hml, hown, hk⟩ (m_refused_o l dC dI cI cZ h H.size xt (nI nF) (nI nC) xg aP (fun c => nI (cf c)) (fun c => nI (ct c)) aK bF bL bB bA bY bR oT oO oR bS  ) (cwV 2 hk g_M_refused rfl rfl rfl (by decide +kernel) ⟨Nat.le_of_ble_eq_true rfl, Nat.le_of_ble_eq_true rfl⟩) ⟨fun a U g mk q => by obtain ⟨q0, q1, qP, qK, qD⟩ := q; exact ⟨q0, q1, qP, va_K.moved (u := U) (U := U.calling g mk a) (Vm.Alike.refl U.vm) qK, qD⟩, va_recv hK hP (ci := 0) (q0 := 0) rfl rfl, fun U hU hW => ⟨rfl, by rw [hU], by rw [hU]; exact hP, va_K.moved hW.alike hK, hD.weaken (fun _ _ _ _ => trivial)⟩⟩ rfl rfl hl.1 rfl (lv_room (Nat.le_of_ble_eq_true rfl)) d_M_graph_27 ⟨Nat.le_of_ble_eq_true rfl, Nat.le_of_ble_eq_true rfl⟩) hS (fun q _ h => hFc q h) hFc (fun r16 u9 t H1 locs ht hvm hw hB hz1 hk1 hS => ?_)
        obtain ⟨xt9, rfl⟩ : ∃ z, z = u9 := ⟨_, rfl⟩
        obtain ⟨hP1, hK1, hD1⟩ := hB
        rw [ht] at hP1
        try dsimp only at hw
        obtain ⟨hP, hD⟩ := va_join (wr := []) (w1 := wM h cI cZ xt9 (nI nF) (nI nC) xg aP (fun c => nI (cf c)) (fun c => nI (ct c)) aK bF bL bB bA bY bR oT oO oR bS) hP hD [0, 1, 2, 3, 4, 5, 6, 7, 8, 9, 10, 11, 12, 13, 14] [] rfl rfl (by decide) (by decide) hk1 hFc hP1 hD1
        generalize H1 = H at hP hS ⊢
        have hP : va_P (dC, dI) kls (wM h cI cZ xt9 (nI nF) (nI nC) xg aP (fun c => nI (cf c)) (fun c => nI (ct c)) aK bF bL bB bA bY bR oT oO oR bS) H := hP
        have hD : va_D A (wM h cI cZ xt9 (nI nF) (nI nC) xg aP (fun c => nI (cf c)) (fun c => nI (ct c)) aK bF bL bB bA bY bR oT oO oR bS) := hD
        obtain ⟨hr9, hu9⟩ := hw
        subst hr9
        subst hu9
        refine lv_if_eq (tgt := 35) hx hb d_M_graph_30 (by decide) (fun c9 => absurd c9 (by decide +kernel)) (fun _ => ?_)
        refine lv_iconst (v := nI 0) hx hb d_M_graph_33 (by decide +kernel) ?_
        have hq9 : ¬ (((∃ i, i < nF ∧ nI i1 = nI i) ∧ (∃ j, j < nF ∧ nI j1 = nI j)) ∧ 0 ≤ q) := by
          rintro ⟨⟨z1, z2⟩, z3⟩
          first
            | exact hno_f z1
            | exact hno_g z2
            | exact c_18 z3
        exact W.iret (v := nI 0) hx hb hr (fun t ht hW => ⟨⟨nI 0, (nI 1, xg, bF, bL, bB, bA, bY, bS), rfl, Or.inl ⟨hq9, rfl⟩, by rw [ht]; exact hP, va_K.moved hW.alike hK, hD⟩, hS.F ht⟩) hS.2.2 d_M_graph_34
    · subst hr9
      refine lv_if_eq (tgt := 21) hx hb d_M_graph_14 (by decide) (fun _ => ?_) (fun c9 => absurd c9 (by decide +kernel))
      refine lv_iconst (v := nI 1) hx hb d_M_graph_21 (by decide +kernel) ?_
      refine lv_goto (tgt := 26) hx hb d_M_graph_22 (by decide) ?_
      refine lv_iconst (v := nI 0) hx hb d_M_graph_26 (by decide +kernel) ?_
      have hFc := va_free (wc := wM h cI cZ xt (nI nF) (nI nC) xg aP (fun c => nI (cf c)) (fun c => nI (ct c)) aK bF bL bB bA bY bR oT oO oR bS) hD hS hA [0, 1, 2, 3, 4, 5, 6, 7, 8, 9, 10, 11, 12, 13, 14] rfl
      refine va_calli (va_runV (As := [.int (nI 1), .int (nI 0)]) (rest := []) ⟨hx, hb, hml, hown, hk⟩ (m_refused_o l dC dI cI cZ h H.size xt (nI nF) (nI nC) xg aP (fun c => nI (cf c)) (fun c => nI (ct c)) aK bF bL bB bA bY bR oT oO oR bS  ) (cwV 2 hk g_M_refused rfl rfl rfl (by decide +kernel) ⟨Nat.le_of_ble_eq_true rfl, Nat.le_of_ble_eq_true rfl⟩) ⟨fun a U g mk q => by obtain ⟨q0, q1, qP, qK, qD⟩ := q; exact ⟨q0, q1, qP, va_K.moved (u := U) (U := U.calling g mk a) (Vm.Alike.refl U.vm) qK, qD⟩, va_recv hK hP (ci := 0) (q0 := 0) rfl rfl, fun U hU hW => ⟨rfl, by rw [hU], by rw [hU]; exact hP, va_K.moved hW.alike hK, hD.weaken (fun _ _ _ _ => trivial)⟩⟩ rfl rfl hl.1 rfl (lv_room (Nat.le_of_ble_eq_true rfl)) d_M_graph_27 ⟨Nat.le_of_ble_eq_true rfl, Nat.le_of_ble_eq_true rfl⟩) hS (fun q _ h => hFc q h) hFc (fun r17 u9 t H1 locs ht hvm hw hB hz1 hk1 hS => ?_)
      obtain ⟨xt9, rfl⟩ : ∃ z, z = u9 := ⟨_, rfl⟩
      obtain ⟨hP1, hK1, hD1⟩ := hB
      rw [ht] at hP1
      try dsimp only at hw
      obtain ⟨hP, hD⟩ := va_join (wr := []) (w1 := wM h cI cZ xt9 (nI nF) (nI nC) xg aP (fun c => nI (cf c)) (fun c => nI (ct c)) aK bF bL bB bA bY bR oT oO oR bS) hP hD [0, 1, 2, 3, 4, 5, 6, 7, 8, 9, 10, 11, 12, 13, 14] [] rfl rfl (by decide) (by decide) hk1 hFc hP1 hD1
      generalize H1 = H at hP hS ⊢
      have hP : va_P (dC, dI) kls (wM h cI cZ xt9 (nI nF) (nI nC) xg aP (fun c => nI (cf c)) (fun c => nI (ct c)) aK bF bL bB bA bY bR oT oO oR bS) H := hP
      have hD : va_D A (wM h cI cZ xt9 (nI nF) (nI nC) xg aP (fun c => nI (cf c)) (fun c => nI (ct c)) aK bF bL bB bA bY bR oT oO oR bS) := hD
      obtain ⟨hr9, hu9⟩ := hw
      subst hr9
      subst hu9
      refine lv_if_eq (tgt := 35) hx hb d_M_graph_30 (by decide) (fun c9 => absurd c9 (by decide +kernel)) (fun _ => ?_)
      refine lv_iconst (v := nI 0) hx hb d_M_graph_33 (by decide +kernel) ?_
      have hq9 : ¬ (((∃ i, i < nF ∧ nI i1 = nI i) ∧ (∃ j, j < nF ∧ g = nI j)) ∧ 0 ≤ q) := by
        rintro ⟨⟨z1, z2⟩, z3⟩
        first
          | exact hno_f z1
          | exact hno_g z2
          | exact c_18 z3
      exact W.iret (v := nI 0) hx hb hr (fun t ht hW => ⟨⟨nI 0, (nI 1, xg, bF, bL, bB, bA, bY, bS), rfl, Or.inl ⟨hq9, rfl⟩, by rw [ht]; exact hP, va_K.moved hW.alike hK, hD⟩, hS.F ht⟩) hS.2.2 d_M_graph_34
  · subst hr9
    refine lv_if_eq (tgt := 21) hx hb d_M_graph_6 (by decide) (fun _ => ?_) (fun c9 => absurd c9 (by decide +kernel))
    refine lv_iconst (v := nI 1) hx hb d_M_graph_21 (by decide +kernel) ?_
    refine lv_goto (tgt := 26) hx hb d_M_graph_22 (by decide) ?_
    refine lv_iconst (v := nI 0) hx hb d_M_graph_26 (by decide +kernel) ?_
    have hFc := va_free (wc := wM h cI cZ xt (nI nF) (nI nC) xg aP (fun c => nI (cf c)) (fun c => nI (ct c)) aK bF bL bB bA bY bR oT oO oR bS) hD hS hA [0, 1, 2, 3, 4, 5, 6, 7, 8, 9, 10, 11, 12, 13, 14] rfl
    refine va_calli (va_runV (As := [.int (nI 1), .int (nI 0)]) (rest := []) ⟨hx, hb, hml, hown, hk⟩ (m_refused_o l dC dI cI cZ h H.size xt (nI nF) (nI nC) xg aP (fun c => nI (cf c)) (fun c => nI (ct c)) aK bF bL bB bA bY bR oT oO oR bS  ) (cwV 2 hk g_M_refused rfl rfl rfl (by decide +kernel) ⟨Nat.le_of_ble_eq_true rfl, Nat.le_of_ble_eq_true rfl⟩) ⟨fun a U g mk q => by obtain ⟨q0, q1, qP, qK, qD⟩ := q; exact ⟨q0, q1, qP, va_K.moved (u := U) (U := U.calling g mk a) (Vm.Alike.refl U.vm) qK, qD⟩, va_recv hK hP (ci := 0) (q0 := 0) rfl rfl, fun U hU hW => ⟨rfl, by rw [hU], by rw [hU]; exact hP, va_K.moved hW.alike hK, hD.weaken (fun _ _ _ _ => trivial)⟩⟩ rfl rfl hl.1 rfl (lv_room (Nat.le_of_ble_eq_true rfl)) d_M_graph_27 ⟨Nat.le_of_ble_eq_true rfl, Nat.le_of_ble_eq_true rfl⟩) hS (fun q _ h => hFc q h) hFc (fun r18 u9 t H1 locs ht hvm hw hB hz1 hk1 hS => ?_)
    obtain ⟨xt9, rfl⟩ : ∃ z, z = u9 := ⟨_, rfl⟩
    obtain ⟨hP1, hK1, hD1⟩ := hB
    rw [ht] at hP1
    try dsimp only at hw
    obtain ⟨hP, hD⟩ := va_join (wr := []) (w1 := wM h cI cZ xt9 (nI nF) (nI nC) xg aP (fun c => nI (cf c)) (fun c => nI (ct c)) aK bF bL bB bA bY bR oT oO oR bS) hP hD [0, 1, 2, 3, 4, 5, 6, 7, 8, 9, 10, 11, 12, 13, 14] [] rfl rfl (by decide) (by decide) hk1 hFc hP1 hD1
    generalize H1 = H at hP hS ⊢
    have hP : va_P (dC, dI) kls (wM h cI cZ xt9 (nI nF) (nI nC) xg aP (fun c => nI (cf c)) (fun c => nI (ct c)) aK bF bL bB bA bY bR oT oO oR bS) H := hP
    have hD : va_D A (wM h cI cZ xt9 (nI nF) (nI nC) xg aP (fun c => nI (cf c)) (fun c => nI (ct c)) aK bF bL bB bA bY bR oT oO oR bS) := hD
    obtain ⟨hr9, hu9⟩ := hw
    subst hr9
    subst hu9
    refine lv_if_eq (tgt := 35) hx hb d_M_graph_30 (by decide) (fun c9 => absurd c9 (by decide +kernel)) (fun _ => ?_)
    refine lv_iconst (v := nI 0) hx hb d_M_graph_33 (by decide +kernel) ?_
    have hq9 : ¬ (((∃ i, i < nF ∧ f = nI i) ∧ (∃ j, j < nF ∧ g = nI j)) ∧ 0 ≤ q) := by
      rintro ⟨⟨z1, z2⟩, z3⟩
      first
        | exact hno_f z1
        | exact hno_g z2
        | exact c_18 z3
    exact W.iret (v := nI 0) hx hb hr (fun t ht hW => ⟨⟨nI 0, (nI 1, xg, bF, bL, bB, bA, bY, bS), rfl, Or.inl ⟨hq9, rfl⟩, by rw [ht]; exact hP, va_K.moved hW.alike hK, hD⟩, hS.F ht⟩) hS.2.2 d_M_graph_34
end
section
def mA (a : Option Nat) : Nat := match a with
  | none => 0
  | some j => j + 1
def ahOk (es : List En) : Prop := ∀ (j i : Nat) (e : En), es[j]? = some e → e.2.2.2.1 = some i → i < j
theorem chn_none (es : List En) (n : Nat) : chn es n none = [] := by cases n <;> rfl
theorem chn_step {es : List En} (hA : ahOk es) {k K : Nat} {en : En} (h : es[k]? = some en) (hk : k < K) : chn es (K + 1) (some k) = en.2.2.2.2 :: chn es (K + 1) en.2.2.2.1 := by
  rw [chn, h]
  dsimp only
  cases ha : en.2.2.2.1 with
  | none => rw [chn_none, chn_none]
  | some i =>
    have := hA k i en h ha
    rw [chn_more hA (show i < K by omega) (show i < K + 1 by omega)]
theorem ah_neg {j : Nat} (hj : j < 2 ^ 31) : ¬ nI j = -1 := by
  intro h
  have h1 := congrArg Int32.toInt h
  rw [nI_toInt hj] at h1
  have e1 : (-1 : Int32).toInt = -1 := by decide +kernel
  omega
theorem nn_of {q : Int32} (h1 : (-1 : Int32) ≤ q) (h2 : ¬ q = -1) : ¬ q < 0 := by
  intro h
  rw [Int32.lt_iff_toInt_lt] at h
  rw [Int32.le_iff_toInt_le] at h1
  have e1 : (-1 : Int32).toInt = -1 := by decide +kernel
  have e0 : (0 : Int32).toInt = 0 := by decide +kernel
  exact h2 (Int32.toInt_inj.mp (by omega))
/-- the row array holds what has been read of the chain -/
def hR (pre : List Nat) (bR : Nat → Int32) : Prop := ∀ j y, pre[j]? = some y → bR j = nI y
theorem hR_snoc {pre : List Nat} {bR : Nat → Int32} (h : hR pre bR) (y : Nat) : hR (pre ++ [y]) (upd bR pre.length (nI y)) := by
  intro j z hz
  rcases Nat.lt_trichotomy j pre.length with q | q | q
  · rw [List.getElem?_append_left q] at hz
    rw [pk_un (by omega)]
    exact h j z hz
  · subst q
    rw [List.getElem?_append_right (Nat.le_refl _), Nat.sub_self] at hz
    cases hz
    exact pk_us
  · rw [List.getElem?_eq_none (by rw [List.length_append]; simp; omega)] at hz
    cases hz
set_option maxHeartbeats 4000000 in
set_option maxRecDepth 100000 in
theorem m_bad (l : Launch) (dC : Nat → ClassId) (dI : Nat → Nat → Nat) (cI cZ : ClassId) (h : Nat → Nat) (sz : Nat) (xt xg : Int32) (aP aK bF bL bB bA bY bR oT oO oR bS : Nat → Int32) (nF nC K : Nat) (cf ct : Nat → Nat) (f q : Int32) (hF : nF ≤ 10) (hC : nC ≤ 20) (hK8 : 801 ≤ K) (hS0 : ∀ c, c < nC → cf c < nF ∧ ct c < nF) : Met l y_M_bad w_M_bad ({ frames := 4, cells := 0, slots := 0, locals := 96 }) (va_Pc [.ref (h 0), .int f, .int q] (fun U => U.heap.size = sz ∧ va_P (dC, dI) kls (wM h cI cZ xt (nI nF) (nI nC) xg aP (fun c => nI (cf c)) (fun c => nI (ct c)) aK bF bL bB bA bY bR oT oO oR bS) U.heap ∧ va_K (dC, dI) kls (tyM cI cZ) U ∧ va_D (fun _ => True) (wM h cI cZ xt (nI nF) (nI nC) xg aP (fun c => nI (cf c)) (fun c => nI (ct c)) aK bF bL bB bA bY bR oT oO oR bS))) (va_Qi (fun (r : Int32) (u : Int32 × Int32 × (Nat → Int32) × (Nat → Int32) × (Nat → Int32) × (Nat → Int32) × (Nat → Int32) × (Nat → Int32)) => ((¬ ((∃ i, i < nF ∧ f = nI i) ∧ (-1 : Int32) ≤ q)) ∧ u.1 = nI 0 ∧ r = -1) ∨ ∃ i, i < nF ∧ f = nI i ∧ (-1 : Int32) ≤ q ∧ ((800 < (gA nC cf ct aK rj K).length ∧ u.1 = nI 1) ∨ ((gA nC cf ct aK rj K).length ≤ 800 ∧ u.1 = nI 0 ∧ (((∀ en ∈ gF nC cf ct aK rj K i, ¬ (en.2.1 = i ∧ badX en.2.2.1)) ∧ r = (if q = -1 then nI 0 else -1)) ∨ ∃ k en, (gF nC cf ct aK rj K i)[k]? = some en ∧ en.2.1 = i ∧ badX en.2.2.1 ∧ (∀ j x, j < k → (gF nC cf ct aK rj K i)[j]? = some x → ¬ (x.2.1 = i ∧ badX x.2.2.1)) ∧ ((q = -1 ∧ r = nI (chn (gF nC cf ct aK rj K i) (K + 1) (some k)).length) ∨ ∃ q1, q1 < 2 ^ 31 ∧ q = nI q1 ∧ ((q1 < (chn (gF nC cf ct aK rj K i) (K + 1) (some k)).length ∧ ∃ y, (chn (gF nC cf ct aK rj K i) (K + 1) (some k))[(chn (gF nC cf ct aK rj K i) (K + 1) (some k)).length - 1 - q1]? = some y ∧ r = nI y) ∨ ((chn (gF nC cf ct aK rj K i) (K + 1) (some k)).length ≤ q1 ∧ r = -1))))))) (fun (u : Int32 × Int32 × (Nat → Int32) × (Nat → Int32) × (Nat → Int32) × (Nat → Int32) × (Nat → Int32) × (Nat → Int32)) (t : State) => va_P (dC, dI) kls (wM h cI cZ u.1 (nI nF) (nI nC) u.2.1 aP (fun c => nI (cf c)) (fun c => nI (ct c)) aK u.2.2.1 u.2.2.2.1 u.2.2.2.2.1 u.2.2.2.2.2.1 u.2.2.2.2.2.2.1 u.2.2.2.2.2.2.2 oT oO oR bS) t.heap ∧ va_K (dC, dI) kls (tyM cI cZ) t ∧ va_D (va_A (wM h cI cZ xt (nI nF) (nI nC) xg aP (fun c => nI (cf c)) (fun c => nI (ct c)) aK bF bL bB bA bY bR oT oO oR bS) sz) (wM h cI cZ u.1 (nI nF) (nI nC) u.2.1 aP (fun c => nI (cf c)) (fun c => nI (ct c)) aK u.2.2.1 u.2.2.2.1 u.2.2.2.2.1 u.2.2.2.2.2.1 u.2.2.2.2.2.2.1 u.2.2.2.2.2.2.2 oT oO oR bS)) (va_A (wM h cI cZ xt (nI nF) (nI nC) xg aP (fun c => nI (cf c)) (fun c => nI (ct c)) aK bF bL bB bA bY bR oT oO oR bS) sz)) 0 0 (va_A (wM h cI cZ xt (nI nF) (nI nC) xg aP (fun c => nI (cf c)) (fun c => nI (ct c)) aK bF bL bB bA bY bR oT oO oR bS) sz) := by
  refine Met.ofW (cc := c_M_bad) (maxL := 7) (ret := (some .int)) (by decide) rfl ?_
  intro p e s m args below meth c s₁ B hml hv
  obtain ⟨rfl, hsz, hP, hK, hD0⟩ := hv
  have hx := B.exec
  have hb := B.bytes
  have hr := B.returns
  have hts := atoms_spec (ws := w_M_bad) B.pre
  have hk : ∀ w ∈ wMw, w.before _ s = true := fun w h => hts w (List.mem_cons_of_mem _ h)
  have hown : s.vm.findClass R_M = some m.cls := findClass_of_methodNamed B.named
  have hlocks := B.notSynchronized
  subst hsz
  have hD := hD0.self (sz := s.heap.size)
  generalize hAe : va_A (wM h cI cZ xt (nI nF) (nI nC) xg aP (fun c => nI (cf c)) (fun c => nI (ct c)) aK bF bL bB bA bY bR oT oO oR bS) s.heap.size = A at hD ⊢
  have hA : ∀ q : Nat, s.heap.size ≤ q → A q := fun q h => by rw [← hAe]; exact Or.inr h
  have hS : va_S A s.heap s.heap [] := va_S.rf
  have hl := lv_entry ([.ref (h 0), .int f, .int q]) (n := 7) (Nat.le_of_ble_eq_true rfl)
  rw [lg_entry_eq]
  generalize (lg_sl ([.ref (h 0), .int f, .int q]) ++ List.replicate (7 - (lg_sl ([.ref (h 0), .int f, .int q])).length) Slot.unset).toArray = ls at hl ⊢
  have hl : lv_has ls 7 [(0, .ref (h 0)), (1, .int f), (2, .int q)] := hl
  refine lv_aload_n hx hb d_M_bad_0 rfl (lv_at hl 0 rfl) ?_
  refine lv_iload_n hx hb d_M_bad_1 rfl (lv_at hl 1 rfl) ?_
  have hFc := va_free (wc := wM h cI cZ xt (nI nF) (nI nC) xg aP (fun c => nI (cf c)) (fun c => nI (ct c)) aK bF bL bB bA bY bR oT oO oR bS) hD hS hA [0, 1, 2, 3, 4, 5, 6, 7, 8, 9, 10, 11, 12, 13, 14] rfl
  refine va_calli (va_runV (As := [.int f]) (rest := []) ⟨hx, hb, hml, hown, hk⟩ (m_isFunction l dC dI cI cZ h s.heap.size xt (nI nC) xg aP (fun c => nI (cf c)) (fun c => nI (ct c)) aK bF bL bB bA bY bR oT oO oR bS nF f (by omega)) (cwV 1 hk g_M_isFunction rfl rfl rfl (by decide +kernel) ⟨Nat.le_of_ble_eq_true rfl, Nat.le_of_ble_eq_true rfl⟩) ⟨fun a U g mk q => by obtain ⟨q0, q1, qP, qK, qD⟩ := q; exact ⟨q0, q1, qP, va_K.moved (u := U) (U := U.calling g mk a) (Vm.Alike.refl U.vm) qK, qD⟩, va_recv hK hP (ci := 0) (q0 := 0) rfl rfl, fun U hU hW => ⟨rfl, by rw [hU], by rw [hU]; exact hP, va_K.moved hW.alike hK, hD.weaken (fun _ _ _ _ => trivial)⟩⟩ rfl rfl hl.1 rfl (lv_room (Nat.le_of_ble_eq_true rfl)) d_M_bad_2 ⟨Nat.le_of_ble_eq_true rfl, Nat.le_of_ble_eq_true rfl⟩) hS (fun q _ h => hFc q h) hFc (fun r1 u9 t H1 locs ht hvm hw hB hz1 hk1 hS => ?_)
  obtain ⟨hP1, hK1, hD1⟩ := hB
  rw [ht] at hP1
  try dsimp only at hw
  obtain ⟨hP, hD⟩ := va_join (wr := []) (w1 := wM h cI cZ xt (nI nF) (nI nC) xg aP (fun c => nI (cf c)) (fun c => nI (ct c)) aK bF bL bB bA bY bR oT oO oR bS) hP hD [0, 1, 2, 3, 4, 5, 6, 7, 8, 9, 10, 11, 12, 13, 14] [] rfl rfl (by decide) (by decide) hk1 hFc hP1 hD1
  generalize H1 = H at hP hS ⊢
  have hP : va_P (dC, dI) kls (wM h cI cZ xt (nI nF) (nI nC) xg aP (fun c => nI (cf c)) (fun c => nI (ct c)) aK bF bL bB bA bY bR oT oO oR bS) H := hP
  have hD : va_D A (wM h cI cZ xt (nI nF) (nI nC) xg aP (fun c => nI (cf c)) (fun c => nI (ct c)) aK bF bL bB bA bY bR oT oO oR bS) := hD
  rcases hw with ⟨hr9, i1, hi1, hfj⟩ | ⟨hr9, hno_f⟩
  · subst hr9
    subst hfj
    refine lv_if_eq (tgt := 13) hx hb d_M_bad_5 (by decide) (fun c9 => absurd c9 (by decide +kernel)) (fun _ => ?_)
    refine lv_iload_n hx hb d_M_bad_8 rfl (lv_at hl 2 rfl) ?_
    refine lv_iconst (v := (-1)) hx hb d_M_bad_9 (by decide +kernel) ?_
    refine lv_icmp_ge (tgt := 17) hx hb d_M_bad_10 (by decide) (fun c_10 => ?_) (fun c_10 => ?_)
    · refine lv_iconst (v := nI 0) hx hb d_M_bad_17 (by decide +kernel) ?_
      refine lv_istore_n (lv' := [(3, .int (nI 0)), (0, .ref (h 0)), (1, .int (nI i1)), (2, .int q)]) hx hb d_M_bad_18 rfl hl (by decide) rfl (fun ls hl => ?_)
      refine lv_aload_n hx hb d_M_bad_19 rfl (lv_at hl 1 rfl) ?_
      refine lv_iconst (v := nI 0) hx hb d_M_bad_20 (by decide +kernel) ?_
      refine lv_iload_n hx hb d_M_bad_21 rfl (lv_at hl 0 rfl) ?_
      have hFc := va_free (wc := wM h cI cZ xt (nI nF) (nI nC) xg aP (fun c => nI (cf c)) (fun c => nI (ct c)) aK bF bL bB bA bY bR oT oO oR bS) hD hS hA [0, 1, 2, 3, 4, 5, 6, 7, 8, 9, 10, 11, 12, 13, 14] rfl
      refine va_calli (va_runV (As := [.int (nI 0), .int (nI 0)]) (rest := []) ⟨hx, hb, hml, hown, hk⟩ (m_refused l dC dI cI cZ h H.size xt (nI nF) xg aP aK bF bL bB bA bY bR oT oO oR bS nC K cf ct (hC) (hK8) (fun c hc => ⟨by have := hS0 c hc; omega, by have := hS0 c hc; omega⟩)) (cwV 2 hk g_M_refused rfl rfl rfl (by decide +kernel) ⟨Nat.le_of_ble_eq_true rfl, Nat.le_of_ble_eq_true rfl⟩) ⟨fun a U g mk q => by obtain ⟨q0, q1, qP, qK, qD⟩ := q; exact ⟨q0, q1, qP, va_K.moved (u := U) (U := U.calling g mk a) (Vm.Alike.refl U.vm) qK, qD⟩, va_recv hK hP (ci := 0) (q0 := 0) rfl rfl, fun U hU hW => ⟨rfl, by rw [hU], by rw [hU]; exact hP, va_K.moved hW.alike hK, hD.weaken (fun _ _ _ _ => trivial)⟩⟩ rfl rfl hl.1 rfl (lv_room (Nat.le_of_ble_eq_true rfl)) d_M_bad_22 ⟨Nat.le_of_ble_eq_true rfl, Nat.le_of_ble_eq_true rfl⟩) hS (fun q _ h => hFc q h) hFc (fun r2 u9 t H1 locs ht hvm hw hB hz1 hk1 hS => ?_)
      obtain ⟨xt9, xg9, bF9, bL9, bB9, bA9, bY9⟩ := u9
      obtain ⟨hP1, hK1, hD1⟩ := hB
      rw [ht] at hP1
      try dsimp only at hw
      obtain ⟨hP, hD⟩ := va_join (wr := []) (w1 := wM h cI cZ xt9 (nI nF) (nI nC) xg9 aP (fun c => nI (cf c)) (fun c => nI (ct c)) aK bF9 bL9 bB9 bA9 bY9 bR oT oO oR bS) hP hD [0, 1, 2, 3, 4, 5, 6, 7, 8, 9, 10, 11, 12, 13, 14] [] rfl rfl (by decide) (by decide) hk1 hFc hP1 hD1
      generalize H1 = H at hP hS ⊢
      have hP : va_P (dC, dI) kls (wM h cI cZ xt9 (nI nF) (nI nC) xg9 aP (fun c => nI (cf c)) (fun c => nI (ct c)) aK bF9 bL9 bB9 bA9 bY9 bR oT oO oR bS) H := hP
      have hD : va_D A (wM h cI cZ xt9 (nI nF) (nI nC) xg9 aP (fun c => nI (cf c)) (fun c => nI (ct c)) aK bF9 bL9 bB9 bA9 bY9 bR oT oO oR bS) := hD
      rcases hw with ⟨hr9, hu9, hle, hg9, hE9⟩ | ⟨hr9, hu9, hgt⟩
      · subst hr9
        subst hu9
        subst hg9
        have hsm : smE (gA nC cf ct aK rj K) := sm_of (fun c hc => ⟨by have := hS0 c hc; omega, by have := hS0 c hc; omega⟩) (bsG_ok nC cf ct aK rj (fun _ => true) K)
        refine lv_if_eq (tgt := 51) hx hb d_M_bad_25 (by decide) (fun _ => ?_) (fun c9 => absurd c9 (by decide +kernel))
        refine lv_aload_n hx hb d_M_bad_51 rfl (lv_at hl 1 rfl) ?_
        refine lv_iload_n hx hb d_M_bad_52 rfl (lv_at hl 2 rfl) ?_
        have hFc := va_free (wc := wM h cI cZ (nI 0) (nI nF) (nI nC) (nI ((gA nC cf ct aK rj K).length)) aP (fun c => nI (cf c)) (fun c => nI (ct c)) aK bF9 bL9 bB9 bA9 bY9 bR oT oO oR bS) hD hS hA [0, 1, 2, 3, 4, 5, 6, 7, 8, 9, 10, 11, 12, 13, 14] rfl
        refine va_calli (va_runV (As := [.int (nI i1)]) (rest := []) ⟨hx, hb, hml, hown, hk⟩ (m_find l dC dI cI cZ h H.size (nI 0) (nI nF) (nI ((gA nC cf ct aK rj K).length)) aP aK bF9 bL9 bB9 bA9 bY9 bR oT oO oR bS nC K cf ct (fun x => x == i1) (nI i1) (hC) (hK8) (fun c hc => ⟨by have := hS0 c hc; omega, by have := hS0 c hc; omega⟩) (fun c hc => by have h9 := hS0 c hc; rw [beq_iff_eq]; exact ⟨fun z => Or.inr (by rw [z]), fun z => by rcases z with z | z; exact absurd z (ah_neg (by omega)); exact (nI_eq (by omega) (by omega)).mp z⟩)) (cwV 1 hk g_M_find rfl rfl rfl (by decide +kernel) ⟨Nat.le_of_ble_eq_true rfl, Nat.le_of_ble_eq_true rfl⟩) ⟨fun a U g mk q => by obtain ⟨q0, q1, qP, qK, qD⟩ := q; exact ⟨q0, q1, qP, va_K.moved (u := U) (U := U.calling g mk a) (Vm.Alike.refl U.vm) qK, qD⟩, va_recv hK hP (ci := 0) (q0 := 0) rfl rfl, fun U hU hW => ⟨rfl, by rw [hU], by rw [hU]; exact hP, va_K.moved hW.alike hK, hD.weaken (fun _ _ _ _ => trivial)⟩⟩ rfl rfl hl.1 rfl (lv_room (Nat.le_of_ble_eq_true rfl)) d_M_bad_53 ⟨Nat.le_of_ble_eq_true rfl, Nat.le_of_ble_eq_true rfl⟩) hS (fun q _ h => hFc q h) hFc (fun r3 u9 t H1 locs ht hvm hw hB hz1 hk1 hS => ?_)
        obtain ⟨xg8, bF8, bL8, bB8, bA8, bY8⟩ := u9
        obtain ⟨hP1, hK1, hD1⟩ := hB
        rw [ht] at hP1
        try dsimp only at hw
        obtain ⟨hP, hD⟩ := va_join (wr := []) (w1 := wM h cI cZ (nI 0) (nI nF) (nI nC) xg8 aP (fun c => nI (cf c)) (fun c => nI (ct c)) aK bF8 bL8 bB8 bA8 bY8 bR oT oO oR bS) hP hD [0, 1, 2, 3, 4, 5, 6, 7, 8, 9, 10, 11, 12, 13, 14] [] rfl rfl (by decide) (by decide) hk1 hFc hP1 hD1
        generalize H1 = H at hP hS ⊢
        have hP : va_P (dC, dI) kls (wM h cI cZ (nI 0) (nI nF) (nI nC) xg8 aP (fun c => nI (cf c)) (fun c => nI (ct c)) aK bF8 bL8 bB8 bA8 bY8 bR oT oO oR bS) H := hP
        have hD : va_D A (wM h cI cZ (nI 0) (nI nF) (nI nC) xg8 aP (fun c => nI (cf c)) (fun c => nI (ct c)) aK bF8 bL8 bB8 bA8 bY8 bR oT oO oR bS) := hD
        have hgf : (gF nC cf ct aK rj K i1).length ≤ 800 := Nat.le_trans (gN_ge nC cf ct aK rj K hi1) ((g_few nC cf ct aK rj K hK8 (fun c hc => (hS0 c hc).1)).mp hle)
        rcases hw with ⟨hr9, -, hg9, hE8⟩ | ⟨hr9, hgt⟩
        · subst hr9
          subst hg9
          have hE8 : hE (gF nC cf ct aK rj K i1) bF8 bL8 bB8 bA8 bY8 := hE8
          have hsf : smE (gF nC cf ct aK rj K i1) := sm_of (fun c hc => ⟨by have := hS0 c hc; omega, by have := hS0 c hc; omega⟩) (bsG_ok nC cf ct aK rj (fun x => x == i1) K)
          have hah : ahOk (gF nC cf ct aK rj K i1) := bsG_ahead nC cf ct aK rj (fun x => x == i1) K
          refine lv_pop hx hb d_M_bad_56 rfl ?_
          refine lv_iconst (v := nI 0) hx hb d_M_bad_57 (by decide +kernel) ?_
          refine lv_istore (lv' := [(4, .int (nI 0)), (3, .int (nI 0)), (0, .ref (h 0)), (1, .int (nI i1)), (2, .int q)]) hx hb d_M_bad_58 hl (by decide) rfl (fun ls hl => ?_)
          have lp1 : ∀ (n_lp1 : Nat) (k : Nat), (k ≤ (gF nC cf ct aK rj K i1).length) → (∀ j x, j < k → (gF nC cf ct aK rj K i1)[j]? = some x → ¬ (x.2.1 = i1 ∧ badX x.2.2.1)) → (gF nC cf ct aK rj K i1).length - k < n_lp1 → ∀ (H : Heap) (locs : List Loc) (ls : Array Slot), va_P (dC, dI) kls (wM h cI cZ (nI 0) (nI nF) (nI nC) (nI ((gF nC cf ct aK rj K i1).length)) aP (fun c => nI (cf c)) (fun c => nI (ct c)) aK bF8 bL8 bB8 bA8 bY8 bR oT oO oR bS) H → va_D A (wM h cI cZ (nI 0) (nI nF) (nI nC) (nI ((gF nC cf ct aK rj K i1).length)) aP (fun c => nI (cf c)) (fun c => nI (ct c)) aK bF8 bL8 bB8 bA8 bY8 bR oT oO oR bS) → va_S A s.heap H locs → lv_has ls 7 [(0, .ref (h 0)), (1, .int (nI i1)), (2, .int q), (4, .int (nI k))] → W p l e (headSpec w_M_bad ({ frames := 4, cells := 0, slots := 0, locals := 96 })).room s m ([.ref (h 0), .int (nI i1), .int q]).toArray below meth c H locs 0 0 (MQ below (va_Qi (fun (r : Int32) (u : Int32 × Int32 × (Nat → Int32) × (Nat → Int32) × (Nat → Int32) × (Nat → Int32) × (Nat → Int32) × (Nat → Int32)) => ((¬ ((∃ i, i < nF ∧ (nI i1) = nI i) ∧ (-1 : Int32) ≤ q)) ∧ u.1 = nI 0 ∧ r = -1) ∨ ∃ i, i < nF ∧ (nI i1) = nI i ∧ (-1 : Int32) ≤ q ∧ ((800 < (gA nC cf ct aK rj K).length ∧ u.1 = nI 1) ∨ ((gA nC cf ct aK rj K).length ≤ 800 ∧ u.1 = nI 0 ∧ (((∀ en ∈ gF nC cf ct aK rj K i, ¬ (en.2.1 = i ∧ badX en.2.2.1)) ∧ r = (if q = -1 then nI 0 else -1)) ∨ ∃ k en, (gF nC cf ct aK rj K i)[k]? = some en ∧ en.2.1 = i ∧ badX en.2.2.1 ∧ (∀ j x, j < k → (gF nC cf ct aK rj K i)[j]? = some x → ¬ (x.2.1 = i ∧ badX x.2.2.1)) ∧ ((q = -1 ∧ r = nI (chn (gF nC cf ct aK rj K i) (K + 1) (some k)).length) ∨ ∃ q1, q1 < 2 ^ 31 ∧ q = nI q1 ∧ ((q1 < (chn (gF nC cf ct aK rj K i) (K + 1) (some k)).length ∧ ∃ y, (chn (gF nC cf ct aK rj K i) (K + 1) (some k))[(chn (gF nC cf ct aK rj K i) (K + 1) (some k)).length - 1 - q1]? = some y ∧ r = nI y) ∨ ((chn (gF nC cf ct aK rj K i) (K + 1) (some k)).length ≤ q1 ∧ r = -1))))))) (fun (u : Int32 × Int32 × (Nat → Int32) × (Nat → Int32) × (Nat → Int32) × (Nat → Int32) × (Nat → Int32) × (Nat → Int32)) (t : State) => va_P (dC, dI) kls (wM h cI cZ u.1 (nI nF) (nI nC) u.2.1 aP (fun c => nI (cf c)) (fun c => nI (ct c)) aK u.2.2.1 u.2.2.2.1 u.2.2.2.2.1 u.2.2.2.2.2.1 u.2.2.2.2.2.2.1 u.2.2.2.2.2.2.2 oT oO oR bS) t.heap ∧ va_K (dC, dI) kls (tyM cI cZ) t ∧ va_D (A) (wM h cI cZ u.1 (nI nF) (nI nC) u.2.1 aP (fun c => nI (cf c)) (fun c => nI (ct c)) aK u.2.2.1 u.2.2.2.1 u.2.2.2.2.1 u.2.2.2.2.2.1 u.2.2.2.2.2.2.1 u.2.2.2.2.2.2.2 oT oO oR bS)) A) ([.ref (h 0), .int (nI i1), .int q]).toArray s 0 0 A) (F0 m 60 ls []) := by
            intro n_lp1
            induction n_lp1 with
            | zero => intro k hk0 hno hn; exact absurd hn (Nat.not_lt_zero _)
            | succ n_lp1 ih_lp1 =>
              intro k hk0 hno hn H locs ls hP hD hS hl
              refine lv_iload hx hb d_M_bad_60 (lv_at hl 3 rfl) ?_
              refine lv_aload_n hx hb d_M_bad_62 rfl (lv_at hl 0 rfl) ?_
              refine va_get (D := (dC, dI)) (ci := 0) (v := .int (nI ((gF nC cf ct aK rj K i1).length))) (C := R_M) (T := F_M) (N := 18) hx hb hk k_M_f hown hK hP 0 rfl rfl 7 (by decide) (hk _ k_M_15) (fun _ h9 => h9) rfl d_M_bad_63 ?_
              refine lv_icmp_ge (tgt := 99) hx hb d_M_bad_66 (by decide) (fun c_66 => ?_) (fun c_66 => ?_)
              · have c_66 : (gF nC cf ct aK rj K i1).length ≤ k := (nI_leI (a := (gF nC cf ct aK rj K i1).length) (b := k) (by omega) (by omega)).mp c_66
                have hke : k = (gF nC cf ct aK rj K i1).length := by omega
                subst hke
                refine lv_iload hx hb d_M_bad_99 (lv_at hl 3 rfl) ?_
                refine lv_aload_n hx hb d_M_bad_101 rfl (lv_at hl 0 rfl) ?_
                refine va_get (D := (dC, dI)) (ci := 0) (v := .int (nI ((gF nC cf ct aK rj K i1).length))) (C := R_M) (T := F_M) (N := 18) hx hb hk k_M_f hown hK hP 0 rfl rfl 7 (by decide) (hk _ k_M_15) (fun _ h9 => h9) rfl d_M_bad_102 ?_
                refine lv_icmp_ne (tgt := 119) hx hb d_M_bad_105 (by decide) (fun c_105 => ?_) (fun c_105 => ?_)
                · have c_105 : ¬ (gF nC cf ct aK rj K i1).length = (gF nC cf ct aK rj K i1).length := fun z9 => c_105 ((nI_eq (a := (gF nC cf ct aK rj K i1).length) (b := (gF nC cf ct aK rj K i1).length) (by omega) (by omega)).mpr z9)
                  exfalso; omega
                · have c_105 : (gF nC cf ct aK rj K i1).length = (gF nC cf ct aK rj K i1).length := (nI_eq (a := (gF nC cf ct aK rj K i1).length) (b := (gF nC cf ct aK rj K i1).length) (by omega) (by omega)).mp c_105
                  refine lv_iload_n hx hb d_M_bad_108 rfl (lv_at hl 2 rfl) ?_
                  refine lv_iconst (v := (-1)) hx hb d_M_bad_109 (by decide +kernel) ?_
                  refine lv_icmp_ne (tgt := 117) hx hb d_M_bad_110 (by decide) (fun c_110 => ?_) (fun c_110 => ?_)
                  · refine lv_iconst (v := (-1)) hx hb d_M_bad_117 (by decide +kernel) ?_
                    have hall : ∀ en ∈ gF nC cf ct aK rj K i1, ¬ (en.2.1 = i1 ∧ badX en.2.2.1) := by
                      intro en hm
                      obtain ⟨j, hj⟩ := List.getElem?_of_mem hm
                      exact hno j en (by have := (List.getElem?_eq_some_iff.mp hj).1; omega) hj
                    have hrq : (-1) = (if q = -1 then nI 0 else -1) := by first | rw [if_pos c_110] | rw [if_neg c_110]
                    exact W.iret (v := (-1)) hx hb hr (fun t ht hW => ⟨⟨(-1), (nI 0, nI (gF nC cf ct aK rj K i1).length, bF8, bL8, bB8, bA8, bY8, bR), rfl, Or.inr ⟨i1, hi1, rfl, c_10, Or.inr ⟨hle, rfl, Or.inl ⟨hall, hrq⟩⟩⟩, by rw [ht]; exact hP, va_K.moved hW.alike hK, hD⟩, hS.F ht⟩) hS.2.2 d_M_bad_118
                  · refine lv_iconst (v := nI 0) hx hb d_M_bad_113 (by decide +kernel) ?_
                    refine lv_goto (tgt := 118) hx hb d_M_bad_114 (by decide) ?_
                    have hall : ∀ en ∈ gF nC cf ct aK rj K i1, ¬ (en.2.1 = i1 ∧ badX en.2.2.1) := by
                      intro en hm
                      obtain ⟨j, hj⟩ := List.getElem?_of_mem hm
                      exact hno j en (by have := (List.getElem?_eq_some_iff.mp hj).1; omega) hj
                    have hrq : nI 0 = (if q = -1 then nI 0 else -1) := by first | rw [if_pos c_110] | rw [if_neg c_110]
                    exact W.iret (v := nI 0) hx hb hr (fun t ht hW => ⟨⟨nI 0, (nI 0, nI (gF nC cf ct aK rj K i1).length, bF8, bL8, bB8, bA8, bY8, bR), rfl, Or.inr ⟨i1, hi1, rfl, c_10, Or.inr ⟨hle, rfl, Or.inl ⟨hall, hrq⟩⟩⟩, by rw [ht]; exact hP, va_K.moved hW.alike hK, hD⟩, hS.F ht⟩) hS.2.2 d_M_bad_118
              · have c_66 : ¬ (gF nC cf ct aK rj K i1).length ≤ k := fun z9 => c_66 ((nI_leI (a := (gF nC cf ct aK rj K i1).length) (b := k) (by omega) (by omega)).mpr z9)
                obtain ⟨en, hen⟩ : ∃ en, (gF nC cf ct aK rj K i1)[k]? = some en := ⟨_, List.getElem?_eq_getElem (by omega)⟩
                obtain ⟨q1, q2, q3, -, -⟩ := hE8 k en hen
                have hsn := hsf en (List.mem_of_getElem? hen)
                refine lv_aload_n hx hb d_M_bad_69 rfl (lv_at hl 0 rfl) ?_
                refine va_get (D := (dC, dI)) (ci := 0) (v := .ref (h 6)) (C := R_M) (T := F_M) (N := 18) hx hb hk k_M_f hown hK hP 0 rfl rfl 9 (by decide) (hk _ k_M_17) (fun _ h9 => h9) rfl d_M_bad_70 ?_
                refine lv_iload hx hb d_M_bad_73 (lv_at hl 3 rfl) ?_
                refine va_iald hx hb hK hP 6 0 rfl rfl (pk_in k 801 (by omega)) d_M_bad_75 ?_
                refine lv_topi (fun z4 ez4 => ?_)
                obtain rfl : z4 = nI en.2.1 := ez4.trans ((rd (f := bL8) (k := k) (by omega)).trans q2)
                refine lv_iload_n hx hb d_M_bad_76 rfl (lv_at hl 1 rfl) ?_
                refine lv_icmp_ne (tgt := 93) hx hb d_M_bad_77 (by decide) (fun c_77 => ?_) (fun c_77 => ?_)
                · have c_77 : ¬ en.2.1 = i1 := fun z9 => c_77 ((nI_eq (a := en.2.1) (b := i1) (by omega) (by omega)).mpr z9)
                  refine lv_iinc (v := nI (k + 1)) (lv' := [(4, .int (nI (k + 1))), (0, .ref (h 0)), (1, .int (nI i1)), (2, .int q)]) hx hb d_M_bad_93 hl (k := 3) rfl (nI_add k 1) (by decide) rfl (fun ls hl => ?_)
                  refine lv_goto (tgt := 60) hx hb d_M_bad_96 (by decide) ?_
                  have hno2 : ∀ j x, j < k + 1 → (gF nC cf ct aK rj K i1)[j]? = some x → ¬ (x.2.1 = i1 ∧ badX x.2.2.1) := by
                    intro j x hj hx9
                    rcases Nat.lt_or_ge j k with z | z
                    · exact hno j x z hx9
                    · obtain rfl : j = k := by omega
                      rw [hen] at hx9
                      cases hx9
                      rintro ⟨z1, z2⟩
                      first
                        | exact c_77 z1
                        | exact hbad z2
                  exact ih_lp1 (k + 1) (by omega) (hno2) (by omega) _ _ _ hP hD hS (lv_sub hl [1, 2, 3, 0] rfl)
                · have c_77 : en.2.1 = i1 := (nI_eq (a := en.2.1) (b := i1) (by omega) (by omega)).mp c_77
                  refine lv_aload_n hx hb d_M_bad_80 rfl (lv_at hl 0 rfl) ?_
                  refine va_get (D := (dC, dI)) (ci := 0) (v := .ref (h 7)) (C := R_M) (T := F_M) (N := 18) hx hb hk k_M_f hown hK hP 0 rfl rfl 10 (by decide) (hk _ k_M_18) (fun _ h9 => h9) rfl d_M_bad_81 ?_
                  refine lv_iload hx hb d_M_bad_84 (lv_at hl 3 rfl) ?_
                  refine va_iald hx hb hK hP 7 0 rfl rfl (pk_in k 801 (by omega)) d_M_bad_86 ?_
                  refine lv_topi (fun z5 ez5 => ?_)
                  obtain rfl : z5 = en.2.2.1 := ez5.trans ((rd (f := bB8) (k := k) (by omega)).trans q3)
                  refine vp_callSi (W.runS (As := [.int en.2.2.1]) (rest := []) ⟨hx, hb, hml, hown, hk⟩ (m_isBad l en.2.2.1) (cwS 1 hk g_M_isBad rfl rfl rfl (by decide +kernel) ⟨Nat.le_of_ble_eq_true rfl, Nat.le_of_ble_eq_true rfl⟩) ⟨fun a U g mk q => q, fun U hU hW => ⟨rfl, trivial⟩⟩ rfl rfl hl.1 rfl (lv_room (Nat.le_of_ble_eq_true rfl)) d_M_bad_87 ⟨Nat.le_of_ble_eq_true rfl, Nat.le_of_ble_eq_true rfl⟩) (fun r6 hw => ?_)
                  rcases hw with ⟨hr9, hbad⟩ | ⟨hr9, hbad⟩
                  · subst hr9
                    refine lv_if_ne (tgt := 99) hx hb d_M_bad_90 (by decide) (fun _ => ?_) (fun c9 => absurd c9 (by decide +kernel))
                    refine lv_iload hx hb d_M_bad_99 (lv_at hl 3 rfl) ?_
                    refine lv_aload_n hx hb d_M_bad_101 rfl (lv_at hl 0 rfl) ?_
                    refine va_get (D := (dC, dI)) (ci := 0) (v := .int (nI ((gF nC cf ct aK rj K i1).length))) (C := R_M) (T := F_M) (N := 18) hx hb hk k_M_f hown hK hP 0 rfl rfl 7 (by decide) (hk _ k_M_15) (fun _ h9 => h9) rfl d_M_bad_102 ?_
                    refine lv_icmp_ne (tgt := 119) hx hb d_M_bad_105 (by decide) (fun c_105 => ?_) (fun c_105 => ?_)
                    · have c_105 : ¬ k = (gF nC cf ct aK rj K i1).length := fun z9 => c_105 ((nI_eq (a := k) (b := (gF nC cf ct aK rj K i1).length) (by omega) (by omega)).mpr z9)
                      refine lv_iconst (v := nI 0) hx hb d_M_bad_119 (by decide +kernel) ?_
                      refine lv_istore (lv' := [(5, .int (nI 0)), (0, .ref (h 0)), (1, .int (nI i1)), (2, .int q), (4, .int (nI k))]) hx hb d_M_bad_120 hl (by decide) rfl (fun ls hl => ?_)
                      refine lv_iload hx hb d_M_bad_122 (lv_at hl 4 rfl) ?_
                      refine lv_istore (lv' := [(6, .int (nI k)), (5, .int (nI 0)), (0, .ref (h 0)), (1, .int (nI i1)), (2, .int q), (4, .int (nI k))]) hx hb d_M_bad_124 hl (by decide) rfl (fun ls hl => ?_)
                      have lp2 : ∀ (n_lp2 : Nat) (pre : List Nat) (a : Option Nat) (bR : Nat → Int32), (pre ++ chn (gF nC cf ct aK rj K i1) (K + 1) a = chn (gF nC cf ct aK rj K i1) (K + 1) (some k)) → (hR pre bR) → (pre.length + mA a ≤ k + 1) → (∀ j, a = some j → j < (gF nC cf ct aK rj K i1).length) → mA a < n_lp2 → ∀ (H : Heap) (locs : List Loc) (ls : Array Slot), va_P (dC, dI) kls (wM h cI cZ (nI 0) (nI nF) (nI nC) (nI ((gF nC cf ct aK rj K i1).length)) aP (fun c => nI (cf c)) (fun c => nI (ct c)) aK bF8 bL8 bB8 bA8 bY8 bR oT oO oR bS) H → va_D A (wM h cI cZ (nI 0) (nI nF) (nI nC) (nI ((gF nC cf ct aK rj K i1).length)) aP (fun c => nI (cf c)) (fun c => nI (ct c)) aK bF8 bL8 bB8 bA8 bY8 bR oT oO oR bS) → va_S A s.heap H locs → lv_has ls 7 [(0, .ref (h 0)), (1, .int (nI i1)), (2, .int q), (4, .int (nI k)), (5, .int (nI pre.length)), (6, .int (ahI a))] → W p l e (headSpec w_M_bad ({ frames := 4, cells := 0, slots := 0, locals := 96 })).room s m ([.ref (h 0), .int (nI i1), .int q]).toArray below meth c H locs 0 0 (MQ below (va_Qi (fun (r : Int32) (u : Int32 × Int32 × (Nat → Int32) × (Nat → Int32) × (Nat → Int32) × (Nat → Int32) × (Nat → Int32) × (Nat → Int32)) => ((¬ ((∃ i, i < nF ∧ (nI i1) = nI i) ∧ (-1 : Int32) ≤ q)) ∧ u.1 = nI 0 ∧ r = -1) ∨ ∃ i, i < nF ∧ (nI i1) = nI i ∧ (-1 : Int32) ≤ q ∧ ((800 < (gA nC cf ct aK rj K).length ∧ u.1 = nI 1) ∨ ((gA nC cf ct aK rj K).length ≤ 800 ∧ u.1 = nI 0 ∧ (((∀ en ∈ gF nC cf ct aK rj K i, ¬ (en.2.1 = i ∧ badX en.2.2.1)) ∧ r = (if q = -1 then nI 0 else -1)) ∨ ∃ k en, (gF nC cf ct aK rj K i)[k]? = some en ∧ en.2.1 = i ∧ badX en.2.2.1 ∧ (∀ j x, j < k → (gF nC cf ct aK rj K i)[j]? = some x → ¬ (x.2.1 = i ∧ badX x.2.2.1)) ∧ ((q = -1 ∧ r = nI (chn (gF nC cf ct aK rj K i) (K + 1) (some k)).length) ∨ ∃ q1, q1 < 2 ^ 31 ∧ q = nI q1 ∧ ((q1 < (chn (gF nC cf ct aK rj K i) (K + 1) (some k)).length ∧ ∃ y, (chn (gF nC cf ct aK rj K i) (K + 1) (some k))[(chn (gF nC cf ct aK rj K i) (K + 1) (some k)).length - 1 - q1]? = some y ∧ r = nI y) ∨ ((chn (gF nC cf ct aK rj K i) (K + 1) (some k)).length ≤ q1 ∧ r = -1))))))) (fun (u : Int32 × Int32 × (Nat → Int32) × (Nat → Int32) × (Nat → Int32) × (Nat → Int32) × (Nat → Int32) × (Nat → Int32)) (t : State) => va_P (dC, dI) kls (wM h cI cZ u.1 (nI nF) (nI nC) u.2.1 aP (fun c => nI (cf c)) (fun c => nI (ct c)) aK u.2.2.1 u.2.2.2.1 u.2.2.2.2.1 u.2.2.2.2.2.1 u.2.2.2.2.2.2.1 u.2.2.2.2.2.2.2 oT oO oR bS) t.heap ∧ va_K (dC, dI) kls (tyM cI cZ) t ∧ va_D (A) (wM h cI cZ u.1 (nI nF) (nI nC) u.2.1 aP (fun c => nI (cf c)) (fun c => nI (ct c)) aK u.2.2.1 u.2.2.2.1 u.2.2.2.2.1 u.2.2.2.2.2.1 u.2.2.2.2.2.2.1 u.2.2.2.2.2.2.2 oT oO oR bS)) A) ([.ref (h 0), .int (nI i1), .int q]).toArray s 0 0 A) (F0 m 126 ls []) := by
                        intro n_lp2
                        induction n_lp2 with
                        | zero => intro pre a bR hch hpr hpl haj hn; exact absurd hn (Nat.not_lt_zero _)
                        | succ n_lp2 ih_lp2 =>
                          intro pre a bR hch hpr hpl haj hn H locs ls hP hD hS hl
                          refine lv_iload hx hb d_M_bad_126 (lv_at hl 5 rfl) ?_
                          refine lv_iconst (v := (-1)) hx hb d_M_bad_128 (by decide +kernel) ?_
                          refine lv_icmp_eq (tgt := 161) hx hb d_M_bad_129 (by decide) (fun c_129 => ?_) (fun c_129 => ?_)
                          · have han : a = none := by cases a; rfl; exact absurd c_129 (ah_neg (by have := haj _ rfl; omega))
                            subst han
                            rw [chn_none, List.append_nil] at hch
                            subst hch
                            have hpl9 : (chn (gF nC cf ct aK rj K i1) (K + 1) (some k)).length ≤ 801 := by have : mA none = 0 := rfl; omega
                            refine lv_iload_n hx hb d_M_bad_161 rfl (lv_at hl 2 rfl) ?_
                            refine lv_iconst (v := (-1)) hx hb d_M_bad_162 (by decide +kernel) ?_
                            refine lv_icmp_ne (tgt := 171) hx hb d_M_bad_163 (by decide) (fun c_163 => ?_) (fun c_163 => ?_)
                            · obtain ⟨q1, hq1, rfl⟩ := nI_of (nn_of c_10 c_163)
                              refine lv_iload_n hx hb d_M_bad_171 rfl (lv_at hl 2 rfl) ?_
                              refine lv_iload hx hb d_M_bad_172 (lv_at hl 4 rfl) ?_
                              refine lv_icmp_ge (tgt := 191) hx hb d_M_bad_174 (by decide) (fun c_174 => ?_) (fun c_174 => ?_)
                              · have c_174 : (chn (gF nC cf ct aK rj K i1) (K + 1) (some k)).length ≤ q1 := (nI_leI (a := (chn (gF nC cf ct aK rj K i1) (K + 1) (some k)).length) (b := q1) (by omega) (by omega)).mp c_174
                                refine lv_iconst (v := (-1)) hx hb d_M_bad_191 (by decide +kernel) ?_
                                exact W.iret (v := (-1)) hx hb hr (fun t ht hW => ⟨⟨(-1), (nI 0, nI (gF nC cf ct aK rj K i1).length, bF8, bL8, bB8, bA8, bY8, bR), rfl, Or.inr ⟨i1, hi1, rfl, c_10, Or.inr ⟨hle, rfl, Or.inr ⟨k, en, hen, c_77, hbad, hno, Or.inr ⟨q1, hq1, rfl, Or.inr ⟨c_174, rfl⟩⟩⟩⟩⟩, by rw [ht]; exact hP, va_K.moved hW.alike hK, hD⟩, hS.F ht⟩) hS.2.2 d_M_bad_192
                              · have c_174 : ¬ (chn (gF nC cf ct aK rj K i1) (K + 1) (some k)).length ≤ q1 := fun z9 => c_174 ((nI_leI (a := (chn (gF nC cf ct aK rj K i1) (K + 1) (some k)).length) (b := q1) (by omega) (by omega)).mpr z9)
                                refine lv_aload_n hx hb d_M_bad_177 rfl (lv_at hl 0 rfl) ?_
                                refine va_get (D := (dC, dI)) (ci := 0) (v := .ref (h 10)) (C := R_M) (T := F_M) (N := 18) hx hb hk k_M_f hown hK hP 0 rfl rfl 13 (by decide) (hk _ k_M_21) (fun _ h9 => h9) rfl d_M_bad_178 ?_
                                refine lv_iload hx hb d_M_bad_181 (lv_at hl 4 rfl) ?_
                                refine lv_iconst (v := nI 1) hx hb d_M_bad_183 (by decide +kernel) ?_
                                refine lv_isub hx hb d_M_bad_184 ?_
                                refine lv_topi (fun z7 ez7 => ?_)
                                obtain rfl : z7 = nI ((chn (gF nC cf ct aK rj K i1) (K + 1) (some k)).length - 1) := ez7.trans (pk_sub (by omega))
                                refine lv_iload_n hx hb d_M_bad_185 rfl (lv_at hl 2 rfl) ?_
                                refine lv_isub hx hb d_M_bad_186 ?_
                                refine lv_topi (fun z8 ez8 => ?_)
                                obtain rfl : z8 = nI ((chn (gF nC cf ct aK rj K i1) (K + 1) (some k)).length - 1 - q1) := ez8.trans (pk_sub (by omega))
                                refine va_iald hx hb hK hP 10 0 rfl rfl (pk_in ((chn (gF nC cf ct aK rj K i1) (K + 1) (some k)).length - 1 - q1) 801 (by omega)) d_M_bad_187 ?_
                                refine lv_topi (fun z9 ez9 => ?_)
                                obtain rfl : z9 = bR ((chn (gF nC cf ct aK rj K i1) (K + 1) (some k)).length - 1 - q1) := ez9.trans (rd (f := bR) (k := (chn (gF nC cf ct aK rj K i1) (K + 1) (some k)).length - 1 - q1) (by omega))
                                refine lv_goto (tgt := 192) hx hb d_M_bad_188 (by decide) ?_
                                obtain ⟨y9, hy9⟩ : ∃ y9, (chn (gF nC cf ct aK rj K i1) (K + 1) (some k))[(chn (gF nC cf ct aK rj K i1) (K + 1) (some k)).length - 1 - q1]? = some y9 := ⟨_, List.getElem?_eq_getElem (by omega)⟩
                                exact W.iret (v := bR ((chn (gF nC cf ct aK rj K i1) (K + 1) (some k)).length - 1 - q1)) hx hb hr (fun t ht hW => ⟨⟨bR ((chn (gF nC cf ct aK rj K i1) (K + 1) (some k)).length - 1 - q1), (nI 0, nI (gF nC cf ct aK rj K i1).length, bF8, bL8, bB8, bA8, bY8, bR), rfl, Or.inr ⟨i1, hi1, rfl, c_10, Or.inr ⟨hle, rfl, Or.inr ⟨k, en, hen, c_77, hbad, hno, Or.inr ⟨q1, hq1, rfl, Or.inl ⟨by omega, y9, hy9, hpr _ _ hy9⟩⟩⟩⟩⟩, by rw [ht]; exact hP, va_K.moved hW.alike hK, hD⟩, hS.F ht⟩) hS.2.2 d_M_bad_192
                            · refine lv_iload hx hb d_M_bad_166 (lv_at hl 4 rfl) ?_
                              refine lv_goto (tgt := 192) hx hb d_M_bad_168 (by decide) ?_
                              exact W.iret (v := nI ((chn (gF nC cf ct aK rj K i1) (K + 1) (some k)).length)) hx hb hr (fun t ht hW => ⟨⟨nI ((chn (gF nC cf ct aK rj K i1) (K + 1) (some k)).length), (nI 0, nI (gF nC cf ct aK rj K i1).length, bF8, bL8, bB8, bA8, bY8, bR), rfl, Or.inr ⟨i1, hi1, rfl, c_10, Or.inr ⟨hle, rfl, Or.inr ⟨k, en, hen, c_77, hbad, hno, Or.inl ⟨c_163, rfl⟩⟩⟩⟩, by rw [ht]; exact hP, va_K.moved hW.alike hK, hD⟩, hS.F ht⟩) hS.2.2 d_M_bad_192
                          · obtain ⟨j, rfl⟩ : ∃ j, a = some j := by cases a; exact absurd rfl c_129; exact ⟨_, rfl⟩
                            have hjl := haj j rfl
                            have hmj : mA (some j) = j + 1 := rfl
                            obtain ⟨eo, heo⟩ : ∃ eo, (gF nC cf ct aK rj K i1)[j]? = some eo := ⟨_, List.getElem?_eq_getElem hjl⟩
                            obtain ⟨-, -, -, q4, q5⟩ := hE8 j eo heo
                            have hl : lv_has ls 7 [(0, .ref (h 0)), (1, .int (nI i1)), (2, .int q), (4, .int (nI k)), (5, .int (nI pre.length)), (6, .int (nI j))] := hl
                            refine lv_aload_n hx hb d_M_bad_132 rfl (lv_at hl 0 rfl) ?_
                            refine va_get (D := (dC, dI)) (ci := 0) (v := .ref (h 10)) (C := R_M) (T := F_M) (N := 18) hx hb hk k_M_f hown hK hP 0 rfl rfl 13 (by decide) (hk _ k_M_21) (fun _ h9 => h9) rfl d_M_bad_133 ?_
                            refine lv_iload hx hb d_M_bad_136 (lv_at hl 4 rfl) ?_
                            refine lv_aload_n hx hb d_M_bad_138 rfl (lv_at hl 0 rfl) ?_
                            refine va_get (D := (dC, dI)) (ci := 0) (v := .ref (h 9)) (C := R_M) (T := F_M) (N := 18) hx hb hk k_M_f hown hK hP 0 rfl rfl 12 (by decide) (hk _ k_M_20) (fun _ h9 => h9) rfl d_M_bad_139 ?_
                            refine lv_iload hx hb d_M_bad_142 (lv_at hl 5 rfl) ?_
                            refine va_iald hx hb hK hP 9 0 rfl rfl (pk_in j 801 (by omega)) d_M_bad_144 ?_
                            refine lv_topi (fun z10 ez10 => ?_)
                            obtain rfl : z10 = nI eo.2.2.2.2 := ez10.trans ((rd (f := bY8) (k := j) (by omega)).trans q5)
                            refine va_iast hx hb hK hP hD hS 10 0 rfl rfl (pk_in pre.length 801 (by omega)) d_M_bad_145 (fun H locs hP hD hS => ?_)
                            rw [nI_clamp (n := pre.length) (by omega)] at hP hD
                            have hP : va_P (dC, dI) kls (wM h cI cZ (nI 0) (nI nF) (nI nC) (nI ((gF nC cf ct aK rj K i1).length)) aP (fun c => nI (cf c)) (fun c => nI (ct c)) aK bF8 bL8 bB8 bA8 bY8 (upd bR pre.length (nI eo.2.2.2.2)) oT oO oR bS) H := hP
                            have hD : va_D A (wM h cI cZ (nI 0) (nI nF) (nI nC) (nI ((gF nC cf ct aK rj K i1).length)) aP (fun c => nI (cf c)) (fun c => nI (ct c)) aK bF8 bL8 bB8 bA8 bY8 (upd bR pre.length (nI eo.2.2.2.2)) oT oO oR bS) := hD
                            refine lv_iinc (v := nI (pre.length + 1)) (lv' := [(5, .int (nI (pre.length + 1))), (0, .ref (h 0)), (1, .int (nI i1)), (2, .int q), (4, .int (nI k)), (6, .int (nI j))]) hx hb d_M_bad_146 hl (k := 4) rfl (nI_add pre.length 1) (by decide) rfl (fun ls hl => ?_)
                            refine lv_aload_n hx hb d_M_bad_149 rfl (lv_at hl 1 rfl) ?_
                            refine va_get (D := (dC, dI)) (ci := 0) (v := .ref (h 8)) (C := R_M) (T := F_M) (N := 18) hx hb hk k_M_f hown hK hP 0 rfl rfl 11 (by decide) (hk _ k_M_19) (fun _ h9 => h9) rfl d_M_bad_150 ?_
                            refine lv_iload hx hb d_M_bad_153 (lv_at hl 5 rfl) ?_
                            refine va_iald hx hb hK hP 8 0 rfl rfl (pk_in j 801 (by omega)) d_M_bad_155 ?_
                            refine lv_topi (fun z11 ez11 => ?_)
                            obtain rfl : z11 = ahI eo.2.2.2.1 := ez11.trans ((rd (f := bA8) (k := j) (by omega)).trans q4)
                            refine lv_istore (lv' := [(6, .int (ahI eo.2.2.2.1)), (5, .int (nI (pre.length + 1))), (0, .ref (h 0)), (1, .int (nI i1)), (2, .int q), (4, .int (nI k))]) hx hb d_M_bad_156 hl (by decide) rfl (fun ls hl => ?_)
                            refine lv_goto (tgt := 126) hx hb d_M_bad_158 (by decide) ?_
                            have hch2 : (pre ++ [eo.2.2.2.2]) ++ chn (gF nC cf ct aK rj K i1) (K + 1) eo.2.2.2.1 = chn (gF nC cf ct aK rj K i1) (K + 1) (some k) := by rw [← hch, chn_step hah heo (by omega), List.append_assoc]; rfl
                            have hln : (pre ++ [eo.2.2.2.2]).length = pre.length + 1 := by rw [List.length_append]; rfl
                            rw [← hln] at hl
                            have hmA : mA eo.2.2.2.1 ≤ j := by cases hz : eo.2.2.2.1 with
                              | none => exact Nat.zero_le _
                              | some i9 => exact hah j i9 eo heo hz
                            have hmj : mA (some j) = j + 1 := rfl
                            have haj2 : ∀ j9, eo.2.2.2.1 = some j9 → j9 < (gF nC cf ct aK rj K i1).length := fun j9 hj9 => by have := hah j j9 eo heo hj9; omega
                            exact ih_lp2 (pre ++ [eo.2.2.2.2]) eo.2.2.2.1 (upd bR pre.length (nI eo.2.2.2.2)) (hch2) (hR_snoc hpr _) (by omega) (haj2) (by omega) _ _ _ hP hD hS (lv_sub hl [2, 3, 4, 5, 1, 0] rfl)
                      exact lp2 _ ([]) (some k) bR (rfl) (fun j y hj => by simp at hj) (by show 0 + (k + 1) ≤ k + 1; omega) (fun j hj => by cases hj; omega) (Nat.lt_succ_self _) _ _ _ hP hD hS (lv_sub hl [2, 3, 4, 5, 1, 0] rfl)
                    · have c_105 : k = (gF nC cf ct aK rj K i1).length := (nI_eq (a := k) (b := (gF nC cf ct aK rj K i1).length) (by omega) (by omega)).mp c_105
                      exfalso; omega
                  · subst hr9
                    refine lv_if_ne (tgt := 99) hx hb d_M_bad_90 (by decide) (fun c9 => absurd c9 (by decide +kernel)) (fun _ => ?_)
                    refine lv_iinc (v := nI (k + 1)) (lv' := [(4, .int (nI (k + 1))), (0, .ref (h 0)), (1, .int (nI i1)), (2, .int q)]) hx hb d_M_bad_93 hl (k := 3) rfl (nI_add k 1) (by decide) rfl (fun ls hl => ?_)
                    refine lv_goto (tgt := 60) hx hb d_M_bad_96 (by decide) ?_
                    have hno2 : ∀ j x, j < k + 1 → (gF nC cf ct aK rj K i1)[j]? = some x → ¬ (x.2.1 = i1 ∧ badX x.2.2.1) := by
                      intro j x hj hx9
                      rcases Nat.lt_or_ge j k with z | z
                      · exact hno j x z hx9
                      · obtain rfl : j = k := by omega
                        rw [hen] at hx9
                        cases hx9
                        rintro ⟨z1, z2⟩
                        first
                          | exact c_77 z1
                          | exact hbad z2
                    exact ih_lp1 (k + 1) (by omega) (hno2) (by omega) _ _ _ hP hD hS (lv_sub hl [1, 2, 3, 0] rfl)
          exact lp1 _ 0 (Nat.zero_le _) (fun j x hj => absurd hj (Nat.not_lt_zero _)) (Nat.lt_succ_self _) _ _ _ hP hD hS (lv_sub hl [2, 3, 4, 0] rfl)
        · exact absurd (show 800 < (gF nC cf ct aK rj K i1).length from hgt) (by omega)
      · subst hr9
        subst hu9
        refine lv_if_eq (tgt := 51) hx hb d_M_bad_25 (by decide) (fun c9 => absurd c9 (by decide +kernel)) (fun _ => ?_)
        refine lv_aload_n hx hb d_M_bad_28 rfl (lv_at hl 1 rfl) ?_
        refine va_get (D := (dC, dI)) (ci := 0) (v := .int (nI 2)) (C := R_M) (T := F_M) (N := 18) hx hb hk k_M_f hown hK hP 0 rfl rfl 0 (by decide) (hk _ k_M_8) (fun _ h9 => h9) rfl d_M_bad_29 ?_
        refine lv_iconst (v := nI 2) hx hb d_M_bad_32 (by decide +kernel) ?_
        refine lv_icmp_ne (tgt := 41) hx hb d_M_bad_33 (by decide) (fun c9 => absurd c9 (by decide +kernel)) (fun _ => ?_)
        refine lv_aload_n hx hb d_M_bad_36 rfl (lv_at hl 1 rfl) ?_
        refine lv_iconst (v := nI 1) hx hb d_M_bad_37 (by decide +kernel) ?_
        refine va_put (D := (dC, dI)) (ci := 0) (v := .int (nI 1)) (ty := .int) (C := R_M) (T := F_M) (N := 18) hx hb hk k_M_f t_M t_M_ok n_M hown hK hP hD hS 0 rfl rfl 0 (by decide) (hk _ k_M_8) (fun _ h9 => h9) rfl (by decide +kernel) rfl rfl (Nat.le_of_ble_eq_true rfl) d_M_bad_38 (fun H locs hP hD hS => ?_)
        have hP : va_P (dC, dI) kls (wM h cI cZ (nI 1) (nI nF) (nI nC) xg9 aP (fun c => nI (cf c)) (fun c => nI (ct c)) aK bF9 bL9 bB9 bA9 bY9 bR oT oO oR bS) H := hP
        have hD : va_D A (wM h cI cZ (nI 1) (nI nF) (nI nC) xg9 aP (fun c => nI (cf c)) (fun c => nI (ct c)) aK bF9 bL9 bB9 bA9 bY9 bR oT oO oR bS) := hD
        refine lv_iload_n hx hb d_M_bad_41 rfl (lv_at hl 0 rfl) ?_
        refine lv_if_eq (tgt := 49) hx hb d_M_bad_42 (by decide) (fun _ => ?_) (fun c9 => absurd c9 (by decide +kernel))
        refine lv_iconst (v := nI 0) hx hb d_M_bad_49 (by decide +kernel) ?_
        exact W.iret (v := nI 0) hx hb hr (fun t ht hW => ⟨⟨nI 0, (nI 1, xg9, bF9, bL9, bB9, bA9, bY9, bR), rfl, Or.inr ⟨i1, hi1, rfl, c_10, Or.inl ⟨hgt, rfl⟩⟩, by rw [ht]; exact hP, va_K.moved hW.alike hK, hD⟩, hS.F ht⟩) hS.2.2 d_M_bad_50
    · refine lv_iconst (v := nI 1) hx hb d_M_bad_13 (by decide +kernel) ?_
      refine lv_goto (tgt := 18) hx hb d_M_bad_14 (by decide) ?_
      refine lv_istore_n (lv' := [(3, .int (nI 1)), (0, .ref (h 0)), (1, .int (nI i1)), (2, .int q)]) hx hb d_M_bad_18 rfl hl (by decide) rfl (fun ls hl => ?_)
      refine lv_aload_n hx hb d_M_bad_19 rfl (lv_at hl 1 rfl) ?_
      refine lv_iconst (v := nI 0) hx hb d_M_bad_20 (by decide +kernel) ?_
      refine lv_iload_n hx hb d_M_bad_21 rfl (lv_at hl 0 rfl) ?_
      have hFc := va_free (wc := wM h cI cZ xt (nI nF) (nI nC) xg aP (fun c => nI (cf c)) (fun c => nI (ct c)) aK bF bL bB bA bY bR oT oO oR bS) hD hS hA [0, 1, 2, 3, 4, 5, 6, 7, 8, 9, 10, 11, 12, 13, 14] rfl
      refine va_calli (va_runV (As := [.int (nI 0), .int (nI 1)]) (rest := []) ⟨hx, hb, hml, hown, hk⟩ (m_refused_n l dC dI cI cZ h H.size xt (nI nF) (nI nC) xg aP (fun c => nI (cf c)) (fun c => nI (ct c)) aK bF bL bB bA bY bR oT oO oR bS  ) (cwV 2 hk g_M_refused rfl rfl rfl (by decide +kernel) ⟨Nat.le_of_ble_eq_true rfl, Nat.le_of_ble_eq_true rfl⟩) ⟨fun a U g mk q => by obtain ⟨q0, q1, qP, qK, qD⟩ := q; exact ⟨q0, q1, qP, va_K.moved (u := U) (U := U.calling g mk a) (Vm.Alike.refl U.vm) qK, qD⟩, va_recv hK hP (ci := 0) (q0 := 0) rfl rfl, fun U hU hW => ⟨rfl, by rw [hU], by rw [hU]; exact hP, va_K.moved hW.alike hK, hD.weaken (fun _ _ _ _ => trivial)⟩⟩ rfl rfl hl.1 rfl (lv_room (Nat.le_of_ble_eq_true rfl)) d_M_bad_22 ⟨Nat.le_of_ble_eq_true rfl, Nat.le_of_ble_eq_true rfl⟩) hS (fun q _ h => hFc q h) hFc (fun r12 u9 t H1 locs ht hvm hw hB hz1 hk1 hS => ?_)
      obtain ⟨xt9, rfl⟩ : ∃ z, z = u9 := ⟨_, rfl⟩
      obtain ⟨hP1, hK1, hD1⟩ := hB
      rw [ht] at hP1
      try dsimp only at hw
      obtain ⟨hP, hD⟩ := va_join (wr := []) (w1 := wM h cI cZ xt9 (nI nF) (nI nC) xg aP (fun c => nI (cf c)) (fun c => nI (ct c)) aK bF bL bB bA bY bR oT oO oR bS) hP hD [0, 1, 2, 3, 4, 5, 6, 7, 8, 9, 10, 11, 12, 13, 14] [] rfl rfl (by decide) (by decide) hk1 hFc hP1 hD1
      generalize H1 = H at hP hS ⊢
      have hP : va_P (dC, dI) kls (wM h cI cZ xt9 (nI nF) (nI nC) xg aP (fun c => nI (cf c)) (fun c => nI (ct c)) aK bF bL bB bA bY bR oT oO oR bS) H := hP
      have hD : va_D A (wM h cI cZ xt9 (nI nF) (nI nC) xg aP (fun c => nI (cf c)) (fun c => nI (ct c)) aK bF bL bB bA bY bR oT oO oR bS) := hD
      obtain ⟨hr9, hu9⟩ := hw
      subst hr9
      subst hu9
      refine lv_if_eq (tgt := 51) hx hb d_M_bad_25 (by decide) (fun c9 => absurd c9 (by decide +kernel)) (fun _ => ?_)
      refine lv_aload_n hx hb d_M_bad_28 rfl (lv_at hl 1 rfl) ?_
      refine va_get (D := (dC, dI)) (ci := 0) (v := .int (nI 0)) (C := R_M) (T := F_M) (N := 18) hx hb hk k_M_f hown hK hP 0 rfl rfl 0 (by decide) (hk _ k_M_8) (fun _ h9 => h9) rfl d_M_bad_29 ?_
      refine lv_iconst (v := nI 2) hx hb d_M_bad_32 (by decide +kernel) ?_
      refine lv_icmp_ne (tgt := 41) hx hb d_M_bad_33 (by decide) (fun _ => ?_) (fun c9 => absurd c9 (by decide +kernel))
      refine lv_iload_n hx hb d_M_bad_41 rfl (lv_at hl 0 rfl) ?_
      refine lv_if_eq (tgt := 49) hx hb d_M_bad_42 (by decide) (fun c9 => absurd c9 (by decide +kernel)) (fun _ => ?_)
      refine lv_iconst (v := (-1)) hx hb d_M_bad_45 (by decide +kernel) ?_
      refine lv_goto (tgt := 50) hx hb d_M_bad_46 (by decide) ?_
      have hq9 : ¬ ((∃ i, i < nF ∧ nI i1 = nI i) ∧ (-1 : Int32) ≤ q) := by
        rintro ⟨z1, z2⟩
        first
          | exact hno_f z1
          | exact c_10 z2
      exact W.iret (v := (-1)) hx hb hr (fun t ht hW => ⟨⟨(-1), (nI 0, xg, bF, bL, bB, bA, bY, bR), rfl, Or.inl ⟨hq9, rfl, rfl⟩, by rw [ht]; exact hP, va_K.moved hW.alike hK, hD⟩, hS.F ht⟩) hS.2.2 d_M_bad_50
  · subst hr9
    refine lv_if_eq (tgt := 13) hx hb d_M_bad_5 (by decide) (fun _ => ?_) (fun c9 => absurd c9 (by decide +kernel))
    refine lv_iconst (v := nI 1) hx hb d_M_bad_13 (by decide +kernel) ?_
    refine lv_goto (tgt := 18) hx hb d_M_bad_14 (by decide) ?_
    refine lv_istore_n (lv' := [(3, .int (nI 1)), (0, .ref (h 0)), (1, .int f), (2, .int q)]) hx hb d_M_bad_18 rfl hl (by decide) rfl (fun ls hl => ?_)
    refine lv_aload_n hx hb d_M_bad_19 rfl (lv_at hl 1 rfl) ?_
    refine lv_iconst (v := nI 0) hx hb d_M_bad_20 (by decide +kernel) ?_
    refine lv_iload_n hx hb d_M_bad_21 rfl (lv_at hl 0 rfl) ?_
    have hFc := va_free (wc := wM h cI cZ xt (nI nF) (nI nC) xg aP (fun c => nI (cf c)) (fun c => nI (ct c)) aK bF bL bB bA bY bR oT oO oR bS) hD hS hA [0, 1, 2, 3, 4, 5, 6, 7, 8, 9, 10, 11, 12, 13, 14] rfl
    refine va_calli (va_runV (As := [.int (nI 0), .int (nI 1)]) (rest := []) ⟨hx, hb, hml, hown, hk⟩ (m_refused_n l dC dI cI cZ h H.size xt (nI nF) (nI nC) xg aP (fun c => nI (cf c)) (fun c => nI (ct c)) aK bF bL bB bA bY bR oT oO oR bS  ) (cwV 2 hk g_M_refused rfl rfl rfl (by decide +kernel) ⟨Nat.le_of_ble_eq_true rfl, Nat.le_of_ble_eq_true rfl⟩) ⟨fun a U g mk q => by obtain ⟨q0, q1, qP, qK, qD⟩ := q; exact ⟨q0, q1, qP, va_K.moved (u := U) (U := U.calling g mk a) (Vm.Alike.refl U.vm) qK, qD⟩, va_recv hK hP (ci := 0) (q0 := 0) rfl rfl, fun U hU hW => ⟨rfl, by rw [hU], by rw [hU]; exact hP, va_K.moved hW.alike hK, hD.weaken (fun _ _ _ _ => trivial)⟩⟩ rfl rfl hl.1 rfl (lv_room (Nat.le_of_ble_eq_true rfl)) d_M_bad_22 ⟨Nat.le_of_ble_eq_true rfl, Nat.le_of_ble_eq_true rfl⟩) hS (fun q _ h => hFc q h) hFc (fun r13 u9 t H1 locs ht hvm hw hB hz1 hk1 hS => ?_)
    obtain ⟨xt9, rfl⟩ : ∃ z, z = u9 := ⟨_, rfl⟩
    obtain ⟨hP1, hK1, hD1⟩ := hB
    rw [ht] at hP1
    try dsimp only at hw
    obtain ⟨hP, hD⟩ := va_join (wr := []) (w1 := wM h cI cZ xt9 (nI nF) (nI nC) xg aP (fun c => nI (cf c)) (fun c => nI (ct c)) aK bF bL bB bA bY bR oT oO oR bS) hP hD [0, 1, 2, 3, 4, 5, 6, 7, 8, 9, 10, 11, 12, 13, 14] [] rfl rfl (by decide) (by decide) hk1 hFc hP1 hD1
    generalize H1 = H at hP hS ⊢
    have hP : va_P (dC, dI) kls (wM h cI cZ xt9 (nI nF) (nI nC) xg aP (fun c => nI (cf c)) (fun c => nI (ct c)) aK bF bL bB bA bY bR oT oO oR bS) H := hP
    have hD : va_D A (wM h cI cZ xt9 (nI nF) (nI nC) xg aP (fun c => nI (cf c)) (fun c => nI (ct c)) aK bF bL bB bA bY bR oT oO oR bS) := hD
    obtain ⟨hr9, hu9⟩ := hw
    subst hr9
    subst hu9
    refine lv_if_eq (tgt := 51) hx hb d_M_bad_25 (by decide) (fun c9 => absurd c9 (by decide +kernel)) (fun _ => ?_)
    refine lv_aload_n hx hb d_M_bad_28 rfl (lv_at hl 1 rfl) ?_
    refine va_get (D := (dC, dI)) (ci := 0) (v := .int (nI 0)) (C := R_M) (T := F_M) (N := 18) hx hb hk k_M_f hown hK hP 0 rfl rfl 0 (by decide) (hk _ k_M_8) (fun _ h9 => h9) rfl d_M_bad_29 ?_
    refine lv_iconst (v := nI 2) hx hb d_M_bad_32 (by decide +kernel) ?_
    refine lv_icmp_ne (tgt := 41) hx hb d_M_bad_33 (by decide) (fun _ => ?_) (fun c9 => absurd c9 (by decide +kernel))
    refine lv_iload_n hx hb d_M_bad_41 rfl (lv_at hl 0 rfl) ?_
    refine lv_if_eq (tgt := 49) hx hb d_M_bad_42 (by decide) (fun c9 => absurd c9 (by decide +kernel)) (fun _ => ?_)
    refine lv_iconst (v := (-1)) hx hb d_M_bad_45 (by decide +kernel) ?_
    refine lv_goto (tgt := 50) hx hb d_M_bad_46 (by decide) ?_
    have hq9 : ¬ ((∃ i, i < nF ∧ f = nI i) ∧ (-1 : Int32) ≤ q) := by
      rintro ⟨z1, z2⟩
      first
        | exact hno_f z1
        | exact c_10 z2
    exact W.iret (v := (-1)) hx hb hr (fun t ht hW => ⟨⟨(-1), (nI 0, xg, bF, bL, bB, bA, bY, bR), rfl, Or.inl ⟨hq9, rfl, rfl⟩, by rw [ht]; exact hP, va_K.moved hW.alike hK, hD⟩, hS.F ht⟩) hS.2.2 d_M_bad_50
end
section
abbrev at2 (aK : Nat → Int32) : Nat → Nat → Nat := fun c i => atN (aK c) i i
/-- a row of booleans -/
def hB (n : Nat) (op : Nat → Bool) (x : Nat → Int32) : Prop := ∀ j, j < n → x j = nI (op j).toNat
def oP1 (a2 : Nat → Nat → Nat) (tk : Bool) (op : Nat → Bool) (i k : Nat) : Prop := tk = false ∧ ∀ j, j < k → op j = true → 0 < a2 j i
def oP2 (a2 : Nat → Nat → Nat) (op : Nat → Bool) (i k : Nat) : Prop := ∃ j, j < k ∧ op j = true ∧ a2 j i = 2
theorem oP1_s {a2 : Nat → Nat → Nat} {tk : Bool} {op : Nat → Bool} {i k : Nat} : oP1 a2 tk op i (k + 1) ↔ oP1 a2 tk op i k ∧ (op k = true → 0 < a2 k i) := by
  constructor
  · rintro ⟨h1, h2⟩; exact ⟨⟨h1, fun j hj => h2 j (by omega)⟩, h2 k (by omega)⟩
  · rintro ⟨⟨h1, h2⟩, h3⟩
    refine ⟨h1, fun j hj => ?_⟩
    rcases Nat.lt_or_ge j k with q | q
    · exact h2 j q
    · obtain rfl : j = k := by omega
      exact h3
theorem oP2_s {a2 : Nat → Nat → Nat} {op : Nat → Bool} {i k : Nat} : oP2 a2 op i (k + 1) ↔ oP2 a2 op i k ∨ (op k = true ∧ a2 k i = 2) := by
  constructor
  · rintro ⟨j, hj, h⟩
    rcases Nat.lt_or_ge j k with q | q
    · exact Or.inl ⟨j, q, h⟩
    · obtain rfl : j = k := by omega
      exact Or.inr h
  · rintro (⟨j, hj, h⟩ | h)
    · exact ⟨j, by omega, h⟩
    · exact ⟨k, by omega, h⟩
theorem oCan_iff {nC : Nat} {a2 : Nat → Nat → Nat} {op : Nat → Bool} {i : Nat} : oP1 a2 false op i nC ∧ oP2 a2 op i nC ↔ oCan nC a2 op i := ⟨fun ⟨h1, h2⟩ => ⟨h1.2, h2⟩, fun ⟨h1, h2⟩ => ⟨⟨rfl, h1⟩, h2⟩⟩
def cO (nC : Nat) (op : Nat → Bool) : Nat := (List.range nC).countP op
theorem cO_le (nC : Nat) (op : Nat → Bool) : cO nC op ≤ nC := by
  have := List.countP_le_length (p := op) (l := List.range nC)
  rwa [List.length_range] at this
theorem cO_pos {nC : Nat} {op : Nat → Bool} : 0 < cO nC op ↔ oOpen nC op := by
  unfold cO oOpen
  rw [List.countP_pos_iff]
  constructor
  · rintro ⟨c, h1, h2⟩; exact ⟨c, List.mem_range.mp h1, h2⟩
  · rintro ⟨c, h1, h2⟩; exact ⟨c, List.mem_range.mpr h1, h2⟩
theorem cO_succ (n : Nat) (op : Nat → Bool) : cO (n + 1) op = cO n op + (op n).toNat := by
  unfold cO
  rw [List.range_succ, List.countP_append, List.countP_cons, List.countP_nil]
  cases op n <;> simp
theorem cO_congr {n : Nat} {p q : Nat → Bool} (h : ∀ j, j < n → p j = q j) : cO n p = cO n q := cn_congr (fun z hz => h z (List.mem_range.mp hz))
theorem cO_off : ∀ {n k : Nat} {p q : Nat → Bool}, k < n → p k = true → q k = false → (∀ j, j < n → j ≠ k → q j = p j) → cO n p = cO n q + 1
  | 0, k, p, q, h, _, _, _ => absurd h (Nat.not_lt_zero _)
  | n + 1, k, p, q, h, h1, h2, h3 => by
    rw [cO_succ, cO_succ]
    rcases Nat.lt_or_ge k n with z | z
    · rw [cO_off z h1 h2 (fun j hj hne => h3 j (by omega) hne), h3 n (by omega) (by omega)]
      omega
    · obtain rfl : k = n := by omega
      rw [h1, h2, cO_congr (fun j hj => h3 j (by omega) (by omega))]
      rfl
/-- the calls from f to itself -/
def op0 (cf ct : Nat → Nat) (f : Nat) : Nat → Bool := fun c => decide (cf c = f ∧ ct c = f)
/-- cut among the first k -/
def opm (a2 : Nat → Nat → Nat) (op : Nat → Bool) (i k : Nat) : Nat → Bool := fun j => if j < k then oCut a2 op i j else op j
theorem opm_eq {a2 : Nat → Nat → Nat} {op : Nat → Bool} {i k : Nat} (h : oCut a2 op i k = op k) : opm a2 op i (k + 1) = opm a2 op i k := by
  funext j
  unfold opm
  rcases Nat.lt_trichotomy j k with q | q | q
  · rw [if_pos (by omega), if_pos q]
  · subst q; rw [if_pos (by omega), if_neg (by omega), h]
  · rw [if_neg (by omega), if_neg (by omega)]
theorem opm_all {a2 : Nat → Nat → Nat} {op : Nat → Bool} {i n : Nat} {x : Nat → Int32} (h : hB n (opm a2 op i n) x) : hB n (oCut a2 op i) x := fun j hj => by
  rw [h j hj]; unfold opm; rw [if_pos hj]
theorem cO_all {a2 : Nat → Nat → Nat} {op : Nat → Bool} {i n : Nat} : cO n (opm a2 op i n) = cO n (oCut a2 op i) := cO_congr (fun j hj => by unfold opm; rw [if_pos hj])
theorem bN_lt (b : Bool) : b.toNat < 2 := by cases b <;> decide
theorem hB_up {n k : Nat} {op op' : Nat → Bool} {x : Nat → Int32} {v : Int32} (h : ∀ j, j < n → j ≠ k → op' j = op j) (hx : hB n op x) (hv : v = nI (op' k).toNat) : hB n op' (upd x k v) := by
  intro j hj
  by_cases q : j = k
  · subst q; rw [pk_us, hv]
  · rw [pk_un q, hx j hj, h j hj q]
def hO4 (tl : List Nat) (x : Nat → Int32) : Prop := ∀ j y, tl[j]? = some y → x j = nI y
theorem hO4_snoc {tl : List Nat} {x : Nat → Int32} (h : hO4 tl x) (y : Nat) : hO4 (tl ++ [y]) (upd x tl.length (nI y)) := by
  intro j z hz
  rcases Nat.lt_trichotomy j tl.length with q | q | q
  · rw [List.getElem?_append_left q] at hz
    rw [pk_un (by omega)]
    exact h j z hz
  · subst q
    rw [List.getElem?_append_right (Nat.le_refl _), Nat.sub_self] at hz
    cases hz
    exact pk_us
  · rw [List.getElem?_eq_none (by rw [List.length_append]; simp; omega)] at hz
    cases hz
theorem nd_snoc {tl : List Nat} {y : Nat} (h : tl.Nodup) (hy : y ∉ tl) : (tl ++ [y]).Nodup := by
  rw [List.nodup_append]
  refine ⟨h, List.nodup_cons.mpr ⟨List.not_mem_nil, List.nodup_nil⟩, fun a ha b hb hab => ?_⟩
  rw [List.mem_singleton] at hb
  exact hy (hb ▸ hab ▸ ha)
set_option maxHeartbeats 4000000 in
set_option maxRecDepth 100000 in
theorem m_mayTake (l : Launch) (dC : Nat → ClassId) (dI : Nat → Nat → Nat) (cI cZ : ClassId) (h : Nat → Nat) (sz : Nat) (xt xg : Int32) (aK bF bL bB bA bY bR oT oO oR bS : Nat → Int32) (nF nC : Nat) (pl cf ct : Nat → Nat) (i f : Nat) (op : Nat → Bool) (tk : Bool) (hC : nC ≤ 20) (hi : i < 4) (hO : hB nC op oO) (hTk : oT i = nI tk.toNat) : Met l y_M_mayTake w_M_mayTake ({ frames := 1, cells := 0, slots := 0, locals := 22 }) (va_Pc [.ref (h 0), .int (nI i), .int (nI f)] (fun U => U.heap.size = sz ∧ va_P (dC, dI) kls (wM h cI cZ xt (nI nF) (nI nC) xg (fun c => nI (pl c)) (fun c => nI (cf c)) (fun c => nI (ct c)) aK bF bL bB bA bY bR oT oO oR bS) U.heap ∧ va_K (dC, dI) kls (tyM cI cZ) U ∧ va_D (fun _ => True) (wM h cI cZ xt (nI nF) (nI nC) xg (fun c => nI (pl c)) (fun c => nI (cf c)) (fun c => nI (ct c)) aK bF bL bB bA bY bR oT oO oR bS))) (va_Qi (fun (r : Int32) (u : Unit) => (r = nI 1 ∧ tk = false ∧ oCan nC (at2 aK) op i) ∨ (r = nI 0 ∧ ¬ (tk = false ∧ oCan nC (at2 aK) op i))) (fun (u : Unit) (t : State) => va_P (dC, dI) kls (wM h cI cZ xt (nI nF) (nI nC) xg (fun c => nI (pl c)) (fun c => nI (cf c)) (fun c => nI (ct c)) aK bF bL bB bA bY bR oT oO oR bS) t.heap ∧ va_K (dC, dI) kls (tyM cI cZ) t ∧ va_D (va_A (wM h cI cZ xt (nI nF) (nI nC) xg (fun c => nI (pl c)) (fun c => nI (cf c)) (fun c => nI (ct c)) aK bF bL bB bA bY bR oT oO oR bS) sz) (wM h cI cZ xt (nI nF) (nI nC) xg (fun c => nI (pl c)) (fun c => nI (cf c)) (fun c => nI (ct c)) aK bF bL bB bA bY bR oT oO oR bS)) (va_A (wM h cI cZ xt (nI nF) (nI nC) xg (fun c => nI (pl c)) (fun c => nI (cf c)) (fun c => nI (ct c)) aK bF bL bB bA bY bR oT oO oR bS) sz)) 0 0 (va_A (wM h cI cZ xt (nI nF) (nI nC) xg (fun c => nI (pl c)) (fun c => nI (cf c)) (fun c => nI (ct c)) aK bF bL bB bA bY bR oT oO oR bS) sz) := by
  refine Met.ofW (cc := c_M_mayTake) (maxL := 6) (ret := (some .boolean)) (by decide) rfl ?_
  intro p e s m args below meth c s₁ B hml hv
  obtain ⟨rfl, hsz, hP, hK, hD0⟩ := hv
  have hx := B.exec
  have hb := B.bytes
  have hr := B.returns
  have hts := atoms_spec (ws := w_M_mayTake) B.pre
  have hk : ∀ w ∈ wMw, w.before _ s = true := fun w h => hts w (List.mem_cons_of_mem _ h)
  have hown : s.vm.findClass R_M = some m.cls := findClass_of_methodNamed B.named
  have hlocks := B.notSynchronized
  subst hsz
  have hD := hD0.self (sz := s.heap.size)
  generalize hAe : va_A (wM h cI cZ xt (nI nF) (nI nC) xg (fun c => nI (pl c)) (fun c => nI (cf c)) (fun c => nI (ct c)) aK bF bL bB bA bY bR oT oO oR bS) s.heap.size = A at hD ⊢
  have hA : ∀ q : Nat, s.heap.size ≤ q → A q := fun q h => by rw [← hAe]; exact Or.inr h
  have hS : va_S A s.heap s.heap [] := va_S.rf
  have hl := lv_entry ([.ref (h 0), .int (nI i), .int (nI f)]) (n := 6) (Nat.le_of_ble_eq_true rfl)
  rw [lg_entry_eq]
  generalize (lg_sl ([.ref (h 0), .int (nI i), .int (nI f)]) ++ List.replicate (6 - (lg_sl ([.ref (h 0), .int (nI i), .int (nI f)])).length) Slot.unset).toArray = ls at hl ⊢
  have hl : lv_has ls 6 [(0, .ref (h 0)), (1, .int (nI i)), (2, .int (nI f))] := hl
  refine lv_aload_n hx hb d_M_mayTake_0 rfl (lv_at hl 0 rfl) ?_
  refine va_get (D := (dC, dI)) (ci := 0) (v := .ref (h 11)) (C := R_M) (T := F_M) (N := 18) hx hb hk k_M_f hown hK hP 0 rfl rfl 14 (by decide) (hk _ k_M_22) (fun _ h9 => h9) rfl d_M_mayTake_1 ?_
  refine lv_iload_n hx hb d_M_mayTake_4 rfl (lv_at hl 1 rfl) ?_
  refine va_zald hx hb hK hP 11 1 rfl rfl (pk_in i 4 (by omega)) d_M_mayTake_5 ?_
  refine lv_topi (fun z1 ez1 => ?_)
  obtain rfl : z1 = nI tk.toNat := ez1.trans ((rd (f := oT) (k := i) (by omega)).trans hTk)
  have htb := bN_lt tk
  refine lv_if_ne (tgt := 13) hx hb d_M_mayTake_6 (by decide) (fun c_6 => ?_) (fun c_6 => ?_)
  · have c_6 : ¬ tk.toNat = 0 := fun z9 => c_6 ((nI_eq (a := tk.toNat) (b := 0) (by omega) (by omega)).mpr z9)
    refine lv_iconst (v := nI 0) hx hb d_M_mayTake_13 (by decide +kernel) ?_
    refine lv_istore_n (lv' := [(3, .int (nI 0)), (0, .ref (h 0)), (1, .int (nI i)), (2, .int (nI f))]) hx hb d_M_mayTake_14 rfl hl (by decide) rfl (fun ls hl => ?_)
    refine lv_iconst (v := nI 0) hx hb d_M_mayTake_15 (by decide +kernel) ?_
    refine lv_istore (lv' := [(4, .int (nI 0)), (3, .int (nI 0)), (0, .ref (h 0)), (1, .int (nI i)), (2, .int (nI f))]) hx hb d_M_mayTake_16 hl (by decide) rfl (fun ls hl => ?_)
    refine lv_iconst (v := nI 0) hx hb d_M_mayTake_18 (by decide +kernel) ?_
    refine lv_istore (lv' := [(5, .int (nI 0)), (4, .int (nI 0)), (3, .int (nI 0)), (0, .ref (h 0)), (1, .int (nI i)), (2, .int (nI f))]) hx hb d_M_mayTake_19 hl (by decide) rfl (fun ls hl => ?_)
    have h10 : (0 = 1 ∧ oP1 (at2 aK) tk op i 0) ∨ (0 = 0 ∧ ¬ oP1 (at2 aK) tk op i 0) := by
      cases tk
      · first | exact Or.inl ⟨rfl, rfl, fun j hj => absurd hj (Nat.not_lt_zero _)⟩ | exact absurd rfl c_6
      · first | exact Or.inr ⟨rfl, fun z => absurd z.1 (by decide)⟩ | exact absurd c_6 (by decide)
    have lp : ∀ (n_lp : Nat) (k : Nat) (b1 : Nat) (b2 : Nat), (k ≤ nC) → ((b1 = 1 ∧ oP1 (at2 aK) tk op i k) ∨ (b1 = 0 ∧ ¬ oP1 (at2 aK) tk op i k)) → ((b2 = 1 ∧ oP2 (at2 aK) op i k) ∨ (b2 = 0 ∧ ¬ oP2 (at2 aK) op i k)) → nC - k < n_lp → ∀ (H : Heap) (locs : List Loc) (ls : Array Slot), va_P (dC, dI) kls (wM h cI cZ xt (nI nF) (nI nC) xg (fun c => nI (pl c)) (fun c => nI (cf c)) (fun c => nI (ct c)) aK bF bL bB bA bY bR oT oO oR bS) H → va_D A (wM h cI cZ xt (nI nF) (nI nC) xg (fun c => nI (pl c)) (fun c => nI (cf c)) (fun c => nI (ct c)) aK bF bL bB bA bY bR oT oO oR bS) → va_S A s.heap H locs → lv_has ls 6 [(0, .ref (h 0)), (1, .int (nI i)), (2, .int (nI f)), (3, .int (nI b1)), (4, .int (nI b2)), (5, .int (nI k))] → W p l e (headSpec w_M_mayTake ({ frames := 1, cells := 0, slots := 0, locals := 22 })).room s m ([.ref (h 0), .int (nI i), .int (nI f)]).toArray below meth c H locs 0 0 (MQ below (va_Qi (fun (r : Int32) (u : Unit) => (r = nI 1 ∧ tk = false ∧ oCan nC (at2 aK) op i) ∨ (r = nI 0 ∧ ¬ (tk = false ∧ oCan nC (at2 aK) op i))) (fun (u : Unit) (t : State) => va_P (dC, dI) kls (wM h cI cZ xt (nI nF) (nI nC) xg (fun c => nI (pl c)) (fun c => nI (cf c)) (fun c => nI (ct c)) aK bF bL bB bA bY bR oT oO oR bS) t.heap ∧ va_K (dC, dI) kls (tyM cI cZ) t ∧ va_D (A) (wM h cI cZ xt (nI nF) (nI nC) xg (fun c => nI (pl c)) (fun c => nI (cf c)) (fun c => nI (ct c)) aK bF bL bB bA bY bR oT oO oR bS)) A) ([.ref (h 0), .int (nI i), .int (nI f)]).toArray s 0 0 A) (F0 m 21 ls []) := by
      intro n_lp
      induction n_lp with
      | zero => intro k b1 b2 hk0 h1 h2 hn; exact absurd hn (Nat.not_lt_zero _)
      | succ n_lp ih_lp =>
        intro k b1 b2 hk0 h1 h2 hn H locs ls hP hD hS hl
        have hb1 : b1 < 2 := by rcases h1 with ⟨z, -⟩ | ⟨z, -⟩ <;> omega
        have hb2 : b2 < 2 := by rcases h2 with ⟨z, -⟩ | ⟨z, -⟩ <;> omega
        refine lv_iload hx hb d_M_mayTake_21 (lv_at hl 5 rfl) ?_
        refine lv_aload_n hx hb d_M_mayTake_23 rfl (lv_at hl 0 rfl) ?_
        refine va_get (D := (dC, dI)) (ci := 0) (v := .int (nI nC)) (C := R_M) (T := F_M) (N := 18) hx hb hk k_M_f hown hK hP 0 rfl rfl 2 (by decide) (hk _ k_M_10) (fun _ h9 => h9) rfl d_M_mayTake_24 ?_
        refine lv_icmp_ge (tgt := 102) hx hb d_M_mayTake_27 (by decide) (fun c_27 => ?_) (fun c_27 => ?_)
        · have c_27 : nC ≤ k := (nI_leI (a := nC) (b := k) (by omega) (by omega)).mp c_27
          refine lv_iload_n hx hb d_M_mayTake_102 rfl (lv_at hl 3 rfl) ?_
          refine lv_if_eq (tgt := 115) hx hb d_M_mayTake_103 (by decide) (fun c_103 => ?_) (fun c_103 => ?_)
          · have c_103 : b1 = 0 := (nI_eq (a := b1) (b := 0) (by omega) (by omega)).mp c_103
            refine lv_iconst (v := nI 0) hx hb d_M_mayTake_115 (by decide +kernel) ?_
            have hkn : k = nC := by omega
            subst hkn
            have hq9 : ¬ (tk = false ∧ oCan k (at2 aK) op i) := by
              rintro ⟨z1, z2, z3⟩
              rcases h1 with ⟨z4, -⟩ | ⟨-, z4⟩
              · rcases h2 with ⟨z5, -⟩ | ⟨-, z5⟩
                · omega
                · exact z5 z3
              · exact z4 ⟨z1, z2⟩
            exact W.zret (v := nI 0) (ty := .boolean) hx hb hr rfl (fun t ht hW => ⟨⟨nI 0, (), rfl, Or.inr ⟨rfl, hq9⟩, by rw [ht]; exact hP, va_K.moved hW.alike hK, hD⟩, hS.F ht⟩) hS.2.2 d_M_mayTake_116
          · have c_103 : ¬ b1 = 0 := fun z9 => c_103 ((nI_eq (a := b1) (b := 0) (by omega) (by omega)).mpr z9)
            refine lv_iload hx hb d_M_mayTake_106 (lv_at hl 4 rfl) ?_
            refine lv_if_eq (tgt := 115) hx hb d_M_mayTake_108 (by decide) (fun c_108 => ?_) (fun c_108 => ?_)
            · have c_108 : b2 = 0 := (nI_eq (a := b2) (b := 0) (by omega) (by omega)).mp c_108
              refine lv_iconst (v := nI 0) hx hb d_M_mayTake_115 (by decide +kernel) ?_
              have hkn : k = nC := by omega
              subst hkn
              have hq9 : ¬ (tk = false ∧ oCan k (at2 aK) op i) := by
                rintro ⟨z1, z2, z3⟩
                rcases h1 with ⟨z4, -⟩ | ⟨-, z4⟩
                · rcases h2 with ⟨z5, -⟩ | ⟨-, z5⟩
                  · omega
                  · exact z5 z3
                · exact z4 ⟨z1, z2⟩
              exact W.zret (v := nI 0) (ty := .boolean) hx hb hr rfl (fun t ht hW => ⟨⟨nI 0, (), rfl, Or.inr ⟨rfl, hq9⟩, by rw [ht]; exact hP, va_K.moved hW.alike hK, hD⟩, hS.F ht⟩) hS.2.2 d_M_mayTake_116
            · have c_108 : ¬ b2 = 0 := fun z9 => c_108 ((nI_eq (a := b2) (b := 0) (by omega) (by omega)).mpr z9)
              refine lv_iconst (v := nI 1) hx hb d_M_mayTake_111 (by decide +kernel) ?_
              refine lv_goto (tgt := 116) hx hb d_M_mayTake_112 (by decide) ?_
              have hkn : k = nC := by omega
              subst hkn
              have hq9 : tk = false ∧ oCan k (at2 aK) op i := by
                rcases h1 with ⟨-, z1⟩ | ⟨z1, -⟩
                · rcases h2 with ⟨-, z2⟩ | ⟨z2, -⟩
                  · exact ⟨z1.1, z1.2, z2⟩
                  · exact absurd z2 c_108
                · exact absurd z1 c_103
              exact W.zret (v := nI 1) (ty := .boolean) hx hb hr rfl (fun t ht hW => ⟨⟨nI 1, (), rfl, Or.inl ⟨rfl, hq9⟩, by rw [ht]; exact hP, va_K.moved hW.alike hK, hD⟩, hS.F ht⟩) hS.2.2 d_M_mayTake_116
        · have c_27 : ¬ nC ≤ k := fun z9 => c_27 ((nI_leI (a := nC) (b := k) (by omega) (by omega)).mpr z9)
          refine lv_aload_n hx hb d_M_mayTake_30 rfl (lv_at hl 0 rfl) ?_
          refine va_get (D := (dC, dI)) (ci := 0) (v := .ref (h 12)) (C := R_M) (T := F_M) (N := 18) hx hb hk k_M_f hown hK hP 0 rfl rfl 15 (by decide) (hk _ k_M_23) (fun _ h9 => h9) rfl d_M_mayTake_31 ?_
          refine lv_iload hx hb d_M_mayTake_34 (lv_at hl 5 rfl) ?_
          refine va_zald hx hb hK hP 12 1 rfl rfl (pk_in k 20 (by omega)) d_M_mayTake_36 ?_
          refine lv_topi (fun z2 ez2 => ?_)
          obtain rfl : z2 = nI ((op k).toNat) := ez2.trans ((rd (f := oO) (k := k) (by omega)).trans (hO k (by omega)))
          have hob := bN_lt (op k)
          refine lv_if_ne (tgt := 43) hx hb d_M_mayTake_37 (by decide) (fun c_37 => ?_) (fun c_37 => ?_)
          · have c_37 : ¬ (op k).toNat = 0 := fun z9 => c_37 ((nI_eq (a := (op k).toNat) (b := 0) (by omega) (by omega)).mpr z9)
            refine lv_iload_n hx hb d_M_mayTake_43 rfl (lv_at hl 3 rfl) ?_
            refine lv_if_eq (tgt := 66) hx hb d_M_mayTake_44 (by decide) (fun c_44 => ?_) (fun c_44 => ?_)
            · have c_44 : b1 = 0 := (nI_eq (a := b1) (b := 0) (by omega) (by omega)).mp c_44
              refine lv_iconst (v := nI 0) hx hb d_M_mayTake_66 (by decide +kernel) ?_
              refine lv_istore_n (lv' := [(3, .int (nI 0)), (0, .ref (h 0)), (1, .int (nI i)), (2, .int (nI f)), (4, .int (nI b2)), (5, .int (nI k))]) hx hb d_M_mayTake_67 rfl hl (by decide) rfl (fun ls hl => ?_)
              refine lv_iload hx hb d_M_mayTake_68 (lv_at hl 4 rfl) ?_
              refine lv_if_ne (tgt := 89) hx hb d_M_mayTake_70 (by decide) (fun c_70 => ?_) (fun c_70 => ?_)
              · have c_70 : ¬ b2 = 0 := fun z9 => c_70 ((nI_eq (a := b2) (b := 0) (by omega) (by omega)).mpr z9)
                refine lv_iconst (v := nI 1) hx hb d_M_mayTake_89 (by decide +kernel) ?_
                refine lv_goto (tgt := 94) hx hb d_M_mayTake_90 (by decide) ?_
                refine lv_istore (lv' := [(4, .int (nI 1)), (3, .int (nI 0)), (0, .ref (h 0)), (1, .int (nI i)), (2, .int (nI f)), (5, .int (nI k))]) hx hb d_M_mayTake_94 hl (by decide) rfl (fun ls hl => ?_)
                refine lv_iinc (v := nI (k + 1)) (lv' := [(5, .int (nI (k + 1))), (4, .int (nI 1)), (3, .int (nI 0)), (0, .ref (h 0)), (1, .int (nI i)), (2, .int (nI f))]) hx hb d_M_mayTake_96 hl (k := 5) rfl (nI_add k 1) (by decide) rfl (fun ls hl => ?_)
                refine lv_goto (tgt := 21) hx hb d_M_mayTake_99 (by decide) ?_
                have hop : op k = true := by cases hz : op k; rw [hz] at c_37; exact absurd rfl c_37; rfl
                have h1s : (0 = 1 ∧ oP1 (at2 aK) tk op i (k + 1)) ∨ (0 = 0 ∧ ¬ oP1 (at2 aK) tk op i (k + 1)) := by
                  rw [oP1_s]
                  refine Or.inr ⟨rfl, fun z => ?_⟩
                  rcases h1 with ⟨z1, z2⟩ | ⟨z1, z2⟩
                  · first | omega | (have z9 : 0 < atN (aK k) i i := z.2 hop; omega)
                  · exact z2 z.1
                have h2s : (1 = 1 ∧ oP2 (at2 aK) op i (k + 1)) ∨ (1 = 0 ∧ ¬ oP2 (at2 aK) op i (k + 1)) := by
                  rw [oP2_s]
                  refine Or.inl ⟨rfl, ?_⟩
                  rcases h2 with ⟨z1, z2⟩ | ⟨z1, z2⟩
                  · exact Or.inl z2
                  · first | exact absurd z1 c_70 | exact Or.inr ⟨hop, c_86⟩
                exact ih_lp (k + 1) 0 1 (by omega) (h1s) (h2s) (by omega) _ _ _ hP hD hS (lv_sub hl [3, 4, 5, 2, 1, 0] rfl)
              · have c_70 : b2 = 0 := (nI_eq (a := b2) (b := 0) (by omega) (by omega)).mp c_70
                refine lv_aload_n hx hb d_M_mayTake_73 rfl (lv_at hl 1 rfl) ?_
                refine va_get (D := (dC, dI)) (ci := 0) (v := .ref (h 4)) (C := R_M) (T := F_M) (N := 18) hx hb hk k_M_f hown hK hP 0 rfl rfl 6 (by decide) (hk _ k_M_14) (fun _ h9 => h9) rfl d_M_mayTake_74 ?_
                refine lv_iload hx hb d_M_mayTake_77 (lv_at hl 5 rfl) ?_
                refine va_iald hx hb hK hP 4 0 rfl rfl (pk_in k 20 (by omega)) d_M_mayTake_79 ?_
                refine lv_topi (fun z3 ez3 => ?_)
                obtain rfl : z3 = aK k := ez3.trans (rd (f := aK) (k := k) (by omega))
                refine lv_iload_n hx hb d_M_mayTake_80 rfl (lv_at hl 2 rfl) ?_
                refine lv_iload_n hx hb d_M_mayTake_81 rfl (lv_at hl 2 rfl) ?_
                refine vp_callSi (W.runS (As := [.int (aK k), .int (nI i), .int (nI i)]) (rest := []) ⟨hx, hb, hml, hown, hk⟩ (m_at l (aK k) i i (by omega) (by omega)) (cwS 3 hk g_M_at rfl rfl rfl (by decide +kernel) ⟨Nat.le_of_ble_eq_true rfl, Nat.le_of_ble_eq_true rfl⟩) ⟨fun a U g mk q => q, fun U hU hW => ⟨rfl, trivial⟩⟩ rfl rfl hl.1 rfl (lv_room (Nat.le_of_ble_eq_true rfl)) d_M_mayTake_82 ⟨Nat.le_of_ble_eq_true rfl, Nat.le_of_ble_eq_true rfl⟩) (fun r4 hw => ?_)
                subst hw
                refine lv_iconst (v := nI 2) hx hb d_M_mayTake_85 (by decide +kernel) ?_
                have hat2 := atN_lt (aK k) i i
                refine lv_icmp_ne (tgt := 93) hx hb d_M_mayTake_86 (by decide) (fun c_86 => ?_) (fun c_86 => ?_)
                · have c_86 : ¬ atN (aK k) i i = 2 := fun z9 => c_86 ((nI_eq (a := atN (aK k) i i) (b := 2) (by omega) (by omega)).mpr z9)
                  refine lv_iconst (v := nI 0) hx hb d_M_mayTake_93 (by decide +kernel) ?_
                  refine lv_istore (lv' := [(4, .int (nI 0)), (3, .int (nI 0)), (0, .ref (h 0)), (1, .int (nI i)), (2, .int (nI f)), (5, .int (nI k))]) hx hb d_M_mayTake_94 hl (by decide) rfl (fun ls hl => ?_)
                  refine lv_iinc (v := nI (k + 1)) (lv' := [(5, .int (nI (k + 1))), (4, .int (nI 0)), (3, .int (nI 0)), (0, .ref (h 0)), (1, .int (nI i)), (2, .int (nI f))]) hx hb d_M_mayTake_96 hl (k := 5) rfl (nI_add k 1) (by decide) rfl (fun ls hl => ?_)
                  refine lv_goto (tgt := 21) hx hb d_M_mayTake_99 (by decide) ?_
                  have hop : op k = true := by cases hz : op k; rw [hz] at c_37; exact absurd rfl c_37; rfl
                  have h1s : (0 = 1 ∧ oP1 (at2 aK) tk op i (k + 1)) ∨ (0 = 0 ∧ ¬ oP1 (at2 aK) tk op i (k + 1)) := by
                    rw [oP1_s]
                    refine Or.inr ⟨rfl, fun z => ?_⟩
                    rcases h1 with ⟨z1, z2⟩ | ⟨z1, z2⟩
                    · first | omega | (have z9 : 0 < atN (aK k) i i := z.2 hop; omega)
                    · exact z2 z.1
                  have h2s : (0 = 1 ∧ oP2 (at2 aK) op i (k + 1)) ∨ (0 = 0 ∧ ¬ oP2 (at2 aK) op i (k + 1)) := by
                    rw [oP2_s]
                    refine Or.inr ⟨rfl, fun z => ?_⟩
                    rcases h2 with ⟨z1, z2⟩ | ⟨z1, z2⟩
                    · omega
                    · rcases z with z | z
                      · exact z2 z
                      · exact c_86 z.2
                  exact ih_lp (k + 1) 0 0 (by omega) (h1s) (h2s) (by omega) _ _ _ hP hD hS (lv_sub hl [3, 4, 5, 2, 1, 0] rfl)
                · have c_86 : atN (aK k) i i = 2 := (nI_eq (a := atN (aK k) i i) (b := 2) (by omega) (by omega)).mp c_86
                  refine lv_iconst (v := nI 1) hx hb d_M_mayTake_89 (by decide +kernel) ?_
                  refine lv_goto (tgt := 94) hx hb d_M_mayTake_90 (by decide) ?_
                  refine lv_istore (lv' := [(4, .int (nI 1)), (3, .int (nI 0)), (0, .ref (h 0)), (1, .int (nI i)), (2, .int (nI f)), (5, .int (nI k))]) hx hb d_M_mayTake_94 hl (by decide) rfl (fun ls hl => ?_)
                  refine lv_iinc (v := nI (k + 1)) (lv' := [(5, .int (nI (k + 1))), (4, .int (nI 1)), (3, .int (nI 0)), (0, .ref (h 0)), (1, .int (nI i)), (2, .int (nI f))]) hx hb d_M_mayTake_96 hl (k := 5) rfl (nI_add k 1) (by decide) rfl (fun ls hl => ?_)
                  refine lv_goto (tgt := 21) hx hb d_M_mayTake_99 (by decide) ?_
                  have hop : op k = true := by cases hz : op k; rw [hz] at c_37; exact absurd rfl c_37; rfl
                  have h1s : (0 = 1 ∧ oP1 (at2 aK) tk op i (k + 1)) ∨ (0 = 0 ∧ ¬ oP1 (at2 aK) tk op i (k + 1)) := by
                    rw [oP1_s]
                    refine Or.inr ⟨rfl, fun z => ?_⟩
                    rcases h1 with ⟨z1, z2⟩ | ⟨z1, z2⟩
                    · first | omega | (have z9 : 0 < atN (aK k) i i := z.2 hop; omega)
                    · exact z2 z.1
                  have h2s : (1 = 1 ∧ oP2 (at2 aK) op i (k + 1)) ∨ (1 = 0 ∧ ¬ oP2 (at2 aK) op i (k + 1)) := by
                    rw [oP2_s]
                    refine Or.inl ⟨rfl, ?_⟩
                    rcases h2 with ⟨z1, z2⟩ | ⟨z1, z2⟩
                    · exact Or.inl z2
                    · first | exact absurd z1 c_70 | exact Or.inr ⟨hop, c_86⟩
                  exact ih_lp (k + 1) 0 1 (by omega) (h1s) (h2s) (by omega) _ _ _ hP hD hS (lv_sub hl [3, 4, 5, 2, 1, 0] rfl)
            · have c_44 : ¬ b1 = 0 := fun z9 => c_44 ((nI_eq (a := b1) (b := 0) (by omega) (by omega)).mpr z9)
              refine lv_aload_n hx hb d_M_mayTake_47 rfl (lv_at hl 0 rfl) ?_
              refine va_get (D := (dC, dI)) (ci := 0) (v := .ref (h 4)) (C := R_M) (T := F_M) (N := 18) hx hb hk k_M_f hown hK hP 0 rfl rfl 6 (by decide) (hk _ k_M_14) (fun _ h9 => h9) rfl d_M_mayTake_48 ?_
              refine lv_iload hx hb d_M_mayTake_51 (lv_at hl 5 rfl) ?_
              refine va_iald hx hb hK hP 4 0 rfl rfl (pk_in k 20 (by omega)) d_M_mayTake_53 ?_
              refine lv_topi (fun z5 ez5 => ?_)
              obtain rfl : z5 = aK k := ez5.trans (rd (f := aK) (k := k) (by omega))
              refine lv_iload_n hx hb d_M_mayTake_54 rfl (lv_at hl 1 rfl) ?_
              refine lv_iload_n hx hb d_M_mayTake_55 rfl (lv_at hl 1 rfl) ?_
              refine vp_callSi (W.runS (As := [.int (aK k), .int (nI i), .int (nI i)]) (rest := []) ⟨hx, hb, hml, hown, hk⟩ (m_at l (aK k) i i (by omega) (by omega)) (cwS 3 hk g_M_at rfl rfl rfl (by decide +kernel) ⟨Nat.le_of_ble_eq_true rfl, Nat.le_of_ble_eq_true rfl⟩) ⟨fun a U g mk q => q, fun U hU hW => ⟨rfl, trivial⟩⟩ rfl rfl hl.1 rfl (lv_room (Nat.le_of_ble_eq_true rfl)) d_M_mayTake_56 ⟨Nat.le_of_ble_eq_true rfl, Nat.le_of_ble_eq_true rfl⟩) (fun r6 hw => ?_)
              subst hw
              have hat := atN_lt (aK k) i i
              refine lv_if_le (tgt := 66) hx hb d_M_mayTake_59 (by decide) (fun c_59 => ?_) (fun c_59 => ?_)
              · have c_59 : atN (aK k) i i ≤ 0 := (nI_leI (a := atN (aK k) i i) (b := 0) (by omega) (by omega)).mp c_59
                refine lv_iconst (v := nI 0) hx hb d_M_mayTake_66 (by decide +kernel) ?_
                refine lv_istore_n (lv' := [(3, .int (nI 0)), (0, .ref (h 0)), (1, .int (nI i)), (2, .int (nI f)), (4, .int (nI b2)), (5, .int (nI k))]) hx hb d_M_mayTake_67 rfl hl (by decide) rfl (fun ls hl => ?_)
                refine lv_iload hx hb d_M_mayTake_68 (lv_at hl 4 rfl) ?_
                refine lv_if_ne (tgt := 89) hx hb d_M_mayTake_70 (by decide) (fun c_70 => ?_) (fun c_70 => ?_)
                · have c_70 : ¬ b2 = 0 := fun z9 => c_70 ((nI_eq (a := b2) (b := 0) (by omega) (by omega)).mpr z9)
                  refine lv_iconst (v := nI 1) hx hb d_M_mayTake_89 (by decide +kernel) ?_
                  refine lv_goto (tgt := 94) hx hb d_M_mayTake_90 (by decide) ?_
                  refine lv_istore (lv' := [(4, .int (nI 1)), (3, .int (nI 0)), (0, .ref (h 0)), (1, .int (nI i)), (2, .int (nI f)), (5, .int (nI k))]) hx hb d_M_mayTake_94 hl (by decide) rfl (fun ls hl => ?_)
                  refine lv_iinc (v := nI (k + 1)) (lv' := [(5, .int (nI (k + 1))), (4, .int (nI 1)), (3, .int (nI 0)), (0, .ref (h 0)), (1, .int (nI i)), (2, .int (nI f))]) hx hb d_M_mayTake_96 hl (k := 5) rfl (nI_add k 1) (by decide) rfl (fun ls hl => ?_)
                  refine lv_goto (tgt := 21) hx hb d_M_mayTake_99 (by decide) ?_
                  have hop : op k = true := by cases hz : op k; rw [hz] at c_37; exact absurd rfl c_37; rfl
                  have h1s : (0 = 1 ∧ oP1 (at2 aK) tk op i (k + 1)) ∨ (0 = 0 ∧ ¬ oP1 (at2 aK) tk op i (k + 1)) := by
                    rw [oP1_s]
                    refine Or.inr ⟨rfl, fun z => ?_⟩
                    rcases h1 with ⟨z1, z2⟩ | ⟨z1, z2⟩
                    · first | omega | (have z9 : 0 < atN (aK k) i i := z.2 hop; omega)
                    · exact z2 z.1
                  have h2s : (1 = 1 ∧ oP2 (at2 aK) op i (k + 1)) ∨ (1 = 0 ∧ ¬ oP2 (at2 aK) op i (k + 1)) := by
                    rw [oP2_s]
                    refine Or.inl ⟨rfl, ?_⟩
                    rcases h2 with ⟨z1, z2⟩ | ⟨z1, z2⟩
                    · exact Or.inl z2
                    · first | exact absurd z1 c_70 | exact Or.inr ⟨hop, c_86⟩
                  exact ih_lp (k + 1) 0 1 (by omega) (h1s) (h2s) (by omega) _ _ _ hP hD hS (lv_sub hl [3, 4, 5, 2, 1, 0] rfl)
                · have c_70 : b2 = 0 := (nI_eq (a := b2) (b := 0) (by omega) (by omega)).mp c_70
                  refine lv_aload_n hx hb d_M_mayTake_73 rfl (lv_at hl 1 rfl) ?_
                  refine va_get (D := (dC, dI)) (ci := 0) (v := .ref (h 4)) (C := R_M) (T := F_M) (N := 18) hx hb hk k_M_f hown hK hP 0 rfl rfl 6 (by decide) (hk _ k_M_14) (fun _ h9 => h9) rfl d_M_mayTake_74 ?_
                  refine lv_iload hx hb d_M_mayTake_77 (lv_at hl 5 rfl) ?_
                  refine va_iald hx hb hK hP 4 0 rfl rfl (pk_in k 20 (by omega)) d_M_mayTake_79 ?_
                  refine lv_topi (fun z7 ez7 => ?_)
                  obtain rfl : z7 = aK k := ez7.trans (rd (f := aK) (k := k) (by omega))
                  refine lv_iload_n hx hb d_M_mayTake_80 rfl (lv_at hl 2 rfl) ?_
                  refine lv_iload_n hx hb d_M_mayTake_81 rfl (lv_at hl 2 rfl) ?_
                  refine vp_callSi (W.runS (As := [.int (aK k), .int (nI i), .int (nI i)]) (rest := []) ⟨hx, hb, hml, hown, hk⟩ (m_at l (aK k) i i (by omega) (by omega)) (cwS 3 hk g_M_at rfl rfl rfl (by decide +kernel) ⟨Nat.le_of_ble_eq_true rfl, Nat.le_of_ble_eq_true rfl⟩) ⟨fun a U g mk q => q, fun U hU hW => ⟨rfl, trivial⟩⟩ rfl rfl hl.1 rfl (lv_room (Nat.le_of_ble_eq_true rfl)) d_M_mayTake_82 ⟨Nat.le_of_ble_eq_true rfl, Nat.le_of_ble_eq_true rfl⟩) (fun r8 hw => ?_)
                  subst hw
                  refine lv_iconst (v := nI 2) hx hb d_M_mayTake_85 (by decide +kernel) ?_
                  have hat2 := atN_lt (aK k) i i
                  refine lv_icmp_ne (tgt := 93) hx hb d_M_mayTake_86 (by decide) (fun c_86 => ?_) (fun c_86 => ?_)
                  · have c_86 : ¬ atN (aK k) i i = 2 := fun z9 => c_86 ((nI_eq (a := atN (aK k) i i) (b := 2) (by omega) (by omega)).mpr z9)
                    refine lv_iconst (v := nI 0) hx hb d_M_mayTake_93 (by decide +kernel) ?_
                    refine lv_istore (lv' := [(4, .int (nI 0)), (3, .int (nI 0)), (0, .ref (h 0)), (1, .int (nI i)), (2, .int (nI f)), (5, .int (nI k))]) hx hb d_M_mayTake_94 hl (by decide) rfl (fun ls hl => ?_)
                    refine lv_iinc (v := nI (k + 1)) (lv' := [(5, .int (nI (k + 1))), (4, .int (nI 0)), (3, .int (nI 0)), (0, .ref (h 0)), (1, .int (nI i)), (2, .int (nI f))]) hx hb d_M_mayTake_96 hl (k := 5) rfl (nI_add k 1) (by decide) rfl (fun ls hl => ?_)
                    refine lv_goto (tgt := 21) hx hb d_M_mayTake_99 (by decide) ?_
                    have hop : op k = true := by cases hz : op k; rw [hz] at c_37; exact absurd rfl c_37; rfl
                    have h1s : (0 = 1 ∧ oP1 (at2 aK) tk op i (k + 1)) ∨ (0 = 0 ∧ ¬ oP1 (at2 aK) tk op i (k + 1)) := by
                      rw [oP1_s]
                      refine Or.inr ⟨rfl, fun z => ?_⟩
                      rcases h1 with ⟨z1, z2⟩ | ⟨z1, z2⟩
                      · first | omega | (have z9 : 0 < atN (aK k) i i := z.2 hop; omega)
                      · exact z2 z.1
                    have h2s : (0 = 1 ∧ oP2 (at2 aK) op i (k + 1)) ∨ (0 = 0 ∧ ¬ oP2 (at2 aK) op i (k + 1)) := by
                      rw [oP2_s]
                      refine Or.inr ⟨rfl, fun z => ?_⟩
                      rcases h2 with ⟨z1, z2⟩ | ⟨z1, z2⟩
                      · omega
                      · rcases z with z | z
                        · exact z2 z
                        · exact c_86 z.2
                    exact ih_lp (k + 1) 0 0 (by omega) (h1s) (h2s) (by omega) _ _ _ hP hD hS (lv_sub hl [3, 4, 5, 2, 1, 0] rfl)
                  · have c_86 : atN (aK k) i i = 2 := (nI_eq (a := atN (aK k) i i) (b := 2) (by omega) (by omega)).mp c_86
                    refine lv_iconst (v := nI 1) hx hb d_M_mayTake_89 (by decide +kernel) ?_
                    refine lv_goto (tgt := 94) hx hb d_M_mayTake_90 (by decide) ?_
                    refine lv_istore (lv' := [(4, .int (nI 1)), (3, .int (nI 0)), (0, .ref (h 0)), (1, .int (nI i)), (2, .int (nI f)), (5, .int (nI k))]) hx hb d_M_mayTake_94 hl (by decide) rfl (fun ls hl => ?_)
                    refine lv_iinc (v := nI (k + 1)) (lv' := [(5, .int (nI (k + 1))), (4, .int (nI 1)), (3, .int (nI 0)), (0, .ref (h 0)), (1, .int (nI i)), (2, .int (nI f))]) hx hb d_M_mayTake_96 hl (k := 5) rfl (nI_add k 1) (by decide) rfl (fun ls hl => ?_)
                    refine lv_goto (tgt := 21) hx hb d_M_mayTake_99 (by decide) ?_
                    have hop : op k = true := by cases hz : op k; rw [hz] at c_37; exact absurd rfl c_37; rfl
                    have h1s : (0 = 1 ∧ oP1 (at2 aK) tk op i (k + 1)) ∨ (0 = 0 ∧ ¬ oP1 (at2 aK) tk op i (k + 1)) := by
                      rw [oP1_s]
                      refine Or.inr ⟨rfl, fun z => ?_⟩
                      rcases h1 with ⟨z1, z2⟩ | ⟨z1, z2⟩
                      · first | omega | (have z9 : 0 < atN (aK k) i i := z.2 hop; omega)
                      · exact z2 z.1
                    have h2s : (1 = 1 ∧ oP2 (at2 aK) op i (k + 1)) ∨ (1 = 0 ∧ ¬ oP2 (at2 aK) op i (k + 1)) := by
                      rw [oP2_s]
                      refine Or.inl ⟨rfl, ?_⟩
                      rcases h2 with ⟨z1, z2⟩ | ⟨z1, z2⟩
                      · exact Or.inl z2
                      · first | exact absurd z1 c_70 | exact Or.inr ⟨hop, c_86⟩
                    exact ih_lp (k + 1) 0 1 (by omega) (h1s) (h2s) (by omega) _ _ _ hP hD hS (lv_sub hl [3, 4, 5, 2, 1, 0] rfl)
              · have c_59 : ¬ atN (aK k) i i ≤ 0 := fun z9 => c_59 ((nI_leI (a := atN (aK k) i i) (b := 0) (by omega) (by omega)).mpr z9)
                refine lv_iconst (v := nI 1) hx hb d_M_mayTake_62 (by decide +kernel) ?_
                refine lv_goto (tgt := 67) hx hb d_M_mayTake_63 (by decide) ?_
                refine lv_istore_n (lv' := [(3, .int (nI 1)), (0, .ref (h 0)), (1, .int (nI i)), (2, .int (nI f)), (4, .int (nI b2)), (5, .int (nI k))]) hx hb d_M_mayTake_67 rfl hl (by decide) rfl (fun ls hl => ?_)
                refine lv_iload hx hb d_M_mayTake_68 (lv_at hl 4 rfl) ?_
                refine lv_if_ne (tgt := 89) hx hb d_M_mayTake_70 (by decide) (fun c_70 => ?_) (fun c_70 => ?_)
                · have c_70 : ¬ b2 = 0 := fun z9 => c_70 ((nI_eq (a := b2) (b := 0) (by omega) (by omega)).mpr z9)
                  refine lv_iconst (v := nI 1) hx hb d_M_mayTake_89 (by decide +kernel) ?_
                  refine lv_goto (tgt := 94) hx hb d_M_mayTake_90 (by decide) ?_
                  refine lv_istore (lv' := [(4, .int (nI 1)), (3, .int (nI 1)), (0, .ref (h 0)), (1, .int (nI i)), (2, .int (nI f)), (5, .int (nI k))]) hx hb d_M_mayTake_94 hl (by decide) rfl (fun ls hl => ?_)
                  refine lv_iinc (v := nI (k + 1)) (lv' := [(5, .int (nI (k + 1))), (4, .int (nI 1)), (3, .int (nI 1)), (0, .ref (h 0)), (1, .int (nI i)), (2, .int (nI f))]) hx hb d_M_mayTake_96 hl (k := 5) rfl (nI_add k 1) (by decide) rfl (fun ls hl => ?_)
                  refine lv_goto (tgt := 21) hx hb d_M_mayTake_99 (by decide) ?_
                  have hop : op k = true := by cases hz : op k; rw [hz] at c_37; exact absurd rfl c_37; rfl
                  have h1s : (1 = 1 ∧ oP1 (at2 aK) tk op i (k + 1)) ∨ (1 = 0 ∧ ¬ oP1 (at2 aK) tk op i (k + 1)) := by
                    rw [oP1_s]
                    rcases h1 with ⟨z1, z2⟩ | ⟨z1, z2⟩
                    · exact Or.inl ⟨rfl, z2, fun _ => by show 0 < atN (aK k) i i; omega⟩
                    · exact absurd z1 c_44
                  have h2s : (1 = 1 ∧ oP2 (at2 aK) op i (k + 1)) ∨ (1 = 0 ∧ ¬ oP2 (at2 aK) op i (k + 1)) := by
                    rw [oP2_s]
                    refine Or.inl ⟨rfl, ?_⟩
                    rcases h2 with ⟨z1, z2⟩ | ⟨z1, z2⟩
                    · exact Or.inl z2
                    · first | exact absurd z1 c_70 | exact Or.inr ⟨hop, c_86⟩
                  exact ih_lp (k + 1) 1 1 (by omega) (h1s) (h2s) (by omega) _ _ _ hP hD hS (lv_sub hl [3, 4, 5, 2, 1, 0] rfl)
                · have c_70 : b2 = 0 := (nI_eq (a := b2) (b := 0) (by omega) (by omega)).mp c_70
                  refine lv_aload_n hx hb d_M_mayTake_73 rfl (lv_at hl 1 rfl) ?_
                  refine va_get (D := (dC, dI)) (ci := 0) (v := .ref (h 4)) (C := R_M) (T := F_M) (N := 18) hx hb hk k_M_f hown hK hP 0 rfl rfl 6 (by decide) (hk _ k_M_14) (fun _ h9 => h9) rfl d_M_mayTake_74 ?_
                  refine lv_iload hx hb d_M_mayTake_77 (lv_at hl 5 rfl) ?_
                  refine va_iald hx hb hK hP 4 0 rfl rfl (pk_in k 20 (by omega)) d_M_mayTake_79 ?_
                  refine lv_topi (fun z9 ez9 => ?_)
                  obtain rfl : z9 = aK k := ez9.trans (rd (f := aK) (k := k) (by omega))
                  refine lv_iload_n hx hb d_M_mayTake_80 rfl (lv_at hl 2 rfl) ?_
                  refine lv_iload_n hx hb d_M_mayTake_81 rfl (lv_at hl 2 rfl) ?_
                  refine vp_callSi (W.runS (As := [.int (aK k), .int (nI i), .int (nI i)]) (rest := []) ⟨hx, hb, hml, hown, hk⟩ (m_at l (aK k) i i (by omega) (by omega)) (cwS 3 hk g_M_at rfl rfl rfl (by decide +kernel) ⟨Nat.le_of_ble_eq_true rfl, Nat.le_of_ble_eq_true rfl⟩) ⟨fun a U g mk q => q, fun U hU hW => ⟨rfl, trivial⟩⟩ rfl rfl hl.1 rfl (lv_room (Nat.le_of_ble_eq_true rfl)) d_M_mayTake_82 ⟨Nat.le_of_ble_eq_true rfl, Nat.le_of_ble_eq_true rfl⟩) (fun r10 hw => ?_)
                  subst hw
                  refine lv_iconst (v := nI 2) hx hb d_M_mayTake_85 (by decide +kernel) ?_
                  have hat2 := atN_lt (aK k) i i
                  refine lv_icmp_ne (tgt := 93) hx hb d_M_mayTake_86 (by decide) (fun c_86 => ?_) (fun c_86 => ?_)
                  · have c_86 : ¬ atN (aK k) i i = 2 := fun z9 => c_86 ((nI_eq (a := atN (aK k) i i) (b := 2) (by omega) (by omega)).mpr z9)
                    refine lv_iconst (v := nI 0) hx hb d_M_mayTake_93 (by decide +kernel) ?_
                    refine lv_istore (lv' := [(4, .int (nI 0)), (3, .int (nI 1)), (0, .ref (h 0)), (1, .int (nI i)), (2, .int (nI f)), (5, .int (nI k))]) hx hb d_M_mayTake_94 hl (by decide) rfl (fun ls hl => ?_)
                    refine lv_iinc (v := nI (k + 1)) (lv' := [(5, .int (nI (k + 1))), (4, .int (nI 0)), (3, .int (nI 1)), (0, .ref (h 0)), (1, .int (nI i)), (2, .int (nI f))]) hx hb d_M_mayTake_96 hl (k := 5) rfl (nI_add k 1) (by decide) rfl (fun ls hl => ?_)
                    refine lv_goto (tgt := 21) hx hb d_M_mayTake_99 (by decide) ?_
                    have hop : op k = true := by cases hz : op k; rw [hz] at c_37; exact absurd rfl c_37; rfl
                    have h1s : (1 = 1 ∧ oP1 (at2 aK) tk op i (k + 1)) ∨ (1 = 0 ∧ ¬ oP1 (at2 aK) tk op i (k + 1)) := by
                      rw [oP1_s]
                      rcases h1 with ⟨z1, z2⟩ | ⟨z1, z2⟩
                      · exact Or.inl ⟨rfl, z2, fun _ => by show 0 < atN (aK k) i i; omega⟩
                      · exact absurd z1 c_44
                    have h2s : (0 = 1 ∧ oP2 (at2 aK) op i (k + 1)) ∨ (0 = 0 ∧ ¬ oP2 (at2 aK) op i (k + 1)) := by
                      rw [oP2_s]
                      refine Or.inr ⟨rfl, fun z => ?_⟩
                      rcases h2 with ⟨z1, z2⟩ | ⟨z1, z2⟩
                      · omega
                      · rcases z with z | z
                        · exact z2 z
                        · exact c_86 z.2
                    exact ih_lp (k + 1) 1 0 (by omega) (h1s) (h2s) (by omega) _ _ _ hP hD hS (lv_sub hl [3, 4, 5, 2, 1, 0] rfl)
                  · have c_86 : atN (aK k) i i = 2 := (nI_eq (a := atN (aK k) i i) (b := 2) (by omega) (by omega)).mp c_86
                    refine lv_iconst (v := nI 1) hx hb d_M_mayTake_89 (by decide +kernel) ?_
                    refine lv_goto (tgt := 94) hx hb d_M_mayTake_90 (by decide) ?_
                    refine lv_istore (lv' := [(4, .int (nI 1)), (3, .int (nI 1)), (0, .ref (h 0)), (1, .int (nI i)), (2, .int (nI f)), (5, .int (nI k))]) hx hb d_M_mayTake_94 hl (by decide) rfl (fun ls hl => ?_)
                    refine lv_iinc (v := nI (k + 1)) (lv' := [(5, .int (nI (k + 1))), (4, .int (nI 1)), (3, .int (nI 1)), (0, .ref (h 0)), (1, .int (nI i)), (2, .int (nI f))]) hx hb d_M_mayTake_96 hl (k := 5) rfl (nI_add k 1) (by decide) rfl (fun ls hl => ?_)
                    refine lv_goto (tgt := 21) hx hb d_M_mayTake_99 (by decide) ?_
                    have hop : op k = true := by cases hz : op k; rw [hz] at c_37; exact absurd rfl c_37; rfl
                    have h1s : (1 = 1 ∧ oP1 (at2 aK) tk op i (k + 1)) ∨ (1 = 0 ∧ ¬ oP1 (at2 aK) tk op i (k + 1)) := by
                      rw [oP1_s]
                      rcases h1 with ⟨z1, z2⟩ | ⟨z1, z2⟩
                      · exact Or.inl ⟨rfl, z2, fun _ => by show 0 < atN (aK k) i i; omega⟩
                      · exact absurd z1 c_44
                    have h2s : (1 = 1 ∧ oP2 (at2 aK) op i (k + 1)) ∨ (1 = 0 ∧ ¬ oP2 (at2 aK) op i (k + 1)) := by
                      rw [oP2_s]
                      refine Or.inl ⟨rfl, ?_⟩
                      rcases h2 with ⟨z1, z2⟩ | ⟨z1, z2⟩
                      · exact Or.inl z2
                      · first | exact absurd z1 c_70 | exact Or.inr ⟨hop, c_86⟩
                    exact ih_lp (k + 1) 1 1 (by omega) (h1s) (h2s) (by omega) _ _ _ hP hD hS (lv_sub hl [3, 4, 5, 2, 1, 0] rfl)
          · have c_37 : (op k).toNat = 0 := (nI_eq (a := (op k).toNat) (b := 0) (by omega) (by omega)).mp c_37
            refine lv_goto (tgt := 96) hx hb d_M_mayTake_40 (by decide) ?_
            refine lv_iinc (v := nI (k + 1)) (lv' := [(5, .int (nI (k + 1))), (0, .ref (h 0)), (1, .int (nI i)), (2, .int (nI f)), (3, .int (nI b1)), (4, .int (nI b2))]) hx hb d_M_mayTake_96 hl (k := 5) rfl (nI_add k 1) (by decide) rfl (fun ls hl => ?_)
            refine lv_goto (tgt := 21) hx hb d_M_mayTake_99 (by decide) ?_
            have hop : op k = false := by cases hz : op k; rfl; rw [hz] at c_37; exact absurd c_37 (by decide)
            have h1s : (b1 = 1 ∧ oP1 (at2 aK) tk op i (k + 1)) ∨ (b1 = 0 ∧ ¬ oP1 (at2 aK) tk op i (k + 1)) := by rw [oP1_s, hop]; rcases h1 with ⟨z1, z2⟩ | ⟨z1, z2⟩; exact Or.inl ⟨z1, z2, fun z => absurd z (by decide)⟩; exact Or.inr ⟨z1, fun z => z2 z.1⟩
            have h2s : (b2 = 1 ∧ oP2 (at2 aK) op i (k + 1)) ∨ (b2 = 0 ∧ ¬ oP2 (at2 aK) op i (k + 1)) := by rw [oP2_s, hop]; rcases h2 with ⟨z1, z2⟩ | ⟨z1, z2⟩; exact Or.inl ⟨z1, Or.inl z2⟩; exact Or.inr ⟨z1, fun z => by rcases z with z | z; exact z2 z; exact absurd z.1 (by decide)⟩
            exact ih_lp (k + 1) b1 b2 (by omega) (h1s) (h2s) (by omega) _ _ _ hP hD hS (lv_sub hl [1, 2, 3, 4, 5, 0] rfl)
    exact lp _ 0 0 0 (Nat.zero_le _) (h10) (Or.inr ⟨rfl, fun ⟨j, hj, _⟩ => absurd hj (Nat.not_lt_zero _)⟩) (Nat.lt_succ_self _) _ _ _ hP hD hS (lv_sub hl [3, 4, 5, 2, 1, 0] rfl)
  · have c_6 : tk.toNat = 0 := (nI_eq (a := tk.toNat) (b := 0) (by omega) (by omega)).mp c_6
    refine lv_iconst (v := nI 1) hx hb d_M_mayTake_9 (by decide +kernel) ?_
    refine lv_goto (tgt := 14) hx hb d_M_mayTake_10 (by decide) ?_
    refine lv_istore_n (lv' := [(3, .int (nI 1)), (0, .ref (h 0)), (1, .int (nI i)), (2, .int (nI f))]) hx hb d_M_mayTake_14 rfl hl (by decide) rfl (fun ls hl => ?_)
    refine lv_iconst (v := nI 0) hx hb d_M_mayTake_15 (by decide +kernel) ?_
    refine lv_istore (lv' := [(4, .int (nI 0)), (3, .int (nI 1)), (0, .ref (h 0)), (1, .int (nI i)), (2, .int (nI f))]) hx hb d_M_mayTake_16 hl (by decide) rfl (fun ls hl => ?_)
    refine lv_iconst (v := nI 0) hx hb d_M_mayTake_18 (by decide +kernel) ?_
    refine lv_istore (lv' := [(5, .int (nI 0)), (4, .int (nI 0)), (3, .int (nI 1)), (0, .ref (h 0)), (1, .int (nI i)), (2, .int (nI f))]) hx hb d_M_mayTake_19 hl (by decide) rfl (fun ls hl => ?_)
    have h10 : (1 = 1 ∧ oP1 (at2 aK) tk op i 0) ∨ (1 = 0 ∧ ¬ oP1 (at2 aK) tk op i 0) := by
      cases tk
      · first | exact Or.inl ⟨rfl, rfl, fun j hj => absurd hj (Nat.not_lt_zero _)⟩ | exact absurd rfl c_6
      · first | exact Or.inr ⟨rfl, fun z => absurd z.1 (by decide)⟩ | exact absurd c_6 (by decide)
    have lp : ∀ (n_lp : Nat) (k : Nat) (b1 : Nat) (b2 : Nat), (k ≤ nC) → ((b1 = 1 ∧ oP1 (at2 aK) tk op i k) ∨ (b1 = 0 ∧ ¬ oP1 (at2 aK) tk op i k)) → ((b2 = 1 ∧ oP2 (at2 aK) op i k) ∨ (b2 = 0 ∧ ¬ oP2 (at2 aK) op i k)) → nC - k < n_lp → ∀ (H : Heap) (locs : List Loc) (ls : Array Slot), va_P (dC, dI) kls (wM h cI cZ xt (nI nF) (nI nC) xg (fun c => nI (pl c)) (fun c => nI (cf c)) (fun c => nI (ct c)) aK bF bL bB bA bY bR oT oO oR bS) H → va_D A (wM h cI cZ xt (nI nF) (nI nC) xg (fun c => nI (pl c)) (fun c => nI (cf c)) (fun c => nI (ct c)) aK bF bL bB bA bY bR oT oO oR bS) → va_S A s.heap H locs → lv_has ls 6 [(0, .ref (h 0)), (1, .int (nI i)), (2, .int (nI f)), (3, .int (nI b1)), (4, .int (nI b2)), (5, .int (nI k))] → W p l e (headSpec w_M_mayTake ({ frames := 1, cells := 0, slots := 0, locals := 22 })).room s m ([.ref (h 0), .int (nI i), .int (nI f)]).toArray below meth c H locs 0 0 (MQ below (va_Qi (fun (r : Int32) (u : Unit) => (r = nI 1 ∧ tk = false ∧ oCan nC (at2 aK) op i) ∨ (r = nI 0 ∧ ¬ (tk = false ∧ oCan nC (at2 aK) op i))) (fun (u : Unit) (t : State) => va_P (dC, dI) kls (wM h cI cZ xt (nI nF) (nI nC) xg (fun c => nI (pl c)) (fun c => nI (cf c)) (fun c => nI (ct c)) aK bF bL bB bA bY bR oT oO oR bS) t.heap ∧ va_K (dC, dI) kls (tyM cI cZ) t ∧ va_D (A) (wM h cI cZ xt (nI nF) (nI nC) xg (fun c => nI (pl c)) (fun c => nI (cf c)) (fun c => nI (ct c)) aK bF bL bB bA bY bR oT oO oR bS)) A) ([.ref (h 0), .int (nI i), .int (nI f)]).toArray s 0 0 A) (F0 m 21 ls []) := by
      intro n_lp
      induction n_lp with
      | zero => intro k b1 b2 hk0 h1 h2 hn; exact absurd hn (Nat.not_lt_zero _)
      | succ n_lp ih_lp =>
        intro k b1 b2 hk0 h1 h2 hn H locs ls hP hD hS hl
        have hb1 : b1 < 2 := by rcases h1 with ⟨z, -⟩ | ⟨z, -⟩ <;> omega
        have hb2 : b2 < 2 := by rcases h2 with ⟨z, -⟩ | ⟨z, -⟩ <;> omega
        refine lv_iload hx hb d_M_mayTake_21 (lv_at hl 5 rfl) ?_
        refine lv_aload_n hx hb d_M_mayTake_23 rfl (lv_at hl 0 rfl) ?_
        refine va_get (D := (dC, dI)) (ci := 0) (v := .int (nI nC)) (C := R_M) (T := F_M) (N := 18) hx hb hk k_M_f hown hK hP 0 rfl rfl 2 (by decide) (hk _ k_M_10) (fun _ h9 => h9) rfl d_M_mayTake_24 ?_
        refine lv_icmp_ge (tgt := 102) hx hb d_M_mayTake_27 (by decide) (fun c_27 => ?_) (fun c_27 => ?_)
        · have c_27 : nC ≤ k := (nI_leI (a := nC) (b := k) (by omega) (by omega)).mp c_27
          refine lv_iload_n hx hb d_M_mayTake_102 rfl (lv_at hl 3 rfl) ?_
          refine lv_if_eq (tgt := 115) hx hb d_M_mayTake_103 (by decide) (fun c_103 => ?_) (fun c_103 => ?_)
          · have c_103 : b1 = 0 := (nI_eq (a := b1) (b := 0) (by omega) (by omega)).mp c_103
            refine lv_iconst (v := nI 0) hx hb d_M_mayTake_115 (by decide +kernel) ?_
            have hkn : k = nC := by omega
            subst hkn
            have hq9 : ¬ (tk = false ∧ oCan k (at2 aK) op i) := by
              rintro ⟨z1, z2, z3⟩
              rcases h1 with ⟨z4, -⟩ | ⟨-, z4⟩
              · rcases h2 with ⟨z5, -⟩ | ⟨-, z5⟩
                · omega
                · exact z5 z3
              · exact z4 ⟨z1, z2⟩
            exact W.zret (v := nI 0) (ty := .boolean) hx hb hr rfl (fun t ht hW => ⟨⟨nI 0, (), rfl, Or.inr ⟨rfl, hq9⟩, by rw [ht]; exact hP, va_K.moved hW.alike hK, hD⟩, hS.F ht⟩) hS.2.2 d_M_mayTake_116
          · have c_103 : ¬ b1 = 0 := fun z9 => c_103 ((nI_eq (a := b1) (b := 0) (by omega) (by omega)).mpr z9)
            refine lv_iload hx hb d_M_mayTake_106 (lv_at hl 4 rfl) ?_
            refine lv_if_eq (tgt := 115) hx hb d_M_mayTake_108 (by decide) (fun c_108 => ?_) (fun c_108 => ?_)
            · have c_108 : b2 = 0 := (nI_eq (a := b2) (b := 0) (by omega) (by omega)).mp c_108
              refine lv_iconst (v := nI 0) hx hb d_M_mayTake_115 (by decide +kernel) ?_
              have hkn : k = nC := by omega
              subst hkn
              have hq9 : ¬ (tk = false ∧ oCan k (at2 aK) op i) := by
                rintro ⟨z1, z2, z3⟩
                rcases h1 with ⟨z4, -⟩ | ⟨-, z4⟩
                · rcases h2 with ⟨z5, -⟩ | ⟨-, z5⟩
                  · omega
                  · exact z5 z3
                · exact z4 ⟨z1, z2⟩
              exact W.zret (v := nI 0) (ty := .boolean) hx hb hr rfl (fun t ht hW => ⟨⟨nI 0, (), rfl, Or.inr ⟨rfl, hq9⟩, by rw [ht]; exact hP, va_K.moved hW.alike hK, hD⟩, hS.F ht⟩) hS.2.2 d_M_mayTake_116
            · have c_108 : ¬ b2 = 0 := fun z9 => c_108 ((nI_eq (a := b2) (b := 0) (by omega) (by omega)).mpr z9)
              refine lv_iconst (v := nI 1) hx hb d_M_mayTake_111 (by decide +kernel) ?_
              refine lv_goto (tgt := 116) hx hb d_M_mayTake_112 (by decide) ?_
              have hkn : k = nC := by omega
              subst hkn
              have hq9 : tk = false ∧ oCan k (at2 aK) op i := by
                rcases h1 with ⟨-, z1⟩ | ⟨z1, -⟩
                · rcases h2 with ⟨-, z2⟩ | ⟨z2, -⟩
                  · exact ⟨z1.1, z1.2, z2⟩
                  · exact absurd z2 c_108
                · exact absurd z1 c_103
              exact W.zret (v := nI 1) (ty := .boolean) hx hb hr rfl (fun t ht hW => ⟨⟨nI 1, (), rfl, Or.inl ⟨rfl, hq9⟩, by rw [ht]; exact hP, va_K.moved hW.alike hK, hD⟩, hS.F ht⟩) hS.2.2 d_M_mayTake_116
        · have c_27 : ¬ nC ≤ k := fun z9 => c_27 ((nI_leI (a := nC) (b := k) (by omega) (by omega)).mpr z9)
          refine lv_aload_n hx hb d_M_mayTake_30 rfl (lv_at hl 0 rfl) ?_
          refine va_get (D := (dC, dI)) (ci := 0) (v := .ref (h 12)) (C := R_M) (T := F_M) (N := 18) hx hb hk k_M_f hown hK hP 0 rfl rfl 15 (by decide) (hk _ k_M_23) (fun _ h9 => h9) rfl d_M_mayTake_31 ?_
          refine lv_iload hx hb d_M_mayTake_34 (lv_at hl 5 rfl) ?_
          refine va_zald hx hb hK hP 12 1 rfl rfl (pk_in k 20 (by omega)) d_M_mayTake_36 ?_
          refine lv_topi (fun z11 ez11 => ?_)
          obtain rfl : z11 = nI ((op k).toNat) := ez11.trans ((rd (f := oO) (k := k) (by omega)).trans (hO k (by omega)))
          have hob := bN_lt (op k)
          refine lv_if_ne (tgt := 43) hx hb d_M_mayTake_37 (by decide) (fun c_37 => ?_) (fun c_37 => ?_)
          · have c_37 : ¬ (op k).toNat = 0 := fun z9 => c_37 ((nI_eq (a := (op k).toNat) (b := 0) (by omega) (by omega)).mpr z9)
            refine lv_iload_n hx hb d_M_mayTake_43 rfl (lv_at hl 3 rfl) ?_
            refine lv_if_eq (tgt := 66) hx hb d_M_mayTake_44 (by decide) (fun c_44 => ?_) (fun c_44 => ?_)
            · have c_44 : b1 = 0 := (nI_eq (a := b1) (b := 0) (by omega) (by omega)).mp c_44
              refine lv_iconst (v := nI 0) hx hb d_M_mayTake_66 (by decide +kernel) ?_
              refine lv_istore_n (lv' := [(3, .int (nI 0)), (0, .ref (h 0)), (1, .int (nI i)), (2, .int (nI f)), (4, .int (nI b2)), (5, .int (nI k))]) hx hb d_M_mayTake_67 rfl hl (by decide) rfl (fun ls hl => ?_)
              refine lv_iload hx hb d_M_mayTake_68 (lv_at hl 4 rfl) ?_
              refine lv_if_ne (tgt := 89) hx hb d_M_mayTake_70 (by decide) (fun c_70 => ?_) (fun c_70 => ?_)
              · have c_70 : ¬ b2 = 0 := fun z9 => c_70 ((nI_eq (a := b2) (b := 0) (by omega) (by omega)).mpr z9)
                refine lv_iconst (v := nI 1) hx hb d_M_mayTake_89 (by decide +kernel) ?_
                refine lv_goto (tgt := 94) hx hb d_M_mayTake_90 (by decide) ?_
                refine lv_istore (lv' := [(4, .int (nI 1)), (3, .int (nI 0)), (0, .ref (h 0)), (1, .int (nI i)), (2, .int (nI f)), (5, .int (nI k))]) hx hb d_M_mayTake_94 hl (by decide) rfl (fun ls hl => ?_)
                refine lv_iinc (v := nI (k + 1)) (lv' := [(5, .int (nI (k + 1))), (4, .int (nI 1)), (3, .int (nI 0)), (0, .ref (h 0)), (1, .int (nI i)), (2, .int (nI f))]) hx hb d_M_mayTake_96 hl (k := 5) rfl (nI_add k 1) (by decide) rfl (fun ls hl => ?_)
                refine lv_goto (tgt := 21) hx hb d_M_mayTake_99 (by decide) ?_
                have hop : op k = true := by cases hz : op k; rw [hz] at c_37; exact absurd rfl c_37; rfl
                have h1s : (0 = 1 ∧ oP1 (at2 aK) tk op i (k + 1)) ∨ (0 = 0 ∧ ¬ oP1 (at2 aK) tk op i (k + 1)) := by
                  rw [oP1_s]
                  refine Or.inr ⟨rfl, fun z => ?_⟩
                  rcases h1 with ⟨z1, z2⟩ | ⟨z1, z2⟩
                  · first | omega | (have z9 : 0 < atN (aK k) i i := z.2 hop; omega)
                  · exact z2 z.1
                have h2s : (1 = 1 ∧ oP2 (at2 aK) op i (k + 1)) ∨ (1 = 0 ∧ ¬ oP2 (at2 aK) op i (k + 1)) := by
                  rw [oP2_s]
                  refine Or.inl ⟨rfl, ?_⟩
                  rcases h2 with ⟨z1, z2⟩ | ⟨z1, z2⟩
                  · exact Or.inl z2
                  · first | exact absurd z1 c_70 | exact Or.inr ⟨hop, c_86⟩
                exact ih_lp (k + 1) 0 1 (by omega) (h1s) (h2s) (by omega) _ _ _ hP hD hS (lv_sub hl [3, 4, 5, 2, 1, 0] rfl)
              · have c_70 : b2 = 0 := (nI_eq (a := b2) (b := 0) (by omega) (by omega)).mp c_70
                refine lv_aload_n hx hb d_M_mayTake_73 rfl (lv_at hl 1 rfl) ?_
                refine va_get (D := (dC, dI)) (ci := 0) (v := .ref (h 4)) (C := R_M) (T := F_M) (N := 18) hx hb hk k_M_f hown hK hP 0 rfl rfl 6 (by decide) (hk _ k_M_14) (fun _ h9 => h9) rfl d_M_mayTake_74 ?_
                refine lv_iload hx hb d_M_mayTake_77 (lv_at hl 5 rfl) ?_
                refine va_iald hx hb hK hP 4 0 rfl rfl (pk_in k 20 (by omega)) d_M_mayTake_79 ?_
                refine lv_topi (fun z12 ez12 => ?_)
                obtain rfl : z12 = aK k := ez12.trans (rd (f := aK) (k := k) (by omega))
                refine lv_iload_n hx hb d_M_mayTake_80 rfl (lv_at hl 2 rfl) ?_
                refine lv_iload_n hx hb d_M_mayTake_81 rfl (lv_at hl 2 rfl) ?_
                refine vp_callSi (W.runS (As := [.int (aK k), .int (nI i), .int (nI i)]) (rest := []) ⟨hx, hb, hml, hown, hk⟩ (m_at l (aK k) i i (by omega) (by omega)) (cwS 3 hk g_M_at rfl rfl rfl (by decide +kernel) ⟨Nat.le_of_ble_eq_true rfl, Nat.le_of_ble_eq_true rfl⟩) ⟨fun a U g mk q => q, fun U hU hW => ⟨rfl, trivial⟩⟩ rfl rfl hl.1 rfl (lv_room (Nat.le_of_ble_eq_true rfl)) d_M_mayTake_82 ⟨Nat.le_of_ble_eq_true rfl, Nat.le_of_ble_eq_true rfl⟩) (fun r13 hw => ?_)
                subst hw
                refine lv_iconst (v := nI 2) hx hb d_M_mayTake_85 (by decide +kernel) ?_
                have hat2 := atN_lt (aK k) i i
                refine lv_icmp_ne (tgt := 93) hx hb d_M_mayTake_86 (by decide) (fun c_86 => ?_) (fun c_86 => ?_)
                · have c_86 : ¬ atN (aK k) i i = 2 := fun z9 => c_86 ((nI_eq (a := atN (aK k) i i) (b := 2) (by omega) (by omega)).mpr z9)
                  refine lv_iconst (v := nI 0) hx hb d_M_mayTake_93 (by decide +kernel) ?_
                  refine lv_istore (lv' := [(4, .int (nI 0)), (3, .int (nI 0)), (0, .ref (h 0)), (1, .int (nI i)), (2, .int (nI f)), (5, .int (nI k))]) hx hb d_M_mayTake_94 hl (by decide) rfl (fun ls hl => ?_)
                  refine lv_iinc (v := nI (k + 1)) (lv' := [(5, .int (nI (k + 1))), (4, .int (nI 0)), (3, .int (nI 0)), (0, .ref (h 0)), (1, .int (nI i)), (2, .int (nI f))]) hx hb d_M_mayTake_96 hl (k := 5) rfl (nI_add k 1) (by decide) rfl (fun ls hl => ?_)
                  refine lv_goto (tgt := 21) hx hb d_M_mayTake_99 (by decide) ?_
                  have hop : op k = true := by cases hz : op k; rw [hz] at c_37; exact absurd rfl c_37; rfl
                  have h1s : (0 = 1 ∧ oP1 (at2 aK) tk op i (k + 1)) ∨ (0 = 0 ∧ ¬ oP1 (at2 aK) tk op i (k + 1)) := by
                    rw [oP1_s]
                    refine Or.inr ⟨rfl, fun z => ?_⟩
                    rcases h1 with ⟨z1, z2⟩ | ⟨z1, z2⟩
                    · first | omega | (have z9 : 0 < atN (aK k) i i := z.2 hop; omega)
                    · exact z2 z.1
                  have h2s : (0 = 1 ∧ oP2 (at2 aK) op i (k + 1)) ∨ (0 = 0 ∧ ¬ oP2 (at2 aK) op i (k + 1)) := by
                    rw [oP2_s]
                    refine Or.inr ⟨rfl, fun z => ?_⟩
                    rcases h2 with ⟨z1, z2⟩ | ⟨z1, z2⟩
                    · omega
                    · rcases z with z | z
                      · exact z2 z
                      · exact c_86 z.2
                  exact ih_lp (k + 1) 0 0 (by omega) (h1s) (h2s) (by omega) _ _ _ hP hD hS (lv_sub hl [3, 4, 5, 2, 1, 0] rfl)
                · have c_86 : atN (aK k) i i = 2 := (nI_eq (a := atN (aK k) i i) (b := 2) (by omega) (by omega)).mp c_86
                  refine lv_iconst (v := nI 1) hx hb d_M_mayTake_89 (by decide +kernel) ?_
                  refine lv_goto (tgt := 94) hx hb d_M_mayTake_90 (by decide) ?_
                  refine lv_istore (lv' := [(4, .int (nI 1)), (3, .int (nI 0)), (0, .ref (h 0)), (1, .int (nI i)), (2, .int (nI f)), (5, .int (nI k))]) hx hb d_M_mayTake_94 hl (by decide) rfl (fun ls hl => ?_)
                  refine lv_iinc (v := nI (k + 1)) (lv' := [(5, .int (nI (k + 1))), (4, .int (nI 1)), (3, .int (nI 0)), (0, .ref (h 0)), (1, .int (nI i)), (2, .int (nI f))]) hx hb d_M_mayTake_96 hl (k := 5) rfl (nI_add k 1) (by decide) rfl (fun ls hl => ?_)
                  refine lv_goto (tgt := 21) hx hb d_M_mayTake_99 (by decide) ?_
                  have hop : op k = true := by cases hz : op k; rw [hz] at c_37; exact absurd rfl c_37; rfl
                  have h1s : (0 = 1 ∧ oP1 (at2 aK) tk op i (k + 1)) ∨ (0 = 0 ∧ ¬ oP1 (at2 aK) tk op i (k + 1)) := by
                    rw [oP1_s]
                    refine Or.inr ⟨rfl, fun z => ?_⟩
                    rcases h1 with ⟨z1, z2⟩ | ⟨z1, z2⟩
                    · first | omega | (have z9 : 0 < atN (aK k) i i := z.2 hop; omega)
                    · exact z2 z.1
                  have h2s : (1 = 1 ∧ oP2 (at2 aK) op i (k + 1)) ∨ (1 = 0 ∧ ¬ oP2 (at2 aK) op i (k + 1)) := by
                    rw [oP2_s]
                    refine Or.inl ⟨rfl, ?_⟩
                    rcases h2 with ⟨z1, z2⟩ | ⟨z1, z2⟩
                    · exact Or.inl z2
                    · first | exact absurd z1 c_70 | exact Or.inr ⟨hop, c_86⟩
                  exact ih_lp (k + 1) 0 1 (by omega) (h1s) (h2s) (by omega) _ _ _ hP hD hS (lv_sub hl [3, 4, 5, 2, 1, 0] rfl)
            · have c_44 : ¬ b1 = 0 := fun z9 => c_44 ((nI_eq (a := b1) (b := 0) (by omega) (by omega)).mpr z9)
              refine lv_aload_n hx hb d_M_mayTake_47 rfl (lv_at hl 0 rfl) ?_
              refine va_get (D := (dC, dI)) (ci := 0) (v := .ref (h 4)) (C := R_M) (T := F_M) (N := 18) hx hb hk k_M_f hown hK hP 0 rfl rfl 6 (by decide) (hk _ k_M_14) (fun _ h9 => h9) rfl d_M_mayTake_48 ?_
              refine lv_iload hx hb d_M_mayTake_51 (lv_at hl 5 rfl) ?_
              refine va_iald hx hb hK hP 4 0 rfl rfl (pk_in k 20 (by omega)) d_M_mayTake_53 ?_
              refine lv_topi (fun z14 ez14 => ?_)
              obtain rfl : z14 = aK k := ez14.trans (rd (f := aK) (k := k) (by omega))
              refine lv_iload_n hx hb d_M_mayTake_54 rfl (lv_at hl 1 rfl) ?_
              refine lv_iload_n hx hb d_M_mayTake_55 rfl (lv_at hl 1 rfl) ?_
              refine vp_callSi (W.runS (As := [.int (aK k), .int (nI i), .int (nI i)]) (rest := []) ⟨hx, hb, hml, hown, hk⟩ (m_at l (aK k) i i (by omega) (by omega)) (cwS 3 hk g_M_at rfl rfl rfl (by decide +kernel) ⟨Nat.le_of_ble_eq_true rfl, Nat.le_of_ble_eq_true rfl⟩) ⟨fun a U g mk q => q, fun U hU hW => ⟨rfl, trivial⟩⟩ rfl rfl hl.1 rfl (lv_room (Nat.le_of_ble_eq_true rfl)) d_M_mayTake_56 ⟨Nat.le_of_ble_eq_true rfl, Nat.le_of_ble_eq_true rfl⟩) (fun r15 hw => ?_)
              subst hw
              have hat := atN_lt (aK k) i i
              refine lv_if_le (tgt := 66) hx hb d_M_mayTake_59 (by decide) (fun c_59 => ?_) (fun c_59 => ?_)
              · have c_59 : atN (aK k) i i ≤ 0 := (nI_leI (a := atN (aK k) i i) (b := 0) (by omega) (by omega)).mp c_59
                refine lv_iconst (v := nI 0) hx hb d_M_mayTake_66 (by decide +kernel) ?_
                refine lv_istore_n (lv' := [(3, .int (nI 0)), (0, .ref (h 0)), (1, .int (nI i)), (2, .int (nI f)), (4, .int (nI b2)), (5, .int (nI k))]) hx hb d_M_mayTake_67 rfl hl (by decide) rfl (fun ls hl => ?_)
                refine lv_iload hx hb d_M_mayTake_68 (lv_at hl 4 rfl) ?_
                refine lv_if_ne (tgt := 89) hx hb d_M_mayTake_70 (by decide) (fun c_70 => ?_) (fun c_70 => ?_)
                · have c_70 : ¬ b2 = 0 := fun z9 => c_70 ((nI_eq (a := b2) (b := 0) (by omega) (by omega)).mpr z9)
                  refine lv_iconst (v := nI 1) hx hb d_M_mayTake_89 (by decide +kernel) ?_
                  refine lv_goto (tgt := 94) hx hb d_M_mayTake_90 (by decide) ?_
                  refine lv_istore (lv' := [(4, .int (nI 1)), (3, .int (nI 0)), (0, .ref (h 0)), (1, .int (nI i)), (2, .int (nI f)), (5, .int (nI k))]) hx hb d_M_mayTake_94 hl (by decide) rfl (fun ls hl => ?_)
                  refine lv_iinc (v := nI (k + 1)) (lv' := [(5, .int (nI (k + 1))), (4, .int (nI 1)), (3, .int (nI 0)), (0, .ref (h 0)), (1, .int (nI i)), (2, .int (nI f))]) hx hb d_M_mayTake_96 hl (k := 5) rfl (nI_add k 1) (by decide) rfl (fun ls hl => ?_)
                  refine lv_goto (tgt := 21) hx hb d_M_mayTake_99 (by decide) ?_
                  have hop : op k = true := by cases hz : op k; rw [hz] at c_37; exact absurd rfl c_37; rfl
                  have h1s : (0 = 1 ∧ oP1 (at2 aK) tk op i (k + 1)) ∨ (0 = 0 ∧ ¬ oP1 (at2 aK) tk op i (k + 1)) := by
                    rw [oP1_s]
                    refine Or.inr ⟨rfl, fun z => ?_⟩
                    rcases h1 with ⟨z1, z2⟩ | ⟨z1, z2⟩
                    · first | omega | (have z9 : 0 < atN (aK k) i i := z.2 hop; omega)
                    · exact z2 z.1
                  have h2s : (1 = 1 ∧ oP2 (at2 aK) op i (k + 1)) ∨ (1 = 0 ∧ ¬ oP2 (at2 aK) op i (k + 1)) := by
                    rw [oP2_s]
                    refine Or.inl ⟨rfl, ?_⟩
                    rcases h2 with ⟨z1, z2⟩ | ⟨z1, z2⟩
                    · exact Or.inl z2
                    · first | exact absurd z1 c_70 | exact Or.inr ⟨hop, c_86⟩
                  exact ih_lp (k + 1) 0 1 (by omega) (h1s) (h2s) (by omega) _ _ _ hP hD hS (lv_sub hl [3, 4, 5, 2, 1, 0] rfl)
                · have c_70 : b2 = 0 := (nI_eq (a := b2) (b := 0) (by omega) (by omega)).mp c_70
                  refine lv_aload_n hx hb d_M_mayTake_73 rfl (lv_at hl 1 rfl) ?_
                  refine va_get (D := (dC, dI)) (ci := 0) (v := .ref (h 4)) (C := R_M) (T := F_M) (N := 18) hx hb hk k_M_f hown hK hP 0 rfl rfl 6 (by decide) (hk _ k_M_14) (fun _ h9 => h9) rfl d_M_mayTake_74 ?_
                  refine lv_iload hx hb d_M_mayTake_77 (lv_at hl 5 rfl) ?_
                  refine va_iald hx hb hK hP 4 0 rfl rfl (pk_in k 20 (by omega)) d_M_mayTake_79 ?_
                  refine lv_topi (fun z16 ez16 => ?_)
                  obtain rfl : z16 = aK k := ez16.trans (rd (f := aK) (k := k) (by omega))
                  refine lv_iload_n hx hb d_M_mayTake_80 rfl (lv_at hl 2 rfl) ?_
                  refine lv_iload_n hx hb d_M_mayTake_81 rfl (lv_at hl 2 rfl) ?_
                  refine vp_callSi (W.runS (As := [.int (aK k), .int (nI i), .int (nI i)]) (rest := []) ⟨hx, hb, hml, hown, hk⟩ (m_at l (aK k) i i (by omega) (by omega)) (cwS 3 hk g_M_at rfl rfl rfl (by decide +kernel) ⟨Nat.le_of_ble_eq_true rfl, Nat.le_of_ble_eq_true rfl⟩) ⟨fun a U g mk q => q, fun U hU hW => ⟨rfl, trivial⟩⟩ rfl rfl hl.1 rfl (lv_room (Nat.le_of_ble_eq_true rfl)) d_M_mayTake_82 ⟨Nat.le_of_ble_eq_true rfl, Nat.le_of_ble_eq_true rfl⟩) (fun r17 hw => ?_)
                  subst hw
                  refine lv_iconst (v := nI 2) hx hb d_M_mayTake_85 (by decide +kernel) ?_
                  have hat2 := atN_lt (aK k) i i
                  refine lv_icmp_ne (tgt := 93) hx hb d_M_mayTake_86 (by decide) (fun c_86 => ?_) (fun c_86 => ?_)
                  · have c_86 : ¬ atN (aK k) i i = 2 := fun z9 => c_86 ((nI_eq (a := atN (aK k) i i) (b := 2) (by omega) (by omega)).mpr z9)
                    refine lv_iconst (v := nI 0) hx hb d_M_mayTake_93 (by decide +kernel) ?_
                    refine lv_istore (lv' := [(4, .int (nI 0)), (3, .int (nI 0)), (0, .ref (h 0)), (1, .int (nI i)), (2, .int (nI f)), (5, .int (nI k))]) hx hb d_M_mayTake_94 hl (by decide) rfl (fun ls hl => ?_)
                    refine lv_iinc (v := nI (k + 1)) (lv' := [(5, .int (nI (k + 1))), (4, .int (nI 0)), (3, .int (nI 0)), (0, .ref (h 0)), (1, .int (nI i)), (2, .int (nI f))]) hx hb d_M_mayTake_96 hl (k := 5) rfl (nI_add k 1) (by decide) rfl (fun ls hl => ?_)
                    refine lv_goto (tgt := 21) hx hb d_M_mayTake_99 (by decide) ?_
                    have hop : op k = true := by cases hz : op k; rw [hz] at c_37; exact absurd rfl c_37; rfl
                    have h1s : (0 = 1 ∧ oP1 (at2 aK) tk op i (k + 1)) ∨ (0 = 0 ∧ ¬ oP1 (at2 aK) tk op i (k + 1)) := by
                      rw [oP1_s]
                      refine Or.inr ⟨rfl, fun z => ?_⟩
                      rcases h1 with ⟨z1, z2⟩ | ⟨z1, z2⟩
                      · first | omega | (have z9 : 0 < atN (aK k) i i := z.2 hop; omega)
                      · exact z2 z.1
                    have h2s : (0 = 1 ∧ oP2 (at2 aK) op i (k + 1)) ∨ (0 = 0 ∧ ¬ oP2 (at2 aK) op i (k + 1)) := by
                      rw [oP2_s]
                      refine Or.inr ⟨rfl, fun z => ?_⟩
                      rcases h2 with ⟨z1, z2⟩ | ⟨z1, z2⟩
                      · omega
                      · rcases z with z | z
                        · exact z2 z
                        · exact c_86 z.2
                    exact ih_lp (k + 1) 0 0 (by omega) (h1s) (h2s) (by omega) _ _ _ hP hD hS (lv_sub hl [3, 4, 5, 2, 1, 0] rfl)
                  · have c_86 : atN (aK k) i i = 2 := (nI_eq (a := atN (aK k) i i) (b := 2) (by omega) (by omega)).mp c_86
                    refine lv_iconst (v := nI 1) hx hb d_M_mayTake_89 (by decide +kernel) ?_
                    refine lv_goto (tgt := 94) hx hb d_M_mayTake_90 (by decide) ?_
                    refine lv_istore (lv' := [(4, .int (nI 1)), (3, .int (nI 0)), (0, .ref (h 0)), (1, .int (nI i)), (2, .int (nI f)), (5, .int (nI k))]) hx hb d_M_mayTake_94 hl (by decide) rfl (fun ls hl => ?_)
                    refine lv_iinc (v := nI (k + 1)) (lv' := [(5, .int (nI (k + 1))), (4, .int (nI 1)), (3, .int (nI 0)), (0, .ref (h 0)), (1, .int (nI i)), (2, .int (nI f))]) hx hb d_M_mayTake_96 hl (k := 5) rfl (nI_add k 1) (by decide) rfl (fun ls hl => ?_)
                    refine lv_goto (tgt := 21) hx hb d_M_mayTake_99 (by decide) ?_
                    have hop : op k = true := by cases hz : op k; rw [hz] at c_37; exact absurd rfl c_37; rfl
                    have h1s : (0 = 1 ∧ oP1 (at2 aK) tk op i (k + 1)) ∨ (0 = 0 ∧ ¬ oP1 (at2 aK) tk op i (k + 1)) := by
                      rw [oP1_s]
                      refine Or.inr ⟨rfl, fun z => ?_⟩
                      rcases h1 with ⟨z1, z2⟩ | ⟨z1, z2⟩
                      · first | omega | (have z9 : 0 < atN (aK k) i i := z.2 hop; omega)
                      · exact z2 z.1
                    have h2s : (1 = 1 ∧ oP2 (at2 aK) op i (k + 1)) ∨ (1 = 0 ∧ ¬ oP2 (at2 aK) op i (k + 1)) := by
                      rw [oP2_s]
                      refine Or.inl ⟨rfl, ?_⟩
                      rcases h2 with ⟨z1, z2⟩ | ⟨z1, z2⟩
                      · exact Or.inl z2
                      · first | exact absurd z1 c_70 | exact Or.inr ⟨hop, c_86⟩
                    exact ih_lp (k + 1) 0 1 (by omega) (h1s) (h2s) (by omega) _ _ _ hP hD hS (lv_sub hl [3, 4, 5, 2, 1, 0] rfl)
              · have c_59 : ¬ atN (aK k) i i ≤ 0 := fun z9 => c_59 ((nI_leI (a := atN (aK k) i i) (b := 0) (by omega) (by omega)).mpr z9)
                refine lv_iconst (v := nI 1) hx hb d_M_mayTake_62 (by decide +kernel) ?_
                refine lv_goto (tgt := 67) hx hb d_M_mayTake_63 (by decide) ?_
                refine lv_istore_n (lv' := [(3, .int (nI 1)), (0, .ref (h 0)), (1, .int (nI i)), (2, .int (nI f)), (4, .int (nI b2)), (5, .int (nI k))]) hx hb d_M_mayTake_67 rfl hl (by decide) rfl (fun ls hl => ?_)
                refine lv_iload hx hb d_M_mayTake_68 (lv_at hl 4 rfl) ?_
                refine lv_if_ne (tgt := 89) hx hb d_M_mayTake_70 (by decide) (fun c_70 => ?_) (fun c_70 => ?_)
                · have c_70 : ¬ b2 = 0 := fun z9 => c_70 ((nI_eq (a := b2) (b := 0) (by omega) (by omega)).mpr z9)
                  refine lv_iconst (v := nI 1) hx hb d_M_mayTake_89 (by decide +kernel) ?_
                  refine lv_goto (tgt := 94) hx hb d_M_mayTake_90 (by decide) ?_
                  refine lv_istore (lv' := [(4, .int (nI 1)), (3, .int (nI 1)), (0, .ref (h 0)), (1, .int (nI i)), (2, .int (nI f)), (5, .int (nI k))]) hx hb d_M_mayTake_94 hl (by decide) rfl (fun ls hl => ?_)
                  refine lv_iinc (v := nI (k + 1)) (lv' := [(5, .int (nI (k + 1))), (4, .int (nI 1)), (3, .int (nI 1)), (0, .ref (h 0)), (1, .int (nI i)), (2, .int (nI f))]) hx hb d_M_mayTake_96 hl (k := 5) rfl (nI_add k 1) (by decide) rfl (fun ls hl => ?_)
                  refine lv_goto (tgt := 21) hx hb d_M_mayTake_99 (by decide) ?_
                  have hop : op k = true := by cases hz : op k; rw [hz] at c_37; exact absurd rfl c_37; rfl
                  have h1s : (1 = 1 ∧ oP1 (at2 aK) tk op i (k + 1)) ∨ (1 = 0 ∧ ¬ oP1 (at2 aK) tk op i (k + 1)) := by
                    rw [oP1_s]
                    rcases h1 with ⟨z1, z2⟩ | ⟨z1, z2⟩
                    · exact Or.inl ⟨rfl, z2, fun _ => by show 0 < atN (aK k) i i; omega⟩
                    · exact absurd z1 c_44
                  have h2s : (1 = 1 ∧ oP2 (at2 aK) op i (k + 1)) ∨ (1 = 0 ∧ ¬ oP2 (at2 aK) op i (k + 1)) := by
                    rw [oP2_s]
                    refine Or.inl ⟨rfl, ?_⟩
                    rcases h2 with ⟨z1, z2⟩ | ⟨z1, z2⟩
                    · exact Or.inl z2
                    · first | exact absurd z1 c_70 | exact Or.inr ⟨hop, c_86⟩
                  exact ih_lp (k + 1) 1 1 (by omega) (h1s) (h2s) (by omega) _ _ _ hP hD hS (lv_sub hl [3, 4, 5, 2, 1, 0] rfl)
                · have c_70 : b2 = 0 := (nI_eq (a := b2) (b := 0) (by omega) (by omega)).mp c_70
                  refine lv_aload_n hx hb d_M_mayTake_73 rfl (lv_at hl 1 rfl) ?_
                  refine va_get (D := (dC, dI)) (ci := 0) (v := .ref (h 4)) (C := R_M) (T := F_M) (N := 18) hx hb hk k_M_f hown hK hP 0 rfl rfl 6 (by decide) (hk _ k_M_14) (fun _ h9 => h9) rfl d_M_mayTake_74 ?_
                  refine lv_iload hx hb d_M_mayTake_77 (lv_at hl 5 rfl) ?_
                  refine va_iald hx hb hK hP 4 0 rfl rfl (pk_in k 20 (by omega)) d_M_mayTake_79 ?_
                  refine lv_topi (fun z18 ez18 => ?_)
                  obtain rfl : z18 = aK k := ez18.trans (rd (f := aK) (k := k) (by omega))
                  refine lv_iload_n hx hb d_M_mayTake_80 rfl (lv_at hl 2 rfl) ?_
                  refine lv_iload_n hx hb d_M_mayTake_81 rfl (lv_at hl 2 rfl) ?_
                  refine vp_callSi (W.runS (As := [.int (aK k), .int (nI i), .int (nI i)]) (rest := []) ⟨hx, hb, hml, hown, hk⟩ (m_at l (aK k) i i (by omega) (by omega)) (cwS 3 hk g_M_at rfl rfl rfl (by decide +kernel) ⟨Nat.le_of_ble_eq_true rfl, Nat.le_of_ble_eq_true rfl⟩) ⟨fun a U g mk q => q, fun U hU hW => ⟨rfl, trivial⟩⟩ rfl rfl hl.1 rfl (lv_room (Nat.le_of_ble_eq_true rfl)) d_M_mayTake_82 ⟨Nat.le_of_ble_eq_true rfl, Nat.le_of_ble_eq_true rfl⟩) (fun r19 hw => ?_)
                  subst hw
                  refine lv_iconst (v := nI 2) hx hb d_M_mayTake_85 (by decide +kernel) ?_
                  have hat2 := atN_lt (aK k) i i
                  refine lv_icmp_ne (tgt := 93) hx hb d_M_mayTake_86 (by decide) (fun c_86 => ?_) (fun c_86 => ?_)
                  · have c_86 : ¬ atN (aK k) i i = 2 := fun z9 => c_86 ((nI_eq (a := atN (aK k) i i) (b := 2) (by omega) (by omega)).mpr z9)
                    refine lv_iconst (v := nI 0) hx hb d_M_mayTake_93 (by decide +kernel) ?_
                    refine lv_istore (lv' := [(4, .int (nI 0)), (3, .int (nI 1)), (0, .ref (h 0)), (1, .int (nI i)), (2, .int (nI f)), (5, .int (nI k))]) hx hb d_M_mayTake_94 hl (by decide) rfl (fun ls hl => ?_)
                    refine lv_iinc (v := nI (k + 1)) (lv' := [(5, .int (nI (k + 1))), (4, .int (nI 0)), (3, .int (nI 1)), (0, .ref (h 0)), (1, .int (nI i)), (2, .int (nI f))]) hx hb d_M_mayTake_96 hl (k := 5) rfl (nI_add k 1) (by decide) rfl (fun ls hl => ?_)
                    refine lv_goto (tgt := 21) hx hb d_M_mayTake_99 (by decide) ?_
                    have hop : op k = true := by cases hz : op k; rw [hz] at c_37; exact absurd rfl c_37; rfl
                    have h1s : (1 = 1 ∧ oP1 (at2 aK) tk op i (k + 1)) ∨ (1 = 0 ∧ ¬ oP1 (at2 aK) tk op i (k + 1)) := by
                      rw [oP1_s]
                      rcases h1 with ⟨z1, z2⟩ | ⟨z1, z2⟩
                      · exact Or.inl ⟨rfl, z2, fun _ => by show 0 < atN (aK k) i i; omega⟩
                      · exact absurd z1 c_44
                    have h2s : (0 = 1 ∧ oP2 (at2 aK) op i (k + 1)) ∨ (0 = 0 ∧ ¬ oP2 (at2 aK) op i (k + 1)) := by
                      rw [oP2_s]
                      refine Or.inr ⟨rfl, fun z => ?_⟩
                      rcases h2 with ⟨z1, z2⟩ | ⟨z1, z2⟩
                      · omega
                      · rcases z with z | z
                        · exact z2 z
                        · exact c_86 z.2
                    exact ih_lp (k + 1) 1 0 (by omega) (h1s) (h2s) (by omega) _ _ _ hP hD hS (lv_sub hl [3, 4, 5, 2, 1, 0] rfl)
                  · have c_86 : atN (aK k) i i = 2 := (nI_eq (a := atN (aK k) i i) (b := 2) (by omega) (by omega)).mp c_86
                    refine lv_iconst (v := nI 1) hx hb d_M_mayTake_89 (by decide +kernel) ?_
                    refine lv_goto (tgt := 94) hx hb d_M_mayTake_90 (by decide) ?_
                    refine lv_istore (lv' := [(4, .int (nI 1)), (3, .int (nI 1)), (0, .ref (h 0)), (1, .int (nI i)), (2, .int (nI f)), (5, .int (nI k))]) hx hb d_M_mayTake_94 hl (by decide) rfl (fun ls hl => ?_)
                    refine lv_iinc (v := nI (k + 1)) (lv' := [(5, .int (nI (k + 1))), (4, .int (nI 1)), (3, .int (nI 1)), (0, .ref (h 0)), (1, .int (nI i)), (2, .int (nI f))]) hx hb d_M_mayTake_96 hl (k := 5) rfl (nI_add k 1) (by decide) rfl (fun ls hl => ?_)
                    refine lv_goto (tgt := 21) hx hb d_M_mayTake_99 (by decide) ?_
                    have hop : op k = true := by cases hz : op k; rw [hz] at c_37; exact absurd rfl c_37; rfl
                    have h1s : (1 = 1 ∧ oP1 (at2 aK) tk op i (k + 1)) ∨ (1 = 0 ∧ ¬ oP1 (at2 aK) tk op i (k + 1)) := by
                      rw [oP1_s]
                      rcases h1 with ⟨z1, z2⟩ | ⟨z1, z2⟩
                      · exact Or.inl ⟨rfl, z2, fun _ => by show 0 < atN (aK k) i i; omega⟩
                      · exact absurd z1 c_44
                    have h2s : (1 = 1 ∧ oP2 (at2 aK) op i (k + 1)) ∨ (1 = 0 ∧ ¬ oP2 (at2 aK) op i (k + 1)) := by
                      rw [oP2_s]
                      refine Or.inl ⟨rfl, ?_⟩
                      rcases h2 with ⟨z1, z2⟩ | ⟨z1, z2⟩
                      · exact Or.inl z2
                      · first | exact absurd z1 c_70 | exact Or.inr ⟨hop, c_86⟩
                    exact ih_lp (k + 1) 1 1 (by omega) (h1s) (h2s) (by omega) _ _ _ hP hD hS (lv_sub hl [3, 4, 5, 2, 1, 0] rfl)
          · have c_37 : (op k).toNat = 0 := (nI_eq (a := (op k).toNat) (b := 0) (by omega) (by omega)).mp c_37
            refine lv_goto (tgt := 96) hx hb d_M_mayTake_40 (by decide) ?_
            refine lv_iinc (v := nI (k + 1)) (lv' := [(5, .int (nI (k + 1))), (0, .ref (h 0)), (1, .int (nI i)), (2, .int (nI f)), (3, .int (nI b1)), (4, .int (nI b2))]) hx hb d_M_mayTake_96 hl (k := 5) rfl (nI_add k 1) (by decide) rfl (fun ls hl => ?_)
            refine lv_goto (tgt := 21) hx hb d_M_mayTake_99 (by decide) ?_
            have hop : op k = false := by cases hz : op k; rfl; rw [hz] at c_37; exact absurd c_37 (by decide)
            have h1s : (b1 = 1 ∧ oP1 (at2 aK) tk op i (k + 1)) ∨ (b1 = 0 ∧ ¬ oP1 (at2 aK) tk op i (k + 1)) := by rw [oP1_s, hop]; rcases h1 with ⟨z1, z2⟩ | ⟨z1, z2⟩; exact Or.inl ⟨z1, z2, fun z => absurd z (by decide)⟩; exact Or.inr ⟨z1, fun z => z2 z.1⟩
            have h2s : (b2 = 1 ∧ oP2 (at2 aK) op i (k + 1)) ∨ (b2 = 0 ∧ ¬ oP2 (at2 aK) op i (k + 1)) := by rw [oP2_s, hop]; rcases h2 with ⟨z1, z2⟩ | ⟨z1, z2⟩; exact Or.inl ⟨z1, Or.inl z2⟩; exact Or.inr ⟨z1, fun z => by rcases z with z | z; exact z2 z; exact absurd z.1 (by decide)⟩
            exact ih_lp (k + 1) b1 b2 (by omega) (h1s) (h2s) (by omega) _ _ _ hP hD hS (lv_sub hl [1, 2, 3, 4, 5, 0] rfl)
    exact lp _ 0 1 0 (Nat.zero_le _) (h10) (Or.inr ⟨rfl, fun ⟨j, hj, _⟩ => absurd hj (Nat.not_lt_zero _)⟩) (Nat.lt_succ_self _) _ _ _ hP hD hS (lv_sub hl [3, 4, 5, 2, 1, 0] rfl)
end
section
set_option maxHeartbeats 4000000 in
set_option maxRecDepth 100000 in
theorem m_findOrder (l : Launch) (dC : Nat → ClassId) (dI : Nat → Nat → Nat) (cI cZ : ClassId) (h : Nat → Nat) (sz : Nat) (xt xg : Int32) (aK bF bL bB bA bY bR oT oO oR bS : Nat → Int32) (nF nC : Nat) (pl cf ct : Nat → Nat) (f : Nat) (hC : nC ≤ 20) (hF : nF ≤ 10) (hS0 : ∀ c, c < nC → cf c < nF ∧ ct c < nF) (hpl : 1 ≤ pl f ∧ pl f ≤ 4) (hf : f < nF) : Met l y_M_findOrder w_M_findOrder ({ frames := 2, cells := 0, slots := 0, locals := 47 }) (va_Pc [.ref (h 0), .int (nI f)] (fun U => U.heap.size = sz ∧ va_P (dC, dI) kls (wM h cI cZ xt (nI nF) (nI nC) xg (fun c => nI (pl c)) (fun c => nI (cf c)) (fun c => nI (ct c)) aK bF bL bB bA bY bR oT oO oR bS) U.heap ∧ va_K (dC, dI) kls (tyM cI cZ) U ∧ va_D (fun _ => True) (wM h cI cZ xt (nI nF) (nI nC) xg (fun c => nI (pl c)) (fun c => nI (cf c)) (fun c => nI (ct c)) aK bF bL bB bA bY bR oT oO oR bS))) (va_Qi (fun (r : Int32) (u : (Nat → Int32) × (Nat → Int32) × (Nat → Int32)) => ∃ tl op, oWay nC (at2 aK) (pl f) tl (op0 cf ct f) op ∧ tl.length ≤ 4 ∧ ((¬ oOpen nC op ∧ r = nI tl.length ∧ hO4 tl u.2.2) ∨ (oOpen nC op ∧ oNone nC (at2 aK) (pl f) op ∧ r = -1))) (fun (u : (Nat → Int32) × (Nat → Int32) × (Nat → Int32)) (t : State) => va_P (dC, dI) kls (wM h cI cZ xt (nI nF) (nI nC) xg (fun c => nI (pl c)) (fun c => nI (cf c)) (fun c => nI (ct c)) aK bF bL bB bA bY bR u.1 u.2.1 u.2.2 bS) t.heap ∧ va_K (dC, dI) kls (tyM cI cZ) t ∧ va_D (va_A (wM h cI cZ xt (nI nF) (nI nC) xg (fun c => nI (pl c)) (fun c => nI (cf c)) (fun c => nI (ct c)) aK bF bL bB bA bY bR oT oO oR bS) sz) (wM h cI cZ xt (nI nF) (nI nC) xg (fun c => nI (pl c)) (fun c => nI (cf c)) (fun c => nI (ct c)) aK bF bL bB bA bY bR u.1 u.2.1 u.2.2 bS)) (va_A (wM h cI cZ xt (nI nF) (nI nC) xg (fun c => nI (pl c)) (fun c => nI (cf c)) (fun c => nI (ct c)) aK bF bL bB bA bY bR oT oO oR bS) sz)) 0 0 (va_A (wM h cI cZ xt (nI nF) (nI nC) xg (fun c => nI (pl c)) (fun c => nI (cf c)) (fun c => nI (ct c)) aK bF bL bB bA bY bR oT oO oR bS) sz) := by
  refine Met.ofW (cc := c_M_findOrder) (maxL := 6) (ret := (some .int)) (by decide) rfl ?_
  intro p e s m args below meth c s₁ B hml hv
  obtain ⟨rfl, hsz, hP, hK, hD0⟩ := hv
  have hx := B.exec
  have hb := B.bytes
  have hr := B.returns
  have hts := atoms_spec (ws := w_M_findOrder) B.pre
  have hk : ∀ w ∈ wMw, w.before _ s = true := fun w h => hts w (List.mem_cons_of_mem _ h)
  have hown : s.vm.findClass R_M = some m.cls := findClass_of_methodNamed B.named
  have hlocks := B.notSynchronized
  subst hsz
  have hD := hD0.self (sz := s.heap.size)
  generalize hAe : va_A (wM h cI cZ xt (nI nF) (nI nC) xg (fun c => nI (pl c)) (fun c => nI (cf c)) (fun c => nI (ct c)) aK bF bL bB bA bY bR oT oO oR bS) s.heap.size = A at hD ⊢
  have hA : ∀ q : Nat, s.heap.size ≤ q → A q := fun q h => by rw [← hAe]; exact Or.inr h
  have hS : va_S A s.heap s.heap [] := va_S.rf
  have hl := lv_entry ([.ref (h 0), .int (nI f)]) (n := 6) (Nat.le_of_ble_eq_true rfl)
  rw [lg_entry_eq]
  generalize (lg_sl ([.ref (h 0), .int (nI f)]) ++ List.replicate (6 - (lg_sl ([.ref (h 0), .int (nI f)])).length) Slot.unset).toArray = ls at hl ⊢
  have hl : lv_has ls 6 [(0, .ref (h 0)), (1, .int (nI f))] := hl
  refine lv_iconst (v := nI 0) hx hb d_M_findOrder_0 (by decide +kernel) ?_
  refine lv_istore_n (lv' := [(2, .int (nI 0)), (0, .ref (h 0)), (1, .int (nI f))]) hx hb d_M_findOrder_1 rfl hl (by decide) rfl (fun ls hl => ?_)
  refine lv_iconst (v := nI 0) hx hb d_M_findOrder_2 (by decide +kernel) ?_
  refine lv_istore_n (lv' := [(3, .int (nI 0)), (2, .int (nI 0)), (0, .ref (h 0)), (1, .int (nI f))]) hx hb d_M_findOrder_3 rfl hl (by decide) rfl (fun ls hl => ?_)
  have lpA : ∀ (n_lpA : Nat) (k : Nat) (oO : Nat → Int32), (k ≤ nC) → (hB k (op0 cf ct f) oO) → nC - k < n_lpA → ∀ (H : Heap) (locs : List Loc) (ls : Array Slot), va_P (dC, dI) kls (wM h cI cZ xt (nI nF) (nI nC) xg (fun c => nI (pl c)) (fun c => nI (cf c)) (fun c => nI (ct c)) aK bF bL bB bA bY bR oT oO oR bS) H → va_D A (wM h cI cZ xt (nI nF) (nI nC) xg (fun c => nI (pl c)) (fun c => nI (cf c)) (fun c => nI (ct c)) aK bF bL bB bA bY bR oT oO oR bS) → va_S A s.heap H locs → lv_has ls 6 [(0, .ref (h 0)), (1, .int (nI f)), (2, .int (nI (cO k (op0 cf ct f)))), (3, .int (nI k))] → W p l e (headSpec w_M_findOrder ({ frames := 2, cells := 0, slots := 0, locals := 47 })).room s m ([.ref (h 0), .int (nI f)]).toArray below meth c H locs 0 0 (MQ below (va_Qi (fun (r : Int32) (u : (Nat → Int32) × (Nat → Int32) × (Nat → Int32)) => ∃ tl op, oWay nC (at2 aK) (pl f) tl (op0 cf ct f) op ∧ tl.length ≤ 4 ∧ ((¬ oOpen nC op ∧ r = nI tl.length ∧ hO4 tl u.2.2) ∨ (oOpen nC op ∧ oNone nC (at2 aK) (pl f) op ∧ r = -1))) (fun (u : (Nat → Int32) × (Nat → Int32) × (Nat → Int32)) (t : State) => va_P (dC, dI) kls (wM h cI cZ xt (nI nF) (nI nC) xg (fun c => nI (pl c)) (fun c => nI (cf c)) (fun c => nI (ct c)) aK bF bL bB bA bY bR u.1 u.2.1 u.2.2 bS) t.heap ∧ va_K (dC, dI) kls (tyM cI cZ) t ∧ va_D (A) (wM h cI cZ xt (nI nF) (nI nC) xg (fun c => nI (pl c)) (fun c => nI (cf c)) (fun c => nI (ct c)) aK bF bL bB bA bY bR u.1 u.2.1 u.2.2 bS)) A) ([.ref (h 0), .int (nI f)]).toArray s 0 0 A) (F0 m 4 ls []) := by
    intro n_lpA
    induction n_lpA with
    | zero => intro k oO hk0 hO hn; exact absurd hn (Nat.not_lt_zero _)
    | succ n_lpA ih_lpA =>
      intro k oO hk0 hO hn H locs ls hP hD hS hl
      refine lv_iload_n hx hb d_M_findOrder_4 rfl (lv_at hl 3 rfl) ?_
      refine lv_aload_n hx hb d_M_findOrder_5 rfl (lv_at hl 0 rfl) ?_
      refine va_get (D := (dC, dI)) (ci := 0) (v := .int (nI nC)) (C := R_M) (T := F_M) (N := 18) hx hb hk k_M_f hown hK hP 0 rfl rfl 2 (by decide) (hk _ k_M_10) (fun _ h9 => h9) rfl d_M_findOrder_6 ?_
      refine lv_icmp_ge (tgt := 66) hx hb d_M_findOrder_9 (by decide) (fun c_9 => ?_) (fun c_9 => ?_)
      · have c_9 : nC ≤ k := (nI_leI (a := nC) (b := k) (by omega) (by omega)).mp c_9
        have hkn : k = nC := by omega
        rw [hkn] at hO hl
        refine lv_iconst (v := nI 0) hx hb d_M_findOrder_66 (by decide +kernel) ?_
        refine lv_istore_n (lv' := [(3, .int (nI 0)), (0, .ref (h 0)), (1, .int (nI f)), (2, .int (nI (cO nC (op0 cf ct f))))]) hx hb d_M_findOrder_67 rfl hl (by decide) rfl (fun ls hl => ?_)
        have lpB : ∀ (n_lpB : Nat) (t9 : Nat) (oT : Nat → Int32), (t9 ≤ 4) → (∀ j, j < t9 → oT j = nI 0) → 4 - t9 < n_lpB → ∀ (H : Heap) (locs : List Loc) (ls : Array Slot), va_P (dC, dI) kls (wM h cI cZ xt (nI nF) (nI nC) xg (fun c => nI (pl c)) (fun c => nI (cf c)) (fun c => nI (ct c)) aK bF bL bB bA bY bR oT oO oR bS) H → va_D A (wM h cI cZ xt (nI nF) (nI nC) xg (fun c => nI (pl c)) (fun c => nI (cf c)) (fun c => nI (ct c)) aK bF bL bB bA bY bR oT oO oR bS) → va_S A s.heap H locs → lv_has ls 6 [(0, .ref (h 0)), (1, .int (nI f)), (2, .int (nI (cO nC (op0 cf ct f)))), (3, .int (nI t9))] → W p l e (headSpec w_M_findOrder ({ frames := 2, cells := 0, slots := 0, locals := 47 })).room s m ([.ref (h 0), .int (nI f)]).toArray below meth c H locs 0 0 (MQ below (va_Qi (fun (r : Int32) (u : (Nat → Int32) × (Nat → Int32) × (Nat → Int32)) => ∃ tl op, oWay nC (at2 aK) (pl f) tl (op0 cf ct f) op ∧ tl.length ≤ 4 ∧ ((¬ oOpen nC op ∧ r = nI tl.length ∧ hO4 tl u.2.2) ∨ (oOpen nC op ∧ oNone nC (at2 aK) (pl f) op ∧ r = -1))) (fun (u : (Nat → Int32) × (Nat → Int32) × (Nat → Int32)) (t : State) => va_P (dC, dI) kls (wM h cI cZ xt (nI nF) (nI nC) xg (fun c => nI (pl c)) (fun c => nI (cf c)) (fun c => nI (ct c)) aK bF bL bB bA bY bR u.1 u.2.1 u.2.2 bS) t.heap ∧ va_K (dC, dI) kls (tyM cI cZ) t ∧ va_D (A) (wM h cI cZ xt (nI nF) (nI nC) xg (fun c => nI (pl c)) (fun c => nI (cf c)) (fun c => nI (ct c)) aK bF bL bB bA bY bR u.1 u.2.1 u.2.2 bS)) A) ([.ref (h 0), .int (nI f)]).toArray s 0 0 A) (F0 m 68 ls []) := by
          intro n_lpB
          induction n_lpB with
          | zero => intro t9 oT ht0 hTz hn; exact absurd hn (Nat.not_lt_zero _)
          | succ n_lpB ih_lpB =>
            intro t9 oT ht0 hTz hn H locs ls hP hD hS hl
            refine lv_iload_n hx hb d_M_findOrder_68 rfl (lv_at hl 3 rfl) ?_
            refine lv_iconst (v := nI 4) hx hb d_M_findOrder_69 (by decide +kernel) ?_
            refine lv_icmp_ge (tgt := 86) hx hb d_M_findOrder_70 (by decide) (fun c_70 => ?_) (fun c_70 => ?_)
            · have c_70 : 4 ≤ t9 := (nI_leI (a := 4) (b := t9) (by omega) (by omega)).mp c_70
              refine lv_iconst (v := nI 0) hx hb d_M_findOrder_86 (by decide +kernel) ?_
              refine lv_istore_n (lv' := [(3, .int (nI 0)), (0, .ref (h 0)), (1, .int (nI f)), (2, .int (nI (cO nC (op0 cf ct f))))]) hx hb d_M_findOrder_87 rfl hl (by decide) rfl (fun ls hl => ?_)
              have ht4 : t9 = 4 := by omega
              have lpC : ∀ (n_lpC : Nat) (tl : List Nat) (op : Nat → Bool) (oT : Nat → Int32) (oO : Nat → Int32) (oR : Nat → Int32), (oWay nC (at2 aK) (pl f) tl (op0 cf ct f) op) → (tl.Nodup) → (∀ i ∈ tl, i < pl f) → (∀ j, j < 4 → oT j = nI (decide (j ∈ tl)).toNat) → (hB nC op oO) → (hO4 tl oR) → 5 - tl.length < n_lpC → ∀ (H : Heap) (locs : List Loc) (ls : Array Slot), va_P (dC, dI) kls (wM h cI cZ xt (nI nF) (nI nC) xg (fun c => nI (pl c)) (fun c => nI (cf c)) (fun c => nI (ct c)) aK bF bL bB bA bY bR oT oO oR bS) H → va_D A (wM h cI cZ xt (nI nF) (nI nC) xg (fun c => nI (pl c)) (fun c => nI (cf c)) (fun c => nI (ct c)) aK bF bL bB bA bY bR oT oO oR bS) → va_S A s.heap H locs → lv_has ls 6 [(0, .ref (h 0)), (1, .int (nI f)), (2, .int (nI (cO nC op))), (3, .int (nI tl.length))] → W p l e (headSpec w_M_findOrder ({ frames := 2, cells := 0, slots := 0, locals := 47 })).room s m ([.ref (h 0), .int (nI f)]).toArray below meth c H locs 0 0 (MQ below (va_Qi (fun (r : Int32) (u : (Nat → Int32) × (Nat → Int32) × (Nat → Int32)) => ∃ tl op, oWay nC (at2 aK) (pl f) tl (op0 cf ct f) op ∧ tl.length ≤ 4 ∧ ((¬ oOpen nC op ∧ r = nI tl.length ∧ hO4 tl u.2.2) ∨ (oOpen nC op ∧ oNone nC (at2 aK) (pl f) op ∧ r = -1))) (fun (u : (Nat → Int32) × (Nat → Int32) × (Nat → Int32)) (t : State) => va_P (dC, dI) kls (wM h cI cZ xt (nI nF) (nI nC) xg (fun c => nI (pl c)) (fun c => nI (cf c)) (fun c => nI (ct c)) aK bF bL bB bA bY bR u.1 u.2.1 u.2.2 bS) t.heap ∧ va_K (dC, dI) kls (tyM cI cZ) t ∧ va_D (A) (wM h cI cZ xt (nI nF) (nI nC) xg (fun c => nI (pl c)) (fun c => nI (cf c)) (fun c => nI (ct c)) aK bF bL bB bA bY bR u.1 u.2.1 u.2.2 bS)) A) ([.ref (h 0), .int (nI f)]).toArray s 0 0 A) (F0 m 88 ls []) := by
                intro n_lpC
                induction n_lpC with
                | zero => intro tl op oT oO oR hway hnd hlt hTk hO hR4 hn; exact absurd hn (Nat.not_lt_zero _)
                | succ n_lpC ih_lpC =>
                  intro tl op oT oO oR hway hnd hlt hTk hO hR4 hn H locs ls hP hD hS hl
                  have hcl := cO_le nC op
                  have hl4 := oLen (pl f) hnd hlt
                  refine lv_iload_n hx hb d_M_findOrder_88 rfl (lv_at hl 2 rfl) ?_
                  refine lv_if_le (tgt := 217) hx hb d_M_findOrder_89 (by decide) (fun c_89 => ?_) (fun c_89 => ?_)
                  · have c_89 : cO nC op ≤ 0 := (nI_leI (a := cO nC op) (b := 0) (by omega) (by omega)).mp c_89
                    refine lv_iload_n hx hb d_M_findOrder_217 rfl (lv_at hl 3 rfl) ?_
                    exact W.iret (v := nI tl.length) hx hb hr (fun t ht hW => ⟨⟨nI tl.length, (oT, oO, oR), rfl, ⟨tl, op, hway, Nat.le_trans (oLen _ hnd hlt) hpl.2, Or.inl ⟨fun z => by have := cO_pos.mpr z; omega, rfl, hR4⟩⟩, by rw [ht]; exact hP, va_K.moved hW.alike hK, hD⟩, hS.F ht⟩) hS.2.2 d_M_findOrder_218
                  · have c_89 : ¬ cO nC op ≤ 0 := fun z9 => c_89 ((nI_leI (a := cO nC op) (b := 0) (by omega) (by omega)).mpr z9)
                    refine lv_iconst (v := nI 0) hx hb d_M_findOrder_92 (by decide +kernel) ?_
                    refine lv_istore (lv' := [(4, .int (nI 0)), (0, .ref (h 0)), (1, .int (nI f)), (2, .int (nI (cO nC op))), (3, .int (nI tl.length))]) hx hb d_M_findOrder_93 hl (by decide) rfl (fun ls hl => ?_)
                    have lpD : ∀ (n_lpD : Nat) (i : Nat), (i ≤ pl f) → (∀ j, j < i → ¬ oCan nC (at2 aK) op j) → pl f - i < n_lpD → ∀ (H : Heap) (locs : List Loc) (ls : Array Slot), va_P (dC, dI) kls (wM h cI cZ xt (nI nF) (nI nC) xg (fun c => nI (pl c)) (fun c => nI (cf c)) (fun c => nI (ct c)) aK bF bL bB bA bY bR oT oO oR bS) H → va_D A (wM h cI cZ xt (nI nF) (nI nC) xg (fun c => nI (pl c)) (fun c => nI (cf c)) (fun c => nI (ct c)) aK bF bL bB bA bY bR oT oO oR bS) → va_S A s.heap H locs → lv_has ls 6 [(0, .ref (h 0)), (1, .int (nI f)), (2, .int (nI (cO nC op))), (3, .int (nI tl.length)), (4, .int (nI i))] → W p l e (headSpec w_M_findOrder ({ frames := 2, cells := 0, slots := 0, locals := 47 })).room s m ([.ref (h 0), .int (nI f)]).toArray below meth c H locs 0 0 (MQ below (va_Qi (fun (r : Int32) (u : (Nat → Int32) × (Nat → Int32) × (Nat → Int32)) => ∃ tl op, oWay nC (at2 aK) (pl f) tl (op0 cf ct f) op ∧ tl.length ≤ 4 ∧ ((¬ oOpen nC op ∧ r = nI tl.length ∧ hO4 tl u.2.2) ∨ (oOpen nC op ∧ oNone nC (at2 aK) (pl f) op ∧ r = -1))) (fun (u : (Nat → Int32) × (Nat → Int32) × (Nat → Int32)) (t : State) => va_P (dC, dI) kls (wM h cI cZ xt (nI nF) (nI nC) xg (fun c => nI (pl c)) (fun c => nI (cf c)) (fun c => nI (ct c)) aK bF bL bB bA bY bR u.1 u.2.1 u.2.2 bS) t.heap ∧ va_K (dC, dI) kls (tyM cI cZ) t ∧ va_D (A) (wM h cI cZ xt (nI nF) (nI nC) xg (fun c => nI (pl c)) (fun c => nI (cf c)) (fun c => nI (ct c)) aK bF bL bB bA bY bR u.1 u.2.1 u.2.2 bS)) A) ([.ref (h 0), .int (nI f)]).toArray s 0 0 A) (F0 m 95 ls []) := by
                      intro n_lpD
                      induction n_lpD with
                      | zero => intro i hi0 hnoc hn; exact absurd hn (Nat.not_lt_zero _)
                      | succ n_lpD ih_lpD =>
                        intro i hi0 hnoc hn H locs ls hP hD hS hl
                        refine lv_iload hx hb d_M_findOrder_95 (lv_at hl 4 rfl) ?_
                        refine lv_aload_n hx hb d_M_findOrder_97 rfl (lv_at hl 0 rfl) ?_
                        refine va_get (D := (dC, dI)) (ci := 0) (v := .ref (h 1)) (C := R_M) (T := F_M) (N := 18) hx hb hk k_M_f hown hK hP 0 rfl rfl 3 (by decide) (hk _ k_M_11) (fun _ h9 => h9) rfl d_M_findOrder_98 ?_
                        refine lv_iload_n hx hb d_M_findOrder_101 rfl (lv_at hl 1 rfl) ?_
                        refine va_iald hx hb hK hP 1 0 rfl rfl (pk_in f 10 (by omega)) d_M_findOrder_102 ?_
                        refine lv_topi (fun z1 ez1 => ?_)
                        obtain rfl : z1 = nI (pl f) := ez1.trans (rd (f := fun c => nI (pl c)) (k := f) (by omega))
                        refine lv_icmp_ge (tgt := 122) hx hb d_M_findOrder_103 (by decide) (fun c_103 => ?_) (fun c_103 => ?_)
                        · have c_103 : pl f ≤ i := (nI_leI (a := pl f) (b := i) (by omega) (by omega)).mp c_103
                          have hie : i = pl f := by omega
                          subst hie
                          refine lv_iload hx hb d_M_findOrder_122 (lv_at hl 4 rfl) ?_
                          refine lv_aload_n hx hb d_M_findOrder_124 rfl (lv_at hl 0 rfl) ?_
                          refine va_get (D := (dC, dI)) (ci := 0) (v := .ref (h 1)) (C := R_M) (T := F_M) (N := 18) hx hb hk k_M_f hown hK hP 0 rfl rfl 3 (by decide) (hk _ k_M_11) (fun _ h9 => h9) rfl d_M_findOrder_125 ?_
                          refine lv_iload_n hx hb d_M_findOrder_128 rfl (lv_at hl 1 rfl) ?_
                          refine va_iald hx hb hK hP 1 0 rfl rfl (pk_in f 10 (by omega)) d_M_findOrder_129 ?_
                          refine lv_topi (fun z2 ez2 => ?_)
                          obtain rfl : z2 = nI (pl f) := ez2.trans (rd (f := fun c => nI (pl c)) (k := f) (by omega))
                          refine lv_icmp_ne (tgt := 135) hx hb d_M_findOrder_130 (by decide) (fun c_130 => ?_) (fun c_130 => ?_)
                          · have c_130 : ¬ pl f = pl f := fun z9 => c_130 ((nI_eq (a := pl f) (b := pl f) (by omega) (by omega)).mpr z9)
                            exfalso; omega
                          · have c_130 : pl f = pl f := (nI_eq (a := pl f) (b := pl f) (by omega) (by omega)).mp c_130
                            refine lv_iconst (v := (-1)) hx hb d_M_findOrder_133 (by decide +kernel) ?_
                            have hno9 : oNone nC (at2 aK) (pl f) op := fun j hj => hnoc j (by omega)
                            exact W.iret (v := (-1)) hx hb hr (fun t ht hW => ⟨⟨(-1), (oT, oO, oR), rfl, ⟨tl, op, hway, Nat.le_trans (oLen _ hnd hlt) hpl.2, Or.inr ⟨cO_pos.mp (by omega), hno9, rfl⟩⟩, by rw [ht]; exact hP, va_K.moved hW.alike hK, hD⟩, hS.F ht⟩) hS.2.2 d_M_findOrder_134
                        · have c_103 : ¬ pl f ≤ i := fun z9 => c_103 ((nI_leI (a := pl f) (b := i) (by omega) (by omega)).mpr z9)
                          refine lv_aload_n hx hb d_M_findOrder_106 rfl (lv_at hl 0 rfl) ?_
                          refine lv_iload hx hb d_M_findOrder_107 (lv_at hl 4 rfl) ?_
                          refine lv_iload_n hx hb d_M_findOrder_109 rfl (lv_at hl 1 rfl) ?_
                          have hFc := va_free (wc := wM h cI cZ xt (nI nF) (nI nC) xg (fun c => nI (pl c)) (fun c => nI (cf c)) (fun c => nI (ct c)) aK bF bL bB bA bY bR oT oO oR bS) hD hS hA [0, 1, 2, 3, 4, 5, 6, 7, 8, 9, 10, 11, 12, 13, 14] rfl
                          refine va_calli (va_runV (As := [.int (nI i), .int (nI f)]) (rest := []) ⟨hx, hb, hml, hown, hk⟩ (m_mayTake l dC dI cI cZ h H.size xt xg aK bF bL bB bA bY bR oT oO oR bS nF nC pl cf ct i f op (decide (i ∈ tl)) (hC) (by omega) (hO) (hTk i (by omega))) (cwV 2 hk g_M_mayTake rfl rfl rfl (by decide +kernel) ⟨Nat.le_of_ble_eq_true rfl, Nat.le_of_ble_eq_true rfl⟩) ⟨fun a U g mk q => by obtain ⟨q0, q1, qP, qK, qD⟩ := q; exact ⟨q0, q1, qP, va_K.moved (u := U) (U := U.calling g mk a) (Vm.Alike.refl U.vm) qK, qD⟩, va_recv hK hP (ci := 0) (q0 := 0) rfl rfl, fun U hU hW => ⟨rfl, by rw [hU], by rw [hU]; exact hP, va_K.moved hW.alike hK, hD.weaken (fun _ _ _ _ => trivial)⟩⟩ rfl rfl hl.1 rfl (lv_room (Nat.le_of_ble_eq_true rfl)) d_M_findOrder_110 ⟨Nat.le_of_ble_eq_true rfl, Nat.le_of_ble_eq_true rfl⟩) hS (fun q _ h => hFc q h) hFc (fun r3 u9 t H1 locs ht hvm hw hB hz1 hk1 hS => ?_)
                          obtain ⟨hP1, hK1, hD1⟩ := hB
                          rw [ht] at hP1
                          try dsimp only at hw
                          obtain ⟨hP, hD⟩ := va_join (wr := []) (w1 := wM h cI cZ xt (nI nF) (nI nC) xg (fun c => nI (pl c)) (fun c => nI (cf c)) (fun c => nI (ct c)) aK bF bL bB bA bY bR oT oO oR bS) hP hD [0, 1, 2, 3, 4, 5, 6, 7, 8, 9, 10, 11, 12, 13, 14] [] rfl rfl (by decide) (by decide) hk1 hFc hP1 hD1
                          generalize H1 = H at hP hS ⊢
                          have hP : va_P (dC, dI) kls (wM h cI cZ xt (nI nF) (nI nC) xg (fun c => nI (pl c)) (fun c => nI (cf c)) (fun c => nI (ct c)) aK bF bL bB bA bY bR oT oO oR bS) H := hP
                          have hD : va_D A (wM h cI cZ xt (nI nF) (nI nC) xg (fun c => nI (pl c)) (fun c => nI (cf c)) (fun c => nI (ct c)) aK bF bL bB bA bY bR oT oO oR bS) := hD
                          rcases hw with ⟨hr9, htk9, hcan⟩ | ⟨hr9, hcan⟩
                          · subst hr9
                            refine lv_if_ne (tgt := 122) hx hb d_M_findOrder_113 (by decide) (fun _ => ?_) (fun c9 => absurd c9 (by decide +kernel))
                            refine lv_iload hx hb d_M_findOrder_122 (lv_at hl 4 rfl) ?_
                            refine lv_aload_n hx hb d_M_findOrder_124 rfl (lv_at hl 0 rfl) ?_
                            refine va_get (D := (dC, dI)) (ci := 0) (v := .ref (h 1)) (C := R_M) (T := F_M) (N := 18) hx hb hk k_M_f hown hK hP 0 rfl rfl 3 (by decide) (hk _ k_M_11) (fun _ h9 => h9) rfl d_M_findOrder_125 ?_
                            refine lv_iload_n hx hb d_M_findOrder_128 rfl (lv_at hl 1 rfl) ?_
                            refine va_iald hx hb hK hP 1 0 rfl rfl (pk_in f 10 (by omega)) d_M_findOrder_129 ?_
                            refine lv_topi (fun z4 ez4 => ?_)
                            obtain rfl : z4 = nI (pl f) := ez4.trans (rd (f := fun c => nI (pl c)) (k := f) (by omega))
                            refine lv_icmp_ne (tgt := 135) hx hb d_M_findOrder_130 (by decide) (fun c_130 => ?_) (fun c_130 => ?_)
                            · have c_130 : ¬ i = pl f := fun z9 => c_130 ((nI_eq (a := i) (b := pl f) (by omega) (by omega)).mpr z9)
                              have hl3 : tl.length < pl f := by rcases Nat.lt_or_ge tl.length (pl f) with z | z; exact z; exact absurd hcan (oFull nC (at2 aK) (pl f) hway hnd hlt z i (by omega))
                              refine lv_aload_n hx hb d_M_findOrder_135 rfl (lv_at hl 0 rfl) ?_
                              refine va_get (D := (dC, dI)) (ci := 0) (v := .ref (h 11)) (C := R_M) (T := F_M) (N := 18) hx hb hk k_M_f hown hK hP 0 rfl rfl 14 (by decide) (hk _ k_M_22) (fun _ h9 => h9) rfl d_M_findOrder_136 ?_
                              refine lv_iload hx hb d_M_findOrder_139 (lv_at hl 4 rfl) ?_
                              refine lv_iconst (v := nI 1) hx hb d_M_findOrder_141 (by decide +kernel) ?_
                              refine va_zast hx hb hK hP hD hS 11 1 rfl rfl (pk_in i 4 (by omega)) d_M_findOrder_142 (fun H locs hP hD hS => ?_)
                              rw [nI_clamp (n := i) (by omega)] at hP hD
                              have hP : va_P (dC, dI) kls (wM h cI cZ xt (nI nF) (nI nC) xg (fun c => nI (pl c)) (fun c => nI (cf c)) (fun c => nI (ct c)) aK bF bL bB bA bY bR (upd oT i (nI 1)) oO oR bS) H := hP
                              have hD : va_D A (wM h cI cZ xt (nI nF) (nI nC) xg (fun c => nI (pl c)) (fun c => nI (cf c)) (fun c => nI (ct c)) aK bF bL bB bA bY bR (upd oT i (nI 1)) oO oR bS) := hD
                              refine lv_aload_n hx hb d_M_findOrder_143 rfl (lv_at hl 0 rfl) ?_
                              refine va_get (D := (dC, dI)) (ci := 0) (v := .ref (h 13)) (C := R_M) (T := F_M) (N := 18) hx hb hk k_M_f hown hK hP 0 rfl rfl 16 (by decide) (hk _ k_M_24) (fun _ h9 => h9) rfl d_M_findOrder_144 ?_
                              refine lv_iload_n hx hb d_M_findOrder_147 rfl (lv_at hl 3 rfl) ?_
                              refine lv_iload hx hb d_M_findOrder_148 (lv_at hl 4 rfl) ?_
                              refine va_iast hx hb hK hP hD hS 13 0 rfl rfl (pk_in tl.length 4 (by omega)) d_M_findOrder_150 (fun H locs hP hD hS => ?_)
                              rw [nI_clamp (n := tl.length) (by omega)] at hP hD
                              have hP : va_P (dC, dI) kls (wM h cI cZ xt (nI nF) (nI nC) xg (fun c => nI (pl c)) (fun c => nI (cf c)) (fun c => nI (ct c)) aK bF bL bB bA bY bR (upd oT i (nI 1)) oO (upd oR tl.length (nI i)) bS) H := hP
                              have hD : va_D A (wM h cI cZ xt (nI nF) (nI nC) xg (fun c => nI (pl c)) (fun c => nI (cf c)) (fun c => nI (ct c)) aK bF bL bB bA bY bR (upd oT i (nI 1)) oO (upd oR tl.length (nI i)) bS) := hD
                              refine lv_iinc (v := nI (tl.length + 1)) (lv' := [(3, .int (nI (tl.length + 1))), (0, .ref (h 0)), (1, .int (nI f)), (2, .int (nI (cO nC op))), (4, .int (nI i))]) hx hb d_M_findOrder_151 hl (k := 3) rfl (nI_add tl.length 1) (by decide) rfl (fun ls hl => ?_)
                              refine lv_iconst (v := nI 0) hx hb d_M_findOrder_154 (by decide +kernel) ?_
                              refine lv_istore (lv' := [(5, .int (nI 0)), (3, .int (nI (tl.length + 1))), (0, .ref (h 0)), (1, .int (nI f)), (2, .int (nI (cO nC op))), (4, .int (nI i))]) hx hb d_M_findOrder_155 hl (by decide) rfl (fun ls hl => ?_)
                              have hm0 : opm (at2 aK) op i 0 = op := by funext j; unfold opm; rw [if_neg (Nat.not_lt_zero _)]
                              have hO2 : hB nC (opm (at2 aK) op i 0) oO := by rw [hm0]; exact hO
                              rw [← hm0] at hl
                              have lpE : ∀ (n_lpE : Nat) (c9 : Nat) (oO : Nat → Int32), (c9 ≤ nC) → (hB nC (opm (at2 aK) op i c9) oO) → nC - c9 < n_lpE → ∀ (H : Heap) (locs : List Loc) (ls : Array Slot), va_P (dC, dI) kls (wM h cI cZ xt (nI nF) (nI nC) xg (fun c => nI (pl c)) (fun c => nI (cf c)) (fun c => nI (ct c)) aK bF bL bB bA bY bR (upd oT i (nI 1)) oO (upd oR tl.length (nI i)) bS) H → va_D A (wM h cI cZ xt (nI nF) (nI nC) xg (fun c => nI (pl c)) (fun c => nI (cf c)) (fun c => nI (ct c)) aK bF bL bB bA bY bR (upd oT i (nI 1)) oO (upd oR tl.length (nI i)) bS) → va_S A s.heap H locs → lv_has ls 6 [(0, .ref (h 0)), (1, .int (nI f)), (2, .int (nI (cO nC (opm (at2 aK) op i c9)))), (3, .int (nI (tl.length + 1))), (4, .int (nI i)), (5, .int (nI c9))] → W p l e (headSpec w_M_findOrder ({ frames := 2, cells := 0, slots := 0, locals := 47 })).room s m ([.ref (h 0), .int (nI f)]).toArray below meth c H locs 0 0 (MQ below (va_Qi (fun (r : Int32) (u : (Nat → Int32) × (Nat → Int32) × (Nat → Int32)) => ∃ tl op, oWay nC (at2 aK) (pl f) tl (op0 cf ct f) op ∧ tl.length ≤ 4 ∧ ((¬ oOpen nC op ∧ r = nI tl.length ∧ hO4 tl u.2.2) ∨ (oOpen nC op ∧ oNone nC (at2 aK) (pl f) op ∧ r = -1))) (fun (u : (Nat → Int32) × (Nat → Int32) × (Nat → Int32)) (t : State) => va_P (dC, dI) kls (wM h cI cZ xt (nI nF) (nI nC) xg (fun c => nI (pl c)) (fun c => nI (cf c)) (fun c => nI (ct c)) aK bF bL bB bA bY bR u.1 u.2.1 u.2.2 bS) t.heap ∧ va_K (dC, dI) kls (tyM cI cZ) t ∧ va_D (A) (wM h cI cZ xt (nI nF) (nI nC) xg (fun c => nI (pl c)) (fun c => nI (cf c)) (fun c => nI (ct c)) aK bF bL bB bA bY bR u.1 u.2.1 u.2.2 bS)) A) ([.ref (h 0), .int (nI f)]).toArray s 0 0 A) (F0 m 157 ls []) := by
                                intro n_lpE
                                induction n_lpE with
                                | zero => intro c9 oO hc0 hO2 hn; exact absurd hn (Nat.not_lt_zero _)
                                | succ n_lpE ih_lpE =>
                                  intro c9 oO hc0 hO2 hn H locs ls hP hD hS hl
                                  have hcl2 := cO_le nC (opm (at2 aK) op i c9)
                                  refine lv_iload hx hb d_M_findOrder_157 (lv_at hl 5 rfl) ?_
                                  refine lv_aload_n hx hb d_M_findOrder_159 rfl (lv_at hl 0 rfl) ?_
                                  refine va_get (D := (dC, dI)) (ci := 0) (v := .int (nI nC)) (C := R_M) (T := F_M) (N := 18) hx hb hk k_M_f hown hK hP 0 rfl rfl 2 (by decide) (hk _ k_M_10) (fun _ h9 => h9) rfl d_M_findOrder_160 ?_
                                  refine lv_icmp_ge (tgt := 214) hx hb d_M_findOrder_163 (by decide) (fun c_163 => ?_) (fun c_163 => ?_)
                                  · have c_163 : nC ≤ c9 := (nI_leI (a := nC) (b := c9) (by omega) (by omega)).mp c_163
                                    refine lv_goto (tgt := 88) hx hb d_M_findOrder_214 (by decide) ?_
                                    have hkn : c9 = nC := by omega
                                    subst hkn
                                    have hO2 := opm_all hO2
                                    rw [cO_all] at hl
                                    have hnew := oNew c9 (at2 aK) (pl f) hway hcan
                                    have hln : (tl ++ [i]).length = tl.length + 1 := by rw [List.length_append]; rfl
                                    rw [← hln] at hl
                                    have hTk2 : ∀ j, j < 4 → upd oT i (nI 1) j = nI (decide (j ∈ tl ++ [i])).toNat := by
                                      intro j hj
                                      by_cases q9 : j = i
                                      · subst q9; rw [pk_us, decide_eq_true (List.mem_append_right _ (List.mem_singleton.mpr rfl))]; rfl
                                      · rw [pk_un q9, hTk j hj]
                                        congr 2
                                        rw [decide_eq_decide, List.mem_append, List.mem_singleton]
                                        exact ⟨Or.inl, fun z => by rcases z with z | z; exact z; exact absurd z q9⟩
                                    have hlt2 : ∀ j ∈ tl ++ [i], j < pl f := by
                                      intro j hj
                                      rcases List.mem_append.mp hj with z | z
                                      · exact hlt j z
                                      · rw [List.mem_singleton.mp z]; omega
                                    have hl4 := oLen (pl f) hnd hlt
                                    exact ih_lpC (tl ++ [i]) (oCut (at2 aK) op i) (upd oT i (nI 1)) oO (upd oR tl.length (nI i)) (oWay_snoc c9 (at2 aK) (pl f) hway (cO_pos.mp (by omega)) ⟨by omega, hcan, hnoc⟩) (nd_snoc hnd hnew) (hlt2) (hTk2) (hO2) (hO4_snoc hR4 i) (by omega) _ _ _ hP hD hS (lv_sub hl [0, 1, 2, 3] rfl)
                                  · have c_163 : ¬ nC ≤ c9 := fun z9 => c_163 ((nI_leI (a := nC) (b := c9) (by omega) (by omega)).mpr z9)
                                    refine lv_aload_n hx hb d_M_findOrder_166 rfl (lv_at hl 0 rfl) ?_
                                    refine va_get (D := (dC, dI)) (ci := 0) (v := .ref (h 12)) (C := R_M) (T := F_M) (N := 18) hx hb hk k_M_f hown hK hP 0 rfl rfl 15 (by decide) (hk _ k_M_23) (fun _ h9 => h9) rfl d_M_findOrder_167 ?_
                                    refine lv_iload hx hb d_M_findOrder_170 (lv_at hl 5 rfl) ?_
                                    refine va_zald hx hb hK hP 12 1 rfl rfl (pk_in c9 20 (by omega)) d_M_findOrder_172 ?_
                                    refine lv_topi (fun z5 ez5 => ?_)
                                    obtain rfl : z5 = nI ((opm (at2 aK) op i c9 c9).toNat) := ez5.trans ((rd (f := oO) (k := c9) (by omega)).trans (hO2 c9 (by omega)))
                                    have hob := bN_lt (opm (at2 aK) op i c9 c9)
                                    refine lv_if_eq (tgt := 208) hx hb d_M_findOrder_173 (by decide) (fun c_173 => ?_) (fun c_173 => ?_)
                                    · have c_173 : (opm (at2 aK) op i c9 c9).toNat = 0 := (nI_eq (a := (opm (at2 aK) op i c9 c9).toNat) (b := 0) (by omega) (by omega)).mp c_173
                                      refine lv_iinc (v := nI (c9 + 1)) (lv' := [(5, .int (nI (c9 + 1))), (0, .ref (h 0)), (1, .int (nI f)), (2, .int (nI (cO nC (opm (at2 aK) op i c9)))), (3, .int (nI (tl.length + 1))), (4, .int (nI i))]) hx hb d_M_findOrder_208 hl (k := 5) rfl (nI_add c9 1) (by decide) rfl (fun ls hl => ?_)
                                      refine lv_goto (tgt := 157) hx hb d_M_findOrder_211 (by decide) ?_
                                      have hmc : opm (at2 aK) op i c9 c9 = op c9 := by unfold opm; rw [if_neg (by omega)]
                                      rw [hmc] at c_173
                                      have hcut : oCut (at2 aK) op i c9 = op c9 := by
                                        unfold oCut
                                        cases hz : op c9
                                        · rfl
                                        · first
                                            | (rw [hz] at c_173; exact absurd c_173 (by decide))
                                            | (rw [show decide ((at2 aK) c9 i = 2) = false from decide_eq_false c_191]; rfl)
                                      rw [← opm_eq hcut] at hO2 hl
                                      exact ih_lpE (c9 + 1) oO (by omega) (hO2) (by omega) _ _ _ hP hD hS (lv_sub hl [1, 2, 3, 4, 5, 0] rfl)
                                    · have c_173 : ¬ (opm (at2 aK) op i c9 c9).toNat = 0 := fun z9 => c_173 ((nI_eq (a := (opm (at2 aK) op i c9 c9).toNat) (b := 0) (by omega) (by omega)).mpr z9)
                                      refine lv_aload_n hx hb d_M_findOrder_176 rfl (lv_at hl 0 rfl) ?_
                                      refine va_get (D := (dC, dI)) (ci := 0) (v := .ref (h 4)) (C := R_M) (T := F_M) (N := 18) hx hb hk k_M_f hown hK hP 0 rfl rfl 6 (by decide) (hk _ k_M_14) (fun _ h9 => h9) rfl d_M_findOrder_177 ?_
                                      refine lv_iload hx hb d_M_findOrder_180 (lv_at hl 5 rfl) ?_
                                      refine va_iald hx hb hK hP 4 0 rfl rfl (pk_in c9 20 (by omega)) d_M_findOrder_182 ?_
                                      refine lv_topi (fun z6 ez6 => ?_)
                                      obtain rfl : z6 = aK c9 := ez6.trans (rd (f := aK) (k := c9) (by omega))
                                      refine lv_iload hx hb d_M_findOrder_183 (lv_at hl 4 rfl) ?_
                                      refine lv_iload hx hb d_M_findOrder_185 (lv_at hl 4 rfl) ?_
                                      refine vp_callSi (W.runS (As := [.int (aK c9), .int (nI i), .int (nI i)]) (rest := []) ⟨hx, hb, hml, hown, hk⟩ (m_at l (aK c9) i i (by omega) (by omega)) (cwS 3 hk g_M_at rfl rfl rfl (by decide +kernel) ⟨Nat.le_of_ble_eq_true rfl, Nat.le_of_ble_eq_true rfl⟩) ⟨fun a U g mk q => q, fun U hU hW => ⟨rfl, trivial⟩⟩ rfl rfl hl.1 rfl (lv_room (Nat.le_of_ble_eq_true rfl)) d_M_findOrder_187 ⟨Nat.le_of_ble_eq_true rfl, Nat.le_of_ble_eq_true rfl⟩) (fun r7 hw => ?_)
                                      subst hw
                                      have hat := atN_lt (aK c9) i i
                                      refine lv_iconst (v := nI 2) hx hb d_M_findOrder_190 (by decide +kernel) ?_
                                      refine lv_icmp_eq (tgt := 197) hx hb d_M_findOrder_191 (by decide) (fun c_191 => ?_) (fun c_191 => ?_)
                                      · have c_191 : atN (aK c9) i i = 2 := (nI_eq (a := atN (aK c9) i i) (b := 2) (by omega) (by omega)).mp c_191
                                        refine lv_aload_n hx hb d_M_findOrder_197 rfl (lv_at hl 0 rfl) ?_
                                        refine va_get (D := (dC, dI)) (ci := 0) (v := .ref (h 12)) (C := R_M) (T := F_M) (N := 18) hx hb hk k_M_f hown hK hP 0 rfl rfl 15 (by decide) (hk _ k_M_23) (fun _ h9 => h9) rfl d_M_findOrder_198 ?_
                                        refine lv_iload hx hb d_M_findOrder_201 (lv_at hl 5 rfl) ?_
                                        refine lv_iconst (v := nI 0) hx hb d_M_findOrder_203 (by decide +kernel) ?_
                                        refine va_zast hx hb hK hP hD hS 12 1 rfl rfl (pk_in c9 20 (by omega)) d_M_findOrder_204 (fun H locs hP hD hS => ?_)
                                        rw [nI_clamp (n := c9) (by omega)] at hP hD
                                        have hP : va_P (dC, dI) kls (wM h cI cZ xt (nI nF) (nI nC) xg (fun c => nI (pl c)) (fun c => nI (cf c)) (fun c => nI (ct c)) aK bF bL bB bA bY bR (upd oT i (nI 1)) (upd oO c9 (nI 0)) (upd oR tl.length (nI i)) bS) H := hP
                                        have hD : va_D A (wM h cI cZ xt (nI nF) (nI nC) xg (fun c => nI (pl c)) (fun c => nI (cf c)) (fun c => nI (ct c)) aK bF bL bB bA bY bR (upd oT i (nI 1)) (upd oO c9 (nI 0)) (upd oR tl.length (nI i)) bS) := hD
                                        have hmc0 : opm (at2 aK) op i c9 c9 = op c9 := by unfold opm; rw [if_neg (by omega)]
                                        have hz0 : opm (at2 aK) op i c9 c9 = true := by cases hz : opm (at2 aK) op i c9 c9; rw [hz] at c_173; exact absurd rfl c_173; rfl
                                        have hpos := (cO_pos (nC := nC)).mpr ⟨c9, by omega, hz0⟩
                                        refine lv_iinc (v := nI (cO nC (opm (at2 aK) op i c9) - 1)) (lv' := [(2, .int (nI (cO nC (opm (at2 aK) op i c9) - 1))), (0, .ref (h 0)), (1, .int (nI f)), (3, .int (nI (tl.length + 1))), (4, .int (nI i)), (5, .int (nI c9))]) hx hb d_M_findOrder_205 hl (k := 2) rfl (sb_m1 (by omega)) (by decide) rfl (fun ls hl => ?_)
                                        refine lv_iinc (v := nI (c9 + 1)) (lv' := [(5, .int (nI (c9 + 1))), (2, .int (nI (cO nC (opm (at2 aK) op i c9) - 1))), (0, .ref (h 0)), (1, .int (nI f)), (3, .int (nI (tl.length + 1))), (4, .int (nI i))]) hx hb d_M_findOrder_208 hl (k := 5) rfl (nI_add c9 1) (by decide) rfl (fun ls hl => ?_)
                                        refine lv_goto (tgt := 157) hx hb d_M_findOrder_211 (by decide) ?_
                                        have hmc : opm (at2 aK) op i c9 c9 = op c9 := by unfold opm; rw [if_neg (by omega)]
                                        rw [hmc] at c_173
                                        have hz : op c9 = true := by cases hz : op c9; rw [hz] at c_173; exact absurd rfl c_173; rfl
                                        have hoff : opm (at2 aK) op i (c9 + 1) c9 = false := by unfold opm oCut; rw [if_pos (by omega), hz, show decide ((at2 aK) c9 i = 2) = true from decide_eq_true c_191]; rfl
                                        have hoth : ∀ j, j < nC → j ≠ c9 → opm (at2 aK) op i (c9 + 1) j = opm (at2 aK) op i c9 j := by
                                          intro j _ hne
                                          unfold opm
                                          rcases Nat.lt_or_ge j c9 with q9 | q9
                                          · rw [if_pos (by omega), if_pos q9]
                                          · rw [if_neg (by omega), if_neg (by omega)]
                                        have hcnt := cO_off (n := nC) (k := c9) (p := opm (at2 aK) op i c9) (q := opm (at2 aK) op i (c9 + 1)) (by omega) (hmc.trans hz) hoff hoth
                                        rw [show cO nC (opm (at2 aK) op i c9) - 1 = cO nC (opm (at2 aK) op i (c9 + 1)) by omega] at hl
                                        exact ih_lpE (c9 + 1) (upd oO c9 (nI 0)) (by omega) (hB_up hoth hO2 (by rw [hoff]; rfl)) (by omega) _ _ _ hP hD hS (lv_sub hl [2, 3, 1, 4, 5, 0] rfl)
                                      · have c_191 : ¬ atN (aK c9) i i = 2 := fun z9 => c_191 ((nI_eq (a := atN (aK c9) i i) (b := 2) (by omega) (by omega)).mpr z9)
                                        refine lv_goto (tgt := 208) hx hb d_M_findOrder_194 (by decide) ?_
                                        refine lv_iinc (v := nI (c9 + 1)) (lv' := [(5, .int (nI (c9 + 1))), (0, .ref (h 0)), (1, .int (nI f)), (2, .int (nI (cO nC (opm (at2 aK) op i c9)))), (3, .int (nI (tl.length + 1))), (4, .int (nI i))]) hx hb d_M_findOrder_208 hl (k := 5) rfl (nI_add c9 1) (by decide) rfl (fun ls hl => ?_)
                                        refine lv_goto (tgt := 157) hx hb d_M_findOrder_211 (by decide) ?_
                                        have hmc : opm (at2 aK) op i c9 c9 = op c9 := by unfold opm; rw [if_neg (by omega)]
                                        rw [hmc] at c_173
                                        have hcut : oCut (at2 aK) op i c9 = op c9 := by
                                          unfold oCut
                                          cases hz : op c9
                                          · rfl
                                          · first
                                              | (rw [hz] at c_173; exact absurd c_173 (by decide))
                                              | (rw [show decide ((at2 aK) c9 i = 2) = false from decide_eq_false c_191]; rfl)
                                        rw [← opm_eq hcut] at hO2 hl
                                        exact ih_lpE (c9 + 1) oO (by omega) (hO2) (by omega) _ _ _ hP hD hS (lv_sub hl [1, 2, 3, 4, 5, 0] rfl)
                              exact lpE _ 0 oO (Nat.zero_le _) (hO2) (Nat.lt_succ_self _) _ _ _ hP hD hS (lv_sub hl [2, 3, 4, 1, 5, 0] rfl)
                            · have c_130 : i = pl f := (nI_eq (a := i) (b := pl f) (by omega) (by omega)).mp c_130
                              exfalso; omega
                          · subst hr9
                            refine lv_if_ne (tgt := 122) hx hb d_M_findOrder_113 (by decide) (fun c9 => absurd c9 (by decide +kernel)) (fun _ => ?_)
                            refine lv_iinc (v := nI (i + 1)) (lv' := [(4, .int (nI (i + 1))), (0, .ref (h 0)), (1, .int (nI f)), (2, .int (nI (cO nC op))), (3, .int (nI tl.length))]) hx hb d_M_findOrder_116 hl (k := 4) rfl (nI_add i 1) (by decide) rfl (fun ls hl => ?_)
                            refine lv_goto (tgt := 95) hx hb d_M_findOrder_119 (by decide) ?_
                            have hnoc2 : ∀ j, j < i + 1 → ¬ oCan nC (at2 aK) op j := by
                              intro j hj hc9
                              rcases Nat.lt_or_ge j i with z | z
                              · exact hnoc j z hc9
                              · obtain rfl : j = i := by omega
                                exact hcan ⟨decide_eq_false (oNew nC (at2 aK) (pl f) hway hc9), hc9⟩
                            exact ih_lpD (i + 1) (by omega) (hnoc2) (by omega) _ _ _ hP hD hS (lv_sub hl [1, 2, 3, 4, 0] rfl)
                    exact lpD _ 0 (Nat.zero_le _) (fun j hj => absurd hj (Nat.not_lt_zero _)) (Nat.lt_succ_self _) _ _ _ hP hD hS (lv_sub hl [1, 2, 3, 4, 0] rfl)
              exact lpC _ ([]) (op0 cf ct f) oT oO oR (rfl) (List.nodup_nil) (fun i hi => absurd hi List.not_mem_nil) (fun j hj => by rw [hTz j (by omega), decide_eq_false List.not_mem_nil]; rfl) (hO) (fun j y hj => by simp at hj) (Nat.lt_succ_self _) _ _ _ hP hD hS (lv_sub hl [1, 2, 3, 0] rfl)
            · have c_70 : ¬ 4 ≤ t9 := fun z9 => c_70 ((nI_leI (a := 4) (b := t9) (by omega) (by omega)).mpr z9)
              refine lv_aload_n hx hb d_M_findOrder_73 rfl (lv_at hl 0 rfl) ?_
              refine va_get (D := (dC, dI)) (ci := 0) (v := .ref (h 11)) (C := R_M) (T := F_M) (N := 18) hx hb hk k_M_f hown hK hP 0 rfl rfl 14 (by decide) (hk _ k_M_22) (fun _ h9 => h9) rfl d_M_findOrder_74 ?_
              refine lv_iload_n hx hb d_M_findOrder_77 rfl (lv_at hl 3 rfl) ?_
              refine lv_iconst (v := nI 0) hx hb d_M_findOrder_78 (by decide +kernel) ?_
              refine va_zast hx hb hK hP hD hS 11 1 rfl rfl (pk_in t9 4 (by omega)) d_M_findOrder_79 (fun H locs hP hD hS => ?_)
              rw [nI_clamp (n := t9) (by omega)] at hP hD
              have hP : va_P (dC, dI) kls (wM h cI cZ xt (nI nF) (nI nC) xg (fun c => nI (pl c)) (fun c => nI (cf c)) (fun c => nI (ct c)) aK bF bL bB bA bY bR (upd oT t9 (nI 0)) oO oR bS) H := hP
              have hD : va_D A (wM h cI cZ xt (nI nF) (nI nC) xg (fun c => nI (pl c)) (fun c => nI (cf c)) (fun c => nI (ct c)) aK bF bL bB bA bY bR (upd oT t9 (nI 0)) oO oR bS) := hD
              refine lv_iinc (v := nI (t9 + 1)) (lv' := [(3, .int (nI (t9 + 1))), (0, .ref (h 0)), (1, .int (nI f)), (2, .int (nI (cO nC (op0 cf ct f))))]) hx hb d_M_findOrder_80 hl (k := 3) rfl (nI_add t9 1) (by decide) rfl (fun ls hl => ?_)
              refine lv_goto (tgt := 68) hx hb d_M_findOrder_83 (by decide) ?_
              have hTz2 : ∀ j, j < t9 + 1 → upd oT t9 (nI 0) j = nI 0 := fun j hj => by by_cases q9 : j = t9; rw [q9, pk_us]; rw [pk_un q9]; exact hTz j (by omega)
              exact ih_lpB (t9 + 1) (upd oT t9 (nI 0)) (by omega) (hTz2) (by omega) _ _ _ hP hD hS (lv_sub hl [1, 2, 3, 0] rfl)
        exact lpB _ 0 oT (Nat.zero_le _) (fun j hj => absurd hj (Nat.not_lt_zero _)) (Nat.lt_succ_self _) _ _ _ hP hD hS (lv_sub hl [1, 2, 3, 0] rfl)
      · have c_9 : ¬ nC ≤ k := fun z9 => c_9 ((nI_leI (a := nC) (b := k) (by omega) (by omega)).mpr z9)
        have hck := hS0 k (by omega)
        have hcl := cO_le k (op0 cf ct f)
        refine lv_aload_n hx hb d_M_findOrder_12 rfl (lv_at hl 0 rfl) ?_
        refine va_get (D := (dC, dI)) (ci := 0) (v := .ref (h 12)) (C := R_M) (T := F_M) (N := 18) hx hb hk k_M_f hown hK hP 0 rfl rfl 15 (by decide) (hk _ k_M_23) (fun _ h9 => h9) rfl d_M_findOrder_13 ?_
        refine lv_iload_n hx hb d_M_findOrder_16 rfl (lv_at hl 3 rfl) ?_
        refine lv_aload_n hx hb d_M_findOrder_17 rfl (lv_at hl 0 rfl) ?_
        refine va_get (D := (dC, dI)) (ci := 0) (v := .ref (h 2)) (C := R_M) (T := F_M) (N := 18) hx hb hk k_M_f hown hK hP 0 rfl rfl 4 (by decide) (hk _ k_M_12) (fun _ h9 => h9) rfl d_M_findOrder_18 ?_
        refine lv_iload_n hx hb d_M_findOrder_21 rfl (lv_at hl 3 rfl) ?_
        refine va_iald hx hb hK hP 2 0 rfl rfl (pk_in k 20 (by omega)) d_M_findOrder_22 ?_
        refine lv_topi (fun z8 ez8 => ?_)
        obtain rfl : z8 = nI (cf k) := ez8.trans (rd (f := fun c => nI (cf c)) (k := k) (by omega))
        refine lv_iload_n hx hb d_M_findOrder_23 rfl (lv_at hl 1 rfl) ?_
        refine lv_icmp_ne (tgt := 41) hx hb d_M_findOrder_24 (by decide) (fun c_24 => ?_) (fun c_24 => ?_)
        · have c_24 : ¬ cf k = f := fun z9 => c_24 ((nI_eq (a := cf k) (b := f) (by omega) (by omega)).mpr z9)
          refine lv_iconst (v := nI 0) hx hb d_M_findOrder_41 (by decide +kernel) ?_
          refine va_zast hx hb hK hP hD hS 12 1 rfl rfl (pk_in k 20 (by omega)) d_M_findOrder_42 (fun H locs hP hD hS => ?_)
          rw [nI_clamp (n := k) (by omega)] at hP hD
          have hP : va_P (dC, dI) kls (wM h cI cZ xt (nI nF) (nI nC) xg (fun c => nI (pl c)) (fun c => nI (cf c)) (fun c => nI (ct c)) aK bF bL bB bA bY bR oT (upd oO k (nI 0)) oR bS) H := hP
          have hD : va_D A (wM h cI cZ xt (nI nF) (nI nC) xg (fun c => nI (pl c)) (fun c => nI (cf c)) (fun c => nI (ct c)) aK bF bL bB bA bY bR oT (upd oO k (nI 0)) oR bS) := hD
          have hk1v : (nI 0 : Int32) = nI (op0 cf ct f k).toNat := by unfold op0; first | rw [decide_eq_true ⟨c_24, c_34⟩]; rfl | rw [decide_eq_false (fun z => c_24 z.1)]; rfl | rw [decide_eq_false (fun z => c_34 z.2)]; rfl
          have hO2 : hB (k + 1) (op0 cf ct f) (upd oO k (nI 0)) := by
            intro j hj
            by_cases q9 : j = k
            · subst q9; rw [pk_us]; exact hk1v
            · rw [pk_un q9]; exact hO j (by omega)
          have hkb := bN_lt (op0 cf ct f k)
          refine lv_iload_n hx hb d_M_findOrder_43 rfl (lv_at hl 2 rfl) ?_
          refine lv_aload_n hx hb d_M_findOrder_44 rfl (lv_at hl 0 rfl) ?_
          refine va_get (D := (dC, dI)) (ci := 0) (v := .ref (h 12)) (C := R_M) (T := F_M) (N := 18) hx hb hk k_M_f hown hK hP 0 rfl rfl 15 (by decide) (hk _ k_M_23) (fun _ h9 => h9) rfl d_M_findOrder_45 ?_
          refine lv_iload_n hx hb d_M_findOrder_48 rfl (lv_at hl 3 rfl) ?_
          refine va_zald hx hb hK hP 12 1 rfl rfl (pk_in k 20 (by omega)) d_M_findOrder_49 ?_
          refine lv_topi (fun z9 ez9 => ?_)
          obtain rfl : z9 = nI ((op0 cf ct f k).toNat) := ez9.trans ((rd (f := upd oO k (nI 0)) (k := k) (by omega)).trans (hO2 k (by omega)))
          refine lv_if_eq (tgt := 57) hx hb d_M_findOrder_50 (by decide) (fun c_50 => ?_) (fun c_50 => ?_)
          · have c_50 : (op0 cf ct f k).toNat = 0 := (nI_eq (a := (op0 cf ct f k).toNat) (b := 0) (by omega) (by omega)).mp c_50
            refine lv_iconst (v := nI 0) hx hb d_M_findOrder_57 (by decide +kernel) ?_
            refine lv_iadd hx hb d_M_findOrder_58 ?_
            refine lv_topi (fun z10 ez10 => ?_)
            obtain rfl : z10 = nI (cO k (op0 cf ct f)) := ez10.trans (nI_add _ _)
            refine lv_topi (fun z11 ez11 => ?_)
            obtain rfl : z11 = nI (cO (k + 1) (op0 cf ct f)) := ez11.trans (congrArg nI (by rw [cO_succ]; omega))
            refine lv_istore_n (lv' := [(2, .int (nI (cO (k + 1) (op0 cf ct f)))), (0, .ref (h 0)), (1, .int (nI f)), (3, .int (nI k))]) hx hb d_M_findOrder_59 rfl hl (by decide) rfl (fun ls hl => ?_)
            refine lv_iinc (v := nI (k + 1)) (lv' := [(3, .int (nI (k + 1))), (2, .int (nI (cO (k + 1) (op0 cf ct f)))), (0, .ref (h 0)), (1, .int (nI f))]) hx hb d_M_findOrder_60 hl (k := 3) rfl (nI_add k 1) (by decide) rfl (fun ls hl => ?_)
            refine lv_goto (tgt := 4) hx hb d_M_findOrder_63 (by decide) ?_
            exact ih_lpA (k + 1) (upd oO k (nI 0)) (by omega) (hO2) (by omega) _ _ _ hP hD hS (lv_sub hl [2, 3, 1, 0] rfl)
          · have c_50 : ¬ (op0 cf ct f k).toNat = 0 := fun z9 => c_50 ((nI_eq (a := (op0 cf ct f k).toNat) (b := 0) (by omega) (by omega)).mpr z9)
            refine lv_iconst (v := nI 1) hx hb d_M_findOrder_53 (by decide +kernel) ?_
            refine lv_goto (tgt := 58) hx hb d_M_findOrder_54 (by decide) ?_
            refine lv_iadd hx hb d_M_findOrder_58 ?_
            refine lv_topi (fun z12 ez12 => ?_)
            obtain rfl : z12 = nI (cO k (op0 cf ct f) + 1) := ez12.trans (nI_add _ _)
            refine lv_topi (fun z13 ez13 => ?_)
            obtain rfl : z13 = nI (cO (k + 1) (op0 cf ct f)) := ez13.trans (congrArg nI (by rw [cO_succ]; omega))
            refine lv_istore_n (lv' := [(2, .int (nI (cO (k + 1) (op0 cf ct f)))), (0, .ref (h 0)), (1, .int (nI f)), (3, .int (nI k))]) hx hb d_M_findOrder_59 rfl hl (by decide) rfl (fun ls hl => ?_)
            refine lv_iinc (v := nI (k + 1)) (lv' := [(3, .int (nI (k + 1))), (2, .int (nI (cO (k + 1) (op0 cf ct f)))), (0, .ref (h 0)), (1, .int (nI f))]) hx hb d_M_findOrder_60 hl (k := 3) rfl (nI_add k 1) (by decide) rfl (fun ls hl => ?_)
            refine lv_goto (tgt := 4) hx hb d_M_findOrder_63 (by decide) ?_
            exact ih_lpA (k + 1) (upd oO k (nI 0)) (by omega) (hO2) (by omega) _ _ _ hP hD hS (lv_sub hl [2, 3, 1, 0] rfl)
        · have c_24 : cf k = f := (nI_eq (a := cf k) (b := f) (by omega) (by omega)).mp c_24
          refine lv_aload_n hx hb d_M_findOrder_27 rfl (lv_at hl 0 rfl) ?_
          refine va_get (D := (dC, dI)) (ci := 0) (v := .ref (h 3)) (C := R_M) (T := F_M) (N := 18) hx hb hk k_M_f hown hK hP 0 rfl rfl 5 (by decide) (hk _ k_M_13) (fun _ h9 => h9) rfl d_M_findOrder_28 ?_
          refine lv_iload_n hx hb d_M_findOrder_31 rfl (lv_at hl 3 rfl) ?_
          refine va_iald hx hb hK hP 3 0 rfl rfl (pk_in k 20 (by omega)) d_M_findOrder_32 ?_
          refine lv_topi (fun z14 ez14 => ?_)
          obtain rfl : z14 = nI (ct k) := ez14.trans (rd (f := fun c => nI (ct c)) (k := k) (by omega))
          refine lv_iload_n hx hb d_M_findOrder_33 rfl (lv_at hl 1 rfl) ?_
          refine lv_icmp_ne (tgt := 41) hx hb d_M_findOrder_34 (by decide) (fun c_34 => ?_) (fun c_34 => ?_)
          · have c_34 : ¬ ct k = f := fun z9 => c_34 ((nI_eq (a := ct k) (b := f) (by omega) (by omega)).mpr z9)
            refine lv_iconst (v := nI 0) hx hb d_M_findOrder_41 (by decide +kernel) ?_
            refine va_zast hx hb hK hP hD hS 12 1 rfl rfl (pk_in k 20 (by omega)) d_M_findOrder_42 (fun H locs hP hD hS => ?_)
            rw [nI_clamp (n := k) (by omega)] at hP hD
            have hP : va_P (dC, dI) kls (wM h cI cZ xt (nI nF) (nI nC) xg (fun c => nI (pl c)) (fun c => nI (cf c)) (fun c => nI (ct c)) aK bF bL bB bA bY bR oT (upd oO k (nI 0)) oR bS) H := hP
            have hD : va_D A (wM h cI cZ xt (nI nF) (nI nC) xg (fun c => nI (pl c)) (fun c => nI (cf c)) (fun c => nI (ct c)) aK bF bL bB bA bY bR oT (upd oO k (nI 0)) oR bS) := hD
            have hk1v : (nI 0 : Int32) = nI (op0 cf ct f k).toNat := by unfold op0; first | rw [decide_eq_true ⟨c_24, c_34⟩]; rfl | rw [decide_eq_false (fun z => c_24 z.1)]; rfl | rw [decide_eq_false (fun z => c_34 z.2)]; rfl
            have hO2 : hB (k + 1) (op0 cf ct f) (upd oO k (nI 0)) := by
              intro j hj
              by_cases q9 : j = k
              · subst q9; rw [pk_us]; exact hk1v
              · rw [pk_un q9]; exact hO j (by omega)
            have hkb := bN_lt (op0 cf ct f k)
            refine lv_iload_n hx hb d_M_findOrder_43 rfl (lv_at hl 2 rfl) ?_
            refine lv_aload_n hx hb d_M_findOrder_44 rfl (lv_at hl 0 rfl) ?_
            refine va_get (D := (dC, dI)) (ci := 0) (v := .ref (h 12)) (C := R_M) (T := F_M) (N := 18) hx hb hk k_M_f hown hK hP 0 rfl rfl 15 (by decide) (hk _ k_M_23) (fun _ h9 => h9) rfl d_M_findOrder_45 ?_
            refine lv_iload_n hx hb d_M_findOrder_48 rfl (lv_at hl 3 rfl) ?_
            refine va_zald hx hb hK hP 12 1 rfl rfl (pk_in k 20 (by omega)) d_M_findOrder_49 ?_
            refine lv_topi (fun z15 ez15 => ?_)
            obtain rfl : z15 = nI ((op0 cf ct f k).toNat) := ez15.trans ((rd (f := upd oO k (nI 0)) (k := k) (by omega)).trans (hO2 k (by omega)))
            refine lv_if_eq (tgt := 57) hx hb d_M_findOrder_50 (by decide) (fun c_50 => ?_) (fun c_50 => ?_)
            · have c_50 : (op0 cf ct f k).toNat = 0 := (nI_eq (a := (op0 cf ct f k).toNat) (b := 0) (by omega) (by omega)).mp c_50
              refine lv_iconst (v := nI 0) hx hb d_M_findOrder_57 (by decide +kernel) ?_
              refine lv_iadd hx hb d_M_findOrder_58 ?_
              refine lv_topi (fun z16 ez16 => ?_)
              obtain rfl : z16 = nI (cO k (op0 cf ct f)) := ez16.trans (nI_add _ _)
              refine lv_topi (fun z17 ez17 => ?_)
              obtain rfl : z17 = nI (cO (k + 1) (op0 cf ct f)) := ez17.trans (congrArg nI (by rw [cO_succ]; omega))
              refine lv_istore_n (lv' := [(2, .int (nI (cO (k + 1) (op0 cf ct f)))), (0, .ref (h 0)), (1, .int (nI f)), (3, .int (nI k))]) hx hb d_M_findOrder_59 rfl hl (by decide) rfl (fun ls hl => ?_)
              refine lv_iinc (v := nI (k + 1)) (lv' := [(3, .int (nI (k + 1))), (2, .int (nI (cO (k + 1) (op0 cf ct f)))), (0, .ref (h 0)), (1, .int (nI f))]) hx hb d_M_findOrder_60 hl (k := 3) rfl (nI_add k 1) (by decide) rfl (fun ls hl => ?_)
              refine lv_goto (tgt := 4) hx hb d_M_findOrder_63 (by decide) ?_
              exact ih_lpA (k + 1) (upd oO k (nI 0)) (by omega) (hO2) (by omega) _ _ _ hP hD hS (lv_sub hl [2, 3, 1, 0] rfl)
            · have c_50 : ¬ (op0 cf ct f k).toNat = 0 := fun z9 => c_50 ((nI_eq (a := (op0 cf ct f k).toNat) (b := 0) (by omega) (by omega)).mpr z9)
              refine lv_iconst (v := nI 1) hx hb d_M_findOrder_53 (by decide +kernel) ?_
              refine lv_goto (tgt := 58) hx hb d_M_findOrder_54 (by decide) ?_
              refine lv_iadd hx hb d_M_findOrder_58 ?_
              refine lv_topi (fun z18 ez18 => ?_)
              obtain rfl : z18 = nI (cO k (op0 cf ct f) + 1) := ez18.trans (nI_add _ _)
              refine lv_topi (fun z19 ez19 => ?_)
              obtain rfl : z19 = nI (cO (k + 1) (op0 cf ct f)) := ez19.trans (congrArg nI (by rw [cO_succ]; omega))
              refine lv_istore_n (lv' := [(2, .int (nI (cO (k + 1) (op0 cf ct f)))), (0, .ref (h 0)), (1, .int (nI f)), (3, .int (nI k))]) hx hb d_M_findOrder_59 rfl hl (by decide) rfl (fun ls hl => ?_)
              refine lv_iinc (v := nI (k + 1)) (lv' := [(3, .int (nI (k + 1))), (2, .int (nI (cO (k + 1) (op0 cf ct f)))), (0, .ref (h 0)), (1, .int (nI f))]) hx hb d_M_findOrder_60 hl (k := 3) rfl (nI_add k 1) (by decide) rfl (fun ls hl => ?_)
              refine lv_goto (tgt := 4) hx hb d_M_findOrder_63 (by decide) ?_
              exact ih_lpA (k + 1) (upd oO k (nI 0)) (by omega) (hO2) (by omega) _ _ _ hP hD hS (lv_sub hl [2, 3, 1, 0] rfl)
          · have c_34 : ct k = f := (nI_eq (a := ct k) (b := f) (by omega) (by omega)).mp c_34
            refine lv_iconst (v := nI 1) hx hb d_M_findOrder_37 (by decide +kernel) ?_
            refine lv_goto (tgt := 42) hx hb d_M_findOrder_38 (by decide) ?_
            refine va_zast hx hb hK hP hD hS 12 1 rfl rfl (pk_in k 20 (by omega)) d_M_findOrder_42 (fun H locs hP hD hS => ?_)
            rw [nI_clamp (n := k) (by omega)] at hP hD
            have hP : va_P (dC, dI) kls (wM h cI cZ xt (nI nF) (nI nC) xg (fun c => nI (pl c)) (fun c => nI (cf c)) (fun c => nI (ct c)) aK bF bL bB bA bY bR oT (upd oO k (nI 1)) oR bS) H := hP
            have hD : va_D A (wM h cI cZ xt (nI nF) (nI nC) xg (fun c => nI (pl c)) (fun c => nI (cf c)) (fun c => nI (ct c)) aK bF bL bB bA bY bR oT (upd oO k (nI 1)) oR bS) := hD
            have hk1v : (nI 1 : Int32) = nI (op0 cf ct f k).toNat := by unfold op0; first | rw [decide_eq_true ⟨c_24, c_34⟩]; rfl | rw [decide_eq_false (fun z => c_24 z.1)]; rfl | rw [decide_eq_false (fun z => c_34 z.2)]; rfl
            have hO2 : hB (k + 1) (op0 cf ct f) (upd oO k (nI 1)) := by
              intro j hj
              by_cases q9 : j = k
              · subst q9; rw [pk_us]; exact hk1v
              · rw [pk_un q9]; exact hO j (by omega)
            have hkb := bN_lt (op0 cf ct f k)
            refine lv_iload_n hx hb d_M_findOrder_43 rfl (lv_at hl 2 rfl) ?_
            refine lv_aload_n hx hb d_M_findOrder_44 rfl (lv_at hl 0 rfl) ?_
            refine va_get (D := (dC, dI)) (ci := 0) (v := .ref (h 12)) (C := R_M) (T := F_M) (N := 18) hx hb hk k_M_f hown hK hP 0 rfl rfl 15 (by decide) (hk _ k_M_23) (fun _ h9 => h9) rfl d_M_findOrder_45 ?_
            refine lv_iload_n hx hb d_M_findOrder_48 rfl (lv_at hl 3 rfl) ?_
            refine va_zald hx hb hK hP 12 1 rfl rfl (pk_in k 20 (by omega)) d_M_findOrder_49 ?_
            refine lv_topi (fun z20 ez20 => ?_)
            obtain rfl : z20 = nI ((op0 cf ct f k).toNat) := ez20.trans ((rd (f := upd oO k (nI 1)) (k := k) (by omega)).trans (hO2 k (by omega)))
            refine lv_if_eq (tgt := 57) hx hb d_M_findOrder_50 (by decide) (fun c_50 => ?_) (fun c_50 => ?_)
            · have c_50 : (op0 cf ct f k).toNat = 0 := (nI_eq (a := (op0 cf ct f k).toNat) (b := 0) (by omega) (by omega)).mp c_50
              refine lv_iconst (v := nI 0) hx hb d_M_findOrder_57 (by decide +kernel) ?_
              refine lv_iadd hx hb d_M_findOrder_58 ?_
              refine lv_topi (fun z21 ez21 => ?_)
              obtain rfl : z21 = nI (cO k (op0 cf ct f)) := ez21.trans (nI_add _ _)
              refine lv_topi (fun z22 ez22 => ?_)
              obtain rfl : z22 = nI (cO (k + 1) (op0 cf ct f)) := ez22.trans (congrArg nI (by rw [cO_succ]; omega))
              refine lv_istore_n (lv' := [(2, .int (nI (cO (k + 1) (op0 cf ct f)))), (0, .ref (h 0)), (1, .int (nI f)), (3, .int (nI k))]) hx hb d_M_findOrder_59 rfl hl (by decide) rfl (fun ls hl => ?_)
              refine lv_iinc (v := nI (k + 1)) (lv' := [(3, .int (nI (k + 1))), (2, .int (nI (cO (k + 1) (op0 cf ct f)))), (0, .ref (h 0)), (1, .int (nI f))]) hx hb d_M_findOrder_60 hl (k := 3) rfl (nI_add k 1) (by decide) rfl (fun ls hl => ?_)
              refine lv_goto (tgt := 4) hx hb d_M_findOrder_63 (by decide) ?_
              exact ih_lpA (k + 1) (upd oO k (nI 1)) (by omega) (hO2) (by omega) _ _ _ hP hD hS (lv_sub hl [2, 3, 1, 0] rfl)
            · have c_50 : ¬ (op0 cf ct f k).toNat = 0 := fun z9 => c_50 ((nI_eq (a := (op0 cf ct f k).toNat) (b := 0) (by omega) (by omega)).mpr z9)
              refine lv_iconst (v := nI 1) hx hb d_M_findOrder_53 (by decide +kernel) ?_
              refine lv_goto (tgt := 58) hx hb d_M_findOrder_54 (by decide) ?_
              refine lv_iadd hx hb d_M_findOrder_58 ?_
              refine lv_topi (fun z23 ez23 => ?_)
              obtain rfl : z23 = nI (cO k (op0 cf ct f) + 1) := ez23.trans (nI_add _ _)
              refine lv_topi (fun z24 ez24 => ?_)
              obtain rfl : z24 = nI (cO (k + 1) (op0 cf ct f)) := ez24.trans (congrArg nI (by rw [cO_succ]; omega))
              refine lv_istore_n (lv' := [(2, .int (nI (cO (k + 1) (op0 cf ct f)))), (0, .ref (h 0)), (1, .int (nI f)), (3, .int (nI k))]) hx hb d_M_findOrder_59 rfl hl (by decide) rfl (fun ls hl => ?_)
              refine lv_iinc (v := nI (k + 1)) (lv' := [(3, .int (nI (k + 1))), (2, .int (nI (cO (k + 1) (op0 cf ct f)))), (0, .ref (h 0)), (1, .int (nI f))]) hx hb d_M_findOrder_60 hl (k := 3) rfl (nI_add k 1) (by decide) rfl (fun ls hl => ?_)
              refine lv_goto (tgt := 4) hx hb d_M_findOrder_63 (by decide) ?_
              exact ih_lpA (k + 1) (upd oO k (nI 1)) (by omega) (hO2) (by omega) _ _ _ hP hD hS (lv_sub hl [2, 3, 1, 0] rfl)
  exact lpA _ 0 oO (Nat.zero_le _) (fun j hj => absurd hj (Nat.not_lt_zero _)) (Nat.lt_succ_self _) _ _ _ hP hD hS (lv_sub hl [2, 3, 1, 0] rfl)
end
section
def updN (f : Nat → Nat) (k v : Nat) : Nat → Nat := fun j => if j = k then v else f j
theorem updN_eq (f : Nat → Nat) (k v : Nat) : upd (fun c => nI (f c)) k (nI v) = fun c => nI (updN f k v c) := by
  funext j
  unfold updN
  by_cases h : j = k
  · subst h; rw [pk_us, if_pos rfl]
  · rw [pk_un h, if_neg h]
/-- the k-th of the numbers of five bits -/
def numR (x : Int64) (k : Nat) : Nat := x.toBitVec.toNat / 2 ^ (5 * k) % 32
theorem numR_lt (x : Int64) (k : Nat) : numR x k < 32 := Nat.mod_lt _ (by decide)
theorem sh5 : ∀ k, k < 12 → ((nI (5 * k)).toInt64 &&& 63).toBitVec.smod 64 = BitVec.ofNat 64 (5 * k) := by decide +kernel
theorem sh5u : ∀ k, k < 12 → (((nI (5 * k)).toInt64.toUInt64 &&& Int64.toUInt64 63).toBitVec % 64).toNat = 5 * k := by decide +kernel
theorem b31 : ∀ i, i < 64 → (31 : Int64).toBitVec.getLsbD i = decide (i < 5) := by decide +kernel
theorem c31 : ∀ i, i < 32 → (nI 31).toBitVec.getLsbD i = decide (i < 5) := by decide +kernel
theorem nR_bit (x : Int64) {k : Nat} (hk : k < 12) {i : Nat} (hi : i < 32) : (nI (numR x k)).toBitVec.getLsbD i = (decide (i < 5) && x.toBitVec.getLsbD (5 * k + i)) := by
  show (BitVec.ofNat 32 (numR x k)).getLsbD i = _
  rw [BitVec.getLsbD_ofNat, decide_eq_true hi, Bool.true_and]
  unfold numR
  rw [show (32 : Nat) = 2 ^ 5 from rfl, Nat.testBit_mod_two_pow, Nat.testBit_div_two_pow, Nat.add_comm i (5 * k)]
  rfl
theorem num_sar (x : Int64) {k : Nat} (hk : k < 12) : (x >>> ((nI (5 * k)).toInt64 &&& 63) &&& 31).toInt32 = nI (numR x k) := by
  apply Int32.toBitVec_inj.mp
  apply BitVec.eq_of_getLsbD_eq
  intro i hi
  rw [nR_bit x hk hi, Int64.toBitVec_toInt32, BitVec.getLsbD_signExtend, if_pos (show i < 64 by omega), Int64.toBitVec_and, BitVec.getLsbD_and, b31 i (by omega), Int64.toBitVec_shiftRight]
  show (decide (i < 32) && ((x.toBitVec.sshiftRight (((nI (5 * k)).toInt64 &&& 63).toBitVec.smod 64).toNat).getLsbD i && decide (i < 5))) = _
  rw [sh5 k hk, BitVec.toNat_ofNat, Nat.mod_eq_of_lt (by omega), BitVec.getLsbD_sshiftRight, decide_eq_true hi]
  by_cases h5 : i < 5
  · rw [decide_eq_true h5, decide_eq_false (show ¬ 64 ≤ i by omega), if_pos (show 5 * k + i < 64 by omega)]; simp
  · rw [decide_eq_false h5]; simp
theorem num_ush (x : Int64) {k : Nat} (hk : k < 12) : (x.toUInt64 >>> ((nI (5 * k)).toInt64.toUInt64 &&& Int64.toUInt64 63)).toInt64.toInt32 &&& nI 31 = nI (numR x k) := by
  apply Int32.toBitVec_inj.mp
  apply BitVec.eq_of_getLsbD_eq
  intro i hi
  rw [nR_bit x hk hi, Int32.toBitVec_and, BitVec.getLsbD_and, c31 i hi, Int64.toBitVec_toInt32, BitVec.getLsbD_signExtend, if_pos (show i < 64 by omega)]
  show (decide (i < 32) && (x.toUInt64 >>> ((nI (5 * k)).toInt64.toUInt64 &&& Int64.toUInt64 63)).toBitVec.getLsbD i && decide (i < 5)) = _
  rw [UInt64.toBitVec_shiftRight]
  show (decide (i < 32) && (x.toBitVec >>> (((nI (5 * k)).toInt64.toUInt64 &&& Int64.toUInt64 63).toBitVec % 64).toNat).getLsbD i && decide (i < 5)) = _
  rw [sh5u k hk, BitVec.getLsbD_ushiftRight, decide_eq_true hi]
  cases x.toBitVec.getLsbD (5 * k + i) <;> simp
section PP
variable (nC : Nat) (cf ct : Nat → Nat) (ck : Nat → Int32) (Jj : Int32 → Int32 → Int32) (x : Int64)
/-- the graph of the row that the first numbers are, and where it leads to -/
def prN : Nat → Option (Int32 × Nat)
  | 0 => none
  | 1 => if numR x 0 < nC then some (ck (numR x 0), ct (numR x 0)) else none
  | k + 2 => match prN (k + 1) with
    | none => none
    | some q => if numR x (k + 1) < nC ∧ cf (numR x (k + 1)) = q.2 then some (Jj q.1 (ck (numR x (k + 1))), ct (numR x (k + 1))) else none
theorem prN_none {k : Nat} (h1 : 1 ≤ k) (h : prN nC cf ct ck Jj x k = none) : ∀ {d}, k ≤ d → prN nC cf ct ck Jj x d = none := by
  intro d hd
  induction d with
  | zero => omega
  | succ d ih =>
    rcases Nat.lt_or_ge d k with z | z
    · obtain rfl : k = d + 1 := by omega
      exact h
    · obtain ⟨d, rfl⟩ : ∃ a, d = a + 1 := ⟨d - 1, by omega⟩
      rw [prN, ih z]
theorem prN_s {k : Nat} (h : 1 ≤ k) {q : Int32 × Nat} (hq : prN nC cf ct ck Jj x k = some q) : prN nC cf ct ck Jj x (k + 1) = if numR x k < nC ∧ cf (numR x k) = q.2 then some (Jj q.1 (ck (numR x k)), ct (numR x k)) else none := by
  obtain ⟨k, rfl⟩ : ∃ a, k = a + 1 := ⟨k - 1, by omega⟩
  rw [prN, hq]
end PP
theorem in12 {q : Int32} (h1 : ¬ q < nI 1) (h4 : q ≤ nI 12) : ∃ j, 1 ≤ j ∧ j ≤ 12 ∧ q = nI j := by
  have h0 : ¬ q < 0 := by
    intro h
    rw [Int32.lt_iff_toInt_lt] at h h1
    have e1 : (nI 1).toInt = 1 := by decide +kernel
    have e0 : (0 : Int32).toInt = 0 := by decide +kernel
    omega
  obtain ⟨j, hj, rfl⟩ := nI_of2 (M := nI 12) (n := 12) (by decide +kernel) h0 h4
  refine ⟨j, ?_, hj, rfl⟩
  rcases Nat.eq_zero_or_pos j with rfl | h
  · exact absurd (show nI 0 < nI 1 from nI_lt (by omega) (by omega)) h1
  · exact h
theorem no12 {q : Int32} (h : q < nI 1 ∨ ¬ q ≤ nI 12) : ¬ ∃ j, 1 ≤ j ∧ j ≤ 12 ∧ q = nI j := by
  rintro ⟨j, h1, h4, rfl⟩
  rcases h with h | h
  · exact absurd ((nI_ltI (by omega) (by omega)).mp h) (by omega)
  · exact h (nI_le h4 (by omega))
set_option maxHeartbeats 4000000 in
set_option maxRecDepth 100000 in
theorem m_order (l : Launch) (dC : Nat → ClassId) (dI : Nat → Nat → Nat) (cI cZ : ClassId) (h : Nat → Nat) (sz : Nat) (xt xg : Int32) (aK bF bL bB bA bY bR oT oO oR bS : Nat → Int32) (nF nC : Nat) (pl cf ct : Nat → Nat) (f q : Int32) (hF : nF ≤ 10) (hC : nC ≤ 20) (hS0 : ∀ c, c < nC → cf c < nF ∧ ct c < nF) (hpl : ∀ i, i < nF → 1 ≤ pl i ∧ pl i ≤ 4) : Met l y_M_order w_M_order ({ frames := 3, cells := 0, slots := 0, locals := 72 }) (va_Pc [.ref (h 0), .int f, .int q] (fun U => U.heap.size = sz ∧ va_P (dC, dI) kls (wM h cI cZ xt (nI nF) (nI nC) xg (fun c => nI (pl c)) (fun c => nI (cf c)) (fun c => nI (ct c)) aK bF bL bB bA bY bR oT oO oR bS) U.heap ∧ va_K (dC, dI) kls (tyM cI cZ) U ∧ va_D (fun _ => True) (wM h cI cZ xt (nI nF) (nI nC) xg (fun c => nI (pl c)) (fun c => nI (cf c)) (fun c => nI (ct c)) aK bF bL bB bA bY bR oT oO oR bS))) (va_Qi (fun (r : Int32) (u : Int32 × (Nat → Int32) × (Nat → Int32) × (Nat → Int32)) => u.1 = nI 0 ∧ (((¬ ((∃ i, i < nF ∧ f = nI i) ∧ (-1 : Int32) ≤ q)) ∧ r = -1) ∨ ∃ i, i < nF ∧ f = nI i ∧ (-1 : Int32) ≤ q ∧ ∃ tl op, oWay nC (at2 aK) (pl i) tl (op0 cf ct i) op ∧ tl.length ≤ 4 ∧ ((¬ oOpen nC op ∧ ((q = -1 ∧ r = nI tl.length) ∨ ∃ q1, q1 < 2 ^ 31 ∧ q = nI q1 ∧ ((∃ y, tl[q1]? = some y ∧ r = nI y) ∨ (tl.length ≤ q1 ∧ r = -1)))) ∨ (oOpen nC op ∧ oNone nC (at2 aK) (pl i) op ∧ r = -1)))) (fun (u : Int32 × (Nat → Int32) × (Nat → Int32) × (Nat → Int32)) (t : State) => va_P (dC, dI) kls (wM h cI cZ u.1 (nI nF) (nI nC) xg (fun c => nI (pl c)) (fun c => nI (cf c)) (fun c => nI (ct c)) aK bF bL bB bA bY bR u.2.1 u.2.2.1 u.2.2.2 bS) t.heap ∧ va_K (dC, dI) kls (tyM cI cZ) t ∧ va_D (va_A (wM h cI cZ xt (nI nF) (nI nC) xg (fun c => nI (pl c)) (fun c => nI (cf c)) (fun c => nI (ct c)) aK bF bL bB bA bY bR oT oO oR bS) sz) (wM h cI cZ u.1 (nI nF) (nI nC) xg (fun c => nI (pl c)) (fun c => nI (cf c)) (fun c => nI (ct c)) aK bF bL bB bA bY bR u.2.1 u.2.2.1 u.2.2.2 bS)) (va_A (wM h cI cZ xt (nI nF) (nI nC) xg (fun c => nI (pl c)) (fun c => nI (cf c)) (fun c => nI (ct c)) aK bF bL bB bA bY bR oT oO oR bS) sz)) 0 0 (va_A (wM h cI cZ xt (nI nF) (nI nC) xg (fun c => nI (pl c)) (fun c => nI (cf c)) (fun c => nI (ct c)) aK bF bL bB bA bY bR oT oO oR bS) sz) := by
  refine Met.ofW (cc := c_M_order) (maxL := 4) (ret := (some .int)) (by decide) rfl ?_
  intro p e s m args below meth c s₁ B hml hv
  obtain ⟨rfl, hsz, hP, hK, hD0⟩ := hv
  have hx := B.exec
  have hb := B.bytes
  have hr := B.returns
  have hts := atoms_spec (ws := w_M_order) B.pre
  have hk : ∀ w ∈ wMw, w.before _ s = true := fun w h => hts w (List.mem_cons_of_mem _ h)
  have hown : s.vm.findClass R_M = some m.cls := findClass_of_methodNamed B.named
  have hlocks := B.notSynchronized
  subst hsz
  have hD := hD0.self (sz := s.heap.size)
  generalize hAe : va_A (wM h cI cZ xt (nI nF) (nI nC) xg (fun c => nI (pl c)) (fun c => nI (cf c)) (fun c => nI (ct c)) aK bF bL bB bA bY bR oT oO oR bS) s.heap.size = A at hD ⊢
  have hA : ∀ q : Nat, s.heap.size ≤ q → A q := fun q h => by rw [← hAe]; exact Or.inr h
  have hS : va_S A s.heap s.heap [] := va_S.rf
  have hl := lv_entry ([.ref (h 0), .int f, .int q]) (n := 4) (Nat.le_of_ble_eq_true rfl)
  rw [lg_entry_eq]
  generalize (lg_sl ([.ref (h 0), .int f, .int q]) ++ List.replicate (4 - (lg_sl ([.ref (h 0), .int f, .int q])).length) Slot.unset).toArray = ls at hl ⊢
  have hl : lv_has ls 4 [(0, .ref (h 0)), (1, .int f), (2, .int q)] := hl
  refine lv_aload_n hx hb d_M_order_0 rfl (lv_at hl 0 rfl) ?_
  refine lv_iconst (v := nI 0) hx hb d_M_order_1 (by decide +kernel) ?_
  refine va_put (D := (dC, dI)) (ci := 0) (v := .int (nI 0)) (ty := .int) (C := R_M) (T := F_M) (N := 18) hx hb hk k_M_f t_M t_M_ok n_M hown hK hP hD hS 0 rfl rfl 0 (by decide) (hk _ k_M_8) (fun _ h9 => h9) rfl (by decide +kernel) rfl rfl (Nat.le_of_ble_eq_true rfl) d_M_order_2 (fun H locs hP hD hS => ?_)
  have hP : va_P (dC, dI) kls (wM h cI cZ (nI 0) (nI nF) (nI nC) xg (fun c => nI (pl c)) (fun c => nI (cf c)) (fun c => nI (ct c)) aK bF bL bB bA bY bR oT oO oR bS) H := hP
  have hD : va_D A (wM h cI cZ (nI 0) (nI nF) (nI nC) xg (fun c => nI (pl c)) (fun c => nI (cf c)) (fun c => nI (ct c)) aK bF bL bB bA bY bR oT oO oR bS) := hD
  refine lv_aload_n hx hb d_M_order_5 rfl (lv_at hl 0 rfl) ?_
  refine lv_iload_n hx hb d_M_order_6 rfl (lv_at hl 1 rfl) ?_
  have hFc := va_free (wc := wM h cI cZ (nI 0) (nI nF) (nI nC) xg (fun c => nI (pl c)) (fun c => nI (cf c)) (fun c => nI (ct c)) aK bF bL bB bA bY bR oT oO oR bS) hD hS hA [0, 1, 2, 3, 4, 5, 6, 7, 8, 9, 10, 11, 12, 13, 14] rfl
  refine va_calli (va_runV (As := [.int f]) (rest := []) ⟨hx, hb, hml, hown, hk⟩ (m_isFunction l dC dI cI cZ h H.size (nI 0) (nI nC) xg (fun c => nI (pl c)) (fun c => nI (cf c)) (fun c => nI (ct c)) aK bF bL bB bA bY bR oT oO oR bS nF f (by omega)) (cwV 1 hk g_M_isFunction rfl rfl rfl (by decide +kernel) ⟨Nat.le_of_ble_eq_true rfl, Nat.le_of_ble_eq_true rfl⟩) ⟨fun a U g mk q => by obtain ⟨q0, q1, qP, qK, qD⟩ := q; exact ⟨q0, q1, qP, va_K.moved (u := U) (U := U.calling g mk a) (Vm.Alike.refl U.vm) qK, qD⟩, va_recv hK hP (ci := 0) (q0 := 0) rfl rfl, fun U hU hW => ⟨rfl, by rw [hU], by rw [hU]; exact hP, va_K.moved hW.alike hK, hD.weaken (fun _ _ _ _ => trivial)⟩⟩ rfl rfl hl.1 rfl (lv_room (Nat.le_of_ble_eq_true rfl)) d_M_order_7 ⟨Nat.le_of_ble_eq_true rfl, Nat.le_of_ble_eq_true rfl⟩) hS (fun q _ h => hFc q h) hFc (fun r1 u9 t H1 locs ht hvm hw hB hz1 hk1 hS => ?_)
  obtain ⟨hP1, hK1, hD1⟩ := hB
  rw [ht] at hP1
  try dsimp only at hw
  obtain ⟨hP, hD⟩ := va_join (wr := []) (w1 := wM h cI cZ (nI 0) (nI nF) (nI nC) xg (fun c => nI (pl c)) (fun c => nI (cf c)) (fun c => nI (ct c)) aK bF bL bB bA bY bR oT oO oR bS) hP hD [0, 1, 2, 3, 4, 5, 6, 7, 8, 9, 10, 11, 12, 13, 14] [] rfl rfl (by decide) (by decide) hk1 hFc hP1 hD1
  generalize H1 = H at hP hS ⊢
  have hP : va_P (dC, dI) kls (wM h cI cZ (nI 0) (nI nF) (nI nC) xg (fun c => nI (pl c)) (fun c => nI (cf c)) (fun c => nI (ct c)) aK bF bL bB bA bY bR oT oO oR bS) H := hP
  have hD : va_D A (wM h cI cZ (nI 0) (nI nF) (nI nC) xg (fun c => nI (pl c)) (fun c => nI (cf c)) (fun c => nI (ct c)) aK bF bL bB bA bY bR oT oO oR bS) := hD
  rcases hw with ⟨hr9, i1, hi1, hfj⟩ | ⟨hr9, hno_f⟩
  · subst hr9
    subst hfj
    refine lv_if_eq (tgt := 18) hx hb d_M_order_10 (by decide) (fun c9 => absurd c9 (by decide +kernel)) (fun _ => ?_)
    refine lv_iload_n hx hb d_M_order_13 rfl (lv_at hl 2 rfl) ?_
    refine lv_iconst (v := (-1)) hx hb d_M_order_14 (by decide +kernel) ?_
    refine lv_icmp_ge (tgt := 20) hx hb d_M_order_15 (by decide) (fun c_15 => ?_) (fun c_15 => ?_)
    · refine lv_aload_n hx hb d_M_order_20 rfl (lv_at hl 0 rfl) ?_
      refine lv_iload_n hx hb d_M_order_21 rfl (lv_at hl 1 rfl) ?_
      have hFc := va_free (wc := wM h cI cZ (nI 0) (nI nF) (nI nC) xg (fun c => nI (pl c)) (fun c => nI (cf c)) (fun c => nI (ct c)) aK bF bL bB bA bY bR oT oO oR bS) hD hS hA [0, 1, 2, 3, 4, 5, 6, 7, 8, 9, 10, 11, 12, 13, 14] rfl
      refine va_calli (va_runV (As := [.int (nI i1)]) (rest := []) ⟨hx, hb, hml, hown, hk⟩ (m_findOrder l dC dI cI cZ h H.size (nI 0) xg aK bF bL bB bA bY bR oT oO oR bS nF nC pl cf ct i1 (hC) (hF) (hS0) (hpl i1 hi1) (hi1)) (cwV 1 hk g_M_findOrder rfl rfl rfl (by decide +kernel) ⟨Nat.le_of_ble_eq_true rfl, Nat.le_of_ble_eq_true rfl⟩) ⟨fun a U g mk q => by obtain ⟨q0, q1, qP, qK, qD⟩ := q; exact ⟨q0, q1, qP, va_K.moved (u := U) (U := U.calling g mk a) (Vm.Alike.refl U.vm) qK, qD⟩, va_recv hK hP (ci := 0) (q0 := 0) rfl rfl, fun U hU hW => ⟨rfl, by rw [hU], by rw [hU]; exact hP, va_K.moved hW.alike hK, hD.weaken (fun _ _ _ _ => trivial)⟩⟩ rfl rfl hl.1 rfl (lv_room (Nat.le_of_ble_eq_true rfl)) d_M_order_22 ⟨Nat.le_of_ble_eq_true rfl, Nat.le_of_ble_eq_true rfl⟩) hS (fun q _ h => hFc q h) hFc (fun r2 u9 t H1 locs ht hvm hw hB hz1 hk1 hS => ?_)
      obtain ⟨oT9, oO9, oR9⟩ := u9
      obtain ⟨hP1, hK1, hD1⟩ := hB
      rw [ht] at hP1
      try dsimp only at hw
      obtain ⟨hP, hD⟩ := va_join (wr := []) (w1 := wM h cI cZ (nI 0) (nI nF) (nI nC) xg (fun c => nI (pl c)) (fun c => nI (cf c)) (fun c => nI (ct c)) aK bF bL bB bA bY bR oT9 oO9 oR9 bS) hP hD [0, 1, 2, 3, 4, 5, 6, 7, 8, 9, 10, 11, 12, 13, 14] [] rfl rfl (by decide) (by decide) hk1 hFc hP1 hD1
      generalize H1 = H at hP hS ⊢
      have hP : va_P (dC, dI) kls (wM h cI cZ (nI 0) (nI nF) (nI nC) xg (fun c => nI (pl c)) (fun c => nI (cf c)) (fun c => nI (ct c)) aK bF bL bB bA bY bR oT9 oO9 oR9 bS) H := hP
      have hD : va_D A (wM h cI cZ (nI 0) (nI nF) (nI nC) xg (fun c => nI (pl c)) (fun c => nI (cf c)) (fun c => nI (ct c)) aK bF bL bB bA bY bR oT9 oO9 oR9 bS) := hD
      obtain ⟨tl, op, hway, htl4, hw⟩ := hw
      rcases hw with ⟨hopn, hr9, hR9⟩ | ⟨hopn, hnon, hr9⟩
      · subst hr9
        refine lv_istore_n (lv' := [(3, .int (nI tl.length)), (0, .ref (h 0)), (1, .int (nI i1)), (2, .int q)]) hx hb d_M_order_25 rfl hl (by decide) rfl (fun ls hl => ?_)
        refine lv_iload_n hx hb d_M_order_26 rfl (lv_at hl 3 rfl) ?_
        refine lv_iconst (v := (-1)) hx hb d_M_order_27 (by decide +kernel) ?_
        refine lv_icmp_ne (tgt := 35) hx hb d_M_order_28 (by decide) (fun c_28 => ?_) (fun c_28 => ?_)
        · obtain ⟨q1, hq1, rfl⟩ := nI_of (nn_of c_15 c_28)
          refine lv_iload_n hx hb d_M_order_35 rfl (lv_at hl 3 rfl) ?_
          refine lv_iload_n hx hb d_M_order_36 rfl (lv_at hl 0 rfl) ?_
          refine lv_icmp_ge (tgt := 49) hx hb d_M_order_37 (by decide) (fun c_37 => ?_) (fun c_37 => ?_)
          · have c_37 : tl.length ≤ q1 := (nI_leI (a := tl.length) (b := q1) (by omega) (by omega)).mp c_37
            refine lv_iconst (v := (-1)) hx hb d_M_order_49 (by decide +kernel) ?_
            exact W.iret (v := (-1)) hx hb hr (fun t ht hW => ⟨⟨(-1), (nI 0, oT9, oO9, oR9), rfl, ⟨rfl, Or.inr ⟨i1, hi1, rfl, c_15, tl, op, hway, htl4, Or.inl ⟨hopn, Or.inr ⟨q1, hq1, rfl, Or.inr ⟨c_37, rfl⟩⟩⟩⟩⟩, by rw [ht]; exact hP, va_K.moved hW.alike hK, hD⟩, hS.F ht⟩) hS.2.2 d_M_order_50
          · have c_37 : ¬ tl.length ≤ q1 := fun z9 => c_37 ((nI_leI (a := tl.length) (b := q1) (by omega) (by omega)).mpr z9)
            refine lv_aload_n hx hb d_M_order_40 rfl (lv_at hl 1 rfl) ?_
            refine va_get (D := (dC, dI)) (ci := 0) (v := .ref (h 13)) (C := R_M) (T := F_M) (N := 18) hx hb hk k_M_f hown hK hP 0 rfl rfl 16 (by decide) (hk _ k_M_24) (fun _ h9 => h9) rfl d_M_order_41 ?_
            refine lv_iload_n hx hb d_M_order_44 rfl (lv_at hl 3 rfl) ?_
            refine va_iald hx hb hK hP 13 0 rfl rfl (pk_in q1 4 (by omega)) d_M_order_45 ?_
            refine lv_topi (fun z3 ez3 => ?_)
            obtain rfl : z3 = oR9 q1 := ez3.trans (rd (f := oR9) (k := q1) (by omega))
            refine lv_goto (tgt := 50) hx hb d_M_order_46 (by decide) ?_
            obtain ⟨y9, hy9⟩ : ∃ y9, tl[q1]? = some y9 := ⟨_, List.getElem?_eq_getElem (by omega)⟩
            exact W.iret (v := oR9 q1) hx hb hr (fun t ht hW => ⟨⟨oR9 q1, (nI 0, oT9, oO9, oR9), rfl, ⟨rfl, Or.inr ⟨i1, hi1, rfl, c_15, tl, op, hway, htl4, Or.inl ⟨hopn, Or.inr ⟨q1, hq1, rfl, Or.inl ⟨y9, hy9, hR9 q1 y9 hy9⟩⟩⟩⟩⟩, by rw [ht]; exact hP, va_K.moved hW.alike hK, hD⟩, hS.F ht⟩) hS.2.2 d_M_order_50
        · refine lv_iload_n hx hb d_M_order_31 rfl (lv_at hl 0 rfl) ?_
          refine lv_goto (tgt := 50) hx hb d_M_order_32 (by decide) ?_
          exact W.iret (v := nI tl.length) hx hb hr (fun t ht hW => ⟨⟨nI tl.length, (nI 0, oT9, oO9, oR9), rfl, ⟨rfl, Or.inr ⟨i1, hi1, rfl, c_15, tl, op, hway, htl4, Or.inl ⟨hopn, Or.inl ⟨c_28, rfl⟩⟩⟩⟩, by rw [ht]; exact hP, va_K.moved hW.alike hK, hD⟩, hS.F ht⟩) hS.2.2 d_M_order_50
      · subst hr9
        refine lv_istore_n (lv' := [(3, .int (-1)), (0, .ref (h 0)), (1, .int (nI i1)), (2, .int q)]) hx hb d_M_order_25 rfl hl (by decide) rfl (fun ls hl => ?_)
        refine lv_iload_n hx hb d_M_order_26 rfl (lv_at hl 3 rfl) ?_
        refine lv_iconst (v := (-1)) hx hb d_M_order_27 (by decide +kernel) ?_
        refine lv_icmp_ne (tgt := 35) hx hb d_M_order_28 (by decide) (fun c_28 => ?_) (fun c_28 => ?_)
        · refine lv_iload_n hx hb d_M_order_35 rfl (lv_at hl 3 rfl) ?_
          refine lv_iload_n hx hb d_M_order_36 rfl (lv_at hl 0 rfl) ?_
          refine lv_icmp_ge (tgt := 49) hx hb d_M_order_37 (by decide) (fun c_37 => ?_) (fun c_37 => ?_)
          · refine lv_iconst (v := (-1)) hx hb d_M_order_49 (by decide +kernel) ?_
            exact W.iret (v := (-1)) hx hb hr (fun t ht hW => ⟨⟨(-1), (nI 0, oT9, oO9, oR9), rfl, ⟨rfl, Or.inr ⟨i1, hi1, rfl, c_15, tl, op, hway, htl4, Or.inr ⟨hopn, hnon, rfl⟩⟩⟩, by rw [ht]; exact hP, va_K.moved hW.alike hK, hD⟩, hS.F ht⟩) hS.2.2 d_M_order_50
          · exact absurd c_15 c_37
        · refine lv_iload_n hx hb d_M_order_31 rfl (lv_at hl 0 rfl) ?_
          refine lv_goto (tgt := 50) hx hb d_M_order_32 (by decide) ?_
          exact W.iret (v := (-1)) hx hb hr (fun t ht hW => ⟨⟨(-1), (nI 0, oT9, oO9, oR9), rfl, ⟨rfl, Or.inr ⟨i1, hi1, rfl, c_15, tl, op, hway, htl4, Or.inr ⟨hopn, hnon, rfl⟩⟩⟩, by rw [ht]; exact hP, va_K.moved hW.alike hK, hD⟩, hS.F ht⟩) hS.2.2 d_M_order_50
    · refine lv_iconst (v := (-1)) hx hb d_M_order_18 (by decide +kernel) ?_
      have hq9 : ¬ ((∃ i, i < nF ∧ nI i1 = nI i) ∧ (-1 : Int32) ≤ q) := by
        rintro ⟨z1, z2⟩
        first
          | exact hno_f z1
          | exact c_15 z2
      exact W.iret (v := (-1)) hx hb hr (fun t ht hW => ⟨⟨(-1), (nI 0, oT, oO, oR), rfl, ⟨rfl, Or.inl ⟨hq9, rfl⟩⟩, by rw [ht]; exact hP, va_K.moved hW.alike hK, hD⟩, hS.F ht⟩) hS.2.2 d_M_order_19
  · subst hr9
    refine lv_if_eq (tgt := 18) hx hb d_M_order_10 (by decide) (fun _ => ?_) (fun c9 => absurd c9 (by decide +kernel))
    refine lv_iconst (v := (-1)) hx hb d_M_order_18 (by decide +kernel) ?_
    have hq9 : ¬ ((∃ i, i < nF ∧ f = nI i) ∧ (-1 : Int32) ≤ q) := by
      rintro ⟨z1, z2⟩
      first
        | exact hno_f z1
        | exact c_15 z2
    exact W.iret (v := (-1)) hx hb hr (fun t ht hW => ⟨⟨(-1), (nI 0, oT, oO, oR), rfl, ⟨rfl, Or.inl ⟨hq9, rfl⟩⟩, by rw [ht]; exact hP, va_K.moved hW.alike hK, hD⟩, hS.F ht⟩) hS.2.2 d_M_order_19
set_option maxHeartbeats 4000000 in
set_option maxRecDepth 100000 in
theorem m_call (l : Launch) (dC : Nat → ClassId) (dI : Nat → Nat → Nat) (cI cZ : ClassId) (h : Nat → Nat) (sz : Nat) (xt xg : Int32) (aK bF bL bB bA bY bR oT oO oR bS : Nat → Int32) (nF nC : Nat) (pl cf ct : Nat → Nat) (f g q : Int32) (hF : nF ≤ 10) (hC : nC ≤ 20) (hS0 : ∀ c, c < nC → cf c < nF ∧ ct c < nF) (hpl : ∀ i, i < nF → 1 ≤ pl i ∧ pl i ≤ 4) : Met l y_M_call w_M_call ({ frames := 1, cells := 0, slots := 0, locals := 22 }) (va_Pc [.ref (h 0), .int f, .int g, .int q] (fun U => U.heap.size = sz ∧ va_P (dC, dI) kls (wM h cI cZ xt (nI nF) (nI nC) xg (fun c => nI (pl c)) (fun c => nI (cf c)) (fun c => nI (ct c)) aK bF bL bB bA bY bR oT oO oR bS) U.heap ∧ va_K (dC, dI) kls (tyM cI cZ) U ∧ va_D (fun _ => True) (wM h cI cZ xt (nI nF) (nI nC) xg (fun c => nI (pl c)) (fun c => nI (cf c)) (fun c => nI (ct c)) aK bF bL bB bA bY bR oT oO oR bS))) (va_Qi (fun (r : Int32) (u : Int32 × Int32 × (Nat → Int32) × (Nat → Int32) × (Nat → Int32)) => ((¬ ((∃ i, i < nF ∧ f = nI i) ∧ (∃ j, j < nF ∧ g = nI j))) ∧ u.1 = nI 1 ∧ u.2.1 = nI nC ∧ u.2.2.1 = (fun c => nI (cf c)) ∧ u.2.2.2.1 = (fun c => nI (ct c)) ∧ u.2.2.2.2 = aK) ∨ (((∃ i, i < nF ∧ f = nI i) ∧ (∃ j, j < nF ∧ g = nI j)) ∧ nC = 20 ∧ u.1 = nI 2 ∧ u.2.1 = nI nC ∧ u.2.2.1 = (fun c => nI (cf c)) ∧ u.2.2.2.1 = (fun c => nI (ct c)) ∧ u.2.2.2.2 = aK) ∨ ∃ i j, i < nF ∧ j < nF ∧ f = nI i ∧ g = nI j ∧ nC < 20 ∧ u.1 = nI 0 ∧ u.2.1 = nI (nC + 1) ∧ u.2.2.1 = (fun c => nI (updN cf nC i c)) ∧ u.2.2.2.1 = (fun c => nI (updN ct nC j c)) ∧ u.2.2.2.2 = upd aK nC (clR q (pl i) (pl j)) ∧ r = nI nC) (fun (u : Int32 × Int32 × (Nat → Int32) × (Nat → Int32) × (Nat → Int32)) (t : State) => va_P (dC, dI) kls (wM h cI cZ u.1 (nI nF) u.2.1 xg (fun c => nI (pl c)) u.2.2.1 u.2.2.2.1 u.2.2.2.2 bF bL bB bA bY bR oT oO oR bS) t.heap ∧ va_K (dC, dI) kls (tyM cI cZ) t ∧ va_D (va_A (wM h cI cZ xt (nI nF) (nI nC) xg (fun c => nI (pl c)) (fun c => nI (cf c)) (fun c => nI (ct c)) aK bF bL bB bA bY bR oT oO oR bS) sz) (wM h cI cZ u.1 (nI nF) u.2.1 xg (fun c => nI (pl c)) u.2.2.1 u.2.2.2.1 u.2.2.2.2 bF bL bB bA bY bR oT oO oR bS)) (va_A (wM h cI cZ xt (nI nF) (nI nC) xg (fun c => nI (pl c)) (fun c => nI (cf c)) (fun c => nI (ct c)) aK bF bL bB bA bY bR oT oO oR bS) sz)) 0 0 (va_A (wM h cI cZ xt (nI nF) (nI nC) xg (fun c => nI (pl c)) (fun c => nI (cf c)) (fun c => nI (ct c)) aK bF bL bB bA bY bR oT oO oR bS) sz) := by
  refine Met.ofW (cc := c_M_call) (maxL := 8) (ret := (some .int)) (by decide) rfl ?_
  intro p e s m args below meth c s₁ B hml hv
  obtain ⟨rfl, hsz, hP, hK, hD0⟩ := hv
  have hx := B.exec
  have hb := B.bytes
  have hr := B.returns
  have hts := atoms_spec (ws := w_M_call) B.pre
  have hk : ∀ w ∈ wMw, w.before _ s = true := fun w h => hts w (List.mem_cons_of_mem _ h)
  have hown : s.vm.findClass R_M = some m.cls := findClass_of_methodNamed B.named
  have hlocks := B.notSynchronized
  subst hsz
  have hD := hD0.self (sz := s.heap.size)
  generalize hAe : va_A (wM h cI cZ xt (nI nF) (nI nC) xg (fun c => nI (pl c)) (fun c => nI (cf c)) (fun c => nI (ct c)) aK bF bL bB bA bY bR oT oO oR bS) s.heap.size = A at hD ⊢
  have hA : ∀ q : Nat, s.heap.size ≤ q → A q := fun q h => by rw [← hAe]; exact Or.inr h
  have hS : va_S A s.heap s.heap [] := va_S.rf
  have hl := lv_entry ([.ref (h 0), .int f, .int g, .int q]) (n := 8) (Nat.le_of_ble_eq_true rfl)
  rw [lg_entry_eq]
  generalize (lg_sl ([.ref (h 0), .int f, .int g, .int q]) ++ List.replicate (8 - (lg_sl ([.ref (h 0), .int f, .int g, .int q])).length) Slot.unset).toArray = ls at hl ⊢
  have hl : lv_has ls 8 [(0, .ref (h 0)), (1, .int f), (2, .int g), (3, .int q)] := hl
  refine lv_aload_n hx hb d_M_call_0 rfl (lv_at hl 0 rfl) ?_
  refine lv_aload_n hx hb d_M_call_1 rfl (lv_at hl 0 rfl) ?_
  refine lv_iload_n hx hb d_M_call_2 rfl (lv_at hl 1 rfl) ?_
  have hFc := va_free (wc := wM h cI cZ xt (nI nF) (nI nC) xg (fun c => nI (pl c)) (fun c => nI (cf c)) (fun c => nI (ct c)) aK bF bL bB bA bY bR oT oO oR bS) hD hS hA [0, 1, 2, 3, 4, 5, 6, 7, 8, 9, 10, 11, 12, 13, 14] rfl
  refine va_calli (va_runV (As := [.int f]) (rest := [.ref (h 0)]) ⟨hx, hb, hml, hown, hk⟩ (m_isFunction l dC dI cI cZ h s.heap.size xt (nI nC) xg (fun c => nI (pl c)) (fun c => nI (cf c)) (fun c => nI (ct c)) aK bF bL bB bA bY bR oT oO oR bS nF f (by omega)) (cwV 1 hk g_M_isFunction rfl rfl rfl (by decide +kernel) ⟨Nat.le_of_ble_eq_true rfl, Nat.le_of_ble_eq_true rfl⟩) ⟨fun a U g mk q => by obtain ⟨q0, q1, qP, qK, qD⟩ := q; exact ⟨q0, q1, qP, va_K.moved (u := U) (U := U.calling g mk a) (Vm.Alike.refl U.vm) qK, qD⟩, va_recv hK hP (ci := 0) (q0 := 0) rfl rfl, fun U hU hW => ⟨rfl, by rw [hU], by rw [hU]; exact hP, va_K.moved hW.alike hK, hD.weaken (fun _ _ _ _ => trivial)⟩⟩ rfl rfl hl.1 rfl (lv_room (Nat.le_of_ble_eq_true rfl)) d_M_call_3 ⟨Nat.le_of_ble_eq_true rfl, Nat.le_of_ble_eq_true rfl⟩) hS (fun q _ h => hFc q h) hFc (fun r1 u9 t H1 locs ht hvm hw hB hz1 hk1 hS => ?_)
  obtain ⟨hP1, hK1, hD1⟩ := hB
  rw [ht] at hP1
  try dsimp only at hw
  obtain ⟨hP, hD⟩ := va_join (wr := []) (w1 := wM h cI cZ xt (nI nF) (nI nC) xg (fun c => nI (pl c)) (fun c => nI (cf c)) (fun c => nI (ct c)) aK bF bL bB bA bY bR oT oO oR bS) hP hD [0, 1, 2, 3, 4, 5, 6, 7, 8, 9, 10, 11, 12, 13, 14] [] rfl rfl (by decide) (by decide) hk1 hFc hP1 hD1
  generalize H1 = H at hP hS ⊢
  have hP : va_P (dC, dI) kls (wM h cI cZ xt (nI nF) (nI nC) xg (fun c => nI (pl c)) (fun c => nI (cf c)) (fun c => nI (ct c)) aK bF bL bB bA bY bR oT oO oR bS) H := hP
  have hD : va_D A (wM h cI cZ xt (nI nF) (nI nC) xg (fun c => nI (pl c)) (fun c => nI (cf c)) (fun c => nI (ct c)) aK bF bL bB bA bY bR oT oO oR bS) := hD
  rcases hw with ⟨hr9, i1, hi1, hfj⟩ | ⟨hr9, hno_f⟩
  · subst hr9
    subst hfj
    refine lv_if_eq (tgt := 17) hx hb d_M_call_6 (by decide) (fun c9 => absurd c9 (by decide +kernel)) (fun _ => ?_)
    refine lv_aload_n hx hb d_M_call_9 rfl (lv_at hl 0 rfl) ?_
    refine lv_iload_n hx hb d_M_call_10 rfl (lv_at hl 2 rfl) ?_
    have hFc := va_free (wc := wM h cI cZ xt (nI nF) (nI nC) xg (fun c => nI (pl c)) (fun c => nI (cf c)) (fun c => nI (ct c)) aK bF bL bB bA bY bR oT oO oR bS) hD hS hA [0, 1, 2, 3, 4, 5, 6, 7, 8, 9, 10, 11, 12, 13, 14] rfl
    refine va_calli (va_runV (As := [.int g]) (rest := [.ref (h 0)]) ⟨hx, hb, hml, hown, hk⟩ (m_isFunction l dC dI cI cZ h H.size xt (nI nC) xg (fun c => nI (pl c)) (fun c => nI (cf c)) (fun c => nI (ct c)) aK bF bL bB bA bY bR oT oO oR bS nF g (by omega)) (cwV 1 hk g_M_isFunction rfl rfl rfl (by decide +kernel) ⟨Nat.le_of_ble_eq_true rfl, Nat.le_of_ble_eq_true rfl⟩) ⟨fun a U g mk q => by obtain ⟨q0, q1, qP, qK, qD⟩ := q; exact ⟨q0, q1, qP, va_K.moved (u := U) (U := U.calling g mk a) (Vm.Alike.refl U.vm) qK, qD⟩, va_recv hK hP (ci := 0) (q0 := 0) rfl rfl, fun U hU hW => ⟨rfl, by rw [hU], by rw [hU]; exact hP, va_K.moved hW.alike hK, hD.weaken (fun _ _ _ _ => trivial)⟩⟩ rfl rfl hl.1 rfl (lv_room (Nat.le_of_ble_eq_true rfl)) d_M_call_11 ⟨Nat.le_of_ble_eq_true rfl, Nat.le_of_ble_eq_true rfl⟩) hS (fun q _ h => hFc q h) hFc (fun r2 u9 t H1 locs ht hvm hw hB hz1 hk1 hS => ?_)
    obtain ⟨hP1, hK1, hD1⟩ := hB
    rw [ht] at hP1
    try dsimp only at hw
    obtain ⟨hP, hD⟩ := va_join (wr := []) (w1 := wM h cI cZ xt (nI nF) (nI nC) xg (fun c => nI (pl c)) (fun c => nI (cf c)) (fun c => nI (ct c)) aK bF bL bB bA bY bR oT oO oR bS) hP hD [0, 1, 2, 3, 4, 5, 6, 7, 8, 9, 10, 11, 12, 13, 14] [] rfl rfl (by decide) (by decide) hk1 hFc hP1 hD1
    generalize H1 = H at hP hS ⊢
    have hP : va_P (dC, dI) kls (wM h cI cZ xt (nI nF) (nI nC) xg (fun c => nI (pl c)) (fun c => nI (cf c)) (fun c => nI (ct c)) aK bF bL bB bA bY bR oT oO oR bS) H := hP
    have hD : va_D A (wM h cI cZ xt (nI nF) (nI nC) xg (fun c => nI (pl c)) (fun c => nI (cf c)) (fun c => nI (ct c)) aK bF bL bB bA bY bR oT oO oR bS) := hD
    rcases hw with ⟨hr9, j1, hj1, hfj⟩ | ⟨hr9, hno_g⟩
    · subst hr9
      subst hfj
      refine lv_if_ne (tgt := 21) hx hb d_M_call_14 (by decide) (fun _ => ?_) (fun c9 => absurd c9 (by decide +kernel))
      refine lv_aload_n hx hb d_M_call_21 rfl (lv_at hl 0 rfl) ?_
      refine va_get (D := (dC, dI)) (ci := 0) (v := .int (nI nC)) (C := R_M) (T := F_M) (N := 18) hx hb hk k_M_f hown hK hP 0 rfl rfl 2 (by decide) (hk _ k_M_10) (fun _ h9 => h9) rfl d_M_call_22 ?_
      refine lv_bipush (v := nI 20) hx hb d_M_call_25 (by decide +kernel) ?_
      refine lv_icmp_ne (tgt := 34) hx hb d_M_call_27 (by decide) (fun c_27 => ?_) (fun c_27 => ?_)
      · have c_27 : ¬ nC = 20 := fun z9 => c_27 ((nI_eq (a := nC) (b := 20) (by omega) (by omega)).mpr z9)
        refine lv_iconst (v := nI 0) hx hb d_M_call_34 (by decide +kernel) ?_
        refine va_put (D := (dC, dI)) (ci := 0) (v := .int (nI 0)) (ty := .int) (C := R_M) (T := F_M) (N := 18) hx hb hk k_M_f t_M t_M_ok n_M hown hK hP hD hS 0 rfl rfl 0 (by decide) (hk _ k_M_8) (fun _ h9 => h9) rfl (by decide +kernel) rfl rfl (Nat.le_of_ble_eq_true rfl) d_M_call_35 (fun H locs hP hD hS => ?_)
        have hP : va_P (dC, dI) kls (wM h cI cZ (nI 0) (nI nF) (nI nC) xg (fun c => nI (pl c)) (fun c => nI (cf c)) (fun c => nI (ct c)) aK bF bL bB bA bY bR oT oO oR bS) H := hP
        have hD : va_D A (wM h cI cZ (nI 0) (nI nF) (nI nC) xg (fun c => nI (pl c)) (fun c => nI (cf c)) (fun c => nI (ct c)) aK bF bL bB bA bY bR oT oO oR bS) := hD
        refine lv_aload_n hx hb d_M_call_38 rfl (lv_at hl 0 rfl) ?_
        refine va_get (D := (dC, dI)) (ci := 0) (v := .int (nI 0)) (C := R_M) (T := F_M) (N := 18) hx hb hk k_M_f hown hK hP 0 rfl rfl 0 (by decide) (hk _ k_M_8) (fun _ h9 => h9) rfl d_M_call_39 ?_
        refine lv_if_le (tgt := 47) hx hb d_M_call_42 (by decide) (fun _ => ?_) (fun c9 => absurd c9 (by decide +kernel))
        have hp1 := hpl i1 hi1
        have hp2 := hpl j1 hj1
        refine lv_iconst (v := nI 0) hx hb d_M_call_47 (by decide +kernel) ?_
        refine lv_istore (lv' := [(4, .int (nI 0)), (0, .ref (h 0)), (1, .int (nI i1)), (2, .int (nI j1)), (3, .int q)]) hx hb d_M_call_48 hl (by decide) rfl (fun ls hl => ?_)
        refine lv_iconst (v := nI 0) hx hb d_M_call_50 (by decide +kernel) ?_
        refine lv_istore (lv' := [(5, .int (nI 0)), (4, .int (nI 0)), (0, .ref (h 0)), (1, .int (nI i1)), (2, .int (nI j1)), (3, .int q)]) hx hb d_M_call_51 hl (by decide) rfl (fun ls hl => ?_)
        have lp1 : ∀ (n_lp1 : Nat) (i : Nat), (i ≤ pl i1) → pl i1 - i < n_lp1 → ∀ (H : Heap) (locs : List Loc) (ls : Array Slot), va_P (dC, dI) kls (wM h cI cZ (nI 0) (nI nF) (nI nC) xg (fun c => nI (pl c)) (fun c => nI (cf c)) (fun c => nI (ct c)) aK bF bL bB bA bY bR oT oO oR bS) H → va_D A (wM h cI cZ (nI 0) (nI nF) (nI nC) xg (fun c => nI (pl c)) (fun c => nI (cf c)) (fun c => nI (ct c)) aK bF bL bB bA bY bR oT oO oR bS) → va_S A s.heap H locs → lv_has ls 8 [(0, .ref (h 0)), (1, .int (nI i1)), (2, .int (nI j1)), (3, .int q), (4, .int (pkI (fun x y => v3 (atN q x y)) (pl j1) i)), (5, .int (nI i))] → W p l e (headSpec w_M_call ({ frames := 1, cells := 0, slots := 0, locals := 22 })).room s m ([.ref (h 0), .int (nI i1), .int (nI j1), .int q]).toArray below meth c H locs 0 0 (MQ below (va_Qi (fun (r : Int32) (u : Int32 × Int32 × (Nat → Int32) × (Nat → Int32) × (Nat → Int32)) => ((¬ ((∃ i, i < nF ∧ (nI i1) = nI i) ∧ (∃ j, j < nF ∧ (nI j1) = nI j))) ∧ u.1 = nI 1 ∧ u.2.1 = nI nC ∧ u.2.2.1 = (fun c => nI (cf c)) ∧ u.2.2.2.1 = (fun c => nI (ct c)) ∧ u.2.2.2.2 = aK) ∨ (((∃ i, i < nF ∧ (nI i1) = nI i) ∧ (∃ j, j < nF ∧ (nI j1) = nI j)) ∧ nC = 20 ∧ u.1 = nI 2 ∧ u.2.1 = nI nC ∧ u.2.2.1 = (fun c => nI (cf c)) ∧ u.2.2.2.1 = (fun c => nI (ct c)) ∧ u.2.2.2.2 = aK) ∨ ∃ i j, i < nF ∧ j < nF ∧ (nI i1) = nI i ∧ (nI j1) = nI j ∧ nC < 20 ∧ u.1 = nI 0 ∧ u.2.1 = nI (nC + 1) ∧ u.2.2.1 = (fun c => nI (updN cf nC i c)) ∧ u.2.2.2.1 = (fun c => nI (updN ct nC j c)) ∧ u.2.2.2.2 = upd aK nC (clR q (pl i) (pl j)) ∧ r = nI nC) (fun (u : Int32 × Int32 × (Nat → Int32) × (Nat → Int32) × (Nat → Int32)) (t : State) => va_P (dC, dI) kls (wM h cI cZ u.1 (nI nF) u.2.1 xg (fun c => nI (pl c)) u.2.2.1 u.2.2.2.1 u.2.2.2.2 bF bL bB bA bY bR oT oO oR bS) t.heap ∧ va_K (dC, dI) kls (tyM cI cZ) t ∧ va_D (A) (wM h cI cZ u.1 (nI nF) u.2.1 xg (fun c => nI (pl c)) u.2.2.1 u.2.2.2.1 u.2.2.2.2 bF bL bB bA bY bR oT oO oR bS)) A) ([.ref (h 0), .int (nI i1), .int (nI j1), .int q]).toArray s 0 0 A) (F0 m 53 ls []) := by
          intro n_lp1
          induction n_lp1 with
          | zero => intro i hi hn; exact absurd hn (Nat.not_lt_zero _)
          | succ n_lp1 ih_lp1 =>
            intro i hi hn H locs ls hP hD hS hl
            refine lv_iload hx hb d_M_call_53 (lv_at hl 5 rfl) ?_
            refine lv_aload_n hx hb d_M_call_55 rfl (lv_at hl 0 rfl) ?_
            refine va_get (D := (dC, dI)) (ci := 0) (v := .ref (h 1)) (C := R_M) (T := F_M) (N := 18) hx hb hk k_M_f hown hK hP 0 rfl rfl 3 (by decide) (hk _ k_M_11) (fun _ h9 => h9) rfl d_M_call_56 ?_
            refine lv_iload_n hx hb d_M_call_59 rfl (lv_at hl 1 rfl) ?_
            refine va_iald hx hb hK hP 1 0 rfl rfl (pk_in i1 10 (by omega)) d_M_call_60 ?_
            refine lv_topi (fun z3 ez3 => ?_)
            obtain rfl : z3 = nI (pl i1) := ez3.trans (rd (f := fun c => nI (pl c)) (k := i1) (by omega))
            refine lv_icmp_ge (tgt := 128) hx hb d_M_call_61 (by decide) (fun c_61 => ?_) (fun c_61 => ?_)
            · have c_61 : pl i1 ≤ i := (nI_leI (a := pl i1) (b := i) (by omega) (by omega)).mp c_61
              have hie : i = pl i1 := by omega
              subst hie
              refine lv_aload_n hx hb d_M_call_128 rfl (lv_at hl 0 rfl) ?_
              refine va_get (D := (dC, dI)) (ci := 0) (v := .ref (h 2)) (C := R_M) (T := F_M) (N := 18) hx hb hk k_M_f hown hK hP 0 rfl rfl 4 (by decide) (hk _ k_M_12) (fun _ h9 => h9) rfl d_M_call_129 ?_
              refine lv_aload_n hx hb d_M_call_132 rfl (lv_at hl 0 rfl) ?_
              refine va_get (D := (dC, dI)) (ci := 0) (v := .int (nI nC)) (C := R_M) (T := F_M) (N := 18) hx hb hk k_M_f hown hK hP 0 rfl rfl 2 (by decide) (hk _ k_M_10) (fun _ h9 => h9) rfl d_M_call_133 ?_
              refine lv_iload_n hx hb d_M_call_136 rfl (lv_at hl 1 rfl) ?_
              refine va_iast hx hb hK hP hD hS 2 0 rfl rfl (pk_in nC 20 (by omega)) d_M_call_137 (fun H locs hP hD hS => ?_)
              rw [nI_clamp (n := nC) (by omega)] at hP hD
              rw [updN_eq] at hP hD
              have hP : va_P (dC, dI) kls (wM h cI cZ (nI 0) (nI nF) (nI nC) xg (fun c => nI (pl c)) (fun c => nI (updN cf nC i1 c)) (fun c => nI (ct c)) aK bF bL bB bA bY bR oT oO oR bS) H := hP
              have hD : va_D A (wM h cI cZ (nI 0) (nI nF) (nI nC) xg (fun c => nI (pl c)) (fun c => nI (updN cf nC i1 c)) (fun c => nI (ct c)) aK bF bL bB bA bY bR oT oO oR bS) := hD
              refine lv_aload_n hx hb d_M_call_138 rfl (lv_at hl 0 rfl) ?_
              refine va_get (D := (dC, dI)) (ci := 0) (v := .ref (h 3)) (C := R_M) (T := F_M) (N := 18) hx hb hk k_M_f hown hK hP 0 rfl rfl 5 (by decide) (hk _ k_M_13) (fun _ h9 => h9) rfl d_M_call_139 ?_
              refine lv_aload_n hx hb d_M_call_142 rfl (lv_at hl 0 rfl) ?_
              refine va_get (D := (dC, dI)) (ci := 0) (v := .int (nI nC)) (C := R_M) (T := F_M) (N := 18) hx hb hk k_M_f hown hK hP 0 rfl rfl 2 (by decide) (hk _ k_M_10) (fun _ h9 => h9) rfl d_M_call_143 ?_
              refine lv_iload_n hx hb d_M_call_146 rfl (lv_at hl 2 rfl) ?_
              refine va_iast hx hb hK hP hD hS 3 0 rfl rfl (pk_in nC 20 (by omega)) d_M_call_147 (fun H locs hP hD hS => ?_)
              rw [nI_clamp (n := nC) (by omega)] at hP hD
              rw [updN_eq] at hP hD
              have hP : va_P (dC, dI) kls (wM h cI cZ (nI 0) (nI nF) (nI nC) xg (fun c => nI (pl c)) (fun c => nI (updN cf nC i1 c)) (fun c => nI (updN ct nC j1 c)) aK bF bL bB bA bY bR oT oO oR bS) H := hP
              have hD : va_D A (wM h cI cZ (nI 0) (nI nF) (nI nC) xg (fun c => nI (pl c)) (fun c => nI (updN cf nC i1 c)) (fun c => nI (updN ct nC j1 c)) aK bF bL bB bA bY bR oT oO oR bS) := hD
              refine lv_aload_n hx hb d_M_call_148 rfl (lv_at hl 0 rfl) ?_
              refine va_get (D := (dC, dI)) (ci := 0) (v := .ref (h 4)) (C := R_M) (T := F_M) (N := 18) hx hb hk k_M_f hown hK hP 0 rfl rfl 6 (by decide) (hk _ k_M_14) (fun _ h9 => h9) rfl d_M_call_149 ?_
              refine lv_aload_n hx hb d_M_call_152 rfl (lv_at hl 0 rfl) ?_
              refine va_get (D := (dC, dI)) (ci := 0) (v := .int (nI nC)) (C := R_M) (T := F_M) (N := 18) hx hb hk k_M_f hown hK hP 0 rfl rfl 2 (by decide) (hk _ k_M_10) (fun _ h9 => h9) rfl d_M_call_153 ?_
              refine lv_iload hx hb d_M_call_156 (lv_at hl 4 rfl) ?_
              refine va_iast hx hb hK hP hD hS 4 0 rfl rfl (pk_in nC 20 (by omega)) d_M_call_158 (fun H locs hP hD hS => ?_)
              rw [nI_clamp (n := nC) (by omega)] at hP hD
              have hP : va_P (dC, dI) kls (wM h cI cZ (nI 0) (nI nF) (nI nC) xg (fun c => nI (pl c)) (fun c => nI (updN cf nC i1 c)) (fun c => nI (updN ct nC j1 c)) (upd aK nC (pkI (fun x y => v3 (atN q x y)) (pl j1) (pl i1))) bF bL bB bA bY bR oT oO oR bS) H := hP
              have hD : va_D A (wM h cI cZ (nI 0) (nI nF) (nI nC) xg (fun c => nI (pl c)) (fun c => nI (updN cf nC i1 c)) (fun c => nI (updN ct nC j1 c)) (upd aK nC (pkI (fun x y => v3 (atN q x y)) (pl j1) (pl i1))) bF bL bB bA bY bR oT oO oR bS) := hD
              refine lv_aload_n hx hb d_M_call_159 rfl (lv_at hl 0 rfl) ?_
              refine lv_dup hx hb d_M_call_160 rfl ?_
              refine va_get (D := (dC, dI)) (ci := 0) (v := .int (nI nC)) (C := R_M) (T := F_M) (N := 18) hx hb hk k_M_f hown hK hP 0 rfl rfl 2 (by decide) (hk _ k_M_10) (fun _ h9 => h9) rfl d_M_call_161 ?_
              refine lv_iconst (v := nI 1) hx hb d_M_call_164 (by decide +kernel) ?_
              refine lv_iadd hx hb d_M_call_165 ?_
              refine lv_topi (fun z4 ez4 => ?_)
              obtain rfl : z4 = nI (nC + 1) := ez4.trans (nI_add _ _)
              refine va_put (D := (dC, dI)) (ci := 0) (v := .int (nI (nC + 1))) (ty := .int) (C := R_M) (T := F_M) (N := 18) hx hb hk k_M_f t_M t_M_ok n_M hown hK hP hD hS 0 rfl rfl 2 (by decide) (hk _ k_M_10) (fun _ h9 => h9) rfl (by decide +kernel) rfl rfl (Nat.le_of_ble_eq_true rfl) d_M_call_166 (fun H locs hP hD hS => ?_)
              have hP : va_P (dC, dI) kls (wM h cI cZ (nI 0) (nI nF) (nI (nC + 1)) xg (fun c => nI (pl c)) (fun c => nI (updN cf nC i1 c)) (fun c => nI (updN ct nC j1 c)) (upd aK nC (pkI (fun x y => v3 (atN q x y)) (pl j1) (pl i1))) bF bL bB bA bY bR oT oO oR bS) H := hP
              have hD : va_D A (wM h cI cZ (nI 0) (nI nF) (nI (nC + 1)) xg (fun c => nI (pl c)) (fun c => nI (updN cf nC i1 c)) (fun c => nI (updN ct nC j1 c)) (upd aK nC (pkI (fun x y => v3 (atN q x y)) (pl j1) (pl i1))) bF bL bB bA bY bR oT oO oR bS) := hD
              refine lv_aload_n hx hb d_M_call_169 rfl (lv_at hl 0 rfl) ?_
              refine va_get (D := (dC, dI)) (ci := 0) (v := .int (nI (nC + 1))) (C := R_M) (T := F_M) (N := 18) hx hb hk k_M_f hown hK hP 0 rfl rfl 2 (by decide) (hk _ k_M_10) (fun _ h9 => h9) rfl d_M_call_170 ?_
              refine lv_iconst (v := nI 1) hx hb d_M_call_173 (by decide +kernel) ?_
              refine lv_isub hx hb d_M_call_174 ?_
              refine lv_topi (fun z5 ez5 => ?_)
              obtain rfl : z5 = nI nC := ez5.trans (pk_sub (by omega))
              exact W.iret (v := nI nC) hx hb hr (fun t ht hW => ⟨⟨nI nC, (nI 0, nI (nC + 1), fun c => nI (updN cf nC i1 c), fun c => nI (updN ct nC j1 c), upd aK nC (pkI (fun x y => v3 (atN q x y)) (pl j1) (pl i1))), rfl, Or.inr (Or.inr ⟨i1, j1, hi1, hj1, rfl, rfl, by omega, rfl, rfl, rfl, rfl, rfl, rfl⟩), by rw [ht]; exact hP, va_K.moved hW.alike hK, hD⟩, hS.F ht⟩) hS.2.2 d_M_call_175
            · have c_61 : ¬ pl i1 ≤ i := fun z9 => c_61 ((nI_leI (a := pl i1) (b := i) (by omega) (by omega)).mpr z9)
              refine lv_iconst (v := nI 0) hx hb d_M_call_64 (by decide +kernel) ?_
              refine lv_istore (lv' := [(6, .int (nI 0)), (0, .ref (h 0)), (1, .int (nI i1)), (2, .int (nI j1)), (3, .int q), (4, .int (pkI (fun x y => v3 (atN q x y)) (pl j1) i)), (5, .int (nI i))]) hx hb d_M_call_65 hl (by decide) rfl (fun ls hl => ?_)
              have lp2 : ∀ (n_lp2 : Nat) (j : Nat), (j ≤ pl j1) → pl j1 - j < n_lp2 → ∀ (H : Heap) (locs : List Loc) (ls : Array Slot), va_P (dC, dI) kls (wM h cI cZ (nI 0) (nI nF) (nI nC) xg (fun c => nI (pl c)) (fun c => nI (cf c)) (fun c => nI (ct c)) aK bF bL bB bA bY bR oT oO oR bS) H → va_D A (wM h cI cZ (nI 0) (nI nF) (nI nC) xg (fun c => nI (pl c)) (fun c => nI (cf c)) (fun c => nI (ct c)) aK bF bL bB bA bY bR oT oO oR bS) → va_S A s.heap H locs → lv_has ls 8 [(0, .ref (h 0)), (1, .int (nI i1)), (2, .int (nI j1)), (3, .int q), (4, .int (pkK (fun y => v3 (atN q i y)) i (pkI (fun x y => v3 (atN q x y)) (pl j1) i) j)), (5, .int (nI i)), (6, .int (nI j))] → W p l e (headSpec w_M_call ({ frames := 1, cells := 0, slots := 0, locals := 22 })).room s m ([.ref (h 0), .int (nI i1), .int (nI j1), .int q]).toArray below meth c H locs 0 0 (MQ below (va_Qi (fun (r : Int32) (u : Int32 × Int32 × (Nat → Int32) × (Nat → Int32) × (Nat → Int32)) => ((¬ ((∃ i, i < nF ∧ (nI i1) = nI i) ∧ (∃ j, j < nF ∧ (nI j1) = nI j))) ∧ u.1 = nI 1 ∧ u.2.1 = nI nC ∧ u.2.2.1 = (fun c => nI (cf c)) ∧ u.2.2.2.1 = (fun c => nI (ct c)) ∧ u.2.2.2.2 = aK) ∨ (((∃ i, i < nF ∧ (nI i1) = nI i) ∧ (∃ j, j < nF ∧ (nI j1) = nI j)) ∧ nC = 20 ∧ u.1 = nI 2 ∧ u.2.1 = nI nC ∧ u.2.2.1 = (fun c => nI (cf c)) ∧ u.2.2.2.1 = (fun c => nI (ct c)) ∧ u.2.2.2.2 = aK) ∨ ∃ i j, i < nF ∧ j < nF ∧ (nI i1) = nI i ∧ (nI j1) = nI j ∧ nC < 20 ∧ u.1 = nI 0 ∧ u.2.1 = nI (nC + 1) ∧ u.2.2.1 = (fun c => nI (updN cf nC i c)) ∧ u.2.2.2.1 = (fun c => nI (updN ct nC j c)) ∧ u.2.2.2.2 = upd aK nC (clR q (pl i) (pl j)) ∧ r = nI nC) (fun (u : Int32 × Int32 × (Nat → Int32) × (Nat → Int32) × (Nat → Int32)) (t : State) => va_P (dC, dI) kls (wM h cI cZ u.1 (nI nF) u.2.1 xg (fun c => nI (pl c)) u.2.2.1 u.2.2.2.1 u.2.2.2.2 bF bL bB bA bY bR oT oO oR bS) t.heap ∧ va_K (dC, dI) kls (tyM cI cZ) t ∧ va_D (A) (wM h cI cZ u.1 (nI nF) u.2.1 xg (fun c => nI (pl c)) u.2.2.1 u.2.2.2.1 u.2.2.2.2 bF bL bB bA bY bR oT oO oR bS)) A) ([.ref (h 0), .int (nI i1), .int (nI j1), .int q]).toArray s 0 0 A) (F0 m 67 ls []) := by
                intro n_lp2
                induction n_lp2 with
                | zero => intro j hj hn; exact absurd hn (Nat.not_lt_zero _)
                | succ n_lp2 ih_lp2 =>
                  intro j hj hn H locs ls hP hD hS hl
                  refine lv_iload hx hb d_M_call_67 (lv_at hl 6 rfl) ?_
                  refine lv_aload_n hx hb d_M_call_69 rfl (lv_at hl 0 rfl) ?_
                  refine va_get (D := (dC, dI)) (ci := 0) (v := .ref (h 1)) (C := R_M) (T := F_M) (N := 18) hx hb hk k_M_f hown hK hP 0 rfl rfl 3 (by decide) (hk _ k_M_11) (fun _ h9 => h9) rfl d_M_call_70 ?_
                  refine lv_iload_n hx hb d_M_call_73 rfl (lv_at hl 2 rfl) ?_
                  refine va_iald hx hb hK hP 1 0 rfl rfl (pk_in j1 10 (by omega)) d_M_call_74 ?_
                  refine lv_topi (fun z6 ez6 => ?_)
                  obtain rfl : z6 = nI (pl j1) := ez6.trans (rd (f := fun c => nI (pl c)) (k := j1) (by omega))
                  refine lv_icmp_ge (tgt := 122) hx hb d_M_call_75 (by decide) (fun c_75 => ?_) (fun c_75 => ?_)
                  · have c_75 : pl j1 ≤ j := (nI_leI (a := pl j1) (b := j) (by omega) (by omega)).mp c_75
                    have hje : j = pl j1 := by omega
                    subst hje
                    refine lv_iinc (v := nI (i + 1)) (lv' := [(5, .int (nI (i + 1))), (0, .ref (h 0)), (1, .int (nI i1)), (2, .int (nI j1)), (3, .int q), (4, .int (pkK (fun y => v3 (atN q i y)) i (pkI (fun x y => v3 (atN q x y)) (pl j1) i) (pl j1))), (6, .int (nI (pl j1)))]) hx hb d_M_call_122 hl (k := 5) rfl (nI_add i 1) (by decide) rfl (fun ls hl => ?_)
                    refine lv_goto (tgt := 53) hx hb d_M_call_125 (by decide) ?_
                    exact ih_lp1 (i + 1) (by omega) (by omega) _ _ _ hP hD hS (lv_sub hl [1, 2, 3, 4, 5, 0] rfl)
                  · have c_75 : ¬ pl j1 ≤ j := fun z9 => c_75 ((nI_leI (a := pl j1) (b := j) (by omega) (by omega)).mpr z9)
                    refine lv_iload_n hx hb d_M_call_78 rfl (lv_at hl 3 rfl) ?_
                    refine lv_iload hx hb d_M_call_79 (lv_at hl 5 rfl) ?_
                    refine lv_iload hx hb d_M_call_81 (lv_at hl 6 rfl) ?_
                    refine vp_callSi (W.runS (As := [.int q, .int (nI i), .int (nI j)]) (rest := []) ⟨hx, hb, hml, hown, hk⟩ (m_at l q i j (by omega) (by omega)) (cwS 3 hk g_M_at rfl rfl rfl (by decide +kernel) ⟨Nat.le_of_ble_eq_true rfl, Nat.le_of_ble_eq_true rfl⟩) ⟨fun a U g mk q => q, fun U hU hW => ⟨rfl, trivial⟩⟩ rfl rfl hl.1 rfl (lv_room (Nat.le_of_ble_eq_true rfl)) d_M_call_83 ⟨Nat.le_of_ble_eq_true rfl, Nat.le_of_ble_eq_true rfl⟩) (fun r7 hw => ?_)
                    subst hw
                    refine lv_istore (lv' := [(7, .int (nI (atN q i j))), (0, .ref (h 0)), (1, .int (nI i1)), (2, .int (nI j1)), (3, .int q), (4, .int (pkK (fun y => v3 (atN q i y)) i (pkI (fun x y => v3 (atN q x y)) (pl j1) i) j)), (5, .int (nI i)), (6, .int (nI j))]) hx hb d_M_call_86 hl (by decide) rfl (fun ls hl => ?_)
                    have hat := atN_lt q i j
                    refine lv_iload hx hb d_M_call_88 (lv_at hl 5 rfl) ?_
                    refine lv_iload hx hb d_M_call_90 (lv_at hl 0 rfl) ?_
                    refine lv_iconst (v := nI 3) hx hb d_M_call_92 (by decide +kernel) ?_
                    refine lv_icmp_ne (tgt := 100) hx hb d_M_call_93 (by decide) (fun c_93 => ?_) (fun c_93 => ?_)
                    · have c_93 : ¬ atN q i j = 3 := fun z9 => c_93 ((nI_eq (a := atN q i j) (b := 3) (by omega) (by omega)).mpr z9)
                      refine lv_iload hx hb d_M_call_100 (lv_at hl 0 rfl) ?_
                      refine lv_topi (fun z8 ez8 => ?_)
                      obtain rfl : z8 = nI (v3 (atN q i j)) := ez8.trans (congrArg nI (by unfold v3; first | (rw [if_pos c_93]; done) | (rw [if_neg c_93]; done)))
                      refine lv_bipush (v := nI 8) hx hb d_M_call_102 (by decide +kernel) ?_
                      refine lv_iload hx hb d_M_call_104 (lv_at hl 6 rfl) ?_
                      refine lv_imul hx hb d_M_call_106 ?_
                      refine lv_topi (fun z9 ez9 => ?_)
                      obtain rfl : z9 = nI (8 * i) := ez9.trans (pk_mul _ _)
                      refine lv_iconst (v := nI 2) hx hb d_M_call_107 (by decide +kernel) ?_
                      refine lv_iload hx hb d_M_call_108 (lv_at hl 7 rfl) ?_
                      refine lv_imul hx hb d_M_call_110 ?_
                      refine lv_topi (fun z10 ez10 => ?_)
                      obtain rfl : z10 = nI (2 * j) := ez10.trans (pk_mul _ _)
                      refine lv_iadd hx hb d_M_call_111 ?_
                      refine lv_topi (fun z11 ez11 => ?_)
                      obtain rfl : z11 = nI (8 * i + (2 * j)) := ez11.trans (nI_add _ _)
                      refine lv_ishl hx hb d_M_call_112 ?_
                      refine lv_topi (fun z12 ez12 => ?_)
                      obtain rfl : z12 = shl (nI (v3 (atN q i j))) (8 * i + (2 * j)) := ez12.trans (rfl)
                      refine lv_ior hx hb d_M_call_113 ?_
                      refine lv_topi (fun z13 ez13 => ?_)
                      obtain rfl : z13 = pkK (fun y => v3 (atN q i y)) i (pkI (fun x y => v3 (atN q x y)) (pl j1) i) (j + 1) := ez13.trans (rfl)
                      refine lv_istore (lv' := [(4, .int (pkK (fun y => v3 (atN q i y)) i (pkI (fun x y => v3 (atN q x y)) (pl j1) i) (j + 1))), (7, .int (nI (atN q i j))), (0, .ref (h 0)), (1, .int (nI i1)), (2, .int (nI j1)), (3, .int q), (5, .int (nI i)), (6, .int (nI j))]) hx hb d_M_call_114 hl (by decide) rfl (fun ls hl => ?_)
                      refine lv_iinc (v := nI (j + 1)) (lv' := [(6, .int (nI (j + 1))), (4, .int (pkK (fun y => v3 (atN q i y)) i (pkI (fun x y => v3 (atN q x y)) (pl j1) i) (j + 1))), (7, .int (nI (atN q i j))), (0, .ref (h 0)), (1, .int (nI i1)), (2, .int (nI j1)), (3, .int q), (5, .int (nI i))]) hx hb d_M_call_116 hl (k := 7) rfl (nI_add j 1) (by decide) rfl (fun ls hl => ?_)
                      refine lv_goto (tgt := 67) hx hb d_M_call_119 (by decide) ?_
                      exact ih_lp2 (j + 1) (by omega) (by omega) _ _ _ hP hD hS (lv_sub hl [3, 4, 5, 6, 1, 7, 0] rfl)
                    · have c_93 : atN q i j = 3 := (nI_eq (a := atN q i j) (b := 3) (by omega) (by omega)).mp c_93
                      refine lv_iconst (v := nI 2) hx hb d_M_call_96 (by decide +kernel) ?_
                      refine lv_goto (tgt := 102) hx hb d_M_call_97 (by decide) ?_
                      refine lv_topi (fun z14 ez14 => ?_)
                      obtain rfl : z14 = nI (v3 (atN q i j)) := ez14.trans (congrArg nI (by unfold v3; first | (rw [if_pos c_93]; done) | (rw [if_neg c_93]; done)))
                      refine lv_bipush (v := nI 8) hx hb d_M_call_102 (by decide +kernel) ?_
                      refine lv_iload hx hb d_M_call_104 (lv_at hl 6 rfl) ?_
                      refine lv_imul hx hb d_M_call_106 ?_
                      refine lv_topi (fun z15 ez15 => ?_)
                      obtain rfl : z15 = nI (8 * i) := ez15.trans (pk_mul _ _)
                      refine lv_iconst (v := nI 2) hx hb d_M_call_107 (by decide +kernel) ?_
                      refine lv_iload hx hb d_M_call_108 (lv_at hl 7 rfl) ?_
                      refine lv_imul hx hb d_M_call_110 ?_
                      refine lv_topi (fun z16 ez16 => ?_)
                      obtain rfl : z16 = nI (2 * j) := ez16.trans (pk_mul _ _)
                      refine lv_iadd hx hb d_M_call_111 ?_
                      refine lv_topi (fun z17 ez17 => ?_)
                      obtain rfl : z17 = nI (8 * i + (2 * j)) := ez17.trans (nI_add _ _)
                      refine lv_ishl hx hb d_M_call_112 ?_
                      refine lv_topi (fun z18 ez18 => ?_)
                      obtain rfl : z18 = shl (nI (v3 (atN q i j))) (8 * i + (2 * j)) := ez18.trans (rfl)
                      refine lv_ior hx hb d_M_call_113 ?_
                      refine lv_topi (fun z19 ez19 => ?_)
                      obtain rfl : z19 = pkK (fun y => v3 (atN q i y)) i (pkI (fun x y => v3 (atN q x y)) (pl j1) i) (j + 1) := ez19.trans (rfl)
                      refine lv_istore (lv' := [(4, .int (pkK (fun y => v3 (atN q i y)) i (pkI (fun x y => v3 (atN q x y)) (pl j1) i) (j + 1))), (7, .int (nI (atN q i j))), (0, .ref (h 0)), (1, .int (nI i1)), (2, .int (nI j1)), (3, .int q), (5, .int (nI i)), (6, .int (nI j))]) hx hb d_M_call_114 hl (by decide) rfl (fun ls hl => ?_)
                      refine lv_iinc (v := nI (j + 1)) (lv' := [(6, .int (nI (j + 1))), (4, .int (pkK (fun y => v3 (atN q i y)) i (pkI (fun x y => v3 (atN q x y)) (pl j1) i) (j + 1))), (7, .int (nI (atN q i j))), (0, .ref (h 0)), (1, .int (nI i1)), (2, .int (nI j1)), (3, .int q), (5, .int (nI i))]) hx hb d_M_call_116 hl (k := 7) rfl (nI_add j 1) (by decide) rfl (fun ls hl => ?_)
                      refine lv_goto (tgt := 67) hx hb d_M_call_119 (by decide) ?_
                      exact ih_lp2 (j + 1) (by omega) (by omega) _ _ _ hP hD hS (lv_sub hl [3, 4, 5, 6, 1, 7, 0] rfl)
              exact lp2 _ 0 (Nat.zero_le _) (Nat.lt_succ_self _) _ _ _ hP hD hS (lv_sub hl [1, 2, 3, 4, 5, 6, 0] rfl)
        exact lp1 _ 0 (Nat.zero_le _) (Nat.lt_succ_self _) _ _ _ hP hD hS (lv_sub hl [2, 3, 4, 5, 1, 0] rfl)
      · have c_27 : nC = 20 := (nI_eq (a := nC) (b := 20) (by omega) (by omega)).mp c_27
        refine lv_iconst (v := nI 2) hx hb d_M_call_30 (by decide +kernel) ?_
        refine lv_goto (tgt := 35) hx hb d_M_call_31 (by decide) ?_
        refine va_put (D := (dC, dI)) (ci := 0) (v := .int (nI 2)) (ty := .int) (C := R_M) (T := F_M) (N := 18) hx hb hk k_M_f t_M t_M_ok n_M hown hK hP hD hS 0 rfl rfl 0 (by decide) (hk _ k_M_8) (fun _ h9 => h9) rfl (by decide +kernel) rfl rfl (Nat.le_of_ble_eq_true rfl) d_M_call_35 (fun H locs hP hD hS => ?_)
        have hP : va_P (dC, dI) kls (wM h cI cZ (nI 2) (nI nF) (nI nC) xg (fun c => nI (pl c)) (fun c => nI (cf c)) (fun c => nI (ct c)) aK bF bL bB bA bY bR oT oO oR bS) H := hP
        have hD : va_D A (wM h cI cZ (nI 2) (nI nF) (nI nC) xg (fun c => nI (pl c)) (fun c => nI (cf c)) (fun c => nI (ct c)) aK bF bL bB bA bY bR oT oO oR bS) := hD
        refine lv_aload_n hx hb d_M_call_38 rfl (lv_at hl 0 rfl) ?_
        refine va_get (D := (dC, dI)) (ci := 0) (v := .int (nI 2)) (C := R_M) (T := F_M) (N := 18) hx hb hk k_M_f hown hK hP 0 rfl rfl 0 (by decide) (hk _ k_M_8) (fun _ h9 => h9) rfl d_M_call_39 ?_
        refine lv_if_le (tgt := 47) hx hb d_M_call_42 (by decide) (fun c9 => absurd c9 (by decide +kernel)) (fun _ => ?_)
        refine lv_iconst (v := nI 0) hx hb d_M_call_45 (by decide +kernel) ?_
        exact W.iret (v := nI 0) hx hb hr (fun t ht hW => ⟨⟨nI 0, (nI 2, nI nC, fun c => nI (cf c), fun c => nI (ct c), aK), rfl, Or.inr (Or.inl ⟨⟨⟨i1, hi1, rfl⟩, ⟨j1, hj1, rfl⟩⟩, c_27, rfl, rfl, rfl, rfl, rfl⟩), by rw [ht]; exact hP, va_K.moved hW.alike hK, hD⟩, hS.F ht⟩) hS.2.2 d_M_call_46
    · subst hr9
      refine lv_if_ne (tgt := 21) hx hb d_M_call_14 (by decide) (fun c9 => absurd c9 (by decide +kernel)) (fun _ => ?_)
      refine lv_iconst (v := nI 1) hx hb d_M_call_17 (by decide +kernel) ?_
      refine lv_goto (tgt := 35) hx hb d_M_call_18 (by decide) ?_
      refine va_put (D := (dC, dI)) (ci := 0) (v := .int (nI 1)) (ty := .int) (C := R_M) (T := F_M) (N := 18) hx hb hk k_M_f t_M t_M_ok n_M hown hK hP hD hS 0 rfl rfl 0 (by decide) (hk _ k_M_8) (fun _ h9 => h9) rfl (by decide +kernel) rfl rfl (Nat.le_of_ble_eq_true rfl) d_M_call_35 (fun H locs hP hD hS => ?_)
      have hP : va_P (dC, dI) kls (wM h cI cZ (nI 1) (nI nF) (nI nC) xg (fun c => nI (pl c)) (fun c => nI (cf c)) (fun c => nI (ct c)) aK bF bL bB bA bY bR oT oO oR bS) H := hP
      have hD : va_D A (wM h cI cZ (nI 1) (nI nF) (nI nC) xg (fun c => nI (pl c)) (fun c => nI (cf c)) (fun c => nI (ct c)) aK bF bL bB bA bY bR oT oO oR bS) := hD
      refine lv_aload_n hx hb d_M_call_38 rfl (lv_at hl 0 rfl) ?_
      refine va_get (D := (dC, dI)) (ci := 0) (v := .int (nI 1)) (C := R_M) (T := F_M) (N := 18) hx hb hk k_M_f hown hK hP 0 rfl rfl 0 (by decide) (hk _ k_M_8) (fun _ h9 => h9) rfl d_M_call_39 ?_
      refine lv_if_le (tgt := 47) hx hb d_M_call_42 (by decide) (fun c9 => absurd c9 (by decide +kernel)) (fun _ => ?_)
      refine lv_iconst (v := nI 0) hx hb d_M_call_45 (by decide +kernel) ?_
      have hq9 : ¬ ((∃ i, i < nF ∧ nI i1 = nI i) ∧ (∃ j, j < nF ∧ g = nI j)) := by
        rintro ⟨z1, z2⟩
        first
          | exact hno_f z1
          | exact hno_g z2
      exact W.iret (v := nI 0) hx hb hr (fun t ht hW => ⟨⟨nI 0, (nI 1, nI nC, fun c => nI (cf c), fun c => nI (ct c), aK), rfl, Or.inl ⟨hq9, rfl, rfl, rfl, rfl, rfl⟩, by rw [ht]; exact hP, va_K.moved hW.alike hK, hD⟩, hS.F ht⟩) hS.2.2 d_M_call_46
  · subst hr9
    refine lv_if_eq (tgt := 17) hx hb d_M_call_6 (by decide) (fun _ => ?_) (fun c9 => absurd c9 (by decide +kernel))
    refine lv_iconst (v := nI 1) hx hb d_M_call_17 (by decide +kernel) ?_
    refine lv_goto (tgt := 35) hx hb d_M_call_18 (by decide) ?_
    refine va_put (D := (dC, dI)) (ci := 0) (v := .int (nI 1)) (ty := .int) (C := R_M) (T := F_M) (N := 18) hx hb hk k_M_f t_M t_M_ok n_M hown hK hP hD hS 0 rfl rfl 0 (by decide) (hk _ k_M_8) (fun _ h9 => h9) rfl (by decide +kernel) rfl rfl (Nat.le_of_ble_eq_true rfl) d_M_call_35 (fun H locs hP hD hS => ?_)
    have hP : va_P (dC, dI) kls (wM h cI cZ (nI 1) (nI nF) (nI nC) xg (fun c => nI (pl c)) (fun c => nI (cf c)) (fun c => nI (ct c)) aK bF bL bB bA bY bR oT oO oR bS) H := hP
    have hD : va_D A (wM h cI cZ (nI 1) (nI nF) (nI nC) xg (fun c => nI (pl c)) (fun c => nI (cf c)) (fun c => nI (ct c)) aK bF bL bB bA bY bR oT oO oR bS) := hD
    refine lv_aload_n hx hb d_M_call_38 rfl (lv_at hl 0 rfl) ?_
    refine va_get (D := (dC, dI)) (ci := 0) (v := .int (nI 1)) (C := R_M) (T := F_M) (N := 18) hx hb hk k_M_f hown hK hP 0 rfl rfl 0 (by decide) (hk _ k_M_8) (fun _ h9 => h9) rfl d_M_call_39 ?_
    refine lv_if_le (tgt := 47) hx hb d_M_call_42 (by decide) (fun c9 => absurd c9 (by decide +kernel)) (fun _ => ?_)
    refine lv_iconst (v := nI 0) hx hb d_M_call_45 (by decide +kernel) ?_
    have hq9 : ¬ ((∃ i, i < nF ∧ f = nI i) ∧ (∃ j, j < nF ∧ g = nI j)) := by
      rintro ⟨z1, z2⟩
      first
        | exact hno_f z1
        | exact hno_g z2
    exact W.iret (v := nI 0) hx hb hr (fun t ht hW => ⟨⟨nI 0, (nI 1, nI nC, fun c => nI (cf c), fun c => nI (ct c), aK), rfl, Or.inl ⟨hq9, rfl, rfl, rfl, rfl, rfl⟩, by rw [ht]; exact hP, va_K.moved hW.alike hK, hD⟩, hS.F ht⟩) hS.2.2 d_M_call_46
set_option maxHeartbeats 4000000 in
set_option maxRecDepth 100000 in
theorem m_product (l : Launch) (dC : Nat → ClassId) (dI : Nat → Nat → Nat) (cI cZ : ClassId) (h : Nat → Nat) (sz : Nat) (xt xg : Int32) (aK bF bL bB bA bY bR oT oO oR bS : Nat → Int32) (nF nC : Nat) (pl cf ct : Nat → Nat) (x : Int64) (q : Int32) (hF : nF ≤ 10) (hC : nC ≤ 20) (hS0 : ∀ c, c < nC → cf c < nF ∧ ct c < nF) (hpl : ∀ i, i < nF → 1 ≤ pl i ∧ pl i ≤ 4) : Met l y_M_product w_M_product ({ frames := 2, cells := 0, slots := 0, locals := 51 }) (va_Pc [.ref (h 0), .long x, .int q] (fun U => U.heap.size = sz ∧ va_P (dC, dI) kls (wM h cI cZ xt (nI nF) (nI nC) xg (fun c => nI (pl c)) (fun c => nI (cf c)) (fun c => nI (ct c)) aK bF bL bB bA bY bR oT oO oR bS) U.heap ∧ va_K (dC, dI) kls (tyM cI cZ) U ∧ va_D (fun _ => True) (wM h cI cZ xt (nI nF) (nI nC) xg (fun c => nI (pl c)) (fun c => nI (cf c)) (fun c => nI (ct c)) aK bF bL bB bA bY bR oT oO oR bS))) (va_Qi (fun (r : Int32) (u : Int32) => u = nI 0 ∧ (((¬ ∃ j, 1 ≤ j ∧ j ≤ 12 ∧ q = nI j) ∧ r = -2) ∨ ∃ j, 1 ≤ j ∧ j ≤ 12 ∧ q = nI j ∧ ((∃ z, prN nC cf ct aK rj x j = some z ∧ r = z.1) ∨ (prN nC cf ct aK rj x j = none ∧ r = -2)))) (fun (u : Int32) (t : State) => va_P (dC, dI) kls (wM h cI cZ u (nI nF) (nI nC) xg (fun c => nI (pl c)) (fun c => nI (cf c)) (fun c => nI (ct c)) aK bF bL bB bA bY bR oT oO oR bS) t.heap ∧ va_K (dC, dI) kls (tyM cI cZ) t ∧ va_D (va_A (wM h cI cZ xt (nI nF) (nI nC) xg (fun c => nI (pl c)) (fun c => nI (cf c)) (fun c => nI (ct c)) aK bF bL bB bA bY bR oT oO oR bS) sz) (wM h cI cZ u (nI nF) (nI nC) xg (fun c => nI (pl c)) (fun c => nI (cf c)) (fun c => nI (ct c)) aK bF bL bB bA bY bR oT oO oR bS)) (va_A (wM h cI cZ xt (nI nF) (nI nC) xg (fun c => nI (pl c)) (fun c => nI (cf c)) (fun c => nI (ct c)) aK bF bL bB bA bY bR oT oO oR bS) sz)) 0 0 (va_A (wM h cI cZ xt (nI nF) (nI nC) xg (fun c => nI (pl c)) (fun c => nI (cf c)) (fun c => nI (ct c)) aK bF bL bB bA bY bR oT oO oR bS) sz) := by
  refine Met.ofW (cc := c_M_product) (maxL := 8) (ret := (some .int)) (by decide) rfl ?_
  intro p e s m args below meth c s₁ B hml hv
  obtain ⟨rfl, hsz, hP, hK, hD0⟩ := hv
  have hx := B.exec
  have hb := B.bytes
  have hr := B.returns
  have hts := atoms_spec (ws := w_M_product) B.pre
  have hk : ∀ w ∈ wMw, w.before _ s = true := fun w h => hts w (List.mem_cons_of_mem _ h)
  have hown : s.vm.findClass R_M = some m.cls := findClass_of_methodNamed B.named
  have hlocks := B.notSynchronized
  subst hsz
  have hD := hD0.self (sz := s.heap.size)
  generalize hAe : va_A (wM h cI cZ xt (nI nF) (nI nC) xg (fun c => nI (pl c)) (fun c => nI (cf c)) (fun c => nI (ct c)) aK bF bL bB bA bY bR oT oO oR bS) s.heap.size = A at hD ⊢
  have hA : ∀ q : Nat, s.heap.size ≤ q → A q := fun q h => by rw [← hAe]; exact Or.inr h
  have hS : va_S A s.heap s.heap [] := va_S.rf
  have hl := lv_entry ([.ref (h 0), .long x, .int q]) (n := 8) (Nat.le_of_ble_eq_true rfl)
  rw [lg_entry_eq]
  generalize (lg_sl ([.ref (h 0), .long x, .int q]) ++ List.replicate (8 - (lg_sl ([.ref (h 0), .long x, .int q])).length) Slot.unset).toArray = ls at hl ⊢
  have hl : lv_has ls 8 [(0, .ref (h 0)), (1, .long x), (3, .int q)] := hl
  refine lv_aload_n hx hb d_M_product_0 rfl (lv_at hl 0 rfl) ?_
  refine lv_iconst (v := nI 0) hx hb d_M_product_1 (by decide +kernel) ?_
  refine va_put (D := (dC, dI)) (ci := 0) (v := .int (nI 0)) (ty := .int) (C := R_M) (T := F_M) (N := 18) hx hb hk k_M_f t_M t_M_ok n_M hown hK hP hD hS 0 rfl rfl 0 (by decide) (hk _ k_M_8) (fun _ h9 => h9) rfl (by decide +kernel) rfl rfl (Nat.le_of_ble_eq_true rfl) d_M_product_2 (fun H locs hP hD hS => ?_)
  have hP : va_P (dC, dI) kls (wM h cI cZ (nI 0) (nI nF) (nI nC) xg (fun c => nI (pl c)) (fun c => nI (cf c)) (fun c => nI (ct c)) aK bF bL bB bA bY bR oT oO oR bS) H := hP
  have hD : va_D A (wM h cI cZ (nI 0) (nI nF) (nI nC) xg (fun c => nI (pl c)) (fun c => nI (cf c)) (fun c => nI (ct c)) aK bF bL bB bA bY bR oT oO oR bS) := hD
  refine lv_iload_n hx hb d_M_product_5 rfl (lv_at hl 2 rfl) ?_
  refine lv_iconst (v := nI 1) hx hb d_M_product_6 (by decide +kernel) ?_
  refine lv_icmp_lt (tgt := 16) hx hb d_M_product_7 (by decide) (fun c_7 => ?_) (fun c_7 => ?_)
  · refine lv_bipush (v := (-2)) hx hb d_M_product_16 (by decide +kernel) ?_
    exact W.iret (v := (-2)) hx hb hr (fun t ht hW => ⟨⟨(-2), nI 0, rfl, ⟨rfl, Or.inl ⟨no12 (by first | exact Or.inl c_7 | exact Or.inr c_13), rfl⟩⟩, by rw [ht]; exact hP, va_K.moved hW.alike hK, hD⟩, hS.F ht⟩) hS.2.2 d_M_product_18
  · refine lv_iload_n hx hb d_M_product_10 rfl (lv_at hl 2 rfl) ?_
    refine lv_bipush (v := nI 12) hx hb d_M_product_11 (by decide +kernel) ?_
    refine lv_icmp_le (tgt := 19) hx hb d_M_product_13 (by decide) (fun c_13 => ?_) (fun c_13 => ?_)
    · obtain ⟨n1, hn1, hn2, rfl⟩ := in12 c_7 c_13
      refine lv_iconst (v := nI 0) hx hb d_M_product_19 (by decide +kernel) ?_
      refine lv_istore (lv' := [(4, .int (nI 0)), (0, .ref (h 0)), (1, .long x), (3, .int (nI n1))]) hx hb d_M_product_20 hl (by decide) rfl (fun ls hl => ?_)
      refine lv_iconst (v := (-1)) hx hb d_M_product_22 (by decide +kernel) ?_
      refine lv_istore (lv' := [(5, .int (-1)), (4, .int (nI 0)), (0, .ref (h 0)), (1, .long x), (3, .int (nI n1))]) hx hb d_M_product_23 hl (by decide) rfl (fun ls hl => ?_)
      refine lv_iconst (v := nI 0) hx hb d_M_product_25 (by decide +kernel) ?_
      refine lv_istore (lv' := [(6, .int (nI 0)), (5, .int (-1)), (4, .int (nI 0)), (0, .ref (h 0)), (1, .long x), (3, .int (nI n1))]) hx hb d_M_product_26 hl (by decide) rfl (fun ls hl => ?_)
      have lp : ∀ (n_lp : Nat) (k : Nat) (al : Int32) (eN : Int32), (k ≤ n1) → (k = 0 ∨ ∃ z, prN nC cf ct aK rj x k = some z ∧ al = z.1 ∧ eN = nI z.2 ∧ z.2 < nF) → n1 - k < n_lp → ∀ (H : Heap) (locs : List Loc) (ls : Array Slot), va_P (dC, dI) kls (wM h cI cZ (nI 0) (nI nF) (nI nC) xg (fun c => nI (pl c)) (fun c => nI (cf c)) (fun c => nI (ct c)) aK bF bL bB bA bY bR oT oO oR bS) H → va_D A (wM h cI cZ (nI 0) (nI nF) (nI nC) xg (fun c => nI (pl c)) (fun c => nI (cf c)) (fun c => nI (ct c)) aK bF bL bB bA bY bR oT oO oR bS) → va_S A s.heap H locs → lv_has ls 8 [(0, .ref (h 0)), (1, .long x), (3, .int (nI n1)), (4, .int al), (5, .int eN), (6, .int (nI k))] → W p l e (headSpec w_M_product ({ frames := 2, cells := 0, slots := 0, locals := 51 })).room s m ([.ref (h 0), .long x, .int (nI n1)]).toArray below meth c H locs 0 0 (MQ below (va_Qi (fun (r : Int32) (u : Int32) => u = nI 0 ∧ (((¬ ∃ j, 1 ≤ j ∧ j ≤ 12 ∧ (nI n1) = nI j) ∧ r = -2) ∨ ∃ j, 1 ≤ j ∧ j ≤ 12 ∧ (nI n1) = nI j ∧ ((∃ z, prN nC cf ct aK rj x j = some z ∧ r = z.1) ∨ (prN nC cf ct aK rj x j = none ∧ r = -2)))) (fun (u : Int32) (t : State) => va_P (dC, dI) kls (wM h cI cZ u (nI nF) (nI nC) xg (fun c => nI (pl c)) (fun c => nI (cf c)) (fun c => nI (ct c)) aK bF bL bB bA bY bR oT oO oR bS) t.heap ∧ va_K (dC, dI) kls (tyM cI cZ) t ∧ va_D (A) (wM h cI cZ u (nI nF) (nI nC) xg (fun c => nI (pl c)) (fun c => nI (cf c)) (fun c => nI (ct c)) aK bF bL bB bA bY bR oT oO oR bS)) A) ([.ref (h 0), .long x, .int (nI n1)]).toArray s 0 0 A) (F0 m 28 ls []) := by
        intro n_lp
        induction n_lp with
        | zero => intro k al eN hk0 hst hn; exact absurd hn (Nat.not_lt_zero _)
        | succ n_lp ih_lp =>
          intro k al eN hk0 hst hn H locs ls hP hD hS hl
          have hkk : k ≤ 12 := by omega
          refine lv_iload hx hb d_M_product_28 (lv_at hl 5 rfl) ?_
          refine lv_iload_n hx hb d_M_product_30 rfl (lv_at hl 2 rfl) ?_
          refine lv_icmp_ge (tgt := 120) hx hb d_M_product_31 (by decide) (fun c_31 => ?_) (fun c_31 => ?_)
          · have c_31 : n1 ≤ k := (nI_leI (a := n1) (b := k) (by omega) (by omega)).mp c_31
            refine lv_iload hx hb d_M_product_120 (lv_at hl 3 rfl) ?_
            have hke : k = n1 := by omega
            have hq9 : ∃ z, prN nC cf ct aK rj x n1 = some z ∧ al = z.1 := by
              rcases hst with h0 | ⟨z, hz1, hz2, -, -⟩
              · omega
              · exact ⟨z, by rw [← hke]; exact hz1, hz2⟩
            exact W.iret (v := al) hx hb hr (fun t ht hW => ⟨⟨al, nI 0, rfl, ⟨rfl, Or.inr ⟨n1, hn1, hn2, rfl, Or.inl hq9⟩⟩, by rw [ht]; exact hP, va_K.moved hW.alike hK, hD⟩, hS.F ht⟩) hS.2.2 d_M_product_122
          · have c_31 : ¬ n1 ≤ k := fun z9 => c_31 ((nI_leI (a := n1) (b := k) (by omega) (by omega)).mpr z9)
            refine lv_lload_n hx hb d_M_product_34 rfl (lv_at hl 1 rfl) ?_
            refine lv_iconst (v := nI 5) hx hb d_M_product_35 (by decide +kernel) ?_
            refine lv_iload hx hb d_M_product_36 (lv_at hl 5 rfl) ?_
            refine lv_imul hx hb d_M_product_38 ?_
            refine lv_topi (fun z1 ez1 => ?_)
            obtain rfl : z1 = nI (5 * k) := ez1.trans (pk_mul _ _)
            refine lv_lshr (v := x >>> ((nI (5 * k)).toInt64 &&& 63)) hx hb d_M_product_39 rfl ?_
            refine lv_ldc2 (v := (31)) hx hb hown (hk _ k_M_105) d_M_product_40 ?_
            refine lv_land hx hb d_M_product_43 ?_
            refine lv_l2i (v := ((x >>> ((nI (5 * k)).toInt64 &&& 63)) &&& (31)).toInt32) hx hb d_M_product_44 rfl ?_
            refine lv_topi (fun z2 ez2 => ?_)
            obtain rfl : z2 = nI (numR x k) := ez2.trans (num_sar x (by omega))
            have hnl := numR_lt x k
            refine lv_istore (lv' := [(7, .int (nI (numR x k))), (0, .ref (h 0)), (1, .long x), (3, .int (nI n1)), (4, .int al), (5, .int eN), (6, .int (nI k))]) hx hb d_M_product_45 hl (by decide) rfl (fun ls hl => ?_)
            refine lv_iload hx hb d_M_product_47 (lv_at hl 0 rfl) ?_
            refine lv_aload_n hx hb d_M_product_49 rfl (lv_at hl 1 rfl) ?_
            refine va_get (D := (dC, dI)) (ci := 0) (v := .int (nI nC)) (C := R_M) (T := F_M) (N := 18) hx hb hk k_M_f hown hK hP 0 rfl rfl 2 (by decide) (hk _ k_M_10) (fun _ h9 => h9) rfl d_M_product_50 ?_
            refine lv_icmp_ge (tgt := 73) hx hb d_M_product_53 (by decide) (fun c_53 => ?_) (fun c_53 => ?_)
            · have c_53 : nC ≤ numR x k := (nI_leI (a := nC) (b := numR x k) (by omega) (by omega)).mp c_53
              refine lv_bipush (v := (-2)) hx hb d_M_product_73 (by decide +kernel) ?_
              have hbad9 : prN nC cf ct aK rj x (k + 1) = none := by
                rcases hst with rfl | ⟨z, hz1, rfl, rfl, hz4⟩
                · first
                    | (rw [prN, if_neg (show ¬ numR x 0 < nC by omega)])
                    | omega
                · rw [prN_s nC cf ct aK rj x (by first | omega | (rcases Nat.eq_zero_or_pos k with hk9 | hk9; subst hk9; simp [prN] at hz1; exact hk9)) hz1, if_neg]
                  rintro ⟨z1, z2⟩
                  first
                    | exact absurd z1 (by omega)
                    | (rw [z2] at c_70; exact c_70 rfl)
              have hq9 : prN nC cf ct aK rj x n1 = none := prN_none nC cf ct aK rj x (by omega) hbad9 (by omega)
              exact W.iret (v := (-2)) hx hb hr (fun t ht hW => ⟨⟨(-2), nI 0, rfl, ⟨rfl, Or.inr ⟨n1, hn1, hn2, rfl, Or.inr ⟨hq9, rfl⟩⟩⟩, by rw [ht]; exact hP, va_K.moved hW.alike hK, hD⟩, hS.F ht⟩) hS.2.2 d_M_product_75
            · have c_53 : ¬ nC ≤ numR x k := fun z9 => c_53 ((nI_leI (a := nC) (b := numR x k) (by omega) (by omega)).mpr z9)
              refine lv_iload hx hb d_M_product_56 (lv_at hl 6 rfl) ?_
              refine lv_if_le (tgt := 76) hx hb d_M_product_58 (by decide) (fun c_58 => ?_) (fun c_58 => ?_)
              · have c_58 : k ≤ 0 := (nI_leI (a := k) (b := 0) (by omega) (by omega)).mp c_58
                have hcn := hS0 (numR x k) (by omega)
                refine lv_iload hx hb d_M_product_76 (lv_at hl 6 rfl) ?_
                refine lv_if_ne (tgt := 91) hx hb d_M_product_78 (by decide) (fun c_78 => ?_) (fun c_78 => ?_)
                · have c_78 : ¬ k = 0 := fun z9 => c_78 ((nI_eq (a := k) (b := 0) (by omega) (by omega)).mpr z9)
                  refine lv_iload hx hb d_M_product_91 (lv_at hl 4 rfl) ?_
                  refine lv_aload_n hx hb d_M_product_93 rfl (lv_at hl 1 rfl) ?_
                  refine va_get (D := (dC, dI)) (ci := 0) (v := .ref (h 4)) (C := R_M) (T := F_M) (N := 18) hx hb hk k_M_f hown hK hP 0 rfl rfl 6 (by decide) (hk _ k_M_14) (fun _ h9 => h9) rfl d_M_product_94 ?_
                  refine lv_iload hx hb d_M_product_97 (lv_at hl 0 rfl) ?_
                  refine va_iald hx hb hK hP 4 0 rfl rfl (pk_in (numR x k) 20 (by omega)) d_M_product_99 ?_
                  refine lv_topi (fun z3 ez3 => ?_)
                  obtain rfl : z3 = aK (numR x k) := ez3.trans (rd (f := aK) (k := numR x k) (by omega))
                  refine vp_callSi (W.runS (As := [.int al, .int (aK (numR x k))]) (rest := []) ⟨hx, hb, hml, hown, hk⟩ (m_joined l al (aK (numR x k))) (cwS 2 hk g_M_joined rfl rfl rfl (by decide +kernel) ⟨Nat.le_of_ble_eq_true rfl, Nat.le_of_ble_eq_true rfl⟩) ⟨fun a U g mk q => q, fun U hU hW => ⟨rfl, trivial⟩⟩ rfl rfl hl.1 rfl (lv_room (Nat.le_of_ble_eq_true rfl)) d_M_product_100 ⟨Nat.le_of_ble_eq_true rfl, Nat.le_of_ble_eq_true rfl⟩) (fun r4 hw => ?_)
                  subst hw
                  refine lv_istore (lv' := [(4, .int (rj al (aK (numR x k)))), (7, .int (nI (numR x k))), (0, .ref (h 0)), (1, .long x), (3, .int (nI n1)), (5, .int eN), (6, .int (nI k))]) hx hb d_M_product_103 hl (by decide) rfl (fun ls hl => ?_)
                  refine lv_aload_n hx hb d_M_product_105 rfl (lv_at hl 2 rfl) ?_
                  refine va_get (D := (dC, dI)) (ci := 0) (v := .ref (h 3)) (C := R_M) (T := F_M) (N := 18) hx hb hk k_M_f hown hK hP 0 rfl rfl 5 (by decide) (hk _ k_M_13) (fun _ h9 => h9) rfl d_M_product_106 ?_
                  refine lv_iload hx hb d_M_product_109 (lv_at hl 1 rfl) ?_
                  refine va_iald hx hb hK hP 3 0 rfl rfl (pk_in (numR x k) 20 (by omega)) d_M_product_111 ?_
                  refine lv_topi (fun z5 ez5 => ?_)
                  obtain rfl : z5 = nI (ct (numR x k)) := ez5.trans (rd (f := fun c => nI (ct c)) (k := numR x k) (by omega))
                  refine lv_istore (lv' := [(5, .int (nI (ct (numR x k)))), (4, .int (rj al (aK (numR x k)))), (7, .int (nI (numR x k))), (0, .ref (h 0)), (1, .long x), (3, .int (nI n1)), (6, .int (nI k))]) hx hb d_M_product_112 hl (by decide) rfl (fun ls hl => ?_)
                  refine lv_iinc (v := nI (k + 1)) (lv' := [(6, .int (nI (k + 1))), (5, .int (nI (ct (numR x k)))), (4, .int (rj al (aK (numR x k)))), (7, .int (nI (numR x k))), (0, .ref (h 0)), (1, .long x), (3, .int (nI n1))]) hx hb d_M_product_114 hl (k := 6) rfl (nI_add k 1) (by decide) rfl (fun ls hl => ?_)
                  refine lv_goto (tgt := 28) hx hb d_M_product_117 (by decide) ?_
                  have hst2 : k + 1 = 0 ∨ ∃ z, prN nC cf ct aK rj x (k + 1) = some z ∧ rj al (aK (numR x k)) = z.1 ∧ nI (ct (numR x k)) = nI z.2 ∧ z.2 < nF := by
                    rcases hst with h0 | ⟨z, hz1, rfl, rfl, hz4⟩
                    · exact absurd h0 c_78
                    · refine Or.inr ⟨(rj z.1 (aK (numR x k)), ct (numR x k)), ?_, rfl, rfl, hcn.2⟩
                      rw [prN_s nC cf ct aK rj x (by omega) hz1, if_pos]
                      refine ⟨by omega, ?_⟩
                      first | exact (nI_eq (by omega) (by omega)).mp c_70 | omega
                  exact ih_lp (k + 1) (rj al (aK (numR x k))) (nI (ct (numR x k))) (by omega) (hst2) (by omega) _ _ _ hP hD hS (lv_sub hl [4, 5, 6, 2, 1, 0] rfl)
                · have c_78 : k = 0 := (nI_eq (a := k) (b := 0) (by omega) (by omega)).mp c_78
                  refine lv_aload_n hx hb d_M_product_81 rfl (lv_at hl 1 rfl) ?_
                  refine va_get (D := (dC, dI)) (ci := 0) (v := .ref (h 4)) (C := R_M) (T := F_M) (N := 18) hx hb hk k_M_f hown hK hP 0 rfl rfl 6 (by decide) (hk _ k_M_14) (fun _ h9 => h9) rfl d_M_product_82 ?_
                  refine lv_iload hx hb d_M_product_85 (lv_at hl 0 rfl) ?_
                  refine va_iald hx hb hK hP 4 0 rfl rfl (pk_in (numR x k) 20 (by omega)) d_M_product_87 ?_
                  refine lv_topi (fun z6 ez6 => ?_)
                  obtain rfl : z6 = aK (numR x k) := ez6.trans (rd (f := aK) (k := numR x k) (by omega))
                  refine lv_goto (tgt := 103) hx hb d_M_product_88 (by decide) ?_
                  refine lv_istore (lv' := [(4, .int (aK (numR x k))), (7, .int (nI (numR x k))), (0, .ref (h 0)), (1, .long x), (3, .int (nI n1)), (5, .int eN), (6, .int (nI k))]) hx hb d_M_product_103 hl (by decide) rfl (fun ls hl => ?_)
                  refine lv_aload_n hx hb d_M_product_105 rfl (lv_at hl 2 rfl) ?_
                  refine va_get (D := (dC, dI)) (ci := 0) (v := .ref (h 3)) (C := R_M) (T := F_M) (N := 18) hx hb hk k_M_f hown hK hP 0 rfl rfl 5 (by decide) (hk _ k_M_13) (fun _ h9 => h9) rfl d_M_product_106 ?_
                  refine lv_iload hx hb d_M_product_109 (lv_at hl 1 rfl) ?_
                  refine va_iald hx hb hK hP 3 0 rfl rfl (pk_in (numR x k) 20 (by omega)) d_M_product_111 ?_
                  refine lv_topi (fun z7 ez7 => ?_)
                  obtain rfl : z7 = nI (ct (numR x k)) := ez7.trans (rd (f := fun c => nI (ct c)) (k := numR x k) (by omega))
                  refine lv_istore (lv' := [(5, .int (nI (ct (numR x k)))), (4, .int (aK (numR x k))), (7, .int (nI (numR x k))), (0, .ref (h 0)), (1, .long x), (3, .int (nI n1)), (6, .int (nI k))]) hx hb d_M_product_112 hl (by decide) rfl (fun ls hl => ?_)
                  refine lv_iinc (v := nI (k + 1)) (lv' := [(6, .int (nI (k + 1))), (5, .int (nI (ct (numR x k)))), (4, .int (aK (numR x k))), (7, .int (nI (numR x k))), (0, .ref (h 0)), (1, .long x), (3, .int (nI n1))]) hx hb d_M_product_114 hl (k := 6) rfl (nI_add k 1) (by decide) rfl (fun ls hl => ?_)
                  refine lv_goto (tgt := 28) hx hb d_M_product_117 (by decide) ?_
                  have hk00 : k = 0 := by omega
                  subst hk00
                  have hst2 : 0 + 1 = 0 ∨ ∃ z, prN nC cf ct aK rj x (0 + 1) = some z ∧ aK (numR x 0) = z.1 ∧ nI (ct (numR x 0)) = nI z.2 ∧ z.2 < nF := Or.inr ⟨(aK (numR x 0), ct (numR x 0)), by rw [prN, if_pos (show numR x 0 < nC by omega)], rfl, rfl, hcn.2⟩
                  exact ih_lp (0 + 1) (aK (numR x 0)) (nI (ct (numR x 0))) (by omega) (hst2) (by omega) _ _ _ hP hD hS (lv_sub hl [4, 5, 6, 2, 1, 0] rfl)
              · have c_58 : ¬ k ≤ 0 := fun z9 => c_58 ((nI_leI (a := k) (b := 0) (by omega) (by omega)).mpr z9)
                have hcn := hS0 (numR x k) (by omega)
                refine lv_aload_n hx hb d_M_product_61 rfl (lv_at hl 1 rfl) ?_
                refine va_get (D := (dC, dI)) (ci := 0) (v := .ref (h 2)) (C := R_M) (T := F_M) (N := 18) hx hb hk k_M_f hown hK hP 0 rfl rfl 4 (by decide) (hk _ k_M_12) (fun _ h9 => h9) rfl d_M_product_62 ?_
                refine lv_iload hx hb d_M_product_65 (lv_at hl 0 rfl) ?_
                refine va_iald hx hb hK hP 2 0 rfl rfl (pk_in (numR x k) 20 (by omega)) d_M_product_67 ?_
                refine lv_topi (fun z8 ez8 => ?_)
                obtain rfl : z8 = nI (cf (numR x k)) := ez8.trans (rd (f := fun c => nI (cf c)) (k := numR x k) (by omega))
                refine lv_iload hx hb d_M_product_68 (lv_at hl 5 rfl) ?_
                refine lv_icmp_eq (tgt := 76) hx hb d_M_product_70 (by decide) (fun c_70 => ?_) (fun c_70 => ?_)
                · have hcn := hS0 (numR x k) (by omega)
                  refine lv_iload hx hb d_M_product_76 (lv_at hl 6 rfl) ?_
                  refine lv_if_ne (tgt := 91) hx hb d_M_product_78 (by decide) (fun c_78 => ?_) (fun c_78 => ?_)
                  · have c_78 : ¬ k = 0 := fun z9 => c_78 ((nI_eq (a := k) (b := 0) (by omega) (by omega)).mpr z9)
                    refine lv_iload hx hb d_M_product_91 (lv_at hl 4 rfl) ?_
                    refine lv_aload_n hx hb d_M_product_93 rfl (lv_at hl 1 rfl) ?_
                    refine va_get (D := (dC, dI)) (ci := 0) (v := .ref (h 4)) (C := R_M) (T := F_M) (N := 18) hx hb hk k_M_f hown hK hP 0 rfl rfl 6 (by decide) (hk _ k_M_14) (fun _ h9 => h9) rfl d_M_product_94 ?_
                    refine lv_iload hx hb d_M_product_97 (lv_at hl 0 rfl) ?_
                    refine va_iald hx hb hK hP 4 0 rfl rfl (pk_in (numR x k) 20 (by omega)) d_M_product_99 ?_
                    refine lv_topi (fun z9 ez9 => ?_)
                    obtain rfl : z9 = aK (numR x k) := ez9.trans (rd (f := aK) (k := numR x k) (by omega))
                    refine vp_callSi (W.runS (As := [.int al, .int (aK (numR x k))]) (rest := []) ⟨hx, hb, hml, hown, hk⟩ (m_joined l al (aK (numR x k))) (cwS 2 hk g_M_joined rfl rfl rfl (by decide +kernel) ⟨Nat.le_of_ble_eq_true rfl, Nat.le_of_ble_eq_true rfl⟩) ⟨fun a U g mk q => q, fun U hU hW => ⟨rfl, trivial⟩⟩ rfl rfl hl.1 rfl (lv_room (Nat.le_of_ble_eq_true rfl)) d_M_product_100 ⟨Nat.le_of_ble_eq_true rfl, Nat.le_of_ble_eq_true rfl⟩) (fun r10 hw => ?_)
                    subst hw
                    refine lv_istore (lv' := [(4, .int (rj al (aK (numR x k)))), (7, .int (nI (numR x k))), (0, .ref (h 0)), (1, .long x), (3, .int (nI n1)), (5, .int eN), (6, .int (nI k))]) hx hb d_M_product_103 hl (by decide) rfl (fun ls hl => ?_)
                    refine lv_aload_n hx hb d_M_product_105 rfl (lv_at hl 2 rfl) ?_
                    refine va_get (D := (dC, dI)) (ci := 0) (v := .ref (h 3)) (C := R_M) (T := F_M) (N := 18) hx hb hk k_M_f hown hK hP 0 rfl rfl 5 (by decide) (hk _ k_M_13) (fun _ h9 => h9) rfl d_M_product_106 ?_
                    refine lv_iload hx hb d_M_product_109 (lv_at hl 1 rfl) ?_
                    refine va_iald hx hb hK hP 3 0 rfl rfl (pk_in (numR x k) 20 (by omega)) d_M_product_111 ?_
                    refine lv_topi (fun z11 ez11 => ?_)
                    obtain rfl : z11 = nI (ct (numR x k)) := ez11.trans (rd (f := fun c => nI (ct c)) (k := numR x k) (by omega))
                    refine lv_istore (lv' := [(5, .int (nI (ct (numR x k)))), (4, .int (rj al (aK (numR x k)))), (7, .int (nI (numR x k))), (0, .ref (h 0)), (1, .long x), (3, .int (nI n1)), (6, .int (nI k))]) hx hb d_M_product_112 hl (by decide) rfl (fun ls hl => ?_)
                    refine lv_iinc (v := nI (k + 1)) (lv' := [(6, .int (nI (k + 1))), (5, .int (nI (ct (numR x k)))), (4, .int (rj al (aK (numR x k)))), (7, .int (nI (numR x k))), (0, .ref (h 0)), (1, .long x), (3, .int (nI n1))]) hx hb d_M_product_114 hl (k := 6) rfl (nI_add k 1) (by decide) rfl (fun ls hl => ?_)
                    refine lv_goto (tgt := 28) hx hb d_M_product_117 (by decide) ?_
                    have hst2 : k + 1 = 0 ∨ ∃ z, prN nC cf ct aK rj x (k + 1) = some z ∧ rj al (aK (numR x k)) = z.1 ∧ nI (ct (numR x k)) = nI z.2 ∧ z.2 < nF := by
                      rcases hst with h0 | ⟨z, hz1, rfl, rfl, hz4⟩
                      · exact absurd h0 c_78
                      · refine Or.inr ⟨(rj z.1 (aK (numR x k)), ct (numR x k)), ?_, rfl, rfl, hcn.2⟩
                        rw [prN_s nC cf ct aK rj x (by omega) hz1, if_pos]
                        refine ⟨by omega, ?_⟩
                        first | exact (nI_eq (by omega) (by omega)).mp c_70 | omega
                    exact ih_lp (k + 1) (rj al (aK (numR x k))) (nI (ct (numR x k))) (by omega) (hst2) (by omega) _ _ _ hP hD hS (lv_sub hl [4, 5, 6, 2, 1, 0] rfl)
                  · have c_78 : k = 0 := (nI_eq (a := k) (b := 0) (by omega) (by omega)).mp c_78
                    refine lv_aload_n hx hb d_M_product_81 rfl (lv_at hl 1 rfl) ?_
                    refine va_get (D := (dC, dI)) (ci := 0) (v := .ref (h 4)) (C := R_M) (T := F_M) (N := 18) hx hb hk k_M_f hown hK hP 0 rfl rfl 6 (by decide) (hk _ k_M_14) (fun _ h9 => h9) rfl d_M_product_82 ?_
                    refine lv_iload hx hb d_M_product_85 (lv_at hl 0 rfl) ?_
                    refine va_iald hx hb hK hP 4 0 rfl rfl (pk_in (numR x k) 20 (by omega)) d_M_product_87 ?_
                    refine lv_topi (fun z12 ez12 => ?_)
                    obtain rfl : z12 = aK (numR x k) := ez12.trans (rd (f := aK) (k := numR x k) (by omega))
                    refine lv_goto (tgt := 103) hx hb d_M_product_88 (by decide) ?_
                    refine lv_istore (lv' := [(4, .int (aK (numR x k))), (7, .int (nI (numR x k))), (0, .ref (h 0)), (1, .long x), (3, .int (nI n1)), (5, .int eN), (6, .int (nI k))]) hx hb d_M_product_103 hl (by decide) rfl (fun ls hl => ?_)
                    refine lv_aload_n hx hb d_M_product_105 rfl (lv_at hl 2 rfl) ?_
                    refine va_get (D := (dC, dI)) (ci := 0) (v := .ref (h 3)) (C := R_M) (T := F_M) (N := 18) hx hb hk k_M_f hown hK hP 0 rfl rfl 5 (by decide) (hk _ k_M_13) (fun _ h9 => h9) rfl d_M_product_106 ?_
                    refine lv_iload hx hb d_M_product_109 (lv_at hl 1 rfl) ?_
                    refine va_iald hx hb hK hP 3 0 rfl rfl (pk_in (numR x k) 20 (by omega)) d_M_product_111 ?_
                    refine lv_topi (fun z13 ez13 => ?_)
                    obtain rfl : z13 = nI (ct (numR x k)) := ez13.trans (rd (f := fun c => nI (ct c)) (k := numR x k) (by omega))
                    refine lv_istore (lv' := [(5, .int (nI (ct (numR x k)))), (4, .int (aK (numR x k))), (7, .int (nI (numR x k))), (0, .ref (h 0)), (1, .long x), (3, .int (nI n1)), (6, .int (nI k))]) hx hb d_M_product_112 hl (by decide) rfl (fun ls hl => ?_)
                    refine lv_iinc (v := nI (k + 1)) (lv' := [(6, .int (nI (k + 1))), (5, .int (nI (ct (numR x k)))), (4, .int (aK (numR x k))), (7, .int (nI (numR x k))), (0, .ref (h 0)), (1, .long x), (3, .int (nI n1))]) hx hb d_M_product_114 hl (k := 6) rfl (nI_add k 1) (by decide) rfl (fun ls hl => ?_)
                    refine lv_goto (tgt := 28) hx hb d_M_product_117 (by decide) ?_
                    have hk00 : k = 0 := by omega
                    subst hk00
                    have hst2 : 0 + 1 = 0 ∨ ∃ z, prN nC cf ct aK rj x (0 + 1) = some z ∧ aK (numR x 0) = z.1 ∧ nI (ct (numR x 0)) = nI z.2 ∧ z.2 < nF := Or.inr ⟨(aK (numR x 0), ct (numR x 0)), by rw [prN, if_pos (show numR x 0 < nC by omega)], rfl, rfl, hcn.2⟩
                    exact ih_lp (0 + 1) (aK (numR x 0)) (nI (ct (numR x 0))) (by omega) (hst2) (by omega) _ _ _ hP hD hS (lv_sub hl [4, 5, 6, 2, 1, 0] rfl)
                · refine lv_bipush (v := (-2)) hx hb d_M_product_73 (by decide +kernel) ?_
                  have hbad9 : prN nC cf ct aK rj x (k + 1) = none := by
                    rcases hst with rfl | ⟨z, hz1, rfl, rfl, hz4⟩
                    · first
                        | (rw [prN, if_neg (show ¬ numR x 0 < nC by omega)])
                        | omega
                    · rw [prN_s nC cf ct aK rj x (by first | omega | (rcases Nat.eq_zero_or_pos k with hk9 | hk9; subst hk9; simp [prN] at hz1; exact hk9)) hz1, if_neg]
                      rintro ⟨z1, z2⟩
                      first
                        | exact absurd z1 (by omega)
                        | (rw [z2] at c_70; exact c_70 rfl)
                  have hq9 : prN nC cf ct aK rj x n1 = none := prN_none nC cf ct aK rj x (by omega) hbad9 (by omega)
                  exact W.iret (v := (-2)) hx hb hr (fun t ht hW => ⟨⟨(-2), nI 0, rfl, ⟨rfl, Or.inr ⟨n1, hn1, hn2, rfl, Or.inr ⟨hq9, rfl⟩⟩⟩, by rw [ht]; exact hP, va_K.moved hW.alike hK, hD⟩, hS.F ht⟩) hS.2.2 d_M_product_75
      exact lp _ 0 (nI 0) (-1) (Nat.zero_le _) (Or.inl rfl) (Nat.lt_succ_self _) _ _ _ hP hD hS (lv_sub hl [3, 4, 5, 2, 1, 0] rfl)
    · refine lv_bipush (v := (-2)) hx hb d_M_product_16 (by decide +kernel) ?_
      exact W.iret (v := (-2)) hx hb hr (fun t ht hW => ⟨⟨(-2), nI 0, rfl, ⟨rfl, Or.inl ⟨no12 (by first | exact Or.inl c_7 | exact Or.inr c_13), rfl⟩⟩, by rw [ht]; exact hP, va_K.moved hW.alike hK, hD⟩, hS.F ht⟩) hS.2.2 d_M_product_18
end
