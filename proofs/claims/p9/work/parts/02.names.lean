def R_M : String := "RecursionProofsModel"
def F_M : u_T := fun k => match k with
  | 0 => ("RecursionProofsModel", "thrown", "I", false)
  | 1 => ("RecursionProofsModel", "functions", "I", false)
  | 2 => ("RecursionProofsModel", "calls", "I", false)
  | 3 => ("RecursionProofsModel", "places", "[I", true)
  | 4 => ("RecursionProofsModel", "from", "[I", true)
  | 5 => ("RecursionProofsModel", "to", "[I", true)
  | 6 => ("RecursionProofsModel", "known", "[I", true)
  | 7 => ("RecursionProofsModel", "graphs", "I", false)
  | 8 => ("RecursionProofsModel", "first", "[I", true)
  | 9 => ("RecursionProofsModel", "last", "[I", true)
  | 10 => ("RecursionProofsModel", "bits", "[I", true)
  | 11 => ("RecursionProofsModel", "ahead", "[I", true)
  | 12 => ("RecursionProofsModel", "by", "[I", true)
  | 13 => ("RecursionProofsModel", "row", "[I", true)
  | 14 => ("RecursionProofsModel", "taken", "[Z", true)
  | 15 => ("RecursionProofsModel", "open", "[Z", true)
  | 16 => ("RecursionProofsModel", "order", "[I", true)
  | _ => ("RecursionProofsModel", "sorted", "[I", true)
def t_M : Nat → FieldType := fun k => match k with
  | 0 => .int
  | 1 => .int
  | 2 => .int
  | 3 => .array .int
  | 4 => .array .int
  | 5 => .array .int
  | 6 => .array .int
  | 7 => .int
  | 8 => .array .int
  | 9 => .array .int
  | 10 => .array .int
  | 11 => .array .int
  | 12 => .array .int
  | 13 => .array .int
  | 14 => .array .boolean
  | 15 => .array .boolean
  | 16 => .array .int
  | _ => .array .int
abbrev f_M : List Cond := u_ws R_M F_M 18
theorem n_M : ∀ a, a < 18 → ∀ b, b < 18 → a ≠ b → (F_M a).2.1 ≠ (F_M b).2.1 := by decide +kernel
theorem t_M_ok : ∀ k, k < 18 → parseFieldDescriptor (F_M k).2.2.1 = some (t_M k) := by decide +kernel
def R_P : String := "RecursionProofs$Program"
def F_P : u_T := fun k => match k with
  | 0 => ("RecursionProofs$Program", "placesOf", "[I", true)
  | 1 => ("RecursionProofs$Program", "from", "[I", true)
  | 2 => ("RecursionProofs$Program", "to", "[I", true)
  | 3 => ("RecursionProofs$Program", "known", "[I", true)
  | 4 => ("RecursionProofs$Program", "functions", "I", false)
  | _ => ("RecursionProofs$Program", "calls", "I", false)
def t_P : Nat → FieldType := fun k => match k with
  | 0 => .array .int
  | 1 => .array .int
  | 2 => .array .int
  | 3 => .array .int
  | 4 => .int
  | _ => .int
abbrev f_P : List Cond := u_ws R_P F_P 6
theorem n_P : ∀ a, a < 6 → ∀ b, b < 6 → a ≠ b → (F_P a).2.1 ≠ (F_P b).2.1 := by decide +kernel
theorem t_P_ok : ∀ k, k < 6 → parseFieldDescriptor (F_P k).2.2.1 = some (t_P k) := by decide +kernel
def R_C : String := "RecursionProofs$Closure"
def F_C : u_T := fun k => match k with
  | 0 => ("RecursionProofs$Closure", "bits", "[I", true)
  | 1 => ("RecursionProofs$Closure", "end", "[I", true)
  | 2 => ("RecursionProofs$Closure", "ahead", "[I", true)
  | 3 => ("RecursionProofs$Closure", "lastCall", "[I", true)
  | 4 => ("RecursionProofs$Closure", "nextInChain", "[I", true)
  | 5 => ("RecursionProofs$Closure", "chains", "[I", true)
  | 6 => ("RecursionProofs$Closure", "start", "[I", true)
  | 7 => ("RecursionProofs$Closure", "badRow", "[I", true)
  | 8 => ("RecursionProofs$Closure", "count", "I", false)
  | 9 => ("RecursionProofs$Closure", "tooMany", "Z", false)
  | _ => ("RecursionProofs$Closure", "gathered", "Z", false)
def t_C : Nat → FieldType := fun k => match k with
  | 0 => .array .int
  | 1 => .array .int
  | 2 => .array .int
  | 3 => .array .int
  | 4 => .array .int
  | 5 => .array .int
  | 6 => .array .int
  | 7 => .array .int
  | 8 => .int
  | 9 => .boolean
  | _ => .boolean
abbrev f_C : List Cond := u_ws R_C F_C 11
theorem n_C : ∀ a, a < 11 → ∀ b, b < 11 → a ≠ b → (F_C a).2.1 ≠ (F_C b).2.1 := by decide +kernel
theorem t_C_ok : ∀ k, k < 11 → parseFieldDescriptor (F_C k).2.2.1 = some (t_C k) := by decide +kernel
def R_O : String := "RecursionProofs$Order"
def F_O : u_T := fun k => match k with
  | 0 => ("RecursionProofs$Order", "taken", "[I", true)
  | _ => ("RecursionProofs$Order", "many", "I", false)
def t_O : Nat → FieldType := fun k => match k with
  | 0 => .array .int
  | _ => .int
abbrev f_O : List Cond := u_ws R_O F_O 2
theorem n_O : ∀ a, a < 2 → ∀ b, b < 2 → a ≠ b → (F_O a).2.1 ≠ (F_O b).2.1 := by decide +kernel
theorem t_O_ok : ∀ k, k < 2 → parseFieldDescriptor (F_O k).2.2.1 = some (t_O k) := by decide +kernel
def R_X : String := "RecursionProofs"
def F_X : u_T := fun k => match k with
  | 0 => ("RecursionProofs", "program", "LRecursionProofs$Program;", true)
  | 1 => ("RecursionProofs", "closure", "LRecursionProofs$Closure;", true)
  | _ => ("RecursionProofs", "placeOrder", "LRecursionProofs$Order;", true)
def t_X : Nat → FieldType := fun k => match k with
  | 0 => .object "RecursionProofs$Program"
  | 1 => .object "RecursionProofs$Closure"
  | _ => .object "RecursionProofs$Order"
abbrev f_X : List Cond := u_ws R_X F_X 3
theorem n_X : ∀ a, a < 3 → ∀ b, b < 3 → a ≠ b → (F_X a).2.1 ≠ (F_X b).2.1 := by decide +kernel
theorem t_X_ok : ∀ k, k < 3 → parseFieldDescriptor (F_X k).2.2.1 = some (t_X k) := by decide +kernel
def R_G : String := "RecursionProofs$Graph"
/-- the classes whose objects the worlds hold -/
abbrev kls : List vw_C := [(R_M, F_M, 18), (R_P, F_P, 6), (R_C, F_C, 11), (R_O, F_O, 2), (R_X, F_X, 3)]
abbrev c_M_init : ByteArray := prog_7_method_1_code
def y_M_init : MethodName := ⟨R_M, "<init>", "()V"⟩
abbrev c_M_thrown : ByteArray := prog_7_method_2_code
def y_M_thrown : MethodName := ⟨R_M, "thrown", "()I"⟩
abbrev c_M_function : ByteArray := prog_7_method_4_code
def y_M_function : MethodName := ⟨R_M, "function", "(I)I"⟩
abbrev c_M_call : ByteArray := prog_7_method_6_code
def y_M_call : MethodName := ⟨R_M, "call", "(III)I"⟩
abbrev c_M_isFunction : ByteArray := prog_7_method_3_code
def y_M_isFunction : MethodName := ⟨R_M, "isFunction", "(I)Z"⟩
abbrev c_M_at : ByteArray := prog_7_method_5_code
def y_M_at : MethodName := ⟨R_M, "at", "(III)I"⟩
abbrev c_M_undo : ByteArray := prog_7_method_7_code
def y_M_undo : MethodName := ⟨R_M, "undo", "()Z"⟩
abbrev c_M_told : ByteArray := prog_7_method_8_code
def y_M_told : MethodName := ⟨R_M, "told", "(II)I"⟩
abbrev c_M_graphs : ByteArray := prog_7_method_14_code
def y_M_graphs : MethodName := ⟨R_M, "graphs", "(II)I"⟩
abbrev c_M_refused : ByteArray := prog_7_method_12_code
def y_M_refused : MethodName := ⟨R_M, "refused", "(ZZ)Z"⟩
abbrev c_M_find : ByteArray := prog_7_method_11_code
def y_M_find : MethodName := ⟨R_M, "find", "(I)Z"⟩
abbrev c_M_add : ByteArray := prog_7_method_10_code
def y_M_add : MethodName := ⟨R_M, "add", "(IIIII)V"⟩
abbrev c_M_joined : ByteArray := prog_7_method_9_code
def y_M_joined : MethodName := ⟨R_M, "joined", "(II)I"⟩
abbrev c_M_between : ByteArray := prog_7_method_13_code
def y_M_between : MethodName := ⟨R_M, "between", "(II)I"⟩
abbrev c_M_graph : ByteArray := prog_7_method_15_code
def y_M_graph : MethodName := ⟨R_M, "graph", "(III)I"⟩
abbrev c_M_isLess : ByteArray := prog_7_method_16_code
def y_M_isLess : MethodName := ⟨R_M, "isLess", "(II)Z"⟩
abbrev c_M_falls : ByteArray := prog_7_method_19_code
def y_M_falls : MethodName := ⟨R_M, "falls", "(I)Z"⟩
abbrev c_M_fallsAt : ByteArray := prog_7_method_18_code
def y_M_fallsAt : MethodName := ⟨R_M, "fallsAt", "(I)Z"⟩
abbrev c_M_isBad : ByteArray := prog_7_method_17_code
def y_M_isBad : MethodName := ⟨R_M, "isBad", "(I)Z"⟩
abbrev c_M_isSafe : ByteArray := prog_7_method_21_code
def y_M_isSafe : MethodName := ⟨R_M, "isSafe", "(I)Z"⟩
abbrev c_M_reachedFrom : ByteArray := prog_7_method_20_code
def y_M_reachedFrom : MethodName := ⟨R_M, "reachedFrom", "(I)I"⟩
abbrev c_M_bad : ByteArray := prog_7_method_22_code
def y_M_bad : MethodName := ⟨R_M, "bad", "(II)I"⟩
abbrev c_M_order : ByteArray := prog_7_method_25_code
def y_M_order : MethodName := ⟨R_M, "order", "(II)I"⟩
abbrev c_M_findOrder : ByteArray := prog_7_method_24_code
def y_M_findOrder : MethodName := ⟨R_M, "findOrder", "(I)I"⟩
abbrev c_M_mayTake : ByteArray := prog_7_method_23_code
def y_M_mayTake : MethodName := ⟨R_M, "mayTake", "(II)Z"⟩
abbrev c_M_reached : ByteArray := prog_7_method_26_code
def y_M_reached : MethodName := ⟨R_M, "reached", "(I)I"⟩
abbrev c_M_product : ByteArray := prog_7_method_27_code
def y_M_product : MethodName := ⟨R_M, "product", "(JI)I"⟩
abbrev c_M_about : ByteArray := prog_7_method_28_code
def y_M_about : MethodName := ⟨R_M, "about", "(I)I"⟩
/-- the words of the tables that the reference needs -/
abbrev wM0 : List Cond := [
  Cond.initialized R_M,
  Cond.instanceMethod objectInit,
  Cond.code objectInit ⟨#[0xb1]⟩ 1 none,
  Cond.arrayClass .int,
  Cond.instantiable R_M 18,
  Cond.instanceMethod y_M_init,
  Cond.code y_M_init c_M_init 1 none,
  Cond.methodLink R_M 1 objectInit,
  Cond.fieldLink R_M 53 R_M "thrown" "I",
  Cond.fieldLink R_M 57 R_M "functions" "I",
  Cond.fieldLink R_M 64 R_M "calls" "I",
  Cond.fieldLink R_M 7 R_M "places" "[I",
  Cond.fieldLink R_M 13 R_M "from" "[I",
  Cond.fieldLink R_M 16 R_M "to" "[I",
  Cond.fieldLink R_M 19 R_M "known" "[I",
  Cond.fieldLink R_M 71 R_M "graphs" "I",
  Cond.fieldLink R_M 22 R_M "first" "[I",
  Cond.fieldLink R_M 25 R_M "last" "[I",
  Cond.fieldLink R_M 28 R_M "bits" "[I",
  Cond.fieldLink R_M 31 R_M "ahead" "[I",
  Cond.fieldLink R_M 34 R_M "by" "[I",
  Cond.fieldLink R_M 37 R_M "row" "[I",
  Cond.fieldLink R_M 40 R_M "taken" "[Z",
  Cond.fieldLink R_M 44 R_M "open" "[Z",
  Cond.fieldLink R_M 47 R_M "order" "[I",
  Cond.fieldLink R_M 50 R_M "sorted" "[I",
  Cond.arrayClass .boolean,
  Cond.instanceMethod y_M_thrown,
  Cond.selects R_M y_M_thrown y_M_thrown,
  Cond.code y_M_thrown c_M_thrown 1 (some .int),
  Cond.instanceMethod y_M_function,
  Cond.selects R_M y_M_function y_M_function,
  Cond.code y_M_function c_M_function 2 (some .int),
  Cond.instanceMethod y_M_call,
  Cond.selects R_M y_M_call y_M_call,
  Cond.code y_M_call c_M_call 8 (some .int),
  Cond.methodLink R_M 60 y_M_isFunction,
  Cond.instanceMethod y_M_isFunction,
  Cond.code y_M_isFunction c_M_isFunction 2 (some .boolean),
  Cond.methodLink R_M 67 y_M_at,
  Cond.static y_M_at,
  Cond.code y_M_at c_M_at 3 (some .int),
  Cond.instanceMethod y_M_undo,
  Cond.selects R_M y_M_undo y_M_undo,
  Cond.code y_M_undo c_M_undo 1 (some .boolean),
  Cond.instanceMethod y_M_told,
  Cond.selects R_M y_M_told y_M_told,
  Cond.code y_M_told c_M_told 3 (some .int),
  Cond.instanceMethod y_M_graphs,
  Cond.selects R_M y_M_graphs y_M_graphs,
  Cond.code y_M_graphs c_M_graphs 4 (some .int),
  Cond.methodLink R_M 85 y_M_refused,
  Cond.instanceMethod y_M_refused,
  Cond.code y_M_refused c_M_refused 3 (some .boolean),
  Cond.methodLink R_M 82 y_M_find,
  Cond.instanceMethod y_M_find,
  Cond.code y_M_find c_M_find 4 (some .boolean),
  Cond.methodLink R_M 74 y_M_add,
  Cond.instanceMethod y_M_add,
  Cond.code y_M_add c_M_add 7 none,
  Cond.methodLink R_M 78 y_M_joined,
  Cond.static y_M_joined,
  Cond.code y_M_joined c_M_joined 10 (some .int),
  Cond.methodLink R_M 89 y_M_between,
  Cond.instanceMethod y_M_between,
  Cond.code y_M_between c_M_between 5 (some .int),
  Cond.instanceMethod y_M_graph,
  Cond.selects R_M y_M_graph y_M_graph,
  Cond.code y_M_graph c_M_graph 7 (some .int),
  Cond.methodLink R_M 92 y_M_isLess,
  Cond.static y_M_isLess,
  Cond.code y_M_isLess c_M_isLess 2 (some .boolean),
  Cond.instanceMethod y_M_falls,
  Cond.selects R_M y_M_falls y_M_falls,
  Cond.code y_M_falls c_M_falls 2 (some .boolean),
  Cond.methodLink R_M 99 y_M_fallsAt,
  Cond.instanceMethod y_M_fallsAt,
  Cond.code y_M_fallsAt c_M_fallsAt 4 (some .boolean),
  Cond.methodLink R_M 96 y_M_isBad,
  Cond.static y_M_isBad,
  Cond.code y_M_isBad c_M_isBad 3 (some .boolean),
  Cond.instanceMethod y_M_isSafe,
  Cond.selects R_M y_M_isSafe y_M_isSafe,
  Cond.code y_M_isSafe c_M_isSafe 5 (some .boolean),
  Cond.methodLink R_M 102 y_M_reachedFrom,
  Cond.instanceMethod y_M_reachedFrom,
  Cond.code y_M_reachedFrom c_M_reachedFrom 5 (some .int),
  Cond.instanceMethod y_M_bad,
  Cond.selects R_M y_M_bad y_M_bad,
  Cond.code y_M_bad c_M_bad 7 (some .int),
  Cond.instanceMethod y_M_order,
  Cond.selects R_M y_M_order y_M_order,
  Cond.code y_M_order c_M_order 4 (some .int),
  Cond.methodLink R_M 109 y_M_findOrder,
  Cond.instanceMethod y_M_findOrder,
  Cond.code y_M_findOrder c_M_findOrder 6 (some .int),
  Cond.methodLink R_M 106 y_M_mayTake,
  Cond.instanceMethod y_M_mayTake,
  Cond.code y_M_mayTake c_M_mayTake 6 (some .boolean),
  Cond.instanceMethod y_M_reached,
  Cond.selects R_M y_M_reached y_M_reached,
  Cond.code y_M_reached c_M_reached 2 (some .int),
  Cond.instanceMethod y_M_product,
  Cond.selects R_M y_M_product y_M_product,
  Cond.code y_M_product c_M_product 8 (some .int),
  Cond.constantLong R_M 112 (31),
  Cond.instanceMethod y_M_about,
  Cond.selects R_M y_M_about y_M_about,
  Cond.code y_M_about c_M_about 2 (some .int),
  Cond.selects R_M y_M_isFunction y_M_isFunction,
  Cond.selects R_M y_M_refused y_M_refused,
  Cond.selects R_M y_M_find y_M_find,
  Cond.selects R_M y_M_add y_M_add,
  Cond.selects R_M y_M_between y_M_between,
  Cond.selects R_M y_M_fallsAt y_M_fallsAt,
  Cond.selects R_M y_M_reachedFrom y_M_reachedFrom,
  Cond.selects R_M y_M_findOrder y_M_findOrder,
  Cond.selects R_M y_M_mayTake y_M_mayTake]
abbrev wMw : List Cond := wM0 ++ f_M
theorem wMw_good : wMw.all goodWord = true := by decide +kernel
theorem k_M_0 : Cond.initialized R_M ∈ wMw := List.mem_append_left _ (List.mem_of_getElem? (i := 0) rfl)
theorem k_M_1 : Cond.instanceMethod objectInit ∈ wMw := List.mem_append_left _ (List.mem_of_getElem? (i := 1) rfl)
theorem k_M_2 : Cond.code objectInit ⟨#[0xb1]⟩ 1 none ∈ wMw := List.mem_append_left _ (List.mem_of_getElem? (i := 2) rfl)
theorem k_M_3 : Cond.arrayClass .int ∈ wMw := List.mem_append_left _ (List.mem_of_getElem? (i := 3) rfl)
theorem k_M_4 : Cond.instantiable R_M 18 ∈ wMw := List.mem_append_left _ (List.mem_of_getElem? (i := 4) rfl)
theorem k_M_5 : Cond.instanceMethod y_M_init ∈ wMw := List.mem_append_left _ (List.mem_of_getElem? (i := 5) rfl)
theorem k_M_6 : Cond.code y_M_init c_M_init 1 none ∈ wMw := List.mem_append_left _ (List.mem_of_getElem? (i := 6) rfl)
theorem k_M_7 : Cond.methodLink R_M 1 objectInit ∈ wMw := List.mem_append_left _ (List.mem_of_getElem? (i := 7) rfl)
theorem k_M_8 : Cond.fieldLink R_M 53 R_M "thrown" "I" ∈ wMw := List.mem_append_left _ (List.mem_of_getElem? (i := 8) rfl)
theorem k_M_9 : Cond.fieldLink R_M 57 R_M "functions" "I" ∈ wMw := List.mem_append_left _ (List.mem_of_getElem? (i := 9) rfl)
theorem k_M_10 : Cond.fieldLink R_M 64 R_M "calls" "I" ∈ wMw := List.mem_append_left _ (List.mem_of_getElem? (i := 10) rfl)
theorem k_M_11 : Cond.fieldLink R_M 7 R_M "places" "[I" ∈ wMw := List.mem_append_left _ (List.mem_of_getElem? (i := 11) rfl)
theorem k_M_12 : Cond.fieldLink R_M 13 R_M "from" "[I" ∈ wMw := List.mem_append_left _ (List.mem_of_getElem? (i := 12) rfl)
theorem k_M_13 : Cond.fieldLink R_M 16 R_M "to" "[I" ∈ wMw := List.mem_append_left _ (List.mem_of_getElem? (i := 13) rfl)
theorem k_M_14 : Cond.fieldLink R_M 19 R_M "known" "[I" ∈ wMw := List.mem_append_left _ (List.mem_of_getElem? (i := 14) rfl)
theorem k_M_15 : Cond.fieldLink R_M 71 R_M "graphs" "I" ∈ wMw := List.mem_append_left _ (List.mem_of_getElem? (i := 15) rfl)
theorem k_M_16 : Cond.fieldLink R_M 22 R_M "first" "[I" ∈ wMw := List.mem_append_left _ (List.mem_of_getElem? (i := 16) rfl)
theorem k_M_17 : Cond.fieldLink R_M 25 R_M "last" "[I" ∈ wMw := List.mem_append_left _ (List.mem_of_getElem? (i := 17) rfl)
theorem k_M_18 : Cond.fieldLink R_M 28 R_M "bits" "[I" ∈ wMw := List.mem_append_left _ (List.mem_of_getElem? (i := 18) rfl)
theorem k_M_19 : Cond.fieldLink R_M 31 R_M "ahead" "[I" ∈ wMw := List.mem_append_left _ (List.mem_of_getElem? (i := 19) rfl)
theorem k_M_20 : Cond.fieldLink R_M 34 R_M "by" "[I" ∈ wMw := List.mem_append_left _ (List.mem_of_getElem? (i := 20) rfl)
theorem k_M_21 : Cond.fieldLink R_M 37 R_M "row" "[I" ∈ wMw := List.mem_append_left _ (List.mem_of_getElem? (i := 21) rfl)
theorem k_M_22 : Cond.fieldLink R_M 40 R_M "taken" "[Z" ∈ wMw := List.mem_append_left _ (List.mem_of_getElem? (i := 22) rfl)
theorem k_M_23 : Cond.fieldLink R_M 44 R_M "open" "[Z" ∈ wMw := List.mem_append_left _ (List.mem_of_getElem? (i := 23) rfl)
theorem k_M_24 : Cond.fieldLink R_M 47 R_M "order" "[I" ∈ wMw := List.mem_append_left _ (List.mem_of_getElem? (i := 24) rfl)
theorem k_M_25 : Cond.fieldLink R_M 50 R_M "sorted" "[I" ∈ wMw := List.mem_append_left _ (List.mem_of_getElem? (i := 25) rfl)
theorem k_M_26 : Cond.arrayClass .boolean ∈ wMw := List.mem_append_left _ (List.mem_of_getElem? (i := 26) rfl)
theorem k_M_27 : Cond.instanceMethod y_M_thrown ∈ wMw := List.mem_append_left _ (List.mem_of_getElem? (i := 27) rfl)
theorem k_M_28 : Cond.selects R_M y_M_thrown y_M_thrown ∈ wMw := List.mem_append_left _ (List.mem_of_getElem? (i := 28) rfl)
theorem k_M_29 : Cond.code y_M_thrown c_M_thrown 1 (some .int) ∈ wMw := List.mem_append_left _ (List.mem_of_getElem? (i := 29) rfl)
theorem k_M_30 : Cond.instanceMethod y_M_function ∈ wMw := List.mem_append_left _ (List.mem_of_getElem? (i := 30) rfl)
theorem k_M_31 : Cond.selects R_M y_M_function y_M_function ∈ wMw := List.mem_append_left _ (List.mem_of_getElem? (i := 31) rfl)
theorem k_M_32 : Cond.code y_M_function c_M_function 2 (some .int) ∈ wMw := List.mem_append_left _ (List.mem_of_getElem? (i := 32) rfl)
theorem k_M_33 : Cond.instanceMethod y_M_call ∈ wMw := List.mem_append_left _ (List.mem_of_getElem? (i := 33) rfl)
theorem k_M_34 : Cond.selects R_M y_M_call y_M_call ∈ wMw := List.mem_append_left _ (List.mem_of_getElem? (i := 34) rfl)
theorem k_M_35 : Cond.code y_M_call c_M_call 8 (some .int) ∈ wMw := List.mem_append_left _ (List.mem_of_getElem? (i := 35) rfl)
theorem k_M_36 : Cond.methodLink R_M 60 y_M_isFunction ∈ wMw := List.mem_append_left _ (List.mem_of_getElem? (i := 36) rfl)
theorem k_M_37 : Cond.instanceMethod y_M_isFunction ∈ wMw := List.mem_append_left _ (List.mem_of_getElem? (i := 37) rfl)
theorem k_M_38 : Cond.code y_M_isFunction c_M_isFunction 2 (some .boolean) ∈ wMw := List.mem_append_left _ (List.mem_of_getElem? (i := 38) rfl)
theorem k_M_39 : Cond.methodLink R_M 67 y_M_at ∈ wMw := List.mem_append_left _ (List.mem_of_getElem? (i := 39) rfl)
theorem k_M_40 : Cond.static y_M_at ∈ wMw := List.mem_append_left _ (List.mem_of_getElem? (i := 40) rfl)
theorem k_M_41 : Cond.code y_M_at c_M_at 3 (some .int) ∈ wMw := List.mem_append_left _ (List.mem_of_getElem? (i := 41) rfl)
theorem k_M_42 : Cond.instanceMethod y_M_undo ∈ wMw := List.mem_append_left _ (List.mem_of_getElem? (i := 42) rfl)
theorem k_M_43 : Cond.selects R_M y_M_undo y_M_undo ∈ wMw := List.mem_append_left _ (List.mem_of_getElem? (i := 43) rfl)
theorem k_M_44 : Cond.code y_M_undo c_M_undo 1 (some .boolean) ∈ wMw := List.mem_append_left _ (List.mem_of_getElem? (i := 44) rfl)
theorem k_M_45 : Cond.instanceMethod y_M_told ∈ wMw := List.mem_append_left _ (List.mem_of_getElem? (i := 45) rfl)
theorem k_M_46 : Cond.selects R_M y_M_told y_M_told ∈ wMw := List.mem_append_left _ (List.mem_of_getElem? (i := 46) rfl)
theorem k_M_47 : Cond.code y_M_told c_M_told 3 (some .int) ∈ wMw := List.mem_append_left _ (List.mem_of_getElem? (i := 47) rfl)
theorem k_M_48 : Cond.instanceMethod y_M_graphs ∈ wMw := List.mem_append_left _ (List.mem_of_getElem? (i := 48) rfl)
theorem k_M_49 : Cond.selects R_M y_M_graphs y_M_graphs ∈ wMw := List.mem_append_left _ (List.mem_of_getElem? (i := 49) rfl)
theorem k_M_50 : Cond.code y_M_graphs c_M_graphs 4 (some .int) ∈ wMw := List.mem_append_left _ (List.mem_of_getElem? (i := 50) rfl)
theorem k_M_51 : Cond.methodLink R_M 85 y_M_refused ∈ wMw := List.mem_append_left _ (List.mem_of_getElem? (i := 51) rfl)
theorem k_M_52 : Cond.instanceMethod y_M_refused ∈ wMw := List.mem_append_left _ (List.mem_of_getElem? (i := 52) rfl)
theorem k_M_53 : Cond.code y_M_refused c_M_refused 3 (some .boolean) ∈ wMw := List.mem_append_left _ (List.mem_of_getElem? (i := 53) rfl)
theorem k_M_54 : Cond.methodLink R_M 82 y_M_find ∈ wMw := List.mem_append_left _ (List.mem_of_getElem? (i := 54) rfl)
theorem k_M_55 : Cond.instanceMethod y_M_find ∈ wMw := List.mem_append_left _ (List.mem_of_getElem? (i := 55) rfl)
theorem k_M_56 : Cond.code y_M_find c_M_find 4 (some .boolean) ∈ wMw := List.mem_append_left _ (List.mem_of_getElem? (i := 56) rfl)
theorem k_M_57 : Cond.methodLink R_M 74 y_M_add ∈ wMw := List.mem_append_left _ (List.mem_of_getElem? (i := 57) rfl)
theorem k_M_58 : Cond.instanceMethod y_M_add ∈ wMw := List.mem_append_left _ (List.mem_of_getElem? (i := 58) rfl)
theorem k_M_59 : Cond.code y_M_add c_M_add 7 none ∈ wMw := List.mem_append_left _ (List.mem_of_getElem? (i := 59) rfl)
theorem k_M_60 : Cond.methodLink R_M 78 y_M_joined ∈ wMw := List.mem_append_left _ (List.mem_of_getElem? (i := 60) rfl)
theorem k_M_61 : Cond.static y_M_joined ∈ wMw := List.mem_append_left _ (List.mem_of_getElem? (i := 61) rfl)
theorem k_M_62 : Cond.code y_M_joined c_M_joined 10 (some .int) ∈ wMw := List.mem_append_left _ (List.mem_of_getElem? (i := 62) rfl)
theorem k_M_63 : Cond.methodLink R_M 89 y_M_between ∈ wMw := List.mem_append_left _ (List.mem_of_getElem? (i := 63) rfl)
theorem k_M_64 : Cond.instanceMethod y_M_between ∈ wMw := List.mem_append_left _ (List.mem_of_getElem? (i := 64) rfl)
theorem k_M_65 : Cond.code y_M_between c_M_between 5 (some .int) ∈ wMw := List.mem_append_left _ (List.mem_of_getElem? (i := 65) rfl)
theorem k_M_66 : Cond.instanceMethod y_M_graph ∈ wMw := List.mem_append_left _ (List.mem_of_getElem? (i := 66) rfl)
theorem k_M_67 : Cond.selects R_M y_M_graph y_M_graph ∈ wMw := List.mem_append_left _ (List.mem_of_getElem? (i := 67) rfl)
theorem k_M_68 : Cond.code y_M_graph c_M_graph 7 (some .int) ∈ wMw := List.mem_append_left _ (List.mem_of_getElem? (i := 68) rfl)
theorem k_M_69 : Cond.methodLink R_M 92 y_M_isLess ∈ wMw := List.mem_append_left _ (List.mem_of_getElem? (i := 69) rfl)
theorem k_M_70 : Cond.static y_M_isLess ∈ wMw := List.mem_append_left _ (List.mem_of_getElem? (i := 70) rfl)
theorem k_M_71 : Cond.code y_M_isLess c_M_isLess 2 (some .boolean) ∈ wMw := List.mem_append_left _ (List.mem_of_getElem? (i := 71) rfl)
theorem k_M_72 : Cond.instanceMethod y_M_falls ∈ wMw := List.mem_append_left _ (List.mem_of_getElem? (i := 72) rfl)
theorem k_M_73 : Cond.selects R_M y_M_falls y_M_falls ∈ wMw := List.mem_append_left _ (List.mem_of_getElem? (i := 73) rfl)
theorem k_M_74 : Cond.code y_M_falls c_M_falls 2 (some .boolean) ∈ wMw := List.mem_append_left _ (List.mem_of_getElem? (i := 74) rfl)
theorem k_M_75 : Cond.methodLink R_M 99 y_M_fallsAt ∈ wMw := List.mem_append_left _ (List.mem_of_getElem? (i := 75) rfl)
theorem k_M_76 : Cond.instanceMethod y_M_fallsAt ∈ wMw := List.mem_append_left _ (List.mem_of_getElem? (i := 76) rfl)
theorem k_M_77 : Cond.code y_M_fallsAt c_M_fallsAt 4 (some .boolean) ∈ wMw := List.mem_append_left _ (List.mem_of_getElem? (i := 77) rfl)
theorem k_M_78 : Cond.methodLink R_M 96 y_M_isBad ∈ wMw := List.mem_append_left _ (List.mem_of_getElem? (i := 78) rfl)
theorem k_M_79 : Cond.static y_M_isBad ∈ wMw := List.mem_append_left _ (List.mem_of_getElem? (i := 79) rfl)
theorem k_M_80 : Cond.code y_M_isBad c_M_isBad 3 (some .boolean) ∈ wMw := List.mem_append_left _ (List.mem_of_getElem? (i := 80) rfl)
theorem k_M_81 : Cond.instanceMethod y_M_isSafe ∈ wMw := List.mem_append_left _ (List.mem_of_getElem? (i := 81) rfl)
theorem k_M_82 : Cond.selects R_M y_M_isSafe y_M_isSafe ∈ wMw := List.mem_append_left _ (List.mem_of_getElem? (i := 82) rfl)
theorem k_M_83 : Cond.code y_M_isSafe c_M_isSafe 5 (some .boolean) ∈ wMw := List.mem_append_left _ (List.mem_of_getElem? (i := 83) rfl)
theorem k_M_84 : Cond.methodLink R_M 102 y_M_reachedFrom ∈ wMw := List.mem_append_left _ (List.mem_of_getElem? (i := 84) rfl)
theorem k_M_85 : Cond.instanceMethod y_M_reachedFrom ∈ wMw := List.mem_append_left _ (List.mem_of_getElem? (i := 85) rfl)
theorem k_M_86 : Cond.code y_M_reachedFrom c_M_reachedFrom 5 (some .int) ∈ wMw := List.mem_append_left _ (List.mem_of_getElem? (i := 86) rfl)
theorem k_M_87 : Cond.instanceMethod y_M_bad ∈ wMw := List.mem_append_left _ (List.mem_of_getElem? (i := 87) rfl)
theorem k_M_88 : Cond.selects R_M y_M_bad y_M_bad ∈ wMw := List.mem_append_left _ (List.mem_of_getElem? (i := 88) rfl)
theorem k_M_89 : Cond.code y_M_bad c_M_bad 7 (some .int) ∈ wMw := List.mem_append_left _ (List.mem_of_getElem? (i := 89) rfl)
theorem k_M_90 : Cond.instanceMethod y_M_order ∈ wMw := List.mem_append_left _ (List.mem_of_getElem? (i := 90) rfl)
theorem k_M_91 : Cond.selects R_M y_M_order y_M_order ∈ wMw := List.mem_append_left _ (List.mem_of_getElem? (i := 91) rfl)
theorem k_M_92 : Cond.code y_M_order c_M_order 4 (some .int) ∈ wMw := List.mem_append_left _ (List.mem_of_getElem? (i := 92) rfl)
theorem k_M_93 : Cond.methodLink R_M 109 y_M_findOrder ∈ wMw := List.mem_append_left _ (List.mem_of_getElem? (i := 93) rfl)
theorem k_M_94 : Cond.instanceMethod y_M_findOrder ∈ wMw := List.mem_append_left _ (List.mem_of_getElem? (i := 94) rfl)
theorem k_M_95 : Cond.code y_M_findOrder c_M_findOrder 6 (some .int) ∈ wMw := List.mem_append_left _ (List.mem_of_getElem? (i := 95) rfl)
theorem k_M_96 : Cond.methodLink R_M 106 y_M_mayTake ∈ wMw := List.mem_append_left _ (List.mem_of_getElem? (i := 96) rfl)
theorem k_M_97 : Cond.instanceMethod y_M_mayTake ∈ wMw := List.mem_append_left _ (List.mem_of_getElem? (i := 97) rfl)
theorem k_M_98 : Cond.code y_M_mayTake c_M_mayTake 6 (some .boolean) ∈ wMw := List.mem_append_left _ (List.mem_of_getElem? (i := 98) rfl)
theorem k_M_99 : Cond.instanceMethod y_M_reached ∈ wMw := List.mem_append_left _ (List.mem_of_getElem? (i := 99) rfl)
theorem k_M_100 : Cond.selects R_M y_M_reached y_M_reached ∈ wMw := List.mem_append_left _ (List.mem_of_getElem? (i := 100) rfl)
theorem k_M_101 : Cond.code y_M_reached c_M_reached 2 (some .int) ∈ wMw := List.mem_append_left _ (List.mem_of_getElem? (i := 101) rfl)
theorem k_M_102 : Cond.instanceMethod y_M_product ∈ wMw := List.mem_append_left _ (List.mem_of_getElem? (i := 102) rfl)
theorem k_M_103 : Cond.selects R_M y_M_product y_M_product ∈ wMw := List.mem_append_left _ (List.mem_of_getElem? (i := 103) rfl)
theorem k_M_104 : Cond.code y_M_product c_M_product 8 (some .int) ∈ wMw := List.mem_append_left _ (List.mem_of_getElem? (i := 104) rfl)
theorem k_M_105 : Cond.constantLong R_M 112 (31) ∈ wMw := List.mem_append_left _ (List.mem_of_getElem? (i := 105) rfl)
theorem k_M_106 : Cond.instanceMethod y_M_about ∈ wMw := List.mem_append_left _ (List.mem_of_getElem? (i := 106) rfl)
theorem k_M_107 : Cond.selects R_M y_M_about y_M_about ∈ wMw := List.mem_append_left _ (List.mem_of_getElem? (i := 107) rfl)
theorem k_M_108 : Cond.code y_M_about c_M_about 2 (some .int) ∈ wMw := List.mem_append_left _ (List.mem_of_getElem? (i := 108) rfl)
theorem k_M_109 : Cond.selects R_M y_M_isFunction y_M_isFunction ∈ wMw := List.mem_append_left _ (List.mem_of_getElem? (i := 109) rfl)
theorem k_M_110 : Cond.selects R_M y_M_refused y_M_refused ∈ wMw := List.mem_append_left _ (List.mem_of_getElem? (i := 110) rfl)
theorem k_M_111 : Cond.selects R_M y_M_find y_M_find ∈ wMw := List.mem_append_left _ (List.mem_of_getElem? (i := 111) rfl)
theorem k_M_112 : Cond.selects R_M y_M_add y_M_add ∈ wMw := List.mem_append_left _ (List.mem_of_getElem? (i := 112) rfl)
theorem k_M_113 : Cond.selects R_M y_M_between y_M_between ∈ wMw := List.mem_append_left _ (List.mem_of_getElem? (i := 113) rfl)
theorem k_M_114 : Cond.selects R_M y_M_fallsAt y_M_fallsAt ∈ wMw := List.mem_append_left _ (List.mem_of_getElem? (i := 114) rfl)
theorem k_M_115 : Cond.selects R_M y_M_reachedFrom y_M_reachedFrom ∈ wMw := List.mem_append_left _ (List.mem_of_getElem? (i := 115) rfl)
theorem k_M_116 : Cond.selects R_M y_M_findOrder y_M_findOrder ∈ wMw := List.mem_append_left _ (List.mem_of_getElem? (i := 116) rfl)
theorem k_M_117 : Cond.selects R_M y_M_mayTake y_M_mayTake ∈ wMw := List.mem_append_left _ (List.mem_of_getElem? (i := 117) rfl)
theorem k_M_f : ∀ w ∈ f_M, w ∈ wMw := fun _ h => List.mem_append_right _ h
abbrev w_M_init : List Cond := .code y_M_init c_M_init 1 none :: wMw
abbrev w_M_thrown : List Cond := .code y_M_thrown c_M_thrown 1 (some .int) :: wMw
abbrev w_M_function : List Cond := .code y_M_function c_M_function 2 (some .int) :: wMw
abbrev w_M_call : List Cond := .code y_M_call c_M_call 8 (some .int) :: wMw
abbrev w_M_isFunction : List Cond := .code y_M_isFunction c_M_isFunction 2 (some .boolean) :: wMw
abbrev w_M_at : List Cond := .code y_M_at c_M_at 3 (some .int) :: wMw
abbrev w_M_undo : List Cond := .code y_M_undo c_M_undo 1 (some .boolean) :: wMw
abbrev w_M_told : List Cond := .code y_M_told c_M_told 3 (some .int) :: wMw
abbrev w_M_graphs : List Cond := .code y_M_graphs c_M_graphs 4 (some .int) :: wMw
abbrev w_M_refused : List Cond := .code y_M_refused c_M_refused 3 (some .boolean) :: wMw
abbrev w_M_find : List Cond := .code y_M_find c_M_find 4 (some .boolean) :: wMw
abbrev w_M_add : List Cond := .code y_M_add c_M_add 7 none :: wMw
abbrev w_M_joined : List Cond := .code y_M_joined c_M_joined 10 (some .int) :: wMw
abbrev w_M_between : List Cond := .code y_M_between c_M_between 5 (some .int) :: wMw
abbrev w_M_graph : List Cond := .code y_M_graph c_M_graph 7 (some .int) :: wMw
abbrev w_M_isLess : List Cond := .code y_M_isLess c_M_isLess 2 (some .boolean) :: wMw
abbrev w_M_falls : List Cond := .code y_M_falls c_M_falls 2 (some .boolean) :: wMw
abbrev w_M_fallsAt : List Cond := .code y_M_fallsAt c_M_fallsAt 4 (some .boolean) :: wMw
abbrev w_M_isBad : List Cond := .code y_M_isBad c_M_isBad 3 (some .boolean) :: wMw
abbrev w_M_isSafe : List Cond := .code y_M_isSafe c_M_isSafe 5 (some .boolean) :: wMw
abbrev w_M_reachedFrom : List Cond := .code y_M_reachedFrom c_M_reachedFrom 5 (some .int) :: wMw
abbrev w_M_bad : List Cond := .code y_M_bad c_M_bad 7 (some .int) :: wMw
abbrev w_M_order : List Cond := .code y_M_order c_M_order 4 (some .int) :: wMw
abbrev w_M_findOrder : List Cond := .code y_M_findOrder c_M_findOrder 6 (some .int) :: wMw
abbrev w_M_mayTake : List Cond := .code y_M_mayTake c_M_mayTake 6 (some .boolean) :: wMw
abbrev w_M_reached : List Cond := .code y_M_reached c_M_reached 2 (some .int) :: wMw
abbrev w_M_product : List Cond := .code y_M_product c_M_product 8 (some .int) :: wMw
abbrev w_M_about : List Cond := .code y_M_about c_M_about 2 (some .int) :: wMw
