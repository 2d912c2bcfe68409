abbrev c_X_init : ByteArray := prog_1_method_1_code
def y_X_init : MethodName := ⟨R_X, "<init>", "()V"⟩
abbrev c_P_init : ByteArray := prog_5_method_1_code
def y_P_init : MethodName := ⟨R_P, "<init>", "()V"⟩
abbrev c_C_init : ByteArray := prog_2_method_1_code
def y_C_init : MethodName := ⟨R_C, "<init>", "()V"⟩
abbrev c_O_init : ByteArray := prog_4_method_1_code
def y_O_init : MethodName := ⟨R_O, "<init>", "()V"⟩
abbrev c_X_undo : ByteArray := prog_1_method_4_code
def y_X_undo : MethodName := ⟨R_X, "undo", "()Z"⟩
abbrev c_C_forget : ByteArray := prog_2_method_2_code
def y_C_forget : MethodName := ⟨R_C, "forget", "()V"⟩
abbrev c_X_told : ByteArray := prog_1_method_5_code
def y_X_told : MethodName := ⟨R_X, "told", "(II)I"⟩
abbrev c_P_hasCall : ByteArray := prog_5_method_3_code
def y_P_hasCall : MethodName := ⟨R_P, "hasCall", "(I)Z"⟩
abbrev c_X_order : ByteArray := prog_1_method_11_code
def y_X_order : MethodName := ⟨R_X, "order", "(II)I"⟩
abbrev c_P_hasFunction : ByteArray := prog_5_method_2_code
def y_P_hasFunction : MethodName := ⟨R_P, "hasFunction", "(I)Z"⟩
abbrev c_O_find : ByteArray := prog_4_method_2_code
def y_O_find : MethodName := ⟨R_O, "find", "(LRecursionProofs$Program;I)V"⟩
abbrev c_O_callsToItself : ByteArray := prog_4_method_3_code
def y_O_callsToItself : MethodName := ⟨R_O, "callsToItself", "(LRecursionProofs$Program;I)I"⟩
abbrev c_O_nextPlace : ByteArray := prog_4_method_5_code
def y_O_nextPlace : MethodName := ⟨R_O, "nextPlace", "(LRecursionProofs$Program;II)I"⟩
abbrev c_G_at : ByteArray := prog_3_method_4_code
def y_G_at : MethodName := ⟨R_G, "at", "(III)I"⟩
abbrev c_O_callsWhereLess : ByteArray := prog_4_method_4_code
def y_O_callsWhereLess : MethodName := ⟨R_O, "callsWhereLess", "(LRecursionProofs$Program;I)I"⟩
abbrev c_X_reached : ByteArray := prog_1_method_12_code
def y_X_reached : MethodName := ⟨R_X, "reached", "(I)I"⟩
abbrev c_P_reachedFrom : ByteArray := prog_5_method_6_code
def y_P_reachedFrom : MethodName := ⟨R_P, "reachedFrom", "(I)I"⟩
abbrev c_X_product : ByteArray := prog_1_method_13_code
def y_X_product : MethodName := ⟨R_X, "product", "(JI)I"⟩
abbrev c_X_numberInRow : ByteArray := prog_1_method_16_code
def y_X_numberInRow : MethodName := ⟨R_X, "numberInRow", "(JI)I"⟩
abbrev c_G_join : ByteArray := prog_3_method_5_code
def y_G_join : MethodName := ⟨R_G, "join", "(II)I"⟩
abbrev c_G_threesAsTwos : ByteArray := prog_3_method_3_code
def y_G_threesAsTwos : MethodName := ⟨R_G, "threesAsTwos", "(I)I"⟩
abbrev c_X_about : ByteArray := prog_1_method_14_code
def y_X_about : MethodName := ⟨R_X, "about", "(I)I"⟩
abbrev c_X_function : ByteArray := prog_1_method_2_code
def y_X_function : MethodName := ⟨R_X, "function", "(I)I"⟩
abbrev c_P_addFunction : ByteArray := prog_5_method_4_code
def y_P_addFunction : MethodName := ⟨R_P, "addFunction", "(I)I"⟩
abbrev c_X_call : ByteArray := prog_1_method_3_code
def y_X_call : MethodName := ⟨R_X, "call", "(III)I"⟩
abbrev c_P_addCall : ByteArray := prog_5_method_5_code
def y_P_addCall : MethodName := ⟨R_P, "addCall", "(III)I"⟩
abbrev c_G_clean : ByteArray := prog_3_method_2_code
def y_G_clean : MethodName := ⟨R_G, "clean", "(III)I"⟩
abbrev c_X_graphs : ByteArray := prog_1_method_6_code
def y_X_graphs : MethodName := ⟨R_X, "graphs", "(II)I"⟩
abbrev c_X_needClosure : ByteArray := prog_1_method_15_code
def y_X_needClosure : MethodName := ⟨R_X, "needClosure", "()V"⟩
abbrev c_C_gather : ByteArray := prog_2_method_3_code
def y_C_gather : MethodName := ⟨R_C, "gather", "(LRecursionProofs$Program;)V"⟩
abbrev c_C_gatherFrom : ByteArray := prog_2_method_4_code
def y_C_gatherFrom : MethodName := ⟨R_C, "gatherFrom", "(LRecursionProofs$Program;I)V"⟩
abbrev c_C_keep : ByteArray := prog_2_method_5_code
def y_C_keep : MethodName := ⟨R_C, "keep", "(IIII)V"⟩
abbrev c_C_isKept : ByteArray := prog_2_method_6_code
def y_C_isKept : MethodName := ⟨R_C, "isKept", "(III)Z"⟩
abbrev c_C_hasRow : ByteArray := prog_2_method_8_code
def y_C_hasRow : MethodName := ⟨R_C, "hasRow", "(I)Z"⟩
abbrev c_C_firstBad : ByteArray := prog_2_method_7_code
def y_C_firstBad : MethodName := ⟨R_C, "firstBad", "(I)I"⟩
abbrev c_G_isBad : ByteArray := prog_3_method_6_code
def y_G_isBad : MethodName := ⟨R_G, "isBad", "(I)Z"⟩
abbrev c_C_countGraphs : ByteArray := prog_2_method_9_code
def y_C_countGraphs : MethodName := ⟨R_C, "countGraphs", "(II)I"⟩
abbrev c_C_countAlike : ByteArray := prog_2_method_10_code
def y_C_countAlike : MethodName := ⟨R_C, "countAlike", "(IIII)I"⟩
abbrev c_X_graph : ByteArray := prog_1_method_7_code
def y_X_graph : MethodName := ⟨R_X, "graph", "(III)I"⟩
abbrev c_C_graphInOrder : ByteArray := prog_2_method_11_code
def y_C_graphInOrder : MethodName := ⟨R_C, "graphInOrder", "(III)I"⟩
abbrev c_X_falls : ByteArray := prog_1_method_8_code
def y_X_falls : MethodName := ⟨R_X, "falls", "(I)Z"⟩
abbrev c_X_isSafe : ByteArray := prog_1_method_9_code
def y_X_isSafe : MethodName := ⟨R_X, "isSafe", "(I)Z"⟩
abbrev c_X_bad : ByteArray := prog_1_method_10_code
def y_X_bad : MethodName := ⟨R_X, "bad", "(II)I"⟩
abbrev c_C_lengthOf : ByteArray := prog_2_method_12_code
def y_C_lengthOf : MethodName := ⟨R_C, "lengthOf", "(I)I"⟩
abbrev c_C_callFromTheEnd : ByteArray := prog_2_method_13_code
def y_C_callFromTheEnd : MethodName := ⟨R_C, "callFromTheEnd", "(II)I"⟩
abbrev wC0 : List Cond := [
  Cond.initialized R_X,
  Cond.initialized R_P,
  Cond.initialized R_C,
  Cond.initialized R_O,
  Cond.initialized R_G,
  Cond.initialized "java/util/Arrays",
  Cond.initialized "java/lang/Math",
  Cond.instantiable R_X 3,
  Cond.instanceMethod y_X_init,
  Cond.code y_X_init c_X_init 1 none,
  Cond.methodLink R_X 3 objectInit,
  Cond.instanceMethod objectInit,
  Cond.code objectInit ⟨#[0xb1]⟩ 1 none,
  Cond.classLink R_X 9 R_P,
  Cond.instantiable R_P 6,
  Cond.instanceMethod y_P_init,
  Cond.code y_P_init c_P_init 1 none,
  Cond.methodLink R_P 3 objectInit,
  Cond.fieldLink R_P 9 R_P "placesOf" "[I",
  Cond.fieldLink R_O 50 R_P "placesOf" "[I",
  Cond.fieldLink R_P 15 R_P "from" "[I",
  Cond.fieldLink R_O 35 R_P "from" "[I",
  Cond.fieldLink R_C 69 R_P "from" "[I",
  Cond.fieldLink R_X 74 R_P "from" "[I",
  Cond.fieldLink R_P 18 R_P "to" "[I",
  Cond.fieldLink R_O 38 R_P "to" "[I",
  Cond.fieldLink R_C 75 R_P "to" "[I",
  Cond.fieldLink R_X 78 R_P "to" "[I",
  Cond.fieldLink R_P 21 R_P "known" "[I",
  Cond.fieldLink R_O 41 R_P "known" "[I",
  Cond.fieldLink R_C 72 R_P "known" "[I",
  Cond.fieldLink R_X 81 R_P "known" "[I",
  Cond.fieldLink R_P 24 R_P "functions" "I",
  Cond.fieldLink R_X 37 R_P "functions" "I",
  Cond.fieldLink R_C 47 R_P "functions" "I",
  Cond.fieldLink R_P 28 R_P "calls" "I",
  Cond.fieldLink R_O 30 R_P "calls" "I",
  Cond.fieldLink R_X 62 R_P "calls" "I",
  Cond.fieldLink R_C 66 R_P "calls" "I",
  Cond.arrayClass .int,
  Cond.classLink R_X 16 R_C,
  Cond.instantiable R_C 11,
  Cond.instanceMethod y_C_init,
  Cond.code y_C_init c_C_init 1 none,
  Cond.methodLink R_C 3 objectInit,
  Cond.fieldLink R_C 9 R_C "bits" "[I",
  Cond.fieldLink R_C 15 R_C "end" "[I",
  Cond.fieldLink R_C 18 R_C "ahead" "[I",
  Cond.fieldLink R_C 21 R_C "lastCall" "[I",
  Cond.fieldLink R_C 24 R_C "nextInChain" "[I",
  Cond.fieldLink R_C 27 R_C "chains" "[I",
  Cond.fieldLink R_C 30 R_C "start" "[I",
  Cond.fieldLink R_C 33 R_C "badRow" "[I",
  Cond.fieldLink R_X 96 R_C "badRow" "[I",
  Cond.fieldLink R_C 40 R_C "count" "I",
  Cond.fieldLink R_C 44 R_C "tooMany" "Z",
  Cond.fieldLink R_X 131 R_C "tooMany" "Z",
  Cond.fieldLink R_C 36 R_C "gathered" "Z",
  Cond.classLink R_X 23 R_O,
  Cond.instantiable R_O 2,
  Cond.instanceMethod y_O_init,
  Cond.code y_O_init c_O_init 1 none,
  Cond.methodLink R_O 3 objectInit,
  Cond.fieldLink R_O 9 R_O "taken" "[I",
  Cond.fieldLink R_X 115 R_O "taken" "[I",
  Cond.fieldLink R_O 19 R_O "many" "I",
  Cond.fieldLink R_X 112 R_O "many" "I",
  Cond.fieldLink R_X 12 R_X "program" "LRecursionProofs$Program;",
  Cond.fieldLink R_X 19 R_X "closure" "LRecursionProofs$Closure;",
  Cond.fieldLink R_X 26 R_X "placeOrder" "LRecursionProofs$Order;",
  Cond.instanceMethod y_X_undo,
  Cond.selects R_X y_X_undo y_X_undo,
  Cond.code y_X_undo c_X_undo 1 (some .boolean),
  Cond.methodLink R_X 46 y_C_forget,
  Cond.instanceMethod y_C_forget,
  Cond.selects R_C y_C_forget y_C_forget,
  Cond.code y_C_forget c_C_forget 1 none,
  Cond.instanceMethod y_X_told,
  Cond.selects R_X y_X_told y_X_told,
  Cond.code y_X_told c_X_told 3 (some .int),
  Cond.methodLink R_X 71 y_P_hasCall,
  Cond.instanceMethod y_P_hasCall,
  Cond.selects R_P y_P_hasCall y_P_hasCall,
  Cond.code y_P_hasCall c_P_hasCall 2 (some .boolean),
  Cond.instanceMethod y_X_order,
  Cond.selects R_X y_X_order y_X_order,
  Cond.code y_X_order c_X_order 3 (some .int),
  Cond.methodLink R_X 53 y_P_hasFunction,
  Cond.instanceMethod y_P_hasFunction,
  Cond.selects R_P y_P_hasFunction y_P_hasFunction,
  Cond.code y_P_hasFunction c_P_hasFunction 2 (some .boolean),
  Cond.methodLink R_X 108 y_O_find,
  Cond.instanceMethod y_O_find,
  Cond.selects R_O y_O_find y_O_find,
  Cond.code y_O_find c_O_find 5 none,
  Cond.methodLink R_O 15 y_O_callsToItself,
  Cond.static y_O_callsToItself,
  Cond.code y_O_callsToItself c_O_callsToItself 4 (some .int),
  Cond.methodLink R_O 23 y_O_nextPlace,
  Cond.static y_O_nextPlace,
  Cond.code y_O_nextPlace c_O_nextPlace 8 (some .int),
  Cond.methodLink R_O 44 y_G_at,
  Cond.static y_G_at,
  Cond.code y_G_at c_G_at 3 (some .int),
  Cond.methodLink R_O 53 ⟨"java/lang/Math", "min", "(II)I"⟩,
  Cond.static ⟨"java/lang/Math", "min", "(II)I"⟩,
  Cond.code ⟨"java/lang/Math", "min", "(II)I"⟩ prog_12_method_69_code 2 (some .int),
  Cond.methodLink R_O 59 ⟨"java/lang/Math", "max", "(II)I"⟩,
  Cond.static ⟨"java/lang/Math", "max", "(II)I"⟩,
  Cond.code ⟨"java/lang/Math", "max", "(II)I"⟩ prog_12_method_65_code 2 (some .int),
  Cond.methodLink R_O 27 y_O_callsWhereLess,
  Cond.static y_O_callsWhereLess,
  Cond.code y_O_callsWhereLess c_O_callsWhereLess 4 (some .int),
  Cond.instanceMethod y_X_reached,
  Cond.selects R_X y_X_reached y_X_reached,
  Cond.code y_X_reached c_X_reached 2 (some .int),
  Cond.methodLink R_X 99 y_P_reachedFrom,
  Cond.instanceMethod y_P_reachedFrom,
  Cond.selects R_P y_P_reachedFrom y_P_reachedFrom,
  Cond.code y_P_reachedFrom c_P_reachedFrom 5 (some .int),
  Cond.instanceMethod y_X_product,
  Cond.selects R_X y_X_product y_X_product,
  Cond.code y_X_product c_X_product 8 (some .int),
  Cond.methodLink R_X 118 y_X_numberInRow,
  Cond.static y_X_numberInRow,
  Cond.code y_X_numberInRow c_X_numberInRow 3 (some .int),
  Cond.methodLink R_X 122 y_G_join,
  Cond.static y_G_join,
  Cond.code y_G_join c_G_join 8 (some .int),
  Cond.constant R_G 15 (1431655765),
  Cond.constant R_G 16 (16843009),
  Cond.methodLink R_G 9 y_G_threesAsTwos,
  Cond.static y_G_threesAsTwos,
  Cond.code y_G_threesAsTwos c_G_threesAsTwos 1 (some .int),
  Cond.instanceMethod y_X_about,
  Cond.selects R_X y_X_about y_X_about,
  Cond.code y_X_about c_X_about 2 (some .int),
  Cond.instanceMethod y_X_function,
  Cond.selects R_X y_X_function y_X_function,
  Cond.code y_X_function c_X_function 2 (some .int),
  Cond.arrayClass .byte,
  Cond.methodLink R_X 49 y_P_addFunction,
  Cond.instanceMethod y_P_addFunction,
  Cond.selects R_P y_P_addFunction y_P_addFunction,
  Cond.code y_P_addFunction c_P_addFunction 2 (some .int),
  Cond.instanceMethod y_X_call,
  Cond.selects R_X y_X_call y_X_call,
  Cond.code y_X_call c_X_call 4 (some .int),
  Cond.methodLink R_X 67 y_P_addCall,
  Cond.instanceMethod y_P_addCall,
  Cond.selects R_P y_P_addCall y_P_addCall,
  Cond.code y_P_addCall c_P_addCall 4 (some .int),
  Cond.methodLink R_P 31 y_P_hasFunction,
  Cond.methodLink R_P 35 y_G_clean,
  Cond.static y_G_clean,
  Cond.code y_G_clean c_G_clean 6 (some .int),
  Cond.instanceMethod y_X_graphs,
  Cond.selects R_X y_X_graphs y_X_graphs,
  Cond.code y_X_graphs c_X_graphs 3 (some .int),
  Cond.methodLink R_X 84 y_X_needClosure,
  Cond.instanceMethod y_X_needClosure,
  Cond.code y_X_needClosure c_X_needClosure 1 none,
  Cond.methodLink R_X 127 y_C_gather,
  Cond.instanceMethod y_C_gather,
  Cond.selects R_C y_C_gather y_C_gather,
  Cond.code y_C_gather c_C_gather 3 none,
  Cond.methodLink R_C 52 y_C_gatherFrom,
  Cond.instanceMethod y_C_gatherFrom,
  Cond.code y_C_gatherFrom c_C_gatherFrom 5 none,
  Cond.methodLink R_C 60 ⟨"java/util/Arrays", "fill", "([II)V"⟩,
  Cond.static ⟨"java/util/Arrays", "fill", "([II)V"⟩,
  Cond.code ⟨"java/util/Arrays", "fill", "([II)V"⟩ prog_17_method_103_code 4 none,
  Cond.methodLink R_C 78 y_C_keep,
  Cond.instanceMethod y_C_keep,
  Cond.code y_C_keep c_C_keep 6 none,
  Cond.constant R_C 88 (-1640531535),
  Cond.methodLink R_C 89 y_C_isKept,
  Cond.instanceMethod y_C_isKept,
  Cond.code y_C_isKept c_C_isKept 6 (some .boolean),
  Cond.methodLink R_C 93 y_C_hasRow,
  Cond.instanceMethod y_C_hasRow,
  Cond.code y_C_hasRow c_C_hasRow 2 (some .boolean),
  Cond.methodLink R_C 82 y_G_join,
  Cond.methodLink R_C 56 y_C_firstBad,
  Cond.instanceMethod y_C_firstBad,
  Cond.code y_C_firstBad c_C_firstBad 3 (some .int),
  Cond.methodLink R_C 97 y_G_isBad,
  Cond.static y_G_isBad,
  Cond.code y_G_isBad c_G_isBad 1 (some .boolean),
  Cond.constant R_G 17 (-2145384446),
  Cond.methodLink R_G 18 y_G_join,
  Cond.methodLink R_X 87 y_C_countGraphs,
  Cond.instanceMethod y_C_countGraphs,
  Cond.selects R_C y_C_countGraphs y_C_countGraphs,
  Cond.code y_C_countGraphs c_C_countGraphs 3 (some .int),
  Cond.methodLink R_C 100 y_C_countAlike,
  Cond.instanceMethod y_C_countAlike,
  Cond.code y_C_countAlike c_C_countAlike 7 (some .int),
  Cond.instanceMethod y_X_graph,
  Cond.selects R_X y_X_graph y_X_graph,
  Cond.code y_X_graph c_X_graph 4 (some .int),
  Cond.methodLink R_X 93 y_C_graphInOrder,
  Cond.instanceMethod y_C_graphInOrder,
  Cond.selects R_C y_C_graphInOrder y_C_graphInOrder,
  Cond.code y_C_graphInOrder c_C_graphInOrder 9 (some .int),
  Cond.instanceMethod y_X_falls,
  Cond.selects R_X y_X_falls y_X_falls,
  Cond.code y_X_falls c_X_falls 2 (some .boolean),
  Cond.instanceMethod y_X_isSafe,
  Cond.selects R_X y_X_isSafe y_X_isSafe,
  Cond.code y_X_isSafe c_X_isSafe 4 (some .boolean),
  Cond.instanceMethod y_X_bad,
  Cond.selects R_X y_X_bad y_X_bad,
  Cond.code y_X_bad c_X_bad 4 (some .int),
  Cond.methodLink R_X 102 y_C_lengthOf,
  Cond.instanceMethod y_C_lengthOf,
  Cond.selects R_C y_C_lengthOf y_C_lengthOf,
  Cond.code y_C_lengthOf c_C_lengthOf 4 (some .int),
  Cond.methodLink R_X 105 y_C_callFromTheEnd,
  Cond.instanceMethod y_C_callFromTheEnd,
  Cond.selects R_C y_C_callFromTheEnd y_C_callFromTheEnd,
  Cond.code y_C_callFromTheEnd c_C_callFromTheEnd 5 (some .int),
  Cond.arrayClass .boolean,
  Cond.arrayClass .long,
  Cond.selects R_X y_X_needClosure y_X_needClosure,
  Cond.selects R_C y_C_gatherFrom y_C_gatherFrom,
  Cond.selects R_C y_C_keep y_C_keep,
  Cond.selects R_C y_C_isKept y_C_isKept,
  Cond.selects R_C y_C_hasRow y_C_hasRow,
  Cond.selects R_C y_C_firstBad y_C_firstBad,
  Cond.selects R_C y_C_countAlike y_C_countAlike]
abbrev wCw : List Cond := wC0 ++ (f_P ++ (f_C ++ (f_O ++ f_X)))
theorem wCw_good : wCw.all goodWord = true := by decide +kernel
theorem k_C_0 : Cond.initialized R_X ∈ wCw := List.mem_append_left _ (List.mem_of_getElem? (i := 0) rfl)
theorem k_C_1 : Cond.initialized R_P ∈ wCw := List.mem_append_left _ (List.mem_of_getElem? (i := 1) rfl)
theorem k_C_2 : Cond.initialized R_C ∈ wCw := List.mem_append_left _ (List.mem_of_getElem? (i := 2) rfl)
theorem k_C_3 : Cond.initialized R_O ∈ wCw := List.mem_append_left _ (List.mem_of_getElem? (i := 3) rfl)
theorem k_C_4 : Cond.initialized R_G ∈ wCw := List.mem_append_left _ (List.mem_of_getElem? (i := 4) rfl)
theorem k_C_5 : Cond.initialized "java/util/Arrays" ∈ wCw := List.mem_append_left _ (List.mem_of_getElem? (i := 5) rfl)
theorem k_C_6 : Cond.initialized "java/lang/Math" ∈ wCw := List.mem_append_left _ (List.mem_of_getElem? (i := 6) rfl)
theorem k_C_7 : Cond.instantiable R_X 3 ∈ wCw := List.mem_append_left _ (List.mem_of_getElem? (i := 7) rfl)
theorem k_C_8 : Cond.instanceMethod y_X_init ∈ wCw := List.mem_append_left _ (List.mem_of_getElem? (i := 8) rfl)
theorem k_C_9 : Cond.code y_X_init c_X_init 1 none ∈ wCw := List.mem_append_left _ (List.mem_of_getElem? (i := 9) rfl)
theorem k_C_10 : Cond.methodLink R_X 3 objectInit ∈ wCw := List.mem_append_left _ (List.mem_of_getElem? (i := 10) rfl)
theorem k_C_11 : Cond.instanceMethod objectInit ∈ wCw := List.mem_append_left _ (List.mem_of_getElem? (i := 11) rfl)
theorem k_C_12 : Cond.code objectInit ⟨#[0xb1]⟩ 1 none ∈ wCw := List.mem_append_left _ (List.mem_of_getElem? (i := 12) rfl)
theorem k_C_13 : Cond.classLink R_X 9 R_P ∈ wCw := List.mem_append_left _ (List.mem_of_getElem? (i := 13) rfl)
theorem k_C_14 : Cond.instantiable R_P 6 ∈ wCw := List.mem_append_left _ (List.mem_of_getElem? (i := 14) rfl)
theorem k_C_15 : Cond.instanceMethod y_P_init ∈ wCw := List.mem_append_left _ (List.mem_of_getElem? (i := 15) rfl)
theorem k_C_16 : Cond.code y_P_init c_P_init 1 none ∈ wCw := List.mem_append_left _ (List.mem_of_getElem? (i := 16) rfl)
theorem k_C_17 : Cond.methodLink R_P 3 objectInit ∈ wCw := List.mem_append_left _ (List.mem_of_getElem? (i := 17) rfl)
theorem k_C_18 : Cond.fieldLink R_P 9 R_P "placesOf" "[I" ∈ wCw := List.mem_append_left _ (List.mem_of_getElem? (i := 18) rfl)
theorem k_C_19 : Cond.fieldLink R_O 50 R_P "placesOf" "[I" ∈ wCw := List.mem_append_left _ (List.mem_of_getElem? (i := 19) rfl)
theorem k_C_20 : Cond.fieldLink R_P 15 R_P "from" "[I" ∈ wCw := List.mem_append_left _ (List.mem_of_getElem? (i := 20) rfl)
theorem k_C_21 : Cond.fieldLink R_O 35 R_P "from" "[I" ∈ wCw := List.mem_append_left _ (List.mem_of_getElem? (i := 21) rfl)
theorem k_C_22 : Cond.fieldLink R_C 69 R_P "from" "[I" ∈ wCw := List.mem_append_left _ (List.mem_of_getElem? (i := 22) rfl)
theorem k_C_23 : Cond.fieldLink R_X 74 R_P "from" "[I" ∈ wCw := List.mem_append_left _ (List.mem_of_getElem? (i := 23) rfl)
theorem k_C_24 : Cond.fieldLink R_P 18 R_P "to" "[I" ∈ wCw := List.mem_append_left _ (List.mem_of_getElem? (i := 24) rfl)
theorem k_C_25 : Cond.fieldLink R_O 38 R_P "to" "[I" ∈ wCw := List.mem_append_left _ (List.mem_of_getElem? (i := 25) rfl)
theorem k_C_26 : Cond.fieldLink R_C 75 R_P "to" "[I" ∈ wCw := List.mem_append_left _ (List.mem_of_getElem? (i := 26) rfl)
theorem k_C_27 : Cond.fieldLink R_X 78 R_P "to" "[I" ∈ wCw := List.mem_append_left _ (List.mem_of_getElem? (i := 27) rfl)
theorem k_C_28 : Cond.fieldLink R_P 21 R_P "known" "[I" ∈ wCw := List.mem_append_left _ (List.mem_of_getElem? (i := 28) rfl)
theorem k_C_29 : Cond.fieldLink R_O 41 R_P "known" "[I" ∈ wCw := List.mem_append_left _ (List.mem_of_getElem? (i := 29) rfl)
theorem k_C_30 : Cond.fieldLink R_C 72 R_P "known" "[I" ∈ wCw := List.mem_append_left _ (List.mem_of_getElem? (i := 30) rfl)
theorem k_C_31 : Cond.fieldLink R_X 81 R_P "known" "[I" ∈ wCw := List.mem_append_left _ (List.mem_of_getElem? (i := 31) rfl)
theorem k_C_32 : Cond.fieldLink R_P 24 R_P "functions" "I" ∈ wCw := List.mem_append_left _ (List.mem_of_getElem? (i := 32) rfl)
theorem k_C_33 : Cond.fieldLink R_X 37 R_P "functions" "I" ∈ wCw := List.mem_append_left _ (List.mem_of_getElem? (i := 33) rfl)
theorem k_C_34 : Cond.fieldLink R_C 47 R_P "functions" "I" ∈ wCw := List.mem_append_left _ (List.mem_of_getElem? (i := 34) rfl)
theorem k_C_35 : Cond.fieldLink R_P 28 R_P "calls" "I" ∈ wCw := List.mem_append_left _ (List.mem_of_getElem? (i := 35) rfl)
theorem k_C_36 : Cond.fieldLink R_O 30 R_P "calls" "I" ∈ wCw := List.mem_append_left _ (List.mem_of_getElem? (i := 36) rfl)
theorem k_C_37 : Cond.fieldLink R_X 62 R_P "calls" "I" ∈ wCw := List.mem_append_left _ (List.mem_of_getElem? (i := 37) rfl)
theorem k_C_38 : Cond.fieldLink R_C 66 R_P "calls" "I" ∈ wCw := List.mem_append_left _ (List.mem_of_getElem? (i := 38) rfl)
theorem k_C_39 : Cond.arrayClass .int ∈ wCw := List.mem_append_left _ (List.mem_of_getElem? (i := 39) rfl)
theorem k_C_40 : Cond.classLink R_X 16 R_C ∈ wCw := List.mem_append_left _ (List.mem_of_getElem? (i := 40) rfl)
theorem k_C_41 : Cond.instantiable R_C 11 ∈ wCw := List.mem_append_left _ (List.mem_of_getElem? (i := 41) rfl)
theorem k_C_42 : Cond.instanceMethod y_C_init ∈ wCw := List.mem_append_left _ (List.mem_of_getElem? (i := 42) rfl)
theorem k_C_43 : Cond.code y_C_init c_C_init 1 none ∈ wCw := List.mem_append_left _ (List.mem_of_getElem? (i := 43) rfl)
theorem k_C_44 : Cond.methodLink R_C 3 objectInit ∈ wCw := List.mem_append_left _ (List.mem_of_getElem? (i := 44) rfl)
theorem k_C_45 : Cond.fieldLink R_C 9 R_C "bits" "[I" ∈ wCw := List.mem_append_left _ (List.mem_of_getElem? (i := 45) rfl)
theorem k_C_46 : Cond.fieldLink R_C 15 R_C "end" "[I" ∈ wCw := List.mem_append_left _ (List.mem_of_getElem? (i := 46) rfl)
theorem k_C_47 : Cond.fieldLink R_C 18 R_C "ahead" "[I" ∈ wCw := List.mem_append_left _ (List.mem_of_getElem? (i := 47) rfl)
theorem k_C_48 : Cond.fieldLink R_C 21 R_C "lastCall" "[I" ∈ wCw := List.mem_append_left _ (List.mem_of_getElem? (i := 48) rfl)
theorem k_C_49 : Cond.fieldLink R_C 24 R_C "nextInChain" "[I" ∈ wCw := List.mem_append_left _ (List.mem_of_getElem? (i := 49) rfl)
theorem k_C_50 : Cond.fieldLink R_C 27 R_C "chains" "[I" ∈ wCw := List.mem_append_left _ (List.mem_of_getElem? (i := 50) rfl)
theorem k_C_51 : Cond.fieldLink R_C 30 R_C "start" "[I" ∈ wCw := List.mem_append_left _ (List.mem_of_getElem? (i := 51) rfl)
theorem k_C_52 : Cond.fieldLink R_C 33 R_C "badRow" "[I" ∈ wCw := List.mem_append_left _ (List.mem_of_getElem? (i := 52) rfl)
theorem k_C_53 : Cond.fieldLink R_X 96 R_C "badRow" "[I" ∈ wCw := List.mem_append_left _ (List.mem_of_getElem? (i := 53) rfl)
theorem k_C_54 : Cond.fieldLink R_C 40 R_C "count" "I" ∈ wCw := List.mem_append_left _ (List.mem_of_getElem? (i := 54) rfl)
theorem k_C_55 : Cond.fieldLink R_C 44 R_C "tooMany" "Z" ∈ wCw := List.mem_append_left _ (List.mem_of_getElem? (i := 55) rfl)
theorem k_C_56 : Cond.fieldLink R_X 131 R_C "tooMany" "Z" ∈ wCw := List.mem_append_left _ (List.mem_of_getElem? (i := 56) rfl)
theorem k_C_57 : Cond.fieldLink R_C 36 R_C "gathered" "Z" ∈ wCw := List.mem_append_left _ (List.mem_of_getElem? (i := 57) rfl)
theorem k_C_58 : Cond.classLink R_X 23 R_O ∈ wCw := List.mem_append_left _ (List.mem_of_getElem? (i := 58) rfl)
theorem k_C_59 : Cond.instantiable R_O 2 ∈ wCw := List.mem_append_left _ (List.mem_of_getElem? (i := 59) rfl)
theorem k_C_60 : Cond.instanceMethod y_O_init ∈ wCw := List.mem_append_left _ (List.mem_of_getElem? (i := 60) rfl)
theorem k_C_61 : Cond.code y_O_init c_O_init 1 none ∈ wCw := List.mem_append_left _ (List.mem_of_getElem? (i := 61) rfl)
theorem k_C_62 : Cond.methodLink R_O 3 objectInit ∈ wCw := List.mem_append_left _ (List.mem_of_getElem? (i := 62) rfl)
theorem k_C_63 : Cond.fieldLink R_O 9 R_O "taken" "[I" ∈ wCw := List.mem_append_left _ (List.mem_of_getElem? (i := 63) rfl)
theorem k_C_64 : Cond.fieldLink R_X 115 R_O "taken" "[I" ∈ wCw := List.mem_append_left _ (List.mem_of_getElem? (i := 64) rfl)
theorem k_C_65 : Cond.fieldLink R_O 19 R_O "many" "I" ∈ wCw := List.mem_append_left _ (List.mem_of_getElem? (i := 65) rfl)
theorem k_C_66 : Cond.fieldLink R_X 112 R_O "many" "I" ∈ wCw := List.mem_append_left _ (List.mem_of_getElem? (i := 66) rfl)
theorem k_C_67 : Cond.fieldLink R_X 12 R_X "program" "LRecursionProofs$Program;" ∈ wCw := List.mem_append_left _ (List.mem_of_getElem? (i := 67) rfl)
theorem k_C_68 : Cond.fieldLink R_X 19 R_X "closure" "LRecursionProofs$Closure;" ∈ wCw := List.mem_append_left _ (List.mem_of_getElem? (i := 68) rfl)
theorem k_C_69 : Cond.fieldLink R_X 26 R_X "placeOrder" "LRecursionProofs$Order;" ∈ wCw := List.mem_append_left _ (List.mem_of_getElem? (i := 69) rfl)
theorem k_C_70 : Cond.instanceMethod y_X_undo ∈ wCw := List.mem_append_left _ (List.mem_of_getElem? (i := 70) rfl)
theorem k_C_71 : Cond.selects R_X y_X_undo y_X_undo ∈ wCw := List.mem_append_left _ (List.mem_of_getElem? (i := 71) rfl)
theorem k_C_72 : Cond.code y_X_undo c_X_undo 1 (some .boolean) ∈ wCw := List.mem_append_left _ (List.mem_of_getElem? (i := 72) rfl)
theorem k_C_73 : Cond.methodLink R_X 46 y_C_forget ∈ wCw := List.mem_append_left _ (List.mem_of_getElem? (i := 73) rfl)
theorem k_C_74 : Cond.instanceMethod y_C_forget ∈ wCw := List.mem_append_left _ (List.mem_of_getElem? (i := 74) rfl)
theorem k_C_75 : Cond.selects R_C y_C_forget y_C_forget ∈ wCw := List.mem_append_left _ (List.mem_of_getElem? (i := 75) rfl)
theorem k_C_76 : Cond.code y_C_forget c_C_forget 1 none ∈ wCw := List.mem_append_left _ (List.mem_of_getElem? (i := 76) rfl)
theorem k_C_77 : Cond.instanceMethod y_X_told ∈ wCw := List.mem_append_left _ (List.mem_of_getElem? (i := 77) rfl)
theorem k_C_78 : Cond.selects R_X y_X_told y_X_told ∈ wCw := List.mem_append_left _ (List.mem_of_getElem? (i := 78) rfl)
theorem k_C_79 : Cond.code y_X_told c_X_told 3 (some .int) ∈ wCw := List.mem_append_left _ (List.mem_of_getElem? (i := 79) rfl)
theorem k_C_80 : Cond.methodLink R_X 71 y_P_hasCall ∈ wCw := List.mem_append_left _ (List.mem_of_getElem? (i := 80) rfl)
theorem k_C_81 : Cond.instanceMethod y_P_hasCall ∈ wCw := List.mem_append_left _ (List.mem_of_getElem? (i := 81) rfl)
theorem k_C_82 : Cond.selects R_P y_P_hasCall y_P_hasCall ∈ wCw := List.mem_append_left _ (List.mem_of_getElem? (i := 82) rfl)
theorem k_C_83 : Cond.code y_P_hasCall c_P_hasCall 2 (some .boolean) ∈ wCw := List.mem_append_left _ (List.mem_of_getElem? (i := 83) rfl)
theorem k_C_84 : Cond.instanceMethod y_X_order ∈ wCw := List.mem_append_left _ (List.mem_of_getElem? (i := 84) rfl)
theorem k_C_85 : Cond.selects R_X y_X_order y_X_order ∈ wCw := List.mem_append_left _ (List.mem_of_getElem? (i := 85) rfl)
theorem k_C_86 : Cond.code y_X_order c_X_order 3 (some .int) ∈ wCw := List.mem_append_left _ (List.mem_of_getElem? (i := 86) rfl)
theorem k_C_87 : Cond.methodLink R_X 53 y_P_hasFunction ∈ wCw := List.mem_append_left _ (List.mem_of_getElem? (i := 87) rfl)
theorem k_C_88 : Cond.instanceMethod y_P_hasFunction ∈ wCw := List.mem_append_left _ (List.mem_of_getElem? (i := 88) rfl)
theorem k_C_89 : Cond.selects R_P y_P_hasFunction y_P_hasFunction ∈ wCw := List.mem_append_left _ (List.mem_of_getElem? (i := 89) rfl)
theorem k_C_90 : Cond.code y_P_hasFunction c_P_hasFunction 2 (some .boolean) ∈ wCw := List.mem_append_left _ (List.mem_of_getElem? (i := 90) rfl)
theorem k_C_91 : Cond.methodLink R_X 108 y_O_find ∈ wCw := List.mem_append_left _ (List.mem_of_getElem? (i := 91) rfl)
theorem k_C_92 : Cond.instanceMethod y_O_find ∈ wCw := List.mem_append_left _ (List.mem_of_getElem? (i := 92) rfl)
theorem k_C_93 : Cond.selects R_O y_O_find y_O_find ∈ wCw := List.mem_append_left _ (List.mem_of_getElem? (i := 93) rfl)
theorem k_C_94 : Cond.code y_O_find c_O_find 5 none ∈ wCw := List.mem_append_left _ (List.mem_of_getElem? (i := 94) rfl)
theorem k_C_95 : Cond.methodLink R_O 15 y_O_callsToItself ∈ wCw := List.mem_append_left _ (List.mem_of_getElem? (i := 95) rfl)
theorem k_C_96 : Cond.static y_O_callsToItself ∈ wCw := List.mem_append_left _ (List.mem_of_getElem? (i := 96) rfl)
theorem k_C_97 : Cond.code y_O_callsToItself c_O_callsToItself 4 (some .int) ∈ wCw := List.mem_append_left _ (List.mem_of_getElem? (i := 97) rfl)
theorem k_C_98 : Cond.methodLink R_O 23 y_O_nextPlace ∈ wCw := List.mem_append_left _ (List.mem_of_getElem? (i := 98) rfl)
theorem k_C_99 : Cond.static y_O_nextPlace ∈ wCw := List.mem_append_left _ (List.mem_of_getElem? (i := 99) rfl)
theorem k_C_100 : Cond.code y_O_nextPlace c_O_nextPlace 8 (some .int) ∈ wCw := List.mem_append_left _ (List.mem_of_getElem? (i := 100) rfl)
theorem k_C_101 : Cond.methodLink R_O 44 y_G_at ∈ wCw := List.mem_append_left _ (List.mem_of_getElem? (i := 101) rfl)
theorem k_C_102 : Cond.static y_G_at ∈ wCw := List.mem_append_left _ (List.mem_of_getElem? (i := 102) rfl)
theorem k_C_103 : Cond.code y_G_at c_G_at 3 (some .int) ∈ wCw := List.mem_append_left _ (List.mem_of_getElem? (i := 103) rfl)
theorem k_C_104 : Cond.methodLink R_O 53 ⟨"java/lang/Math", "min", "(II)I"⟩ ∈ wCw := List.mem_append_left _ (List.mem_of_getElem? (i := 104) rfl)
theorem k_C_105 : Cond.static ⟨"java/lang/Math", "min", "(II)I"⟩ ∈ wCw := List.mem_append_left _ (List.mem_of_getElem? (i := 105) rfl)
theorem k_C_106 : Cond.code ⟨"java/lang/Math", "min", "(II)I"⟩ prog_12_method_69_code 2 (some .int) ∈ wCw := List.mem_append_left _ (List.mem_of_getElem? (i := 106) rfl)
theorem k_C_107 : Cond.methodLink R_O 59 ⟨"java/lang/Math", "max", "(II)I"⟩ ∈ wCw := List.mem_append_left _ (List.mem_of_getElem? (i := 107) rfl)
theorem k_C_108 : Cond.static ⟨"java/lang/Math", "max", "(II)I"⟩ ∈ wCw := List.mem_append_left _ (List.mem_of_getElem? (i := 108) rfl)
theorem k_C_109 : Cond.code ⟨"java/lang/Math", "max", "(II)I"⟩ prog_12_method_65_code 2 (some .int) ∈ wCw := List.mem_append_left _ (List.mem_of_getElem? (i := 109) rfl)
theorem k_C_110 : Cond.methodLink R_O 27 y_O_callsWhereLess ∈ wCw := List.mem_append_left _ (List.mem_of_getElem? (i := 110) rfl)
theorem k_C_111 : Cond.static y_O_callsWhereLess ∈ wCw := List.mem_append_left _ (List.mem_of_getElem? (i := 111) rfl)
theorem k_C_112 : Cond.code y_O_callsWhereLess c_O_callsWhereLess 4 (some .int) ∈ wCw := List.mem_append_left _ (List.mem_of_getElem? (i := 112) rfl)
theorem k_C_113 : Cond.instanceMethod y_X_reached ∈ wCw := List.mem_append_left _ (List.mem_of_getElem? (i := 113) rfl)
theorem k_C_114 : Cond.selects R_X y_X_reached y_X_reached ∈ wCw := List.mem_append_left _ (List.mem_of_getElem? (i := 114) rfl)
theorem k_C_115 : Cond.code y_X_reached c_X_reached 2 (some .int) ∈ wCw := List.mem_append_left _ (List.mem_of_getElem? (i := 115) rfl)
theorem k_C_116 : Cond.methodLink R_X 99 y_P_reachedFrom ∈ wCw := List.mem_append_left _ (List.mem_of_getElem? (i := 116) rfl)
theorem k_C_117 : Cond.instanceMethod y_P_reachedFrom ∈ wCw := List.mem_append_left _ (List.mem_of_getElem? (i := 117) rfl)
theorem k_C_118 : Cond.selects R_P y_P_reachedFrom y_P_reachedFrom ∈ wCw := List.mem_append_left _ (List.mem_of_getElem? (i := 118) rfl)
theorem k_C_119 : Cond.code y_P_reachedFrom c_P_reachedFrom 5 (some .int) ∈ wCw := List.mem_append_left _ (List.mem_of_getElem? (i := 119) rfl)
theorem k_C_120 : Cond.instanceMethod y_X_product ∈ wCw := List.mem_append_left _ (List.mem_of_getElem? (i := 120) rfl)
theorem k_C_121 : Cond.selects R_X y_X_product y_X_product ∈ wCw := List.mem_append_left _ (List.mem_of_getElem? (i := 121) rfl)
theorem k_C_122 : Cond.code y_X_product c_X_product 8 (some .int) ∈ wCw := List.mem_append_left _ (List.mem_of_getElem? (i := 122) rfl)
theorem k_C_123 : Cond.methodLink R_X 118 y_X_numberInRow ∈ wCw := List.mem_append_left _ (List.mem_of_getElem? (i := 123) rfl)
theorem k_C_124 : Cond.static y_X_numberInRow ∈ wCw := List.mem_append_left _ (List.mem_of_getElem? (i := 124) rfl)
theorem k_C_125 : Cond.code y_X_numberInRow c_X_numberInRow 3 (some .int) ∈ wCw := List.mem_append_left _ (List.mem_of_getElem? (i := 125) rfl)
theorem k_C_126 : Cond.methodLink R_X 122 y_G_join ∈ wCw := List.mem_append_left _ (List.mem_of_getElem? (i := 126) rfl)
theorem k_C_127 : Cond.static y_G_join ∈ wCw := List.mem_append_left _ (List.mem_of_getElem? (i := 127) rfl)
theorem k_C_128 : Cond.code y_G_join c_G_join 8 (some .int) ∈ wCw := List.mem_append_left _ (List.mem_of_getElem? (i := 128) rfl)
theorem k_C_129 : Cond.constant R_G 15 (1431655765) ∈ wCw := List.mem_append_left _ (List.mem_of_getElem? (i := 129) rfl)
theorem k_C_130 : Cond.constant R_G 16 (16843009) ∈ wCw := List.mem_append_left _ (List.mem_of_getElem? (i := 130) rfl)
theorem k_C_131 : Cond.methodLink R_G 9 y_G_threesAsTwos ∈ wCw := List.mem_append_left _ (List.mem_of_getElem? (i := 131) rfl)
theorem k_C_132 : Cond.static y_G_threesAsTwos ∈ wCw := List.mem_append_left _ (List.mem_of_getElem? (i := 132) rfl)
theorem k_C_133 : Cond.code y_G_threesAsTwos c_G_threesAsTwos 1 (some .int) ∈ wCw := List.mem_append_left _ (List.mem_of_getElem? (i := 133) rfl)
theorem k_C_134 : Cond.instanceMethod y_X_about ∈ wCw := List.mem_append_left _ (List.mem_of_getElem? (i := 134) rfl)
theorem k_C_135 : Cond.selects R_X y_X_about y_X_about ∈ wCw := List.mem_append_left _ (List.mem_of_getElem? (i := 135) rfl)
theorem k_C_136 : Cond.code y_X_about c_X_about 2 (some .int) ∈ wCw := List.mem_append_left _ (List.mem_of_getElem? (i := 136) rfl)
theorem k_C_137 : Cond.instanceMethod y_X_function ∈ wCw := List.mem_append_left _ (List.mem_of_getElem? (i := 137) rfl)
theorem k_C_138 : Cond.selects R_X y_X_function y_X_function ∈ wCw := List.mem_append_left _ (List.mem_of_getElem? (i := 138) rfl)
theorem k_C_139 : Cond.code y_X_function c_X_function 2 (some .int) ∈ wCw := List.mem_append_left _ (List.mem_of_getElem? (i := 139) rfl)
theorem k_C_140 : Cond.arrayClass .byte ∈ wCw := List.mem_append_left _ (List.mem_of_getElem? (i := 140) rfl)
theorem k_C_141 : Cond.methodLink R_X 49 y_P_addFunction ∈ wCw := List.mem_append_left _ (List.mem_of_getElem? (i := 141) rfl)
theorem k_C_142 : Cond.instanceMethod y_P_addFunction ∈ wCw := List.mem_append_left _ (List.mem_of_getElem? (i := 142) rfl)
theorem k_C_143 : Cond.selects R_P y_P_addFunction y_P_addFunction ∈ wCw := List.mem_append_left _ (List.mem_of_getElem? (i := 143) rfl)
theorem k_C_144 : Cond.code y_P_addFunction c_P_addFunction 2 (some .int) ∈ wCw := List.mem_append_left _ (List.mem_of_getElem? (i := 144) rfl)
theorem k_C_145 : Cond.instanceMethod y_X_call ∈ wCw := List.mem_append_left _ (List.mem_of_getElem? (i := 145) rfl)
theorem k_C_146 : Cond.selects R_X y_X_call y_X_call ∈ wCw := List.mem_append_left _ (List.mem_of_getElem? (i := 146) rfl)
theorem k_C_147 : Cond.code y_X_call c_X_call 4 (some .int) ∈ wCw := List.mem_append_left _ (List.mem_of_getElem? (i := 147) rfl)
theorem k_C_148 : Cond.methodLink R_X 67 y_P_addCall ∈ wCw := List.mem_append_left _ (List.mem_of_getElem? (i := 148) rfl)
theorem k_C_149 : Cond.instanceMethod y_P_addCall ∈ wCw := List.mem_append_left _ (List.mem_of_getElem? (i := 149) rfl)
theorem k_C_150 : Cond.selects R_P y_P_addCall y_P_addCall ∈ wCw := List.mem_append_left _ (List.mem_of_getElem? (i := 150) rfl)
theorem k_C_151 : Cond.code y_P_addCall c_P_addCall 4 (some .int) ∈ wCw := List.mem_append_left _ (List.mem_of_getElem? (i := 151) rfl)
theorem k_C_152 : Cond.methodLink R_P 31 y_P_hasFunction ∈ wCw := List.mem_append_left _ (List.mem_of_getElem? (i := 152) rfl)
theorem k_C_153 : Cond.methodLink R_P 35 y_G_clean ∈ wCw := List.mem_append_left _ (List.mem_of_getElem? (i := 153) rfl)
theorem k_C_154 : Cond.static y_G_clean ∈ wCw := List.mem_append_left _ (List.mem_of_getElem? (i := 154) rfl)
theorem k_C_155 : Cond.code y_G_clean c_G_clean 6 (some .int) ∈ wCw := List.mem_append_left _ (List.mem_of_getElem? (i := 155) rfl)
theorem k_C_156 : Cond.instanceMethod y_X_graphs ∈ wCw := List.mem_append_left _ (List.mem_of_getElem? (i := 156) rfl)
theorem k_C_157 : Cond.selects R_X y_X_graphs y_X_graphs ∈ wCw := List.mem_append_left _ (List.mem_of_getElem? (i := 157) rfl)
theorem k_C_158 : Cond.code y_X_graphs c_X_graphs 3 (some .int) ∈ wCw := List.mem_append_left _ (List.mem_of_getElem? (i := 158) rfl)
theorem k_C_159 : Cond.methodLink R_X 84 y_X_needClosure ∈ wCw := List.mem_append_left _ (List.mem_of_getElem? (i := 159) rfl)
theorem k_C_160 : Cond.instanceMethod y_X_needClosure ∈ wCw := List.mem_append_left _ (List.mem_of_getElem? (i := 160) rfl)
theorem k_C_161 : Cond.code y_X_needClosure c_X_needClosure 1 none ∈ wCw := List.mem_append_left _ (List.mem_of_getElem? (i := 161) rfl)
theorem k_C_162 : Cond.methodLink R_X 127 y_C_gather ∈ wCw := List.mem_append_left _ (List.mem_of_getElem? (i := 162) rfl)
theorem k_C_163 : Cond.instanceMethod y_C_gather ∈ wCw := List.mem_append_left _ (List.mem_of_getElem? (i := 163) rfl)
theorem k_C_164 : Cond.selects R_C y_C_gather y_C_gather ∈ wCw := List.mem_append_left _ (List.mem_of_getElem? (i := 164) rfl)
theorem k_C_165 : Cond.code y_C_gather c_C_gather 3 none ∈ wCw := List.mem_append_left _ (List.mem_of_getElem? (i := 165) rfl)
theorem k_C_166 : Cond.methodLink R_C 52 y_C_gatherFrom ∈ wCw := List.mem_append_left _ (List.mem_of_getElem? (i := 166) rfl)
theorem k_C_167 : Cond.instanceMethod y_C_gatherFrom ∈ wCw := List.mem_append_left _ (List.mem_of_getElem? (i := 167) rfl)
theorem k_C_168 : Cond.code y_C_gatherFrom c_C_gatherFrom 5 none ∈ wCw := List.mem_append_left _ (List.mem_of_getElem? (i := 168) rfl)
theorem k_C_169 : Cond.methodLink R_C 60 ⟨"java/util/Arrays", "fill", "([II)V"⟩ ∈ wCw := List.mem_append_left _ (List.mem_of_getElem? (i := 169) rfl)
theorem k_C_170 : Cond.static ⟨"java/util/Arrays", "fill", "([II)V"⟩ ∈ wCw := List.mem_append_left _ (List.mem_of_getElem? (i := 170) rfl)
theorem k_C_171 : Cond.code ⟨"java/util/Arrays", "fill", "([II)V"⟩ prog_17_method_103_code 4 none ∈ wCw := List.mem_append_left _ (List.mem_of_getElem? (i := 171) rfl)
theorem k_C_172 : Cond.methodLink R_C 78 y_C_keep ∈ wCw := List.mem_append_left _ (List.mem_of_getElem? (i := 172) rfl)
theorem k_C_173 : Cond.instanceMethod y_C_keep ∈ wCw := List.mem_append_left _ (List.mem_of_getElem? (i := 173) rfl)
theorem k_C_174 : Cond.code y_C_keep c_C_keep 6 none ∈ wCw := List.mem_append_left _ (List.mem_of_getElem? (i := 174) rfl)
theorem k_C_175 : Cond.constant R_C 88 (-1640531535) ∈ wCw := List.mem_append_left _ (List.mem_of_getElem? (i := 175) rfl)
theorem k_C_176 : Cond.methodLink R_C 89 y_C_isKept ∈ wCw := List.mem_append_left _ (List.mem_of_getElem? (i := 176) rfl)
theorem k_C_177 : Cond.instanceMethod y_C_isKept ∈ wCw := List.mem_append_left _ (List.mem_of_getElem? (i := 177) rfl)
theorem k_C_178 : Cond.code y_C_isKept c_C_isKept 6 (some .boolean) ∈ wCw := List.mem_append_left _ (List.mem_of_getElem? (i := 178) rfl)
theorem k_C_179 : Cond.methodLink R_C 93 y_C_hasRow ∈ wCw := List.mem_append_left _ (List.mem_of_getElem? (i := 179) rfl)
theorem k_C_180 : Cond.instanceMethod y_C_hasRow ∈ wCw := List.mem_append_left _ (List.mem_of_getElem? (i := 180) rfl)
theorem k_C_181 : Cond.code y_C_hasRow c_C_hasRow 2 (some .boolean) ∈ wCw := List.mem_append_left _ (List.mem_of_getElem? (i := 181) rfl)
theorem k_C_182 : Cond.methodLink R_C 82 y_G_join ∈ wCw := List.mem_append_left _ (List.mem_of_getElem? (i := 182) rfl)
theorem k_C_183 : Cond.methodLink R_C 56 y_C_firstBad ∈ wCw := List.mem_append_left _ (List.mem_of_getElem? (i := 183) rfl)
theorem k_C_184 : Cond.instanceMethod y_C_firstBad ∈ wCw := List.mem_append_left _ (List.mem_of_getElem? (i := 184) rfl)
theorem k_C_185 : Cond.code y_C_firstBad c_C_firstBad 3 (some .int) ∈ wCw := List.mem_append_left _ (List.mem_of_getElem? (i := 185) rfl)
theorem k_C_186 : Cond.methodLink R_C 97 y_G_isBad ∈ wCw := List.mem_append_left _ (List.mem_of_getElem? (i := 186) rfl)
theorem k_C_187 : Cond.static y_G_isBad ∈ wCw := List.mem_append_left _ (List.mem_of_getElem? (i := 187) rfl)
theorem k_C_188 : Cond.code y_G_isBad c_G_isBad 1 (some .boolean) ∈ wCw := List.mem_append_left _ (List.mem_of_getElem? (i := 188) rfl)
theorem k_C_189 : Cond.constant R_G 17 (-2145384446) ∈ wCw := List.mem_append_left _ (List.mem_of_getElem? (i := 189) rfl)
theorem k_C_190 : Cond.methodLink R_G 18 y_G_join ∈ wCw := List.mem_append_left _ (List.mem_of_getElem? (i := 190) rfl)
theorem k_C_191 : Cond.methodLink R_X 87 y_C_countGraphs ∈ wCw := List.mem_append_left _ (List.mem_of_getElem? (i := 191) rfl)
theorem k_C_192 : Cond.instanceMethod y_C_countGraphs ∈ wCw := List.mem_append_left _ (List.mem_of_getElem? (i := 192) rfl)
theorem k_C_193 : Cond.selects R_C y_C_countGraphs y_C_countGraphs ∈ wCw := List.mem_append_left _ (List.mem_of_getElem? (i := 193) rfl)
theorem k_C_194 : Cond.code y_C_countGraphs c_C_countGraphs 3 (some .int) ∈ wCw := List.mem_append_left _ (List.mem_of_getElem? (i := 194) rfl)
theorem k_C_195 : Cond.methodLink R_C 100 y_C_countAlike ∈ wCw := List.mem_append_left _ (List.mem_of_getElem? (i := 195) rfl)
theorem k_C_196 : Cond.instanceMethod y_C_countAlike ∈ wCw := List.mem_append_left _ (List.mem_of_getElem? (i := 196) rfl)
theorem k_C_197 : Cond.code y_C_countAlike c_C_countAlike 7 (some .int) ∈ wCw := List.mem_append_left _ (List.mem_of_getElem? (i := 197) rfl)
theorem k_C_198 : Cond.instanceMethod y_X_graph ∈ wCw := List.mem_append_left _ (List.mem_of_getElem? (i := 198) rfl)
theorem k_C_199 : Cond.selects R_X y_X_graph y_X_graph ∈ wCw := List.mem_append_left _ (List.mem_of_getElem? (i := 199) rfl)
theorem k_C_200 : Cond.code y_X_graph c_X_graph 4 (some .int) ∈ wCw := List.mem_append_left _ (List.mem_of_getElem? (i := 200) rfl)
theorem k_C_201 : Cond.methodLink R_X 93 y_C_graphInOrder ∈ wCw := List.mem_append_left _ (List.mem_of_getElem? (i := 201) rfl)
theorem k_C_202 : Cond.instanceMethod y_C_graphInOrder ∈ wCw := List.mem_append_left _ (List.mem_of_getElem? (i := 202) rfl)
theorem k_C_203 : Cond.selects R_C y_C_graphInOrder y_C_graphInOrder ∈ wCw := List.mem_append_left _ (List.mem_of_getElem? (i := 203) rfl)
theorem k_C_204 : Cond.code y_C_graphInOrder c_C_graphInOrder 9 (some .int) ∈ wCw := List.mem_append_left _ (List.mem_of_getElem? (i := 204) rfl)
theorem k_C_205 : Cond.instanceMethod y_X_falls ∈ wCw := List.mem_append_left _ (List.mem_of_getElem? (i := 205) rfl)
theorem k_C_206 : Cond.selects R_X y_X_falls y_X_falls ∈ wCw := List.mem_append_left _ (List.mem_of_getElem? (i := 206) rfl)
theorem k_C_207 : Cond.code y_X_falls c_X_falls 2 (some .boolean) ∈ wCw := List.mem_append_left _ (List.mem_of_getElem? (i := 207) rfl)
theorem k_C_208 : Cond.instanceMethod y_X_isSafe ∈ wCw := List.mem_append_left _ (List.mem_of_getElem? (i := 208) rfl)
theorem k_C_209 : Cond.selects R_X y_X_isSafe y_X_isSafe ∈ wCw := List.mem_append_left _ (List.mem_of_getElem? (i := 209) rfl)
theorem k_C_210 : Cond.code y_X_isSafe c_X_isSafe 4 (some .boolean) ∈ wCw := List.mem_append_left _ (List.mem_of_getElem? (i := 210) rfl)
theorem k_C_211 : Cond.instanceMethod y_X_bad ∈ wCw := List.mem_append_left _ (List.mem_of_getElem? (i := 211) rfl)
theorem k_C_212 : Cond.selects R_X y_X_bad y_X_bad ∈ wCw := List.mem_append_left _ (List.mem_of_getElem? (i := 212) rfl)
theorem k_C_213 : Cond.code y_X_bad c_X_bad 4 (some .int) ∈ wCw := List.mem_append_left _ (List.mem_of_getElem? (i := 213) rfl)
theorem k_C_214 : Cond.methodLink R_X 102 y_C_lengthOf ∈ wCw := List.mem_append_left _ (List.mem_of_getElem? (i := 214) rfl)
theorem k_C_215 : Cond.instanceMethod y_C_lengthOf ∈ wCw := List.mem_append_left _ (List.mem_of_getElem? (i := 215) rfl)
theorem k_C_216 : Cond.selects R_C y_C_lengthOf y_C_lengthOf ∈ wCw := List.mem_append_left _ (List.mem_of_getElem? (i := 216) rfl)
theorem k_C_217 : Cond.code y_C_lengthOf c_C_lengthOf 4 (some .int) ∈ wCw := List.mem_append_left _ (List.mem_of_getElem? (i := 217) rfl)
theorem k_C_218 : Cond.methodLink R_X 105 y_C_callFromTheEnd ∈ wCw := List.mem_append_left _ (List.mem_of_getElem? (i := 218) rfl)
theorem k_C_219 : Cond.instanceMethod y_C_callFromTheEnd ∈ wCw := List.mem_append_left _ (List.mem_of_getElem? (i := 219) rfl)
theorem k_C_220 : Cond.selects R_C y_C_callFromTheEnd y_C_callFromTheEnd ∈ wCw := List.mem_append_left _ (List.mem_of_getElem? (i := 220) rfl)
theorem k_C_221 : Cond.code y_C_callFromTheEnd c_C_callFromTheEnd 5 (some .int) ∈ wCw := List.mem_append_left _ (List.mem_of_getElem? (i := 221) rfl)
theorem k_C_222 : Cond.arrayClass .boolean ∈ wCw := List.mem_append_left _ (List.mem_of_getElem? (i := 222) rfl)
theorem k_C_223 : Cond.arrayClass .long ∈ wCw := List.mem_append_left _ (List.mem_of_getElem? (i := 223) rfl)
theorem k_C_224 : Cond.selects R_X y_X_needClosure y_X_needClosure ∈ wCw := List.mem_append_left _ (List.mem_of_getElem? (i := 224) rfl)
theorem k_C_225 : Cond.selects R_C y_C_gatherFrom y_C_gatherFrom ∈ wCw := List.mem_append_left _ (List.mem_of_getElem? (i := 225) rfl)
theorem k_C_226 : Cond.selects R_C y_C_keep y_C_keep ∈ wCw := List.mem_append_left _ (List.mem_of_getElem? (i := 226) rfl)
theorem k_C_227 : Cond.selects R_C y_C_isKept y_C_isKept ∈ wCw := List.mem_append_left _ (List.mem_of_getElem? (i := 227) rfl)
theorem k_C_228 : Cond.selects R_C y_C_hasRow y_C_hasRow ∈ wCw := List.mem_append_left _ (List.mem_of_getElem? (i := 228) rfl)
theorem k_C_229 : Cond.selects R_C y_C_firstBad y_C_firstBad ∈ wCw := List.mem_append_left _ (List.mem_of_getElem? (i := 229) rfl)
theorem k_C_230 : Cond.selects R_C y_C_countAlike y_C_countAlike ∈ wCw := List.mem_append_left _ (List.mem_of_getElem? (i := 230) rfl)
theorem k_f_P : ∀ w ∈ f_P, w ∈ wCw := fun _ h => List.mem_append_right _ (List.mem_append_left _ h)
theorem k_f_C : ∀ w ∈ f_C, w ∈ wCw := fun _ h => List.mem_append_right _ (List.mem_append_right _ (List.mem_append_left _ h))
theorem k_f_O : ∀ w ∈ f_O, w ∈ wCw := fun _ h => List.mem_append_right _ (List.mem_append_right _ (List.mem_append_right _ (List.mem_append_left _ h)))
theorem k_f_X : ∀ w ∈ f_X, w ∈ wCw := fun _ h => List.mem_append_right _ (List.mem_append_right _ (List.mem_append_right _ (List.mem_append_right _ h)))
abbrev w_X_init : List Cond := .code y_X_init c_X_init 1 none :: wCw
abbrev w_P_init : List Cond := .code y_P_init c_P_init 1 none :: wCw
abbrev w_C_init : List Cond := .code y_C_init c_C_init 1 none :: wCw
abbrev w_O_init : List Cond := .code y_O_init c_O_init 1 none :: wCw
abbrev w_X_undo : List Cond := .code y_X_undo c_X_undo 1 (some .boolean) :: wCw
abbrev w_C_forget : List Cond := .code y_C_forget c_C_forget 1 none :: wCw
abbrev w_X_told : List Cond := .code y_X_told c_X_told 3 (some .int) :: wCw
abbrev w_P_hasCall : List Cond := .code y_P_hasCall c_P_hasCall 2 (some .boolean) :: wCw
abbrev w_X_order : List Cond := .code y_X_order c_X_order 3 (some .int) :: wCw
abbrev w_P_hasFunction : List Cond := .code y_P_hasFunction c_P_hasFunction 2 (some .boolean) :: wCw
abbrev w_O_find : List Cond := .code y_O_find c_O_find 5 none :: wCw
abbrev w_O_callsToItself : List Cond := .code y_O_callsToItself c_O_callsToItself 4 (some .int) :: wCw
abbrev w_O_nextPlace : List Cond := .code y_O_nextPlace c_O_nextPlace 8 (some .int) :: wCw
abbrev w_G_at : List Cond := .code y_G_at c_G_at 3 (some .int) :: wCw
abbrev w_O_callsWhereLess : List Cond := .code y_O_callsWhereLess c_O_callsWhereLess 4 (some .int) :: wCw
abbrev w_X_reached : List Cond := .code y_X_reached c_X_reached 2 (some .int) :: wCw
abbrev w_P_reachedFrom : List Cond := .code y_P_reachedFrom c_P_reachedFrom 5 (some .int) :: wCw
abbrev w_X_product : List Cond := .code y_X_product c_X_product 8 (some .int) :: wCw
abbrev w_X_numberInRow : List Cond := .code y_X_numberInRow c_X_numberInRow 3 (some .int) :: wCw
abbrev w_G_join : List Cond := .code y_G_join c_G_join 8 (some .int) :: wCw
abbrev w_G_threesAsTwos : List Cond := .code y_G_threesAsTwos c_G_threesAsTwos 1 (some .int) :: wCw
abbrev w_X_about : List Cond := .code y_X_about c_X_about 2 (some .int) :: wCw
abbrev w_X_function : List Cond := .code y_X_function c_X_function 2 (some .int) :: wCw
abbrev w_P_addFunction : List Cond := .code y_P_addFunction c_P_addFunction 2 (some .int) :: wCw
abbrev w_X_call : List Cond := .code y_X_call c_X_call 4 (some .int) :: wCw
abbrev w_P_addCall : List Cond := .code y_P_addCall c_P_addCall 4 (some .int) :: wCw
abbrev w_G_clean : List Cond := .code y_G_clean c_G_clean 6 (some .int) :: wCw
abbrev w_X_graphs : List Cond := .code y_X_graphs c_X_graphs 3 (some .int) :: wCw
abbrev w_X_needClosure : List Cond := .code y_X_needClosure c_X_needClosure 1 none :: wCw
abbrev w_C_gather : List Cond := .code y_C_gather c_C_gather 3 none :: wCw
abbrev w_C_gatherFrom : List Cond := .code y_C_gatherFrom c_C_gatherFrom 5 none :: wCw
abbrev w_C_keep : List Cond := .code y_C_keep c_C_keep 6 none :: wCw
abbrev w_C_isKept : List Cond := .code y_C_isKept c_C_isKept 6 (some .boolean) :: wCw
abbrev w_C_hasRow : List Cond := .code y_C_hasRow c_C_hasRow 2 (some .boolean) :: wCw
abbrev w_C_firstBad : List Cond := .code y_C_firstBad c_C_firstBad 3 (some .int) :: wCw
abbrev w_G_isBad : List Cond := .code y_G_isBad c_G_isBad 1 (some .boolean) :: wCw
abbrev w_C_countGraphs : List Cond := .code y_C_countGraphs c_C_countGraphs 3 (some .int) :: wCw
abbrev w_C_countAlike : List Cond := .code y_C_countAlike c_C_countAlike 7 (some .int) :: wCw
abbrev w_X_graph : List Cond := .code y_X_graph c_X_graph 4 (some .int) :: wCw
abbrev w_C_graphInOrder : List Cond := .code y_C_graphInOrder c_C_graphInOrder 9 (some .int) :: wCw
abbrev w_X_falls : List Cond := .code y_X_falls c_X_falls 2 (some .boolean) :: wCw
abbrev w_X_isSafe : List Cond := .code y_X_isSafe c_X_isSafe 4 (some .boolean) :: wCw
abbrev w_X_bad : List Cond := .code y_X_bad c_X_bad 4 (some .int) :: wCw
abbrev w_C_lengthOf : List Cond := .code y_C_lengthOf c_C_lengthOf 4 (some .int) :: wCw
abbrev w_C_callFromTheEnd : List Cond := .code y_C_callFromTheEnd c_C_callFromTheEnd 5 (some .int) :: wCw
