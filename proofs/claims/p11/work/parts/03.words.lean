def TB : List Cond := lw_tbl.filter goodWord
theorem TB_of {w : Cond} (h : w ∈ lw_tbl) (hg : goodWord w = true) : w ∈ TB := List.mem_filter.mpr ⟨h, hg⟩
theorem TB_t {w : Cond} (i : Nat) (h : tables_1[i]? = some w) (hg : goodWord w = true) : w ∈ TB := TB_of (List.mem_append_right _ (List.mem_of_getElem? h)) hg
theorem TB_lw {w : Cond} (h : w ∈ TB) : w ∈ lw_tbl := (List.mem_filter.mp h).1
theorem TB_good : GoodIn TB TB := fun w h => ⟨h, good_of_word (List.mem_filter.mp h).2⟩
theorem TB_V {own C : String} {idx : Nat} {y : MethodName} {cw : Cond} (h1 : Cond.methodLink own idx y ∈ TB) (h2 : Cond.instanceMethod y ∈ TB) (h3 : Cond.selects C y y ∈ TB) (h4 : Cond.initialized C ∈ TB) (h5 : cw ∈ TB) : GoodIn TB (wsV own idx C y (cw :: TB)) := by
  intro w h
  refine TB_good w ?_
  simp only [wsV, List.mem_append, List.mem_cons, List.not_mem_nil, or_false] at h
  rcases h with (h | h | h | h) | h | h
  · rw [h]; exact h1
  · rw [h]; exact h2
  · rw [h]; exact h3
  · rw [h]; exact h4
  · rw [h]; exact h5
  · exact h
theorem TB_S {own : String} {idx : Nat} {y : MethodName} {cw : Cond} (h1 : Cond.methodLink own idx y ∈ TB) (h2 : Cond.static y ∈ TB) (h4 : Cond.initialized own ∈ TB) (h5 : cw ∈ TB) : GoodIn TB (wsS own idx y (cw :: TB)) := by
  intro w h
  refine TB_good w ?_
  simp only [wsS, List.mem_append, List.mem_cons, List.not_mem_nil, or_false] at h
  rcases h with (h | h | h) | h | h
  · rw [h]; exact h1
  · rw [h]; exact h2
  · rw [h]; exact h4
  · rw [h]; exact h5
  · exact h
theorem TB_W {cw : Cond} (h5 : cw ∈ TB) : GoodIn TB (cw :: TB) := by
  intro w h
  refine TB_good w ?_
  rcases List.mem_cons.mp h with h | h
  · rw [h]; exact h5
  · exact h
theorem TB_d {D : List Cond} {a b : Nat} (hD : D = (tables_1.drop a).take b) {w : Cond} (j : Nat) (h : D[j]? = some w) (hg : goodWord w = true) : w ∈ TB := TB_of (List.mem_append_right _ (List.mem_of_mem_drop (List.mem_of_mem_take (by rw [← hD]; exact List.mem_of_getElem? h)))) hg
def TD_0 : List Cond := [Cond.initialized "AnyOrderLaw", Cond.initialized "AnyOrder", Cond.initialized "AnyOrder$Tables", Cond.initialized "AnyOrder$Lengths", Cond.initialized "AnyOrder$Survey", Cond.initialized "AnyOrder$Closure", Cond.initialized "AnyOrder$Trail", Cond.initialized "AnyOrder$Word", Cond.initialized "AnyOrder$Sheet", Cond.initialized "AnyOrderModel", Cond.initialized "java/util/Arrays", Cond.initialized "java/lang/Math", Cond.initialized "java/lang/System", Cond.initialized "AnyOrder$Table", Cond.initialized "AnyOrder$EvenTable", Cond.initialized "AnyOrder$ShuffleTable", Cond.initialized "AnyOrder$Spelling", Cond.classLink "AnyOrderLaw" (7 : Nat) "AnyOrder", Cond.instantiable "AnyOrder" (8 : Nat), Cond.methodLink "AnyOrderLaw" (9 : Nat) ({ cls := "AnyOrder", name := "<init>", desc := "()V" } : Jvm.MethodName), Cond.instanceMethod ({ cls := "AnyOrder", name := "<init>", desc := "()V" } : Jvm.MethodName), Cond.code ({ cls := "AnyOrder", name := "<init>", desc := "()V" } : Jvm.MethodName) prog_1_method_1_code (2 : Nat) (Option.none : Option Jvm.ClassFile.FieldType), Cond.methodLink "AnyOrder" (5 : Nat) ({ cls := "java/lang/Object", name := "<init>", desc := "()V" } : Jvm.MethodName), Cond.instanceMethod ({ cls := "java/lang/Object", name := "<init>", desc := "()V" } : Jvm.MethodName), Cond.code ({ cls := "java/lang/Object", name := "<init>", desc := "()V" } : Jvm.MethodName) object_method_1_code (1 : Nat) (Option.none : Option Jvm.ClassFile.FieldType), Cond.classLink "AnyOrder" (11 : Nat) "AnyOrder$Tables", Cond.instantiable "AnyOrder$Tables" (7 : Nat), Cond.methodLink "AnyOrder" (13 : Nat) ({ cls := "AnyOrder$Tables", name := "<init>", desc := "()V" } : Jvm.MethodName), Cond.instanceMethod ({ cls := "AnyOrder$Tables", name := "<init>", desc := "()V" } : Jvm.MethodName), Cond.code ({ cls := "AnyOrder$Tables", name := "<init>", desc := "()V" } : Jvm.MethodName) prog_10_method_1_code (1 : Nat) (Option.none : Option Jvm.ClassFile.FieldType), Cond.methodLink "AnyOrder$Tables" (3 : Nat) ({ cls := "java/lang/Object", name := "<init>", desc := "()V" } : Jvm.MethodName), Cond.classLink "AnyOrder$Tables" (9 : Nat) "AnyOrder$Table", Cond.arrayOver (Jvm.ClassFile.FieldType.object "AnyOrder$Table"), Cond.classLink "AnyOrder$Tables" (17 : Nat) "[[J", Cond.arrayOver (Jvm.ClassFile.FieldType.array Jvm.ClassFile.FieldType.long), Cond.methodLink "AnyOrder$Tables" (34 : Nat) ({ cls := "AnyOrder$Tables", name := "allowAll", desc := "()V" } : Jvm.MethodName), Cond.privateMethod ({ cls := "AnyOrder$Tables", name := "allowAll", desc := "()V" } : Jvm.MethodName), Cond.instanceMethod ({ cls := "AnyOrder$Tables", name := "allowAll", desc := "()V" } : Jvm.MethodName), Cond.code ({ cls := "AnyOrder$Tables", name := "allowAll", desc := "()V" } : Jvm.MethodName) prog_10_method_3_code (2 : Nat) (Option.none : Option Jvm.ClassFile.FieldType), Cond.fieldLink "AnyOrder$Tables" (11 : Nat) "AnyOrder$Tables" "all" "[LAnyOrder$Table;", Cond.fieldLink "AnyOrder$Tables" (19 : Nat) "AnyOrder$Tables" "rows" "[[J", Cond.fieldLink "AnyOrder$Tables" (22 : Nat) "AnyOrder$Tables" "allowed" "[Z", Cond.fieldLink "AnyOrder$Tables" (26 : Nat) "AnyOrder$Tables" "scratch" "[J", Cond.fieldLink "AnyOrder$Tables" (40 : Nat) "AnyOrder$Tables" "tableCount" "I", Cond.fieldLink "AnyOrder$Tables" (30 : Nat) "AnyOrder$Tables" "d" "I", Cond.fieldLink "AnyOrder$Tables" (37 : Nat) "AnyOrder$Tables" "m" "I", Cond.laysFinal "AnyOrder$Tables" "AnyOrder$Tables" "all" "[LAnyOrder$Table;", Cond.soleField "AnyOrder$Tables" "all"]
set_option maxRecDepth 20000 in
theorem TDe_0 : TD_0 = (tables_1.drop 0).take 48 := rfl
set_option maxRecDepth 20000 in
theorem tw_0 : (Cond.initialized "AnyOrderLaw" : Cond) ∈ TB := TB_d TDe_0 0 rfl rfl
set_option maxRecDepth 20000 in
theorem tw_1 : (Cond.initialized "AnyOrder" : Cond) ∈ TB := TB_d TDe_0 1 rfl rfl
set_option maxRecDepth 20000 in
theorem tw_2 : (Cond.initialized "AnyOrder$Tables" : Cond) ∈ TB := TB_d TDe_0 2 rfl rfl
set_option maxRecDepth 20000 in
theorem tw_3 : (Cond.initialized "AnyOrder$Lengths" : Cond) ∈ TB := TB_d TDe_0 3 rfl rfl
set_option maxRecDepth 20000 in
theorem tw_4 : (Cond.initialized "AnyOrder$Survey" : Cond) ∈ TB := TB_d TDe_0 4 rfl rfl
set_option maxRecDepth 20000 in
theorem tw_5 : (Cond.initialized "AnyOrder$Closure" : Cond) ∈ TB := TB_d TDe_0 5 rfl rfl
set_option maxRecDepth 20000 in
theorem tw_6 : (Cond.initialized "AnyOrder$Trail" : Cond) ∈ TB := TB_d TDe_0 6 rfl rfl
set_option maxRecDepth 20000 in
theorem tw_7 : (Cond.initialized "AnyOrder$Word" : Cond) ∈ TB := TB_d TDe_0 7 rfl rfl
set_option maxRecDepth 20000 in
theorem tw_8 : (Cond.initialized "AnyOrder$Sheet" : Cond) ∈ TB := TB_d TDe_0 8 rfl rfl
set_option maxRecDepth 20000 in
theorem tw_9 : (Cond.initialized "AnyOrderModel" : Cond) ∈ TB := TB_d TDe_0 9 rfl rfl
set_option maxRecDepth 20000 in
theorem tw_10 : (Cond.initialized "java/util/Arrays" : Cond) ∈ TB := TB_d TDe_0 10 rfl rfl
set_option maxRecDepth 20000 in
theorem tw_11 : (Cond.initialized "java/lang/Math" : Cond) ∈ TB := TB_d TDe_0 11 rfl rfl
set_option maxRecDepth 20000 in
theorem tw_12 : (Cond.initialized "java/lang/System" : Cond) ∈ TB := TB_d TDe_0 12 rfl rfl
set_option maxRecDepth 20000 in
theorem tw_13 : (Cond.initialized "AnyOrder$Table" : Cond) ∈ TB := TB_d TDe_0 13 rfl rfl
set_option maxRecDepth 20000 in
theorem tw_14 : (Cond.initialized "AnyOrder$EvenTable" : Cond) ∈ TB := TB_d TDe_0 14 rfl rfl
set_option maxRecDepth 20000 in
theorem tw_15 : (Cond.initialized "AnyOrder$ShuffleTable" : Cond) ∈ TB := TB_d TDe_0 15 rfl rfl
set_option maxRecDepth 20000 in
theorem tw_16 : (Cond.initialized "AnyOrder$Spelling" : Cond) ∈ TB := TB_d TDe_0 16 rfl rfl
set_option maxRecDepth 20000 in
theorem tw_17 : (Cond.classLink "AnyOrderLaw" (7 : Nat) "AnyOrder" : Cond) ∈ TB := TB_d TDe_0 17 rfl rfl
set_option maxRecDepth 20000 in
theorem tw_18 : (Cond.instantiable "AnyOrder" (8 : Nat) : Cond) ∈ TB := TB_d TDe_0 18 rfl rfl
set_option maxRecDepth 20000 in
theorem tw_19 : (Cond.methodLink "AnyOrderLaw" (9 : Nat) ({ cls := "AnyOrder", name := "<init>", desc := "()V" } : Jvm.MethodName) : Cond) ∈ TB := TB_d TDe_0 19 rfl rfl
set_option maxRecDepth 20000 in
theorem tw_20 : (Cond.instanceMethod ({ cls := "AnyOrder", name := "<init>", desc := "()V" } : Jvm.MethodName) : Cond) ∈ TB := TB_d TDe_0 20 rfl rfl
set_option maxRecDepth 20000 in
theorem tw_21 : (Cond.code ({ cls := "AnyOrder", name := "<init>", desc := "()V" } : Jvm.MethodName) prog_1_method_1_code (2 : Nat) (Option.none : Option Jvm.ClassFile.FieldType) : Cond) ∈ TB := TB_d TDe_0 21 rfl rfl
set_option maxRecDepth 20000 in
theorem tw_22 : (Cond.methodLink "AnyOrder" (5 : Nat) ({ cls := "java/lang/Object", name := "<init>", desc := "()V" } : Jvm.MethodName) : Cond) ∈ TB := TB_d TDe_0 22 rfl rfl
set_option maxRecDepth 20000 in
theorem tw_23 : (Cond.instanceMethod ({ cls := "java/lang/Object", name := "<init>", desc := "()V" } : Jvm.MethodName) : Cond) ∈ TB := TB_d TDe_0 23 rfl rfl
set_option maxRecDepth 20000 in
theorem tw_24 : (Cond.code ({ cls := "java/lang/Object", name := "<init>", desc := "()V" } : Jvm.MethodName) object_method_1_code (1 : Nat) (Option.none : Option Jvm.ClassFile.FieldType) : Cond) ∈ TB := TB_d TDe_0 24 rfl rfl
set_option maxRecDepth 20000 in
theorem tw_25 : (Cond.classLink "AnyOrder" (11 : Nat) "AnyOrder$Tables" : Cond) ∈ TB := TB_d TDe_0 25 rfl rfl
set_option maxRecDepth 20000 in
theorem tw_26 : (Cond.instantiable "AnyOrder$Tables" (7 : Nat) : Cond) ∈ TB := TB_d TDe_0 26 rfl rfl
set_option maxRecDepth 20000 in
theorem tw_27 : (Cond.methodLink "AnyOrder" (13 : Nat) ({ cls := "AnyOrder$Tables", name := "<init>", desc := "()V" } : Jvm.MethodName) : Cond) ∈ TB := TB_d TDe_0 27 rfl rfl
set_option maxRecDepth 20000 in
theorem tw_28 : (Cond.instanceMethod ({ cls := "AnyOrder$Tables", name := "<init>", desc := "()V" } : Jvm.MethodName) : Cond) ∈ TB := TB_d TDe_0 28 rfl rfl
set_option maxRecDepth 20000 in
theorem tw_29 : (Cond.code ({ cls := "AnyOrder$Tables", name := "<init>", desc := "()V" } : Jvm.MethodName) prog_10_method_1_code (1 : Nat) (Option.none : Option Jvm.ClassFile.FieldType) : Cond) ∈ TB := TB_d TDe_0 29 rfl rfl
set_option maxRecDepth 20000 in
theorem tw_30 : (Cond.methodLink "AnyOrder$Tables" (3 : Nat) ({ cls := "java/lang/Object", name := "<init>", desc := "()V" } : Jvm.MethodName) : Cond) ∈ TB := TB_d TDe_0 30 rfl rfl
set_option maxRecDepth 20000 in
theorem tw_31 : (Cond.classLink "AnyOrder$Tables" (9 : Nat) "AnyOrder$Table" : Cond) ∈ TB := TB_d TDe_0 31 rfl rfl
set_option maxRecDepth 20000 in
theorem tw_33 : (Cond.classLink "AnyOrder$Tables" (17 : Nat) "[[J" : Cond) ∈ TB := TB_d TDe_0 33 rfl rfl
set_option maxRecDepth 20000 in
theorem tw_35 : (Cond.methodLink "AnyOrder$Tables" (34 : Nat) ({ cls := "AnyOrder$Tables", name := "allowAll", desc := "()V" } : Jvm.MethodName) : Cond) ∈ TB := TB_d TDe_0 35 rfl rfl
set_option maxRecDepth 20000 in
theorem tw_37 : (Cond.instanceMethod ({ cls := "AnyOrder$Tables", name := "allowAll", desc := "()V" } : Jvm.MethodName) : Cond) ∈ TB := TB_d TDe_0 37 rfl rfl
set_option maxRecDepth 20000 in
theorem tw_38 : (Cond.code ({ cls := "AnyOrder$Tables", name := "allowAll", desc := "()V" } : Jvm.MethodName) prog_10_method_3_code (2 : Nat) (Option.none : Option Jvm.ClassFile.FieldType) : Cond) ∈ TB := TB_d TDe_0 38 rfl rfl
set_option maxRecDepth 20000 in
theorem tw_39 : (Cond.fieldLink "AnyOrder$Tables" (11 : Nat) "AnyOrder$Tables" "all" "[LAnyOrder$Table;" : Cond) ∈ TB := TB_d TDe_0 39 rfl rfl
set_option maxRecDepth 20000 in
theorem tw_40 : (Cond.fieldLink "AnyOrder$Tables" (19 : Nat) "AnyOrder$Tables" "rows" "[[J" : Cond) ∈ TB := TB_d TDe_0 40 rfl rfl
set_option maxRecDepth 20000 in
theorem tw_41 : (Cond.fieldLink "AnyOrder$Tables" (22 : Nat) "AnyOrder$Tables" "allowed" "[Z" : Cond) ∈ TB := TB_d TDe_0 41 rfl rfl
set_option maxRecDepth 20000 in
theorem tw_42 : (Cond.fieldLink "AnyOrder$Tables" (26 : Nat) "AnyOrder$Tables" "scratch" "[J" : Cond) ∈ TB := TB_d TDe_0 42 rfl rfl
set_option maxRecDepth 20000 in
theorem tw_43 : (Cond.fieldLink "AnyOrder$Tables" (40 : Nat) "AnyOrder$Tables" "tableCount" "I" : Cond) ∈ TB := TB_d TDe_0 43 rfl rfl
set_option maxRecDepth 20000 in
theorem tw_44 : (Cond.fieldLink "AnyOrder$Tables" (30 : Nat) "AnyOrder$Tables" "d" "I" : Cond) ∈ TB := TB_d TDe_0 44 rfl rfl
set_option maxRecDepth 20000 in
theorem tw_45 : (Cond.fieldLink "AnyOrder$Tables" (37 : Nat) "AnyOrder$Tables" "m" "I" : Cond) ∈ TB := TB_d TDe_0 45 rfl rfl
def TD_1 : List Cond := [Cond.laysFinal "AnyOrder$Tables" "AnyOrder$Tables" "rows" "[[J", Cond.soleField "AnyOrder$Tables" "rows", Cond.laysFinal "AnyOrder$Tables" "AnyOrder$Tables" "allowed" "[Z", Cond.soleField "AnyOrder$Tables" "allowed", Cond.laysFinal "AnyOrder$Tables" "AnyOrder$Tables" "scratch" "[J", Cond.soleField "AnyOrder$Tables" "scratch", Cond.lays "AnyOrder$Tables" "AnyOrder$Tables" "tableCount" "I", Cond.soleField "AnyOrder$Tables" "tableCount", Cond.lays "AnyOrder$Tables" "AnyOrder$Tables" "d" "I", Cond.soleField "AnyOrder$Tables" "d", Cond.lays "AnyOrder$Tables" "AnyOrder$Tables" "m" "I", Cond.soleField "AnyOrder$Tables" "m", Cond.superclass "AnyOrder$Tables" "java/lang/Object", Cond.arrayClass Jvm.ClassFile.FieldType.long, Cond.arrayClass Jvm.ClassFile.FieldType.boolean, Cond.classLink "AnyOrder" (18 : Nat) "AnyOrder$Lengths", Cond.instantiable "AnyOrder$Lengths" (6 : Nat), Cond.methodLink "AnyOrder" (20 : Nat) ({ cls := "AnyOrder$Lengths", name := "<init>", desc := "(LAnyOrder$Tables;)V" } : Jvm.MethodName), Cond.instanceMethod ({ cls := "AnyOrder$Lengths", name := "<init>", desc := "(LAnyOrder$Tables;)V" } : Jvm.MethodName), Cond.code ({ cls := "AnyOrder$Lengths", name := "<init>", desc := "(LAnyOrder$Tables;)V" } : Jvm.MethodName) prog_4_method_1_code (3 : Nat) (Option.none : Option Jvm.ClassFile.FieldType), Cond.methodLink "AnyOrder$Lengths" (3 : Nat) ({ cls := "java/lang/Object", name := "<init>", desc := "()V" } : Jvm.MethodName), Cond.classLink "AnyOrder$Lengths" (9 : Nat) "AnyOrder$Survey", Cond.arrayOver (Jvm.ClassFile.FieldType.object "AnyOrder$Survey"), Cond.classLink "AnyOrder$Lengths" (17 : Nat) "[[I", Cond.arrayOver (Jvm.ClassFile.FieldType.array Jvm.ClassFile.FieldType.int), Cond.classLink "AnyOrder$Lengths" (22 : Nat) "[[J", Cond.instantiable "AnyOrder$Survey" (10 : Nat), Cond.methodLinkNest "AnyOrder$Lengths" (35 : Nat) ({ cls := "AnyOrder$Survey", name := "<init>", desc := "()V" } : Jvm.MethodName) "AnyOrder", Cond.instanceMethod ({ cls := "AnyOrder$Survey", name := "<init>", desc := "()V" } : Jvm.MethodName), Cond.code ({ cls := "AnyOrder$Survey", name := "<init>", desc := "()V" } : Jvm.MethodName) prog_8_method_1_code (1 : Nat) (Option.none : Option Jvm.ClassFile.FieldType), Cond.methodLink "AnyOrder$Survey" (3 : Nat) ({ cls := "java/lang/Object", name := "<init>", desc := "()V" } : Jvm.MethodName), Cond.fieldLink "AnyOrder$Survey" (9 : Nat) "AnyOrder$Survey" "greatestWord" "[I", Cond.fieldLink "AnyOrder" (132 : Nat) "AnyOrder$Survey" "greatestWord" "[I", Cond.fieldLink "AnyOrder$Survey" (15 : Nat) "AnyOrder$Survey" "leastWord" "[I", Cond.fieldLink "AnyOrder" (135 : Nat) "AnyOrder$Survey" "leastWord" "[I", Cond.fieldLink "AnyOrder$Survey" (18 : Nat) "AnyOrder$Survey" "ringWord" "[I", Cond.fieldLink "AnyOrder" (144 : Nat) "AnyOrder$Survey" "ringWord" "[I", Cond.fieldLink "AnyOrder$Survey" (21 : Nat) "AnyOrder$Survey" "isDone" "Z", Cond.fieldLink "AnyOrder$Lengths" (40 : Nat) "AnyOrder$Survey" "isDone" "Z", Cond.fieldLink "AnyOrder$Survey" (25 : Nat) "AnyOrder$Survey" "noughts" "I", Cond.fieldLink "AnyOrder" (129 : Nat) "AnyOrder$Survey" "noughts" "I", Cond.fieldLink "AnyOrder$Survey" (29 : Nat) "AnyOrder$Survey" "ringCount" "I", Cond.fieldLink "AnyOrder" (138 : Nat) "AnyOrder$Survey" "ringCount" "I", Cond.fieldLink "AnyOrder$Survey" (34 : Nat) "AnyOrder$Survey" "greatest" "J", Cond.fieldLink "AnyOrder" (120 : Nat) "AnyOrder$Survey" "greatest" "J", Cond.fieldLink "AnyOrder$Lengths" (141 : Nat) "AnyOrder$Survey" "greatest" "J", Cond.fieldLink "AnyOrder$Survey" (42 : Nat) "AnyOrder$Survey" "least" "J", Cond.fieldLink "AnyOrder" (126 : Nat) "AnyOrder$Survey" "least" "J"]
set_option maxRecDepth 20000 in
theorem TDe_1 : TD_1 = (tables_1.drop 48).take 48 := rfl
set_option maxRecDepth 20000 in
theorem tw_61 : (Cond.arrayClass Jvm.ClassFile.FieldType.long : Cond) ∈ TB := TB_d TDe_1 13 rfl rfl
set_option maxRecDepth 20000 in
theorem tw_62 : (Cond.arrayClass Jvm.ClassFile.FieldType.boolean : Cond) ∈ TB := TB_d TDe_1 14 rfl rfl
set_option maxRecDepth 20000 in
theorem tw_63 : (Cond.classLink "AnyOrder" (18 : Nat) "AnyOrder$Lengths" : Cond) ∈ TB := TB_d TDe_1 15 rfl rfl
set_option maxRecDepth 20000 in
theorem tw_64 : (Cond.instantiable "AnyOrder$Lengths" (6 : Nat) : Cond) ∈ TB := TB_d TDe_1 16 rfl rfl
set_option maxRecDepth 20000 in
theorem tw_65 : (Cond.methodLink "AnyOrder" (20 : Nat) ({ cls := "AnyOrder$Lengths", name := "<init>", desc := "(LAnyOrder$Tables;)V" } : Jvm.MethodName) : Cond) ∈ TB := TB_d TDe_1 17 rfl rfl
set_option maxRecDepth 20000 in
theorem tw_66 : (Cond.instanceMethod ({ cls := "AnyOrder$Lengths", name := "<init>", desc := "(LAnyOrder$Tables;)V" } : Jvm.MethodName) : Cond) ∈ TB := TB_d TDe_1 18 rfl rfl
set_option maxRecDepth 20000 in
theorem tw_67 : (Cond.code ({ cls := "AnyOrder$Lengths", name := "<init>", desc := "(LAnyOrder$Tables;)V" } : Jvm.MethodName) prog_4_method_1_code (3 : Nat) (Option.none : Option Jvm.ClassFile.FieldType) : Cond) ∈ TB := TB_d TDe_1 19 rfl rfl
set_option maxRecDepth 20000 in
theorem tw_68 : (Cond.methodLink "AnyOrder$Lengths" (3 : Nat) ({ cls := "java/lang/Object", name := "<init>", desc := "()V" } : Jvm.MethodName) : Cond) ∈ TB := TB_d TDe_1 20 rfl rfl
set_option maxRecDepth 20000 in
theorem tw_69 : (Cond.classLink "AnyOrder$Lengths" (9 : Nat) "AnyOrder$Survey" : Cond) ∈ TB := TB_d TDe_1 21 rfl rfl
set_option maxRecDepth 20000 in
theorem tw_71 : (Cond.classLink "AnyOrder$Lengths" (17 : Nat) "[[I" : Cond) ∈ TB := TB_d TDe_1 23 rfl rfl
set_option maxRecDepth 20000 in
theorem tw_73 : (Cond.classLink "AnyOrder$Lengths" (22 : Nat) "[[J" : Cond) ∈ TB := TB_d TDe_1 25 rfl rfl
set_option maxRecDepth 20000 in
theorem tw_74 : (Cond.instantiable "AnyOrder$Survey" (10 : Nat) : Cond) ∈ TB := TB_d TDe_1 26 rfl rfl
set_option maxRecDepth 20000 in
theorem tw_76 : (Cond.instanceMethod ({ cls := "AnyOrder$Survey", name := "<init>", desc := "()V" } : Jvm.MethodName) : Cond) ∈ TB := TB_d TDe_1 28 rfl rfl
set_option maxRecDepth 20000 in
theorem tw_77 : (Cond.code ({ cls := "AnyOrder$Survey", name := "<init>", desc := "()V" } : Jvm.MethodName) prog_8_method_1_code (1 : Nat) (Option.none : Option Jvm.ClassFile.FieldType) : Cond) ∈ TB := TB_d TDe_1 29 rfl rfl
set_option maxRecDepth 20000 in
theorem tw_78 : (Cond.methodLink "AnyOrder$Survey" (3 : Nat) ({ cls := "java/lang/Object", name := "<init>", desc := "()V" } : Jvm.MethodName) : Cond) ∈ TB := TB_d TDe_1 30 rfl rfl
set_option maxRecDepth 20000 in
theorem tw_79 : (Cond.fieldLink "AnyOrder$Survey" (9 : Nat) "AnyOrder$Survey" "greatestWord" "[I" : Cond) ∈ TB := TB_d TDe_1 31 rfl rfl
set_option maxRecDepth 20000 in
theorem tw_80 : (Cond.fieldLink "AnyOrder" (132 : Nat) "AnyOrder$Survey" "greatestWord" "[I" : Cond) ∈ TB := TB_d TDe_1 32 rfl rfl
set_option maxRecDepth 20000 in
theorem tw_81 : (Cond.fieldLink "AnyOrder$Survey" (15 : Nat) "AnyOrder$Survey" "leastWord" "[I" : Cond) ∈ TB := TB_d TDe_1 33 rfl rfl
set_option maxRecDepth 20000 in
theorem tw_82 : (Cond.fieldLink "AnyOrder" (135 : Nat) "AnyOrder$Survey" "leastWord" "[I" : Cond) ∈ TB := TB_d TDe_1 34 rfl rfl
set_option maxRecDepth 20000 in
theorem tw_83 : (Cond.fieldLink "AnyOrder$Survey" (18 : Nat) "AnyOrder$Survey" "ringWord" "[I" : Cond) ∈ TB := TB_d TDe_1 35 rfl rfl
set_option maxRecDepth 20000 in
theorem tw_84 : (Cond.fieldLink "AnyOrder" (144 : Nat) "AnyOrder$Survey" "ringWord" "[I" : Cond) ∈ TB := TB_d TDe_1 36 rfl rfl
set_option maxRecDepth 20000 in
theorem tw_85 : (Cond.fieldLink "AnyOrder$Survey" (21 : Nat) "AnyOrder$Survey" "isDone" "Z" : Cond) ∈ TB := TB_d TDe_1 37 rfl rfl
set_option maxRecDepth 20000 in
theorem tw_86 : (Cond.fieldLink "AnyOrder$Lengths" (40 : Nat) "AnyOrder$Survey" "isDone" "Z" : Cond) ∈ TB := TB_d TDe_1 38 rfl rfl
set_option maxRecDepth 20000 in
theorem tw_87 : (Cond.fieldLink "AnyOrder$Survey" (25 : Nat) "AnyOrder$Survey" "noughts" "I" : Cond) ∈ TB := TB_d TDe_1 39 rfl rfl
set_option maxRecDepth 20000 in
theorem tw_88 : (Cond.fieldLink "AnyOrder" (129 : Nat) "AnyOrder$Survey" "noughts" "I" : Cond) ∈ TB := TB_d TDe_1 40 rfl rfl
set_option maxRecDepth 20000 in
theorem tw_89 : (Cond.fieldLink "AnyOrder$Survey" (29 : Nat) "AnyOrder$Survey" "ringCount" "I" : Cond) ∈ TB := TB_d TDe_1 41 rfl rfl
set_option maxRecDepth 20000 in
theorem tw_90 : (Cond.fieldLink "AnyOrder" (138 : Nat) "AnyOrder$Survey" "ringCount" "I" : Cond) ∈ TB := TB_d TDe_1 42 rfl rfl
set_option maxRecDepth 20000 in
theorem tw_91 : (Cond.fieldLink "AnyOrder$Survey" (34 : Nat) "AnyOrder$Survey" "greatest" "J" : Cond) ∈ TB := TB_d TDe_1 43 rfl rfl
set_option maxRecDepth 20000 in
theorem tw_92 : (Cond.fieldLink "AnyOrder" (120 : Nat) "AnyOrder$Survey" "greatest" "J" : Cond) ∈ TB := TB_d TDe_1 44 rfl rfl
set_option maxRecDepth 20000 in
theorem tw_93 : (Cond.fieldLink "AnyOrder$Lengths" (141 : Nat) "AnyOrder$Survey" "greatest" "J" : Cond) ∈ TB := TB_d TDe_1 45 rfl rfl
set_option maxRecDepth 20000 in
theorem tw_94 : (Cond.fieldLink "AnyOrder$Survey" (42 : Nat) "AnyOrder$Survey" "least" "J" : Cond) ∈ TB := TB_d TDe_1 46 rfl rfl
set_option maxRecDepth 20000 in
theorem tw_95 : (Cond.fieldLink "AnyOrder" (126 : Nat) "AnyOrder$Survey" "least" "J" : Cond) ∈ TB := TB_d TDe_1 47 rfl rfl
def TD_2 : List Cond := [Cond.fieldLink "AnyOrder$Survey" (45 : Nat) "AnyOrder$Survey" "greatestRingTrack" "J", Cond.fieldLink "AnyOrder" (141 : Nat) "AnyOrder$Survey" "greatestRingTrack" "J", Cond.fieldLink "AnyOrder$Survey" (48 : Nat) "AnyOrder$Survey" "greatestTurnableTrack" "J", Cond.fieldLink "AnyOrder$Lengths" (134 : Nat) "AnyOrder$Survey" "greatestTurnableTrack" "J", Cond.laysFinal "AnyOrder$Survey" "AnyOrder$Survey" "greatestWord" "[I", Cond.soleField "AnyOrder$Survey" "greatestWord", Cond.laysFinal "AnyOrder$Survey" "AnyOrder$Survey" "leastWord" "[I", Cond.soleField "AnyOrder$Survey" "leastWord", Cond.laysFinal "AnyOrder$Survey" "AnyOrder$Survey" "ringWord" "[I", Cond.soleField "AnyOrder$Survey" "ringWord", Cond.lays "AnyOrder$Survey" "AnyOrder$Survey" "isDone" "Z", Cond.soleField "AnyOrder$Survey" "isDone", Cond.lays "AnyOrder$Survey" "AnyOrder$Survey" "noughts" "I", Cond.soleField "AnyOrder$Survey" "noughts", Cond.lays "AnyOrder$Survey" "AnyOrder$Survey" "ringCount" "I", Cond.soleField "AnyOrder$Survey" "ringCount", Cond.lays "AnyOrder$Survey" "AnyOrder$Survey" "greatest" "J", Cond.soleField "AnyOrder$Survey" "greatest", Cond.lays "AnyOrder$Survey" "AnyOrder$Survey" "least" "J", Cond.soleField "AnyOrder$Survey" "least", Cond.lays "AnyOrder$Survey" "AnyOrder$Survey" "greatestRingTrack" "J", Cond.soleField "AnyOrder$Survey" "greatestRingTrack", Cond.lays "AnyOrder$Survey" "AnyOrder$Survey" "greatestTurnableTrack" "J", Cond.soleField "AnyOrder$Survey" "greatestTurnableTrack", Cond.superclass "AnyOrder$Survey" "java/lang/Object", Cond.arrayClass Jvm.ClassFile.FieldType.int, Cond.fieldLink "AnyOrder$Lengths" (31 : Nat) "AnyOrder$Lengths" "tables" "LAnyOrder$Tables;", Cond.fieldLink "AnyOrder$Lengths" (11 : Nat) "AnyOrder$Lengths" "surveys" "[LAnyOrder$Survey;", Cond.fieldLink "AnyOrder$Lengths" (19 : Nat) "AnyOrder$Lengths" "ways" "[[I", Cond.fieldLink "AnyOrder$Lengths" (24 : Nat) "AnyOrder$Lengths" "prefixes" "[[J", Cond.fieldLink "AnyOrder$Lengths" (27 : Nat) "AnyOrder$Lengths" "letters" "[I", Cond.fieldLink "AnyOrder$Lengths" (36 : Nat) "AnyOrder$Lengths" "hasWays" "Z", Cond.laysFinal "AnyOrder$Lengths" "AnyOrder$Lengths" "tables" "LAnyOrder$Tables;", Cond.soleField "AnyOrder$Lengths" "tables", Cond.laysFinal "AnyOrder$Lengths" "AnyOrder$Lengths" "surveys" "[LAnyOrder$Survey;", Cond.soleField "AnyOrder$Lengths" "surveys", Cond.laysFinal "AnyOrder$Lengths" "AnyOrder$Lengths" "ways" "[[I", Cond.soleField "AnyOrder$Lengths" "ways", Cond.laysFinal "AnyOrder$Lengths" "AnyOrder$Lengths" "prefixes" "[[J", Cond.soleField "AnyOrder$Lengths" "prefixes", Cond.laysFinal "AnyOrder$Lengths" "AnyOrder$Lengths" "letters" "[I", Cond.soleField "AnyOrder$Lengths" "letters", Cond.lays "AnyOrder$Lengths" "AnyOrder$Lengths" "hasWays" "Z", Cond.soleField "AnyOrder$Lengths" "hasWays", Cond.superclass "AnyOrder$Lengths" "java/lang/Object", Cond.classLink "AnyOrder" (27 : Nat) "AnyOrder$Closure", Cond.instantiable "AnyOrder$Closure" (13 : Nat), Cond.methodLink "AnyOrder" (29 : Nat) ({ cls := "AnyOrder$Closure", name := "<init>", desc := "(LAnyOrder$Tables;)V" } : Jvm.MethodName)]
set_option maxRecDepth 20000 in
theorem TDe_2 : TD_2 = (tables_1.drop 96).take 48 := rfl
set_option maxRecDepth 20000 in
theorem tw_96 : (Cond.fieldLink "AnyOrder$Survey" (45 : Nat) "AnyOrder$Survey" "greatestRingTrack" "J" : Cond) ∈ TB := TB_d TDe_2 0 rfl rfl
set_option maxRecDepth 20000 in
theorem tw_97 : (Cond.fieldLink "AnyOrder" (141 : Nat) "AnyOrder$Survey" "greatestRingTrack" "J" : Cond) ∈ TB := TB_d TDe_2 1 rfl rfl
set_option maxRecDepth 20000 in
theorem tw_98 : (Cond.fieldLink "AnyOrder$Survey" (48 : Nat) "AnyOrder$Survey" "greatestTurnableTrack" "J" : Cond) ∈ TB := TB_d TDe_2 2 rfl rfl
set_option maxRecDepth 20000 in
theorem tw_99 : (Cond.fieldLink "AnyOrder$Lengths" (134 : Nat) "AnyOrder$Survey" "greatestTurnableTrack" "J" : Cond) ∈ TB := TB_d TDe_2 3 rfl rfl
set_option maxRecDepth 20000 in
theorem tw_121 : (Cond.arrayClass Jvm.ClassFile.FieldType.int : Cond) ∈ TB := TB_d TDe_2 25 rfl rfl
set_option maxRecDepth 20000 in
theorem tw_122 : (Cond.fieldLink "AnyOrder$Lengths" (31 : Nat) "AnyOrder$Lengths" "tables" "LAnyOrder$Tables;" : Cond) ∈ TB := TB_d TDe_2 26 rfl rfl
set_option maxRecDepth 20000 in
theorem tw_123 : (Cond.fieldLink "AnyOrder$Lengths" (11 : Nat) "AnyOrder$Lengths" "surveys" "[LAnyOrder$Survey;" : Cond) ∈ TB := TB_d TDe_2 27 rfl rfl
set_option maxRecDepth 20000 in
theorem tw_124 : (Cond.fieldLink "AnyOrder$Lengths" (19 : Nat) "AnyOrder$Lengths" "ways" "[[I" : Cond) ∈ TB := TB_d TDe_2 28 rfl rfl
set_option maxRecDepth 20000 in
theorem tw_125 : (Cond.fieldLink "AnyOrder$Lengths" (24 : Nat) "AnyOrder$Lengths" "prefixes" "[[J" : Cond) ∈ TB := TB_d TDe_2 29 rfl rfl
set_option maxRecDepth 20000 in
theorem tw_126 : (Cond.fieldLink "AnyOrder$Lengths" (27 : Nat) "AnyOrder$Lengths" "letters" "[I" : Cond) ∈ TB := TB_d TDe_2 30 rfl rfl
set_option maxRecDepth 20000 in
theorem tw_127 : (Cond.fieldLink "AnyOrder$Lengths" (36 : Nat) "AnyOrder$Lengths" "hasWays" "Z" : Cond) ∈ TB := TB_d TDe_2 31 rfl rfl
set_option maxRecDepth 20000 in
theorem tw_141 : (Cond.classLink "AnyOrder" (27 : Nat) "AnyOrder$Closure" : Cond) ∈ TB := TB_d TDe_2 45 rfl rfl
set_option maxRecDepth 20000 in
theorem tw_142 : (Cond.instantiable "AnyOrder$Closure" (13 : Nat) : Cond) ∈ TB := TB_d TDe_2 46 rfl rfl
set_option maxRecDepth 20000 in
theorem tw_143 : (Cond.methodLink "AnyOrder" (29 : Nat) ({ cls := "AnyOrder$Closure", name := "<init>", desc := "(LAnyOrder$Tables;)V" } : Jvm.MethodName) : Cond) ∈ TB := TB_d TDe_2 47 rfl rfl
def TD_3 : List Cond := [Cond.instanceMethod ({ cls := "AnyOrder$Closure", name := "<init>", desc := "(LAnyOrder$Tables;)V" } : Jvm.MethodName), Cond.code ({ cls := "AnyOrder$Closure", name := "<init>", desc := "(LAnyOrder$Tables;)V" } : Jvm.MethodName) prog_2_method_1_code (2 : Nat) (Option.none : Option Jvm.ClassFile.FieldType), Cond.methodLink "AnyOrder$Closure" (3 : Nat) ({ cls := "java/lang/Object", name := "<init>", desc := "()V" } : Jvm.MethodName), Cond.fieldLink "AnyOrder$Closure" (25 : Nat) "AnyOrder$Closure" "tables" "LAnyOrder$Tables;", Cond.fieldLink "AnyOrder$Closure" (9 : Nat) "AnyOrder$Closure" "left" "[J", Cond.fieldLink "AnyOrder$Closure" (15 : Nat) "AnyOrder$Closure" "right" "[J", Cond.fieldLink "AnyOrder$Closure" (18 : Nat) "AnyOrder$Closure" "candidate" "[J", Cond.fieldLink "AnyOrder$Closure" (39 : Nat) "AnyOrder$Closure" "entries" "[J", Cond.fieldLink "AnyOrder$Closure" (42 : Nat) "AnyOrder$Closure" "wordLengths" "[I", Cond.fieldLink "AnyOrder$Closure" (54 : Nat) "AnyOrder$Closure" "slots" "[I", Cond.fieldLink "AnyOrder$Closure" (21 : Nat) "AnyOrder$Closure" "state" "I", Cond.fieldLink "AnyOrder$Closure" (89 : Nat) "AnyOrder$Closure" "cellCount" "I", Cond.fieldLink "AnyOrder$Closure" (33 : Nat) "AnyOrder$Closure" "count" "I", Cond.fieldLink "AnyOrder" (164 : Nat) "AnyOrder$Closure" "count" "I", Cond.fieldLink "AnyOrder" (170 : Nat) "AnyOrder$Closure" "unit" "I", Cond.fieldLink "AnyOrder$Closure" (129 : Nat) "AnyOrder$Closure" "unit" "I", Cond.fieldLink "AnyOrder" (173 : Nat) "AnyOrder$Closure" "ownSquares" "I", Cond.fieldLink "AnyOrder$Closure" (132 : Nat) "AnyOrder$Closure" "ownSquares" "I", Cond.fieldLink "AnyOrder" (166 : Nat) "AnyOrder$Closure" "hasNought" "Z", Cond.fieldLink "AnyOrder$Closure" (125 : Nat) "AnyOrder$Closure" "hasNought" "Z", Cond.laysFinal "AnyOrder$Closure" "AnyOrder$Closure" "tables" "LAnyOrder$Tables;", Cond.soleField "AnyOrder$Closure" "tables", Cond.laysFinal "AnyOrder$Closure" "AnyOrder$Closure" "left" "[J", Cond.soleField "AnyOrder$Closure" "left", Cond.laysFinal "AnyOrder$Closure" "AnyOrder$Closure" "right" "[J", Cond.soleField "AnyOrder$Closure" "right", Cond.laysFinal "AnyOrder$Closure" "AnyOrder$Closure" "candidate" "[J", Cond.soleField "AnyOrder$Closure" "candidate", Cond.lays "AnyOrder$Closure" "AnyOrder$Closure" "entries" "[J", Cond.soleField "AnyOrder$Closure" "entries", Cond.lays "AnyOrder$Closure" "AnyOrder$Closure" "wordLengths" "[I", Cond.soleField "AnyOrder$Closure" "wordLengths", Cond.lays "AnyOrder$Closure" "AnyOrder$Closure" "slots" "[I", Cond.soleField "AnyOrder$Closure" "slots", Cond.lays "AnyOrder$Closure" "AnyOrder$Closure" "state" "I", Cond.soleField "AnyOrder$Closure" "state", Cond.lays "AnyOrder$Closure" "AnyOrder$Closure" "cellCount" "I", Cond.soleField "AnyOrder$Closure" "cellCount", Cond.lays "AnyOrder$Closure" "AnyOrder$Closure" "count" "I", Cond.soleField "AnyOrder$Closure" "count", Cond.lays "AnyOrder$Closure" "AnyOrder$Closure" "unit" "I", Cond.soleField "AnyOrder$Closure" "unit", Cond.lays "AnyOrder$Closure" "AnyOrder$Closure" "ownSquares" "I", Cond.soleField "AnyOrder$Closure" "ownSquares", Cond.lays "AnyOrder$Closure" "AnyOrder$Closure" "hasNought" "Z", Cond.soleField "AnyOrder$Closure" "hasNought", Cond.superclass "AnyOrder$Closure" "java/lang/Object", Cond.classLink "AnyOrder" (34 : Nat) "AnyOrder$Word"]
set_option maxRecDepth 20000 in
theorem TDe_3 : TD_3 = (tables_1.drop 144).take 48 := rfl
set_option maxRecDepth 20000 in
theorem tw_144 : (Cond.instanceMethod ({ cls := "AnyOrder$Closure", name := "<init>", desc := "(LAnyOrder$Tables;)V" } : Jvm.MethodName) : Cond) ∈ TB := TB_d TDe_3 0 rfl rfl
set_option maxRecDepth 20000 in
theorem tw_145 : (Cond.code ({ cls := "AnyOrder$Closure", name := "<init>", desc := "(LAnyOrder$Tables;)V" } : Jvm.MethodName) prog_2_method_1_code (2 : Nat) (Option.none : Option Jvm.ClassFile.FieldType) : Cond) ∈ TB := TB_d TDe_3 1 rfl rfl
set_option maxRecDepth 20000 in
theorem tw_146 : (Cond.methodLink "AnyOrder$Closure" (3 : Nat) ({ cls := "java/lang/Object", name := "<init>", desc := "()V" } : Jvm.MethodName) : Cond) ∈ TB := TB_d TDe_3 2 rfl rfl
set_option maxRecDepth 20000 in
theorem tw_147 : (Cond.fieldLink "AnyOrder$Closure" (25 : Nat) "AnyOrder$Closure" "tables" "LAnyOrder$Tables;" : Cond) ∈ TB := TB_d TDe_3 3 rfl rfl
set_option maxRecDepth 20000 in
theorem tw_148 : (Cond.fieldLink "AnyOrder$Closure" (9 : Nat) "AnyOrder$Closure" "left" "[J" : Cond) ∈ TB := TB_d TDe_3 4 rfl rfl
set_option maxRecDepth 20000 in
theorem tw_149 : (Cond.fieldLink "AnyOrder$Closure" (15 : Nat) "AnyOrder$Closure" "right" "[J" : Cond) ∈ TB := TB_d TDe_3 5 rfl rfl
set_option maxRecDepth 20000 in
theorem tw_150 : (Cond.fieldLink "AnyOrder$Closure" (18 : Nat) "AnyOrder$Closure" "candidate" "[J" : Cond) ∈ TB := TB_d TDe_3 6 rfl rfl
set_option maxRecDepth 20000 in
theorem tw_151 : (Cond.fieldLink "AnyOrder$Closure" (39 : Nat) "AnyOrder$Closure" "entries" "[J" : Cond) ∈ TB := TB_d TDe_3 7 rfl rfl
set_option maxRecDepth 20000 in
theorem tw_152 : (Cond.fieldLink "AnyOrder$Closure" (42 : Nat) "AnyOrder$Closure" "wordLengths" "[I" : Cond) ∈ TB := TB_d TDe_3 8 rfl rfl
set_option maxRecDepth 20000 in
theorem tw_153 : (Cond.fieldLink "AnyOrder$Closure" (54 : Nat) "AnyOrder$Closure" "slots" "[I" : Cond) ∈ TB := TB_d TDe_3 9 rfl rfl
set_option maxRecDepth 20000 in
theorem tw_154 : (Cond.fieldLink "AnyOrder$Closure" (21 : Nat) "AnyOrder$Closure" "state" "I" : Cond) ∈ TB := TB_d TDe_3 10 rfl rfl
set_option maxRecDepth 20000 in
theorem tw_155 : (Cond.fieldLink "AnyOrder$Closure" (89 : Nat) "AnyOrder$Closure" "cellCount" "I" : Cond) ∈ TB := TB_d TDe_3 11 rfl rfl
set_option maxRecDepth 20000 in
theorem tw_156 : (Cond.fieldLink "AnyOrder$Closure" (33 : Nat) "AnyOrder$Closure" "count" "I" : Cond) ∈ TB := TB_d TDe_3 12 rfl rfl
set_option maxRecDepth 20000 in
theorem tw_157 : (Cond.fieldLink "AnyOrder" (164 : Nat) "AnyOrder$Closure" "count" "I" : Cond) ∈ TB := TB_d TDe_3 13 rfl rfl
set_option maxRecDepth 20000 in
theorem tw_158 : (Cond.fieldLink "AnyOrder" (170 : Nat) "AnyOrder$Closure" "unit" "I" : Cond) ∈ TB := TB_d TDe_3 14 rfl rfl
set_option maxRecDepth 20000 in
theorem tw_159 : (Cond.fieldLink "AnyOrder$Closure" (129 : Nat) "AnyOrder$Closure" "unit" "I" : Cond) ∈ TB := TB_d TDe_3 15 rfl rfl
set_option maxRecDepth 20000 in
theorem tw_160 : (Cond.fieldLink "AnyOrder" (173 : Nat) "AnyOrder$Closure" "ownSquares" "I" : Cond) ∈ TB := TB_d TDe_3 16 rfl rfl
set_option maxRecDepth 20000 in
theorem tw_161 : (Cond.fieldLink "AnyOrder$Closure" (132 : Nat) "AnyOrder$Closure" "ownSquares" "I" : Cond) ∈ TB := TB_d TDe_3 17 rfl rfl
set_option maxRecDepth 20000 in
theorem tw_162 : (Cond.fieldLink "AnyOrder" (166 : Nat) "AnyOrder$Closure" "hasNought" "Z" : Cond) ∈ TB := TB_d TDe_3 18 rfl rfl
set_option maxRecDepth 20000 in
theorem tw_163 : (Cond.fieldLink "AnyOrder$Closure" (125 : Nat) "AnyOrder$Closure" "hasNought" "Z" : Cond) ∈ TB := TB_d TDe_3 19 rfl rfl
set_option maxRecDepth 20000 in
theorem tw_191 : (Cond.classLink "AnyOrder" (34 : Nat) "AnyOrder$Word" : Cond) ∈ TB := TB_d TDe_3 47 rfl rfl
def TD_4 : List Cond := [Cond.arrayOver (Jvm.ClassFile.FieldType.object "AnyOrder$Word"), Cond.classLink "AnyOrder" (40 : Nat) "AnyOrder$Sheet", Cond.arrayOver (Jvm.ClassFile.FieldType.object "AnyOrder$Sheet"), Cond.classLink "AnyOrder" (46 : Nat) "AnyOrder$Trail", Cond.instantiable "AnyOrder$Trail" (1 : Nat), Cond.methodLinkNest "AnyOrder" (48 : Nat) ({ cls := "AnyOrder$Trail", name := "<init>", desc := "()V" } : Jvm.MethodName) "AnyOrder", Cond.instanceMethod ({ cls := "AnyOrder$Trail", name := "<init>", desc := "()V" } : Jvm.MethodName), Cond.code ({ cls := "AnyOrder$Trail", name := "<init>", desc := "()V" } : Jvm.MethodName) prog_11_method_1_code (1 : Nat) (Option.none : Option Jvm.ClassFile.FieldType), Cond.methodLink "AnyOrder$Trail" (1 : Nat) ({ cls := "java/lang/Object", name := "<init>", desc := "()V" } : Jvm.MethodName), Cond.fieldLink "AnyOrder$Trail" (7 : Nat) "AnyOrder$Trail" "value" "I", Cond.fieldLink "AnyOrder" (263 : Nat) "AnyOrder$Trail" "value" "I", Cond.lays "AnyOrder$Trail" "AnyOrder$Trail" "value" "I", Cond.soleField "AnyOrder$Trail" "value", Cond.superclass "AnyOrder$Trail" "java/lang/Object", Cond.instantiable "AnyOrder$Word" (3 : Nat), Cond.methodLinkNest "AnyOrder" (53 : Nat) ({ cls := "AnyOrder$Word", name := "<init>", desc := "()V" } : Jvm.MethodName) "AnyOrder", Cond.instanceMethod ({ cls := "AnyOrder$Word", name := "<init>", desc := "()V" } : Jvm.MethodName), Cond.code ({ cls := "AnyOrder$Word", name := "<init>", desc := "()V" } : Jvm.MethodName) prog_12_method_1_code (1 : Nat) (Option.none : Option Jvm.ClassFile.FieldType), Cond.methodLink "AnyOrder$Word" (3 : Nat) ({ cls := "java/lang/Object", name := "<init>", desc := "()V" } : Jvm.MethodName), Cond.fieldLink "AnyOrder$Word" (9 : Nat) "AnyOrder$Word" "letters" "[I", Cond.fieldLink "AnyOrder" (207 : Nat) "AnyOrder$Word" "letters" "[I", Cond.fieldLink "AnyOrder$Word" (15 : Nat) "AnyOrder$Word" "row" "[J", Cond.fieldLink "AnyOrder" (224 : Nat) "AnyOrder$Word" "row" "[J", Cond.fieldLink "AnyOrder$Word" (19 : Nat) "AnyOrder$Word" "letterCount" "I", Cond.fieldLink "AnyOrder" (194 : Nat) "AnyOrder$Word" "letterCount" "I", Cond.laysFinal "AnyOrder$Word" "AnyOrder$Word" "letters" "[I", Cond.soleField "AnyOrder$Word" "letters", Cond.laysFinal "AnyOrder$Word" "AnyOrder$Word" "row" "[J", Cond.soleField "AnyOrder$Word" "row", Cond.lays "AnyOrder$Word" "AnyOrder$Word" "letterCount" "I", Cond.soleField "AnyOrder$Word" "letterCount", Cond.superclass "AnyOrder$Word" "java/lang/Object", Cond.instantiable "AnyOrder$Sheet" (4 : Nat), Cond.methodLinkNest "AnyOrder" (54 : Nat) ({ cls := "AnyOrder$Sheet", name := "<init>", desc := "()V" } : Jvm.MethodName) "AnyOrder", Cond.instanceMethod ({ cls := "AnyOrder$Sheet", name := "<init>", desc := "()V" } : Jvm.MethodName), Cond.code ({ cls := "AnyOrder$Sheet", name := "<init>", desc := "()V" } : Jvm.MethodName) prog_5_method_1_code (1 : Nat) (Option.none : Option Jvm.ClassFile.FieldType), Cond.methodLink "AnyOrder$Sheet" (3 : Nat) ({ cls := "java/lang/Object", name := "<init>", desc := "()V" } : Jvm.MethodName), Cond.fieldLink "AnyOrder$Sheet" (9 : Nat) "AnyOrder$Sheet" "cells" "[I", Cond.fieldLink "AnyOrder" (250 : Nat) "AnyOrder$Sheet" "cells" "[I", Cond.fieldLink "AnyOrder$Sheet" (25 : Nat) "AnyOrder$Sheet" "cellCount" "I", Cond.fieldLink "AnyOrder$Sheet" (21 : Nat) "AnyOrder$Sheet" "lane" "I", Cond.fieldLink "AnyOrder" (281 : Nat) "AnyOrder$Sheet" "lane" "I", Cond.fieldLink "AnyOrder$Sheet" (28 : Nat) "AnyOrder$Sheet" "hasRow" "Z", Cond.fieldLink "AnyOrder" (278 : Nat) "AnyOrder$Sheet" "hasRow" "Z", Cond.laysFinal "AnyOrder$Sheet" "AnyOrder$Sheet" "cells" "[I", Cond.soleField "AnyOrder$Sheet" "cells", Cond.lays "AnyOrder$Sheet" "AnyOrder$Sheet" "cellCount" "I", Cond.soleField "AnyOrder$Sheet" "cellCount"]
set_option maxRecDepth 20000 in
theorem TDe_4 : TD_4 = (tables_1.drop 192).take 48 := rfl
set_option maxRecDepth 20000 in
theorem tw_193 : (Cond.classLink "AnyOrder" (40 : Nat) "AnyOrder$Sheet" : Cond) ∈ TB := TB_d TDe_4 1 rfl rfl
set_option maxRecDepth 20000 in
theorem tw_195 : (Cond.classLink "AnyOrder" (46 : Nat) "AnyOrder$Trail" : Cond) ∈ TB := TB_d TDe_4 3 rfl rfl
set_option maxRecDepth 20000 in
theorem tw_196 : (Cond.instantiable "AnyOrder$Trail" (1 : Nat) : Cond) ∈ TB := TB_d TDe_4 4 rfl rfl
set_option maxRecDepth 20000 in
theorem tw_198 : (Cond.instanceMethod ({ cls := "AnyOrder$Trail", name := "<init>", desc := "()V" } : Jvm.MethodName) : Cond) ∈ TB := TB_d TDe_4 6 rfl rfl
set_option maxRecDepth 20000 in
theorem tw_199 : (Cond.code ({ cls := "AnyOrder$Trail", name := "<init>", desc := "()V" } : Jvm.MethodName) prog_11_method_1_code (1 : Nat) (Option.none : Option Jvm.ClassFile.FieldType) : Cond) ∈ TB := TB_d TDe_4 7 rfl rfl
set_option maxRecDepth 20000 in
theorem tw_200 : (Cond.methodLink "AnyOrder$Trail" (1 : Nat) ({ cls := "java/lang/Object", name := "<init>", desc := "()V" } : Jvm.MethodName) : Cond) ∈ TB := TB_d TDe_4 8 rfl rfl
set_option maxRecDepth 20000 in
theorem tw_201 : (Cond.fieldLink "AnyOrder$Trail" (7 : Nat) "AnyOrder$Trail" "value" "I" : Cond) ∈ TB := TB_d TDe_4 9 rfl rfl
set_option maxRecDepth 20000 in
theorem tw_202 : (Cond.fieldLink "AnyOrder" (263 : Nat) "AnyOrder$Trail" "value" "I" : Cond) ∈ TB := TB_d TDe_4 10 rfl rfl
set_option maxRecDepth 20000 in
theorem tw_206 : (Cond.instantiable "AnyOrder$Word" (3 : Nat) : Cond) ∈ TB := TB_d TDe_4 14 rfl rfl
set_option maxRecDepth 20000 in
theorem tw_208 : (Cond.instanceMethod ({ cls := "AnyOrder$Word", name := "<init>", desc := "()V" } : Jvm.MethodName) : Cond) ∈ TB := TB_d TDe_4 16 rfl rfl
set_option maxRecDepth 20000 in
theorem tw_209 : (Cond.code ({ cls := "AnyOrder$Word", name := "<init>", desc := "()V" } : Jvm.MethodName) prog_12_method_1_code (1 : Nat) (Option.none : Option Jvm.ClassFile.FieldType) : Cond) ∈ TB := TB_d TDe_4 17 rfl rfl
set_option maxRecDepth 20000 in
theorem tw_210 : (Cond.methodLink "AnyOrder$Word" (3 : Nat) ({ cls := "java/lang/Object", name := "<init>", desc := "()V" } : Jvm.MethodName) : Cond) ∈ TB := TB_d TDe_4 18 rfl rfl
set_option maxRecDepth 20000 in
theorem tw_211 : (Cond.fieldLink "AnyOrder$Word" (9 : Nat) "AnyOrder$Word" "letters" "[I" : Cond) ∈ TB := TB_d TDe_4 19 rfl rfl
set_option maxRecDepth 20000 in
theorem tw_212 : (Cond.fieldLink "AnyOrder" (207 : Nat) "AnyOrder$Word" "letters" "[I" : Cond) ∈ TB := TB_d TDe_4 20 rfl rfl
set_option maxRecDepth 20000 in
theorem tw_213 : (Cond.fieldLink "AnyOrder$Word" (15 : Nat) "AnyOrder$Word" "row" "[J" : Cond) ∈ TB := TB_d TDe_4 21 rfl rfl
set_option maxRecDepth 20000 in
theorem tw_214 : (Cond.fieldLink "AnyOrder" (224 : Nat) "AnyOrder$Word" "row" "[J" : Cond) ∈ TB := TB_d TDe_4 22 rfl rfl
set_option maxRecDepth 20000 in
theorem tw_215 : (Cond.fieldLink "AnyOrder$Word" (19 : Nat) "AnyOrder$Word" "letterCount" "I" : Cond) ∈ TB := TB_d TDe_4 23 rfl rfl
set_option maxRecDepth 20000 in
theorem tw_216 : (Cond.fieldLink "AnyOrder" (194 : Nat) "AnyOrder$Word" "letterCount" "I" : Cond) ∈ TB := TB_d TDe_4 24 rfl rfl
set_option maxRecDepth 20000 in
theorem tw_224 : (Cond.instantiable "AnyOrder$Sheet" (4 : Nat) : Cond) ∈ TB := TB_d TDe_4 32 rfl rfl
set_option maxRecDepth 20000 in
theorem tw_226 : (Cond.instanceMethod ({ cls := "AnyOrder$Sheet", name := "<init>", desc := "()V" } : Jvm.MethodName) : Cond) ∈ TB := TB_d TDe_4 34 rfl rfl
set_option maxRecDepth 20000 in
theorem tw_227 : (Cond.code ({ cls := "AnyOrder$Sheet", name := "<init>", desc := "()V" } : Jvm.MethodName) prog_5_method_1_code (1 : Nat) (Option.none : Option Jvm.ClassFile.FieldType) : Cond) ∈ TB := TB_d TDe_4 35 rfl rfl
set_option maxRecDepth 20000 in
theorem tw_228 : (Cond.methodLink "AnyOrder$Sheet" (3 : Nat) ({ cls := "java/lang/Object", name := "<init>", desc := "()V" } : Jvm.MethodName) : Cond) ∈ TB := TB_d TDe_4 36 rfl rfl
set_option maxRecDepth 20000 in
theorem tw_229 : (Cond.fieldLink "AnyOrder$Sheet" (9 : Nat) "AnyOrder$Sheet" "cells" "[I" : Cond) ∈ TB := TB_d TDe_4 37 rfl rfl
set_option maxRecDepth 20000 in
theorem tw_230 : (Cond.fieldLink "AnyOrder" (250 : Nat) "AnyOrder$Sheet" "cells" "[I" : Cond) ∈ TB := TB_d TDe_4 38 rfl rfl
set_option maxRecDepth 20000 in
theorem tw_231 : (Cond.fieldLink "AnyOrder$Sheet" (25 : Nat) "AnyOrder$Sheet" "cellCount" "I" : Cond) ∈ TB := TB_d TDe_4 39 rfl rfl
set_option maxRecDepth 20000 in
theorem tw_232 : (Cond.fieldLink "AnyOrder$Sheet" (21 : Nat) "AnyOrder$Sheet" "lane" "I" : Cond) ∈ TB := TB_d TDe_4 40 rfl rfl
set_option maxRecDepth 20000 in
theorem tw_233 : (Cond.fieldLink "AnyOrder" (281 : Nat) "AnyOrder$Sheet" "lane" "I" : Cond) ∈ TB := TB_d TDe_4 41 rfl rfl
set_option maxRecDepth 20000 in
theorem tw_234 : (Cond.fieldLink "AnyOrder$Sheet" (28 : Nat) "AnyOrder$Sheet" "hasRow" "Z" : Cond) ∈ TB := TB_d TDe_4 42 rfl rfl
set_option maxRecDepth 20000 in
theorem tw_235 : (Cond.fieldLink "AnyOrder" (278 : Nat) "AnyOrder$Sheet" "hasRow" "Z" : Cond) ∈ TB := TB_d TDe_4 43 rfl rfl
def TD_5 : List Cond := [Cond.lays "AnyOrder$Sheet" "AnyOrder$Sheet" "lane" "I", Cond.soleField "AnyOrder$Sheet" "lane", Cond.lays "AnyOrder$Sheet" "AnyOrder$Sheet" "hasRow" "Z", Cond.soleField "AnyOrder$Sheet" "hasRow", Cond.superclass "AnyOrder$Sheet" "java/lang/Object", Cond.fieldLink "AnyOrder" (14 : Nat) "AnyOrder" "tables" "LAnyOrder$Tables;", Cond.fieldLink "AnyOrder" (23 : Nat) "AnyOrder" "lengths" "LAnyOrder$Lengths;", Cond.fieldLink "AnyOrder" (30 : Nat) "AnyOrder" "closure" "LAnyOrder$Closure;", Cond.fieldLink "AnyOrder" (36 : Nat) "AnyOrder" "words" "[LAnyOrder$Word;", Cond.fieldLink "AnyOrder" (42 : Nat) "AnyOrder" "sheets" "[LAnyOrder$Sheet;", Cond.fieldLink "AnyOrder" (49 : Nat) "AnyOrder" "trail" "LAnyOrder$Trail;", Cond.fieldLink "AnyOrder" (67 : Nat) "AnyOrder" "wordCount" "I", Cond.fieldLink "AnyOrder" (266 : Nat) "AnyOrder" "latestFault" "I", Cond.laysFinal "AnyOrder" "AnyOrder" "tables" "LAnyOrder$Tables;", Cond.soleField "AnyOrder" "tables", Cond.laysFinal "AnyOrder" "AnyOrder" "lengths" "LAnyOrder$Lengths;", Cond.soleField "AnyOrder" "lengths", Cond.laysFinal "AnyOrder" "AnyOrder" "closure" "LAnyOrder$Closure;", Cond.soleField "AnyOrder" "closure", Cond.laysFinal "AnyOrder" "AnyOrder" "words" "[LAnyOrder$Word;", Cond.soleField "AnyOrder" "words", Cond.laysFinal "AnyOrder" "AnyOrder" "sheets" "[LAnyOrder$Sheet;", Cond.soleField "AnyOrder" "sheets", Cond.laysFinal "AnyOrder" "AnyOrder" "trail" "LAnyOrder$Trail;", Cond.soleField "AnyOrder" "trail", Cond.lays "AnyOrder" "AnyOrder" "wordCount" "I", Cond.soleField "AnyOrder" "wordCount", Cond.lays "AnyOrder" "AnyOrder" "latestFault" "I", Cond.soleField "AnyOrder" "latestFault", Cond.superclass "AnyOrder" "java/lang/Object", Cond.methodLink "AnyOrderLaw" (13 : Nat) ({ cls := "AnyOrder", name := "begin", desc := "(II)I" } : Jvm.MethodName), Cond.instanceMethod ({ cls := "AnyOrder", name := "begin", desc := "(II)I" } : Jvm.MethodName), Cond.selects "AnyOrder" ({ cls := "AnyOrder", name := "begin", desc := "(II)I" } : Jvm.MethodName) ({ cls := "AnyOrder", name := "begin", desc := "(II)I" } : Jvm.MethodName), Cond.code ({ cls := "AnyOrder", name := "begin", desc := "(II)I" } : Jvm.MethodName) prog_1_method_2_code (3 : Nat) (Option.some Jvm.ClassFile.FieldType.int), Cond.methodLink "AnyOrder" (55 : Nat) ({ cls := "AnyOrder", name := "isWithin", desc := "(III)Z" } : Jvm.MethodName), Cond.static ({ cls := "AnyOrder", name := "isWithin", desc := "(III)Z" } : Jvm.MethodName), Cond.code ({ cls := "AnyOrder", name := "isWithin", desc := "(III)Z" } : Jvm.MethodName) prog_1_method_32_code (3 : Nat) (Option.some Jvm.ClassFile.FieldType.boolean), Cond.methodLink "AnyOrder" (59 : Nat) ({ cls := "AnyOrder$Tables", name := "restart", desc := "(II)V" } : Jvm.MethodName), Cond.instanceMethod ({ cls := "AnyOrder$Tables", name := "restart", desc := "(II)V" } : Jvm.MethodName), Cond.selects "AnyOrder$Tables" ({ cls := "AnyOrder$Tables", name := "restart", desc := "(II)V" } : Jvm.MethodName) ({ cls := "AnyOrder$Tables", name := "restart", desc := "(II)V" } : Jvm.MethodName), Cond.code ({ cls := "AnyOrder$Tables", name := "restart", desc := "(II)V" } : Jvm.MethodName) prog_10_method_2_code (3 : Nat) (Option.none : Option Jvm.ClassFile.FieldType), Cond.methodLink "AnyOrder" (63 : Nat) ({ cls := "AnyOrder$Lengths", name := "forget", desc := "()V" } : Jvm.MethodName), Cond.instanceMethod ({ cls := "AnyOrder$Lengths", name := "forget", desc := "()V" } : Jvm.MethodName), Cond.selects "AnyOrder$Lengths" ({ cls := "AnyOrder$Lengths", name := "forget", desc := "()V" } : Jvm.MethodName) ({ cls := "AnyOrder$Lengths", name := "forget", desc := "()V" } : Jvm.MethodName), Cond.code ({ cls := "AnyOrder$Lengths", name := "forget", desc := "()V" } : Jvm.MethodName) prog_4_method_2_code (2 : Nat) (Option.none : Option Jvm.ClassFile.FieldType), Cond.methodLink "AnyOrder" (66 : Nat) ({ cls := "AnyOrder$Closure", name := "forget", desc := "()V" } : Jvm.MethodName), Cond.instanceMethod ({ cls := "AnyOrder$Closure", name := "forget", desc := "()V" } : Jvm.MethodName), Cond.selects "AnyOrder$Closure" ({ cls := "AnyOrder$Closure", name := "forget", desc := "()V" } : Jvm.MethodName) ({ cls := "AnyOrder$Closure", name := "forget", desc := "()V" } : Jvm.MethodName)]
set_option maxRecDepth 20000 in
theorem TDe_5 : TD_5 = (tables_1.drop 240).take 48 := rfl
set_option maxRecDepth 20000 in
theorem tw_245 : (Cond.fieldLink "AnyOrder" (14 : Nat) "AnyOrder" "tables" "LAnyOrder$Tables;" : Cond) ∈ TB := TB_d TDe_5 5 rfl rfl
set_option maxRecDepth 20000 in
theorem tw_246 : (Cond.fieldLink "AnyOrder" (23 : Nat) "AnyOrder" "lengths" "LAnyOrder$Lengths;" : Cond) ∈ TB := TB_d TDe_5 6 rfl rfl
set_option maxRecDepth 20000 in
theorem tw_247 : (Cond.fieldLink "AnyOrder" (30 : Nat) "AnyOrder" "closure" "LAnyOrder$Closure;" : Cond) ∈ TB := TB_d TDe_5 7 rfl rfl
set_option maxRecDepth 20000 in
theorem tw_248 : (Cond.fieldLink "AnyOrder" (36 : Nat) "AnyOrder" "words" "[LAnyOrder$Word;" : Cond) ∈ TB := TB_d TDe_5 8 rfl rfl
set_option maxRecDepth 20000 in
theorem tw_249 : (Cond.fieldLink "AnyOrder" (42 : Nat) "AnyOrder" "sheets" "[LAnyOrder$Sheet;" : Cond) ∈ TB := TB_d TDe_5 9 rfl rfl
set_option maxRecDepth 20000 in
theorem tw_250 : (Cond.fieldLink "AnyOrder" (49 : Nat) "AnyOrder" "trail" "LAnyOrder$Trail;" : Cond) ∈ TB := TB_d TDe_5 10 rfl rfl
set_option maxRecDepth 20000 in
theorem tw_251 : (Cond.fieldLink "AnyOrder" (67 : Nat) "AnyOrder" "wordCount" "I" : Cond) ∈ TB := TB_d TDe_5 11 rfl rfl
set_option maxRecDepth 20000 in
theorem tw_252 : (Cond.fieldLink "AnyOrder" (266 : Nat) "AnyOrder" "latestFault" "I" : Cond) ∈ TB := TB_d TDe_5 12 rfl rfl
set_option maxRecDepth 20000 in
theorem tw_270 : (Cond.methodLink "AnyOrderLaw" (13 : Nat) ({ cls := "AnyOrder", name := "begin", desc := "(II)I" } : Jvm.MethodName) : Cond) ∈ TB := TB_d TDe_5 30 rfl rfl
set_option maxRecDepth 20000 in
theorem tw_271 : (Cond.instanceMethod ({ cls := "AnyOrder", name := "begin", desc := "(II)I" } : Jvm.MethodName) : Cond) ∈ TB := TB_d TDe_5 31 rfl rfl
set_option maxRecDepth 20000 in
theorem tw_272 : (Cond.selects "AnyOrder" ({ cls := "AnyOrder", name := "begin", desc := "(II)I" } : Jvm.MethodName) ({ cls := "AnyOrder", name := "begin", desc := "(II)I" } : Jvm.MethodName) : Cond) ∈ TB := TB_d TDe_5 32 rfl rfl
set_option maxRecDepth 20000 in
theorem tw_273 : (Cond.code ({ cls := "AnyOrder", name := "begin", desc := "(II)I" } : Jvm.MethodName) prog_1_method_2_code (3 : Nat) (Option.some Jvm.ClassFile.FieldType.int) : Cond) ∈ TB := TB_d TDe_5 33 rfl rfl
set_option maxRecDepth 20000 in
theorem tw_274 : (Cond.methodLink "AnyOrder" (55 : Nat) ({ cls := "AnyOrder", name := "isWithin", desc := "(III)Z" } : Jvm.MethodName) : Cond) ∈ TB := TB_d TDe_5 34 rfl rfl
set_option maxRecDepth 20000 in
theorem tw_275 : (Cond.static ({ cls := "AnyOrder", name := "isWithin", desc := "(III)Z" } : Jvm.MethodName) : Cond) ∈ TB := TB_d TDe_5 35 rfl rfl
set_option maxRecDepth 20000 in
theorem tw_276 : (Cond.code ({ cls := "AnyOrder", name := "isWithin", desc := "(III)Z" } : Jvm.MethodName) prog_1_method_32_code (3 : Nat) (Option.some Jvm.ClassFile.FieldType.boolean) : Cond) ∈ TB := TB_d TDe_5 36 rfl rfl
set_option maxRecDepth 20000 in
theorem tw_277 : (Cond.methodLink "AnyOrder" (59 : Nat) ({ cls := "AnyOrder$Tables", name := "restart", desc := "(II)V" } : Jvm.MethodName) : Cond) ∈ TB := TB_d TDe_5 37 rfl rfl
set_option maxRecDepth 20000 in
theorem tw_278 : (Cond.instanceMethod ({ cls := "AnyOrder$Tables", name := "restart", desc := "(II)V" } : Jvm.MethodName) : Cond) ∈ TB := TB_d TDe_5 38 rfl rfl
set_option maxRecDepth 20000 in
theorem tw_279 : (Cond.selects "AnyOrder$Tables" ({ cls := "AnyOrder$Tables", name := "restart", desc := "(II)V" } : Jvm.MethodName) ({ cls := "AnyOrder$Tables", name := "restart", desc := "(II)V" } : Jvm.MethodName) : Cond) ∈ TB := TB_d TDe_5 39 rfl rfl
set_option maxRecDepth 20000 in
theorem tw_280 : (Cond.code ({ cls := "AnyOrder$Tables", name := "restart", desc := "(II)V" } : Jvm.MethodName) prog_10_method_2_code (3 : Nat) (Option.none : Option Jvm.ClassFile.FieldType) : Cond) ∈ TB := TB_d TDe_5 40 rfl rfl
set_option maxRecDepth 20000 in
theorem tw_281 : (Cond.methodLink "AnyOrder" (63 : Nat) ({ cls := "AnyOrder$Lengths", name := "forget", desc := "()V" } : Jvm.MethodName) : Cond) ∈ TB := TB_d TDe_5 41 rfl rfl
set_option maxRecDepth 20000 in
theorem tw_282 : (Cond.instanceMethod ({ cls := "AnyOrder$Lengths", name := "forget", desc := "()V" } : Jvm.MethodName) : Cond) ∈ TB := TB_d TDe_5 42 rfl rfl
set_option maxRecDepth 20000 in
theorem tw_283 : (Cond.selects "AnyOrder$Lengths" ({ cls := "AnyOrder$Lengths", name := "forget", desc := "()V" } : Jvm.MethodName) ({ cls := "AnyOrder$Lengths", name := "forget", desc := "()V" } : Jvm.MethodName) : Cond) ∈ TB := TB_d TDe_5 43 rfl rfl
set_option maxRecDepth 20000 in
theorem tw_284 : (Cond.code ({ cls := "AnyOrder$Lengths", name := "forget", desc := "()V" } : Jvm.MethodName) prog_4_method_2_code (2 : Nat) (Option.none : Option Jvm.ClassFile.FieldType) : Cond) ∈ TB := TB_d TDe_5 44 rfl rfl
set_option maxRecDepth 20000 in
theorem tw_285 : (Cond.methodLink "AnyOrder" (66 : Nat) ({ cls := "AnyOrder$Closure", name := "forget", desc := "()V" } : Jvm.MethodName) : Cond) ∈ TB := TB_d TDe_5 45 rfl rfl
set_option maxRecDepth 20000 in
theorem tw_286 : (Cond.instanceMethod ({ cls := "AnyOrder$Closure", name := "forget", desc := "()V" } : Jvm.MethodName) : Cond) ∈ TB := TB_d TDe_5 46 rfl rfl
set_option maxRecDepth 20000 in
theorem tw_287 : (Cond.selects "AnyOrder$Closure" ({ cls := "AnyOrder$Closure", name := "forget", desc := "()V" } : Jvm.MethodName) ({ cls := "AnyOrder$Closure", name := "forget", desc := "()V" } : Jvm.MethodName) : Cond) ∈ TB := TB_d TDe_5 47 rfl rfl
def TD_6 : List Cond := [Cond.code ({ cls := "AnyOrder$Closure", name := "forget", desc := "()V" } : Jvm.MethodName) prog_2_method_2_code (1 : Nat) (Option.none : Option Jvm.ClassFile.FieldType), Cond.methodLink "AnyOrderLaw" (18 : Nat) ({ cls := "AnyOrder", name := "table", desc := "(III)I" } : Jvm.MethodName), Cond.instanceMethod ({ cls := "AnyOrder", name := "table", desc := "(III)I" } : Jvm.MethodName), Cond.selects "AnyOrder" ({ cls := "AnyOrder", name := "table", desc := "(III)I" } : Jvm.MethodName) ({ cls := "AnyOrder", name := "table", desc := "(III)I" } : Jvm.MethodName), Cond.code ({ cls := "AnyOrder", name := "table", desc := "(III)I" } : Jvm.MethodName) prog_1_method_3_code (4 : Nat) (Option.some Jvm.ClassFile.FieldType.int), Cond.methodLink "AnyOrder" (71 : Nat) ({ cls := "AnyOrder", name := "addTable", desc := "(III)I" } : Jvm.MethodName), Cond.privateMethod ({ cls := "AnyOrder", name := "addTable", desc := "(III)I" } : Jvm.MethodName), Cond.instanceMethod ({ cls := "AnyOrder", name := "addTable", desc := "(III)I" } : Jvm.MethodName), Cond.code ({ cls := "AnyOrder", name := "addTable", desc := "(III)I" } : Jvm.MethodName) prog_1_method_38_code (8 : Nat) (Option.some Jvm.ClassFile.FieldType.int), Cond.methodLink "AnyOrder" (290 : Nat) ({ cls := "AnyOrder$Tables", name := "cellCount", desc := "()I" } : Jvm.MethodName), Cond.instanceMethod ({ cls := "AnyOrder$Tables", name := "cellCount", desc := "()I" } : Jvm.MethodName), Cond.selects "AnyOrder$Tables" ({ cls := "AnyOrder$Tables", name := "cellCount", desc := "()I" } : Jvm.MethodName) ({ cls := "AnyOrder$Tables", name := "cellCount", desc := "()I" } : Jvm.MethodName), Cond.code ({ cls := "AnyOrder$Tables", name := "cellCount", desc := "()I" } : Jvm.MethodName) prog_10_method_7_code (1 : Nat) (Option.some Jvm.ClassFile.FieldType.int), Cond.methodLink "AnyOrder" (247 : Nat) ({ cls := "AnyOrder", name := "lookAtCells", desc := "(IIII)I" } : Jvm.MethodName), Cond.privateMethod ({ cls := "AnyOrder", name := "lookAtCells", desc := "(IIII)I" } : Jvm.MethodName), Cond.instanceMethod ({ cls := "AnyOrder", name := "lookAtCells", desc := "(IIII)I" } : Jvm.MethodName), Cond.code ({ cls := "AnyOrder", name := "lookAtCells", desc := "(IIII)I" } : Jvm.MethodName) prog_1_method_37_code (6 : Nat) (Option.some Jvm.ClassFile.FieldType.int), Cond.methodLink "AnyOrder" (238 : Nat) ({ cls := "AnyOrder", name := "isSheet", desc := "(I)Z" } : Jvm.MethodName), Cond.static ({ cls := "AnyOrder", name := "isSheet", desc := "(I)Z" } : Jvm.MethodName), Cond.code ({ cls := "AnyOrder", name := "isSheet", desc := "(I)Z" } : Jvm.MethodName) prog_1_method_33_code (1 : Nat) (Option.some Jvm.ClassFile.FieldType.boolean), Cond.methodLink "AnyOrder" (275 : Nat) ({ cls := "AnyOrder", name := "isLane", desc := "(I)Z" } : Jvm.MethodName), Cond.static ({ cls := "AnyOrder", name := "isLane", desc := "(I)Z" } : Jvm.MethodName), Cond.code ({ cls := "AnyOrder", name := "isLane", desc := "(I)Z" } : Jvm.MethodName) prog_1_method_34_code (1 : Nat) (Option.some Jvm.ClassFile.FieldType.boolean), Cond.methodLink "AnyOrder" (284 : Nat) ({ cls := "AnyOrder", name := "faultAnswer", desc := "(I)I" } : Jvm.MethodName), Cond.static ({ cls := "AnyOrder", name := "faultAnswer", desc := "(I)I" } : Jvm.MethodName), Cond.code ({ cls := "AnyOrder", name := "faultAnswer", desc := "(I)I" } : Jvm.MethodName) prog_1_method_35_code (1 : Nat) (Option.some Jvm.ClassFile.FieldType.int), Cond.methodLink "AnyOrder" (287 : Nat) ({ cls := "AnyOrder$Sheet", name := "hasCells", desc := "(II)Z" } : Jvm.MethodName), Cond.instanceMethod ({ cls := "AnyOrder$Sheet", name := "hasCells", desc := "(II)Z" } : Jvm.MethodName), Cond.selects "AnyOrder$Sheet" ({ cls := "AnyOrder$Sheet", name := "hasCells", desc := "(II)Z" } : Jvm.MethodName) ({ cls := "AnyOrder$Sheet", name := "hasCells", desc := "(II)Z" } : Jvm.MethodName), Cond.code ({ cls := "AnyOrder$Sheet", name := "hasCells", desc := "(II)Z" } : Jvm.MethodName) prog_5_method_4_code (3 : Nat) (Option.some Jvm.ClassFile.FieldType.boolean), Cond.methodLink "AnyOrder" (151 : Nat) ({ cls := "AnyOrder$Tables", name := "count", desc := "()I" } : Jvm.MethodName), Cond.instanceMethod ({ cls := "AnyOrder$Tables", name := "count", desc := "()I" } : Jvm.MethodName), Cond.selects "AnyOrder$Tables" ({ cls := "AnyOrder$Tables", name := "count", desc := "()I" } : Jvm.MethodName) ({ cls := "AnyOrder$Tables", name := "count", desc := "()I" } : Jvm.MethodName), Cond.code ({ cls := "AnyOrder$Tables", name := "count", desc := "()I" } : Jvm.MethodName) prog_10_method_4_code (1 : Nat) (Option.some Jvm.ClassFile.FieldType.int), Cond.methodLink "AnyOrder" (293 : Nat) ({ cls := "AnyOrder$Tables", name := "add", desc := "([II)I" } : Jvm.MethodName), Cond.instanceMethod ({ cls := "AnyOrder$Tables", name := "add", desc := "([II)I" } : Jvm.MethodName), Cond.selects "AnyOrder$Tables" ({ cls := "AnyOrder$Tables", name := "add", desc := "([II)I" } : Jvm.MethodName) ({ cls := "AnyOrder$Tables", name := "add", desc := "([II)I" } : Jvm.MethodName), Cond.code ({ cls := "AnyOrder$Tables", name := "add", desc := "([II)I" } : Jvm.MethodName) prog_10_method_13_code (6 : Nat) (Option.some Jvm.ClassFile.FieldType.int), Cond.methodLink "AnyOrder$Tables" (43 : Nat) ({ cls := "java/util/Arrays", name := "copyOfRange", desc := "([III)[I" } : Jvm.MethodName), Cond.static ({ cls := "java/util/Arrays", name := "copyOfRange", desc := "([III)[I" } : Jvm.MethodName), Cond.code ({ cls := "java/util/Arrays", name := "copyOfRange", desc := "([III)[I" } : Jvm.MethodName) prog_18_method_136_code (3 : Nat) (Option.some (Jvm.ClassFile.FieldType.array Jvm.ClassFile.FieldType.int)), Cond.methodLink "java/util/Arrays" (351 : Nat) ({ cls := "java/util/Arrays", name := "copyOfRangeInt", desc := "([III)[I" } : Jvm.MethodName), Cond.static ({ cls := "java/util/Arrays", name := "copyOfRangeInt", desc := "([III)[I" } : Jvm.MethodName), Cond.code ({ cls := "java/util/Arrays", name := "copyOfRangeInt", desc := "([III)[I" } : Jvm.MethodName) prog_18_method_137_code (5 : Nat) (Option.some (Jvm.ClassFile.FieldType.array Jvm.ClassFile.FieldType.int)), Cond.methodLink "java/util/Arrays" (343 : Nat) ({ cls := "java/util/Arrays", name := "checkLength", desc := "(II)V" } : Jvm.MethodName), Cond.static ({ cls := "java/util/Arrays", name := "checkLength", desc := "(II)V" } : Jvm.MethodName), Cond.code ({ cls := "java/util/Arrays", name := "checkLength", desc := "(II)V" } : Jvm.MethodName) prog_18_method_131_code (2 : Nat) (Option.none : Option Jvm.ClassFile.FieldType), Cond.methodLink "java/util/Arrays" (304 : Nat) ({ cls := "java/lang/Math", name := "min", desc := "(II)I" } : Jvm.MethodName)]
set_option maxRecDepth 20000 in
theorem TDe_6 : TD_6 = (tables_1.drop 288).take 48 := rfl
set_option maxRecDepth 20000 in
theorem tw_288 : (Cond.code ({ cls := "AnyOrder$Closure", name := "forget", desc := "()V" } : Jvm.MethodName) prog_2_method_2_code (1 : Nat) (Option.none : Option Jvm.ClassFile.FieldType) : Cond) ∈ TB := TB_d TDe_6 0 rfl rfl
set_option maxRecDepth 20000 in
theorem tw_289 : (Cond.methodLink "AnyOrderLaw" (18 : Nat) ({ cls := "AnyOrder", name := "table", desc := "(III)I" } : Jvm.MethodName) : Cond) ∈ TB := TB_d TDe_6 1 rfl rfl
set_option maxRecDepth 20000 in
theorem tw_290 : (Cond.instanceMethod ({ cls := "AnyOrder", name := "table", desc := "(III)I" } : Jvm.MethodName) : Cond) ∈ TB := TB_d TDe_6 2 rfl rfl
set_option maxRecDepth 20000 in
theorem tw_291 : (Cond.selects "AnyOrder" ({ cls := "AnyOrder", name := "table", desc := "(III)I" } : Jvm.MethodName) ({ cls := "AnyOrder", name := "table", desc := "(III)I" } : Jvm.MethodName) : Cond) ∈ TB := TB_d TDe_6 3 rfl rfl
set_option maxRecDepth 20000 in
theorem tw_292 : (Cond.code ({ cls := "AnyOrder", name := "table", desc := "(III)I" } : Jvm.MethodName) prog_1_method_3_code (4 : Nat) (Option.some Jvm.ClassFile.FieldType.int) : Cond) ∈ TB := TB_d TDe_6 4 rfl rfl
set_option maxRecDepth 20000 in
theorem tw_293 : (Cond.methodLink "AnyOrder" (71 : Nat) ({ cls := "AnyOrder", name := "addTable", desc := "(III)I" } : Jvm.MethodName) : Cond) ∈ TB := TB_d TDe_6 5 rfl rfl
set_option maxRecDepth 20000 in
theorem tw_295 : (Cond.instanceMethod ({ cls := "AnyOrder", name := "addTable", desc := "(III)I" } : Jvm.MethodName) : Cond) ∈ TB := TB_d TDe_6 7 rfl rfl
set_option maxRecDepth 20000 in
theorem tw_296 : (Cond.code ({ cls := "AnyOrder", name := "addTable", desc := "(III)I" } : Jvm.MethodName) prog_1_method_38_code (8 : Nat) (Option.some Jvm.ClassFile.FieldType.int) : Cond) ∈ TB := TB_d TDe_6 8 rfl rfl
set_option maxRecDepth 20000 in
theorem tw_297 : (Cond.methodLink "AnyOrder" (290 : Nat) ({ cls := "AnyOrder$Tables", name := "cellCount", desc := "()I" } : Jvm.MethodName) : Cond) ∈ TB := TB_d TDe_6 9 rfl rfl
set_option maxRecDepth 20000 in
theorem tw_298 : (Cond.instanceMethod ({ cls := "AnyOrder$Tables", name := "cellCount", desc := "()I" } : Jvm.MethodName) : Cond) ∈ TB := TB_d TDe_6 10 rfl rfl
set_option maxRecDepth 20000 in
theorem tw_299 : (Cond.selects "AnyOrder$Tables" ({ cls := "AnyOrder$Tables", name := "cellCount", desc := "()I" } : Jvm.MethodName) ({ cls := "AnyOrder$Tables", name := "cellCount", desc := "()I" } : Jvm.MethodName) : Cond) ∈ TB := TB_d TDe_6 11 rfl rfl
set_option maxRecDepth 20000 in
theorem tw_300 : (Cond.code ({ cls := "AnyOrder$Tables", name := "cellCount", desc := "()I" } : Jvm.MethodName) prog_10_method_7_code (1 : Nat) (Option.some Jvm.ClassFile.FieldType.int) : Cond) ∈ TB := TB_d TDe_6 12 rfl rfl
set_option maxRecDepth 20000 in
theorem tw_301 : (Cond.methodLink "AnyOrder" (247 : Nat) ({ cls := "AnyOrder", name := "lookAtCells", desc := "(IIII)I" } : Jvm.MethodName) : Cond) ∈ TB := TB_d TDe_6 13 rfl rfl
set_option maxRecDepth 20000 in
theorem tw_303 : (Cond.instanceMethod ({ cls := "AnyOrder", name := "lookAtCells", desc := "(IIII)I" } : Jvm.MethodName) : Cond) ∈ TB := TB_d TDe_6 15 rfl rfl
set_option maxRecDepth 20000 in
theorem tw_304 : (Cond.code ({ cls := "AnyOrder", name := "lookAtCells", desc := "(IIII)I" } : Jvm.MethodName) prog_1_method_37_code (6 : Nat) (Option.some Jvm.ClassFile.FieldType.int) : Cond) ∈ TB := TB_d TDe_6 16 rfl rfl
set_option maxRecDepth 20000 in
theorem tw_305 : (Cond.methodLink "AnyOrder" (238 : Nat) ({ cls := "AnyOrder", name := "isSheet", desc := "(I)Z" } : Jvm.MethodName) : Cond) ∈ TB := TB_d TDe_6 17 rfl rfl
set_option maxRecDepth 20000 in
theorem tw_306 : (Cond.static ({ cls := "AnyOrder", name := "isSheet", desc := "(I)Z" } : Jvm.MethodName) : Cond) ∈ TB := TB_d TDe_6 18 rfl rfl
set_option maxRecDepth 20000 in
theorem tw_307 : (Cond.code ({ cls := "AnyOrder", name := "isSheet", desc := "(I)Z" } : Jvm.MethodName) prog_1_method_33_code (1 : Nat) (Option.some Jvm.ClassFile.FieldType.boolean) : Cond) ∈ TB := TB_d TDe_6 19 rfl rfl
set_option maxRecDepth 20000 in
theorem tw_308 : (Cond.methodLink "AnyOrder" (275 : Nat) ({ cls := "AnyOrder", name := "isLane", desc := "(I)Z" } : Jvm.MethodName) : Cond) ∈ TB := TB_d TDe_6 20 rfl rfl
set_option maxRecDepth 20000 in
theorem tw_309 : (Cond.static ({ cls := "AnyOrder", name := "isLane", desc := "(I)Z" } : Jvm.MethodName) : Cond) ∈ TB := TB_d TDe_6 21 rfl rfl
set_option maxRecDepth 20000 in
theorem tw_310 : (Cond.code ({ cls := "AnyOrder", name := "isLane", desc := "(I)Z" } : Jvm.MethodName) prog_1_method_34_code (1 : Nat) (Option.some Jvm.ClassFile.FieldType.boolean) : Cond) ∈ TB := TB_d TDe_6 22 rfl rfl
set_option maxRecDepth 20000 in
theorem tw_311 : (Cond.methodLink "AnyOrder" (284 : Nat) ({ cls := "AnyOrder", name := "faultAnswer", desc := "(I)I" } : Jvm.MethodName) : Cond) ∈ TB := TB_d TDe_6 23 rfl rfl
set_option maxRecDepth 20000 in
theorem tw_312 : (Cond.static ({ cls := "AnyOrder", name := "faultAnswer", desc := "(I)I" } : Jvm.MethodName) : Cond) ∈ TB := TB_d TDe_6 24 rfl rfl
set_option maxRecDepth 20000 in
theorem tw_313 : (Cond.code ({ cls := "AnyOrder", name := "faultAnswer", desc := "(I)I" } : Jvm.MethodName) prog_1_method_35_code (1 : Nat) (Option.some Jvm.ClassFile.FieldType.int) : Cond) ∈ TB := TB_d TDe_6 25 rfl rfl
set_option maxRecDepth 20000 in
theorem tw_314 : (Cond.methodLink "AnyOrder" (287 : Nat) ({ cls := "AnyOrder$Sheet", name := "hasCells", desc := "(II)Z" } : Jvm.MethodName) : Cond) ∈ TB := TB_d TDe_6 26 rfl rfl
set_option maxRecDepth 20000 in
theorem tw_315 : (Cond.instanceMethod ({ cls := "AnyOrder$Sheet", name := "hasCells", desc := "(II)Z" } : Jvm.MethodName) : Cond) ∈ TB := TB_d TDe_6 27 rfl rfl
set_option maxRecDepth 20000 in
theorem tw_316 : (Cond.selects "AnyOrder$Sheet" ({ cls := "AnyOrder$Sheet", name := "hasCells", desc := "(II)Z" } : Jvm.MethodName) ({ cls := "AnyOrder$Sheet", name := "hasCells", desc := "(II)Z" } : Jvm.MethodName) : Cond) ∈ TB := TB_d TDe_6 28 rfl rfl
set_option maxRecDepth 20000 in
theorem tw_317 : (Cond.code ({ cls := "AnyOrder$Sheet", name := "hasCells", desc := "(II)Z" } : Jvm.MethodName) prog_5_method_4_code (3 : Nat) (Option.some Jvm.ClassFile.FieldType.boolean) : Cond) ∈ TB := TB_d TDe_6 29 rfl rfl
set_option maxRecDepth 20000 in
theorem tw_318 : (Cond.methodLink "AnyOrder" (151 : Nat) ({ cls := "AnyOrder$Tables", name := "count", desc := "()I" } : Jvm.MethodName) : Cond) ∈ TB := TB_d TDe_6 30 rfl rfl
set_option maxRecDepth 20000 in
theorem tw_319 : (Cond.instanceMethod ({ cls := "AnyOrder$Tables", name := "count", desc := "()I" } : Jvm.MethodName) : Cond) ∈ TB := TB_d TDe_6 31 rfl rfl
set_option maxRecDepth 20000 in
theorem tw_320 : (Cond.selects "AnyOrder$Tables" ({ cls := "AnyOrder$Tables", name := "count", desc := "()I" } : Jvm.MethodName) ({ cls := "AnyOrder$Tables", name := "count", desc := "()I" } : Jvm.MethodName) : Cond) ∈ TB := TB_d TDe_6 32 rfl rfl
set_option maxRecDepth 20000 in
theorem tw_321 : (Cond.code ({ cls := "AnyOrder$Tables", name := "count", desc := "()I" } : Jvm.MethodName) prog_10_method_4_code (1 : Nat) (Option.some Jvm.ClassFile.FieldType.int) : Cond) ∈ TB := TB_d TDe_6 33 rfl rfl
set_option maxRecDepth 20000 in
theorem tw_322 : (Cond.methodLink "AnyOrder" (293 : Nat) ({ cls := "AnyOrder$Tables", name := "add", desc := "([II)I" } : Jvm.MethodName) : Cond) ∈ TB := TB_d TDe_6 34 rfl rfl
set_option maxRecDepth 20000 in
theorem tw_323 : (Cond.instanceMethod ({ cls := "AnyOrder$Tables", name := "add", desc := "([II)I" } : Jvm.MethodName) : Cond) ∈ TB := TB_d TDe_6 35 rfl rfl
set_option maxRecDepth 20000 in
theorem tw_324 : (Cond.selects "AnyOrder$Tables" ({ cls := "AnyOrder$Tables", name := "add", desc := "([II)I" } : Jvm.MethodName) ({ cls := "AnyOrder$Tables", name := "add", desc := "([II)I" } : Jvm.MethodName) : Cond) ∈ TB := TB_d TDe_6 36 rfl rfl
set_option maxRecDepth 20000 in
theorem tw_325 : (Cond.code ({ cls := "AnyOrder$Tables", name := "add", desc := "([II)I" } : Jvm.MethodName) prog_10_method_13_code (6 : Nat) (Option.some Jvm.ClassFile.FieldType.int) : Cond) ∈ TB := TB_d TDe_6 37 rfl rfl
set_option maxRecDepth 20000 in
theorem tw_326 : (Cond.methodLink "AnyOrder$Tables" (43 : Nat) ({ cls := "java/util/Arrays", name := "copyOfRange", desc := "([III)[I" } : Jvm.MethodName) : Cond) ∈ TB := TB_d TDe_6 38 rfl rfl
set_option maxRecDepth 20000 in
theorem tw_327 : (Cond.static ({ cls := "java/util/Arrays", name := "copyOfRange", desc := "([III)[I" } : Jvm.MethodName) : Cond) ∈ TB := TB_d TDe_6 39 rfl rfl
set_option maxRecDepth 20000 in
theorem tw_328 : (Cond.code ({ cls := "java/util/Arrays", name := "copyOfRange", desc := "([III)[I" } : Jvm.MethodName) prog_18_method_136_code (3 : Nat) (Option.some (Jvm.ClassFile.FieldType.array Jvm.ClassFile.FieldType.int)) : Cond) ∈ TB := TB_d TDe_6 40 rfl rfl
set_option maxRecDepth 20000 in
theorem tw_329 : (Cond.methodLink "java/util/Arrays" (351 : Nat) ({ cls := "java/util/Arrays", name := "copyOfRangeInt", desc := "([III)[I" } : Jvm.MethodName) : Cond) ∈ TB := TB_d TDe_6 41 rfl rfl
set_option maxRecDepth 20000 in
theorem tw_330 : (Cond.static ({ cls := "java/util/Arrays", name := "copyOfRangeInt", desc := "([III)[I" } : Jvm.MethodName) : Cond) ∈ TB := TB_d TDe_6 42 rfl rfl
set_option maxRecDepth 20000 in
theorem tw_331 : (Cond.code ({ cls := "java/util/Arrays", name := "copyOfRangeInt", desc := "([III)[I" } : Jvm.MethodName) prog_18_method_137_code (5 : Nat) (Option.some (Jvm.ClassFile.FieldType.array Jvm.ClassFile.FieldType.int)) : Cond) ∈ TB := TB_d TDe_6 43 rfl rfl
set_option maxRecDepth 20000 in
theorem tw_332 : (Cond.methodLink "java/util/Arrays" (343 : Nat) ({ cls := "java/util/Arrays", name := "checkLength", desc := "(II)V" } : Jvm.MethodName) : Cond) ∈ TB := TB_d TDe_6 44 rfl rfl
set_option maxRecDepth 20000 in
theorem tw_333 : (Cond.static ({ cls := "java/util/Arrays", name := "checkLength", desc := "(II)V" } : Jvm.MethodName) : Cond) ∈ TB := TB_d TDe_6 45 rfl rfl
set_option maxRecDepth 20000 in
theorem tw_334 : (Cond.code ({ cls := "java/util/Arrays", name := "checkLength", desc := "(II)V" } : Jvm.MethodName) prog_18_method_131_code (2 : Nat) (Option.none : Option Jvm.ClassFile.FieldType) : Cond) ∈ TB := TB_d TDe_6 46 rfl rfl
set_option maxRecDepth 20000 in
theorem tw_335 : (Cond.methodLink "java/util/Arrays" (304 : Nat) ({ cls := "java/lang/Math", name := "min", desc := "(II)I" } : Jvm.MethodName) : Cond) ∈ TB := TB_d TDe_6 47 rfl rfl
def TD_7 : List Cond := [Cond.static ({ cls := "java/lang/Math", name := "min", desc := "(II)I" } : Jvm.MethodName), Cond.code ({ cls := "java/lang/Math", name := "min", desc := "(II)I" } : Jvm.MethodName) prog_16_method_69_code (2 : Nat) (Option.some Jvm.ClassFile.FieldType.int), Cond.methodLink "java/util/Arrays" (150 : Nat) ({ cls := "java/lang/System", name := "arraycopy", desc := "(Ljava/lang/Object;ILjava/lang/Object;II)V" } : Jvm.MethodName), Cond.static ({ cls := "java/lang/System", name := "arraycopy", desc := "(Ljava/lang/Object;ILjava/lang/Object;II)V" } : Jvm.MethodName), Cond.native ({ cls := "java/lang/System", name := "arraycopy", desc := "(Ljava/lang/Object;ILjava/lang/Object;II)V" } : Jvm.MethodName), Cond.methodLink "java/util/Arrays" (316 : Nat) ({ cls := "[I", name := "clone", desc := "()Ljava/lang/Object;" } : Jvm.MethodName), Cond.sameMethod "[I" "java/lang/Object" "clone" "()Ljava/lang/Object;", Cond.native ({ cls := "java/lang/Object", name := "clone", desc := "()Ljava/lang/Object;" } : Jvm.MethodName), Cond.instanceMethod ({ cls := "java/lang/Object", name := "clone", desc := "()Ljava/lang/Object;" } : Jvm.MethodName), Cond.selects "[I" ({ cls := "[I", name := "clone", desc := "()Ljava/lang/Object;" } : Jvm.MethodName) ({ cls := "java/lang/Object", name := "clone", desc := "()Ljava/lang/Object;" } : Jvm.MethodName), Cond.castable "[I" "java/lang/Cloneable", Cond.classLink "java/util/Arrays" (317 : Nat) "[I", Cond.methodLink "AnyOrder$Tables" (49 : Nat) ({ cls := "AnyOrder$Tables", name := "restOf", desc := "(J)J" } : Jvm.MethodName), Cond.privateMethod ({ cls := "AnyOrder$Tables", name := "restOf", desc := "(J)J" } : Jvm.MethodName), Cond.instanceMethod ({ cls := "AnyOrder$Tables", name := "restOf", desc := "(J)J" } : Jvm.MethodName), Cond.code ({ cls := "AnyOrder$Tables", name := "restOf", desc := "(J)J" } : Jvm.MethodName) prog_10_method_22_code (5 : Nat) (Option.some Jvm.ClassFile.FieldType.long), Cond.methodLink "AnyOrder$Tables" (53 : Nat) ({ cls := "AnyOrder$Tables", name := "makeTable", desc := "(I[I)LAnyOrder$Table;" } : Jvm.MethodName), Cond.privateMethod ({ cls := "AnyOrder$Tables", name := "makeTable", desc := "(I[I)LAnyOrder$Table;" } : Jvm.MethodName), Cond.instanceMethod ({ cls := "AnyOrder$Tables", name := "makeTable", desc := "(I[I)LAnyOrder$Table;" } : Jvm.MethodName), Cond.code ({ cls := "AnyOrder$Tables", name := "makeTable", desc := "(I[I)LAnyOrder$Table;" } : Jvm.MethodName) prog_10_method_14_code (3 : Nat) (Option.some (Jvm.ClassFile.FieldType.object "AnyOrder$Table")), Cond.methodLink "AnyOrder$Tables" (57 : Nat) ({ cls := "AnyOrder$Tables", name := "isShuffle", desc := "([I)Z" } : Jvm.MethodName), Cond.privateMethod ({ cls := "AnyOrder$Tables", name := "isShuffle", desc := "([I)Z" } : Jvm.MethodName), Cond.instanceMethod ({ cls := "AnyOrder$Tables", name := "isShuffle", desc := "([I)Z" } : Jvm.MethodName), Cond.code ({ cls := "AnyOrder$Tables", name := "isShuffle", desc := "([I)Z" } : Jvm.MethodName) prog_10_method_16_code (6 : Nat) (Option.some Jvm.ClassFile.FieldType.boolean), Cond.methodLink "AnyOrder$Tables" (66 : Nat) ({ cls := "AnyOrder$Tables", name := "isEven", desc := "([I)Z" } : Jvm.MethodName), Cond.privateMethod ({ cls := "AnyOrder$Tables", name := "isEven", desc := "([I)Z" } : Jvm.MethodName), Cond.instanceMethod ({ cls := "AnyOrder$Tables", name := "isEven", desc := "([I)Z" } : Jvm.MethodName), Cond.code ({ cls := "AnyOrder$Tables", name := "isEven", desc := "([I)Z" } : Jvm.MethodName) prog_10_method_15_code (3 : Nat) (Option.some Jvm.ClassFile.FieldType.boolean), Cond.classLink "AnyOrder$Tables" (61 : Nat) "AnyOrder$ShuffleTable", Cond.instantiable "AnyOrder$ShuffleTable" (3 : Nat), Cond.methodLink "AnyOrder$Tables" (63 : Nat) ({ cls := "AnyOrder$ShuffleTable", name := "<init>", desc := "(II[I)V" } : Jvm.MethodName), Cond.instanceMethod ({ cls := "AnyOrder$ShuffleTable", name := "<init>", desc := "(II[I)V" } : Jvm.MethodName), Cond.code ({ cls := "AnyOrder$ShuffleTable", name := "<init>", desc := "(II[I)V" } : Jvm.MethodName) prog_6_method_1_code (4 : Nat) (Option.none : Option Jvm.ClassFile.FieldType), Cond.methodLink "AnyOrder$ShuffleTable" (1 : Nat) ({ cls := "AnyOrder$EvenTable", name := "<init>", desc := "(II[I)V" } : Jvm.MethodName), Cond.instanceMethod ({ cls := "AnyOrder$EvenTable", name := "<init>", desc := "(II[I)V" } : Jvm.MethodName), Cond.code ({ cls := "AnyOrder$EvenTable", name := "<init>", desc := "(II[I)V" } : Jvm.MethodName) prog_3_method_1_code (4 : Nat) (Option.none : Option Jvm.ClassFile.FieldType), Cond.methodLink "AnyOrder$EvenTable" (1 : Nat) ({ cls := "AnyOrder$Table", name := "<init>", desc := "(II[I)V" } : Jvm.MethodName), Cond.instanceMethod ({ cls := "AnyOrder$Table", name := "<init>", desc := "(II[I)V" } : Jvm.MethodName), Cond.code ({ cls := "AnyOrder$Table", name := "<init>", desc := "(II[I)V" } : Jvm.MethodName) prog_9_method_1_code (4 : Nat) (Option.none : Option Jvm.ClassFile.FieldType), Cond.methodLink "AnyOrder$Table" (1 : Nat) ({ cls := "java/lang/Object", name := "<init>", desc := "()V" } : Jvm.MethodName), Cond.fieldLink "AnyOrder$Table" (7 : Nat) "AnyOrder$Table" "number" "I", Cond.fieldLink "AnyOrder$Table" (13 : Nat) "AnyOrder$Table" "d" "I", Cond.fieldLink "AnyOrder$EvenTable" (23 : Nat) "AnyOrder$EvenTable" "d" "I", Cond.sameField "AnyOrder$EvenTable" "AnyOrder$Table" "d" "I", Cond.fieldLink "AnyOrder$Table" (16 : Nat) "AnyOrder$Table" "entries" "[I", Cond.fieldLink "AnyOrder$EvenTable" (27 : Nat) "AnyOrder$EvenTable" "entries" "[I", Cond.sameField "AnyOrder$EvenTable" "AnyOrder$Table" "entries" "[I", Cond.fieldLink "AnyOrder" (93 : Nat) "AnyOrder$Table" "entries" "[I"]
set_option maxRecDepth 20000 in
theorem TDe_7 : TD_7 = (tables_1.drop 336).take 48 := rfl
set_option maxRecDepth 20000 in
theorem tw_336 : (Cond.static ({ cls := "java/lang/Math", name := "min", desc := "(II)I" } : Jvm.MethodName) : Cond) ∈ TB := TB_d TDe_7 0 rfl rfl
set_option maxRecDepth 20000 in
theorem tw_337 : (Cond.code ({ cls := "java/lang/Math", name := "min", desc := "(II)I" } : Jvm.MethodName) prog_16_method_69_code (2 : Nat) (Option.some Jvm.ClassFile.FieldType.int) : Cond) ∈ TB := TB_d TDe_7 1 rfl rfl
set_option maxRecDepth 20000 in
theorem tw_338 : (Cond.methodLink "java/util/Arrays" (150 : Nat) ({ cls := "java/lang/System", name := "arraycopy", desc := "(Ljava/lang/Object;ILjava/lang/Object;II)V" } : Jvm.MethodName) : Cond) ∈ TB := TB_d TDe_7 2 rfl rfl
set_option maxRecDepth 20000 in
theorem tw_339 : (Cond.static ({ cls := "java/lang/System", name := "arraycopy", desc := "(Ljava/lang/Object;ILjava/lang/Object;II)V" } : Jvm.MethodName) : Cond) ∈ TB := TB_d TDe_7 3 rfl rfl
set_option maxRecDepth 20000 in
theorem tw_340 : (Cond.native ({ cls := "java/lang/System", name := "arraycopy", desc := "(Ljava/lang/Object;ILjava/lang/Object;II)V" } : Jvm.MethodName) : Cond) ∈ TB := TB_d TDe_7 4 rfl rfl
set_option maxRecDepth 20000 in
theorem tw_341 : (Cond.methodLink "java/util/Arrays" (316 : Nat) ({ cls := "[I", name := "clone", desc := "()Ljava/lang/Object;" } : Jvm.MethodName) : Cond) ∈ TB := TB_d TDe_7 5 rfl rfl
set_option maxRecDepth 20000 in
theorem tw_342 : (Cond.sameMethod "[I" "java/lang/Object" "clone" "()Ljava/lang/Object;" : Cond) ∈ TB := TB_d TDe_7 6 rfl rfl
set_option maxRecDepth 20000 in
theorem tw_343 : (Cond.native ({ cls := "java/lang/Object", name := "clone", desc := "()Ljava/lang/Object;" } : Jvm.MethodName) : Cond) ∈ TB := TB_d TDe_7 7 rfl rfl
set_option maxRecDepth 20000 in
theorem tw_344 : (Cond.instanceMethod ({ cls := "java/lang/Object", name := "clone", desc := "()Ljava/lang/Object;" } : Jvm.MethodName) : Cond) ∈ TB := TB_d TDe_7 8 rfl rfl
set_option maxRecDepth 20000 in
theorem tw_345 : (Cond.selects "[I" ({ cls := "[I", name := "clone", desc := "()Ljava/lang/Object;" } : Jvm.MethodName) ({ cls := "java/lang/Object", name := "clone", desc := "()Ljava/lang/Object;" } : Jvm.MethodName) : Cond) ∈ TB := TB_d TDe_7 9 rfl rfl
set_option maxRecDepth 20000 in
theorem tw_347 : (Cond.classLink "java/util/Arrays" (317 : Nat) "[I" : Cond) ∈ TB := TB_d TDe_7 11 rfl rfl
set_option maxRecDepth 20000 in
theorem tw_348 : (Cond.methodLink "AnyOrder$Tables" (49 : Nat) ({ cls := "AnyOrder$Tables", name := "restOf", desc := "(J)J" } : Jvm.MethodName) : Cond) ∈ TB := TB_d TDe_7 12 rfl rfl
set_option maxRecDepth 20000 in
theorem tw_350 : (Cond.instanceMethod ({ cls := "AnyOrder$Tables", name := "restOf", desc := "(J)J" } : Jvm.MethodName) : Cond) ∈ TB := TB_d TDe_7 14 rfl rfl
set_option maxRecDepth 20000 in
theorem tw_351 : (Cond.code ({ cls := "AnyOrder$Tables", name := "restOf", desc := "(J)J" } : Jvm.MethodName) prog_10_method_22_code (5 : Nat) (Option.some Jvm.ClassFile.FieldType.long) : Cond) ∈ TB := TB_d TDe_7 15 rfl rfl
set_option maxRecDepth 20000 in
theorem tw_352 : (Cond.methodLink "AnyOrder$Tables" (53 : Nat) ({ cls := "AnyOrder$Tables", name := "makeTable", desc := "(I[I)LAnyOrder$Table;" } : Jvm.MethodName) : Cond) ∈ TB := TB_d TDe_7 16 rfl rfl
set_option maxRecDepth 20000 in
theorem tw_354 : (Cond.instanceMethod ({ cls := "AnyOrder$Tables", name := "makeTable", desc := "(I[I)LAnyOrder$Table;" } : Jvm.MethodName) : Cond) ∈ TB := TB_d TDe_7 18 rfl rfl
set_option maxRecDepth 20000 in
theorem tw_355 : (Cond.code ({ cls := "AnyOrder$Tables", name := "makeTable", desc := "(I[I)LAnyOrder$Table;" } : Jvm.MethodName) prog_10_method_14_code (3 : Nat) (Option.some (Jvm.ClassFile.FieldType.object "AnyOrder$Table")) : Cond) ∈ TB := TB_d TDe_7 19 rfl rfl
set_option maxRecDepth 20000 in
theorem tw_356 : (Cond.methodLink "AnyOrder$Tables" (57 : Nat) ({ cls := "AnyOrder$Tables", name := "isShuffle", desc := "([I)Z" } : Jvm.MethodName) : Cond) ∈ TB := TB_d TDe_7 20 rfl rfl
set_option maxRecDepth 20000 in
theorem tw_358 : (Cond.instanceMethod ({ cls := "AnyOrder$Tables", name := "isShuffle", desc := "([I)Z" } : Jvm.MethodName) : Cond) ∈ TB := TB_d TDe_7 22 rfl rfl
set_option maxRecDepth 20000 in
theorem tw_359 : (Cond.code ({ cls := "AnyOrder$Tables", name := "isShuffle", desc := "([I)Z" } : Jvm.MethodName) prog_10_method_16_code (6 : Nat) (Option.some Jvm.ClassFile.FieldType.boolean) : Cond) ∈ TB := TB_d TDe_7 23 rfl rfl
set_option maxRecDepth 20000 in
theorem tw_360 : (Cond.methodLink "AnyOrder$Tables" (66 : Nat) ({ cls := "AnyOrder$Tables", name := "isEven", desc := "([I)Z" } : Jvm.MethodName) : Cond) ∈ TB := TB_d TDe_7 24 rfl rfl
set_option maxRecDepth 20000 in
theorem tw_362 : (Cond.instanceMethod ({ cls := "AnyOrder$Tables", name := "isEven", desc := "([I)Z" } : Jvm.MethodName) : Cond) ∈ TB := TB_d TDe_7 26 rfl rfl
set_option maxRecDepth 20000 in
theorem tw_363 : (Cond.code ({ cls := "AnyOrder$Tables", name := "isEven", desc := "([I)Z" } : Jvm.MethodName) prog_10_method_15_code (3 : Nat) (Option.some Jvm.ClassFile.FieldType.boolean) : Cond) ∈ TB := TB_d TDe_7 27 rfl rfl
set_option maxRecDepth 20000 in
theorem tw_364 : (Cond.classLink "AnyOrder$Tables" (61 : Nat) "AnyOrder$ShuffleTable" : Cond) ∈ TB := TB_d TDe_7 28 rfl rfl
set_option maxRecDepth 20000 in
theorem tw_365 : (Cond.instantiable "AnyOrder$ShuffleTable" (3 : Nat) : Cond) ∈ TB := TB_d TDe_7 29 rfl rfl
set_option maxRecDepth 20000 in
theorem tw_366 : (Cond.methodLink "AnyOrder$Tables" (63 : Nat) ({ cls := "AnyOrder$ShuffleTable", name := "<init>", desc := "(II[I)V" } : Jvm.MethodName) : Cond) ∈ TB := TB_d TDe_7 30 rfl rfl
set_option maxRecDepth 20000 in
theorem tw_367 : (Cond.instanceMethod ({ cls := "AnyOrder$ShuffleTable", name := "<init>", desc := "(II[I)V" } : Jvm.MethodName) : Cond) ∈ TB := TB_d TDe_7 31 rfl rfl
set_option maxRecDepth 20000 in
theorem tw_368 : (Cond.code ({ cls := "AnyOrder$ShuffleTable", name := "<init>", desc := "(II[I)V" } : Jvm.MethodName) prog_6_method_1_code (4 : Nat) (Option.none : Option Jvm.ClassFile.FieldType) : Cond) ∈ TB := TB_d TDe_7 32 rfl rfl
set_option maxRecDepth 20000 in
theorem tw_369 : (Cond.methodLink "AnyOrder$ShuffleTable" (1 : Nat) ({ cls := "AnyOrder$EvenTable", name := "<init>", desc := "(II[I)V" } : Jvm.MethodName) : Cond) ∈ TB := TB_d TDe_7 33 rfl rfl
set_option maxRecDepth 20000 in
theorem tw_370 : (Cond.instanceMethod ({ cls := "AnyOrder$EvenTable", name := "<init>", desc := "(II[I)V" } : Jvm.MethodName) : Cond) ∈ TB := TB_d TDe_7 34 rfl rfl
set_option maxRecDepth 20000 in
theorem tw_371 : (Cond.code ({ cls := "AnyOrder$EvenTable", name := "<init>", desc := "(II[I)V" } : Jvm.MethodName) prog_3_method_1_code (4 : Nat) (Option.none : Option Jvm.ClassFile.FieldType) : Cond) ∈ TB := TB_d TDe_7 35 rfl rfl
set_option maxRecDepth 20000 in
theorem tw_372 : (Cond.methodLink "AnyOrder$EvenTable" (1 : Nat) ({ cls := "AnyOrder$Table", name := "<init>", desc := "(II[I)V" } : Jvm.MethodName) : Cond) ∈ TB := TB_d TDe_7 36 rfl rfl
set_option maxRecDepth 20000 in
theorem tw_373 : (Cond.instanceMethod ({ cls := "AnyOrder$Table", name := "<init>", desc := "(II[I)V" } : Jvm.MethodName) : Cond) ∈ TB := TB_d TDe_7 37 rfl rfl
set_option maxRecDepth 20000 in
theorem tw_374 : (Cond.code ({ cls := "AnyOrder$Table", name := "<init>", desc := "(II[I)V" } : Jvm.MethodName) prog_9_method_1_code (4 : Nat) (Option.none : Option Jvm.ClassFile.FieldType) : Cond) ∈ TB := TB_d TDe_7 38 rfl rfl
set_option maxRecDepth 20000 in
theorem tw_375 : (Cond.methodLink "AnyOrder$Table" (1 : Nat) ({ cls := "java/lang/Object", name := "<init>", desc := "()V" } : Jvm.MethodName) : Cond) ∈ TB := TB_d TDe_7 39 rfl rfl
set_option maxRecDepth 20000 in
theorem tw_376 : (Cond.fieldLink "AnyOrder$Table" (7 : Nat) "AnyOrder$Table" "number" "I" : Cond) ∈ TB := TB_d TDe_7 40 rfl rfl
set_option maxRecDepth 20000 in
theorem tw_377 : (Cond.fieldLink "AnyOrder$Table" (13 : Nat) "AnyOrder$Table" "d" "I" : Cond) ∈ TB := TB_d TDe_7 41 rfl rfl
set_option maxRecDepth 20000 in
theorem tw_378 : (Cond.fieldLink "AnyOrder$EvenTable" (23 : Nat) "AnyOrder$EvenTable" "d" "I" : Cond) ∈ TB := TB_d TDe_7 42 rfl rfl
set_option maxRecDepth 20000 in
theorem tw_379 : (Cond.sameField "AnyOrder$EvenTable" "AnyOrder$Table" "d" "I" : Cond) ∈ TB := TB_d TDe_7 43 rfl rfl
set_option maxRecDepth 20000 in
theorem tw_380 : (Cond.fieldLink "AnyOrder$Table" (16 : Nat) "AnyOrder$Table" "entries" "[I" : Cond) ∈ TB := TB_d TDe_7 44 rfl rfl
set_option maxRecDepth 20000 in
theorem tw_381 : (Cond.fieldLink "AnyOrder$EvenTable" (27 : Nat) "AnyOrder$EvenTable" "entries" "[I" : Cond) ∈ TB := TB_d TDe_7 45 rfl rfl
set_option maxRecDepth 20000 in
theorem tw_382 : (Cond.sameField "AnyOrder$EvenTable" "AnyOrder$Table" "entries" "[I" : Cond) ∈ TB := TB_d TDe_7 46 rfl rfl
set_option maxRecDepth 20000 in
theorem tw_383 : (Cond.fieldLink "AnyOrder" (93 : Nat) "AnyOrder$Table" "entries" "[I" : Cond) ∈ TB := TB_d TDe_7 47 rfl rfl
def TD_8 : List Cond := [Cond.laysFinal "AnyOrder$ShuffleTable" "AnyOrder$Table" "number" "I", Cond.soleField "AnyOrder$Table" "number", Cond.laysFinal "AnyOrder$ShuffleTable" "AnyOrder$Table" "d" "I", Cond.soleField "AnyOrder$Table" "d", Cond.laysFinal "AnyOrder$ShuffleTable" "AnyOrder$Table" "entries" "[I", Cond.soleField "AnyOrder$Table" "entries", Cond.superclass "AnyOrder$ShuffleTable" "AnyOrder$EvenTable", Cond.classLink "AnyOrder$Tables" (69 : Nat) "AnyOrder$EvenTable", Cond.instantiable "AnyOrder$EvenTable" (3 : Nat), Cond.methodLink "AnyOrder$Tables" (71 : Nat) ({ cls := "AnyOrder$EvenTable", name := "<init>", desc := "(II[I)V" } : Jvm.MethodName), Cond.laysFinal "AnyOrder$EvenTable" "AnyOrder$Table" "number" "I", Cond.laysFinal "AnyOrder$EvenTable" "AnyOrder$Table" "d" "I", Cond.laysFinal "AnyOrder$EvenTable" "AnyOrder$Table" "entries" "[I", Cond.superclass "AnyOrder$EvenTable" "AnyOrder$Table", Cond.instantiable "AnyOrder$Table" (3 : Nat), Cond.methodLink "AnyOrder$Tables" (72 : Nat) ({ cls := "AnyOrder$Table", name := "<init>", desc := "(II[I)V" } : Jvm.MethodName), Cond.laysFinal "AnyOrder$Table" "AnyOrder$Table" "number" "I", Cond.laysFinal "AnyOrder$Table" "AnyOrder$Table" "d" "I", Cond.laysFinal "AnyOrder$Table" "AnyOrder$Table" "entries" "[I", Cond.superclass "AnyOrder$Table" "java/lang/Object", Cond.methodLink "AnyOrder" (75 : Nat) ({ cls := "AnyOrder", name := "settle", desc := "(I)I" } : Jvm.MethodName), Cond.privateMethod ({ cls := "AnyOrder", name := "settle", desc := "(I)I" } : Jvm.MethodName), Cond.instanceMethod ({ cls := "AnyOrder", name := "settle", desc := "(I)I" } : Jvm.MethodName), Cond.code ({ cls := "AnyOrder", name := "settle", desc := "(I)I" } : Jvm.MethodName) prog_1_method_36_code (2 : Nat) (Option.some Jvm.ClassFile.FieldType.int), Cond.methodLink "AnyOrderLaw" (23 : Nat) ({ cls := "AnyOrder", name := "entry", desc := "(III)J" } : Jvm.MethodName), Cond.instanceMethod ({ cls := "AnyOrder", name := "entry", desc := "(III)J" } : Jvm.MethodName), Cond.selects "AnyOrder" ({ cls := "AnyOrder", name := "entry", desc := "(III)J" } : Jvm.MethodName) ({ cls := "AnyOrder", name := "entry", desc := "(III)J" } : Jvm.MethodName), Cond.code ({ cls := "AnyOrder", name := "entry", desc := "(III)J" } : Jvm.MethodName) prog_1_method_4_code (4 : Nat) (Option.some Jvm.ClassFile.FieldType.long), Cond.methodLink "AnyOrder" (79 : Nat) ({ cls := "AnyOrder$Tables", name := "has", desc := "(I)Z" } : Jvm.MethodName), Cond.instanceMethod ({ cls := "AnyOrder$Tables", name := "has", desc := "(I)Z" } : Jvm.MethodName), Cond.selects "AnyOrder$Tables" ({ cls := "AnyOrder$Tables", name := "has", desc := "(I)Z" } : Jvm.MethodName) ({ cls := "AnyOrder$Tables", name := "has", desc := "(I)Z" } : Jvm.MethodName), Cond.code ({ cls := "AnyOrder$Tables", name := "has", desc := "(I)Z" } : Jvm.MethodName) prog_10_method_8_code (2 : Nat) (Option.some Jvm.ClassFile.FieldType.boolean), Cond.methodLink "AnyOrder" (83 : Nat) ({ cls := "AnyOrder$Tables", name := "isPlace", desc := "(II)Z" } : Jvm.MethodName), Cond.instanceMethod ({ cls := "AnyOrder$Tables", name := "isPlace", desc := "(II)Z" } : Jvm.MethodName), Cond.selects "AnyOrder$Tables" ({ cls := "AnyOrder$Tables", name := "isPlace", desc := "(II)Z" } : Jvm.MethodName) ({ cls := "AnyOrder$Tables", name := "isPlace", desc := "(II)Z" } : Jvm.MethodName), Cond.code ({ cls := "AnyOrder$Tables", name := "isPlace", desc := "(II)Z" } : Jvm.MethodName) prog_10_method_11_code (3 : Nat) (Option.some Jvm.ClassFile.FieldType.boolean), Cond.constantLong "AnyOrder" (87 : Nat) (-9223372036854775808 : Int64), Cond.methodLink "AnyOrder" (89 : Nat) ({ cls := "AnyOrder$Tables", name := "tableOf", desc := "(I)LAnyOrder$Table;" } : Jvm.MethodName), Cond.instanceMethod ({ cls := "AnyOrder$Tables", name := "tableOf", desc := "(I)LAnyOrder$Table;" } : Jvm.MethodName), Cond.selects "AnyOrder$Tables" ({ cls := "AnyOrder$Tables", name := "tableOf", desc := "(I)LAnyOrder$Table;" } : Jvm.MethodName) ({ cls := "AnyOrder$Tables", name := "tableOf", desc := "(I)LAnyOrder$Table;" } : Jvm.MethodName), Cond.code ({ cls := "AnyOrder$Tables", name := "tableOf", desc := "(I)LAnyOrder$Table;" } : Jvm.MethodName) prog_10_method_9_code (2 : Nat) (Option.some (Jvm.ClassFile.FieldType.object "AnyOrder$Table")), Cond.methodLink "AnyOrder" (99 : Nat) ({ cls := "AnyOrder$Tables", name := "cellOf", desc := "(II)I" } : Jvm.MethodName), Cond.instanceMethod ({ cls := "AnyOrder$Tables", name := "cellOf", desc := "(II)I" } : Jvm.MethodName), Cond.selects "AnyOrder$Tables" ({ cls := "AnyOrder$Tables", name := "cellOf", desc := "(II)I" } : Jvm.MethodName) ({ cls := "AnyOrder$Tables", name := "cellOf", desc := "(II)I" } : Jvm.MethodName), Cond.code ({ cls := "AnyOrder$Tables", name := "cellOf", desc := "(II)I" } : Jvm.MethodName) prog_10_method_12_code (3 : Nat) (Option.some Jvm.ClassFile.FieldType.int), Cond.methodLink "AnyOrderLaw" (28 : Nat) ({ cls := "AnyOrder", name := "may", desc := "(IIZ)I" } : Jvm.MethodName), Cond.instanceMethod ({ cls := "AnyOrder", name := "may", desc := "(IIZ)I" } : Jvm.MethodName), Cond.selects "AnyOrder" ({ cls := "AnyOrder", name := "may", desc := "(IIZ)I" } : Jvm.MethodName) ({ cls := "AnyOrder", name := "may", desc := "(IIZ)I" } : Jvm.MethodName)]
set_option maxRecDepth 20000 in
theorem TDe_8 : TD_8 = (tables_1.drop 384).take 48 := rfl
set_option maxRecDepth 20000 in
theorem tw_391 : (Cond.classLink "AnyOrder$Tables" (69 : Nat) "AnyOrder$EvenTable" : Cond) ∈ TB := TB_d TDe_8 7 rfl rfl
set_option maxRecDepth 20000 in
theorem tw_392 : (Cond.instantiable "AnyOrder$EvenTable" (3 : Nat) : Cond) ∈ TB := TB_d TDe_8 8 rfl rfl
set_option maxRecDepth 20000 in
theorem tw_393 : (Cond.methodLink "AnyOrder$Tables" (71 : Nat) ({ cls := "AnyOrder$EvenTable", name := "<init>", desc := "(II[I)V" } : Jvm.MethodName) : Cond) ∈ TB := TB_d TDe_8 9 rfl rfl
set_option maxRecDepth 20000 in
theorem tw_398 : (Cond.instantiable "AnyOrder$Table" (3 : Nat) : Cond) ∈ TB := TB_d TDe_8 14 rfl rfl
set_option maxRecDepth 20000 in
theorem tw_399 : (Cond.methodLink "AnyOrder$Tables" (72 : Nat) ({ cls := "AnyOrder$Table", name := "<init>", desc := "(II[I)V" } : Jvm.MethodName) : Cond) ∈ TB := TB_d TDe_8 15 rfl rfl
set_option maxRecDepth 20000 in
theorem tw_404 : (Cond.methodLink "AnyOrder" (75 : Nat) ({ cls := "AnyOrder", name := "settle", desc := "(I)I" } : Jvm.MethodName) : Cond) ∈ TB := TB_d TDe_8 20 rfl rfl
set_option maxRecDepth 20000 in
theorem tw_406 : (Cond.instanceMethod ({ cls := "AnyOrder", name := "settle", desc := "(I)I" } : Jvm.MethodName) : Cond) ∈ TB := TB_d TDe_8 22 rfl rfl
set_option maxRecDepth 20000 in
theorem tw_407 : (Cond.code ({ cls := "AnyOrder", name := "settle", desc := "(I)I" } : Jvm.MethodName) prog_1_method_36_code (2 : Nat) (Option.some Jvm.ClassFile.FieldType.int) : Cond) ∈ TB := TB_d TDe_8 23 rfl rfl
set_option maxRecDepth 20000 in
theorem tw_408 : (Cond.methodLink "AnyOrderLaw" (23 : Nat) ({ cls := "AnyOrder", name := "entry", desc := "(III)J" } : Jvm.MethodName) : Cond) ∈ TB := TB_d TDe_8 24 rfl rfl
set_option maxRecDepth 20000 in
theorem tw_409 : (Cond.instanceMethod ({ cls := "AnyOrder", name := "entry", desc := "(III)J" } : Jvm.MethodName) : Cond) ∈ TB := TB_d TDe_8 25 rfl rfl
set_option maxRecDepth 20000 in
theorem tw_410 : (Cond.selects "AnyOrder" ({ cls := "AnyOrder", name := "entry", desc := "(III)J" } : Jvm.MethodName) ({ cls := "AnyOrder", name := "entry", desc := "(III)J" } : Jvm.MethodName) : Cond) ∈ TB := TB_d TDe_8 26 rfl rfl
set_option maxRecDepth 20000 in
theorem tw_411 : (Cond.code ({ cls := "AnyOrder", name := "entry", desc := "(III)J" } : Jvm.MethodName) prog_1_method_4_code (4 : Nat) (Option.some Jvm.ClassFile.FieldType.long) : Cond) ∈ TB := TB_d TDe_8 27 rfl rfl
set_option maxRecDepth 20000 in
theorem tw_412 : (Cond.methodLink "AnyOrder" (79 : Nat) ({ cls := "AnyOrder$Tables", name := "has", desc := "(I)Z" } : Jvm.MethodName) : Cond) ∈ TB := TB_d TDe_8 28 rfl rfl
set_option maxRecDepth 20000 in
theorem tw_413 : (Cond.instanceMethod ({ cls := "AnyOrder$Tables", name := "has", desc := "(I)Z" } : Jvm.MethodName) : Cond) ∈ TB := TB_d TDe_8 29 rfl rfl
set_option maxRecDepth 20000 in
theorem tw_414 : (Cond.selects "AnyOrder$Tables" ({ cls := "AnyOrder$Tables", name := "has", desc := "(I)Z" } : Jvm.MethodName) ({ cls := "AnyOrder$Tables", name := "has", desc := "(I)Z" } : Jvm.MethodName) : Cond) ∈ TB := TB_d TDe_8 30 rfl rfl
set_option maxRecDepth 20000 in
theorem tw_415 : (Cond.code ({ cls := "AnyOrder$Tables", name := "has", desc := "(I)Z" } : Jvm.MethodName) prog_10_method_8_code (2 : Nat) (Option.some Jvm.ClassFile.FieldType.boolean) : Cond) ∈ TB := TB_d TDe_8 31 rfl rfl
set_option maxRecDepth 20000 in
theorem tw_416 : (Cond.methodLink "AnyOrder" (83 : Nat) ({ cls := "AnyOrder$Tables", name := "isPlace", desc := "(II)Z" } : Jvm.MethodName) : Cond) ∈ TB := TB_d TDe_8 32 rfl rfl
set_option maxRecDepth 20000 in
theorem tw_417 : (Cond.instanceMethod ({ cls := "AnyOrder$Tables", name := "isPlace", desc := "(II)Z" } : Jvm.MethodName) : Cond) ∈ TB := TB_d TDe_8 33 rfl rfl
set_option maxRecDepth 20000 in
theorem tw_418 : (Cond.selects "AnyOrder$Tables" ({ cls := "AnyOrder$Tables", name := "isPlace", desc := "(II)Z" } : Jvm.MethodName) ({ cls := "AnyOrder$Tables", name := "isPlace", desc := "(II)Z" } : Jvm.MethodName) : Cond) ∈ TB := TB_d TDe_8 34 rfl rfl
set_option maxRecDepth 20000 in
theorem tw_419 : (Cond.code ({ cls := "AnyOrder$Tables", name := "isPlace", desc := "(II)Z" } : Jvm.MethodName) prog_10_method_11_code (3 : Nat) (Option.some Jvm.ClassFile.FieldType.boolean) : Cond) ∈ TB := TB_d TDe_8 35 rfl rfl
set_option maxRecDepth 20000 in
theorem tw_420 : (Cond.constantLong "AnyOrder" (87 : Nat) (-9223372036854775808 : Int64) : Cond) ∈ TB := TB_d TDe_8 36 rfl rfl
set_option maxRecDepth 20000 in
theorem tw_421 : (Cond.methodLink "AnyOrder" (89 : Nat) ({ cls := "AnyOrder$Tables", name := "tableOf", desc := "(I)LAnyOrder$Table;" } : Jvm.MethodName) : Cond) ∈ TB := TB_d TDe_8 37 rfl rfl
set_option maxRecDepth 20000 in
theorem tw_422 : (Cond.instanceMethod ({ cls := "AnyOrder$Tables", name := "tableOf", desc := "(I)LAnyOrder$Table;" } : Jvm.MethodName) : Cond) ∈ TB := TB_d TDe_8 38 rfl rfl
set_option maxRecDepth 20000 in
theorem tw_423 : (Cond.selects "AnyOrder$Tables" ({ cls := "AnyOrder$Tables", name := "tableOf", desc := "(I)LAnyOrder$Table;" } : Jvm.MethodName) ({ cls := "AnyOrder$Tables", name := "tableOf", desc := "(I)LAnyOrder$Table;" } : Jvm.MethodName) : Cond) ∈ TB := TB_d TDe_8 39 rfl rfl
set_option maxRecDepth 20000 in
theorem tw_424 : (Cond.code ({ cls := "AnyOrder$Tables", name := "tableOf", desc := "(I)LAnyOrder$Table;" } : Jvm.MethodName) prog_10_method_9_code (2 : Nat) (Option.some (Jvm.ClassFile.FieldType.object "AnyOrder$Table")) : Cond) ∈ TB := TB_d TDe_8 40 rfl rfl
set_option maxRecDepth 20000 in
theorem tw_425 : (Cond.methodLink "AnyOrder" (99 : Nat) ({ cls := "AnyOrder$Tables", name := "cellOf", desc := "(II)I" } : Jvm.MethodName) : Cond) ∈ TB := TB_d TDe_8 41 rfl rfl
set_option maxRecDepth 20000 in
theorem tw_426 : (Cond.instanceMethod ({ cls := "AnyOrder$Tables", name := "cellOf", desc := "(II)I" } : Jvm.MethodName) : Cond) ∈ TB := TB_d TDe_8 42 rfl rfl
set_option maxRecDepth 20000 in
theorem tw_427 : (Cond.selects "AnyOrder$Tables" ({ cls := "AnyOrder$Tables", name := "cellOf", desc := "(II)I" } : Jvm.MethodName) ({ cls := "AnyOrder$Tables", name := "cellOf", desc := "(II)I" } : Jvm.MethodName) : Cond) ∈ TB := TB_d TDe_8 43 rfl rfl
set_option maxRecDepth 20000 in
theorem tw_428 : (Cond.code ({ cls := "AnyOrder$Tables", name := "cellOf", desc := "(II)I" } : Jvm.MethodName) prog_10_method_12_code (3 : Nat) (Option.some Jvm.ClassFile.FieldType.int) : Cond) ∈ TB := TB_d TDe_8 44 rfl rfl
set_option maxRecDepth 20000 in
theorem tw_429 : (Cond.methodLink "AnyOrderLaw" (28 : Nat) ({ cls := "AnyOrder", name := "may", desc := "(IIZ)I" } : Jvm.MethodName) : Cond) ∈ TB := TB_d TDe_8 45 rfl rfl
set_option maxRecDepth 20000 in
theorem tw_430 : (Cond.instanceMethod ({ cls := "AnyOrder", name := "may", desc := "(IIZ)I" } : Jvm.MethodName) : Cond) ∈ TB := TB_d TDe_8 46 rfl rfl
set_option maxRecDepth 20000 in
theorem tw_431 : (Cond.selects "AnyOrder" ({ cls := "AnyOrder", name := "may", desc := "(IIZ)I" } : Jvm.MethodName) ({ cls := "AnyOrder", name := "may", desc := "(IIZ)I" } : Jvm.MethodName) : Cond) ∈ TB := TB_d TDe_8 47 rfl rfl
def TD_9 : List Cond := [Cond.code ({ cls := "AnyOrder", name := "may", desc := "(IIZ)I" } : Jvm.MethodName) prog_1_method_5_code (4 : Nat) (Option.some Jvm.ClassFile.FieldType.int), Cond.methodLink "AnyOrder" (103 : Nat) ({ cls := "AnyOrder$Tables", name := "mayFollow", desc := "(II)Z" } : Jvm.MethodName), Cond.instanceMethod ({ cls := "AnyOrder$Tables", name := "mayFollow", desc := "(II)Z" } : Jvm.MethodName), Cond.selects "AnyOrder$Tables" ({ cls := "AnyOrder$Tables", name := "mayFollow", desc := "(II)Z" } : Jvm.MethodName) ({ cls := "AnyOrder$Tables", name := "mayFollow", desc := "(II)Z" } : Jvm.MethodName), Cond.code ({ cls := "AnyOrder$Tables", name := "mayFollow", desc := "(II)Z" } : Jvm.MethodName) prog_10_method_17_code (3 : Nat) (Option.some Jvm.ClassFile.FieldType.boolean), Cond.methodLink "AnyOrder" (106 : Nat) ({ cls := "AnyOrder$Tables", name := "allow", desc := "(IIZ)V" } : Jvm.MethodName), Cond.instanceMethod ({ cls := "AnyOrder$Tables", name := "allow", desc := "(IIZ)V" } : Jvm.MethodName), Cond.selects "AnyOrder$Tables" ({ cls := "AnyOrder$Tables", name := "allow", desc := "(IIZ)V" } : Jvm.MethodName) ({ cls := "AnyOrder$Tables", name := "allow", desc := "(IIZ)V" } : Jvm.MethodName), Cond.code ({ cls := "AnyOrder$Tables", name := "allow", desc := "(IIZ)V" } : Jvm.MethodName) prog_10_method_18_code (4 : Nat) (Option.none : Option Jvm.ClassFile.FieldType), Cond.methodLink "AnyOrderLaw" (33 : Nat) ({ cls := "AnyOrder", name := "length", desc := "(II)J" } : Jvm.MethodName), Cond.instanceMethod ({ cls := "AnyOrder", name := "length", desc := "(II)J" } : Jvm.MethodName), Cond.selects "AnyOrder" ({ cls := "AnyOrder", name := "length", desc := "(II)J" } : Jvm.MethodName) ({ cls := "AnyOrder", name := "length", desc := "(II)J" } : Jvm.MethodName), Cond.code ({ cls := "AnyOrder", name := "length", desc := "(II)J" } : Jvm.MethodName) prog_1_method_6_code (4 : Nat) (Option.some Jvm.ClassFile.FieldType.long), Cond.methodLink "AnyOrder" (110 : Nat) ({ cls := "AnyOrder$Lengths", name := "isSpent", desc := "(I)Z" } : Jvm.MethodName), Cond.instanceMethod ({ cls := "AnyOrder$Lengths", name := "isSpent", desc := "(I)Z" } : Jvm.MethodName), Cond.selects "AnyOrder$Lengths" ({ cls := "AnyOrder$Lengths", name := "isSpent", desc := "(I)Z" } : Jvm.MethodName) ({ cls := "AnyOrder$Lengths", name := "isSpent", desc := "(I)Z" } : Jvm.MethodName), Cond.code ({ cls := "AnyOrder$Lengths", name := "isSpent", desc := "(I)Z" } : Jvm.MethodName) prog_4_method_3_code (2 : Nat) (Option.some Jvm.ClassFile.FieldType.boolean), Cond.methodLink "AnyOrder$Lengths" (43 : Nat) ({ cls := "AnyOrder$Lengths", name := "countOf", desc := "(I)I" } : Jvm.MethodName), Cond.instanceMethod ({ cls := "AnyOrder$Lengths", name := "countOf", desc := "(I)I" } : Jvm.MethodName), Cond.selects "AnyOrder$Lengths" ({ cls := "AnyOrder$Lengths", name := "countOf", desc := "(I)I" } : Jvm.MethodName) ({ cls := "AnyOrder$Lengths", name := "countOf", desc := "(I)I" } : Jvm.MethodName), Cond.code ({ cls := "AnyOrder$Lengths", name := "countOf", desc := "(I)I" } : Jvm.MethodName) prog_4_method_4_code (4 : Nat) (Option.some Jvm.ClassFile.FieldType.int), Cond.methodLink "AnyOrder$Lengths" (47 : Nat) ({ cls := "AnyOrder$Lengths", name := "findWays", desc := "()V" } : Jvm.MethodName), Cond.privateMethod ({ cls := "AnyOrder$Lengths", name := "findWays", desc := "()V" } : Jvm.MethodName), Cond.instanceMethod ({ cls := "AnyOrder$Lengths", name := "findWays", desc := "()V" } : Jvm.MethodName), Cond.code ({ cls := "AnyOrder$Lengths", name := "findWays", desc := "()V" } : Jvm.MethodName) prog_4_method_5_code (3 : Nat) (Option.none : Option Jvm.ClassFile.FieldType), Cond.methodLink "AnyOrder$Lengths" (56 : Nat) ({ cls := "java/util/Arrays", name := "fill", desc := "([II)V" } : Jvm.MethodName), Cond.static ({ cls := "java/util/Arrays", name := "fill", desc := "([II)V" } : Jvm.MethodName), Cond.code ({ cls := "java/util/Arrays", name := "fill", desc := "([II)V" } : Jvm.MethodName) prog_18_method_103_code (4 : Nat) (Option.none : Option Jvm.ClassFile.FieldType), Cond.methodLink "AnyOrder$Lengths" (50 : Nat) ({ cls := "AnyOrder$Tables", name := "count", desc := "()I" } : Jvm.MethodName), Cond.methodLink "AnyOrder$Lengths" (62 : Nat) ({ cls := "AnyOrder$Lengths", name := "countWays", desc := "(II)I" } : Jvm.MethodName), Cond.privateMethod ({ cls := "AnyOrder$Lengths", name := "countWays", desc := "(II)I" } : Jvm.MethodName), Cond.instanceMethod ({ cls := "AnyOrder$Lengths", name := "countWays", desc := "(II)I" } : Jvm.MethodName), Cond.code ({ cls := "AnyOrder$Lengths", name := "countWays", desc := "(II)I" } : Jvm.MethodName) prog_4_method_6_code (5 : Nat) (Option.some Jvm.ClassFile.FieldType.int), Cond.methodLink "AnyOrder$Lengths" (66 : Nat) ({ cls := "AnyOrder$Tables", name := "mayFollow", desc := "(II)Z" } : Jvm.MethodName), Cond.methodLink "AnyOrder" (113 : Nat) ({ cls := "AnyOrder$Lengths", name := "countOf", desc := "(I)I" } : Jvm.MethodName), Cond.methodLink "AnyOrder" (116 : Nat) ({ cls := "AnyOrder$Lengths", name := "surveyOf", desc := "(I)LAnyOrder$Survey;" } : Jvm.MethodName), Cond.instanceMethod ({ cls := "AnyOrder$Lengths", name := "surveyOf", desc := "(I)LAnyOrder$Survey;" } : Jvm.MethodName), Cond.selects "AnyOrder$Lengths" ({ cls := "AnyOrder$Lengths", name := "surveyOf", desc := "(I)LAnyOrder$Survey;" } : Jvm.MethodName) ({ cls := "AnyOrder$Lengths", name := "surveyOf", desc := "(I)LAnyOrder$Survey;" } : Jvm.MethodName), Cond.code ({ cls := "AnyOrder$Lengths", name := "surveyOf", desc := "(I)LAnyOrder$Survey;" } : Jvm.MethodName) prog_4_method_7_code (3 : Nat) (Option.some (Jvm.ClassFile.FieldType.object "AnyOrder$Survey")), Cond.methodLink "AnyOrder$Lengths" (70 : Nat) ({ cls := "AnyOrder$Survey", name := "restart", desc := "()V" } : Jvm.MethodName), Cond.instanceMethod ({ cls := "AnyOrder$Survey", name := "restart", desc := "()V" } : Jvm.MethodName), Cond.selects "AnyOrder$Survey" ({ cls := "AnyOrder$Survey", name := "restart", desc := "()V" } : Jvm.MethodName) ({ cls := "AnyOrder$Survey", name := "restart", desc := "()V" } : Jvm.MethodName), Cond.code ({ cls := "AnyOrder$Survey", name := "restart", desc := "()V" } : Jvm.MethodName) prog_8_method_2_code (1 : Nat) (Option.none : Option Jvm.ClassFile.FieldType), Cond.constantLong "AnyOrder$Survey" (32 : Nat) (-1 : Int64), Cond.constantLong "AnyOrder$Survey" (40 : Nat) (9223372036854775807 : Int64), Cond.methodLink "AnyOrder$Lengths" (73 : Nat) ({ cls := "AnyOrder$Lengths", name := "walk", desc := "(LAnyOrder$Lengths;LAnyOrder$Survey;II)V" } : Jvm.MethodName), Cond.static ({ cls := "AnyOrder$Lengths", name := "walk", desc := "(LAnyOrder$Lengths;LAnyOrder$Survey;II)V" } : Jvm.MethodName), Cond.code ({ cls := "AnyOrder$Lengths", name := "walk", desc := "(LAnyOrder$Lengths;LAnyOrder$Survey;II)V" } : Jvm.MethodName) prog_4_method_8_code (5 : Nat) (Option.none : Option Jvm.ClassFile.FieldType)]
set_option maxRecDepth 20000 in
theorem TDe_9 : TD_9 = (tables_1.drop 432).take 48 := rfl
set_option maxRecDepth 20000 in
theorem tw_432 : (Cond.code ({ cls := "AnyOrder", name := "may", desc := "(IIZ)I" } : Jvm.MethodName) prog_1_method_5_code (4 : Nat) (Option.some Jvm.ClassFile.FieldType.int) : Cond) ∈ TB := TB_d TDe_9 0 rfl rfl
set_option maxRecDepth 20000 in
theorem tw_433 : (Cond.methodLink "AnyOrder" (103 : Nat) ({ cls := "AnyOrder$Tables", name := "mayFollow", desc := "(II)Z" } : Jvm.MethodName) : Cond) ∈ TB := TB_d TDe_9 1 rfl rfl
set_option maxRecDepth 20000 in
theorem tw_434 : (Cond.instanceMethod ({ cls := "AnyOrder$Tables", name := "mayFollow", desc := "(II)Z" } : Jvm.MethodName) : Cond) ∈ TB := TB_d TDe_9 2 rfl rfl
set_option maxRecDepth 20000 in
theorem tw_435 : (Cond.selects "AnyOrder$Tables" ({ cls := "AnyOrder$Tables", name := "mayFollow", desc := "(II)Z" } : Jvm.MethodName) ({ cls := "AnyOrder$Tables", name := "mayFollow", desc := "(II)Z" } : Jvm.MethodName) : Cond) ∈ TB := TB_d TDe_9 3 rfl rfl
set_option maxRecDepth 20000 in
theorem tw_436 : (Cond.code ({ cls := "AnyOrder$Tables", name := "mayFollow", desc := "(II)Z" } : Jvm.MethodName) prog_10_method_17_code (3 : Nat) (Option.some Jvm.ClassFile.FieldType.boolean) : Cond) ∈ TB := TB_d TDe_9 4 rfl rfl
set_option maxRecDepth 20000 in
theorem tw_437 : (Cond.methodLink "AnyOrder" (106 : Nat) ({ cls := "AnyOrder$Tables", name := "allow", desc := "(IIZ)V" } : Jvm.MethodName) : Cond) ∈ TB := TB_d TDe_9 5 rfl rfl
set_option maxRecDepth 20000 in
theorem tw_438 : (Cond.instanceMethod ({ cls := "AnyOrder$Tables", name := "allow", desc := "(IIZ)V" } : Jvm.MethodName) : Cond) ∈ TB := TB_d TDe_9 6 rfl rfl
set_option maxRecDepth 20000 in
theorem tw_439 : (Cond.selects "AnyOrder$Tables" ({ cls := "AnyOrder$Tables", name := "allow", desc := "(IIZ)V" } : Jvm.MethodName) ({ cls := "AnyOrder$Tables", name := "allow", desc := "(IIZ)V" } : Jvm.MethodName) : Cond) ∈ TB := TB_d TDe_9 7 rfl rfl
set_option maxRecDepth 20000 in
theorem tw_440 : (Cond.code ({ cls := "AnyOrder$Tables", name := "allow", desc := "(IIZ)V" } : Jvm.MethodName) prog_10_method_18_code (4 : Nat) (Option.none : Option Jvm.ClassFile.FieldType) : Cond) ∈ TB := TB_d TDe_9 8 rfl rfl
set_option maxRecDepth 20000 in
theorem tw_441 : (Cond.methodLink "AnyOrderLaw" (33 : Nat) ({ cls := "AnyOrder", name := "length", desc := "(II)J" } : Jvm.MethodName) : Cond) ∈ TB := TB_d TDe_9 9 rfl rfl
set_option maxRecDepth 20000 in
theorem tw_442 : (Cond.instanceMethod ({ cls := "AnyOrder", name := "length", desc := "(II)J" } : Jvm.MethodName) : Cond) ∈ TB := TB_d TDe_9 10 rfl rfl
set_option maxRecDepth 20000 in
theorem tw_443 : (Cond.selects "AnyOrder" ({ cls := "AnyOrder", name := "length", desc := "(II)J" } : Jvm.MethodName) ({ cls := "AnyOrder", name := "length", desc := "(II)J" } : Jvm.MethodName) : Cond) ∈ TB := TB_d TDe_9 11 rfl rfl
set_option maxRecDepth 20000 in
theorem tw_444 : (Cond.code ({ cls := "AnyOrder", name := "length", desc := "(II)J" } : Jvm.MethodName) prog_1_method_6_code (4 : Nat) (Option.some Jvm.ClassFile.FieldType.long) : Cond) ∈ TB := TB_d TDe_9 12 rfl rfl
set_option maxRecDepth 20000 in
theorem tw_445 : (Cond.methodLink "AnyOrder" (110 : Nat) ({ cls := "AnyOrder$Lengths", name := "isSpent", desc := "(I)Z" } : Jvm.MethodName) : Cond) ∈ TB := TB_d TDe_9 13 rfl rfl
set_option maxRecDepth 20000 in
theorem tw_446 : (Cond.instanceMethod ({ cls := "AnyOrder$Lengths", name := "isSpent", desc := "(I)Z" } : Jvm.MethodName) : Cond) ∈ TB := TB_d TDe_9 14 rfl rfl
set_option maxRecDepth 20000 in
theorem tw_447 : (Cond.selects "AnyOrder$Lengths" ({ cls := "AnyOrder$Lengths", name := "isSpent", desc := "(I)Z" } : Jvm.MethodName) ({ cls := "AnyOrder$Lengths", name := "isSpent", desc := "(I)Z" } : Jvm.MethodName) : Cond) ∈ TB := TB_d TDe_9 15 rfl rfl
set_option maxRecDepth 20000 in
theorem tw_448 : (Cond.code ({ cls := "AnyOrder$Lengths", name := "isSpent", desc := "(I)Z" } : Jvm.MethodName) prog_4_method_3_code (2 : Nat) (Option.some Jvm.ClassFile.FieldType.boolean) : Cond) ∈ TB := TB_d TDe_9 16 rfl rfl
set_option maxRecDepth 20000 in
theorem tw_449 : (Cond.methodLink "AnyOrder$Lengths" (43 : Nat) ({ cls := "AnyOrder$Lengths", name := "countOf", desc := "(I)I" } : Jvm.MethodName) : Cond) ∈ TB := TB_d TDe_9 17 rfl rfl
set_option maxRecDepth 20000 in
theorem tw_450 : (Cond.instanceMethod ({ cls := "AnyOrder$Lengths", name := "countOf", desc := "(I)I" } : Jvm.MethodName) : Cond) ∈ TB := TB_d TDe_9 18 rfl rfl
set_option maxRecDepth 20000 in
theorem tw_451 : (Cond.selects "AnyOrder$Lengths" ({ cls := "AnyOrder$Lengths", name := "countOf", desc := "(I)I" } : Jvm.MethodName) ({ cls := "AnyOrder$Lengths", name := "countOf", desc := "(I)I" } : Jvm.MethodName) : Cond) ∈ TB := TB_d TDe_9 19 rfl rfl
set_option maxRecDepth 20000 in
theorem tw_452 : (Cond.code ({ cls := "AnyOrder$Lengths", name := "countOf", desc := "(I)I" } : Jvm.MethodName) prog_4_method_4_code (4 : Nat) (Option.some Jvm.ClassFile.FieldType.int) : Cond) ∈ TB := TB_d TDe_9 20 rfl rfl
set_option maxRecDepth 20000 in
theorem tw_453 : (Cond.methodLink "AnyOrder$Lengths" (47 : Nat) ({ cls := "AnyOrder$Lengths", name := "findWays", desc := "()V" } : Jvm.MethodName) : Cond) ∈ TB := TB_d TDe_9 21 rfl rfl
set_option maxRecDepth 20000 in
theorem tw_455 : (Cond.instanceMethod ({ cls := "AnyOrder$Lengths", name := "findWays", desc := "()V" } : Jvm.MethodName) : Cond) ∈ TB := TB_d TDe_9 23 rfl rfl
set_option maxRecDepth 20000 in
theorem tw_456 : (Cond.code ({ cls := "AnyOrder$Lengths", name := "findWays", desc := "()V" } : Jvm.MethodName) prog_4_method_5_code (3 : Nat) (Option.none : Option Jvm.ClassFile.FieldType) : Cond) ∈ TB := TB_d TDe_9 24 rfl rfl
set_option maxRecDepth 20000 in
theorem tw_457 : (Cond.methodLink "AnyOrder$Lengths" (56 : Nat) ({ cls := "java/util/Arrays", name := "fill", desc := "([II)V" } : Jvm.MethodName) : Cond) ∈ TB := TB_d TDe_9 25 rfl rfl
set_option maxRecDepth 20000 in
theorem tw_458 : (Cond.static ({ cls := "java/util/Arrays", name := "fill", desc := "([II)V" } : Jvm.MethodName) : Cond) ∈ TB := TB_d TDe_9 26 rfl rfl
set_option maxRecDepth 20000 in
theorem tw_459 : (Cond.code ({ cls := "java/util/Arrays", name := "fill", desc := "([II)V" } : Jvm.MethodName) prog_18_method_103_code (4 : Nat) (Option.none : Option Jvm.ClassFile.FieldType) : Cond) ∈ TB := TB_d TDe_9 27 rfl rfl
set_option maxRecDepth 20000 in
theorem tw_460 : (Cond.methodLink "AnyOrder$Lengths" (50 : Nat) ({ cls := "AnyOrder$Tables", name := "count", desc := "()I" } : Jvm.MethodName) : Cond) ∈ TB := TB_d TDe_9 28 rfl rfl
set_option maxRecDepth 20000 in
theorem tw_461 : (Cond.methodLink "AnyOrder$Lengths" (62 : Nat) ({ cls := "AnyOrder$Lengths", name := "countWays", desc := "(II)I" } : Jvm.MethodName) : Cond) ∈ TB := TB_d TDe_9 29 rfl rfl
set_option maxRecDepth 20000 in
theorem tw_463 : (Cond.instanceMethod ({ cls := "AnyOrder$Lengths", name := "countWays", desc := "(II)I" } : Jvm.MethodName) : Cond) ∈ TB := TB_d TDe_9 31 rfl rfl
set_option maxRecDepth 20000 in
theorem tw_464 : (Cond.code ({ cls := "AnyOrder$Lengths", name := "countWays", desc := "(II)I" } : Jvm.MethodName) prog_4_method_6_code (5 : Nat) (Option.some Jvm.ClassFile.FieldType.int) : Cond) ∈ TB := TB_d TDe_9 32 rfl rfl
set_option maxRecDepth 20000 in
theorem tw_465 : (Cond.methodLink "AnyOrder$Lengths" (66 : Nat) ({ cls := "AnyOrder$Tables", name := "mayFollow", desc := "(II)Z" } : Jvm.MethodName) : Cond) ∈ TB := TB_d TDe_9 33 rfl rfl
set_option maxRecDepth 20000 in
theorem tw_466 : (Cond.methodLink "AnyOrder" (113 : Nat) ({ cls := "AnyOrder$Lengths", name := "countOf", desc := "(I)I" } : Jvm.MethodName) : Cond) ∈ TB := TB_d TDe_9 34 rfl rfl
set_option maxRecDepth 20000 in
theorem tw_467 : (Cond.methodLink "AnyOrder" (116 : Nat) ({ cls := "AnyOrder$Lengths", name := "surveyOf", desc := "(I)LAnyOrder$Survey;" } : Jvm.MethodName) : Cond) ∈ TB := TB_d TDe_9 35 rfl rfl
set_option maxRecDepth 20000 in
theorem tw_468 : (Cond.instanceMethod ({ cls := "AnyOrder$Lengths", name := "surveyOf", desc := "(I)LAnyOrder$Survey;" } : Jvm.MethodName) : Cond) ∈ TB := TB_d TDe_9 36 rfl rfl
set_option maxRecDepth 20000 in
theorem tw_469 : (Cond.selects "AnyOrder$Lengths" ({ cls := "AnyOrder$Lengths", name := "surveyOf", desc := "(I)LAnyOrder$Survey;" } : Jvm.MethodName) ({ cls := "AnyOrder$Lengths", name := "surveyOf", desc := "(I)LAnyOrder$Survey;" } : Jvm.MethodName) : Cond) ∈ TB := TB_d TDe_9 37 rfl rfl
set_option maxRecDepth 20000 in
theorem tw_470 : (Cond.code ({ cls := "AnyOrder$Lengths", name := "surveyOf", desc := "(I)LAnyOrder$Survey;" } : Jvm.MethodName) prog_4_method_7_code (3 : Nat) (Option.some (Jvm.ClassFile.FieldType.object "AnyOrder$Survey")) : Cond) ∈ TB := TB_d TDe_9 38 rfl rfl
set_option maxRecDepth 20000 in
theorem tw_471 : (Cond.methodLink "AnyOrder$Lengths" (70 : Nat) ({ cls := "AnyOrder$Survey", name := "restart", desc := "()V" } : Jvm.MethodName) : Cond) ∈ TB := TB_d TDe_9 39 rfl rfl
set_option maxRecDepth 20000 in
theorem tw_472 : (Cond.instanceMethod ({ cls := "AnyOrder$Survey", name := "restart", desc := "()V" } : Jvm.MethodName) : Cond) ∈ TB := TB_d TDe_9 40 rfl rfl
set_option maxRecDepth 20000 in
theorem tw_473 : (Cond.selects "AnyOrder$Survey" ({ cls := "AnyOrder$Survey", name := "restart", desc := "()V" } : Jvm.MethodName) ({ cls := "AnyOrder$Survey", name := "restart", desc := "()V" } : Jvm.MethodName) : Cond) ∈ TB := TB_d TDe_9 41 rfl rfl
set_option maxRecDepth 20000 in
theorem tw_474 : (Cond.code ({ cls := "AnyOrder$Survey", name := "restart", desc := "()V" } : Jvm.MethodName) prog_8_method_2_code (1 : Nat) (Option.none : Option Jvm.ClassFile.FieldType) : Cond) ∈ TB := TB_d TDe_9 42 rfl rfl
set_option maxRecDepth 20000 in
theorem tw_475 : (Cond.constantLong "AnyOrder$Survey" (32 : Nat) (-1 : Int64) : Cond) ∈ TB := TB_d TDe_9 43 rfl rfl
set_option maxRecDepth 20000 in
theorem tw_476 : (Cond.constantLong "AnyOrder$Survey" (40 : Nat) (9223372036854775807 : Int64) : Cond) ∈ TB := TB_d TDe_9 44 rfl rfl
set_option maxRecDepth 20000 in
theorem tw_477 : (Cond.methodLink "AnyOrder$Lengths" (73 : Nat) ({ cls := "AnyOrder$Lengths", name := "walk", desc := "(LAnyOrder$Lengths;LAnyOrder$Survey;II)V" } : Jvm.MethodName) : Cond) ∈ TB := TB_d TDe_9 45 rfl rfl
set_option maxRecDepth 20000 in
theorem tw_478 : (Cond.static ({ cls := "AnyOrder$Lengths", name := "walk", desc := "(LAnyOrder$Lengths;LAnyOrder$Survey;II)V" } : Jvm.MethodName) : Cond) ∈ TB := TB_d TDe_9 46 rfl rfl
set_option maxRecDepth 20000 in
theorem tw_479 : (Cond.code ({ cls := "AnyOrder$Lengths", name := "walk", desc := "(LAnyOrder$Lengths;LAnyOrder$Survey;II)V" } : Jvm.MethodName) prog_4_method_8_code (5 : Nat) (Option.none : Option Jvm.ClassFile.FieldType) : Cond) ∈ TB := TB_d TDe_9 47 rfl rfl
def TD_10 : List Cond := [Cond.methodLink "AnyOrder$Lengths" (77 : Nat) ({ cls := "AnyOrder$Lengths", name := "noteWord", desc := "(LAnyOrder$Survey;I)V" } : Jvm.MethodName), Cond.privateMethod ({ cls := "AnyOrder$Lengths", name := "noteWord", desc := "(LAnyOrder$Survey;I)V" } : Jvm.MethodName), Cond.instanceMethod ({ cls := "AnyOrder$Lengths", name := "noteWord", desc := "(LAnyOrder$Survey;I)V" } : Jvm.MethodName), Cond.code ({ cls := "AnyOrder$Lengths", name := "noteWord", desc := "(LAnyOrder$Survey;I)V" } : Jvm.MethodName) prog_4_method_11_code (6 : Nat) (Option.none : Option Jvm.ClassFile.FieldType), Cond.methodLink "AnyOrder$Lengths" (103 : Nat) ({ cls := "AnyOrder$Tables", name := "norm", desc := "([J)J" } : Jvm.MethodName), Cond.instanceMethod ({ cls := "AnyOrder$Tables", name := "norm", desc := "([J)J" } : Jvm.MethodName), Cond.selects "AnyOrder$Tables" ({ cls := "AnyOrder$Tables", name := "norm", desc := "([J)J" } : Jvm.MethodName) ({ cls := "AnyOrder$Tables", name := "norm", desc := "([J)J" } : Jvm.MethodName), Cond.code ({ cls := "AnyOrder$Tables", name := "norm", desc := "([J)J" } : Jvm.MethodName) prog_10_method_25_code (8 : Nat) (Option.some Jvm.ClassFile.FieldType.long), Cond.methodLink "AnyOrder$Tables" (87 : Nat) ({ cls := "java/lang/Math", name := "abs", desc := "(J)J" } : Jvm.MethodName), Cond.static ({ cls := "java/lang/Math", name := "abs", desc := "(J)J" } : Jvm.MethodName), Cond.code ({ cls := "java/lang/Math", name := "abs", desc := "(J)J" } : Jvm.MethodName) prog_16_method_61_code (2 : Nat) (Option.some Jvm.ClassFile.FieldType.long), Cond.methodLink "AnyOrder$Tables" (92 : Nat) ({ cls := "java/lang/Math", name := "max", desc := "(JJ)J" } : Jvm.MethodName), Cond.static ({ cls := "java/lang/Math", name := "max", desc := "(JJ)J" } : Jvm.MethodName), Cond.code ({ cls := "java/lang/Math", name := "max", desc := "(JJ)J" } : Jvm.MethodName) prog_16_method_66_code (4 : Nat) (Option.some Jvm.ClassFile.FieldType.long), Cond.methodLink "AnyOrder$Lengths" (107 : Nat) ({ cls := "AnyOrder$Survey", name := "noteNorm", desc := "([IIJ)V" } : Jvm.MethodName), Cond.instanceMethod ({ cls := "AnyOrder$Survey", name := "noteNorm", desc := "([IIJ)V" } : Jvm.MethodName), Cond.selects "AnyOrder$Survey" ({ cls := "AnyOrder$Survey", name := "noteNorm", desc := "([IIJ)V" } : Jvm.MethodName) ({ cls := "AnyOrder$Survey", name := "noteNorm", desc := "([IIJ)V" } : Jvm.MethodName), Cond.code ({ cls := "AnyOrder$Survey", name := "noteNorm", desc := "([IIJ)V" } : Jvm.MethodName) prog_8_method_3_code (5 : Nat) (Option.none : Option Jvm.ClassFile.FieldType), Cond.methodLink "AnyOrder$Survey" (51 : Nat) ({ cls := "java/lang/System", name := "arraycopy", desc := "(Ljava/lang/Object;ILjava/lang/Object;II)V" } : Jvm.MethodName), Cond.methodLink "AnyOrder$Lengths" (111 : Nat) ({ cls := "AnyOrder$Tables", name := "isTurnable", desc := "([II)Z" } : Jvm.MethodName), Cond.instanceMethod ({ cls := "AnyOrder$Tables", name := "isTurnable", desc := "([II)Z" } : Jvm.MethodName), Cond.selects "AnyOrder$Tables" ({ cls := "AnyOrder$Tables", name := "isTurnable", desc := "([II)Z" } : Jvm.MethodName) ({ cls := "AnyOrder$Tables", name := "isTurnable", desc := "([II)Z" } : Jvm.MethodName), Cond.code ({ cls := "AnyOrder$Tables", name := "isTurnable", desc := "([II)Z" } : Jvm.MethodName) prog_10_method_21_code (3 : Nat) (Option.some Jvm.ClassFile.FieldType.boolean), Cond.methodLink "AnyOrder$Tables" (73 : Nat) ({ cls := "AnyOrder$Tables", name := "mayFollow", desc := "(II)Z" } : Jvm.MethodName), Cond.methodLink "AnyOrder$Lengths" (115 : Nat) ({ cls := "AnyOrder$Tables", name := "track", desc := "([J)J" } : Jvm.MethodName), Cond.instanceMethod ({ cls := "AnyOrder$Tables", name := "track", desc := "([J)J" } : Jvm.MethodName), Cond.selects "AnyOrder$Tables" ({ cls := "AnyOrder$Tables", name := "track", desc := "([J)J" } : Jvm.MethodName) ({ cls := "AnyOrder$Tables", name := "track", desc := "([J)J" } : Jvm.MethodName), Cond.code ({ cls := "AnyOrder$Tables", name := "track", desc := "([J)J" } : Jvm.MethodName) prog_10_method_26_code (5 : Nat) (Option.some Jvm.ClassFile.FieldType.long), Cond.methodLink "AnyOrder$Lengths" (118 : Nat) ({ cls := "AnyOrder$Survey", name := "noteTurnable", desc := "(J)V" } : Jvm.MethodName), Cond.instanceMethod ({ cls := "AnyOrder$Survey", name := "noteTurnable", desc := "(J)V" } : Jvm.MethodName), Cond.selects "AnyOrder$Survey" ({ cls := "AnyOrder$Survey", name := "noteTurnable", desc := "(J)V" } : Jvm.MethodName) ({ cls := "AnyOrder$Survey", name := "noteTurnable", desc := "(J)V" } : Jvm.MethodName), Cond.code ({ cls := "AnyOrder$Survey", name := "noteTurnable", desc := "(J)V" } : Jvm.MethodName) prog_8_method_4_code (3 : Nat) (Option.none : Option Jvm.ClassFile.FieldType), Cond.methodLink "AnyOrder$Survey" (57 : Nat) ({ cls := "java/lang/Math", name := "abs", desc := "(J)J" } : Jvm.MethodName), Cond.methodLink "AnyOrder$Survey" (63 : Nat) ({ cls := "java/lang/Math", name := "max", desc := "(JJ)J" } : Jvm.MethodName), Cond.methodLink "AnyOrder$Lengths" (122 : Nat) ({ cls := "AnyOrder$Spelling", name := "isAheadOfItsTurns", desc := "([II)Z" } : Jvm.MethodName), Cond.static ({ cls := "AnyOrder$Spelling", name := "isAheadOfItsTurns", desc := "([II)Z" } : Jvm.MethodName), Cond.code ({ cls := "AnyOrder$Spelling", name := "isAheadOfItsTurns", desc := "([II)Z" } : Jvm.MethodName) prog_7_method_4_code (3 : Nat) (Option.some Jvm.ClassFile.FieldType.boolean), Cond.methodLink "AnyOrder$Spelling" (13 : Nat) ({ cls := "AnyOrder$Spelling", name := "isAheadOfTurn", desc := "([III)Z" } : Jvm.MethodName), Cond.static ({ cls := "AnyOrder$Spelling", name := "isAheadOfTurn", desc := "([III)Z" } : Jvm.MethodName), Cond.code ({ cls := "AnyOrder$Spelling", name := "isAheadOfTurn", desc := "([III)Z" } : Jvm.MethodName) prog_7_method_5_code (5 : Nat) (Option.some Jvm.ClassFile.FieldType.boolean), Cond.methodLink "AnyOrder$Lengths" (127 : Nat) ({ cls := "AnyOrder$Survey", name := "noteRing", desc := "([IIJ)V" } : Jvm.MethodName), Cond.instanceMethod ({ cls := "AnyOrder$Survey", name := "noteRing", desc := "([IIJ)V" } : Jvm.MethodName), Cond.selects "AnyOrder$Survey" ({ cls := "AnyOrder$Survey", name := "noteRing", desc := "([IIJ)V" } : Jvm.MethodName) ({ cls := "AnyOrder$Survey", name := "noteRing", desc := "([IIJ)V" } : Jvm.MethodName), Cond.code ({ cls := "AnyOrder$Survey", name := "noteRing", desc := "([IIJ)V" } : Jvm.MethodName) prog_8_method_5_code (5 : Nat) (Option.none : Option Jvm.ClassFile.FieldType), Cond.methodLink "AnyOrder$Lengths" (81 : Nat) ({ cls := "AnyOrder$Lengths", name := "leadsOn", desc := "(III)Z" } : Jvm.MethodName), Cond.privateMethod ({ cls := "AnyOrder$Lengths", name := "leadsOn", desc := "(III)Z" } : Jvm.MethodName), Cond.instanceMethod ({ cls := "AnyOrder$Lengths", name := "leadsOn", desc := "(III)Z" } : Jvm.MethodName), Cond.code ({ cls := "AnyOrder$Lengths", name := "leadsOn", desc := "(III)Z" } : Jvm.MethodName) prog_4_method_9_code (4 : Nat) (Option.some Jvm.ClassFile.FieldType.boolean)]
set_option maxRecDepth 20000 in
theorem TDe_10 : TD_10 = (tables_1.drop 480).take 48 := rfl
set_option maxRecDepth 20000 in
theorem tw_480 : (Cond.methodLink "AnyOrder$Lengths" (77 : Nat) ({ cls := "AnyOrder$Lengths", name := "noteWord", desc := "(LAnyOrder$Survey;I)V" } : Jvm.MethodName) : Cond) ∈ TB := TB_d TDe_10 0 rfl rfl
set_option maxRecDepth 20000 in
theorem tw_482 : (Cond.instanceMethod ({ cls := "AnyOrder$Lengths", name := "noteWord", desc := "(LAnyOrder$Survey;I)V" } : Jvm.MethodName) : Cond) ∈ TB := TB_d TDe_10 2 rfl rfl
set_option maxRecDepth 20000 in
theorem tw_483 : (Cond.code ({ cls := "AnyOrder$Lengths", name := "noteWord", desc := "(LAnyOrder$Survey;I)V" } : Jvm.MethodName) prog_4_method_11_code (6 : Nat) (Option.none : Option Jvm.ClassFile.FieldType) : Cond) ∈ TB := TB_d TDe_10 3 rfl rfl
set_option maxRecDepth 20000 in
theorem tw_484 : (Cond.methodLink "AnyOrder$Lengths" (103 : Nat) ({ cls := "AnyOrder$Tables", name := "norm", desc := "([J)J" } : Jvm.MethodName) : Cond) ∈ TB := TB_d TDe_10 4 rfl rfl
set_option maxRecDepth 20000 in
theorem tw_485 : (Cond.instanceMethod ({ cls := "AnyOrder$Tables", name := "norm", desc := "([J)J" } : Jvm.MethodName) : Cond) ∈ TB := TB_d TDe_10 5 rfl rfl
set_option maxRecDepth 20000 in
theorem tw_486 : (Cond.selects "AnyOrder$Tables" ({ cls := "AnyOrder$Tables", name := "norm", desc := "([J)J" } : Jvm.MethodName) ({ cls := "AnyOrder$Tables", name := "norm", desc := "([J)J" } : Jvm.MethodName) : Cond) ∈ TB := TB_d TDe_10 6 rfl rfl
set_option maxRecDepth 20000 in
theorem tw_487 : (Cond.code ({ cls := "AnyOrder$Tables", name := "norm", desc := "([J)J" } : Jvm.MethodName) prog_10_method_25_code (8 : Nat) (Option.some Jvm.ClassFile.FieldType.long) : Cond) ∈ TB := TB_d TDe_10 7 rfl rfl
set_option maxRecDepth 20000 in
theorem tw_488 : (Cond.methodLink "AnyOrder$Tables" (87 : Nat) ({ cls := "java/lang/Math", name := "abs", desc := "(J)J" } : Jvm.MethodName) : Cond) ∈ TB := TB_d TDe_10 8 rfl rfl
set_option maxRecDepth 20000 in
theorem tw_489 : (Cond.static ({ cls := "java/lang/Math", name := "abs", desc := "(J)J" } : Jvm.MethodName) : Cond) ∈ TB := TB_d TDe_10 9 rfl rfl
set_option maxRecDepth 20000 in
theorem tw_490 : (Cond.code ({ cls := "java/lang/Math", name := "abs", desc := "(J)J" } : Jvm.MethodName) prog_16_method_61_code (2 : Nat) (Option.some Jvm.ClassFile.FieldType.long) : Cond) ∈ TB := TB_d TDe_10 10 rfl rfl
set_option maxRecDepth 20000 in
theorem tw_491 : (Cond.methodLink "AnyOrder$Tables" (92 : Nat) ({ cls := "java/lang/Math", name := "max", desc := "(JJ)J" } : Jvm.MethodName) : Cond) ∈ TB := TB_d TDe_10 11 rfl rfl
set_option maxRecDepth 20000 in
theorem tw_492 : (Cond.static ({ cls := "java/lang/Math", name := "max", desc := "(JJ)J" } : Jvm.MethodName) : Cond) ∈ TB := TB_d TDe_10 12 rfl rfl
set_option maxRecDepth 20000 in
theorem tw_493 : (Cond.code ({ cls := "java/lang/Math", name := "max", desc := "(JJ)J" } : Jvm.MethodName) prog_16_method_66_code (4 : Nat) (Option.some Jvm.ClassFile.FieldType.long) : Cond) ∈ TB := TB_d TDe_10 13 rfl rfl
set_option maxRecDepth 20000 in
theorem tw_494 : (Cond.methodLink "AnyOrder$Lengths" (107 : Nat) ({ cls := "AnyOrder$Survey", name := "noteNorm", desc := "([IIJ)V" } : Jvm.MethodName) : Cond) ∈ TB := TB_d TDe_10 14 rfl rfl
set_option maxRecDepth 20000 in
theorem tw_495 : (Cond.instanceMethod ({ cls := "AnyOrder$Survey", name := "noteNorm", desc := "([IIJ)V" } : Jvm.MethodName) : Cond) ∈ TB := TB_d TDe_10 15 rfl rfl
set_option maxRecDepth 20000 in
theorem tw_496 : (Cond.selects "AnyOrder$Survey" ({ cls := "AnyOrder$Survey", name := "noteNorm", desc := "([IIJ)V" } : Jvm.MethodName) ({ cls := "AnyOrder$Survey", name := "noteNorm", desc := "([IIJ)V" } : Jvm.MethodName) : Cond) ∈ TB := TB_d TDe_10 16 rfl rfl
set_option maxRecDepth 20000 in
theorem tw_497 : (Cond.code ({ cls := "AnyOrder$Survey", name := "noteNorm", desc := "([IIJ)V" } : Jvm.MethodName) prog_8_method_3_code (5 : Nat) (Option.none : Option Jvm.ClassFile.FieldType) : Cond) ∈ TB := TB_d TDe_10 17 rfl rfl
set_option maxRecDepth 20000 in
theorem tw_498 : (Cond.methodLink "AnyOrder$Survey" (51 : Nat) ({ cls := "java/lang/System", name := "arraycopy", desc := "(Ljava/lang/Object;ILjava/lang/Object;II)V" } : Jvm.MethodName) : Cond) ∈ TB := TB_d TDe_10 18 rfl rfl
set_option maxRecDepth 20000 in
theorem tw_499 : (Cond.methodLink "AnyOrder$Lengths" (111 : Nat) ({ cls := "AnyOrder$Tables", name := "isTurnable", desc := "([II)Z" } : Jvm.MethodName) : Cond) ∈ TB := TB_d TDe_10 19 rfl rfl
set_option maxRecDepth 20000 in
theorem tw_500 : (Cond.instanceMethod ({ cls := "AnyOrder$Tables", name := "isTurnable", desc := "([II)Z" } : Jvm.MethodName) : Cond) ∈ TB := TB_d TDe_10 20 rfl rfl
set_option maxRecDepth 20000 in
theorem tw_501 : (Cond.selects "AnyOrder$Tables" ({ cls := "AnyOrder$Tables", name := "isTurnable", desc := "([II)Z" } : Jvm.MethodName) ({ cls := "AnyOrder$Tables", name := "isTurnable", desc := "([II)Z" } : Jvm.MethodName) : Cond) ∈ TB := TB_d TDe_10 21 rfl rfl
set_option maxRecDepth 20000 in
theorem tw_502 : (Cond.code ({ cls := "AnyOrder$Tables", name := "isTurnable", desc := "([II)Z" } : Jvm.MethodName) prog_10_method_21_code (3 : Nat) (Option.some Jvm.ClassFile.FieldType.boolean) : Cond) ∈ TB := TB_d TDe_10 22 rfl rfl
set_option maxRecDepth 20000 in
theorem tw_503 : (Cond.methodLink "AnyOrder$Tables" (73 : Nat) ({ cls := "AnyOrder$Tables", name := "mayFollow", desc := "(II)Z" } : Jvm.MethodName) : Cond) ∈ TB := TB_d TDe_10 23 rfl rfl
set_option maxRecDepth 20000 in
theorem tw_504 : (Cond.methodLink "AnyOrder$Lengths" (115 : Nat) ({ cls := "AnyOrder$Tables", name := "track", desc := "([J)J" } : Jvm.MethodName) : Cond) ∈ TB := TB_d TDe_10 24 rfl rfl
set_option maxRecDepth 20000 in
theorem tw_505 : (Cond.instanceMethod ({ cls := "AnyOrder$Tables", name := "track", desc := "([J)J" } : Jvm.MethodName) : Cond) ∈ TB := TB_d TDe_10 25 rfl rfl
set_option maxRecDepth 20000 in
theorem tw_506 : (Cond.selects "AnyOrder$Tables" ({ cls := "AnyOrder$Tables", name := "track", desc := "([J)J" } : Jvm.MethodName) ({ cls := "AnyOrder$Tables", name := "track", desc := "([J)J" } : Jvm.MethodName) : Cond) ∈ TB := TB_d TDe_10 26 rfl rfl
set_option maxRecDepth 20000 in
theorem tw_507 : (Cond.code ({ cls := "AnyOrder$Tables", name := "track", desc := "([J)J" } : Jvm.MethodName) prog_10_method_26_code (5 : Nat) (Option.some Jvm.ClassFile.FieldType.long) : Cond) ∈ TB := TB_d TDe_10 27 rfl rfl
set_option maxRecDepth 20000 in
theorem tw_508 : (Cond.methodLink "AnyOrder$Lengths" (118 : Nat) ({ cls := "AnyOrder$Survey", name := "noteTurnable", desc := "(J)V" } : Jvm.MethodName) : Cond) ∈ TB := TB_d TDe_10 28 rfl rfl
set_option maxRecDepth 20000 in
theorem tw_509 : (Cond.instanceMethod ({ cls := "AnyOrder$Survey", name := "noteTurnable", desc := "(J)V" } : Jvm.MethodName) : Cond) ∈ TB := TB_d TDe_10 29 rfl rfl
set_option maxRecDepth 20000 in
theorem tw_510 : (Cond.selects "AnyOrder$Survey" ({ cls := "AnyOrder$Survey", name := "noteTurnable", desc := "(J)V" } : Jvm.MethodName) ({ cls := "AnyOrder$Survey", name := "noteTurnable", desc := "(J)V" } : Jvm.MethodName) : Cond) ∈ TB := TB_d TDe_10 30 rfl rfl
set_option maxRecDepth 20000 in
theorem tw_511 : (Cond.code ({ cls := "AnyOrder$Survey", name := "noteTurnable", desc := "(J)V" } : Jvm.MethodName) prog_8_method_4_code (3 : Nat) (Option.none : Option Jvm.ClassFile.FieldType) : Cond) ∈ TB := TB_d TDe_10 31 rfl rfl
set_option maxRecDepth 20000 in
theorem tw_512 : (Cond.methodLink "AnyOrder$Survey" (57 : Nat) ({ cls := "java/lang/Math", name := "abs", desc := "(J)J" } : Jvm.MethodName) : Cond) ∈ TB := TB_d TDe_10 32 rfl rfl
set_option maxRecDepth 20000 in
theorem tw_513 : (Cond.methodLink "AnyOrder$Survey" (63 : Nat) ({ cls := "java/lang/Math", name := "max", desc := "(JJ)J" } : Jvm.MethodName) : Cond) ∈ TB := TB_d TDe_10 33 rfl rfl
set_option maxRecDepth 20000 in
theorem tw_514 : (Cond.methodLink "AnyOrder$Lengths" (122 : Nat) ({ cls := "AnyOrder$Spelling", name := "isAheadOfItsTurns", desc := "([II)Z" } : Jvm.MethodName) : Cond) ∈ TB := TB_d TDe_10 34 rfl rfl
set_option maxRecDepth 20000 in
theorem tw_515 : (Cond.static ({ cls := "AnyOrder$Spelling", name := "isAheadOfItsTurns", desc := "([II)Z" } : Jvm.MethodName) : Cond) ∈ TB := TB_d TDe_10 35 rfl rfl
set_option maxRecDepth 20000 in
theorem tw_516 : (Cond.code ({ cls := "AnyOrder$Spelling", name := "isAheadOfItsTurns", desc := "([II)Z" } : Jvm.MethodName) prog_7_method_4_code (3 : Nat) (Option.some Jvm.ClassFile.FieldType.boolean) : Cond) ∈ TB := TB_d TDe_10 36 rfl rfl
set_option maxRecDepth 20000 in
theorem tw_517 : (Cond.methodLink "AnyOrder$Spelling" (13 : Nat) ({ cls := "AnyOrder$Spelling", name := "isAheadOfTurn", desc := "([III)Z" } : Jvm.MethodName) : Cond) ∈ TB := TB_d TDe_10 37 rfl rfl
set_option maxRecDepth 20000 in
theorem tw_518 : (Cond.static ({ cls := "AnyOrder$Spelling", name := "isAheadOfTurn", desc := "([III)Z" } : Jvm.MethodName) : Cond) ∈ TB := TB_d TDe_10 38 rfl rfl
set_option maxRecDepth 20000 in
theorem tw_519 : (Cond.code ({ cls := "AnyOrder$Spelling", name := "isAheadOfTurn", desc := "([III)Z" } : Jvm.MethodName) prog_7_method_5_code (5 : Nat) (Option.some Jvm.ClassFile.FieldType.boolean) : Cond) ∈ TB := TB_d TDe_10 39 rfl rfl
set_option maxRecDepth 20000 in
theorem tw_520 : (Cond.methodLink "AnyOrder$Lengths" (127 : Nat) ({ cls := "AnyOrder$Survey", name := "noteRing", desc := "([IIJ)V" } : Jvm.MethodName) : Cond) ∈ TB := TB_d TDe_10 40 rfl rfl
set_option maxRecDepth 20000 in
theorem tw_521 : (Cond.instanceMethod ({ cls := "AnyOrder$Survey", name := "noteRing", desc := "([IIJ)V" } : Jvm.MethodName) : Cond) ∈ TB := TB_d TDe_10 41 rfl rfl
set_option maxRecDepth 20000 in
theorem tw_522 : (Cond.selects "AnyOrder$Survey" ({ cls := "AnyOrder$Survey", name := "noteRing", desc := "([IIJ)V" } : Jvm.MethodName) ({ cls := "AnyOrder$Survey", name := "noteRing", desc := "([IIJ)V" } : Jvm.MethodName) : Cond) ∈ TB := TB_d TDe_10 42 rfl rfl
set_option maxRecDepth 20000 in
theorem tw_523 : (Cond.code ({ cls := "AnyOrder$Survey", name := "noteRing", desc := "([IIJ)V" } : Jvm.MethodName) prog_8_method_5_code (5 : Nat) (Option.none : Option Jvm.ClassFile.FieldType) : Cond) ∈ TB := TB_d TDe_10 43 rfl rfl
set_option maxRecDepth 20000 in
theorem tw_524 : (Cond.methodLink "AnyOrder$Lengths" (81 : Nat) ({ cls := "AnyOrder$Lengths", name := "leadsOn", desc := "(III)Z" } : Jvm.MethodName) : Cond) ∈ TB := TB_d TDe_10 44 rfl rfl
set_option maxRecDepth 20000 in
theorem tw_526 : (Cond.instanceMethod ({ cls := "AnyOrder$Lengths", name := "leadsOn", desc := "(III)Z" } : Jvm.MethodName) : Cond) ∈ TB := TB_d TDe_10 46 rfl rfl
set_option maxRecDepth 20000 in
theorem tw_527 : (Cond.code ({ cls := "AnyOrder$Lengths", name := "leadsOn", desc := "(III)Z" } : Jvm.MethodName) prog_4_method_9_code (4 : Nat) (Option.some Jvm.ClassFile.FieldType.boolean) : Cond) ∈ TB := TB_d TDe_10 47 rfl rfl
def TD_11 : List Cond := [Cond.methodLink "AnyOrder$Lengths" (85 : Nat) ({ cls := "AnyOrder$Lengths", name := "extendPrefix", desc := "(II)V" } : Jvm.MethodName), Cond.privateMethod ({ cls := "AnyOrder$Lengths", name := "extendPrefix", desc := "(II)V" } : Jvm.MethodName), Cond.instanceMethod ({ cls := "AnyOrder$Lengths", name := "extendPrefix", desc := "(II)V" } : Jvm.MethodName), Cond.code ({ cls := "AnyOrder$Lengths", name := "extendPrefix", desc := "(II)V" } : Jvm.MethodName) prog_4_method_10_code (3 : Nat) (Option.none : Option Jvm.ClassFile.FieldType), Cond.methodLink "AnyOrder$Lengths" (89 : Nat) ({ cls := "AnyOrder$Tables", name := "rowOf", desc := "(I)[J" } : Jvm.MethodName), Cond.instanceMethod ({ cls := "AnyOrder$Tables", name := "rowOf", desc := "(I)[J" } : Jvm.MethodName), Cond.selects "AnyOrder$Tables" ({ cls := "AnyOrder$Tables", name := "rowOf", desc := "(I)[J" } : Jvm.MethodName) ({ cls := "AnyOrder$Tables", name := "rowOf", desc := "(I)[J" } : Jvm.MethodName), Cond.code ({ cls := "AnyOrder$Tables", name := "rowOf", desc := "(I)[J" } : Jvm.MethodName) prog_10_method_10_code (2 : Nat) (Option.some (Jvm.ClassFile.FieldType.array Jvm.ClassFile.FieldType.long)), Cond.methodLink "AnyOrder$Lengths" (93 : Nat) ({ cls := "java/lang/System", name := "arraycopy", desc := "(Ljava/lang/Object;ILjava/lang/Object;II)V" } : Jvm.MethodName), Cond.methodLink "AnyOrder$Lengths" (99 : Nat) ({ cls := "AnyOrder$Tables", name := "multiply", desc := "([J[J[J)V" } : Jvm.MethodName), Cond.instanceMethod ({ cls := "AnyOrder$Tables", name := "multiply", desc := "([J[J[J)V" } : Jvm.MethodName), Cond.selects "AnyOrder$Tables" ({ cls := "AnyOrder$Tables", name := "multiply", desc := "([J[J[J)V" } : Jvm.MethodName) ({ cls := "AnyOrder$Tables", name := "multiply", desc := "([J[J[J)V" } : Jvm.MethodName), Cond.code ({ cls := "AnyOrder$Tables", name := "multiply", desc := "([J[J[J)V" } : Jvm.MethodName) prog_10_method_23_code (9 : Nat) (Option.none : Option Jvm.ClassFile.FieldType), Cond.methodLink "AnyOrderLaw" (38 : Nat) ({ cls := "AnyOrder", name := "extreme", desc := "(III)I" } : Jvm.MethodName), Cond.instanceMethod ({ cls := "AnyOrder", name := "extreme", desc := "(III)I" } : Jvm.MethodName), Cond.selects "AnyOrder" ({ cls := "AnyOrder", name := "extreme", desc := "(III)I" } : Jvm.MethodName) ({ cls := "AnyOrder", name := "extreme", desc := "(III)I" } : Jvm.MethodName), Cond.code ({ cls := "AnyOrder", name := "extreme", desc := "(III)I" } : Jvm.MethodName) prog_1_method_7_code (5 : Nat) (Option.some Jvm.ClassFile.FieldType.int), Cond.methodLink "AnyOrderLaw" (42 : Nat) ({ cls := "AnyOrder", name := "rings", desc := "(I)I" } : Jvm.MethodName), Cond.instanceMethod ({ cls := "AnyOrder", name := "rings", desc := "(I)I" } : Jvm.MethodName), Cond.selects "AnyOrder" ({ cls := "AnyOrder", name := "rings", desc := "(I)I" } : Jvm.MethodName) ({ cls := "AnyOrder", name := "rings", desc := "(I)I" } : Jvm.MethodName), Cond.code ({ cls := "AnyOrder", name := "rings", desc := "(I)I" } : Jvm.MethodName) prog_1_method_8_code (2 : Nat) (Option.some Jvm.ClassFile.FieldType.int), Cond.methodLink "AnyOrderLaw" (47 : Nat) ({ cls := "AnyOrder", name := "ringTrack", desc := "(I)J" } : Jvm.MethodName), Cond.instanceMethod ({ cls := "AnyOrder", name := "ringTrack", desc := "(I)J" } : Jvm.MethodName), Cond.selects "AnyOrder" ({ cls := "AnyOrder", name := "ringTrack", desc := "(I)J" } : Jvm.MethodName) ({ cls := "AnyOrder", name := "ringTrack", desc := "(I)J" } : Jvm.MethodName), Cond.code ({ cls := "AnyOrder", name := "ringTrack", desc := "(I)J" } : Jvm.MethodName) prog_1_method_9_code (3 : Nat) (Option.some Jvm.ClassFile.FieldType.long), Cond.methodLink "AnyOrderLaw" (52 : Nat) ({ cls := "AnyOrder", name := "ring", desc := "(II)I" } : Jvm.MethodName), Cond.instanceMethod ({ cls := "AnyOrder", name := "ring", desc := "(II)I" } : Jvm.MethodName), Cond.selects "AnyOrder" ({ cls := "AnyOrder", name := "ring", desc := "(II)I" } : Jvm.MethodName) ({ cls := "AnyOrder", name := "ring", desc := "(II)I" } : Jvm.MethodName), Cond.code ({ cls := "AnyOrder", name := "ring", desc := "(II)I" } : Jvm.MethodName) prog_1_method_10_code (4 : Nat) (Option.some Jvm.ClassFile.FieldType.int), Cond.methodLink "AnyOrderLaw" (56 : Nat) ({ cls := "AnyOrder", name := "growth", desc := "(III)I" } : Jvm.MethodName), Cond.instanceMethod ({ cls := "AnyOrder", name := "growth", desc := "(III)I" } : Jvm.MethodName), Cond.selects "AnyOrder" ({ cls := "AnyOrder", name := "growth", desc := "(III)I" } : Jvm.MethodName) ({ cls := "AnyOrder", name := "growth", desc := "(III)I" } : Jvm.MethodName), Cond.code ({ cls := "AnyOrder", name := "growth", desc := "(III)I" } : Jvm.MethodName) prog_1_method_11_code (5 : Nat) (Option.some Jvm.ClassFile.FieldType.int), Cond.methodLink "AnyOrder" (147 : Nat) ({ cls := "AnyOrder$Tables", name := "modulus", desc := "()I" } : Jvm.MethodName), Cond.instanceMethod ({ cls := "AnyOrder$Tables", name := "modulus", desc := "()I" } : Jvm.MethodName), Cond.selects "AnyOrder$Tables" ({ cls := "AnyOrder$Tables", name := "modulus", desc := "()I" } : Jvm.MethodName) ({ cls := "AnyOrder$Tables", name := "modulus", desc := "()I" } : Jvm.MethodName), Cond.code ({ cls := "AnyOrder$Tables", name := "modulus", desc := "()I" } : Jvm.MethodName) prog_10_method_6_code (1 : Nat) (Option.some Jvm.ClassFile.FieldType.int), Cond.methodLink "AnyOrder" (154 : Nat) ({ cls := "AnyOrder$Lengths", name := "compareGrowth", desc := "(III)I" } : Jvm.MethodName), Cond.instanceMethod ({ cls := "AnyOrder$Lengths", name := "compareGrowth", desc := "(III)I" } : Jvm.MethodName), Cond.selects "AnyOrder$Lengths" ({ cls := "AnyOrder$Lengths", name := "compareGrowth", desc := "(III)I" } : Jvm.MethodName) ({ cls := "AnyOrder$Lengths", name := "compareGrowth", desc := "(III)I" } : Jvm.MethodName), Cond.code ({ cls := "AnyOrder$Lengths", name := "compareGrowth", desc := "(III)I" } : Jvm.MethodName) prog_4_method_12_code (11 : Nat) (Option.some Jvm.ClassFile.FieldType.int), Cond.methodLink "AnyOrder$Lengths" (130 : Nat) ({ cls := "AnyOrder$Lengths", name := "surveyOf", desc := "(I)LAnyOrder$Survey;" } : Jvm.MethodName), Cond.methodLink "AnyOrder$Lengths" (138 : Nat) ({ cls := "AnyOrder$Tables", name := "dimension", desc := "()I" } : Jvm.MethodName), Cond.instanceMethod ({ cls := "AnyOrder$Tables", name := "dimension", desc := "()I" } : Jvm.MethodName), Cond.selects "AnyOrder$Tables" ({ cls := "AnyOrder$Tables", name := "dimension", desc := "()I" } : Jvm.MethodName) ({ cls := "AnyOrder$Tables", name := "dimension", desc := "()I" } : Jvm.MethodName), Cond.code ({ cls := "AnyOrder$Tables", name := "dimension", desc := "()I" } : Jvm.MethodName) prog_10_method_5_code (1 : Nat) (Option.some Jvm.ClassFile.FieldType.int), Cond.methodLink "AnyOrderLaw" (60 : Nat) ({ cls := "AnyOrder", name := "close", desc := "()I" } : Jvm.MethodName), Cond.instanceMethod ({ cls := "AnyOrder", name := "close", desc := "()I" } : Jvm.MethodName)]
set_option maxRecDepth 20000 in
theorem TDe_11 : TD_11 = (tables_1.drop 528).take 48 := rfl
set_option maxRecDepth 20000 in
theorem tw_528 : (Cond.methodLink "AnyOrder$Lengths" (85 : Nat) ({ cls := "AnyOrder$Lengths", name := "extendPrefix", desc := "(II)V" } : Jvm.MethodName) : Cond) ∈ TB := TB_d TDe_11 0 rfl rfl
set_option maxRecDepth 20000 in
theorem tw_530 : (Cond.instanceMethod ({ cls := "AnyOrder$Lengths", name := "extendPrefix", desc := "(II)V" } : Jvm.MethodName) : Cond) ∈ TB := TB_d TDe_11 2 rfl rfl
set_option maxRecDepth 20000 in
theorem tw_531 : (Cond.code ({ cls := "AnyOrder$Lengths", name := "extendPrefix", desc := "(II)V" } : Jvm.MethodName) prog_4_method_10_code (3 : Nat) (Option.none : Option Jvm.ClassFile.FieldType) : Cond) ∈ TB := TB_d TDe_11 3 rfl rfl
set_option maxRecDepth 20000 in
theorem tw_532 : (Cond.methodLink "AnyOrder$Lengths" (89 : Nat) ({ cls := "AnyOrder$Tables", name := "rowOf", desc := "(I)[J" } : Jvm.MethodName) : Cond) ∈ TB := TB_d TDe_11 4 rfl rfl
set_option maxRecDepth 20000 in
theorem tw_533 : (Cond.instanceMethod ({ cls := "AnyOrder$Tables", name := "rowOf", desc := "(I)[J" } : Jvm.MethodName) : Cond) ∈ TB := TB_d TDe_11 5 rfl rfl
set_option maxRecDepth 20000 in
theorem tw_534 : (Cond.selects "AnyOrder$Tables" ({ cls := "AnyOrder$Tables", name := "rowOf", desc := "(I)[J" } : Jvm.MethodName) ({ cls := "AnyOrder$Tables", name := "rowOf", desc := "(I)[J" } : Jvm.MethodName) : Cond) ∈ TB := TB_d TDe_11 6 rfl rfl
set_option maxRecDepth 20000 in
theorem tw_535 : (Cond.code ({ cls := "AnyOrder$Tables", name := "rowOf", desc := "(I)[J" } : Jvm.MethodName) prog_10_method_10_code (2 : Nat) (Option.some (Jvm.ClassFile.FieldType.array Jvm.ClassFile.FieldType.long)) : Cond) ∈ TB := TB_d TDe_11 7 rfl rfl
set_option maxRecDepth 20000 in
theorem tw_536 : (Cond.methodLink "AnyOrder$Lengths" (93 : Nat) ({ cls := "java/lang/System", name := "arraycopy", desc := "(Ljava/lang/Object;ILjava/lang/Object;II)V" } : Jvm.MethodName) : Cond) ∈ TB := TB_d TDe_11 8 rfl rfl
set_option maxRecDepth 20000 in
theorem tw_537 : (Cond.methodLink "AnyOrder$Lengths" (99 : Nat) ({ cls := "AnyOrder$Tables", name := "multiply", desc := "([J[J[J)V" } : Jvm.MethodName) : Cond) ∈ TB := TB_d TDe_11 9 rfl rfl
set_option maxRecDepth 20000 in
theorem tw_538 : (Cond.instanceMethod ({ cls := "AnyOrder$Tables", name := "multiply", desc := "([J[J[J)V" } : Jvm.MethodName) : Cond) ∈ TB := TB_d TDe_11 10 rfl rfl
set_option maxRecDepth 20000 in
theorem tw_539 : (Cond.selects "AnyOrder$Tables" ({ cls := "AnyOrder$Tables", name := "multiply", desc := "([J[J[J)V" } : Jvm.MethodName) ({ cls := "AnyOrder$Tables", name := "multiply", desc := "([J[J[J)V" } : Jvm.MethodName) : Cond) ∈ TB := TB_d TDe_11 11 rfl rfl
set_option maxRecDepth 20000 in
theorem tw_540 : (Cond.code ({ cls := "AnyOrder$Tables", name := "multiply", desc := "([J[J[J)V" } : Jvm.MethodName) prog_10_method_23_code (9 : Nat) (Option.none : Option Jvm.ClassFile.FieldType) : Cond) ∈ TB := TB_d TDe_11 12 rfl rfl
set_option maxRecDepth 20000 in
theorem tw_541 : (Cond.methodLink "AnyOrderLaw" (38 : Nat) ({ cls := "AnyOrder", name := "extreme", desc := "(III)I" } : Jvm.MethodName) : Cond) ∈ TB := TB_d TDe_11 13 rfl rfl
set_option maxRecDepth 20000 in
theorem tw_542 : (Cond.instanceMethod ({ cls := "AnyOrder", name := "extreme", desc := "(III)I" } : Jvm.MethodName) : Cond) ∈ TB := TB_d TDe_11 14 rfl rfl
set_option maxRecDepth 20000 in
theorem tw_543 : (Cond.selects "AnyOrder" ({ cls := "AnyOrder", name := "extreme", desc := "(III)I" } : Jvm.MethodName) ({ cls := "AnyOrder", name := "extreme", desc := "(III)I" } : Jvm.MethodName) : Cond) ∈ TB := TB_d TDe_11 15 rfl rfl
set_option maxRecDepth 20000 in
theorem tw_544 : (Cond.code ({ cls := "AnyOrder", name := "extreme", desc := "(III)I" } : Jvm.MethodName) prog_1_method_7_code (5 : Nat) (Option.some Jvm.ClassFile.FieldType.int) : Cond) ∈ TB := TB_d TDe_11 16 rfl rfl
set_option maxRecDepth 20000 in
theorem tw_545 : (Cond.methodLink "AnyOrderLaw" (42 : Nat) ({ cls := "AnyOrder", name := "rings", desc := "(I)I" } : Jvm.MethodName) : Cond) ∈ TB := TB_d TDe_11 17 rfl rfl
set_option maxRecDepth 20000 in
theorem tw_546 : (Cond.instanceMethod ({ cls := "AnyOrder", name := "rings", desc := "(I)I" } : Jvm.MethodName) : Cond) ∈ TB := TB_d TDe_11 18 rfl rfl
set_option maxRecDepth 20000 in
theorem tw_547 : (Cond.selects "AnyOrder" ({ cls := "AnyOrder", name := "rings", desc := "(I)I" } : Jvm.MethodName) ({ cls := "AnyOrder", name := "rings", desc := "(I)I" } : Jvm.MethodName) : Cond) ∈ TB := TB_d TDe_11 19 rfl rfl
set_option maxRecDepth 20000 in
theorem tw_548 : (Cond.code ({ cls := "AnyOrder", name := "rings", desc := "(I)I" } : Jvm.MethodName) prog_1_method_8_code (2 : Nat) (Option.some Jvm.ClassFile.FieldType.int) : Cond) ∈ TB := TB_d TDe_11 20 rfl rfl
set_option maxRecDepth 20000 in
theorem tw_549 : (Cond.methodLink "AnyOrderLaw" (47 : Nat) ({ cls := "AnyOrder", name := "ringTrack", desc := "(I)J" } : Jvm.MethodName) : Cond) ∈ TB := TB_d TDe_11 21 rfl rfl
set_option maxRecDepth 20000 in
theorem tw_550 : (Cond.instanceMethod ({ cls := "AnyOrder", name := "ringTrack", desc := "(I)J" } : Jvm.MethodName) : Cond) ∈ TB := TB_d TDe_11 22 rfl rfl
set_option maxRecDepth 20000 in
theorem tw_551 : (Cond.selects "AnyOrder" ({ cls := "AnyOrder", name := "ringTrack", desc := "(I)J" } : Jvm.MethodName) ({ cls := "AnyOrder", name := "ringTrack", desc := "(I)J" } : Jvm.MethodName) : Cond) ∈ TB := TB_d TDe_11 23 rfl rfl
set_option maxRecDepth 20000 in
theorem tw_552 : (Cond.code ({ cls := "AnyOrder", name := "ringTrack", desc := "(I)J" } : Jvm.MethodName) prog_1_method_9_code (3 : Nat) (Option.some Jvm.ClassFile.FieldType.long) : Cond) ∈ TB := TB_d TDe_11 24 rfl rfl
set_option maxRecDepth 20000 in
theorem tw_553 : (Cond.methodLink "AnyOrderLaw" (52 : Nat) ({ cls := "AnyOrder", name := "ring", desc := "(II)I" } : Jvm.MethodName) : Cond) ∈ TB := TB_d TDe_11 25 rfl rfl
set_option maxRecDepth 20000 in
theorem tw_554 : (Cond.instanceMethod ({ cls := "AnyOrder", name := "ring", desc := "(II)I" } : Jvm.MethodName) : Cond) ∈ TB := TB_d TDe_11 26 rfl rfl
set_option maxRecDepth 20000 in
theorem tw_555 : (Cond.selects "AnyOrder" ({ cls := "AnyOrder", name := "ring", desc := "(II)I" } : Jvm.MethodName) ({ cls := "AnyOrder", name := "ring", desc := "(II)I" } : Jvm.MethodName) : Cond) ∈ TB := TB_d TDe_11 27 rfl rfl
set_option maxRecDepth 20000 in
theorem tw_556 : (Cond.code ({ cls := "AnyOrder", name := "ring", desc := "(II)I" } : Jvm.MethodName) prog_1_method_10_code (4 : Nat) (Option.some Jvm.ClassFile.FieldType.int) : Cond) ∈ TB := TB_d TDe_11 28 rfl rfl
set_option maxRecDepth 20000 in
theorem tw_557 : (Cond.methodLink "AnyOrderLaw" (56 : Nat) ({ cls := "AnyOrder", name := "growth", desc := "(III)I" } : Jvm.MethodName) : Cond) ∈ TB := TB_d TDe_11 29 rfl rfl
set_option maxRecDepth 20000 in
theorem tw_558 : (Cond.instanceMethod ({ cls := "AnyOrder", name := "growth", desc := "(III)I" } : Jvm.MethodName) : Cond) ∈ TB := TB_d TDe_11 30 rfl rfl
set_option maxRecDepth 20000 in
theorem tw_559 : (Cond.selects "AnyOrder" ({ cls := "AnyOrder", name := "growth", desc := "(III)I" } : Jvm.MethodName) ({ cls := "AnyOrder", name := "growth", desc := "(III)I" } : Jvm.MethodName) : Cond) ∈ TB := TB_d TDe_11 31 rfl rfl
set_option maxRecDepth 20000 in
theorem tw_560 : (Cond.code ({ cls := "AnyOrder", name := "growth", desc := "(III)I" } : Jvm.MethodName) prog_1_method_11_code (5 : Nat) (Option.some Jvm.ClassFile.FieldType.int) : Cond) ∈ TB := TB_d TDe_11 32 rfl rfl
set_option maxRecDepth 20000 in
theorem tw_561 : (Cond.methodLink "AnyOrder" (147 : Nat) ({ cls := "AnyOrder$Tables", name := "modulus", desc := "()I" } : Jvm.MethodName) : Cond) ∈ TB := TB_d TDe_11 33 rfl rfl
set_option maxRecDepth 20000 in
theorem tw_562 : (Cond.instanceMethod ({ cls := "AnyOrder$Tables", name := "modulus", desc := "()I" } : Jvm.MethodName) : Cond) ∈ TB := TB_d TDe_11 34 rfl rfl
set_option maxRecDepth 20000 in
theorem tw_563 : (Cond.selects "AnyOrder$Tables" ({ cls := "AnyOrder$Tables", name := "modulus", desc := "()I" } : Jvm.MethodName) ({ cls := "AnyOrder$Tables", name := "modulus", desc := "()I" } : Jvm.MethodName) : Cond) ∈ TB := TB_d TDe_11 35 rfl rfl
set_option maxRecDepth 20000 in
theorem tw_564 : (Cond.code ({ cls := "AnyOrder$Tables", name := "modulus", desc := "()I" } : Jvm.MethodName) prog_10_method_6_code (1 : Nat) (Option.some Jvm.ClassFile.FieldType.int) : Cond) ∈ TB := TB_d TDe_11 36 rfl rfl
set_option maxRecDepth 20000 in
theorem tw_565 : (Cond.methodLink "AnyOrder" (154 : Nat) ({ cls := "AnyOrder$Lengths", name := "compareGrowth", desc := "(III)I" } : Jvm.MethodName) : Cond) ∈ TB := TB_d TDe_11 37 rfl rfl
set_option maxRecDepth 20000 in
theorem tw_566 : (Cond.instanceMethod ({ cls := "AnyOrder$Lengths", name := "compareGrowth", desc := "(III)I" } : Jvm.MethodName) : Cond) ∈ TB := TB_d TDe_11 38 rfl rfl
set_option maxRecDepth 20000 in
theorem tw_567 : (Cond.selects "AnyOrder$Lengths" ({ cls := "AnyOrder$Lengths", name := "compareGrowth", desc := "(III)I" } : Jvm.MethodName) ({ cls := "AnyOrder$Lengths", name := "compareGrowth", desc := "(III)I" } : Jvm.MethodName) : Cond) ∈ TB := TB_d TDe_11 39 rfl rfl
set_option maxRecDepth 20000 in
theorem tw_568 : (Cond.code ({ cls := "AnyOrder$Lengths", name := "compareGrowth", desc := "(III)I" } : Jvm.MethodName) prog_4_method_12_code (11 : Nat) (Option.some Jvm.ClassFile.FieldType.int) : Cond) ∈ TB := TB_d TDe_11 40 rfl rfl
set_option maxRecDepth 20000 in
theorem tw_569 : (Cond.methodLink "AnyOrder$Lengths" (130 : Nat) ({ cls := "AnyOrder$Lengths", name := "surveyOf", desc := "(I)LAnyOrder$Survey;" } : Jvm.MethodName) : Cond) ∈ TB := TB_d TDe_11 41 rfl rfl
set_option maxRecDepth 20000 in
theorem tw_570 : (Cond.methodLink "AnyOrder$Lengths" (138 : Nat) ({ cls := "AnyOrder$Tables", name := "dimension", desc := "()I" } : Jvm.MethodName) : Cond) ∈ TB := TB_d TDe_11 42 rfl rfl
set_option maxRecDepth 20000 in
theorem tw_571 : (Cond.instanceMethod ({ cls := "AnyOrder$Tables", name := "dimension", desc := "()I" } : Jvm.MethodName) : Cond) ∈ TB := TB_d TDe_11 43 rfl rfl
set_option maxRecDepth 20000 in
theorem tw_572 : (Cond.selects "AnyOrder$Tables" ({ cls := "AnyOrder$Tables", name := "dimension", desc := "()I" } : Jvm.MethodName) ({ cls := "AnyOrder$Tables", name := "dimension", desc := "()I" } : Jvm.MethodName) : Cond) ∈ TB := TB_d TDe_11 44 rfl rfl
set_option maxRecDepth 20000 in
theorem tw_573 : (Cond.code ({ cls := "AnyOrder$Tables", name := "dimension", desc := "()I" } : Jvm.MethodName) prog_10_method_5_code (1 : Nat) (Option.some Jvm.ClassFile.FieldType.int) : Cond) ∈ TB := TB_d TDe_11 45 rfl rfl
set_option maxRecDepth 20000 in
theorem tw_574 : (Cond.methodLink "AnyOrderLaw" (60 : Nat) ({ cls := "AnyOrder", name := "close", desc := "()I" } : Jvm.MethodName) : Cond) ∈ TB := TB_d TDe_11 46 rfl rfl
set_option maxRecDepth 20000 in
theorem tw_575 : (Cond.instanceMethod ({ cls := "AnyOrder", name := "close", desc := "()I" } : Jvm.MethodName) : Cond) ∈ TB := TB_d TDe_11 47 rfl rfl
def TD_12 : List Cond := [Cond.selects "AnyOrder" ({ cls := "AnyOrder", name := "close", desc := "()I" } : Jvm.MethodName) ({ cls := "AnyOrder", name := "close", desc := "()I" } : Jvm.MethodName), Cond.code ({ cls := "AnyOrder", name := "close", desc := "()I" } : Jvm.MethodName) prog_1_method_12_code (1 : Nat) (Option.some Jvm.ClassFile.FieldType.int), Cond.methodLink "AnyOrder" (157 : Nat) ({ cls := "AnyOrder$Closure", name := "search", desc := "()I" } : Jvm.MethodName), Cond.instanceMethod ({ cls := "AnyOrder$Closure", name := "search", desc := "()I" } : Jvm.MethodName), Cond.selects "AnyOrder$Closure" ({ cls := "AnyOrder$Closure", name := "search", desc := "()I" } : Jvm.MethodName) ({ cls := "AnyOrder$Closure", name := "search", desc := "()I" } : Jvm.MethodName), Cond.code ({ cls := "AnyOrder$Closure", name := "search", desc := "()I" } : Jvm.MethodName) prog_2_method_5_code (1 : Nat) (Option.some Jvm.ClassFile.FieldType.int), Cond.methodLink "AnyOrder$Closure" (36 : Nat) ({ cls := "AnyOrder$Closure", name := "findAll", desc := "()Z" } : Jvm.MethodName), Cond.privateMethod ({ cls := "AnyOrder$Closure", name := "findAll", desc := "()Z" } : Jvm.MethodName), Cond.instanceMethod ({ cls := "AnyOrder$Closure", name := "findAll", desc := "()Z" } : Jvm.MethodName), Cond.code ({ cls := "AnyOrder$Closure", name := "findAll", desc := "()Z" } : Jvm.MethodName) prog_2_method_9_code (2 : Nat) (Option.some Jvm.ClassFile.FieldType.boolean), Cond.methodLink "AnyOrder$Closure" (57 : Nat) ({ cls := "AnyOrder$Closure", name := "prepareRows", desc := "()V" } : Jvm.MethodName), Cond.privateMethod ({ cls := "AnyOrder$Closure", name := "prepareRows", desc := "()V" } : Jvm.MethodName), Cond.instanceMethod ({ cls := "AnyOrder$Closure", name := "prepareRows", desc := "()V" } : Jvm.MethodName), Cond.code ({ cls := "AnyOrder$Closure", name := "prepareRows", desc := "()V" } : Jvm.MethodName) prog_2_method_10_code (1 : Nat) (Option.none : Option Jvm.ClassFile.FieldType), Cond.methodLink "AnyOrder$Closure" (80 : Nat) ({ cls := "java/util/Arrays", name := "fill", desc := "([II)V" } : Jvm.MethodName), Cond.methodLink "AnyOrder$Closure" (86 : Nat) ({ cls := "AnyOrder$Tables", name := "cellCount", desc := "()I" } : Jvm.MethodName), Cond.methodLink "AnyOrder$Closure" (60 : Nat) ({ cls := "AnyOrder$Tables", name := "count", desc := "()I" } : Jvm.MethodName), Cond.methodLink "AnyOrder$Closure" (65 : Nat) ({ cls := "AnyOrder$Tables", name := "rowOf", desc := "(I)[J" } : Jvm.MethodName), Cond.methodLink "AnyOrder$Closure" (69 : Nat) ({ cls := "AnyOrder$Closure", name := "take", desc := "([JI)Z" } : Jvm.MethodName), Cond.privateMethod ({ cls := "AnyOrder$Closure", name := "take", desc := "([JI)Z" } : Jvm.MethodName), Cond.instanceMethod ({ cls := "AnyOrder$Closure", name := "take", desc := "([JI)Z" } : Jvm.MethodName), Cond.code ({ cls := "AnyOrder$Closure", name := "take", desc := "([JI)Z" } : Jvm.MethodName) prog_2_method_12_code (4 : Nat) (Option.some Jvm.ClassFile.FieldType.boolean), Cond.methodLink "AnyOrder$Closure" (99 : Nat) ({ cls := "AnyOrder$Closure", name := "isBeyond", desc := "([J)Z" } : Jvm.MethodName), Cond.privateMethod ({ cls := "AnyOrder$Closure", name := "isBeyond", desc := "([J)Z" } : Jvm.MethodName), Cond.instanceMethod ({ cls := "AnyOrder$Closure", name := "isBeyond", desc := "([J)Z" } : Jvm.MethodName), Cond.code ({ cls := "AnyOrder$Closure", name := "isBeyond", desc := "([J)Z" } : Jvm.MethodName) prog_2_method_13_code (3 : Nat) (Option.some Jvm.ClassFile.FieldType.boolean), Cond.methodLink "AnyOrder$Closure" (109 : Nat) ({ cls := "java/lang/Math", name := "abs", desc := "(J)J" } : Jvm.MethodName), Cond.constantLong "AnyOrder$Closure" (115 : Nat) (1000000 : Int64), Cond.methodLink "AnyOrder$Closure" (50 : Nat) ({ cls := "AnyOrder$Closure", name := "slotOf", desc := "([J)I" } : Jvm.MethodName), Cond.privateMethod ({ cls := "AnyOrder$Closure", name := "slotOf", desc := "([J)I" } : Jvm.MethodName), Cond.instanceMethod ({ cls := "AnyOrder$Closure", name := "slotOf", desc := "([J)I" } : Jvm.MethodName), Cond.code ({ cls := "AnyOrder$Closure", name := "slotOf", desc := "([J)I" } : Jvm.MethodName) prog_2_method_14_code (4 : Nat) (Option.some Jvm.ClassFile.FieldType.int), Cond.methodLink "AnyOrder$Closure" (117 : Nat) ({ cls := "AnyOrder$Closure", name := "firstSlotOf", desc := "([J)I" } : Jvm.MethodName), Cond.privateMethod ({ cls := "AnyOrder$Closure", name := "firstSlotOf", desc := "([J)I" } : Jvm.MethodName), Cond.instanceMethod ({ cls := "AnyOrder$Closure", name := "firstSlotOf", desc := "([J)I" } : Jvm.MethodName), Cond.code ({ cls := "AnyOrder$Closure", name := "firstSlotOf", desc := "([J)I" } : Jvm.MethodName) prog_2_method_15_code (4 : Nat) (Option.some Jvm.ClassFile.FieldType.int), Cond.constant "AnyOrder$Closure" (124 : Nat) (1000003 : Int32), Cond.methodLink "AnyOrder$Closure" (120 : Nat) ({ cls := "AnyOrder$Closure", name := "isSame", desc := "(I[J)Z" } : Jvm.MethodName), Cond.privateMethod ({ cls := "AnyOrder$Closure", name := "isSame", desc := "(I[J)Z" } : Jvm.MethodName), Cond.instanceMethod ({ cls := "AnyOrder$Closure", name := "isSame", desc := "(I[J)Z" } : Jvm.MethodName), Cond.code ({ cls := "AnyOrder$Closure", name := "isSame", desc := "(I[J)Z" } : Jvm.MethodName) prog_2_method_16_code (4 : Nat) (Option.some Jvm.ClassFile.FieldType.boolean), Cond.methodLink "AnyOrder$Closure" (103 : Nat) ({ cls := "java/lang/System", name := "arraycopy", desc := "(Ljava/lang/Object;ILjava/lang/Object;II)V" } : Jvm.MethodName), Cond.methodLink "AnyOrder$Closure" (73 : Nat) ({ cls := "AnyOrder$Closure", name := "extendByLetters", desc := "(I)Z" } : Jvm.MethodName), Cond.privateMethod ({ cls := "AnyOrder$Closure", name := "extendByLetters", desc := "(I)Z" } : Jvm.MethodName), Cond.instanceMethod ({ cls := "AnyOrder$Closure", name := "extendByLetters", desc := "(I)Z" } : Jvm.MethodName), Cond.code ({ cls := "AnyOrder$Closure", name := "extendByLetters", desc := "(I)Z" } : Jvm.MethodName) prog_2_method_11_code (3 : Nat) (Option.some Jvm.ClassFile.FieldType.boolean), Cond.methodLink "AnyOrder$Closure" (91 : Nat) ({ cls := "AnyOrder$Closure", name := "load", desc := "(I[J)V" } : Jvm.MethodName), Cond.privateMethod ({ cls := "AnyOrder$Closure", name := "load", desc := "(I[J)V" } : Jvm.MethodName)]
set_option maxRecDepth 20000 in
theorem TDe_12 : TD_12 = (tables_1.drop 576).take 48 := rfl
set_option maxRecDepth 20000 in
theorem tw_576 : (Cond.selects "AnyOrder" ({ cls := "AnyOrder", name := "close", desc := "()I" } : Jvm.MethodName) ({ cls := "AnyOrder", name := "close", desc := "()I" } : Jvm.MethodName) : Cond) ∈ TB := TB_d TDe_12 0 rfl rfl
set_option maxRecDepth 20000 in
theorem tw_577 : (Cond.code ({ cls := "AnyOrder", name := "close", desc := "()I" } : Jvm.MethodName) prog_1_method_12_code (1 : Nat) (Option.some Jvm.ClassFile.FieldType.int) : Cond) ∈ TB := TB_d TDe_12 1 rfl rfl
set_option maxRecDepth 20000 in
theorem tw_578 : (Cond.methodLink "AnyOrder" (157 : Nat) ({ cls := "AnyOrder$Closure", name := "search", desc := "()I" } : Jvm.MethodName) : Cond) ∈ TB := TB_d TDe_12 2 rfl rfl
set_option maxRecDepth 20000 in
theorem tw_579 : (Cond.instanceMethod ({ cls := "AnyOrder$Closure", name := "search", desc := "()I" } : Jvm.MethodName) : Cond) ∈ TB := TB_d TDe_12 3 rfl rfl
set_option maxRecDepth 20000 in
theorem tw_580 : (Cond.selects "AnyOrder$Closure" ({ cls := "AnyOrder$Closure", name := "search", desc := "()I" } : Jvm.MethodName) ({ cls := "AnyOrder$Closure", name := "search", desc := "()I" } : Jvm.MethodName) : Cond) ∈ TB := TB_d TDe_12 4 rfl rfl
set_option maxRecDepth 20000 in
theorem tw_581 : (Cond.code ({ cls := "AnyOrder$Closure", name := "search", desc := "()I" } : Jvm.MethodName) prog_2_method_5_code (1 : Nat) (Option.some Jvm.ClassFile.FieldType.int) : Cond) ∈ TB := TB_d TDe_12 5 rfl rfl
set_option maxRecDepth 20000 in
theorem tw_582 : (Cond.methodLink "AnyOrder$Closure" (36 : Nat) ({ cls := "AnyOrder$Closure", name := "findAll", desc := "()Z" } : Jvm.MethodName) : Cond) ∈ TB := TB_d TDe_12 6 rfl rfl
set_option maxRecDepth 20000 in
theorem tw_584 : (Cond.instanceMethod ({ cls := "AnyOrder$Closure", name := "findAll", desc := "()Z" } : Jvm.MethodName) : Cond) ∈ TB := TB_d TDe_12 8 rfl rfl
set_option maxRecDepth 20000 in
theorem tw_585 : (Cond.code ({ cls := "AnyOrder$Closure", name := "findAll", desc := "()Z" } : Jvm.MethodName) prog_2_method_9_code (2 : Nat) (Option.some Jvm.ClassFile.FieldType.boolean) : Cond) ∈ TB := TB_d TDe_12 9 rfl rfl
set_option maxRecDepth 20000 in
theorem tw_586 : (Cond.methodLink "AnyOrder$Closure" (57 : Nat) ({ cls := "AnyOrder$Closure", name := "prepareRows", desc := "()V" } : Jvm.MethodName) : Cond) ∈ TB := TB_d TDe_12 10 rfl rfl
set_option maxRecDepth 20000 in
theorem tw_588 : (Cond.instanceMethod ({ cls := "AnyOrder$Closure", name := "prepareRows", desc := "()V" } : Jvm.MethodName) : Cond) ∈ TB := TB_d TDe_12 12 rfl rfl
set_option maxRecDepth 20000 in
theorem tw_589 : (Cond.code ({ cls := "AnyOrder$Closure", name := "prepareRows", desc := "()V" } : Jvm.MethodName) prog_2_method_10_code (1 : Nat) (Option.none : Option Jvm.ClassFile.FieldType) : Cond) ∈ TB := TB_d TDe_12 13 rfl rfl
set_option maxRecDepth 20000 in
theorem tw_590 : (Cond.methodLink "AnyOrder$Closure" (80 : Nat) ({ cls := "java/util/Arrays", name := "fill", desc := "([II)V" } : Jvm.MethodName) : Cond) ∈ TB := TB_d TDe_12 14 rfl rfl
set_option maxRecDepth 20000 in
theorem tw_591 : (Cond.methodLink "AnyOrder$Closure" (86 : Nat) ({ cls := "AnyOrder$Tables", name := "cellCount", desc := "()I" } : Jvm.MethodName) : Cond) ∈ TB := TB_d TDe_12 15 rfl rfl
set_option maxRecDepth 20000 in
theorem tw_592 : (Cond.methodLink "AnyOrder$Closure" (60 : Nat) ({ cls := "AnyOrder$Tables", name := "count", desc := "()I" } : Jvm.MethodName) : Cond) ∈ TB := TB_d TDe_12 16 rfl rfl
set_option maxRecDepth 20000 in
theorem tw_593 : (Cond.methodLink "AnyOrder$Closure" (65 : Nat) ({ cls := "AnyOrder$Tables", name := "rowOf", desc := "(I)[J" } : Jvm.MethodName) : Cond) ∈ TB := TB_d TDe_12 17 rfl rfl
set_option maxRecDepth 20000 in
theorem tw_594 : (Cond.methodLink "AnyOrder$Closure" (69 : Nat) ({ cls := "AnyOrder$Closure", name := "take", desc := "([JI)Z" } : Jvm.MethodName) : Cond) ∈ TB := TB_d TDe_12 18 rfl rfl
set_option maxRecDepth 20000 in
theorem tw_596 : (Cond.instanceMethod ({ cls := "AnyOrder$Closure", name := "take", desc := "([JI)Z" } : Jvm.MethodName) : Cond) ∈ TB := TB_d TDe_12 20 rfl rfl
set_option maxRecDepth 20000 in
theorem tw_597 : (Cond.code ({ cls := "AnyOrder$Closure", name := "take", desc := "([JI)Z" } : Jvm.MethodName) prog_2_method_12_code (4 : Nat) (Option.some Jvm.ClassFile.FieldType.boolean) : Cond) ∈ TB := TB_d TDe_12 21 rfl rfl
set_option maxRecDepth 20000 in
theorem tw_598 : (Cond.methodLink "AnyOrder$Closure" (99 : Nat) ({ cls := "AnyOrder$Closure", name := "isBeyond", desc := "([J)Z" } : Jvm.MethodName) : Cond) ∈ TB := TB_d TDe_12 22 rfl rfl
set_option maxRecDepth 20000 in
theorem tw_600 : (Cond.instanceMethod ({ cls := "AnyOrder$Closure", name := "isBeyond", desc := "([J)Z" } : Jvm.MethodName) : Cond) ∈ TB := TB_d TDe_12 24 rfl rfl
set_option maxRecDepth 20000 in
theorem tw_601 : (Cond.code ({ cls := "AnyOrder$Closure", name := "isBeyond", desc := "([J)Z" } : Jvm.MethodName) prog_2_method_13_code (3 : Nat) (Option.some Jvm.ClassFile.FieldType.boolean) : Cond) ∈ TB := TB_d TDe_12 25 rfl rfl
set_option maxRecDepth 20000 in
theorem tw_602 : (Cond.methodLink "AnyOrder$Closure" (109 : Nat) ({ cls := "java/lang/Math", name := "abs", desc := "(J)J" } : Jvm.MethodName) : Cond) ∈ TB := TB_d TDe_12 26 rfl rfl
set_option maxRecDepth 20000 in
theorem tw_603 : (Cond.constantLong "AnyOrder$Closure" (115 : Nat) (1000000 : Int64) : Cond) ∈ TB := TB_d TDe_12 27 rfl rfl
set_option maxRecDepth 20000 in
theorem tw_604 : (Cond.methodLink "AnyOrder$Closure" (50 : Nat) ({ cls := "AnyOrder$Closure", name := "slotOf", desc := "([J)I" } : Jvm.MethodName) : Cond) ∈ TB := TB_d TDe_12 28 rfl rfl
set_option maxRecDepth 20000 in
theorem tw_606 : (Cond.instanceMethod ({ cls := "AnyOrder$Closure", name := "slotOf", desc := "([J)I" } : Jvm.MethodName) : Cond) ∈ TB := TB_d TDe_12 30 rfl rfl
set_option maxRecDepth 20000 in
theorem tw_607 : (Cond.code ({ cls := "AnyOrder$Closure", name := "slotOf", desc := "([J)I" } : Jvm.MethodName) prog_2_method_14_code (4 : Nat) (Option.some Jvm.ClassFile.FieldType.int) : Cond) ∈ TB := TB_d TDe_12 31 rfl rfl
set_option maxRecDepth 20000 in
theorem tw_608 : (Cond.methodLink "AnyOrder$Closure" (117 : Nat) ({ cls := "AnyOrder$Closure", name := "firstSlotOf", desc := "([J)I" } : Jvm.MethodName) : Cond) ∈ TB := TB_d TDe_12 32 rfl rfl
set_option maxRecDepth 20000 in
theorem tw_610 : (Cond.instanceMethod ({ cls := "AnyOrder$Closure", name := "firstSlotOf", desc := "([J)I" } : Jvm.MethodName) : Cond) ∈ TB := TB_d TDe_12 34 rfl rfl
set_option maxRecDepth 20000 in
theorem tw_611 : (Cond.code ({ cls := "AnyOrder$Closure", name := "firstSlotOf", desc := "([J)I" } : Jvm.MethodName) prog_2_method_15_code (4 : Nat) (Option.some Jvm.ClassFile.FieldType.int) : Cond) ∈ TB := TB_d TDe_12 35 rfl rfl
set_option maxRecDepth 20000 in
theorem tw_612 : (Cond.constant "AnyOrder$Closure" (124 : Nat) (1000003 : Int32) : Cond) ∈ TB := TB_d TDe_12 36 rfl rfl
set_option maxRecDepth 20000 in
theorem tw_613 : (Cond.methodLink "AnyOrder$Closure" (120 : Nat) ({ cls := "AnyOrder$Closure", name := "isSame", desc := "(I[J)Z" } : Jvm.MethodName) : Cond) ∈ TB := TB_d TDe_12 37 rfl rfl
set_option maxRecDepth 20000 in
theorem tw_615 : (Cond.instanceMethod ({ cls := "AnyOrder$Closure", name := "isSame", desc := "(I[J)Z" } : Jvm.MethodName) : Cond) ∈ TB := TB_d TDe_12 39 rfl rfl
set_option maxRecDepth 20000 in
theorem tw_616 : (Cond.code ({ cls := "AnyOrder$Closure", name := "isSame", desc := "(I[J)Z" } : Jvm.MethodName) prog_2_method_16_code (4 : Nat) (Option.some Jvm.ClassFile.FieldType.boolean) : Cond) ∈ TB := TB_d TDe_12 40 rfl rfl
set_option maxRecDepth 20000 in
theorem tw_617 : (Cond.methodLink "AnyOrder$Closure" (103 : Nat) ({ cls := "java/lang/System", name := "arraycopy", desc := "(Ljava/lang/Object;ILjava/lang/Object;II)V" } : Jvm.MethodName) : Cond) ∈ TB := TB_d TDe_12 41 rfl rfl
set_option maxRecDepth 20000 in
theorem tw_618 : (Cond.methodLink "AnyOrder$Closure" (73 : Nat) ({ cls := "AnyOrder$Closure", name := "extendByLetters", desc := "(I)Z" } : Jvm.MethodName) : Cond) ∈ TB := TB_d TDe_12 42 rfl rfl
set_option maxRecDepth 20000 in
theorem tw_620 : (Cond.instanceMethod ({ cls := "AnyOrder$Closure", name := "extendByLetters", desc := "(I)Z" } : Jvm.MethodName) : Cond) ∈ TB := TB_d TDe_12 44 rfl rfl
set_option maxRecDepth 20000 in
theorem tw_621 : (Cond.code ({ cls := "AnyOrder$Closure", name := "extendByLetters", desc := "(I)Z" } : Jvm.MethodName) prog_2_method_11_code (3 : Nat) (Option.some Jvm.ClassFile.FieldType.boolean) : Cond) ∈ TB := TB_d TDe_12 45 rfl rfl
set_option maxRecDepth 20000 in
theorem tw_622 : (Cond.methodLink "AnyOrder$Closure" (91 : Nat) ({ cls := "AnyOrder$Closure", name := "load", desc := "(I[J)V" } : Jvm.MethodName) : Cond) ∈ TB := TB_d TDe_12 46 rfl rfl
def TD_13 : List Cond := [Cond.instanceMethod ({ cls := "AnyOrder$Closure", name := "load", desc := "(I[J)V" } : Jvm.MethodName), Cond.code ({ cls := "AnyOrder$Closure", name := "load", desc := "(I[J)V" } : Jvm.MethodName) prog_2_method_17_code (3 : Nat) (Option.none : Option Jvm.ClassFile.FieldType), Cond.methodLink "AnyOrder$Closure" (95 : Nat) ({ cls := "AnyOrder$Tables", name := "multiply", desc := "([J[J[J)V" } : Jvm.MethodName), Cond.methodLink "AnyOrder$Closure" (77 : Nat) ({ cls := "AnyOrder$Closure", name := "sumUp", desc := "()V" } : Jvm.MethodName), Cond.privateMethod ({ cls := "AnyOrder$Closure", name := "sumUp", desc := "()V" } : Jvm.MethodName), Cond.instanceMethod ({ cls := "AnyOrder$Closure", name := "sumUp", desc := "()V" } : Jvm.MethodName), Cond.code ({ cls := "AnyOrder$Closure", name := "sumUp", desc := "()V" } : Jvm.MethodName) prog_2_method_19_code (2 : Nat) (Option.none : Option Jvm.ClassFile.FieldType), Cond.methodLink "AnyOrder$Closure" (46 : Nat) ({ cls := "AnyOrder$Closure", name := "multiplyNumbered", desc := "(II)V" } : Jvm.MethodName), Cond.privateMethod ({ cls := "AnyOrder$Closure", name := "multiplyNumbered", desc := "(II)V" } : Jvm.MethodName), Cond.instanceMethod ({ cls := "AnyOrder$Closure", name := "multiplyNumbered", desc := "(II)V" } : Jvm.MethodName), Cond.code ({ cls := "AnyOrder$Closure", name := "multiplyNumbered", desc := "(II)V" } : Jvm.MethodName) prog_2_method_18_code (3 : Nat) (Option.none : Option Jvm.ClassFile.FieldType), Cond.methodLink "AnyOrder$Closure" (135 : Nat) ({ cls := "AnyOrder$Tables", name := "isUnit", desc := "([J)Z" } : Jvm.MethodName), Cond.instanceMethod ({ cls := "AnyOrder$Tables", name := "isUnit", desc := "([J)Z" } : Jvm.MethodName), Cond.selects "AnyOrder$Tables" ({ cls := "AnyOrder$Tables", name := "isUnit", desc := "([J)Z" } : Jvm.MethodName) ({ cls := "AnyOrder$Tables", name := "isUnit", desc := "([J)Z" } : Jvm.MethodName), Cond.code ({ cls := "AnyOrder$Tables", name := "isUnit", desc := "([J)Z" } : Jvm.MethodName) prog_10_method_27_code (4 : Nat) (Option.some Jvm.ClassFile.FieldType.boolean), Cond.methodLink "AnyOrder$Closure" (138 : Nat) ({ cls := "AnyOrder$Tables", name := "norm", desc := "([J)J" } : Jvm.MethodName), Cond.methodLink "AnyOrderLaw" (65 : Nat) ({ cls := "AnyOrder", name := "closed", desc := "(I)I" } : Jvm.MethodName), Cond.instanceMethod ({ cls := "AnyOrder", name := "closed", desc := "(I)I" } : Jvm.MethodName), Cond.selects "AnyOrder" ({ cls := "AnyOrder", name := "closed", desc := "(I)I" } : Jvm.MethodName) ({ cls := "AnyOrder", name := "closed", desc := "(I)I" } : Jvm.MethodName), Cond.code ({ cls := "AnyOrder", name := "closed", desc := "(I)I" } : Jvm.MethodName) prog_1_method_13_code (2 : Nat) (Option.some Jvm.ClassFile.FieldType.int), Cond.methodLink "AnyOrder" (160 : Nat) ({ cls := "AnyOrder$Closure", name := "isFound", desc := "()Z" } : Jvm.MethodName), Cond.instanceMethod ({ cls := "AnyOrder$Closure", name := "isFound", desc := "()Z" } : Jvm.MethodName), Cond.selects "AnyOrder$Closure" ({ cls := "AnyOrder$Closure", name := "isFound", desc := "()Z" } : Jvm.MethodName) ({ cls := "AnyOrder$Closure", name := "isFound", desc := "()Z" } : Jvm.MethodName), Cond.code ({ cls := "AnyOrder$Closure", name := "isFound", desc := "()Z" } : Jvm.MethodName) prog_2_method_3_code (1 : Nat) (Option.some Jvm.ClassFile.FieldType.boolean), Cond.methodLink "AnyOrder" (176 : Nat) ({ cls := "AnyOrder$Closure", name := "lastWordLength", desc := "()I" } : Jvm.MethodName), Cond.instanceMethod ({ cls := "AnyOrder$Closure", name := "lastWordLength", desc := "()I" } : Jvm.MethodName), Cond.selects "AnyOrder$Closure" ({ cls := "AnyOrder$Closure", name := "lastWordLength", desc := "()I" } : Jvm.MethodName) ({ cls := "AnyOrder$Closure", name := "lastWordLength", desc := "()I" } : Jvm.MethodName), Cond.code ({ cls := "AnyOrder$Closure", name := "lastWordLength", desc := "()I" } : Jvm.MethodName) prog_2_method_7_code (1 : Nat) (Option.some Jvm.ClassFile.FieldType.int), Cond.methodLink "AnyOrderLaw" (69 : Nat) ({ cls := "AnyOrder", name := "product", desc := "(III)J" } : Jvm.MethodName), Cond.instanceMethod ({ cls := "AnyOrder", name := "product", desc := "(III)J" } : Jvm.MethodName), Cond.selects "AnyOrder" ({ cls := "AnyOrder", name := "product", desc := "(III)J" } : Jvm.MethodName) ({ cls := "AnyOrder", name := "product", desc := "(III)J" } : Jvm.MethodName), Cond.code ({ cls := "AnyOrder", name := "product", desc := "(III)J" } : Jvm.MethodName) prog_1_method_14_code (4 : Nat) (Option.some Jvm.ClassFile.FieldType.long), Cond.methodLink "AnyOrder" (179 : Nat) ({ cls := "AnyOrder$Closure", name := "has", desc := "(I)Z" } : Jvm.MethodName), Cond.instanceMethod ({ cls := "AnyOrder$Closure", name := "has", desc := "(I)Z" } : Jvm.MethodName), Cond.selects "AnyOrder$Closure" ({ cls := "AnyOrder$Closure", name := "has", desc := "(I)Z" } : Jvm.MethodName) ({ cls := "AnyOrder$Closure", name := "has", desc := "(I)Z" } : Jvm.MethodName), Cond.code ({ cls := "AnyOrder$Closure", name := "has", desc := "(I)Z" } : Jvm.MethodName) prog_2_method_4_code (2 : Nat) (Option.some Jvm.ClassFile.FieldType.boolean), Cond.methodLink "AnyOrder$Closure" (29 : Nat) ({ cls := "AnyOrder$Closure", name := "isFound", desc := "()Z" } : Jvm.MethodName), Cond.methodLink "AnyOrder" (180 : Nat) ({ cls := "AnyOrder$Closure", name := "entryAt", desc := "(II)J" } : Jvm.MethodName), Cond.instanceMethod ({ cls := "AnyOrder$Closure", name := "entryAt", desc := "(II)J" } : Jvm.MethodName), Cond.selects "AnyOrder$Closure" ({ cls := "AnyOrder$Closure", name := "entryAt", desc := "(II)J" } : Jvm.MethodName) ({ cls := "AnyOrder$Closure", name := "entryAt", desc := "(II)J" } : Jvm.MethodName), Cond.code ({ cls := "AnyOrder$Closure", name := "entryAt", desc := "(II)J" } : Jvm.MethodName) prog_2_method_6_code (3 : Nat) (Option.some Jvm.ClassFile.FieldType.long), Cond.methodLink "AnyOrderLaw" (73 : Nat) ({ cls := "AnyOrder", name := "times", desc := "(II)I" } : Jvm.MethodName), Cond.instanceMethod ({ cls := "AnyOrder", name := "times", desc := "(II)I" } : Jvm.MethodName), Cond.selects "AnyOrder" ({ cls := "AnyOrder", name := "times", desc := "(II)I" } : Jvm.MethodName) ({ cls := "AnyOrder", name := "times", desc := "(II)I" } : Jvm.MethodName), Cond.code ({ cls := "AnyOrder", name := "times", desc := "(II)I" } : Jvm.MethodName) prog_1_method_15_code (3 : Nat) (Option.some Jvm.ClassFile.FieldType.int), Cond.methodLink "AnyOrder" (184 : Nat) ({ cls := "AnyOrder$Closure", name := "numberOfProduct", desc := "(II)I" } : Jvm.MethodName), Cond.instanceMethod ({ cls := "AnyOrder$Closure", name := "numberOfProduct", desc := "(II)I" } : Jvm.MethodName), Cond.selects "AnyOrder$Closure" ({ cls := "AnyOrder$Closure", name := "numberOfProduct", desc := "(II)I" } : Jvm.MethodName) ({ cls := "AnyOrder$Closure", name := "numberOfProduct", desc := "(II)I" } : Jvm.MethodName)]
set_option maxRecDepth 20000 in
theorem TDe_13 : TD_13 = (tables_1.drop 624).take 48 := rfl
set_option maxRecDepth 20000 in
theorem tw_624 : (Cond.instanceMethod ({ cls := "AnyOrder$Closure", name := "load", desc := "(I[J)V" } : Jvm.MethodName) : Cond) ∈ TB := TB_d TDe_13 0 rfl rfl
set_option maxRecDepth 20000 in
theorem tw_625 : (Cond.code ({ cls := "AnyOrder$Closure", name := "load", desc := "(I[J)V" } : Jvm.MethodName) prog_2_method_17_code (3 : Nat) (Option.none : Option Jvm.ClassFile.FieldType) : Cond) ∈ TB := TB_d TDe_13 1 rfl rfl
set_option maxRecDepth 20000 in
theorem tw_626 : (Cond.methodLink "AnyOrder$Closure" (95 : Nat) ({ cls := "AnyOrder$Tables", name := "multiply", desc := "([J[J[J)V" } : Jvm.MethodName) : Cond) ∈ TB := TB_d TDe_13 2 rfl rfl
set_option maxRecDepth 20000 in
theorem tw_627 : (Cond.methodLink "AnyOrder$Closure" (77 : Nat) ({ cls := "AnyOrder$Closure", name := "sumUp", desc := "()V" } : Jvm.MethodName) : Cond) ∈ TB := TB_d TDe_13 3 rfl rfl
set_option maxRecDepth 20000 in
theorem tw_629 : (Cond.instanceMethod ({ cls := "AnyOrder$Closure", name := "sumUp", desc := "()V" } : Jvm.MethodName) : Cond) ∈ TB := TB_d TDe_13 5 rfl rfl
set_option maxRecDepth 20000 in
theorem tw_630 : (Cond.code ({ cls := "AnyOrder$Closure", name := "sumUp", desc := "()V" } : Jvm.MethodName) prog_2_method_19_code (2 : Nat) (Option.none : Option Jvm.ClassFile.FieldType) : Cond) ∈ TB := TB_d TDe_13 6 rfl rfl
set_option maxRecDepth 20000 in
theorem tw_631 : (Cond.methodLink "AnyOrder$Closure" (46 : Nat) ({ cls := "AnyOrder$Closure", name := "multiplyNumbered", desc := "(II)V" } : Jvm.MethodName) : Cond) ∈ TB := TB_d TDe_13 7 rfl rfl
set_option maxRecDepth 20000 in
theorem tw_633 : (Cond.instanceMethod ({ cls := "AnyOrder$Closure", name := "multiplyNumbered", desc := "(II)V" } : Jvm.MethodName) : Cond) ∈ TB := TB_d TDe_13 9 rfl rfl
set_option maxRecDepth 20000 in
theorem tw_634 : (Cond.code ({ cls := "AnyOrder$Closure", name := "multiplyNumbered", desc := "(II)V" } : Jvm.MethodName) prog_2_method_18_code (3 : Nat) (Option.none : Option Jvm.ClassFile.FieldType) : Cond) ∈ TB := TB_d TDe_13 10 rfl rfl
set_option maxRecDepth 20000 in
theorem tw_635 : (Cond.methodLink "AnyOrder$Closure" (135 : Nat) ({ cls := "AnyOrder$Tables", name := "isUnit", desc := "([J)Z" } : Jvm.MethodName) : Cond) ∈ TB := TB_d TDe_13 11 rfl rfl
set_option maxRecDepth 20000 in
theorem tw_636 : (Cond.instanceMethod ({ cls := "AnyOrder$Tables", name := "isUnit", desc := "([J)Z" } : Jvm.MethodName) : Cond) ∈ TB := TB_d TDe_13 12 rfl rfl
set_option maxRecDepth 20000 in
theorem tw_637 : (Cond.selects "AnyOrder$Tables" ({ cls := "AnyOrder$Tables", name := "isUnit", desc := "([J)Z" } : Jvm.MethodName) ({ cls := "AnyOrder$Tables", name := "isUnit", desc := "([J)Z" } : Jvm.MethodName) : Cond) ∈ TB := TB_d TDe_13 13 rfl rfl
set_option maxRecDepth 20000 in
theorem tw_638 : (Cond.code ({ cls := "AnyOrder$Tables", name := "isUnit", desc := "([J)Z" } : Jvm.MethodName) prog_10_method_27_code (4 : Nat) (Option.some Jvm.ClassFile.FieldType.boolean) : Cond) ∈ TB := TB_d TDe_13 14 rfl rfl
set_option maxRecDepth 20000 in
theorem tw_639 : (Cond.methodLink "AnyOrder$Closure" (138 : Nat) ({ cls := "AnyOrder$Tables", name := "norm", desc := "([J)J" } : Jvm.MethodName) : Cond) ∈ TB := TB_d TDe_13 15 rfl rfl
set_option maxRecDepth 20000 in
theorem tw_640 : (Cond.methodLink "AnyOrderLaw" (65 : Nat) ({ cls := "AnyOrder", name := "closed", desc := "(I)I" } : Jvm.MethodName) : Cond) ∈ TB := TB_d TDe_13 16 rfl rfl
set_option maxRecDepth 20000 in
theorem tw_641 : (Cond.instanceMethod ({ cls := "AnyOrder", name := "closed", desc := "(I)I" } : Jvm.MethodName) : Cond) ∈ TB := TB_d TDe_13 17 rfl rfl
set_option maxRecDepth 20000 in
theorem tw_642 : (Cond.selects "AnyOrder" ({ cls := "AnyOrder", name := "closed", desc := "(I)I" } : Jvm.MethodName) ({ cls := "AnyOrder", name := "closed", desc := "(I)I" } : Jvm.MethodName) : Cond) ∈ TB := TB_d TDe_13 18 rfl rfl
set_option maxRecDepth 20000 in
theorem tw_643 : (Cond.code ({ cls := "AnyOrder", name := "closed", desc := "(I)I" } : Jvm.MethodName) prog_1_method_13_code (2 : Nat) (Option.some Jvm.ClassFile.FieldType.int) : Cond) ∈ TB := TB_d TDe_13 19 rfl rfl
set_option maxRecDepth 20000 in
theorem tw_644 : (Cond.methodLink "AnyOrder" (160 : Nat) ({ cls := "AnyOrder$Closure", name := "isFound", desc := "()Z" } : Jvm.MethodName) : Cond) ∈ TB := TB_d TDe_13 20 rfl rfl
set_option maxRecDepth 20000 in
theorem tw_645 : (Cond.instanceMethod ({ cls := "AnyOrder$Closure", name := "isFound", desc := "()Z" } : Jvm.MethodName) : Cond) ∈ TB := TB_d TDe_13 21 rfl rfl
set_option maxRecDepth 20000 in
theorem tw_646 : (Cond.selects "AnyOrder$Closure" ({ cls := "AnyOrder$Closure", name := "isFound", desc := "()Z" } : Jvm.MethodName) ({ cls := "AnyOrder$Closure", name := "isFound", desc := "()Z" } : Jvm.MethodName) : Cond) ∈ TB := TB_d TDe_13 22 rfl rfl
set_option maxRecDepth 20000 in
theorem tw_647 : (Cond.code ({ cls := "AnyOrder$Closure", name := "isFound", desc := "()Z" } : Jvm.MethodName) prog_2_method_3_code (1 : Nat) (Option.some Jvm.ClassFile.FieldType.boolean) : Cond) ∈ TB := TB_d TDe_13 23 rfl rfl
set_option maxRecDepth 20000 in
theorem tw_648 : (Cond.methodLink "AnyOrder" (176 : Nat) ({ cls := "AnyOrder$Closure", name := "lastWordLength", desc := "()I" } : Jvm.MethodName) : Cond) ∈ TB := TB_d TDe_13 24 rfl rfl
set_option maxRecDepth 20000 in
theorem tw_649 : (Cond.instanceMethod ({ cls := "AnyOrder$Closure", name := "lastWordLength", desc := "()I" } : Jvm.MethodName) : Cond) ∈ TB := TB_d TDe_13 25 rfl rfl
set_option maxRecDepth 20000 in
theorem tw_650 : (Cond.selects "AnyOrder$Closure" ({ cls := "AnyOrder$Closure", name := "lastWordLength", desc := "()I" } : Jvm.MethodName) ({ cls := "AnyOrder$Closure", name := "lastWordLength", desc := "()I" } : Jvm.MethodName) : Cond) ∈ TB := TB_d TDe_13 26 rfl rfl
set_option maxRecDepth 20000 in
theorem tw_651 : (Cond.code ({ cls := "AnyOrder$Closure", name := "lastWordLength", desc := "()I" } : Jvm.MethodName) prog_2_method_7_code (1 : Nat) (Option.some Jvm.ClassFile.FieldType.int) : Cond) ∈ TB := TB_d TDe_13 27 rfl rfl
set_option maxRecDepth 20000 in
theorem tw_652 : (Cond.methodLink "AnyOrderLaw" (69 : Nat) ({ cls := "AnyOrder", name := "product", desc := "(III)J" } : Jvm.MethodName) : Cond) ∈ TB := TB_d TDe_13 28 rfl rfl
set_option maxRecDepth 20000 in
theorem tw_653 : (Cond.instanceMethod ({ cls := "AnyOrder", name := "product", desc := "(III)J" } : Jvm.MethodName) : Cond) ∈ TB := TB_d TDe_13 29 rfl rfl
set_option maxRecDepth 20000 in
theorem tw_654 : (Cond.selects "AnyOrder" ({ cls := "AnyOrder", name := "product", desc := "(III)J" } : Jvm.MethodName) ({ cls := "AnyOrder", name := "product", desc := "(III)J" } : Jvm.MethodName) : Cond) ∈ TB := TB_d TDe_13 30 rfl rfl
set_option maxRecDepth 20000 in
theorem tw_655 : (Cond.code ({ cls := "AnyOrder", name := "product", desc := "(III)J" } : Jvm.MethodName) prog_1_method_14_code (4 : Nat) (Option.some Jvm.ClassFile.FieldType.long) : Cond) ∈ TB := TB_d TDe_13 31 rfl rfl
set_option maxRecDepth 20000 in
theorem tw_656 : (Cond.methodLink "AnyOrder" (179 : Nat) ({ cls := "AnyOrder$Closure", name := "has", desc := "(I)Z" } : Jvm.MethodName) : Cond) ∈ TB := TB_d TDe_13 32 rfl rfl
set_option maxRecDepth 20000 in
theorem tw_657 : (Cond.instanceMethod ({ cls := "AnyOrder$Closure", name := "has", desc := "(I)Z" } : Jvm.MethodName) : Cond) ∈ TB := TB_d TDe_13 33 rfl rfl
set_option maxRecDepth 20000 in
theorem tw_658 : (Cond.selects "AnyOrder$Closure" ({ cls := "AnyOrder$Closure", name := "has", desc := "(I)Z" } : Jvm.MethodName) ({ cls := "AnyOrder$Closure", name := "has", desc := "(I)Z" } : Jvm.MethodName) : Cond) ∈ TB := TB_d TDe_13 34 rfl rfl
set_option maxRecDepth 20000 in
theorem tw_659 : (Cond.code ({ cls := "AnyOrder$Closure", name := "has", desc := "(I)Z" } : Jvm.MethodName) prog_2_method_4_code (2 : Nat) (Option.some Jvm.ClassFile.FieldType.boolean) : Cond) ∈ TB := TB_d TDe_13 35 rfl rfl
set_option maxRecDepth 20000 in
theorem tw_660 : (Cond.methodLink "AnyOrder$Closure" (29 : Nat) ({ cls := "AnyOrder$Closure", name := "isFound", desc := "()Z" } : Jvm.MethodName) : Cond) ∈ TB := TB_d TDe_13 36 rfl rfl
set_option maxRecDepth 20000 in
theorem tw_661 : (Cond.methodLink "AnyOrder" (180 : Nat) ({ cls := "AnyOrder$Closure", name := "entryAt", desc := "(II)J" } : Jvm.MethodName) : Cond) ∈ TB := TB_d TDe_13 37 rfl rfl
set_option maxRecDepth 20000 in
theorem tw_662 : (Cond.instanceMethod ({ cls := "AnyOrder$Closure", name := "entryAt", desc := "(II)J" } : Jvm.MethodName) : Cond) ∈ TB := TB_d TDe_13 38 rfl rfl
set_option maxRecDepth 20000 in
theorem tw_663 : (Cond.selects "AnyOrder$Closure" ({ cls := "AnyOrder$Closure", name := "entryAt", desc := "(II)J" } : Jvm.MethodName) ({ cls := "AnyOrder$Closure", name := "entryAt", desc := "(II)J" } : Jvm.MethodName) : Cond) ∈ TB := TB_d TDe_13 39 rfl rfl
set_option maxRecDepth 20000 in
theorem tw_664 : (Cond.code ({ cls := "AnyOrder$Closure", name := "entryAt", desc := "(II)J" } : Jvm.MethodName) prog_2_method_6_code (3 : Nat) (Option.some Jvm.ClassFile.FieldType.long) : Cond) ∈ TB := TB_d TDe_13 40 rfl rfl
set_option maxRecDepth 20000 in
theorem tw_665 : (Cond.methodLink "AnyOrderLaw" (73 : Nat) ({ cls := "AnyOrder", name := "times", desc := "(II)I" } : Jvm.MethodName) : Cond) ∈ TB := TB_d TDe_13 41 rfl rfl
set_option maxRecDepth 20000 in
theorem tw_666 : (Cond.instanceMethod ({ cls := "AnyOrder", name := "times", desc := "(II)I" } : Jvm.MethodName) : Cond) ∈ TB := TB_d TDe_13 42 rfl rfl
set_option maxRecDepth 20000 in
theorem tw_667 : (Cond.selects "AnyOrder" ({ cls := "AnyOrder", name := "times", desc := "(II)I" } : Jvm.MethodName) ({ cls := "AnyOrder", name := "times", desc := "(II)I" } : Jvm.MethodName) : Cond) ∈ TB := TB_d TDe_13 43 rfl rfl
set_option maxRecDepth 20000 in
theorem tw_668 : (Cond.code ({ cls := "AnyOrder", name := "times", desc := "(II)I" } : Jvm.MethodName) prog_1_method_15_code (3 : Nat) (Option.some Jvm.ClassFile.FieldType.int) : Cond) ∈ TB := TB_d TDe_13 44 rfl rfl
set_option maxRecDepth 20000 in
theorem tw_669 : (Cond.methodLink "AnyOrder" (184 : Nat) ({ cls := "AnyOrder$Closure", name := "numberOfProduct", desc := "(II)I" } : Jvm.MethodName) : Cond) ∈ TB := TB_d TDe_13 45 rfl rfl
set_option maxRecDepth 20000 in
theorem tw_670 : (Cond.instanceMethod ({ cls := "AnyOrder$Closure", name := "numberOfProduct", desc := "(II)I" } : Jvm.MethodName) : Cond) ∈ TB := TB_d TDe_13 46 rfl rfl
set_option maxRecDepth 20000 in
theorem tw_671 : (Cond.selects "AnyOrder$Closure" ({ cls := "AnyOrder$Closure", name := "numberOfProduct", desc := "(II)I" } : Jvm.MethodName) ({ cls := "AnyOrder$Closure", name := "numberOfProduct", desc := "(II)I" } : Jvm.MethodName) : Cond) ∈ TB := TB_d TDe_13 47 rfl rfl
def TD_14 : List Cond := [Cond.code ({ cls := "AnyOrder$Closure", name := "numberOfProduct", desc := "(II)I" } : Jvm.MethodName) prog_2_method_8_code (4 : Nat) (Option.some Jvm.ClassFile.FieldType.int), Cond.methodLink "AnyOrderLaw" (77 : Nat) ({ cls := "AnyOrder", name := "word", desc := "(IIII)I" } : Jvm.MethodName), Cond.instanceMethod ({ cls := "AnyOrder", name := "word", desc := "(IIII)I" } : Jvm.MethodName), Cond.selects "AnyOrder" ({ cls := "AnyOrder", name := "word", desc := "(IIII)I" } : Jvm.MethodName) ({ cls := "AnyOrder", name := "word", desc := "(IIII)I" } : Jvm.MethodName), Cond.code ({ cls := "AnyOrder", name := "word", desc := "(IIII)I" } : Jvm.MethodName) prog_1_method_16_code (5 : Nat) (Option.some Jvm.ClassFile.FieldType.int), Cond.methodLink "AnyOrder" (187 : Nat) ({ cls := "AnyOrder", name := "keepWord", desc := "(IIII)I" } : Jvm.MethodName), Cond.privateMethod ({ cls := "AnyOrder", name := "keepWord", desc := "(IIII)I" } : Jvm.MethodName), Cond.instanceMethod ({ cls := "AnyOrder", name := "keepWord", desc := "(IIII)I" } : Jvm.MethodName), Cond.code ({ cls := "AnyOrder", name := "keepWord", desc := "(IIII)I" } : Jvm.MethodName) prog_1_method_39_code (9 : Nat) (Option.some Jvm.ClassFile.FieldType.int), Cond.methodLink "AnyOrder" (197 : Nat) ({ cls := "AnyOrder$Word", name := "clear", desc := "()V" } : Jvm.MethodName), Cond.instanceMethod ({ cls := "AnyOrder$Word", name := "clear", desc := "()V" } : Jvm.MethodName), Cond.selects "AnyOrder$Word" ({ cls := "AnyOrder$Word", name := "clear", desc := "()V" } : Jvm.MethodName) ({ cls := "AnyOrder$Word", name := "clear", desc := "()V" } : Jvm.MethodName), Cond.code ({ cls := "AnyOrder$Word", name := "clear", desc := "()V" } : Jvm.MethodName) prog_12_method_2_code (1 : Nat) (Option.none : Option Jvm.ClassFile.FieldType), Cond.methodLink "AnyOrder" (296 : Nat) ({ cls := "AnyOrder$Word", name := "append", desc := "(I)V" } : Jvm.MethodName), Cond.instanceMethod ({ cls := "AnyOrder$Word", name := "append", desc := "(I)V" } : Jvm.MethodName), Cond.selects "AnyOrder$Word" ({ cls := "AnyOrder$Word", name := "append", desc := "(I)V" } : Jvm.MethodName) ({ cls := "AnyOrder$Word", name := "append", desc := "(I)V" } : Jvm.MethodName), Cond.code ({ cls := "AnyOrder$Word", name := "append", desc := "(I)V" } : Jvm.MethodName) prog_12_method_3_code (2 : Nat) (Option.none : Option Jvm.ClassFile.FieldType), Cond.methodLink "AnyOrder" (204 : Nat) ({ cls := "AnyOrder", name := "finishWord", desc := "()I" } : Jvm.MethodName), Cond.privateMethod ({ cls := "AnyOrder", name := "finishWord", desc := "()I" } : Jvm.MethodName), Cond.instanceMethod ({ cls := "AnyOrder", name := "finishWord", desc := "()I" } : Jvm.MethodName), Cond.code ({ cls := "AnyOrder", name := "finishWord", desc := "()I" } : Jvm.MethodName) prog_1_method_40_code (2 : Nat) (Option.some Jvm.ClassFile.FieldType.int), Cond.methodLink "AnyOrder" (300 : Nat) ({ cls := "AnyOrder$Tables", name := "multiplyAll", desc := "([II[J)V" } : Jvm.MethodName), Cond.instanceMethod ({ cls := "AnyOrder$Tables", name := "multiplyAll", desc := "([II[J)V" } : Jvm.MethodName), Cond.selects "AnyOrder$Tables" ({ cls := "AnyOrder$Tables", name := "multiplyAll", desc := "([II[J)V" } : Jvm.MethodName) ({ cls := "AnyOrder$Tables", name := "multiplyAll", desc := "([II[J)V" } : Jvm.MethodName), Cond.code ({ cls := "AnyOrder$Tables", name := "multiplyAll", desc := "([II[J)V" } : Jvm.MethodName) prog_10_method_24_code (5 : Nat) (Option.none : Option Jvm.ClassFile.FieldType), Cond.methodLink "AnyOrder$Tables" (77 : Nat) ({ cls := "java/lang/System", name := "arraycopy", desc := "(Ljava/lang/Object;ILjava/lang/Object;II)V" } : Jvm.MethodName), Cond.methodLink "AnyOrder$Tables" (83 : Nat) ({ cls := "AnyOrder$Tables", name := "multiply", desc := "([J[J[J)V" } : Jvm.MethodName), Cond.methodLink "AnyOrderLaw" (82 : Nat) ({ cls := "AnyOrder", name := "join", desc := "(II)I" } : Jvm.MethodName), Cond.instanceMethod ({ cls := "AnyOrder", name := "join", desc := "(II)I" } : Jvm.MethodName), Cond.selects "AnyOrder" ({ cls := "AnyOrder", name := "join", desc := "(II)I" } : Jvm.MethodName) ({ cls := "AnyOrder", name := "join", desc := "(II)I" } : Jvm.MethodName), Cond.code ({ cls := "AnyOrder", name := "join", desc := "(II)I" } : Jvm.MethodName) prog_1_method_17_code (4 : Nat) (Option.some Jvm.ClassFile.FieldType.int), Cond.methodLink "AnyOrder" (191 : Nat) ({ cls := "AnyOrder", name := "hasWord", desc := "(I)Z" } : Jvm.MethodName), Cond.privateMethod ({ cls := "AnyOrder", name := "hasWord", desc := "(I)Z" } : Jvm.MethodName), Cond.instanceMethod ({ cls := "AnyOrder", name := "hasWord", desc := "(I)Z" } : Jvm.MethodName), Cond.code ({ cls := "AnyOrder", name := "hasWord", desc := "(I)Z" } : Jvm.MethodName) prog_1_method_41_code (2 : Nat) (Option.some Jvm.ClassFile.FieldType.boolean), Cond.methodLink "AnyOrder" (200 : Nat) ({ cls := "AnyOrder$Word", name := "appendAll", desc := "(LAnyOrder$Word;)V" } : Jvm.MethodName), Cond.instanceMethod ({ cls := "AnyOrder$Word", name := "appendAll", desc := "(LAnyOrder$Word;)V" } : Jvm.MethodName), Cond.selects "AnyOrder$Word" ({ cls := "AnyOrder$Word", name := "appendAll", desc := "(LAnyOrder$Word;)V" } : Jvm.MethodName) ({ cls := "AnyOrder$Word", name := "appendAll", desc := "(LAnyOrder$Word;)V" } : Jvm.MethodName), Cond.code ({ cls := "AnyOrder$Word", name := "appendAll", desc := "(LAnyOrder$Word;)V" } : Jvm.MethodName) prog_12_method_4_code (3 : Nat) (Option.none : Option Jvm.ClassFile.FieldType), Cond.methodLink "AnyOrder$Word" (23 : Nat) ({ cls := "AnyOrder$Word", name := "append", desc := "(I)V" } : Jvm.MethodName), Cond.methodLink "AnyOrderLaw" (86 : Nat) ({ cls := "AnyOrder", name := "letter", desc := "(II)I" } : Jvm.MethodName), Cond.instanceMethod ({ cls := "AnyOrder", name := "letter", desc := "(II)I" } : Jvm.MethodName), Cond.selects "AnyOrder" ({ cls := "AnyOrder", name := "letter", desc := "(II)I" } : Jvm.MethodName) ({ cls := "AnyOrder", name := "letter", desc := "(II)I" } : Jvm.MethodName), Cond.code ({ cls := "AnyOrder", name := "letter", desc := "(II)I" } : Jvm.MethodName) prog_1_method_18_code (3 : Nat) (Option.some Jvm.ClassFile.FieldType.int), Cond.methodLink "AnyOrderLaw" (90 : Nat) ({ cls := "AnyOrder", name := "about", desc := "(II)I" } : Jvm.MethodName), Cond.instanceMethod ({ cls := "AnyOrder", name := "about", desc := "(II)I" } : Jvm.MethodName), Cond.selects "AnyOrder" ({ cls := "AnyOrder", name := "about", desc := "(II)I" } : Jvm.MethodName) ({ cls := "AnyOrder", name := "about", desc := "(II)I" } : Jvm.MethodName), Cond.code ({ cls := "AnyOrder", name := "about", desc := "(II)I" } : Jvm.MethodName) prog_1_method_19_code (4 : Nat) (Option.some Jvm.ClassFile.FieldType.int)]
set_option maxRecDepth 20000 in
theorem TDe_14 : TD_14 = (tables_1.drop 672).take 48 := rfl
set_option maxRecDepth 20000 in
theorem tw_672 : (Cond.code ({ cls := "AnyOrder$Closure", name := "numberOfProduct", desc := "(II)I" } : Jvm.MethodName) prog_2_method_8_code (4 : Nat) (Option.some Jvm.ClassFile.FieldType.int) : Cond) ∈ TB := TB_d TDe_14 0 rfl rfl
set_option maxRecDepth 20000 in
theorem tw_673 : (Cond.methodLink "AnyOrderLaw" (77 : Nat) ({ cls := "AnyOrder", name := "word", desc := "(IIII)I" } : Jvm.MethodName) : Cond) ∈ TB := TB_d TDe_14 1 rfl rfl
set_option maxRecDepth 20000 in
theorem tw_674 : (Cond.instanceMethod ({ cls := "AnyOrder", name := "word", desc := "(IIII)I" } : Jvm.MethodName) : Cond) ∈ TB := TB_d TDe_14 2 rfl rfl
set_option maxRecDepth 20000 in
theorem tw_675 : (Cond.selects "AnyOrder" ({ cls := "AnyOrder", name := "word", desc := "(IIII)I" } : Jvm.MethodName) ({ cls := "AnyOrder", name := "word", desc := "(IIII)I" } : Jvm.MethodName) : Cond) ∈ TB := TB_d TDe_14 3 rfl rfl
set_option maxRecDepth 20000 in
theorem tw_676 : (Cond.code ({ cls := "AnyOrder", name := "word", desc := "(IIII)I" } : Jvm.MethodName) prog_1_method_16_code (5 : Nat) (Option.some Jvm.ClassFile.FieldType.int) : Cond) ∈ TB := TB_d TDe_14 4 rfl rfl
set_option maxRecDepth 20000 in
theorem tw_677 : (Cond.methodLink "AnyOrder" (187 : Nat) ({ cls := "AnyOrder", name := "keepWord", desc := "(IIII)I" } : Jvm.MethodName) : Cond) ∈ TB := TB_d TDe_14 5 rfl rfl
set_option maxRecDepth 20000 in
theorem tw_679 : (Cond.instanceMethod ({ cls := "AnyOrder", name := "keepWord", desc := "(IIII)I" } : Jvm.MethodName) : Cond) ∈ TB := TB_d TDe_14 7 rfl rfl
set_option maxRecDepth 20000 in
theorem tw_680 : (Cond.code ({ cls := "AnyOrder", name := "keepWord", desc := "(IIII)I" } : Jvm.MethodName) prog_1_method_39_code (9 : Nat) (Option.some Jvm.ClassFile.FieldType.int) : Cond) ∈ TB := TB_d TDe_14 8 rfl rfl
set_option maxRecDepth 20000 in
theorem tw_681 : (Cond.methodLink "AnyOrder" (197 : Nat) ({ cls := "AnyOrder$Word", name := "clear", desc := "()V" } : Jvm.MethodName) : Cond) ∈ TB := TB_d TDe_14 9 rfl rfl
set_option maxRecDepth 20000 in
theorem tw_682 : (Cond.instanceMethod ({ cls := "AnyOrder$Word", name := "clear", desc := "()V" } : Jvm.MethodName) : Cond) ∈ TB := TB_d TDe_14 10 rfl rfl
set_option maxRecDepth 20000 in
theorem tw_683 : (Cond.selects "AnyOrder$Word" ({ cls := "AnyOrder$Word", name := "clear", desc := "()V" } : Jvm.MethodName) ({ cls := "AnyOrder$Word", name := "clear", desc := "()V" } : Jvm.MethodName) : Cond) ∈ TB := TB_d TDe_14 11 rfl rfl
set_option maxRecDepth 20000 in
theorem tw_684 : (Cond.code ({ cls := "AnyOrder$Word", name := "clear", desc := "()V" } : Jvm.MethodName) prog_12_method_2_code (1 : Nat) (Option.none : Option Jvm.ClassFile.FieldType) : Cond) ∈ TB := TB_d TDe_14 12 rfl rfl
set_option maxRecDepth 20000 in
theorem tw_685 : (Cond.methodLink "AnyOrder" (296 : Nat) ({ cls := "AnyOrder$Word", name := "append", desc := "(I)V" } : Jvm.MethodName) : Cond) ∈ TB := TB_d TDe_14 13 rfl rfl
set_option maxRecDepth 20000 in
theorem tw_686 : (Cond.instanceMethod ({ cls := "AnyOrder$Word", name := "append", desc := "(I)V" } : Jvm.MethodName) : Cond) ∈ TB := TB_d TDe_14 14 rfl rfl
set_option maxRecDepth 20000 in
theorem tw_687 : (Cond.selects "AnyOrder$Word" ({ cls := "AnyOrder$Word", name := "append", desc := "(I)V" } : Jvm.MethodName) ({ cls := "AnyOrder$Word", name := "append", desc := "(I)V" } : Jvm.MethodName) : Cond) ∈ TB := TB_d TDe_14 15 rfl rfl
set_option maxRecDepth 20000 in
theorem tw_688 : (Cond.code ({ cls := "AnyOrder$Word", name := "append", desc := "(I)V" } : Jvm.MethodName) prog_12_method_3_code (2 : Nat) (Option.none : Option Jvm.ClassFile.FieldType) : Cond) ∈ TB := TB_d TDe_14 16 rfl rfl
set_option maxRecDepth 20000 in
theorem tw_689 : (Cond.methodLink "AnyOrder" (204 : Nat) ({ cls := "AnyOrder", name := "finishWord", desc := "()I" } : Jvm.MethodName) : Cond) ∈ TB := TB_d TDe_14 17 rfl rfl
set_option maxRecDepth 20000 in
theorem tw_691 : (Cond.instanceMethod ({ cls := "AnyOrder", name := "finishWord", desc := "()I" } : Jvm.MethodName) : Cond) ∈ TB := TB_d TDe_14 19 rfl rfl
set_option maxRecDepth 20000 in
theorem tw_692 : (Cond.code ({ cls := "AnyOrder", name := "finishWord", desc := "()I" } : Jvm.MethodName) prog_1_method_40_code (2 : Nat) (Option.some Jvm.ClassFile.FieldType.int) : Cond) ∈ TB := TB_d TDe_14 20 rfl rfl
set_option maxRecDepth 20000 in
theorem tw_693 : (Cond.methodLink "AnyOrder" (300 : Nat) ({ cls := "AnyOrder$Tables", name := "multiplyAll", desc := "([II[J)V" } : Jvm.MethodName) : Cond) ∈ TB := TB_d TDe_14 21 rfl rfl
set_option maxRecDepth 20000 in
theorem tw_694 : (Cond.instanceMethod ({ cls := "AnyOrder$Tables", name := "multiplyAll", desc := "([II[J)V" } : Jvm.MethodName) : Cond) ∈ TB := TB_d TDe_14 22 rfl rfl
set_option maxRecDepth 20000 in
theorem tw_695 : (Cond.selects "AnyOrder$Tables" ({ cls := "AnyOrder$Tables", name := "multiplyAll", desc := "([II[J)V" } : Jvm.MethodName) ({ cls := "AnyOrder$Tables", name := "multiplyAll", desc := "([II[J)V" } : Jvm.MethodName) : Cond) ∈ TB := TB_d TDe_14 23 rfl rfl
set_option maxRecDepth 20000 in
theorem tw_696 : (Cond.code ({ cls := "AnyOrder$Tables", name := "multiplyAll", desc := "([II[J)V" } : Jvm.MethodName) prog_10_method_24_code (5 : Nat) (Option.none : Option Jvm.ClassFile.FieldType) : Cond) ∈ TB := TB_d TDe_14 24 rfl rfl
set_option maxRecDepth 20000 in
theorem tw_697 : (Cond.methodLink "AnyOrder$Tables" (77 : Nat) ({ cls := "java/lang/System", name := "arraycopy", desc := "(Ljava/lang/Object;ILjava/lang/Object;II)V" } : Jvm.MethodName) : Cond) ∈ TB := TB_d TDe_14 25 rfl rfl
set_option maxRecDepth 20000 in
theorem tw_698 : (Cond.methodLink "AnyOrder$Tables" (83 : Nat) ({ cls := "AnyOrder$Tables", name := "multiply", desc := "([J[J[J)V" } : Jvm.MethodName) : Cond) ∈ TB := TB_d TDe_14 26 rfl rfl
set_option maxRecDepth 20000 in
theorem tw_699 : (Cond.methodLink "AnyOrderLaw" (82 : Nat) ({ cls := "AnyOrder", name := "join", desc := "(II)I" } : Jvm.MethodName) : Cond) ∈ TB := TB_d TDe_14 27 rfl rfl
set_option maxRecDepth 20000 in
theorem tw_700 : (Cond.instanceMethod ({ cls := "AnyOrder", name := "join", desc := "(II)I" } : Jvm.MethodName) : Cond) ∈ TB := TB_d TDe_14 28 rfl rfl
set_option maxRecDepth 20000 in
theorem tw_701 : (Cond.selects "AnyOrder" ({ cls := "AnyOrder", name := "join", desc := "(II)I" } : Jvm.MethodName) ({ cls := "AnyOrder", name := "join", desc := "(II)I" } : Jvm.MethodName) : Cond) ∈ TB := TB_d TDe_14 29 rfl rfl
set_option maxRecDepth 20000 in
theorem tw_702 : (Cond.code ({ cls := "AnyOrder", name := "join", desc := "(II)I" } : Jvm.MethodName) prog_1_method_17_code (4 : Nat) (Option.some Jvm.ClassFile.FieldType.int) : Cond) ∈ TB := TB_d TDe_14 30 rfl rfl
set_option maxRecDepth 20000 in
theorem tw_703 : (Cond.methodLink "AnyOrder" (191 : Nat) ({ cls := "AnyOrder", name := "hasWord", desc := "(I)Z" } : Jvm.MethodName) : Cond) ∈ TB := TB_d TDe_14 31 rfl rfl
set_option maxRecDepth 20000 in
theorem tw_705 : (Cond.instanceMethod ({ cls := "AnyOrder", name := "hasWord", desc := "(I)Z" } : Jvm.MethodName) : Cond) ∈ TB := TB_d TDe_14 33 rfl rfl
set_option maxRecDepth 20000 in
theorem tw_706 : (Cond.code ({ cls := "AnyOrder", name := "hasWord", desc := "(I)Z" } : Jvm.MethodName) prog_1_method_41_code (2 : Nat) (Option.some Jvm.ClassFile.FieldType.boolean) : Cond) ∈ TB := TB_d TDe_14 34 rfl rfl
set_option maxRecDepth 20000 in
theorem tw_707 : (Cond.methodLink "AnyOrder" (200 : Nat) ({ cls := "AnyOrder$Word", name := "appendAll", desc := "(LAnyOrder$Word;)V" } : Jvm.MethodName) : Cond) ∈ TB := TB_d TDe_14 35 rfl rfl
set_option maxRecDepth 20000 in
theorem tw_708 : (Cond.instanceMethod ({ cls := "AnyOrder$Word", name := "appendAll", desc := "(LAnyOrder$Word;)V" } : Jvm.MethodName) : Cond) ∈ TB := TB_d TDe_14 36 rfl rfl
set_option maxRecDepth 20000 in
theorem tw_709 : (Cond.selects "AnyOrder$Word" ({ cls := "AnyOrder$Word", name := "appendAll", desc := "(LAnyOrder$Word;)V" } : Jvm.MethodName) ({ cls := "AnyOrder$Word", name := "appendAll", desc := "(LAnyOrder$Word;)V" } : Jvm.MethodName) : Cond) ∈ TB := TB_d TDe_14 37 rfl rfl
set_option maxRecDepth 20000 in
theorem tw_710 : (Cond.code ({ cls := "AnyOrder$Word", name := "appendAll", desc := "(LAnyOrder$Word;)V" } : Jvm.MethodName) prog_12_method_4_code (3 : Nat) (Option.none : Option Jvm.ClassFile.FieldType) : Cond) ∈ TB := TB_d TDe_14 38 rfl rfl
set_option maxRecDepth 20000 in
theorem tw_711 : (Cond.methodLink "AnyOrder$Word" (23 : Nat) ({ cls := "AnyOrder$Word", name := "append", desc := "(I)V" } : Jvm.MethodName) : Cond) ∈ TB := TB_d TDe_14 39 rfl rfl
set_option maxRecDepth 20000 in
theorem tw_712 : (Cond.methodLink "AnyOrderLaw" (86 : Nat) ({ cls := "AnyOrder", name := "letter", desc := "(II)I" } : Jvm.MethodName) : Cond) ∈ TB := TB_d TDe_14 40 rfl rfl
set_option maxRecDepth 20000 in
theorem tw_713 : (Cond.instanceMethod ({ cls := "AnyOrder", name := "letter", desc := "(II)I" } : Jvm.MethodName) : Cond) ∈ TB := TB_d TDe_14 41 rfl rfl
set_option maxRecDepth 20000 in
theorem tw_714 : (Cond.selects "AnyOrder" ({ cls := "AnyOrder", name := "letter", desc := "(II)I" } : Jvm.MethodName) ({ cls := "AnyOrder", name := "letter", desc := "(II)I" } : Jvm.MethodName) : Cond) ∈ TB := TB_d TDe_14 42 rfl rfl
set_option maxRecDepth 20000 in
theorem tw_715 : (Cond.code ({ cls := "AnyOrder", name := "letter", desc := "(II)I" } : Jvm.MethodName) prog_1_method_18_code (3 : Nat) (Option.some Jvm.ClassFile.FieldType.int) : Cond) ∈ TB := TB_d TDe_14 43 rfl rfl
set_option maxRecDepth 20000 in
theorem tw_716 : (Cond.methodLink "AnyOrderLaw" (90 : Nat) ({ cls := "AnyOrder", name := "about", desc := "(II)I" } : Jvm.MethodName) : Cond) ∈ TB := TB_d TDe_14 44 rfl rfl
set_option maxRecDepth 20000 in
theorem tw_717 : (Cond.instanceMethod ({ cls := "AnyOrder", name := "about", desc := "(II)I" } : Jvm.MethodName) : Cond) ∈ TB := TB_d TDe_14 45 rfl rfl
set_option maxRecDepth 20000 in
theorem tw_718 : (Cond.selects "AnyOrder" ({ cls := "AnyOrder", name := "about", desc := "(II)I" } : Jvm.MethodName) ({ cls := "AnyOrder", name := "about", desc := "(II)I" } : Jvm.MethodName) : Cond) ∈ TB := TB_d TDe_14 46 rfl rfl
set_option maxRecDepth 20000 in
theorem tw_719 : (Cond.code ({ cls := "AnyOrder", name := "about", desc := "(II)I" } : Jvm.MethodName) prog_1_method_19_code (4 : Nat) (Option.some Jvm.ClassFile.FieldType.int) : Cond) ∈ TB := TB_d TDe_14 47 rfl rfl
def TD_15 : List Cond := [Cond.methodLink "AnyOrder" (210 : Nat) ({ cls := "AnyOrder$Tables", name := "isAllowed", desc := "([II)Z" } : Jvm.MethodName), Cond.instanceMethod ({ cls := "AnyOrder$Tables", name := "isAllowed", desc := "([II)Z" } : Jvm.MethodName), Cond.selects "AnyOrder$Tables" ({ cls := "AnyOrder$Tables", name := "isAllowed", desc := "([II)Z" } : Jvm.MethodName) ({ cls := "AnyOrder$Tables", name := "isAllowed", desc := "([II)Z" } : Jvm.MethodName), Cond.code ({ cls := "AnyOrder$Tables", name := "isAllowed", desc := "([II)Z" } : Jvm.MethodName) prog_10_method_20_code (4 : Nat) (Option.some Jvm.ClassFile.FieldType.boolean), Cond.methodLink "AnyOrder" (214 : Nat) ({ cls := "AnyOrder", name := "isRing", desc := "(LAnyOrder$Word;)Z" } : Jvm.MethodName), Cond.privateMethod ({ cls := "AnyOrder", name := "isRing", desc := "(LAnyOrder$Word;)Z" } : Jvm.MethodName), Cond.instanceMethod ({ cls := "AnyOrder", name := "isRing", desc := "(LAnyOrder$Word;)Z" } : Jvm.MethodName), Cond.code ({ cls := "AnyOrder", name := "isRing", desc := "(LAnyOrder$Word;)Z" } : Jvm.MethodName) prog_1_method_42_code (2 : Nat) (Option.some Jvm.ClassFile.FieldType.boolean), Cond.methodLink "AnyOrder" (304 : Nat) ({ cls := "AnyOrder$Tables", name := "isTurnable", desc := "([II)Z" } : Jvm.MethodName), Cond.methodLink "AnyOrder" (307 : Nat) ({ cls := "AnyOrder$Spelling", name := "isAheadOfItsTurns", desc := "([II)Z" } : Jvm.MethodName), Cond.methodLink "AnyOrder" (218 : Nat) ({ cls := "AnyOrder$Spelling", name := "repeats", desc := "([II)I" } : Jvm.MethodName), Cond.static ({ cls := "AnyOrder$Spelling", name := "repeats", desc := "([II)I" } : Jvm.MethodName), Cond.code ({ cls := "AnyOrder$Spelling", name := "repeats", desc := "([II)I" } : Jvm.MethodName) prog_7_method_2_code (3 : Nat) (Option.some Jvm.ClassFile.FieldType.int), Cond.methodLink "AnyOrder$Spelling" (7 : Nat) ({ cls := "AnyOrder$Spelling", name := "hasPeriod", desc := "([III)Z" } : Jvm.MethodName), Cond.static ({ cls := "AnyOrder$Spelling", name := "hasPeriod", desc := "([III)Z" } : Jvm.MethodName), Cond.code ({ cls := "AnyOrder$Spelling", name := "hasPeriod", desc := "([III)Z" } : Jvm.MethodName) prog_7_method_3_code (4 : Nat) (Option.some Jvm.ClassFile.FieldType.boolean), Cond.methodLink "AnyOrderLaw" (94 : Nat) ({ cls := "AnyOrder", name := "entryOf", desc := "(III)J" } : Jvm.MethodName), Cond.instanceMethod ({ cls := "AnyOrder", name := "entryOf", desc := "(III)J" } : Jvm.MethodName), Cond.selects "AnyOrder" ({ cls := "AnyOrder", name := "entryOf", desc := "(III)J" } : Jvm.MethodName) ({ cls := "AnyOrder", name := "entryOf", desc := "(III)J" } : Jvm.MethodName), Cond.code ({ cls := "AnyOrder", name := "entryOf", desc := "(III)J" } : Jvm.MethodName) prog_1_method_20_code (4 : Nat) (Option.some Jvm.ClassFile.FieldType.long), Cond.methodLink "AnyOrderLaw" (98 : Nat) ({ cls := "AnyOrder", name := "size", desc := "(II)J" } : Jvm.MethodName), Cond.instanceMethod ({ cls := "AnyOrder", name := "size", desc := "(II)J" } : Jvm.MethodName), Cond.selects "AnyOrder" ({ cls := "AnyOrder", name := "size", desc := "(II)J" } : Jvm.MethodName) ({ cls := "AnyOrder", name := "size", desc := "(II)J" } : Jvm.MethodName), Cond.code ({ cls := "AnyOrder", name := "size", desc := "(II)J" } : Jvm.MethodName) prog_1_method_21_code (3 : Nat) (Option.some Jvm.ClassFile.FieldType.long), Cond.methodLink "AnyOrder" (228 : Nat) ({ cls := "AnyOrder$Tables", name := "norm", desc := "([J)J" } : Jvm.MethodName), Cond.methodLink "AnyOrder" (232 : Nat) ({ cls := "AnyOrder$Tables", name := "track", desc := "([J)J" } : Jvm.MethodName), Cond.methodLink "AnyOrderLaw" (102 : Nat) ({ cls := "AnyOrder", name := "sheet", desc := "(III)I" } : Jvm.MethodName), Cond.instanceMethod ({ cls := "AnyOrder", name := "sheet", desc := "(III)I" } : Jvm.MethodName), Cond.selects "AnyOrder" ({ cls := "AnyOrder", name := "sheet", desc := "(III)I" } : Jvm.MethodName) ({ cls := "AnyOrder", name := "sheet", desc := "(III)I" } : Jvm.MethodName), Cond.code ({ cls := "AnyOrder", name := "sheet", desc := "(III)I" } : Jvm.MethodName) prog_1_method_22_code (4 : Nat) (Option.some Jvm.ClassFile.FieldType.int), Cond.methodLink "AnyOrder" (235 : Nat) ({ cls := "AnyOrder", name := "renewSheet", desc := "(III)I" } : Jvm.MethodName), Cond.privateMethod ({ cls := "AnyOrder", name := "renewSheet", desc := "(III)I" } : Jvm.MethodName), Cond.instanceMethod ({ cls := "AnyOrder", name := "renewSheet", desc := "(III)I" } : Jvm.MethodName), Cond.code ({ cls := "AnyOrder", name := "renewSheet", desc := "(III)I" } : Jvm.MethodName) prog_1_method_43_code (4 : Nat) (Option.some Jvm.ClassFile.FieldType.int), Cond.methodLink "AnyOrder" (310 : Nat) ({ cls := "AnyOrder$Sheet", name := "renew", desc := "(II)V" } : Jvm.MethodName), Cond.instanceMethod ({ cls := "AnyOrder$Sheet", name := "renew", desc := "(II)V" } : Jvm.MethodName), Cond.selects "AnyOrder$Sheet" ({ cls := "AnyOrder$Sheet", name := "renew", desc := "(II)V" } : Jvm.MethodName) ({ cls := "AnyOrder$Sheet", name := "renew", desc := "(II)V" } : Jvm.MethodName), Cond.code ({ cls := "AnyOrder$Sheet", name := "renew", desc := "(II)V" } : Jvm.MethodName) prog_5_method_2_code (3 : Nat) (Option.none : Option Jvm.ClassFile.FieldType), Cond.methodLink "AnyOrder$Sheet" (15 : Nat) ({ cls := "java/util/Arrays", name := "fill", desc := "([II)V" } : Jvm.MethodName), Cond.methodLink "AnyOrderLaw" (106 : Nat) ({ cls := "AnyOrder", name := "lose", desc := "(I)I" } : Jvm.MethodName), Cond.instanceMethod ({ cls := "AnyOrder", name := "lose", desc := "(I)I" } : Jvm.MethodName), Cond.selects "AnyOrder" ({ cls := "AnyOrder", name := "lose", desc := "(I)I" } : Jvm.MethodName) ({ cls := "AnyOrder", name := "lose", desc := "(I)I" } : Jvm.MethodName), Cond.code ({ cls := "AnyOrder", name := "lose", desc := "(I)I" } : Jvm.MethodName) prog_1_method_23_code (2 : Nat) (Option.some Jvm.ClassFile.FieldType.int), Cond.methodLink "AnyOrder" (241 : Nat) ({ cls := "AnyOrder$Sheet", name := "drop", desc := "()Z" } : Jvm.MethodName), Cond.instanceMethod ({ cls := "AnyOrder$Sheet", name := "drop", desc := "()Z" } : Jvm.MethodName), Cond.selects "AnyOrder$Sheet" ({ cls := "AnyOrder$Sheet", name := "drop", desc := "()Z" } : Jvm.MethodName) ({ cls := "AnyOrder$Sheet", name := "drop", desc := "()Z" } : Jvm.MethodName), Cond.code ({ cls := "AnyOrder$Sheet", name := "drop", desc := "()Z" } : Jvm.MethodName) prog_5_method_3_code (2 : Nat) (Option.some Jvm.ClassFile.FieldType.boolean), Cond.methodLink "AnyOrderLaw" (110 : Nat) ({ cls := "AnyOrder", name := "put", desc := "(III)I" } : Jvm.MethodName)]
set_option maxRecDepth 20000 in
theorem TDe_15 : TD_15 = (tables_1.drop 720).take 48 := rfl
set_option maxRecDepth 20000 in
theorem tw_720 : (Cond.methodLink "AnyOrder" (210 : Nat) ({ cls := "AnyOrder$Tables", name := "isAllowed", desc := "([II)Z" } : Jvm.MethodName) : Cond) ∈ TB := TB_d TDe_15 0 rfl rfl
set_option maxRecDepth 20000 in
theorem tw_721 : (Cond.instanceMethod ({ cls := "AnyOrder$Tables", name := "isAllowed", desc := "([II)Z" } : Jvm.MethodName) : Cond) ∈ TB := TB_d TDe_15 1 rfl rfl
set_option maxRecDepth 20000 in
theorem tw_722 : (Cond.selects "AnyOrder$Tables" ({ cls := "AnyOrder$Tables", name := "isAllowed", desc := "([II)Z" } : Jvm.MethodName) ({ cls := "AnyOrder$Tables", name := "isAllowed", desc := "([II)Z" } : Jvm.MethodName) : Cond) ∈ TB := TB_d TDe_15 2 rfl rfl
set_option maxRecDepth 20000 in
theorem tw_723 : (Cond.code ({ cls := "AnyOrder$Tables", name := "isAllowed", desc := "([II)Z" } : Jvm.MethodName) prog_10_method_20_code (4 : Nat) (Option.some Jvm.ClassFile.FieldType.boolean) : Cond) ∈ TB := TB_d TDe_15 3 rfl rfl
set_option maxRecDepth 20000 in
theorem tw_724 : (Cond.methodLink "AnyOrder" (214 : Nat) ({ cls := "AnyOrder", name := "isRing", desc := "(LAnyOrder$Word;)Z" } : Jvm.MethodName) : Cond) ∈ TB := TB_d TDe_15 4 rfl rfl
set_option maxRecDepth 20000 in
theorem tw_726 : (Cond.instanceMethod ({ cls := "AnyOrder", name := "isRing", desc := "(LAnyOrder$Word;)Z" } : Jvm.MethodName) : Cond) ∈ TB := TB_d TDe_15 6 rfl rfl
set_option maxRecDepth 20000 in
theorem tw_727 : (Cond.code ({ cls := "AnyOrder", name := "isRing", desc := "(LAnyOrder$Word;)Z" } : Jvm.MethodName) prog_1_method_42_code (2 : Nat) (Option.some Jvm.ClassFile.FieldType.boolean) : Cond) ∈ TB := TB_d TDe_15 7 rfl rfl
set_option maxRecDepth 20000 in
theorem tw_728 : (Cond.methodLink "AnyOrder" (304 : Nat) ({ cls := "AnyOrder$Tables", name := "isTurnable", desc := "([II)Z" } : Jvm.MethodName) : Cond) ∈ TB := TB_d TDe_15 8 rfl rfl
set_option maxRecDepth 20000 in
theorem tw_729 : (Cond.methodLink "AnyOrder" (307 : Nat) ({ cls := "AnyOrder$Spelling", name := "isAheadOfItsTurns", desc := "([II)Z" } : Jvm.MethodName) : Cond) ∈ TB := TB_d TDe_15 9 rfl rfl
set_option maxRecDepth 20000 in
theorem tw_730 : (Cond.methodLink "AnyOrder" (218 : Nat) ({ cls := "AnyOrder$Spelling", name := "repeats", desc := "([II)I" } : Jvm.MethodName) : Cond) ∈ TB := TB_d TDe_15 10 rfl rfl
set_option maxRecDepth 20000 in
theorem tw_731 : (Cond.static ({ cls := "AnyOrder$Spelling", name := "repeats", desc := "([II)I" } : Jvm.MethodName) : Cond) ∈ TB := TB_d TDe_15 11 rfl rfl
set_option maxRecDepth 20000 in
theorem tw_732 : (Cond.code ({ cls := "AnyOrder$Spelling", name := "repeats", desc := "([II)I" } : Jvm.MethodName) prog_7_method_2_code (3 : Nat) (Option.some Jvm.ClassFile.FieldType.int) : Cond) ∈ TB := TB_d TDe_15 12 rfl rfl
set_option maxRecDepth 20000 in
theorem tw_733 : (Cond.methodLink "AnyOrder$Spelling" (7 : Nat) ({ cls := "AnyOrder$Spelling", name := "hasPeriod", desc := "([III)Z" } : Jvm.MethodName) : Cond) ∈ TB := TB_d TDe_15 13 rfl rfl
set_option maxRecDepth 20000 in
theorem tw_734 : (Cond.static ({ cls := "AnyOrder$Spelling", name := "hasPeriod", desc := "([III)Z" } : Jvm.MethodName) : Cond) ∈ TB := TB_d TDe_15 14 rfl rfl
set_option maxRecDepth 20000 in
theorem tw_735 : (Cond.code ({ cls := "AnyOrder$Spelling", name := "hasPeriod", desc := "([III)Z" } : Jvm.MethodName) prog_7_method_3_code (4 : Nat) (Option.some Jvm.ClassFile.FieldType.boolean) : Cond) ∈ TB := TB_d TDe_15 15 rfl rfl
set_option maxRecDepth 20000 in
theorem tw_736 : (Cond.methodLink "AnyOrderLaw" (94 : Nat) ({ cls := "AnyOrder", name := "entryOf", desc := "(III)J" } : Jvm.MethodName) : Cond) ∈ TB := TB_d TDe_15 16 rfl rfl
set_option maxRecDepth 20000 in
theorem tw_737 : (Cond.instanceMethod ({ cls := "AnyOrder", name := "entryOf", desc := "(III)J" } : Jvm.MethodName) : Cond) ∈ TB := TB_d TDe_15 17 rfl rfl
set_option maxRecDepth 20000 in
theorem tw_738 : (Cond.selects "AnyOrder" ({ cls := "AnyOrder", name := "entryOf", desc := "(III)J" } : Jvm.MethodName) ({ cls := "AnyOrder", name := "entryOf", desc := "(III)J" } : Jvm.MethodName) : Cond) ∈ TB := TB_d TDe_15 18 rfl rfl
set_option maxRecDepth 20000 in
theorem tw_739 : (Cond.code ({ cls := "AnyOrder", name := "entryOf", desc := "(III)J" } : Jvm.MethodName) prog_1_method_20_code (4 : Nat) (Option.some Jvm.ClassFile.FieldType.long) : Cond) ∈ TB := TB_d TDe_15 19 rfl rfl
set_option maxRecDepth 20000 in
theorem tw_740 : (Cond.methodLink "AnyOrderLaw" (98 : Nat) ({ cls := "AnyOrder", name := "size", desc := "(II)J" } : Jvm.MethodName) : Cond) ∈ TB := TB_d TDe_15 20 rfl rfl
set_option maxRecDepth 20000 in
theorem tw_741 : (Cond.instanceMethod ({ cls := "AnyOrder", name := "size", desc := "(II)J" } : Jvm.MethodName) : Cond) ∈ TB := TB_d TDe_15 21 rfl rfl
set_option maxRecDepth 20000 in
theorem tw_742 : (Cond.selects "AnyOrder" ({ cls := "AnyOrder", name := "size", desc := "(II)J" } : Jvm.MethodName) ({ cls := "AnyOrder", name := "size", desc := "(II)J" } : Jvm.MethodName) : Cond) ∈ TB := TB_d TDe_15 22 rfl rfl
set_option maxRecDepth 20000 in
theorem tw_743 : (Cond.code ({ cls := "AnyOrder", name := "size", desc := "(II)J" } : Jvm.MethodName) prog_1_method_21_code (3 : Nat) (Option.some Jvm.ClassFile.FieldType.long) : Cond) ∈ TB := TB_d TDe_15 23 rfl rfl
set_option maxRecDepth 20000 in
theorem tw_744 : (Cond.methodLink "AnyOrder" (228 : Nat) ({ cls := "AnyOrder$Tables", name := "norm", desc := "([J)J" } : Jvm.MethodName) : Cond) ∈ TB := TB_d TDe_15 24 rfl rfl
set_option maxRecDepth 20000 in
theorem tw_745 : (Cond.methodLink "AnyOrder" (232 : Nat) ({ cls := "AnyOrder$Tables", name := "track", desc := "([J)J" } : Jvm.MethodName) : Cond) ∈ TB := TB_d TDe_15 25 rfl rfl
set_option maxRecDepth 20000 in
theorem tw_746 : (Cond.methodLink "AnyOrderLaw" (102 : Nat) ({ cls := "AnyOrder", name := "sheet", desc := "(III)I" } : Jvm.MethodName) : Cond) ∈ TB := TB_d TDe_15 26 rfl rfl
set_option maxRecDepth 20000 in
theorem tw_747 : (Cond.instanceMethod ({ cls := "AnyOrder", name := "sheet", desc := "(III)I" } : Jvm.MethodName) : Cond) ∈ TB := TB_d TDe_15 27 rfl rfl
set_option maxRecDepth 20000 in
theorem tw_748 : (Cond.selects "AnyOrder" ({ cls := "AnyOrder", name := "sheet", desc := "(III)I" } : Jvm.MethodName) ({ cls := "AnyOrder", name := "sheet", desc := "(III)I" } : Jvm.MethodName) : Cond) ∈ TB := TB_d TDe_15 28 rfl rfl
set_option maxRecDepth 20000 in
theorem tw_749 : (Cond.code ({ cls := "AnyOrder", name := "sheet", desc := "(III)I" } : Jvm.MethodName) prog_1_method_22_code (4 : Nat) (Option.some Jvm.ClassFile.FieldType.int) : Cond) ∈ TB := TB_d TDe_15 29 rfl rfl
set_option maxRecDepth 20000 in
theorem tw_750 : (Cond.methodLink "AnyOrder" (235 : Nat) ({ cls := "AnyOrder", name := "renewSheet", desc := "(III)I" } : Jvm.MethodName) : Cond) ∈ TB := TB_d TDe_15 30 rfl rfl
set_option maxRecDepth 20000 in
theorem tw_752 : (Cond.instanceMethod ({ cls := "AnyOrder", name := "renewSheet", desc := "(III)I" } : Jvm.MethodName) : Cond) ∈ TB := TB_d TDe_15 32 rfl rfl
set_option maxRecDepth 20000 in
theorem tw_753 : (Cond.code ({ cls := "AnyOrder", name := "renewSheet", desc := "(III)I" } : Jvm.MethodName) prog_1_method_43_code (4 : Nat) (Option.some Jvm.ClassFile.FieldType.int) : Cond) ∈ TB := TB_d TDe_15 33 rfl rfl
set_option maxRecDepth 20000 in
theorem tw_754 : (Cond.methodLink "AnyOrder" (310 : Nat) ({ cls := "AnyOrder$Sheet", name := "renew", desc := "(II)V" } : Jvm.MethodName) : Cond) ∈ TB := TB_d TDe_15 34 rfl rfl
set_option maxRecDepth 20000 in
theorem tw_755 : (Cond.instanceMethod ({ cls := "AnyOrder$Sheet", name := "renew", desc := "(II)V" } : Jvm.MethodName) : Cond) ∈ TB := TB_d TDe_15 35 rfl rfl
set_option maxRecDepth 20000 in
theorem tw_756 : (Cond.selects "AnyOrder$Sheet" ({ cls := "AnyOrder$Sheet", name := "renew", desc := "(II)V" } : Jvm.MethodName) ({ cls := "AnyOrder$Sheet", name := "renew", desc := "(II)V" } : Jvm.MethodName) : Cond) ∈ TB := TB_d TDe_15 36 rfl rfl
set_option maxRecDepth 20000 in
theorem tw_757 : (Cond.code ({ cls := "AnyOrder$Sheet", name := "renew", desc := "(II)V" } : Jvm.MethodName) prog_5_method_2_code (3 : Nat) (Option.none : Option Jvm.ClassFile.FieldType) : Cond) ∈ TB := TB_d TDe_15 37 rfl rfl
set_option maxRecDepth 20000 in
theorem tw_758 : (Cond.methodLink "AnyOrder$Sheet" (15 : Nat) ({ cls := "java/util/Arrays", name := "fill", desc := "([II)V" } : Jvm.MethodName) : Cond) ∈ TB := TB_d TDe_15 38 rfl rfl
set_option maxRecDepth 20000 in
theorem tw_759 : (Cond.methodLink "AnyOrderLaw" (106 : Nat) ({ cls := "AnyOrder", name := "lose", desc := "(I)I" } : Jvm.MethodName) : Cond) ∈ TB := TB_d TDe_15 39 rfl rfl
set_option maxRecDepth 20000 in
theorem tw_760 : (Cond.instanceMethod ({ cls := "AnyOrder", name := "lose", desc := "(I)I" } : Jvm.MethodName) : Cond) ∈ TB := TB_d TDe_15 40 rfl rfl
set_option maxRecDepth 20000 in
theorem tw_761 : (Cond.selects "AnyOrder" ({ cls := "AnyOrder", name := "lose", desc := "(I)I" } : Jvm.MethodName) ({ cls := "AnyOrder", name := "lose", desc := "(I)I" } : Jvm.MethodName) : Cond) ∈ TB := TB_d TDe_15 41 rfl rfl
set_option maxRecDepth 20000 in
theorem tw_762 : (Cond.code ({ cls := "AnyOrder", name := "lose", desc := "(I)I" } : Jvm.MethodName) prog_1_method_23_code (2 : Nat) (Option.some Jvm.ClassFile.FieldType.int) : Cond) ∈ TB := TB_d TDe_15 42 rfl rfl
set_option maxRecDepth 20000 in
theorem tw_763 : (Cond.methodLink "AnyOrder" (241 : Nat) ({ cls := "AnyOrder$Sheet", name := "drop", desc := "()Z" } : Jvm.MethodName) : Cond) ∈ TB := TB_d TDe_15 43 rfl rfl
set_option maxRecDepth 20000 in
theorem tw_764 : (Cond.instanceMethod ({ cls := "AnyOrder$Sheet", name := "drop", desc := "()Z" } : Jvm.MethodName) : Cond) ∈ TB := TB_d TDe_15 44 rfl rfl
set_option maxRecDepth 20000 in
theorem tw_765 : (Cond.selects "AnyOrder$Sheet" ({ cls := "AnyOrder$Sheet", name := "drop", desc := "()Z" } : Jvm.MethodName) ({ cls := "AnyOrder$Sheet", name := "drop", desc := "()Z" } : Jvm.MethodName) : Cond) ∈ TB := TB_d TDe_15 45 rfl rfl
set_option maxRecDepth 20000 in
theorem tw_766 : (Cond.code ({ cls := "AnyOrder$Sheet", name := "drop", desc := "()Z" } : Jvm.MethodName) prog_5_method_3_code (2 : Nat) (Option.some Jvm.ClassFile.FieldType.boolean) : Cond) ∈ TB := TB_d TDe_15 46 rfl rfl
set_option maxRecDepth 20000 in
theorem tw_767 : (Cond.methodLink "AnyOrderLaw" (110 : Nat) ({ cls := "AnyOrder", name := "put", desc := "(III)I" } : Jvm.MethodName) : Cond) ∈ TB := TB_d TDe_15 47 rfl rfl
def TD_16 : List Cond := [Cond.instanceMethod ({ cls := "AnyOrder", name := "put", desc := "(III)I" } : Jvm.MethodName), Cond.selects "AnyOrder" ({ cls := "AnyOrder", name := "put", desc := "(III)I" } : Jvm.MethodName) ({ cls := "AnyOrder", name := "put", desc := "(III)I" } : Jvm.MethodName), Cond.code ({ cls := "AnyOrder", name := "put", desc := "(III)I" } : Jvm.MethodName) prog_1_method_24_code (4 : Nat) (Option.some Jvm.ClassFile.FieldType.int), Cond.methodLink "AnyOrder" (244 : Nat) ({ cls := "AnyOrder", name := "putCell", desc := "(III)I" } : Jvm.MethodName), Cond.privateMethod ({ cls := "AnyOrder", name := "putCell", desc := "(III)I" } : Jvm.MethodName), Cond.instanceMethod ({ cls := "AnyOrder", name := "putCell", desc := "(III)I" } : Jvm.MethodName), Cond.code ({ cls := "AnyOrder", name := "putCell", desc := "(III)I" } : Jvm.MethodName) prog_1_method_44_code (4 : Nat) (Option.some Jvm.ClassFile.FieldType.int), Cond.methodLink "AnyOrder" (313 : Nat) ({ cls := "AnyOrder$Sheet", name := "write", desc := "(II)V" } : Jvm.MethodName), Cond.instanceMethod ({ cls := "AnyOrder$Sheet", name := "write", desc := "(II)V" } : Jvm.MethodName), Cond.selects "AnyOrder$Sheet" ({ cls := "AnyOrder$Sheet", name := "write", desc := "(II)V" } : Jvm.MethodName) ({ cls := "AnyOrder$Sheet", name := "write", desc := "(II)V" } : Jvm.MethodName), Cond.code ({ cls := "AnyOrder$Sheet", name := "write", desc := "(II)V" } : Jvm.MethodName) prog_5_method_5_code (3 : Nat) (Option.none : Option Jvm.ClassFile.FieldType), Cond.methodLink "AnyOrderLaw" (114 : Nat) ({ cls := "AnyOrder", name := "at", desc := "(III)J" } : Jvm.MethodName), Cond.instanceMethod ({ cls := "AnyOrder", name := "at", desc := "(III)J" } : Jvm.MethodName), Cond.selects "AnyOrder" ({ cls := "AnyOrder", name := "at", desc := "(III)J" } : Jvm.MethodName) ({ cls := "AnyOrder", name := "at", desc := "(III)J" } : Jvm.MethodName), Cond.code ({ cls := "AnyOrder", name := "at", desc := "(III)J" } : Jvm.MethodName) prog_1_method_25_code (5 : Nat) (Option.some Jvm.ClassFile.FieldType.long), Cond.methodLink "AnyOrderLaw" (118 : Nat) ({ cls := "AnyOrder", name := "tell", desc := "(I)I" } : Jvm.MethodName), Cond.instanceMethod ({ cls := "AnyOrder", name := "tell", desc := "(I)I" } : Jvm.MethodName), Cond.selects "AnyOrder" ({ cls := "AnyOrder", name := "tell", desc := "(I)I" } : Jvm.MethodName) ({ cls := "AnyOrder", name := "tell", desc := "(I)I" } : Jvm.MethodName), Cond.code ({ cls := "AnyOrder", name := "tell", desc := "(I)I" } : Jvm.MethodName) prog_1_method_26_code (2 : Nat) (Option.some Jvm.ClassFile.FieldType.int), Cond.methodLink "AnyOrder" (253 : Nat) ({ cls := "AnyOrder$Table", name := "telling", desc := "(LAnyOrder$Trail;)I" } : Jvm.MethodName), Cond.instanceMethod ({ cls := "AnyOrder$Table", name := "telling", desc := "(LAnyOrder$Trail;)I" } : Jvm.MethodName), Cond.selects "AnyOrder$Table" ({ cls := "AnyOrder$Table", name := "telling", desc := "(LAnyOrder$Trail;)I" } : Jvm.MethodName) ({ cls := "AnyOrder$Table", name := "telling", desc := "(LAnyOrder$Trail;)I" } : Jvm.MethodName), Cond.sameMethod "AnyOrder$Table" "AnyOrder$Table" "telling" "(LAnyOrder$Trail;)I", Cond.selects "AnyOrder$EvenTable" ({ cls := "AnyOrder$Table", name := "telling", desc := "(LAnyOrder$Trail;)I" } : Jvm.MethodName) ({ cls := "AnyOrder$EvenTable", name := "telling", desc := "(LAnyOrder$Trail;)I" } : Jvm.MethodName), Cond.instanceMethod ({ cls := "AnyOrder$EvenTable", name := "telling", desc := "(LAnyOrder$Trail;)I" } : Jvm.MethodName), Cond.code ({ cls := "AnyOrder$EvenTable", name := "telling", desc := "(LAnyOrder$Trail;)I" } : Jvm.MethodName) prog_3_method_2_code (2 : Nat) (Option.some Jvm.ClassFile.FieldType.int), Cond.methodLink "AnyOrder$EvenTable" (7 : Nat) ({ cls := "AnyOrder$Trail", name := "leave", desc := "(I)V" } : Jvm.MethodName), Cond.instanceMethod ({ cls := "AnyOrder$Trail", name := "leave", desc := "(I)V" } : Jvm.MethodName), Cond.selects "AnyOrder$Trail" ({ cls := "AnyOrder$Trail", name := "leave", desc := "(I)V" } : Jvm.MethodName) ({ cls := "AnyOrder$Trail", name := "leave", desc := "(I)V" } : Jvm.MethodName), Cond.code ({ cls := "AnyOrder$Trail", name := "leave", desc := "(I)V" } : Jvm.MethodName) prog_11_method_2_code (2 : Nat) (Option.none : Option Jvm.ClassFile.FieldType), Cond.methodLink "AnyOrder$EvenTable" (13 : Nat) ({ cls := "AnyOrder$Table", name := "telling", desc := "(LAnyOrder$Trail;)I" } : Jvm.MethodName), Cond.methodLink "AnyOrder$EvenTable" (17 : Nat) ({ cls := "AnyOrder$EvenTable", name := "greatestEntry", desc := "()I" } : Jvm.MethodName), Cond.instanceMethod ({ cls := "AnyOrder$EvenTable", name := "greatestEntry", desc := "()I" } : Jvm.MethodName), Cond.selects "AnyOrder$EvenTable" ({ cls := "AnyOrder$EvenTable", name := "greatestEntry", desc := "()I" } : Jvm.MethodName) ({ cls := "AnyOrder$EvenTable", name := "greatestEntry", desc := "()I" } : Jvm.MethodName), Cond.sameMethod "AnyOrder$EvenTable" "AnyOrder$EvenTable" "greatestEntry" "()I", Cond.selects "AnyOrder$ShuffleTable" ({ cls := "AnyOrder$EvenTable", name := "greatestEntry", desc := "()I" } : Jvm.MethodName) ({ cls := "AnyOrder$EvenTable", name := "greatestEntry", desc := "()I" } : Jvm.MethodName), Cond.code ({ cls := "AnyOrder$EvenTable", name := "greatestEntry", desc := "()I" } : Jvm.MethodName) prog_3_method_3_code (3 : Nat) (Option.some Jvm.ClassFile.FieldType.int), Cond.methodLink "AnyOrder$EvenTable" (31 : Nat) ({ cls := "java/lang/Math", name := "max", desc := "(II)I" } : Jvm.MethodName), Cond.static ({ cls := "java/lang/Math", name := "max", desc := "(II)I" } : Jvm.MethodName), Cond.code ({ cls := "java/lang/Math", name := "max", desc := "(II)I" } : Jvm.MethodName) prog_16_method_65_code (2 : Nat) (Option.some Jvm.ClassFile.FieldType.int), Cond.selects "AnyOrder$ShuffleTable" ({ cls := "AnyOrder$Table", name := "telling", desc := "(LAnyOrder$Trail;)I" } : Jvm.MethodName) ({ cls := "AnyOrder$ShuffleTable", name := "telling", desc := "(LAnyOrder$Trail;)I" } : Jvm.MethodName), Cond.instanceMethod ({ cls := "AnyOrder$ShuffleTable", name := "telling", desc := "(LAnyOrder$Trail;)I" } : Jvm.MethodName), Cond.code ({ cls := "AnyOrder$ShuffleTable", name := "telling", desc := "(LAnyOrder$Trail;)I" } : Jvm.MethodName) prog_6_method_2_code (3 : Nat) (Option.some Jvm.ClassFile.FieldType.int), Cond.methodLink "AnyOrder$ShuffleTable" (7 : Nat) ({ cls := "AnyOrder$Trail", name := "leave", desc := "(I)V" } : Jvm.MethodName), Cond.methodLink "AnyOrder$ShuffleTable" (13 : Nat) ({ cls := "AnyOrder$EvenTable", name := "telling", desc := "(LAnyOrder$Trail;)I" } : Jvm.MethodName), Cond.methodLink "AnyOrder$ShuffleTable" (17 : Nat) ({ cls := "AnyOrder$ShuffleTable", name := "plainTelling", desc := "(LAnyOrder$Trail;)I" } : Jvm.MethodName), Cond.sameMethod "AnyOrder$ShuffleTable" "AnyOrder$Table" "plainTelling" "(LAnyOrder$Trail;)I", Cond.declares ({ cls := "AnyOrder$Table", name := "plainTelling", desc := "(LAnyOrder$Trail;)I" } : Jvm.MethodName)]
set_option maxRecDepth 20000 in
theorem TDe_16 : TD_16 = (tables_1.drop 768).take 48 := rfl
set_option maxRecDepth 20000 in
theorem tw_768 : (Cond.instanceMethod ({ cls := "AnyOrder", name := "put", desc := "(III)I" } : Jvm.MethodName) : Cond) ∈ TB := TB_d TDe_16 0 rfl rfl
set_option maxRecDepth 20000 in
theorem tw_769 : (Cond.selects "AnyOrder" ({ cls := "AnyOrder", name := "put", desc := "(III)I" } : Jvm.MethodName) ({ cls := "AnyOrder", name := "put", desc := "(III)I" } : Jvm.MethodName) : Cond) ∈ TB := TB_d TDe_16 1 rfl rfl
set_option maxRecDepth 20000 in
theorem tw_770 : (Cond.code ({ cls := "AnyOrder", name := "put", desc := "(III)I" } : Jvm.MethodName) prog_1_method_24_code (4 : Nat) (Option.some Jvm.ClassFile.FieldType.int) : Cond) ∈ TB := TB_d TDe_16 2 rfl rfl
set_option maxRecDepth 20000 in
theorem tw_771 : (Cond.methodLink "AnyOrder" (244 : Nat) ({ cls := "AnyOrder", name := "putCell", desc := "(III)I" } : Jvm.MethodName) : Cond) ∈ TB := TB_d TDe_16 3 rfl rfl
set_option maxRecDepth 20000 in
theorem tw_773 : (Cond.instanceMethod ({ cls := "AnyOrder", name := "putCell", desc := "(III)I" } : Jvm.MethodName) : Cond) ∈ TB := TB_d TDe_16 5 rfl rfl
set_option maxRecDepth 20000 in
theorem tw_774 : (Cond.code ({ cls := "AnyOrder", name := "putCell", desc := "(III)I" } : Jvm.MethodName) prog_1_method_44_code (4 : Nat) (Option.some Jvm.ClassFile.FieldType.int) : Cond) ∈ TB := TB_d TDe_16 6 rfl rfl
set_option maxRecDepth 20000 in
theorem tw_775 : (Cond.methodLink "AnyOrder" (313 : Nat) ({ cls := "AnyOrder$Sheet", name := "write", desc := "(II)V" } : Jvm.MethodName) : Cond) ∈ TB := TB_d TDe_16 7 rfl rfl
set_option maxRecDepth 20000 in
theorem tw_776 : (Cond.instanceMethod ({ cls := "AnyOrder$Sheet", name := "write", desc := "(II)V" } : Jvm.MethodName) : Cond) ∈ TB := TB_d TDe_16 8 rfl rfl
set_option maxRecDepth 20000 in
theorem tw_777 : (Cond.selects "AnyOrder$Sheet" ({ cls := "AnyOrder$Sheet", name := "write", desc := "(II)V" } : Jvm.MethodName) ({ cls := "AnyOrder$Sheet", name := "write", desc := "(II)V" } : Jvm.MethodName) : Cond) ∈ TB := TB_d TDe_16 9 rfl rfl
set_option maxRecDepth 20000 in
theorem tw_778 : (Cond.code ({ cls := "AnyOrder$Sheet", name := "write", desc := "(II)V" } : Jvm.MethodName) prog_5_method_5_code (3 : Nat) (Option.none : Option Jvm.ClassFile.FieldType) : Cond) ∈ TB := TB_d TDe_16 10 rfl rfl
set_option maxRecDepth 20000 in
theorem tw_779 : (Cond.methodLink "AnyOrderLaw" (114 : Nat) ({ cls := "AnyOrder", name := "at", desc := "(III)J" } : Jvm.MethodName) : Cond) ∈ TB := TB_d TDe_16 11 rfl rfl
set_option maxRecDepth 20000 in
theorem tw_780 : (Cond.instanceMethod ({ cls := "AnyOrder", name := "at", desc := "(III)J" } : Jvm.MethodName) : Cond) ∈ TB := TB_d TDe_16 12 rfl rfl
set_option maxRecDepth 20000 in
theorem tw_781 : (Cond.selects "AnyOrder" ({ cls := "AnyOrder", name := "at", desc := "(III)J" } : Jvm.MethodName) ({ cls := "AnyOrder", name := "at", desc := "(III)J" } : Jvm.MethodName) : Cond) ∈ TB := TB_d TDe_16 13 rfl rfl
set_option maxRecDepth 20000 in
theorem tw_782 : (Cond.code ({ cls := "AnyOrder", name := "at", desc := "(III)J" } : Jvm.MethodName) prog_1_method_25_code (5 : Nat) (Option.some Jvm.ClassFile.FieldType.long) : Cond) ∈ TB := TB_d TDe_16 14 rfl rfl
set_option maxRecDepth 20000 in
theorem tw_783 : (Cond.methodLink "AnyOrderLaw" (118 : Nat) ({ cls := "AnyOrder", name := "tell", desc := "(I)I" } : Jvm.MethodName) : Cond) ∈ TB := TB_d TDe_16 15 rfl rfl
set_option maxRecDepth 20000 in
theorem tw_784 : (Cond.instanceMethod ({ cls := "AnyOrder", name := "tell", desc := "(I)I" } : Jvm.MethodName) : Cond) ∈ TB := TB_d TDe_16 16 rfl rfl
set_option maxRecDepth 20000 in
theorem tw_785 : (Cond.selects "AnyOrder" ({ cls := "AnyOrder", name := "tell", desc := "(I)I" } : Jvm.MethodName) ({ cls := "AnyOrder", name := "tell", desc := "(I)I" } : Jvm.MethodName) : Cond) ∈ TB := TB_d TDe_16 17 rfl rfl
set_option maxRecDepth 20000 in
theorem tw_786 : (Cond.code ({ cls := "AnyOrder", name := "tell", desc := "(I)I" } : Jvm.MethodName) prog_1_method_26_code (2 : Nat) (Option.some Jvm.ClassFile.FieldType.int) : Cond) ∈ TB := TB_d TDe_16 18 rfl rfl
set_option maxRecDepth 20000 in
theorem tw_787 : (Cond.methodLink "AnyOrder" (253 : Nat) ({ cls := "AnyOrder$Table", name := "telling", desc := "(LAnyOrder$Trail;)I" } : Jvm.MethodName) : Cond) ∈ TB := TB_d TDe_16 19 rfl rfl
set_option maxRecDepth 20000 in
theorem tw_788 : (Cond.instanceMethod ({ cls := "AnyOrder$Table", name := "telling", desc := "(LAnyOrder$Trail;)I" } : Jvm.MethodName) : Cond) ∈ TB := TB_d TDe_16 20 rfl rfl
set_option maxRecDepth 20000 in
theorem tw_789 : (Cond.selects "AnyOrder$Table" ({ cls := "AnyOrder$Table", name := "telling", desc := "(LAnyOrder$Trail;)I" } : Jvm.MethodName) ({ cls := "AnyOrder$Table", name := "telling", desc := "(LAnyOrder$Trail;)I" } : Jvm.MethodName) : Cond) ∈ TB := TB_d TDe_16 21 rfl rfl
set_option maxRecDepth 20000 in
theorem tw_790 : (Cond.sameMethod "AnyOrder$Table" "AnyOrder$Table" "telling" "(LAnyOrder$Trail;)I" : Cond) ∈ TB := TB_d TDe_16 22 rfl rfl
set_option maxRecDepth 20000 in
theorem tw_791 : (Cond.selects "AnyOrder$EvenTable" ({ cls := "AnyOrder$Table", name := "telling", desc := "(LAnyOrder$Trail;)I" } : Jvm.MethodName) ({ cls := "AnyOrder$EvenTable", name := "telling", desc := "(LAnyOrder$Trail;)I" } : Jvm.MethodName) : Cond) ∈ TB := TB_d TDe_16 23 rfl rfl
set_option maxRecDepth 20000 in
theorem tw_792 : (Cond.instanceMethod ({ cls := "AnyOrder$EvenTable", name := "telling", desc := "(LAnyOrder$Trail;)I" } : Jvm.MethodName) : Cond) ∈ TB := TB_d TDe_16 24 rfl rfl
set_option maxRecDepth 20000 in
theorem tw_793 : (Cond.code ({ cls := "AnyOrder$EvenTable", name := "telling", desc := "(LAnyOrder$Trail;)I" } : Jvm.MethodName) prog_3_method_2_code (2 : Nat) (Option.some Jvm.ClassFile.FieldType.int) : Cond) ∈ TB := TB_d TDe_16 25 rfl rfl
set_option maxRecDepth 20000 in
theorem tw_794 : (Cond.methodLink "AnyOrder$EvenTable" (7 : Nat) ({ cls := "AnyOrder$Trail", name := "leave", desc := "(I)V" } : Jvm.MethodName) : Cond) ∈ TB := TB_d TDe_16 26 rfl rfl
set_option maxRecDepth 20000 in
theorem tw_795 : (Cond.instanceMethod ({ cls := "AnyOrder$Trail", name := "leave", desc := "(I)V" } : Jvm.MethodName) : Cond) ∈ TB := TB_d TDe_16 27 rfl rfl
set_option maxRecDepth 20000 in
theorem tw_796 : (Cond.selects "AnyOrder$Trail" ({ cls := "AnyOrder$Trail", name := "leave", desc := "(I)V" } : Jvm.MethodName) ({ cls := "AnyOrder$Trail", name := "leave", desc := "(I)V" } : Jvm.MethodName) : Cond) ∈ TB := TB_d TDe_16 28 rfl rfl
set_option maxRecDepth 20000 in
theorem tw_797 : (Cond.code ({ cls := "AnyOrder$Trail", name := "leave", desc := "(I)V" } : Jvm.MethodName) prog_11_method_2_code (2 : Nat) (Option.none : Option Jvm.ClassFile.FieldType) : Cond) ∈ TB := TB_d TDe_16 29 rfl rfl
set_option maxRecDepth 20000 in
theorem tw_798 : (Cond.methodLink "AnyOrder$EvenTable" (13 : Nat) ({ cls := "AnyOrder$Table", name := "telling", desc := "(LAnyOrder$Trail;)I" } : Jvm.MethodName) : Cond) ∈ TB := TB_d TDe_16 30 rfl rfl
set_option maxRecDepth 20000 in
theorem tw_799 : (Cond.methodLink "AnyOrder$EvenTable" (17 : Nat) ({ cls := "AnyOrder$EvenTable", name := "greatestEntry", desc := "()I" } : Jvm.MethodName) : Cond) ∈ TB := TB_d TDe_16 31 rfl rfl
set_option maxRecDepth 20000 in
theorem tw_800 : (Cond.instanceMethod ({ cls := "AnyOrder$EvenTable", name := "greatestEntry", desc := "()I" } : Jvm.MethodName) : Cond) ∈ TB := TB_d TDe_16 32 rfl rfl
set_option maxRecDepth 20000 in
theorem tw_801 : (Cond.selects "AnyOrder$EvenTable" ({ cls := "AnyOrder$EvenTable", name := "greatestEntry", desc := "()I" } : Jvm.MethodName) ({ cls := "AnyOrder$EvenTable", name := "greatestEntry", desc := "()I" } : Jvm.MethodName) : Cond) ∈ TB := TB_d TDe_16 33 rfl rfl
set_option maxRecDepth 20000 in
theorem tw_802 : (Cond.sameMethod "AnyOrder$EvenTable" "AnyOrder$EvenTable" "greatestEntry" "()I" : Cond) ∈ TB := TB_d TDe_16 34 rfl rfl
set_option maxRecDepth 20000 in
theorem tw_803 : (Cond.selects "AnyOrder$ShuffleTable" ({ cls := "AnyOrder$EvenTable", name := "greatestEntry", desc := "()I" } : Jvm.MethodName) ({ cls := "AnyOrder$EvenTable", name := "greatestEntry", desc := "()I" } : Jvm.MethodName) : Cond) ∈ TB := TB_d TDe_16 35 rfl rfl
set_option maxRecDepth 20000 in
theorem tw_804 : (Cond.code ({ cls := "AnyOrder$EvenTable", name := "greatestEntry", desc := "()I" } : Jvm.MethodName) prog_3_method_3_code (3 : Nat) (Option.some Jvm.ClassFile.FieldType.int) : Cond) ∈ TB := TB_d TDe_16 36 rfl rfl
set_option maxRecDepth 20000 in
theorem tw_805 : (Cond.methodLink "AnyOrder$EvenTable" (31 : Nat) ({ cls := "java/lang/Math", name := "max", desc := "(II)I" } : Jvm.MethodName) : Cond) ∈ TB := TB_d TDe_16 37 rfl rfl
set_option maxRecDepth 20000 in
theorem tw_806 : (Cond.static ({ cls := "java/lang/Math", name := "max", desc := "(II)I" } : Jvm.MethodName) : Cond) ∈ TB := TB_d TDe_16 38 rfl rfl
set_option maxRecDepth 20000 in
theorem tw_807 : (Cond.code ({ cls := "java/lang/Math", name := "max", desc := "(II)I" } : Jvm.MethodName) prog_16_method_65_code (2 : Nat) (Option.some Jvm.ClassFile.FieldType.int) : Cond) ∈ TB := TB_d TDe_16 39 rfl rfl
set_option maxRecDepth 20000 in
theorem tw_808 : (Cond.selects "AnyOrder$ShuffleTable" ({ cls := "AnyOrder$Table", name := "telling", desc := "(LAnyOrder$Trail;)I" } : Jvm.MethodName) ({ cls := "AnyOrder$ShuffleTable", name := "telling", desc := "(LAnyOrder$Trail;)I" } : Jvm.MethodName) : Cond) ∈ TB := TB_d TDe_16 40 rfl rfl
set_option maxRecDepth 20000 in
theorem tw_809 : (Cond.instanceMethod ({ cls := "AnyOrder$ShuffleTable", name := "telling", desc := "(LAnyOrder$Trail;)I" } : Jvm.MethodName) : Cond) ∈ TB := TB_d TDe_16 41 rfl rfl
set_option maxRecDepth 20000 in
theorem tw_810 : (Cond.code ({ cls := "AnyOrder$ShuffleTable", name := "telling", desc := "(LAnyOrder$Trail;)I" } : Jvm.MethodName) prog_6_method_2_code (3 : Nat) (Option.some Jvm.ClassFile.FieldType.int) : Cond) ∈ TB := TB_d TDe_16 42 rfl rfl
set_option maxRecDepth 20000 in
theorem tw_811 : (Cond.methodLink "AnyOrder$ShuffleTable" (7 : Nat) ({ cls := "AnyOrder$Trail", name := "leave", desc := "(I)V" } : Jvm.MethodName) : Cond) ∈ TB := TB_d TDe_16 43 rfl rfl
set_option maxRecDepth 20000 in
theorem tw_812 : (Cond.methodLink "AnyOrder$ShuffleTable" (13 : Nat) ({ cls := "AnyOrder$EvenTable", name := "telling", desc := "(LAnyOrder$Trail;)I" } : Jvm.MethodName) : Cond) ∈ TB := TB_d TDe_16 44 rfl rfl
set_option maxRecDepth 20000 in
theorem tw_813 : (Cond.methodLink "AnyOrder$ShuffleTable" (17 : Nat) ({ cls := "AnyOrder$ShuffleTable", name := "plainTelling", desc := "(LAnyOrder$Trail;)I" } : Jvm.MethodName) : Cond) ∈ TB := TB_d TDe_16 45 rfl rfl
set_option maxRecDepth 20000 in
theorem tw_814 : (Cond.sameMethod "AnyOrder$ShuffleTable" "AnyOrder$Table" "plainTelling" "(LAnyOrder$Trail;)I" : Cond) ∈ TB := TB_d TDe_16 46 rfl rfl
def TD_17 : List Cond := [Cond.selects "AnyOrder$ShuffleTable" ({ cls := "AnyOrder$ShuffleTable", name := "plainTelling", desc := "(LAnyOrder$Trail;)I" } : Jvm.MethodName) ({ cls := "AnyOrder$Table", name := "plainTelling", desc := "(LAnyOrder$Trail;)I" } : Jvm.MethodName), Cond.instanceMethod ({ cls := "AnyOrder$Table", name := "plainTelling", desc := "(LAnyOrder$Trail;)I" } : Jvm.MethodName), Cond.code ({ cls := "AnyOrder$Table", name := "plainTelling", desc := "(LAnyOrder$Trail;)I" } : Jvm.MethodName) prog_9_method_3_code (4 : Nat) (Option.some Jvm.ClassFile.FieldType.int), Cond.methodLink "AnyOrder$Table" (24 : Nat) ({ cls := "AnyOrder$Trail", name := "leave", desc := "(I)V" } : Jvm.MethodName), Cond.code ({ cls := "AnyOrder$Table", name := "telling", desc := "(LAnyOrder$Trail;)I" } : Jvm.MethodName) prog_9_method_2_code (2 : Nat) (Option.some Jvm.ClassFile.FieldType.int), Cond.methodLink "AnyOrder$Table" (20 : Nat) ({ cls := "AnyOrder$Table", name := "plainTelling", desc := "(LAnyOrder$Trail;)I" } : Jvm.MethodName), Cond.methodLink "AnyOrderLaw" (122 : Nat) ({ cls := "AnyOrder", name := "weigh", desc := "(I)I" } : Jvm.MethodName), Cond.instanceMethod ({ cls := "AnyOrder", name := "weigh", desc := "(I)I" } : Jvm.MethodName), Cond.selects "AnyOrder" ({ cls := "AnyOrder", name := "weigh", desc := "(I)I" } : Jvm.MethodName) ({ cls := "AnyOrder", name := "weigh", desc := "(I)I" } : Jvm.MethodName), Cond.code ({ cls := "AnyOrder", name := "weigh", desc := "(I)I" } : Jvm.MethodName) prog_1_method_27_code (2 : Nat) (Option.some Jvm.ClassFile.FieldType.int), Cond.methodLink "AnyOrder" (257 : Nat) ({ cls := "AnyOrder$Table", name := "weight", desc := "(LAnyOrder$Trail;)I" } : Jvm.MethodName), Cond.instanceMethod ({ cls := "AnyOrder$Table", name := "weight", desc := "(LAnyOrder$Trail;)I" } : Jvm.MethodName), Cond.selects "AnyOrder$Table" ({ cls := "AnyOrder$Table", name := "weight", desc := "(LAnyOrder$Trail;)I" } : Jvm.MethodName) ({ cls := "AnyOrder$Table", name := "weight", desc := "(LAnyOrder$Trail;)I" } : Jvm.MethodName), Cond.sameMethod "AnyOrder$Table" "AnyOrder$Table" "weight" "(LAnyOrder$Trail;)I", Cond.selects "AnyOrder$EvenTable" ({ cls := "AnyOrder$Table", name := "weight", desc := "(LAnyOrder$Trail;)I" } : Jvm.MethodName) ({ cls := "AnyOrder$Table", name := "weight", desc := "(LAnyOrder$Trail;)I" } : Jvm.MethodName), Cond.selects "AnyOrder$ShuffleTable" ({ cls := "AnyOrder$Table", name := "weight", desc := "(LAnyOrder$Trail;)I" } : Jvm.MethodName) ({ cls := "AnyOrder$ShuffleTable", name := "weight", desc := "(LAnyOrder$Trail;)I" } : Jvm.MethodName), Cond.instanceMethod ({ cls := "AnyOrder$ShuffleTable", name := "weight", desc := "(LAnyOrder$Trail;)I" } : Jvm.MethodName), Cond.code ({ cls := "AnyOrder$ShuffleTable", name := "weight", desc := "(LAnyOrder$Trail;)I" } : Jvm.MethodName) prog_6_method_3_code (2 : Nat) (Option.some Jvm.ClassFile.FieldType.int), Cond.code ({ cls := "AnyOrder$Table", name := "weight", desc := "(LAnyOrder$Trail;)I" } : Jvm.MethodName) prog_9_method_4_code (2 : Nat) (Option.some Jvm.ClassFile.FieldType.int), Cond.methodLink "AnyOrderLaw" (126 : Nat) ({ cls := "AnyOrder", name := "as", desc := "(II)I" } : Jvm.MethodName), Cond.instanceMethod ({ cls := "AnyOrder", name := "as", desc := "(II)I" } : Jvm.MethodName), Cond.selects "AnyOrder" ({ cls := "AnyOrder", name := "as", desc := "(II)I" } : Jvm.MethodName) ({ cls := "AnyOrder", name := "as", desc := "(II)I" } : Jvm.MethodName), Cond.code ({ cls := "AnyOrder", name := "as", desc := "(II)I" } : Jvm.MethodName) prog_1_method_28_code (3 : Nat) (Option.some Jvm.ClassFile.FieldType.int), Cond.methodLink "AnyOrder" (260 : Nat) ({ cls := "AnyOrder", name := "takeAs", desc := "(II)I" } : Jvm.MethodName), Cond.privateMethod ({ cls := "AnyOrder", name := "takeAs", desc := "(II)I" } : Jvm.MethodName), Cond.instanceMethod ({ cls := "AnyOrder", name := "takeAs", desc := "(II)I" } : Jvm.MethodName), Cond.code ({ cls := "AnyOrder", name := "takeAs", desc := "(II)I" } : Jvm.MethodName) prog_1_method_45_code (3 : Nat) (Option.some Jvm.ClassFile.FieldType.int), Cond.methodLink "AnyOrder" (316 : Nat) ({ cls := "AnyOrder$Table", name := "isOfKind", desc := "(I)Z" } : Jvm.MethodName), Cond.instanceMethod ({ cls := "AnyOrder$Table", name := "isOfKind", desc := "(I)Z" } : Jvm.MethodName), Cond.selects "AnyOrder$Table" ({ cls := "AnyOrder$Table", name := "isOfKind", desc := "(I)Z" } : Jvm.MethodName) ({ cls := "AnyOrder$Table", name := "isOfKind", desc := "(I)Z" } : Jvm.MethodName), Cond.sameMethod "AnyOrder$Table" "AnyOrder$Table" "isOfKind" "(I)Z", Cond.selects "AnyOrder$EvenTable" ({ cls := "AnyOrder$Table", name := "isOfKind", desc := "(I)Z" } : Jvm.MethodName) ({ cls := "AnyOrder$EvenTable", name := "isOfKind", desc := "(I)Z" } : Jvm.MethodName), Cond.instanceMethod ({ cls := "AnyOrder$EvenTable", name := "isOfKind", desc := "(I)Z" } : Jvm.MethodName), Cond.code ({ cls := "AnyOrder$EvenTable", name := "isOfKind", desc := "(I)Z" } : Jvm.MethodName) prog_3_method_4_code (2 : Nat) (Option.some Jvm.ClassFile.FieldType.boolean), Cond.methodLink "AnyOrder$EvenTable" (37 : Nat) ({ cls := "AnyOrder$Table", name := "isOfKind", desc := "(I)Z" } : Jvm.MethodName), Cond.selects "AnyOrder$ShuffleTable" ({ cls := "AnyOrder$Table", name := "isOfKind", desc := "(I)Z" } : Jvm.MethodName) ({ cls := "AnyOrder$ShuffleTable", name := "isOfKind", desc := "(I)Z" } : Jvm.MethodName), Cond.instanceMethod ({ cls := "AnyOrder$ShuffleTable", name := "isOfKind", desc := "(I)Z" } : Jvm.MethodName), Cond.code ({ cls := "AnyOrder$ShuffleTable", name := "isOfKind", desc := "(I)Z" } : Jvm.MethodName) prog_6_method_4_code (2 : Nat) (Option.some Jvm.ClassFile.FieldType.boolean), Cond.methodLink "AnyOrder$ShuffleTable" (22 : Nat) ({ cls := "AnyOrder$EvenTable", name := "isOfKind", desc := "(I)Z" } : Jvm.MethodName), Cond.code ({ cls := "AnyOrder$Table", name := "isOfKind", desc := "(I)Z" } : Jvm.MethodName) prog_9_method_5_code (2 : Nat) (Option.some Jvm.ClassFile.FieldType.boolean), Cond.methodLink "AnyOrderLaw" (130 : Nat) ({ cls := "AnyOrder", name := "history", desc := "()I" } : Jvm.MethodName), Cond.instanceMethod ({ cls := "AnyOrder", name := "history", desc := "()I" } : Jvm.MethodName), Cond.selects "AnyOrder" ({ cls := "AnyOrder", name := "history", desc := "()I" } : Jvm.MethodName) ({ cls := "AnyOrder", name := "history", desc := "()I" } : Jvm.MethodName), Cond.code ({ cls := "AnyOrder", name := "history", desc := "()I" } : Jvm.MethodName) prog_1_method_29_code (1 : Nat) (Option.some Jvm.ClassFile.FieldType.int), Cond.methodLink "AnyOrderLaw" (134 : Nat) ({ cls := "AnyOrder", name := "fault", desc := "()I" } : Jvm.MethodName), Cond.instanceMethod ({ cls := "AnyOrder", name := "fault", desc := "()I" } : Jvm.MethodName), Cond.selects "AnyOrder" ({ cls := "AnyOrder", name := "fault", desc := "()I" } : Jvm.MethodName) ({ cls := "AnyOrder", name := "fault", desc := "()I" } : Jvm.MethodName), Cond.code ({ cls := "AnyOrder", name := "fault", desc := "()I" } : Jvm.MethodName) prog_1_method_30_code (1 : Nat) (Option.some Jvm.ClassFile.FieldType.int)]
set_option maxRecDepth 20000 in
theorem TDe_17 : TD_17 = (tables_1.drop 816).take 48 := rfl
set_option maxRecDepth 20000 in
theorem tw_816 : (Cond.selects "AnyOrder$ShuffleTable" ({ cls := "AnyOrder$ShuffleTable", name := "plainTelling", desc := "(LAnyOrder$Trail;)I" } : Jvm.MethodName) ({ cls := "AnyOrder$Table", name := "plainTelling", desc := "(LAnyOrder$Trail;)I" } : Jvm.MethodName) : Cond) ∈ TB := TB_d TDe_17 0 rfl rfl
set_option maxRecDepth 20000 in
theorem tw_817 : (Cond.instanceMethod ({ cls := "AnyOrder$Table", name := "plainTelling", desc := "(LAnyOrder$Trail;)I" } : Jvm.MethodName) : Cond) ∈ TB := TB_d TDe_17 1 rfl rfl
set_option maxRecDepth 20000 in
theorem tw_818 : (Cond.code ({ cls := "AnyOrder$Table", name := "plainTelling", desc := "(LAnyOrder$Trail;)I" } : Jvm.MethodName) prog_9_method_3_code (4 : Nat) (Option.some Jvm.ClassFile.FieldType.int) : Cond) ∈ TB := TB_d TDe_17 2 rfl rfl
set_option maxRecDepth 20000 in
theorem tw_819 : (Cond.methodLink "AnyOrder$Table" (24 : Nat) ({ cls := "AnyOrder$Trail", name := "leave", desc := "(I)V" } : Jvm.MethodName) : Cond) ∈ TB := TB_d TDe_17 3 rfl rfl
set_option maxRecDepth 20000 in
theorem tw_820 : (Cond.code ({ cls := "AnyOrder$Table", name := "telling", desc := "(LAnyOrder$Trail;)I" } : Jvm.MethodName) prog_9_method_2_code (2 : Nat) (Option.some Jvm.ClassFile.FieldType.int) : Cond) ∈ TB := TB_d TDe_17 4 rfl rfl
set_option maxRecDepth 20000 in
theorem tw_821 : (Cond.methodLink "AnyOrder$Table" (20 : Nat) ({ cls := "AnyOrder$Table", name := "plainTelling", desc := "(LAnyOrder$Trail;)I" } : Jvm.MethodName) : Cond) ∈ TB := TB_d TDe_17 5 rfl rfl
set_option maxRecDepth 20000 in
theorem tw_822 : (Cond.methodLink "AnyOrderLaw" (122 : Nat) ({ cls := "AnyOrder", name := "weigh", desc := "(I)I" } : Jvm.MethodName) : Cond) ∈ TB := TB_d TDe_17 6 rfl rfl
set_option maxRecDepth 20000 in
theorem tw_823 : (Cond.instanceMethod ({ cls := "AnyOrder", name := "weigh", desc := "(I)I" } : Jvm.MethodName) : Cond) ∈ TB := TB_d TDe_17 7 rfl rfl
set_option maxRecDepth 20000 in
theorem tw_824 : (Cond.selects "AnyOrder" ({ cls := "AnyOrder", name := "weigh", desc := "(I)I" } : Jvm.MethodName) ({ cls := "AnyOrder", name := "weigh", desc := "(I)I" } : Jvm.MethodName) : Cond) ∈ TB := TB_d TDe_17 8 rfl rfl
set_option maxRecDepth 20000 in
theorem tw_825 : (Cond.code ({ cls := "AnyOrder", name := "weigh", desc := "(I)I" } : Jvm.MethodName) prog_1_method_27_code (2 : Nat) (Option.some Jvm.ClassFile.FieldType.int) : Cond) ∈ TB := TB_d TDe_17 9 rfl rfl
set_option maxRecDepth 20000 in
theorem tw_826 : (Cond.methodLink "AnyOrder" (257 : Nat) ({ cls := "AnyOrder$Table", name := "weight", desc := "(LAnyOrder$Trail;)I" } : Jvm.MethodName) : Cond) ∈ TB := TB_d TDe_17 10 rfl rfl
set_option maxRecDepth 20000 in
theorem tw_827 : (Cond.instanceMethod ({ cls := "AnyOrder$Table", name := "weight", desc := "(LAnyOrder$Trail;)I" } : Jvm.MethodName) : Cond) ∈ TB := TB_d TDe_17 11 rfl rfl
set_option maxRecDepth 20000 in
theorem tw_828 : (Cond.selects "AnyOrder$Table" ({ cls := "AnyOrder$Table", name := "weight", desc := "(LAnyOrder$Trail;)I" } : Jvm.MethodName) ({ cls := "AnyOrder$Table", name := "weight", desc := "(LAnyOrder$Trail;)I" } : Jvm.MethodName) : Cond) ∈ TB := TB_d TDe_17 12 rfl rfl
set_option maxRecDepth 20000 in
theorem tw_829 : (Cond.sameMethod "AnyOrder$Table" "AnyOrder$Table" "weight" "(LAnyOrder$Trail;)I" : Cond) ∈ TB := TB_d TDe_17 13 rfl rfl
set_option maxRecDepth 20000 in
theorem tw_830 : (Cond.selects "AnyOrder$EvenTable" ({ cls := "AnyOrder$Table", name := "weight", desc := "(LAnyOrder$Trail;)I" } : Jvm.MethodName) ({ cls := "AnyOrder$Table", name := "weight", desc := "(LAnyOrder$Trail;)I" } : Jvm.MethodName) : Cond) ∈ TB := TB_d TDe_17 14 rfl rfl
set_option maxRecDepth 20000 in
theorem tw_831 : (Cond.selects "AnyOrder$ShuffleTable" ({ cls := "AnyOrder$Table", name := "weight", desc := "(LAnyOrder$Trail;)I" } : Jvm.MethodName) ({ cls := "AnyOrder$ShuffleTable", name := "weight", desc := "(LAnyOrder$Trail;)I" } : Jvm.MethodName) : Cond) ∈ TB := TB_d TDe_17 15 rfl rfl
set_option maxRecDepth 20000 in
theorem tw_832 : (Cond.instanceMethod ({ cls := "AnyOrder$ShuffleTable", name := "weight", desc := "(LAnyOrder$Trail;)I" } : Jvm.MethodName) : Cond) ∈ TB := TB_d TDe_17 16 rfl rfl
set_option maxRecDepth 20000 in
theorem tw_833 : (Cond.code ({ cls := "AnyOrder$ShuffleTable", name := "weight", desc := "(LAnyOrder$Trail;)I" } : Jvm.MethodName) prog_6_method_3_code (2 : Nat) (Option.some Jvm.ClassFile.FieldType.int) : Cond) ∈ TB := TB_d TDe_17 17 rfl rfl
set_option maxRecDepth 20000 in
theorem tw_834 : (Cond.code ({ cls := "AnyOrder$Table", name := "weight", desc := "(LAnyOrder$Trail;)I" } : Jvm.MethodName) prog_9_method_4_code (2 : Nat) (Option.some Jvm.ClassFile.FieldType.int) : Cond) ∈ TB := TB_d TDe_17 18 rfl rfl
set_option maxRecDepth 20000 in
theorem tw_835 : (Cond.methodLink "AnyOrderLaw" (126 : Nat) ({ cls := "AnyOrder", name := "as", desc := "(II)I" } : Jvm.MethodName) : Cond) ∈ TB := TB_d TDe_17 19 rfl rfl
set_option maxRecDepth 20000 in
theorem tw_836 : (Cond.instanceMethod ({ cls := "AnyOrder", name := "as", desc := "(II)I" } : Jvm.MethodName) : Cond) ∈ TB := TB_d TDe_17 20 rfl rfl
set_option maxRecDepth 20000 in
theorem tw_837 : (Cond.selects "AnyOrder" ({ cls := "AnyOrder", name := "as", desc := "(II)I" } : Jvm.MethodName) ({ cls := "AnyOrder", name := "as", desc := "(II)I" } : Jvm.MethodName) : Cond) ∈ TB := TB_d TDe_17 21 rfl rfl
set_option maxRecDepth 20000 in
theorem tw_838 : (Cond.code ({ cls := "AnyOrder", name := "as", desc := "(II)I" } : Jvm.MethodName) prog_1_method_28_code (3 : Nat) (Option.some Jvm.ClassFile.FieldType.int) : Cond) ∈ TB := TB_d TDe_17 22 rfl rfl
set_option maxRecDepth 20000 in
theorem tw_839 : (Cond.methodLink "AnyOrder" (260 : Nat) ({ cls := "AnyOrder", name := "takeAs", desc := "(II)I" } : Jvm.MethodName) : Cond) ∈ TB := TB_d TDe_17 23 rfl rfl
set_option maxRecDepth 20000 in
theorem tw_841 : (Cond.instanceMethod ({ cls := "AnyOrder", name := "takeAs", desc := "(II)I" } : Jvm.MethodName) : Cond) ∈ TB := TB_d TDe_17 25 rfl rfl
set_option maxRecDepth 20000 in
theorem tw_842 : (Cond.code ({ cls := "AnyOrder", name := "takeAs", desc := "(II)I" } : Jvm.MethodName) prog_1_method_45_code (3 : Nat) (Option.some Jvm.ClassFile.FieldType.int) : Cond) ∈ TB := TB_d TDe_17 26 rfl rfl
set_option maxRecDepth 20000 in
theorem tw_843 : (Cond.methodLink "AnyOrder" (316 : Nat) ({ cls := "AnyOrder$Table", name := "isOfKind", desc := "(I)Z" } : Jvm.MethodName) : Cond) ∈ TB := TB_d TDe_17 27 rfl rfl
set_option maxRecDepth 20000 in
theorem tw_844 : (Cond.instanceMethod ({ cls := "AnyOrder$Table", name := "isOfKind", desc := "(I)Z" } : Jvm.MethodName) : Cond) ∈ TB := TB_d TDe_17 28 rfl rfl
set_option maxRecDepth 20000 in
theorem tw_845 : (Cond.selects "AnyOrder$Table" ({ cls := "AnyOrder$Table", name := "isOfKind", desc := "(I)Z" } : Jvm.MethodName) ({ cls := "AnyOrder$Table", name := "isOfKind", desc := "(I)Z" } : Jvm.MethodName) : Cond) ∈ TB := TB_d TDe_17 29 rfl rfl
set_option maxRecDepth 20000 in
theorem tw_846 : (Cond.sameMethod "AnyOrder$Table" "AnyOrder$Table" "isOfKind" "(I)Z" : Cond) ∈ TB := TB_d TDe_17 30 rfl rfl
set_option maxRecDepth 20000 in
theorem tw_847 : (Cond.selects "AnyOrder$EvenTable" ({ cls := "AnyOrder$Table", name := "isOfKind", desc := "(I)Z" } : Jvm.MethodName) ({ cls := "AnyOrder$EvenTable", name := "isOfKind", desc := "(I)Z" } : Jvm.MethodName) : Cond) ∈ TB := TB_d TDe_17 31 rfl rfl
set_option maxRecDepth 20000 in
theorem tw_848 : (Cond.instanceMethod ({ cls := "AnyOrder$EvenTable", name := "isOfKind", desc := "(I)Z" } : Jvm.MethodName) : Cond) ∈ TB := TB_d TDe_17 32 rfl rfl
set_option maxRecDepth 20000 in
theorem tw_849 : (Cond.code ({ cls := "AnyOrder$EvenTable", name := "isOfKind", desc := "(I)Z" } : Jvm.MethodName) prog_3_method_4_code (2 : Nat) (Option.some Jvm.ClassFile.FieldType.boolean) : Cond) ∈ TB := TB_d TDe_17 33 rfl rfl
set_option maxRecDepth 20000 in
theorem tw_850 : (Cond.methodLink "AnyOrder$EvenTable" (37 : Nat) ({ cls := "AnyOrder$Table", name := "isOfKind", desc := "(I)Z" } : Jvm.MethodName) : Cond) ∈ TB := TB_d TDe_17 34 rfl rfl
set_option maxRecDepth 20000 in
theorem tw_851 : (Cond.selects "AnyOrder$ShuffleTable" ({ cls := "AnyOrder$Table", name := "isOfKind", desc := "(I)Z" } : Jvm.MethodName) ({ cls := "AnyOrder$ShuffleTable", name := "isOfKind", desc := "(I)Z" } : Jvm.MethodName) : Cond) ∈ TB := TB_d TDe_17 35 rfl rfl
set_option maxRecDepth 20000 in
theorem tw_852 : (Cond.instanceMethod ({ cls := "AnyOrder$ShuffleTable", name := "isOfKind", desc := "(I)Z" } : Jvm.MethodName) : Cond) ∈ TB := TB_d TDe_17 36 rfl rfl
set_option maxRecDepth 20000 in
theorem tw_853 : (Cond.code ({ cls := "AnyOrder$ShuffleTable", name := "isOfKind", desc := "(I)Z" } : Jvm.MethodName) prog_6_method_4_code (2 : Nat) (Option.some Jvm.ClassFile.FieldType.boolean) : Cond) ∈ TB := TB_d TDe_17 37 rfl rfl
set_option maxRecDepth 20000 in
theorem tw_854 : (Cond.methodLink "AnyOrder$ShuffleTable" (22 : Nat) ({ cls := "AnyOrder$EvenTable", name := "isOfKind", desc := "(I)Z" } : Jvm.MethodName) : Cond) ∈ TB := TB_d TDe_17 38 rfl rfl
set_option maxRecDepth 20000 in
theorem tw_855 : (Cond.code ({ cls := "AnyOrder$Table", name := "isOfKind", desc := "(I)Z" } : Jvm.MethodName) prog_9_method_5_code (2 : Nat) (Option.some Jvm.ClassFile.FieldType.boolean) : Cond) ∈ TB := TB_d TDe_17 39 rfl rfl
set_option maxRecDepth 20000 in
theorem tw_856 : (Cond.methodLink "AnyOrderLaw" (130 : Nat) ({ cls := "AnyOrder", name := "history", desc := "()I" } : Jvm.MethodName) : Cond) ∈ TB := TB_d TDe_17 40 rfl rfl
set_option maxRecDepth 20000 in
theorem tw_857 : (Cond.instanceMethod ({ cls := "AnyOrder", name := "history", desc := "()I" } : Jvm.MethodName) : Cond) ∈ TB := TB_d TDe_17 41 rfl rfl
set_option maxRecDepth 20000 in
theorem tw_858 : (Cond.selects "AnyOrder" ({ cls := "AnyOrder", name := "history", desc := "()I" } : Jvm.MethodName) ({ cls := "AnyOrder", name := "history", desc := "()I" } : Jvm.MethodName) : Cond) ∈ TB := TB_d TDe_17 42 rfl rfl
set_option maxRecDepth 20000 in
theorem tw_859 : (Cond.code ({ cls := "AnyOrder", name := "history", desc := "()I" } : Jvm.MethodName) prog_1_method_29_code (1 : Nat) (Option.some Jvm.ClassFile.FieldType.int) : Cond) ∈ TB := TB_d TDe_17 43 rfl rfl
set_option maxRecDepth 20000 in
theorem tw_860 : (Cond.methodLink "AnyOrderLaw" (134 : Nat) ({ cls := "AnyOrder", name := "fault", desc := "()I" } : Jvm.MethodName) : Cond) ∈ TB := TB_d TDe_17 44 rfl rfl
set_option maxRecDepth 20000 in
theorem tw_861 : (Cond.instanceMethod ({ cls := "AnyOrder", name := "fault", desc := "()I" } : Jvm.MethodName) : Cond) ∈ TB := TB_d TDe_17 45 rfl rfl
set_option maxRecDepth 20000 in
theorem tw_862 : (Cond.selects "AnyOrder" ({ cls := "AnyOrder", name := "fault", desc := "()I" } : Jvm.MethodName) ({ cls := "AnyOrder", name := "fault", desc := "()I" } : Jvm.MethodName) : Cond) ∈ TB := TB_d TDe_17 46 rfl rfl
set_option maxRecDepth 20000 in
theorem tw_863 : (Cond.code ({ cls := "AnyOrder", name := "fault", desc := "()I" } : Jvm.MethodName) prog_1_method_30_code (1 : Nat) (Option.some Jvm.ClassFile.FieldType.int) : Cond) ∈ TB := TB_d TDe_17 47 rfl rfl
def TD_18 : List Cond := [Cond.methodLink "AnyOrderLaw" (138 : Nat) ({ cls := "AnyOrder", name := "told", desc := "(I)I" } : Jvm.MethodName), Cond.instanceMethod ({ cls := "AnyOrder", name := "told", desc := "(I)I" } : Jvm.MethodName), Cond.selects "AnyOrder" ({ cls := "AnyOrder", name := "told", desc := "(I)I" } : Jvm.MethodName) ({ cls := "AnyOrder", name := "told", desc := "(I)I" } : Jvm.MethodName), Cond.code ({ cls := "AnyOrder", name := "told", desc := "(I)I" } : Jvm.MethodName) prog_1_method_31_code (2 : Nat) (Option.some Jvm.ClassFile.FieldType.int), Cond.methodLink "AnyOrder" (269 : Nat) ({ cls := "AnyOrder$Tables", name := "dimension", desc := "()I" } : Jvm.MethodName), Cond.methodLink "AnyOrder" (272 : Nat) ({ cls := "AnyOrder$Tables", name := "countAllowedPairs", desc := "()I" } : Jvm.MethodName), Cond.instanceMethod ({ cls := "AnyOrder$Tables", name := "countAllowedPairs", desc := "()I" } : Jvm.MethodName), Cond.selects "AnyOrder$Tables" ({ cls := "AnyOrder$Tables", name := "countAllowedPairs", desc := "()I" } : Jvm.MethodName) ({ cls := "AnyOrder$Tables", name := "countAllowedPairs", desc := "()I" } : Jvm.MethodName), Cond.code ({ cls := "AnyOrder$Tables", name := "countAllowedPairs", desc := "()I" } : Jvm.MethodName) prog_10_method_19_code (4 : Nat) (Option.some Jvm.ClassFile.FieldType.int), Cond.classLink "AnyOrderLaw" (10 : Nat) "AnyOrderModel", Cond.instantiable "AnyOrderModel" (33 : Nat), Cond.methodLink "AnyOrderLaw" (12 : Nat) ({ cls := "AnyOrderModel", name := "<init>", desc := "()V" } : Jvm.MethodName), Cond.instanceMethod ({ cls := "AnyOrderModel", name := "<init>", desc := "()V" } : Jvm.MethodName), Cond.code ({ cls := "AnyOrderModel", name := "<init>", desc := "()V" } : Jvm.MethodName) prog_14_method_1_code (1 : Nat) (Option.none : Option Jvm.ClassFile.FieldType), Cond.methodLink "AnyOrderModel" (1 : Nat) ({ cls := "java/lang/Object", name := "<init>", desc := "()V" } : Jvm.MethodName), Cond.fieldLink "AnyOrderModel" (76 : Nat) "AnyOrderModel" "fault" "I", Cond.fieldLink "AnyOrderModel" (249 : Nat) "AnyOrderModel" "history" "I", Cond.fieldLink "AnyOrderModel" (7 : Nat) "AnyOrderModel" "wide" "I", Cond.fieldLink "AnyOrderModel" (94 : Nat) "AnyOrderModel" "modulus" "I", Cond.fieldLink "AnyOrderModel" (81 : Nat) "AnyOrderModel" "tables" "I", Cond.fieldLink "AnyOrderModel" (13 : Nat) "AnyOrderModel" "entries" "[I", Cond.fieldLink "AnyOrderModel" (17 : Nat) "AnyOrderModel" "mayNot" "[Z", Cond.fieldLink "AnyOrderModel" (21 : Nat) "AnyOrderModel" "lanes" "[I", Cond.fieldLink "AnyOrderModel" (24 : Nat) "AnyOrderModel" "sheetLong" "[I", Cond.fieldLink "AnyOrderModel" (27 : Nat) "AnyOrderModel" "cells" "[I", Cond.fieldLink "AnyOrderModel" (30 : Nat) "AnyOrderModel" "level" "[J", Cond.fieldLink "AnyOrderModel" (34 : Nat) "AnyOrderModel" "now" "[I", Cond.fieldLink "AnyOrderModel" (37 : Nat) "AnyOrderModel" "ways" "[J", Cond.fieldLink "AnyOrderModel" (40 : Nat) "AnyOrderModel" "moreWays" "[J", Cond.fieldLink "AnyOrderModel" (135 : Nat) "AnyOrderModel" "depth" "I", Cond.fieldLink "AnyOrderModel" (142 : Nat) "AnyOrderModel" "many" "J", Cond.fieldLink "AnyOrderModel" (146 : Nat) "AnyOrderModel" "greatest" "J", Cond.fieldLink "AnyOrderModel" (149 : Nat) "AnyOrderModel" "least" "J", Cond.fieldLink "AnyOrderModel" (152 : Nat) "AnyOrderModel" "noughts" "J", Cond.fieldLink "AnyOrderModel" (43 : Nat) "AnyOrderModel" "great" "[I", Cond.fieldLink "AnyOrderModel" (46 : Nat) "AnyOrderModel" "small" "[I", Cond.fieldLink "AnyOrderModel" (49 : Nat) "AnyOrderModel" "asked" "[I", Cond.fieldLink "AnyOrderModel" (183 : Nat) "AnyOrderModel" "ringMany" "I", Cond.fieldLink "AnyOrderModel" (186 : Nat) "AnyOrderModel" "ringBest" "J", Cond.fieldLink "AnyOrderModel" (52 : Nat) "AnyOrderModel" "ringWord" "[I", Cond.fieldLink "AnyOrderModel" (55 : Nat) "AnyOrderModel" "products" "I", Cond.fieldLink "AnyOrderModel" (58 : Nat) "AnyOrderModel" "product" "[J", Cond.fieldLink "AnyOrderModel" (61 : Nat) "AnyOrderModel" "lengths" "[I", Cond.fieldLink "AnyOrderModel" (64 : Nat) "AnyOrderModel" "heads" "[I", Cond.fieldLink "AnyOrderModel" (67 : Nat) "AnyOrderModel" "chain" "[I", Cond.fieldLink "AnyOrderModel" (97 : Nat) "AnyOrderModel" "words" "I", Cond.fieldLink "AnyOrderModel" (70 : Nat) "AnyOrderModel" "letters" "[I", Cond.fieldLink "AnyOrderModel" (73 : Nat) "AnyOrderModel" "wordLong" "[I"]
set_option maxRecDepth 20000 in
theorem TDe_18 : TD_18 = (tables_1.drop 864).take 48 := rfl
set_option maxRecDepth 20000 in
theorem tw_864 : (Cond.methodLink "AnyOrderLaw" (138 : Nat) ({ cls := "AnyOrder", name := "told", desc := "(I)I" } : Jvm.MethodName) : Cond) ∈ TB := TB_d TDe_18 0 rfl rfl
set_option maxRecDepth 20000 in
theorem tw_865 : (Cond.instanceMethod ({ cls := "AnyOrder", name := "told", desc := "(I)I" } : Jvm.MethodName) : Cond) ∈ TB := TB_d TDe_18 1 rfl rfl
set_option maxRecDepth 20000 in
theorem tw_866 : (Cond.selects "AnyOrder" ({ cls := "AnyOrder", name := "told", desc := "(I)I" } : Jvm.MethodName) ({ cls := "AnyOrder", name := "told", desc := "(I)I" } : Jvm.MethodName) : Cond) ∈ TB := TB_d TDe_18 2 rfl rfl
set_option maxRecDepth 20000 in
theorem tw_867 : (Cond.code ({ cls := "AnyOrder", name := "told", desc := "(I)I" } : Jvm.MethodName) prog_1_method_31_code (2 : Nat) (Option.some Jvm.ClassFile.FieldType.int) : Cond) ∈ TB := TB_d TDe_18 3 rfl rfl
set_option maxRecDepth 20000 in
theorem tw_868 : (Cond.methodLink "AnyOrder" (269 : Nat) ({ cls := "AnyOrder$Tables", name := "dimension", desc := "()I" } : Jvm.MethodName) : Cond) ∈ TB := TB_d TDe_18 4 rfl rfl
set_option maxRecDepth 20000 in
theorem tw_869 : (Cond.methodLink "AnyOrder" (272 : Nat) ({ cls := "AnyOrder$Tables", name := "countAllowedPairs", desc := "()I" } : Jvm.MethodName) : Cond) ∈ TB := TB_d TDe_18 5 rfl rfl
set_option maxRecDepth 20000 in
theorem tw_870 : (Cond.instanceMethod ({ cls := "AnyOrder$Tables", name := "countAllowedPairs", desc := "()I" } : Jvm.MethodName) : Cond) ∈ TB := TB_d TDe_18 6 rfl rfl
set_option maxRecDepth 20000 in
theorem tw_871 : (Cond.selects "AnyOrder$Tables" ({ cls := "AnyOrder$Tables", name := "countAllowedPairs", desc := "()I" } : Jvm.MethodName) ({ cls := "AnyOrder$Tables", name := "countAllowedPairs", desc := "()I" } : Jvm.MethodName) : Cond) ∈ TB := TB_d TDe_18 7 rfl rfl
set_option maxRecDepth 20000 in
theorem tw_872 : (Cond.code ({ cls := "AnyOrder$Tables", name := "countAllowedPairs", desc := "()I" } : Jvm.MethodName) prog_10_method_19_code (4 : Nat) (Option.some Jvm.ClassFile.FieldType.int) : Cond) ∈ TB := TB_d TDe_18 8 rfl rfl
set_option maxRecDepth 20000 in
theorem tw_873 : (Cond.classLink "AnyOrderLaw" (10 : Nat) "AnyOrderModel" : Cond) ∈ TB := TB_d TDe_18 9 rfl rfl
set_option maxRecDepth 20000 in
theorem tw_874 : (Cond.instantiable "AnyOrderModel" (33 : Nat) : Cond) ∈ TB := TB_d TDe_18 10 rfl rfl
set_option maxRecDepth 20000 in
theorem tw_875 : (Cond.methodLink "AnyOrderLaw" (12 : Nat) ({ cls := "AnyOrderModel", name := "<init>", desc := "()V" } : Jvm.MethodName) : Cond) ∈ TB := TB_d TDe_18 11 rfl rfl
set_option maxRecDepth 20000 in
theorem tw_876 : (Cond.instanceMethod ({ cls := "AnyOrderModel", name := "<init>", desc := "()V" } : Jvm.MethodName) : Cond) ∈ TB := TB_d TDe_18 12 rfl rfl
set_option maxRecDepth 20000 in
theorem tw_877 : (Cond.code ({ cls := "AnyOrderModel", name := "<init>", desc := "()V" } : Jvm.MethodName) prog_14_method_1_code (1 : Nat) (Option.none : Option Jvm.ClassFile.FieldType) : Cond) ∈ TB := TB_d TDe_18 13 rfl rfl
set_option maxRecDepth 20000 in
theorem tw_878 : (Cond.methodLink "AnyOrderModel" (1 : Nat) ({ cls := "java/lang/Object", name := "<init>", desc := "()V" } : Jvm.MethodName) : Cond) ∈ TB := TB_d TDe_18 14 rfl rfl
set_option maxRecDepth 20000 in
theorem tw_879 : (Cond.fieldLink "AnyOrderModel" (76 : Nat) "AnyOrderModel" "fault" "I" : Cond) ∈ TB := TB_d TDe_18 15 rfl rfl
set_option maxRecDepth 20000 in
theorem tw_880 : (Cond.fieldLink "AnyOrderModel" (249 : Nat) "AnyOrderModel" "history" "I" : Cond) ∈ TB := TB_d TDe_18 16 rfl rfl
set_option maxRecDepth 20000 in
theorem tw_881 : (Cond.fieldLink "AnyOrderModel" (7 : Nat) "AnyOrderModel" "wide" "I" : Cond) ∈ TB := TB_d TDe_18 17 rfl rfl
set_option maxRecDepth 20000 in
theorem tw_882 : (Cond.fieldLink "AnyOrderModel" (94 : Nat) "AnyOrderModel" "modulus" "I" : Cond) ∈ TB := TB_d TDe_18 18 rfl rfl
set_option maxRecDepth 20000 in
theorem tw_883 : (Cond.fieldLink "AnyOrderModel" (81 : Nat) "AnyOrderModel" "tables" "I" : Cond) ∈ TB := TB_d TDe_18 19 rfl rfl
set_option maxRecDepth 20000 in
theorem tw_884 : (Cond.fieldLink "AnyOrderModel" (13 : Nat) "AnyOrderModel" "entries" "[I" : Cond) ∈ TB := TB_d TDe_18 20 rfl rfl
set_option maxRecDepth 20000 in
theorem tw_885 : (Cond.fieldLink "AnyOrderModel" (17 : Nat) "AnyOrderModel" "mayNot" "[Z" : Cond) ∈ TB := TB_d TDe_18 21 rfl rfl
set_option maxRecDepth 20000 in
theorem tw_886 : (Cond.fieldLink "AnyOrderModel" (21 : Nat) "AnyOrderModel" "lanes" "[I" : Cond) ∈ TB := TB_d TDe_18 22 rfl rfl
set_option maxRecDepth 20000 in
theorem tw_887 : (Cond.fieldLink "AnyOrderModel" (24 : Nat) "AnyOrderModel" "sheetLong" "[I" : Cond) ∈ TB := TB_d TDe_18 23 rfl rfl
set_option maxRecDepth 20000 in
theorem tw_888 : (Cond.fieldLink "AnyOrderModel" (27 : Nat) "AnyOrderModel" "cells" "[I" : Cond) ∈ TB := TB_d TDe_18 24 rfl rfl
set_option maxRecDepth 20000 in
theorem tw_889 : (Cond.fieldLink "AnyOrderModel" (30 : Nat) "AnyOrderModel" "level" "[J" : Cond) ∈ TB := TB_d TDe_18 25 rfl rfl
set_option maxRecDepth 20000 in
theorem tw_890 : (Cond.fieldLink "AnyOrderModel" (34 : Nat) "AnyOrderModel" "now" "[I" : Cond) ∈ TB := TB_d TDe_18 26 rfl rfl
set_option maxRecDepth 20000 in
theorem tw_891 : (Cond.fieldLink "AnyOrderModel" (37 : Nat) "AnyOrderModel" "ways" "[J" : Cond) ∈ TB := TB_d TDe_18 27 rfl rfl
set_option maxRecDepth 20000 in
theorem tw_892 : (Cond.fieldLink "AnyOrderModel" (40 : Nat) "AnyOrderModel" "moreWays" "[J" : Cond) ∈ TB := TB_d TDe_18 28 rfl rfl
set_option maxRecDepth 20000 in
theorem tw_893 : (Cond.fieldLink "AnyOrderModel" (135 : Nat) "AnyOrderModel" "depth" "I" : Cond) ∈ TB := TB_d TDe_18 29 rfl rfl
set_option maxRecDepth 20000 in
theorem tw_894 : (Cond.fieldLink "AnyOrderModel" (142 : Nat) "AnyOrderModel" "many" "J" : Cond) ∈ TB := TB_d TDe_18 30 rfl rfl
set_option maxRecDepth 20000 in
theorem tw_895 : (Cond.fieldLink "AnyOrderModel" (146 : Nat) "AnyOrderModel" "greatest" "J" : Cond) ∈ TB := TB_d TDe_18 31 rfl rfl
set_option maxRecDepth 20000 in
theorem tw_896 : (Cond.fieldLink "AnyOrderModel" (149 : Nat) "AnyOrderModel" "least" "J" : Cond) ∈ TB := TB_d TDe_18 32 rfl rfl
set_option maxRecDepth 20000 in
theorem tw_897 : (Cond.fieldLink "AnyOrderModel" (152 : Nat) "AnyOrderModel" "noughts" "J" : Cond) ∈ TB := TB_d TDe_18 33 rfl rfl
set_option maxRecDepth 20000 in
theorem tw_898 : (Cond.fieldLink "AnyOrderModel" (43 : Nat) "AnyOrderModel" "great" "[I" : Cond) ∈ TB := TB_d TDe_18 34 rfl rfl
set_option maxRecDepth 20000 in
theorem tw_899 : (Cond.fieldLink "AnyOrderModel" (46 : Nat) "AnyOrderModel" "small" "[I" : Cond) ∈ TB := TB_d TDe_18 35 rfl rfl
set_option maxRecDepth 20000 in
theorem tw_900 : (Cond.fieldLink "AnyOrderModel" (49 : Nat) "AnyOrderModel" "asked" "[I" : Cond) ∈ TB := TB_d TDe_18 36 rfl rfl
set_option maxRecDepth 20000 in
theorem tw_901 : (Cond.fieldLink "AnyOrderModel" (183 : Nat) "AnyOrderModel" "ringMany" "I" : Cond) ∈ TB := TB_d TDe_18 37 rfl rfl
set_option maxRecDepth 20000 in
theorem tw_902 : (Cond.fieldLink "AnyOrderModel" (186 : Nat) "AnyOrderModel" "ringBest" "J" : Cond) ∈ TB := TB_d TDe_18 38 rfl rfl
set_option maxRecDepth 20000 in
theorem tw_903 : (Cond.fieldLink "AnyOrderModel" (52 : Nat) "AnyOrderModel" "ringWord" "[I" : Cond) ∈ TB := TB_d TDe_18 39 rfl rfl
set_option maxRecDepth 20000 in
theorem tw_904 : (Cond.fieldLink "AnyOrderModel" (55 : Nat) "AnyOrderModel" "products" "I" : Cond) ∈ TB := TB_d TDe_18 40 rfl rfl
set_option maxRecDepth 20000 in
theorem tw_905 : (Cond.fieldLink "AnyOrderModel" (58 : Nat) "AnyOrderModel" "product" "[J" : Cond) ∈ TB := TB_d TDe_18 41 rfl rfl
set_option maxRecDepth 20000 in
theorem tw_906 : (Cond.fieldLink "AnyOrderModel" (61 : Nat) "AnyOrderModel" "lengths" "[I" : Cond) ∈ TB := TB_d TDe_18 42 rfl rfl
set_option maxRecDepth 20000 in
theorem tw_907 : (Cond.fieldLink "AnyOrderModel" (64 : Nat) "AnyOrderModel" "heads" "[I" : Cond) ∈ TB := TB_d TDe_18 43 rfl rfl
set_option maxRecDepth 20000 in
theorem tw_908 : (Cond.fieldLink "AnyOrderModel" (67 : Nat) "AnyOrderModel" "chain" "[I" : Cond) ∈ TB := TB_d TDe_18 44 rfl rfl
set_option maxRecDepth 20000 in
theorem tw_909 : (Cond.fieldLink "AnyOrderModel" (97 : Nat) "AnyOrderModel" "words" "I" : Cond) ∈ TB := TB_d TDe_18 45 rfl rfl
set_option maxRecDepth 20000 in
theorem tw_910 : (Cond.fieldLink "AnyOrderModel" (70 : Nat) "AnyOrderModel" "letters" "[I" : Cond) ∈ TB := TB_d TDe_18 46 rfl rfl
set_option maxRecDepth 20000 in
theorem tw_911 : (Cond.fieldLink "AnyOrderModel" (73 : Nat) "AnyOrderModel" "wordLong" "[I" : Cond) ∈ TB := TB_d TDe_18 47 rfl rfl
def TD_19 : List Cond := [Cond.lays "AnyOrderModel" "AnyOrderModel" "fault" "I", Cond.soleField "AnyOrderModel" "fault", Cond.lays "AnyOrderModel" "AnyOrderModel" "history" "I", Cond.soleField "AnyOrderModel" "history", Cond.lays "AnyOrderModel" "AnyOrderModel" "wide" "I", Cond.soleField "AnyOrderModel" "wide", Cond.lays "AnyOrderModel" "AnyOrderModel" "modulus" "I", Cond.soleField "AnyOrderModel" "modulus", Cond.lays "AnyOrderModel" "AnyOrderModel" "tables" "I", Cond.soleField "AnyOrderModel" "tables", Cond.laysFinal "AnyOrderModel" "AnyOrderModel" "entries" "[I", Cond.soleField "AnyOrderModel" "entries", Cond.laysFinal "AnyOrderModel" "AnyOrderModel" "mayNot" "[Z", Cond.soleField "AnyOrderModel" "mayNot", Cond.laysFinal "AnyOrderModel" "AnyOrderModel" "lanes" "[I", Cond.soleField "AnyOrderModel" "lanes", Cond.laysFinal "AnyOrderModel" "AnyOrderModel" "sheetLong" "[I", Cond.soleField "AnyOrderModel" "sheetLong", Cond.laysFinal "AnyOrderModel" "AnyOrderModel" "cells" "[I", Cond.soleField "AnyOrderModel" "cells", Cond.laysFinal "AnyOrderModel" "AnyOrderModel" "level" "[J", Cond.soleField "AnyOrderModel" "level", Cond.laysFinal "AnyOrderModel" "AnyOrderModel" "now" "[I", Cond.soleField "AnyOrderModel" "now", Cond.laysFinal "AnyOrderModel" "AnyOrderModel" "ways" "[J", Cond.soleField "AnyOrderModel" "ways", Cond.laysFinal "AnyOrderModel" "AnyOrderModel" "moreWays" "[J", Cond.soleField "AnyOrderModel" "moreWays", Cond.lays "AnyOrderModel" "AnyOrderModel" "depth" "I", Cond.soleField "AnyOrderModel" "depth", Cond.lays "AnyOrderModel" "AnyOrderModel" "many" "J", Cond.soleField "AnyOrderModel" "many", Cond.lays "AnyOrderModel" "AnyOrderModel" "greatest" "J", Cond.soleField "AnyOrderModel" "greatest", Cond.lays "AnyOrderModel" "AnyOrderModel" "least" "J", Cond.soleField "AnyOrderModel" "least", Cond.lays "AnyOrderModel" "AnyOrderModel" "noughts" "J", Cond.soleField "AnyOrderModel" "noughts", Cond.laysFinal "AnyOrderModel" "AnyOrderModel" "great" "[I", Cond.soleField "AnyOrderModel" "great", Cond.laysFinal "AnyOrderModel" "AnyOrderModel" "small" "[I", Cond.soleField "AnyOrderModel" "small", Cond.laysFinal "AnyOrderModel" "AnyOrderModel" "asked" "[I", Cond.soleField "AnyOrderModel" "asked", Cond.lays "AnyOrderModel" "AnyOrderModel" "ringMany" "I", Cond.soleField "AnyOrderModel" "ringMany", Cond.lays "AnyOrderModel" "AnyOrderModel" "ringBest" "J", Cond.soleField "AnyOrderModel" "ringBest"]
set_option maxRecDepth 20000 in
theorem TDe_19 : TD_19 = (tables_1.drop 912).take 48 := rfl
def TD_20 : List Cond := [Cond.laysFinal "AnyOrderModel" "AnyOrderModel" "ringWord" "[I", Cond.soleField "AnyOrderModel" "ringWord", Cond.lays "AnyOrderModel" "AnyOrderModel" "products" "I", Cond.soleField "AnyOrderModel" "products", Cond.laysFinal "AnyOrderModel" "AnyOrderModel" "product" "[J", Cond.soleField "AnyOrderModel" "product", Cond.laysFinal "AnyOrderModel" "AnyOrderModel" "lengths" "[I", Cond.soleField "AnyOrderModel" "lengths", Cond.laysFinal "AnyOrderModel" "AnyOrderModel" "heads" "[I", Cond.soleField "AnyOrderModel" "heads", Cond.laysFinal "AnyOrderModel" "AnyOrderModel" "chain" "[I", Cond.soleField "AnyOrderModel" "chain", Cond.lays "AnyOrderModel" "AnyOrderModel" "words" "I", Cond.soleField "AnyOrderModel" "words", Cond.laysFinal "AnyOrderModel" "AnyOrderModel" "letters" "[I", Cond.soleField "AnyOrderModel" "letters", Cond.laysFinal "AnyOrderModel" "AnyOrderModel" "wordLong" "[I", Cond.soleField "AnyOrderModel" "wordLong", Cond.superclass "AnyOrderModel" "java/lang/Object", Cond.methodLink "AnyOrderLaw" (17 : Nat) ({ cls := "AnyOrderModel", name := "begin", desc := "(II)I" } : Jvm.MethodName), Cond.instanceMethod ({ cls := "AnyOrderModel", name := "begin", desc := "(II)I" } : Jvm.MethodName), Cond.selects "AnyOrderModel" ({ cls := "AnyOrderModel", name := "begin", desc := "(II)I" } : Jvm.MethodName) ({ cls := "AnyOrderModel", name := "begin", desc := "(II)I" } : Jvm.MethodName), Cond.code ({ cls := "AnyOrderModel", name := "begin", desc := "(II)I" } : Jvm.MethodName) prog_14_method_9_code (4 : Nat) (Option.some Jvm.ClassFile.FieldType.int), Cond.constantLong "AnyOrderModel" (88 : Nat) (2 : Int64), Cond.constantLong "AnyOrderModel" (90 : Nat) (3 : Int64), Cond.methodLink "AnyOrderModel" (84 : Nat) ({ cls := "AnyOrderModel", name := "within", desc := "(JJJ)Z" } : Jvm.MethodName), Cond.static ({ cls := "AnyOrderModel", name := "within", desc := "(JJJ)Z" } : Jvm.MethodName), Cond.code ({ cls := "AnyOrderModel", name := "within", desc := "(JJJ)Z" } : Jvm.MethodName) prog_14_method_5_code (6 : Nat) (Option.some Jvm.ClassFile.FieldType.boolean), Cond.constantLong "AnyOrderModel" (92 : Nat) (97 : Int64), Cond.methodLink "AnyOrderLaw" (22 : Nat) ({ cls := "AnyOrderModel", name := "table", desc := "(III)I" } : Jvm.MethodName), Cond.instanceMethod ({ cls := "AnyOrderModel", name := "table", desc := "(III)I" } : Jvm.MethodName), Cond.selects "AnyOrderModel" ({ cls := "AnyOrderModel", name := "table", desc := "(III)I" } : Jvm.MethodName) ({ cls := "AnyOrderModel", name := "table", desc := "(III)I" } : Jvm.MethodName), Cond.code ({ cls := "AnyOrderModel", name := "table", desc := "(III)I" } : Jvm.MethodName) prog_14_method_11_code (6 : Nat) (Option.some Jvm.ClassFile.FieldType.int), Cond.methodLink "AnyOrderModel" (104 : Nat) ({ cls := "AnyOrderModel", name := "against", desc := "(II)I" } : Jvm.MethodName), Cond.privateMethod ({ cls := "AnyOrderModel", name := "against", desc := "(II)I" } : Jvm.MethodName), Cond.instanceMethod ({ cls := "AnyOrderModel", name := "against", desc := "(II)I" } : Jvm.MethodName), Cond.code ({ cls := "AnyOrderModel", name := "against", desc := "(II)I" } : Jvm.MethodName) prog_14_method_10_code (3 : Nat) (Option.some Jvm.ClassFile.FieldType.int), Cond.methodLink "AnyOrderModel" (100 : Nat) ({ cls := "AnyOrderModel", name := "fails", desc := "(I)I" } : Jvm.MethodName), Cond.privateMethod ({ cls := "AnyOrderModel", name := "fails", desc := "(I)I" } : Jvm.MethodName), Cond.instanceMethod ({ cls := "AnyOrderModel", name := "fails", desc := "(I)I" } : Jvm.MethodName), Cond.code ({ cls := "AnyOrderModel", name := "fails", desc := "(I)I" } : Jvm.MethodName) prog_14_method_3_code (2 : Nat) (Option.some Jvm.ClassFile.FieldType.int), Cond.constantLong "AnyOrderModel" (108 : Nat) (-9 : Int64), Cond.constantLong "AnyOrderModel" (110 : Nat) (9 : Int64), Cond.methodLink "AnyOrderLaw" (27 : Nat) ({ cls := "AnyOrderModel", name := "entry", desc := "(III)J" } : Jvm.MethodName), Cond.instanceMethod ({ cls := "AnyOrderModel", name := "entry", desc := "(III)J" } : Jvm.MethodName), Cond.selects "AnyOrderModel" ({ cls := "AnyOrderModel", name := "entry", desc := "(III)J" } : Jvm.MethodName) ({ cls := "AnyOrderModel", name := "entry", desc := "(III)J" } : Jvm.MethodName), Cond.code ({ cls := "AnyOrderModel", name := "entry", desc := "(III)J" } : Jvm.MethodName) prog_14_method_12_code (4 : Nat) (Option.some Jvm.ClassFile.FieldType.long), Cond.methodLink "AnyOrderModel" (112 : Nat) ({ cls := "AnyOrderModel", name := "isTable", desc := "(I)Z" } : Jvm.MethodName)]
set_option maxRecDepth 20000 in
theorem TDe_20 : TD_20 = (tables_1.drop 960).take 48 := rfl
set_option maxRecDepth 20000 in
theorem tw_979 : (Cond.methodLink "AnyOrderLaw" (17 : Nat) ({ cls := "AnyOrderModel", name := "begin", desc := "(II)I" } : Jvm.MethodName) : Cond) ∈ TB := TB_d TDe_20 19 rfl rfl
set_option maxRecDepth 20000 in
theorem tw_980 : (Cond.instanceMethod ({ cls := "AnyOrderModel", name := "begin", desc := "(II)I" } : Jvm.MethodName) : Cond) ∈ TB := TB_d TDe_20 20 rfl rfl
set_option maxRecDepth 20000 in
theorem tw_981 : (Cond.selects "AnyOrderModel" ({ cls := "AnyOrderModel", name := "begin", desc := "(II)I" } : Jvm.MethodName) ({ cls := "AnyOrderModel", name := "begin", desc := "(II)I" } : Jvm.MethodName) : Cond) ∈ TB := TB_d TDe_20 21 rfl rfl
set_option maxRecDepth 20000 in
theorem tw_982 : (Cond.code ({ cls := "AnyOrderModel", name := "begin", desc := "(II)I" } : Jvm.MethodName) prog_14_method_9_code (4 : Nat) (Option.some Jvm.ClassFile.FieldType.int) : Cond) ∈ TB := TB_d TDe_20 22 rfl rfl
set_option maxRecDepth 20000 in
theorem tw_983 : (Cond.constantLong "AnyOrderModel" (88 : Nat) (2 : Int64) : Cond) ∈ TB := TB_d TDe_20 23 rfl rfl
set_option maxRecDepth 20000 in
theorem tw_984 : (Cond.constantLong "AnyOrderModel" (90 : Nat) (3 : Int64) : Cond) ∈ TB := TB_d TDe_20 24 rfl rfl
set_option maxRecDepth 20000 in
theorem tw_985 : (Cond.methodLink "AnyOrderModel" (84 : Nat) ({ cls := "AnyOrderModel", name := "within", desc := "(JJJ)Z" } : Jvm.MethodName) : Cond) ∈ TB := TB_d TDe_20 25 rfl rfl
set_option maxRecDepth 20000 in
theorem tw_986 : (Cond.static ({ cls := "AnyOrderModel", name := "within", desc := "(JJJ)Z" } : Jvm.MethodName) : Cond) ∈ TB := TB_d TDe_20 26 rfl rfl
set_option maxRecDepth 20000 in
theorem tw_987 : (Cond.code ({ cls := "AnyOrderModel", name := "within", desc := "(JJJ)Z" } : Jvm.MethodName) prog_14_method_5_code (6 : Nat) (Option.some Jvm.ClassFile.FieldType.boolean) : Cond) ∈ TB := TB_d TDe_20 27 rfl rfl
set_option maxRecDepth 20000 in
theorem tw_988 : (Cond.constantLong "AnyOrderModel" (92 : Nat) (97 : Int64) : Cond) ∈ TB := TB_d TDe_20 28 rfl rfl
set_option maxRecDepth 20000 in
theorem tw_989 : (Cond.methodLink "AnyOrderLaw" (22 : Nat) ({ cls := "AnyOrderModel", name := "table", desc := "(III)I" } : Jvm.MethodName) : Cond) ∈ TB := TB_d TDe_20 29 rfl rfl
set_option maxRecDepth 20000 in
theorem tw_990 : (Cond.instanceMethod ({ cls := "AnyOrderModel", name := "table", desc := "(III)I" } : Jvm.MethodName) : Cond) ∈ TB := TB_d TDe_20 30 rfl rfl
set_option maxRecDepth 20000 in
theorem tw_991 : (Cond.selects "AnyOrderModel" ({ cls := "AnyOrderModel", name := "table", desc := "(III)I" } : Jvm.MethodName) ({ cls := "AnyOrderModel", name := "table", desc := "(III)I" } : Jvm.MethodName) : Cond) ∈ TB := TB_d TDe_20 31 rfl rfl
set_option maxRecDepth 20000 in
theorem tw_992 : (Cond.code ({ cls := "AnyOrderModel", name := "table", desc := "(III)I" } : Jvm.MethodName) prog_14_method_11_code (6 : Nat) (Option.some Jvm.ClassFile.FieldType.int) : Cond) ∈ TB := TB_d TDe_20 32 rfl rfl
set_option maxRecDepth 20000 in
theorem tw_993 : (Cond.methodLink "AnyOrderModel" (104 : Nat) ({ cls := "AnyOrderModel", name := "against", desc := "(II)I" } : Jvm.MethodName) : Cond) ∈ TB := TB_d TDe_20 33 rfl rfl
set_option maxRecDepth 20000 in
theorem tw_995 : (Cond.instanceMethod ({ cls := "AnyOrderModel", name := "against", desc := "(II)I" } : Jvm.MethodName) : Cond) ∈ TB := TB_d TDe_20 35 rfl rfl
set_option maxRecDepth 20000 in
theorem tw_996 : (Cond.code ({ cls := "AnyOrderModel", name := "against", desc := "(II)I" } : Jvm.MethodName) prog_14_method_10_code (3 : Nat) (Option.some Jvm.ClassFile.FieldType.int) : Cond) ∈ TB := TB_d TDe_20 36 rfl rfl
set_option maxRecDepth 20000 in
theorem tw_997 : (Cond.methodLink "AnyOrderModel" (100 : Nat) ({ cls := "AnyOrderModel", name := "fails", desc := "(I)I" } : Jvm.MethodName) : Cond) ∈ TB := TB_d TDe_20 37 rfl rfl
set_option maxRecDepth 20000 in
theorem tw_999 : (Cond.instanceMethod ({ cls := "AnyOrderModel", name := "fails", desc := "(I)I" } : Jvm.MethodName) : Cond) ∈ TB := TB_d TDe_20 39 rfl rfl
set_option maxRecDepth 20000 in
theorem tw_1000 : (Cond.code ({ cls := "AnyOrderModel", name := "fails", desc := "(I)I" } : Jvm.MethodName) prog_14_method_3_code (2 : Nat) (Option.some Jvm.ClassFile.FieldType.int) : Cond) ∈ TB := TB_d TDe_20 40 rfl rfl
set_option maxRecDepth 20000 in
theorem tw_1001 : (Cond.constantLong "AnyOrderModel" (108 : Nat) (-9 : Int64) : Cond) ∈ TB := TB_d TDe_20 41 rfl rfl
set_option maxRecDepth 20000 in
theorem tw_1002 : (Cond.constantLong "AnyOrderModel" (110 : Nat) (9 : Int64) : Cond) ∈ TB := TB_d TDe_20 42 rfl rfl
set_option maxRecDepth 20000 in
theorem tw_1003 : (Cond.methodLink "AnyOrderLaw" (27 : Nat) ({ cls := "AnyOrderModel", name := "entry", desc := "(III)J" } : Jvm.MethodName) : Cond) ∈ TB := TB_d TDe_20 43 rfl rfl
set_option maxRecDepth 20000 in
theorem tw_1004 : (Cond.instanceMethod ({ cls := "AnyOrderModel", name := "entry", desc := "(III)J" } : Jvm.MethodName) : Cond) ∈ TB := TB_d TDe_20 44 rfl rfl
set_option maxRecDepth 20000 in
theorem tw_1005 : (Cond.selects "AnyOrderModel" ({ cls := "AnyOrderModel", name := "entry", desc := "(III)J" } : Jvm.MethodName) ({ cls := "AnyOrderModel", name := "entry", desc := "(III)J" } : Jvm.MethodName) : Cond) ∈ TB := TB_d TDe_20 45 rfl rfl
set_option maxRecDepth 20000 in
theorem tw_1006 : (Cond.code ({ cls := "AnyOrderModel", name := "entry", desc := "(III)J" } : Jvm.MethodName) prog_14_method_12_code (4 : Nat) (Option.some Jvm.ClassFile.FieldType.long) : Cond) ∈ TB := TB_d TDe_20 46 rfl rfl
set_option maxRecDepth 20000 in
theorem tw_1007 : (Cond.methodLink "AnyOrderModel" (112 : Nat) ({ cls := "AnyOrderModel", name := "isTable", desc := "(I)Z" } : Jvm.MethodName) : Cond) ∈ TB := TB_d TDe_20 47 rfl rfl
def TD_21 : List Cond := [Cond.privateMethod ({ cls := "AnyOrderModel", name := "isTable", desc := "(I)Z" } : Jvm.MethodName), Cond.instanceMethod ({ cls := "AnyOrderModel", name := "isTable", desc := "(I)Z" } : Jvm.MethodName), Cond.code ({ cls := "AnyOrderModel", name := "isTable", desc := "(I)Z" } : Jvm.MethodName) prog_14_method_7_code (2 : Nat) (Option.some Jvm.ClassFile.FieldType.boolean), Cond.methodLink "AnyOrderModel" (116 : Nat) ({ cls := "AnyOrderModel", name := "isPlace", desc := "(II)Z" } : Jvm.MethodName), Cond.privateMethod ({ cls := "AnyOrderModel", name := "isPlace", desc := "(II)Z" } : Jvm.MethodName), Cond.instanceMethod ({ cls := "AnyOrderModel", name := "isPlace", desc := "(II)Z" } : Jvm.MethodName), Cond.code ({ cls := "AnyOrderModel", name := "isPlace", desc := "(II)Z" } : Jvm.MethodName) prog_14_method_8_code (3 : Nat) (Option.some Jvm.ClassFile.FieldType.boolean), Cond.constantLong "AnyOrderModel" (79 : Nat) (-9223372036854775808 : Int64), Cond.methodLink "AnyOrderLaw" (32 : Nat) ({ cls := "AnyOrderModel", name := "may", desc := "(IIZ)I" } : Jvm.MethodName), Cond.instanceMethod ({ cls := "AnyOrderModel", name := "may", desc := "(IIZ)I" } : Jvm.MethodName), Cond.selects "AnyOrderModel" ({ cls := "AnyOrderModel", name := "may", desc := "(IIZ)I" } : Jvm.MethodName) ({ cls := "AnyOrderModel", name := "may", desc := "(IIZ)I" } : Jvm.MethodName), Cond.code ({ cls := "AnyOrderModel", name := "may", desc := "(IIZ)I" } : Jvm.MethodName) prog_14_method_13_code (5 : Nat) (Option.some Jvm.ClassFile.FieldType.int), Cond.methodLink "AnyOrderLaw" (37 : Nat) ({ cls := "AnyOrderModel", name := "length", desc := "(II)J" } : Jvm.MethodName), Cond.instanceMethod ({ cls := "AnyOrderModel", name := "length", desc := "(II)J" } : Jvm.MethodName), Cond.selects "AnyOrderModel" ({ cls := "AnyOrderModel", name := "length", desc := "(II)J" } : Jvm.MethodName) ({ cls := "AnyOrderModel", name := "length", desc := "(II)J" } : Jvm.MethodName), Cond.code ({ cls := "AnyOrderModel", name := "length", desc := "(II)J" } : Jvm.MethodName) prog_14_method_24_code (3 : Nat) (Option.some Jvm.ClassFile.FieldType.long), Cond.constantLong "AnyOrderModel" (165 : Nat) (8 : Int64), Cond.methodLink "AnyOrderModel" (167 : Nat) ({ cls := "AnyOrderModel", name := "isSpent", desc := "(I)Z" } : Jvm.MethodName), Cond.privateMethod ({ cls := "AnyOrderModel", name := "isSpent", desc := "(I)Z" } : Jvm.MethodName), Cond.instanceMethod ({ cls := "AnyOrderModel", name := "isSpent", desc := "(I)Z" } : Jvm.MethodName), Cond.code ({ cls := "AnyOrderModel", name := "isSpent", desc := "(I)Z" } : Jvm.MethodName) prog_14_method_20_code (5 : Nat) (Option.some Jvm.ClassFile.FieldType.boolean), Cond.methodLink "AnyOrderModel" (127 : Nat) ({ cls := "AnyOrderModel", name := "mayFollow", desc := "(II)Z" } : Jvm.MethodName), Cond.privateMethod ({ cls := "AnyOrderModel", name := "mayFollow", desc := "(II)Z" } : Jvm.MethodName), Cond.instanceMethod ({ cls := "AnyOrderModel", name := "mayFollow", desc := "(II)Z" } : Jvm.MethodName), Cond.code ({ cls := "AnyOrderModel", name := "mayFollow", desc := "(II)Z" } : Jvm.MethodName) prog_14_method_14_code (3 : Nat) (Option.some Jvm.ClassFile.FieldType.boolean), Cond.constantLong "AnyOrderModel" (130 : Nat) (20000 : Int64), Cond.methodLink "AnyOrderModel" (170 : Nat) ({ cls := "AnyOrderModel", name := "goThrough", desc := "(I)V" } : Jvm.MethodName), Cond.privateMethod ({ cls := "AnyOrderModel", name := "goThrough", desc := "(I)V" } : Jvm.MethodName), Cond.instanceMethod ({ cls := "AnyOrderModel", name := "goThrough", desc := "(I)V" } : Jvm.MethodName), Cond.code ({ cls := "AnyOrderModel", name := "goThrough", desc := "(I)V" } : Jvm.MethodName) prog_14_method_23_code (5 : Nat) (Option.none : Option Jvm.ClassFile.FieldType), Cond.methodLink "AnyOrderModel" (155 : Nat) ({ cls := "AnyOrderModel", name := "beginWords", desc := "()V" } : Jvm.MethodName), Cond.privateMethod ({ cls := "AnyOrderModel", name := "beginWords", desc := "()V" } : Jvm.MethodName), Cond.instanceMethod ({ cls := "AnyOrderModel", name := "beginWords", desc := "()V" } : Jvm.MethodName), Cond.code ({ cls := "AnyOrderModel", name := "beginWords", desc := "()V" } : Jvm.MethodName) prog_14_method_21_code (1 : Nat) (Option.none : Option Jvm.ClassFile.FieldType), Cond.methodLink "AnyOrderModel" (132 : Nat) ({ cls := "AnyOrderModel", name := "beginLevels", desc := "()V" } : Jvm.MethodName), Cond.privateMethod ({ cls := "AnyOrderModel", name := "beginLevels", desc := "()V" } : Jvm.MethodName), Cond.instanceMethod ({ cls := "AnyOrderModel", name := "beginLevels", desc := "()V" } : Jvm.MethodName), Cond.code ({ cls := "AnyOrderModel", name := "beginLevels", desc := "()V" } : Jvm.MethodName) prog_14_method_16_code (3 : Nat) (Option.none : Option Jvm.ClassFile.FieldType), Cond.methodLink "AnyOrderModel" (158 : Nat) ({ cls := "AnyOrderModel", name := "next", desc := "(I)Z" } : Jvm.MethodName), Cond.privateMethod ({ cls := "AnyOrderModel", name := "next", desc := "(I)Z" } : Jvm.MethodName), Cond.instanceMethod ({ cls := "AnyOrderModel", name := "next", desc := "(I)Z" } : Jvm.MethodName), Cond.code ({ cls := "AnyOrderModel", name := "next", desc := "(I)Z" } : Jvm.MethodName) prog_14_method_22_code (2 : Nat) (Option.some Jvm.ClassFile.FieldType.boolean), Cond.methodLink "AnyOrderModel" (138 : Nat) ({ cls := "AnyOrderModel", name := "goOn", desc := "(II)V" } : Jvm.MethodName), Cond.privateMethod ({ cls := "AnyOrderModel", name := "goOn", desc := "(II)V" } : Jvm.MethodName), Cond.instanceMethod ({ cls := "AnyOrderModel", name := "goOn", desc := "(II)V" } : Jvm.MethodName), Cond.code ({ cls := "AnyOrderModel", name := "goOn", desc := "(II)V" } : Jvm.MethodName) prog_14_method_17_code (8 : Nat) (Option.none : Option Jvm.ClassFile.FieldType), Cond.methodLink "AnyOrderModel" (120 : Nat) ({ cls := "AnyOrderModel", name := "rest", desc := "(J)J" } : Jvm.MethodName), Cond.privateMethod ({ cls := "AnyOrderModel", name := "rest", desc := "(J)J" } : Jvm.MethodName)]
set_option maxRecDepth 20000 in
theorem TDe_21 : TD_21 = (tables_1.drop 1008).take 48 := rfl
set_option maxRecDepth 20000 in
theorem tw_1009 : (Cond.instanceMethod ({ cls := "AnyOrderModel", name := "isTable", desc := "(I)Z" } : Jvm.MethodName) : Cond) ∈ TB := TB_d TDe_21 1 rfl rfl
set_option maxRecDepth 20000 in
theorem tw_1010 : (Cond.code ({ cls := "AnyOrderModel", name := "isTable", desc := "(I)Z" } : Jvm.MethodName) prog_14_method_7_code (2 : Nat) (Option.some Jvm.ClassFile.FieldType.boolean) : Cond) ∈ TB := TB_d TDe_21 2 rfl rfl
set_option maxRecDepth 20000 in
theorem tw_1011 : (Cond.methodLink "AnyOrderModel" (116 : Nat) ({ cls := "AnyOrderModel", name := "isPlace", desc := "(II)Z" } : Jvm.MethodName) : Cond) ∈ TB := TB_d TDe_21 3 rfl rfl
set_option maxRecDepth 20000 in
theorem tw_1013 : (Cond.instanceMethod ({ cls := "AnyOrderModel", name := "isPlace", desc := "(II)Z" } : Jvm.MethodName) : Cond) ∈ TB := TB_d TDe_21 5 rfl rfl
set_option maxRecDepth 20000 in
theorem tw_1014 : (Cond.code ({ cls := "AnyOrderModel", name := "isPlace", desc := "(II)Z" } : Jvm.MethodName) prog_14_method_8_code (3 : Nat) (Option.some Jvm.ClassFile.FieldType.boolean) : Cond) ∈ TB := TB_d TDe_21 6 rfl rfl
set_option maxRecDepth 20000 in
theorem tw_1015 : (Cond.constantLong "AnyOrderModel" (79 : Nat) (-9223372036854775808 : Int64) : Cond) ∈ TB := TB_d TDe_21 7 rfl rfl
set_option maxRecDepth 20000 in
theorem tw_1016 : (Cond.methodLink "AnyOrderLaw" (32 : Nat) ({ cls := "AnyOrderModel", name := "may", desc := "(IIZ)I" } : Jvm.MethodName) : Cond) ∈ TB := TB_d TDe_21 8 rfl rfl
set_option maxRecDepth 20000 in
theorem tw_1017 : (Cond.instanceMethod ({ cls := "AnyOrderModel", name := "may", desc := "(IIZ)I" } : Jvm.MethodName) : Cond) ∈ TB := TB_d TDe_21 9 rfl rfl
set_option maxRecDepth 20000 in
theorem tw_1018 : (Cond.selects "AnyOrderModel" ({ cls := "AnyOrderModel", name := "may", desc := "(IIZ)I" } : Jvm.MethodName) ({ cls := "AnyOrderModel", name := "may", desc := "(IIZ)I" } : Jvm.MethodName) : Cond) ∈ TB := TB_d TDe_21 10 rfl rfl
set_option maxRecDepth 20000 in
theorem tw_1019 : (Cond.code ({ cls := "AnyOrderModel", name := "may", desc := "(IIZ)I" } : Jvm.MethodName) prog_14_method_13_code (5 : Nat) (Option.some Jvm.ClassFile.FieldType.int) : Cond) ∈ TB := TB_d TDe_21 11 rfl rfl
set_option maxRecDepth 20000 in
theorem tw_1020 : (Cond.methodLink "AnyOrderLaw" (37 : Nat) ({ cls := "AnyOrderModel", name := "length", desc := "(II)J" } : Jvm.MethodName) : Cond) ∈ TB := TB_d TDe_21 12 rfl rfl
set_option maxRecDepth 20000 in
theorem tw_1021 : (Cond.instanceMethod ({ cls := "AnyOrderModel", name := "length", desc := "(II)J" } : Jvm.MethodName) : Cond) ∈ TB := TB_d TDe_21 13 rfl rfl
set_option maxRecDepth 20000 in
theorem tw_1022 : (Cond.selects "AnyOrderModel" ({ cls := "AnyOrderModel", name := "length", desc := "(II)J" } : Jvm.MethodName) ({ cls := "AnyOrderModel", name := "length", desc := "(II)J" } : Jvm.MethodName) : Cond) ∈ TB := TB_d TDe_21 14 rfl rfl
set_option maxRecDepth 20000 in
theorem tw_1023 : (Cond.code ({ cls := "AnyOrderModel", name := "length", desc := "(II)J" } : Jvm.MethodName) prog_14_method_24_code (3 : Nat) (Option.some Jvm.ClassFile.FieldType.long) : Cond) ∈ TB := TB_d TDe_21 15 rfl rfl
set_option maxRecDepth 20000 in
theorem tw_1024 : (Cond.constantLong "AnyOrderModel" (165 : Nat) (8 : Int64) : Cond) ∈ TB := TB_d TDe_21 16 rfl rfl
set_option maxRecDepth 20000 in
theorem tw_1025 : (Cond.methodLink "AnyOrderModel" (167 : Nat) ({ cls := "AnyOrderModel", name := "isSpent", desc := "(I)Z" } : Jvm.MethodName) : Cond) ∈ TB := TB_d TDe_21 17 rfl rfl
set_option maxRecDepth 20000 in
theorem tw_1027 : (Cond.instanceMethod ({ cls := "AnyOrderModel", name := "isSpent", desc := "(I)Z" } : Jvm.MethodName) : Cond) ∈ TB := TB_d TDe_21 19 rfl rfl
set_option maxRecDepth 20000 in
theorem tw_1028 : (Cond.code ({ cls := "AnyOrderModel", name := "isSpent", desc := "(I)Z" } : Jvm.MethodName) prog_14_method_20_code (5 : Nat) (Option.some Jvm.ClassFile.FieldType.boolean) : Cond) ∈ TB := TB_d TDe_21 20 rfl rfl
set_option maxRecDepth 20000 in
theorem tw_1029 : (Cond.methodLink "AnyOrderModel" (127 : Nat) ({ cls := "AnyOrderModel", name := "mayFollow", desc := "(II)Z" } : Jvm.MethodName) : Cond) ∈ TB := TB_d TDe_21 21 rfl rfl
set_option maxRecDepth 20000 in
theorem tw_1031 : (Cond.instanceMethod ({ cls := "AnyOrderModel", name := "mayFollow", desc := "(II)Z" } : Jvm.MethodName) : Cond) ∈ TB := TB_d TDe_21 23 rfl rfl
set_option maxRecDepth 20000 in
theorem tw_1032 : (Cond.code ({ cls := "AnyOrderModel", name := "mayFollow", desc := "(II)Z" } : Jvm.MethodName) prog_14_method_14_code (3 : Nat) (Option.some Jvm.ClassFile.FieldType.boolean) : Cond) ∈ TB := TB_d TDe_21 24 rfl rfl
set_option maxRecDepth 20000 in
theorem tw_1033 : (Cond.constantLong "AnyOrderModel" (130 : Nat) (20000 : Int64) : Cond) ∈ TB := TB_d TDe_21 25 rfl rfl
set_option maxRecDepth 20000 in
theorem tw_1034 : (Cond.methodLink "AnyOrderModel" (170 : Nat) ({ cls := "AnyOrderModel", name := "goThrough", desc := "(I)V" } : Jvm.MethodName) : Cond) ∈ TB := TB_d TDe_21 26 rfl rfl
set_option maxRecDepth 20000 in
theorem tw_1036 : (Cond.instanceMethod ({ cls := "AnyOrderModel", name := "goThrough", desc := "(I)V" } : Jvm.MethodName) : Cond) ∈ TB := TB_d TDe_21 28 rfl rfl
set_option maxRecDepth 20000 in
theorem tw_1037 : (Cond.code ({ cls := "AnyOrderModel", name := "goThrough", desc := "(I)V" } : Jvm.MethodName) prog_14_method_23_code (5 : Nat) (Option.none : Option Jvm.ClassFile.FieldType) : Cond) ∈ TB := TB_d TDe_21 29 rfl rfl
set_option maxRecDepth 20000 in
theorem tw_1038 : (Cond.methodLink "AnyOrderModel" (155 : Nat) ({ cls := "AnyOrderModel", name := "beginWords", desc := "()V" } : Jvm.MethodName) : Cond) ∈ TB := TB_d TDe_21 30 rfl rfl
set_option maxRecDepth 20000 in
theorem tw_1040 : (Cond.instanceMethod ({ cls := "AnyOrderModel", name := "beginWords", desc := "()V" } : Jvm.MethodName) : Cond) ∈ TB := TB_d TDe_21 32 rfl rfl
set_option maxRecDepth 20000 in
theorem tw_1041 : (Cond.code ({ cls := "AnyOrderModel", name := "beginWords", desc := "()V" } : Jvm.MethodName) prog_14_method_21_code (1 : Nat) (Option.none : Option Jvm.ClassFile.FieldType) : Cond) ∈ TB := TB_d TDe_21 33 rfl rfl
set_option maxRecDepth 20000 in
theorem tw_1042 : (Cond.methodLink "AnyOrderModel" (132 : Nat) ({ cls := "AnyOrderModel", name := "beginLevels", desc := "()V" } : Jvm.MethodName) : Cond) ∈ TB := TB_d TDe_21 34 rfl rfl
set_option maxRecDepth 20000 in
theorem tw_1044 : (Cond.instanceMethod ({ cls := "AnyOrderModel", name := "beginLevels", desc := "()V" } : Jvm.MethodName) : Cond) ∈ TB := TB_d TDe_21 36 rfl rfl
set_option maxRecDepth 20000 in
theorem tw_1045 : (Cond.code ({ cls := "AnyOrderModel", name := "beginLevels", desc := "()V" } : Jvm.MethodName) prog_14_method_16_code (3 : Nat) (Option.none : Option Jvm.ClassFile.FieldType) : Cond) ∈ TB := TB_d TDe_21 37 rfl rfl
set_option maxRecDepth 20000 in
theorem tw_1046 : (Cond.methodLink "AnyOrderModel" (158 : Nat) ({ cls := "AnyOrderModel", name := "next", desc := "(I)Z" } : Jvm.MethodName) : Cond) ∈ TB := TB_d TDe_21 38 rfl rfl
set_option maxRecDepth 20000 in
theorem tw_1048 : (Cond.instanceMethod ({ cls := "AnyOrderModel", name := "next", desc := "(I)Z" } : Jvm.MethodName) : Cond) ∈ TB := TB_d TDe_21 40 rfl rfl
set_option maxRecDepth 20000 in
theorem tw_1049 : (Cond.code ({ cls := "AnyOrderModel", name := "next", desc := "(I)Z" } : Jvm.MethodName) prog_14_method_22_code (2 : Nat) (Option.some Jvm.ClassFile.FieldType.boolean) : Cond) ∈ TB := TB_d TDe_21 41 rfl rfl
set_option maxRecDepth 20000 in
theorem tw_1050 : (Cond.methodLink "AnyOrderModel" (138 : Nat) ({ cls := "AnyOrderModel", name := "goOn", desc := "(II)V" } : Jvm.MethodName) : Cond) ∈ TB := TB_d TDe_21 42 rfl rfl
set_option maxRecDepth 20000 in
theorem tw_1052 : (Cond.instanceMethod ({ cls := "AnyOrderModel", name := "goOn", desc := "(II)V" } : Jvm.MethodName) : Cond) ∈ TB := TB_d TDe_21 44 rfl rfl
set_option maxRecDepth 20000 in
theorem tw_1053 : (Cond.code ({ cls := "AnyOrderModel", name := "goOn", desc := "(II)V" } : Jvm.MethodName) prog_14_method_17_code (8 : Nat) (Option.none : Option Jvm.ClassFile.FieldType) : Cond) ∈ TB := TB_d TDe_21 45 rfl rfl
set_option maxRecDepth 20000 in
theorem tw_1054 : (Cond.methodLink "AnyOrderModel" (120 : Nat) ({ cls := "AnyOrderModel", name := "rest", desc := "(J)J" } : Jvm.MethodName) : Cond) ∈ TB := TB_d TDe_21 46 rfl rfl
def TD_22 : List Cond := [Cond.instanceMethod ({ cls := "AnyOrderModel", name := "rest", desc := "(J)J" } : Jvm.MethodName), Cond.code ({ cls := "AnyOrderModel", name := "rest", desc := "(J)J" } : Jvm.MethodName) prog_14_method_15_code (3 : Nat) (Option.some Jvm.ClassFile.FieldType.long), Cond.methodLink "AnyOrderModel" (161 : Nat) ({ cls := "AnyOrderModel", name := "normAt", desc := "(I)J" } : Jvm.MethodName), Cond.privateMethod ({ cls := "AnyOrderModel", name := "normAt", desc := "(I)J" } : Jvm.MethodName), Cond.instanceMethod ({ cls := "AnyOrderModel", name := "normAt", desc := "(I)J" } : Jvm.MethodName), Cond.code ({ cls := "AnyOrderModel", name := "normAt", desc := "(I)J" } : Jvm.MethodName) prog_14_method_18_code (8 : Nat) (Option.some Jvm.ClassFile.FieldType.long), Cond.methodLink "AnyOrderModel" (124 : Nat) ({ cls := "AnyOrderModel", name := "sizeOf", desc := "(J)J" } : Jvm.MethodName), Cond.static ({ cls := "AnyOrderModel", name := "sizeOf", desc := "(J)J" } : Jvm.MethodName), Cond.code ({ cls := "AnyOrderModel", name := "sizeOf", desc := "(J)J" } : Jvm.MethodName) prog_14_method_6_code (2 : Nat) (Option.some Jvm.ClassFile.FieldType.long), Cond.methodLink "AnyOrderLaw" (41 : Nat) ({ cls := "AnyOrderModel", name := "extreme", desc := "(III)I" } : Jvm.MethodName), Cond.instanceMethod ({ cls := "AnyOrderModel", name := "extreme", desc := "(III)I" } : Jvm.MethodName), Cond.selects "AnyOrderModel" ({ cls := "AnyOrderModel", name := "extreme", desc := "(III)I" } : Jvm.MethodName) ({ cls := "AnyOrderModel", name := "extreme", desc := "(III)I" } : Jvm.MethodName), Cond.code ({ cls := "AnyOrderModel", name := "extreme", desc := "(III)I" } : Jvm.MethodName) prog_14_method_25_code (4 : Nat) (Option.some Jvm.ClassFile.FieldType.int), Cond.methodLink "AnyOrderLaw" (46 : Nat) ({ cls := "AnyOrderModel", name := "rings", desc := "(I)I" } : Jvm.MethodName), Cond.instanceMethod ({ cls := "AnyOrderModel", name := "rings", desc := "(I)I" } : Jvm.MethodName), Cond.selects "AnyOrderModel" ({ cls := "AnyOrderModel", name := "rings", desc := "(I)I" } : Jvm.MethodName) ({ cls := "AnyOrderModel", name := "rings", desc := "(I)I" } : Jvm.MethodName), Cond.code ({ cls := "AnyOrderModel", name := "rings", desc := "(I)I" } : Jvm.MethodName) prog_14_method_31_code (2 : Nat) (Option.some Jvm.ClassFile.FieldType.int), Cond.methodLink "AnyOrderModel" (195 : Nat) ({ cls := "AnyOrderModel", name := "findRings", desc := "(I)V" } : Jvm.MethodName), Cond.privateMethod ({ cls := "AnyOrderModel", name := "findRings", desc := "(I)V" } : Jvm.MethodName), Cond.instanceMethod ({ cls := "AnyOrderModel", name := "findRings", desc := "(I)V" } : Jvm.MethodName), Cond.code ({ cls := "AnyOrderModel", name := "findRings", desc := "(I)V" } : Jvm.MethodName) prog_14_method_30_code (3 : Nat) (Option.none : Option Jvm.ClassFile.FieldType), Cond.methodLink "AnyOrderModel" (189 : Nat) ({ cls := "AnyOrderModel", name := "isRing", desc := "(I)Z" } : Jvm.MethodName), Cond.privateMethod ({ cls := "AnyOrderModel", name := "isRing", desc := "(I)Z" } : Jvm.MethodName), Cond.instanceMethod ({ cls := "AnyOrderModel", name := "isRing", desc := "(I)Z" } : Jvm.MethodName), Cond.code ({ cls := "AnyOrderModel", name := "isRing", desc := "(I)Z" } : Jvm.MethodName) prog_14_method_29_code (2 : Nat) (Option.some Jvm.ClassFile.FieldType.boolean), Cond.methodLink "AnyOrderModel" (174 : Nat) ({ cls := "AnyOrderModel", name := "isAllowed", desc := "(I)Z" } : Jvm.MethodName), Cond.privateMethod ({ cls := "AnyOrderModel", name := "isAllowed", desc := "(I)Z" } : Jvm.MethodName), Cond.instanceMethod ({ cls := "AnyOrderModel", name := "isAllowed", desc := "(I)Z" } : Jvm.MethodName), Cond.code ({ cls := "AnyOrderModel", name := "isAllowed", desc := "(I)Z" } : Jvm.MethodName) prog_14_method_27_code (3 : Nat) (Option.some Jvm.ClassFile.FieldType.boolean), Cond.methodLink "AnyOrderModel" (177 : Nat) ({ cls := "AnyOrderModel", name := "timesOf", desc := "(I)I" } : Jvm.MethodName), Cond.privateMethod ({ cls := "AnyOrderModel", name := "timesOf", desc := "(I)I" } : Jvm.MethodName), Cond.instanceMethod ({ cls := "AnyOrderModel", name := "timesOf", desc := "(I)I" } : Jvm.MethodName), Cond.code ({ cls := "AnyOrderModel", name := "timesOf", desc := "(I)I" } : Jvm.MethodName) prog_14_method_26_code (5 : Nat) (Option.some Jvm.ClassFile.FieldType.int), Cond.methodLink "AnyOrderModel" (180 : Nat) ({ cls := "AnyOrderModel", name := "isFirstTurn", desc := "(I)Z" } : Jvm.MethodName), Cond.privateMethod ({ cls := "AnyOrderModel", name := "isFirstTurn", desc := "(I)Z" } : Jvm.MethodName), Cond.instanceMethod ({ cls := "AnyOrderModel", name := "isFirstTurn", desc := "(I)Z" } : Jvm.MethodName), Cond.code ({ cls := "AnyOrderModel", name := "isFirstTurn", desc := "(I)Z" } : Jvm.MethodName) prog_14_method_28_code (4 : Nat) (Option.some Jvm.ClassFile.FieldType.boolean), Cond.methodLink "AnyOrderModel" (192 : Nat) ({ cls := "AnyOrderModel", name := "trackAt", desc := "(I)J" } : Jvm.MethodName), Cond.privateMethod ({ cls := "AnyOrderModel", name := "trackAt", desc := "(I)J" } : Jvm.MethodName), Cond.instanceMethod ({ cls := "AnyOrderModel", name := "trackAt", desc := "(I)J" } : Jvm.MethodName), Cond.code ({ cls := "AnyOrderModel", name := "trackAt", desc := "(I)J" } : Jvm.MethodName) prog_14_method_19_code (5 : Nat) (Option.some Jvm.ClassFile.FieldType.long), Cond.methodLink "AnyOrderLaw" (51 : Nat) ({ cls := "AnyOrderModel", name := "ringTrack", desc := "(I)J" } : Jvm.MethodName), Cond.instanceMethod ({ cls := "AnyOrderModel", name := "ringTrack", desc := "(I)J" } : Jvm.MethodName), Cond.selects "AnyOrderModel" ({ cls := "AnyOrderModel", name := "ringTrack", desc := "(I)J" } : Jvm.MethodName) ({ cls := "AnyOrderModel", name := "ringTrack", desc := "(I)J" } : Jvm.MethodName), Cond.code ({ cls := "AnyOrderModel", name := "ringTrack", desc := "(I)J" } : Jvm.MethodName) prog_14_method_32_code (2 : Nat) (Option.some Jvm.ClassFile.FieldType.long), Cond.methodLink "AnyOrderLaw" (55 : Nat) ({ cls := "AnyOrderModel", name := "ring", desc := "(II)I" } : Jvm.MethodName), Cond.instanceMethod ({ cls := "AnyOrderModel", name := "ring", desc := "(II)I" } : Jvm.MethodName), Cond.selects "AnyOrderModel" ({ cls := "AnyOrderModel", name := "ring", desc := "(II)I" } : Jvm.MethodName) ({ cls := "AnyOrderModel", name := "ring", desc := "(II)I" } : Jvm.MethodName)]
set_option maxRecDepth 20000 in
theorem TDe_22 : TD_22 = (tables_1.drop 1056).take 48 := rfl
set_option maxRecDepth 20000 in
theorem tw_1056 : (Cond.instanceMethod ({ cls := "AnyOrderModel", name := "rest", desc := "(J)J" } : Jvm.MethodName) : Cond) ∈ TB := TB_d TDe_22 0 rfl rfl
set_option maxRecDepth 20000 in
theorem tw_1057 : (Cond.code ({ cls := "AnyOrderModel", name := "rest", desc := "(J)J" } : Jvm.MethodName) prog_14_method_15_code (3 : Nat) (Option.some Jvm.ClassFile.FieldType.long) : Cond) ∈ TB := TB_d TDe_22 1 rfl rfl
set_option maxRecDepth 20000 in
theorem tw_1058 : (Cond.methodLink "AnyOrderModel" (161 : Nat) ({ cls := "AnyOrderModel", name := "normAt", desc := "(I)J" } : Jvm.MethodName) : Cond) ∈ TB := TB_d TDe_22 2 rfl rfl
set_option maxRecDepth 20000 in
theorem tw_1060 : (Cond.instanceMethod ({ cls := "AnyOrderModel", name := "normAt", desc := "(I)J" } : Jvm.MethodName) : Cond) ∈ TB := TB_d TDe_22 4 rfl rfl
set_option maxRecDepth 20000 in
theorem tw_1061 : (Cond.code ({ cls := "AnyOrderModel", name := "normAt", desc := "(I)J" } : Jvm.MethodName) prog_14_method_18_code (8 : Nat) (Option.some Jvm.ClassFile.FieldType.long) : Cond) ∈ TB := TB_d TDe_22 5 rfl rfl
set_option maxRecDepth 20000 in
theorem tw_1062 : (Cond.methodLink "AnyOrderModel" (124 : Nat) ({ cls := "AnyOrderModel", name := "sizeOf", desc := "(J)J" } : Jvm.MethodName) : Cond) ∈ TB := TB_d TDe_22 6 rfl rfl
set_option maxRecDepth 20000 in
theorem tw_1063 : (Cond.static ({ cls := "AnyOrderModel", name := "sizeOf", desc := "(J)J" } : Jvm.MethodName) : Cond) ∈ TB := TB_d TDe_22 7 rfl rfl
set_option maxRecDepth 20000 in
theorem tw_1064 : (Cond.code ({ cls := "AnyOrderModel", name := "sizeOf", desc := "(J)J" } : Jvm.MethodName) prog_14_method_6_code (2 : Nat) (Option.some Jvm.ClassFile.FieldType.long) : Cond) ∈ TB := TB_d TDe_22 8 rfl rfl
set_option maxRecDepth 20000 in
theorem tw_1065 : (Cond.methodLink "AnyOrderLaw" (41 : Nat) ({ cls := "AnyOrderModel", name := "extreme", desc := "(III)I" } : Jvm.MethodName) : Cond) ∈ TB := TB_d TDe_22 9 rfl rfl
set_option maxRecDepth 20000 in
theorem tw_1066 : (Cond.instanceMethod ({ cls := "AnyOrderModel", name := "extreme", desc := "(III)I" } : Jvm.MethodName) : Cond) ∈ TB := TB_d TDe_22 10 rfl rfl
set_option maxRecDepth 20000 in
theorem tw_1067 : (Cond.selects "AnyOrderModel" ({ cls := "AnyOrderModel", name := "extreme", desc := "(III)I" } : Jvm.MethodName) ({ cls := "AnyOrderModel", name := "extreme", desc := "(III)I" } : Jvm.MethodName) : Cond) ∈ TB := TB_d TDe_22 11 rfl rfl
set_option maxRecDepth 20000 in
theorem tw_1068 : (Cond.code ({ cls := "AnyOrderModel", name := "extreme", desc := "(III)I" } : Jvm.MethodName) prog_14_method_25_code (4 : Nat) (Option.some Jvm.ClassFile.FieldType.int) : Cond) ∈ TB := TB_d TDe_22 12 rfl rfl
set_option maxRecDepth 20000 in
theorem tw_1069 : (Cond.methodLink "AnyOrderLaw" (46 : Nat) ({ cls := "AnyOrderModel", name := "rings", desc := "(I)I" } : Jvm.MethodName) : Cond) ∈ TB := TB_d TDe_22 13 rfl rfl
set_option maxRecDepth 20000 in
theorem tw_1070 : (Cond.instanceMethod ({ cls := "AnyOrderModel", name := "rings", desc := "(I)I" } : Jvm.MethodName) : Cond) ∈ TB := TB_d TDe_22 14 rfl rfl
set_option maxRecDepth 20000 in
theorem tw_1071 : (Cond.selects "AnyOrderModel" ({ cls := "AnyOrderModel", name := "rings", desc := "(I)I" } : Jvm.MethodName) ({ cls := "AnyOrderModel", name := "rings", desc := "(I)I" } : Jvm.MethodName) : Cond) ∈ TB := TB_d TDe_22 15 rfl rfl
set_option maxRecDepth 20000 in
theorem tw_1072 : (Cond.code ({ cls := "AnyOrderModel", name := "rings", desc := "(I)I" } : Jvm.MethodName) prog_14_method_31_code (2 : Nat) (Option.some Jvm.ClassFile.FieldType.int) : Cond) ∈ TB := TB_d TDe_22 16 rfl rfl
set_option maxRecDepth 20000 in
theorem tw_1073 : (Cond.methodLink "AnyOrderModel" (195 : Nat) ({ cls := "AnyOrderModel", name := "findRings", desc := "(I)V" } : Jvm.MethodName) : Cond) ∈ TB := TB_d TDe_22 17 rfl rfl
set_option maxRecDepth 20000 in
theorem tw_1075 : (Cond.instanceMethod ({ cls := "AnyOrderModel", name := "findRings", desc := "(I)V" } : Jvm.MethodName) : Cond) ∈ TB := TB_d TDe_22 19 rfl rfl
set_option maxRecDepth 20000 in
theorem tw_1076 : (Cond.code ({ cls := "AnyOrderModel", name := "findRings", desc := "(I)V" } : Jvm.MethodName) prog_14_method_30_code (3 : Nat) (Option.none : Option Jvm.ClassFile.FieldType) : Cond) ∈ TB := TB_d TDe_22 20 rfl rfl
set_option maxRecDepth 20000 in
theorem tw_1077 : (Cond.methodLink "AnyOrderModel" (189 : Nat) ({ cls := "AnyOrderModel", name := "isRing", desc := "(I)Z" } : Jvm.MethodName) : Cond) ∈ TB := TB_d TDe_22 21 rfl rfl
set_option maxRecDepth 20000 in
theorem tw_1079 : (Cond.instanceMethod ({ cls := "AnyOrderModel", name := "isRing", desc := "(I)Z" } : Jvm.MethodName) : Cond) ∈ TB := TB_d TDe_22 23 rfl rfl
set_option maxRecDepth 20000 in
theorem tw_1080 : (Cond.code ({ cls := "AnyOrderModel", name := "isRing", desc := "(I)Z" } : Jvm.MethodName) prog_14_method_29_code (2 : Nat) (Option.some Jvm.ClassFile.FieldType.boolean) : Cond) ∈ TB := TB_d TDe_22 24 rfl rfl
set_option maxRecDepth 20000 in
theorem tw_1081 : (Cond.methodLink "AnyOrderModel" (174 : Nat) ({ cls := "AnyOrderModel", name := "isAllowed", desc := "(I)Z" } : Jvm.MethodName) : Cond) ∈ TB := TB_d TDe_22 25 rfl rfl
set_option maxRecDepth 20000 in
theorem tw_1083 : (Cond.instanceMethod ({ cls := "AnyOrderModel", name := "isAllowed", desc := "(I)Z" } : Jvm.MethodName) : Cond) ∈ TB := TB_d TDe_22 27 rfl rfl
set_option maxRecDepth 20000 in
theorem tw_1084 : (Cond.code ({ cls := "AnyOrderModel", name := "isAllowed", desc := "(I)Z" } : Jvm.MethodName) prog_14_method_27_code (3 : Nat) (Option.some Jvm.ClassFile.FieldType.boolean) : Cond) ∈ TB := TB_d TDe_22 28 rfl rfl
set_option maxRecDepth 20000 in
theorem tw_1085 : (Cond.methodLink "AnyOrderModel" (177 : Nat) ({ cls := "AnyOrderModel", name := "timesOf", desc := "(I)I" } : Jvm.MethodName) : Cond) ∈ TB := TB_d TDe_22 29 rfl rfl
set_option maxRecDepth 20000 in
theorem tw_1087 : (Cond.instanceMethod ({ cls := "AnyOrderModel", name := "timesOf", desc := "(I)I" } : Jvm.MethodName) : Cond) ∈ TB := TB_d TDe_22 31 rfl rfl
set_option maxRecDepth 20000 in
theorem tw_1088 : (Cond.code ({ cls := "AnyOrderModel", name := "timesOf", desc := "(I)I" } : Jvm.MethodName) prog_14_method_26_code (5 : Nat) (Option.some Jvm.ClassFile.FieldType.int) : Cond) ∈ TB := TB_d TDe_22 32 rfl rfl
set_option maxRecDepth 20000 in
theorem tw_1089 : (Cond.methodLink "AnyOrderModel" (180 : Nat) ({ cls := "AnyOrderModel", name := "isFirstTurn", desc := "(I)Z" } : Jvm.MethodName) : Cond) ∈ TB := TB_d TDe_22 33 rfl rfl
set_option maxRecDepth 20000 in
theorem tw_1091 : (Cond.instanceMethod ({ cls := "AnyOrderModel", name := "isFirstTurn", desc := "(I)Z" } : Jvm.MethodName) : Cond) ∈ TB := TB_d TDe_22 35 rfl rfl
set_option maxRecDepth 20000 in
theorem tw_1092 : (Cond.code ({ cls := "AnyOrderModel", name := "isFirstTurn", desc := "(I)Z" } : Jvm.MethodName) prog_14_method_28_code (4 : Nat) (Option.some Jvm.ClassFile.FieldType.boolean) : Cond) ∈ TB := TB_d TDe_22 36 rfl rfl
set_option maxRecDepth 20000 in
theorem tw_1093 : (Cond.methodLink "AnyOrderModel" (192 : Nat) ({ cls := "AnyOrderModel", name := "trackAt", desc := "(I)J" } : Jvm.MethodName) : Cond) ∈ TB := TB_d TDe_22 37 rfl rfl
set_option maxRecDepth 20000 in
theorem tw_1095 : (Cond.instanceMethod ({ cls := "AnyOrderModel", name := "trackAt", desc := "(I)J" } : Jvm.MethodName) : Cond) ∈ TB := TB_d TDe_22 39 rfl rfl
set_option maxRecDepth 20000 in
theorem tw_1096 : (Cond.code ({ cls := "AnyOrderModel", name := "trackAt", desc := "(I)J" } : Jvm.MethodName) prog_14_method_19_code (5 : Nat) (Option.some Jvm.ClassFile.FieldType.long) : Cond) ∈ TB := TB_d TDe_22 40 rfl rfl
set_option maxRecDepth 20000 in
theorem tw_1097 : (Cond.methodLink "AnyOrderLaw" (51 : Nat) ({ cls := "AnyOrderModel", name := "ringTrack", desc := "(I)J" } : Jvm.MethodName) : Cond) ∈ TB := TB_d TDe_22 41 rfl rfl
set_option maxRecDepth 20000 in
theorem tw_1098 : (Cond.instanceMethod ({ cls := "AnyOrderModel", name := "ringTrack", desc := "(I)J" } : Jvm.MethodName) : Cond) ∈ TB := TB_d TDe_22 42 rfl rfl
set_option maxRecDepth 20000 in
theorem tw_1099 : (Cond.selects "AnyOrderModel" ({ cls := "AnyOrderModel", name := "ringTrack", desc := "(I)J" } : Jvm.MethodName) ({ cls := "AnyOrderModel", name := "ringTrack", desc := "(I)J" } : Jvm.MethodName) : Cond) ∈ TB := TB_d TDe_22 43 rfl rfl
set_option maxRecDepth 20000 in
theorem tw_1100 : (Cond.code ({ cls := "AnyOrderModel", name := "ringTrack", desc := "(I)J" } : Jvm.MethodName) prog_14_method_32_code (2 : Nat) (Option.some Jvm.ClassFile.FieldType.long) : Cond) ∈ TB := TB_d TDe_22 44 rfl rfl
set_option maxRecDepth 20000 in
theorem tw_1101 : (Cond.methodLink "AnyOrderLaw" (55 : Nat) ({ cls := "AnyOrderModel", name := "ring", desc := "(II)I" } : Jvm.MethodName) : Cond) ∈ TB := TB_d TDe_22 45 rfl rfl
set_option maxRecDepth 20000 in
theorem tw_1102 : (Cond.instanceMethod ({ cls := "AnyOrderModel", name := "ring", desc := "(II)I" } : Jvm.MethodName) : Cond) ∈ TB := TB_d TDe_22 46 rfl rfl
set_option maxRecDepth 20000 in
theorem tw_1103 : (Cond.selects "AnyOrderModel" ({ cls := "AnyOrderModel", name := "ring", desc := "(II)I" } : Jvm.MethodName) ({ cls := "AnyOrderModel", name := "ring", desc := "(II)I" } : Jvm.MethodName) : Cond) ∈ TB := TB_d TDe_22 47 rfl rfl
def TD_23 : List Cond := [Cond.code ({ cls := "AnyOrderModel", name := "ring", desc := "(II)I" } : Jvm.MethodName) prog_14_method_33_code (3 : Nat) (Option.some Jvm.ClassFile.FieldType.int), Cond.methodLink "AnyOrderLaw" (59 : Nat) ({ cls := "AnyOrderModel", name := "growth", desc := "(III)I" } : Jvm.MethodName), Cond.instanceMethod ({ cls := "AnyOrderModel", name := "growth", desc := "(III)I" } : Jvm.MethodName), Cond.selects "AnyOrderModel" ({ cls := "AnyOrderModel", name := "growth", desc := "(III)I" } : Jvm.MethodName) ({ cls := "AnyOrderModel", name := "growth", desc := "(III)I" } : Jvm.MethodName), Cond.code ({ cls := "AnyOrderModel", name := "growth", desc := "(III)I" } : Jvm.MethodName) prog_14_method_35_code (7 : Nat) (Option.some Jvm.ClassFile.FieldType.int), Cond.constantLong "AnyOrderModel" (198 : Nat) (7 : Int64), Cond.methodLink "AnyOrderModel" (200 : Nat) ({ cls := "AnyOrderModel", name := "power", desc := "(JI)J" } : Jvm.MethodName), Cond.static ({ cls := "AnyOrderModel", name := "power", desc := "(JI)J" } : Jvm.MethodName), Cond.code ({ cls := "AnyOrderModel", name := "power", desc := "(JI)J" } : Jvm.MethodName) prog_14_method_34_code (6 : Nat) (Option.some Jvm.ClassFile.FieldType.long), Cond.methodLink "AnyOrderLaw" (64 : Nat) ({ cls := "AnyOrderModel", name := "close", desc := "()I" } : Jvm.MethodName), Cond.instanceMethod ({ cls := "AnyOrderModel", name := "close", desc := "()I" } : Jvm.MethodName), Cond.selects "AnyOrderModel" ({ cls := "AnyOrderModel", name := "close", desc := "()I" } : Jvm.MethodName) ({ cls := "AnyOrderModel", name := "close", desc := "()I" } : Jvm.MethodName), Cond.code ({ cls := "AnyOrderModel", name := "close", desc := "()I" } : Jvm.MethodName) prog_14_method_40_code (4 : Nat) (Option.some Jvm.ClassFile.FieldType.int), Cond.methodLink "AnyOrderModel" (218 : Nat) ({ cls := "AnyOrderModel", name := "comes", desc := "(II)Z" } : Jvm.MethodName), Cond.privateMethod ({ cls := "AnyOrderModel", name := "comes", desc := "(II)Z" } : Jvm.MethodName), Cond.instanceMethod ({ cls := "AnyOrderModel", name := "comes", desc := "(II)Z" } : Jvm.MethodName), Cond.code ({ cls := "AnyOrderModel", name := "comes", desc := "(II)Z" } : Jvm.MethodName) prog_14_method_38_code (5 : Nat) (Option.some Jvm.ClassFile.FieldType.boolean), Cond.constantLong "AnyOrderModel" (211 : Nat) (-1000000 : Int64), Cond.constantLong "AnyOrderModel" (213 : Nat) (1000000 : Int64), Cond.methodLink "AnyOrderModel" (215 : Nat) ({ cls := "AnyOrderModel", name := "findAt", desc := "(I)I" } : Jvm.MethodName), Cond.privateMethod ({ cls := "AnyOrderModel", name := "findAt", desc := "(I)I" } : Jvm.MethodName), Cond.instanceMethod ({ cls := "AnyOrderModel", name := "findAt", desc := "(I)I" } : Jvm.MethodName), Cond.code ({ cls := "AnyOrderModel", name := "findAt", desc := "(I)I" } : Jvm.MethodName) prog_14_method_37_code (4 : Nat) (Option.some Jvm.ClassFile.FieldType.int), Cond.methodLink "AnyOrderModel" (208 : Nat) ({ cls := "AnyOrderModel", name := "chainOf", desc := "(I)I" } : Jvm.MethodName), Cond.privateMethod ({ cls := "AnyOrderModel", name := "chainOf", desc := "(I)I" } : Jvm.MethodName), Cond.instanceMethod ({ cls := "AnyOrderModel", name := "chainOf", desc := "(I)I" } : Jvm.MethodName), Cond.code ({ cls := "AnyOrderModel", name := "chainOf", desc := "(I)I" } : Jvm.MethodName) prog_14_method_36_code (5 : Nat) (Option.some Jvm.ClassFile.FieldType.int), Cond.constantLong "AnyOrderModel" (204 : Nat) (1000003 : Int64), Cond.constantLong "AnyOrderModel" (206 : Nat) (4095 : Int64), Cond.methodLink "AnyOrderModel" (221 : Nat) ({ cls := "AnyOrderModel", name := "layProduct", desc := "(II)V" } : Jvm.MethodName), Cond.privateMethod ({ cls := "AnyOrderModel", name := "layProduct", desc := "(II)V" } : Jvm.MethodName), Cond.instanceMethod ({ cls := "AnyOrderModel", name := "layProduct", desc := "(II)V" } : Jvm.MethodName), Cond.code ({ cls := "AnyOrderModel", name := "layProduct", desc := "(II)V" } : Jvm.MethodName) prog_14_method_39_code (4 : Nat) (Option.none : Option Jvm.ClassFile.FieldType), Cond.methodLink "AnyOrderLaw" (68 : Nat) ({ cls := "AnyOrderModel", name := "closed", desc := "(I)I" } : Jvm.MethodName), Cond.instanceMethod ({ cls := "AnyOrderModel", name := "closed", desc := "(I)I" } : Jvm.MethodName), Cond.selects "AnyOrderModel" ({ cls := "AnyOrderModel", name := "closed", desc := "(I)I" } : Jvm.MethodName) ({ cls := "AnyOrderModel", name := "closed", desc := "(I)I" } : Jvm.MethodName), Cond.code ({ cls := "AnyOrderModel", name := "closed", desc := "(I)I" } : Jvm.MethodName) prog_14_method_44_code (4 : Nat) (Option.some Jvm.ClassFile.FieldType.int), Cond.constantLong "AnyOrderModel" (224 : Nat) (4 : Int64), Cond.methodLink "AnyOrderModel" (226 : Nat) ({ cls := "AnyOrderModel", name := "isNought", desc := "(I)Z" } : Jvm.MethodName), Cond.privateMethod ({ cls := "AnyOrderModel", name := "isNought", desc := "(I)Z" } : Jvm.MethodName), Cond.instanceMethod ({ cls := "AnyOrderModel", name := "isNought", desc := "(I)Z" } : Jvm.MethodName), Cond.code ({ cls := "AnyOrderModel", name := "isNought", desc := "(I)Z" } : Jvm.MethodName) prog_14_method_42_code (4 : Nat) (Option.some Jvm.ClassFile.FieldType.boolean), Cond.methodLink "AnyOrderModel" (229 : Nat) ({ cls := "AnyOrderModel", name := "isOne", desc := "(I)Z" } : Jvm.MethodName), Cond.privateMethod ({ cls := "AnyOrderModel", name := "isOne", desc := "(I)Z" } : Jvm.MethodName), Cond.instanceMethod ({ cls := "AnyOrderModel", name := "isOne", desc := "(I)Z" } : Jvm.MethodName), Cond.code ({ cls := "AnyOrderModel", name := "isOne", desc := "(I)Z" } : Jvm.MethodName) prog_14_method_43_code (5 : Nat) (Option.some Jvm.ClassFile.FieldType.boolean), Cond.methodLink "AnyOrderModel" (232 : Nat) ({ cls := "AnyOrderModel", name := "multiply", desc := "(II)V" } : Jvm.MethodName), Cond.privateMethod ({ cls := "AnyOrderModel", name := "multiply", desc := "(II)V" } : Jvm.MethodName)]
set_option maxRecDepth 20000 in
theorem TDe_23 : TD_23 = (tables_1.drop 1104).take 48 := rfl
set_option maxRecDepth 20000 in
theorem tw_1104 : (Cond.code ({ cls := "AnyOrderModel", name := "ring", desc := "(II)I" } : Jvm.MethodName) prog_14_method_33_code (3 : Nat) (Option.some Jvm.ClassFile.FieldType.int) : Cond) ∈ TB := TB_d TDe_23 0 rfl rfl
set_option maxRecDepth 20000 in
theorem tw_1105 : (Cond.methodLink "AnyOrderLaw" (59 : Nat) ({ cls := "AnyOrderModel", name := "growth", desc := "(III)I" } : Jvm.MethodName) : Cond) ∈ TB := TB_d TDe_23 1 rfl rfl
set_option maxRecDepth 20000 in
theorem tw_1106 : (Cond.instanceMethod ({ cls := "AnyOrderModel", name := "growth", desc := "(III)I" } : Jvm.MethodName) : Cond) ∈ TB := TB_d TDe_23 2 rfl rfl
set_option maxRecDepth 20000 in
theorem tw_1107 : (Cond.selects "AnyOrderModel" ({ cls := "AnyOrderModel", name := "growth", desc := "(III)I" } : Jvm.MethodName) ({ cls := "AnyOrderModel", name := "growth", desc := "(III)I" } : Jvm.MethodName) : Cond) ∈ TB := TB_d TDe_23 3 rfl rfl
set_option maxRecDepth 20000 in
theorem tw_1108 : (Cond.code ({ cls := "AnyOrderModel", name := "growth", desc := "(III)I" } : Jvm.MethodName) prog_14_method_35_code (7 : Nat) (Option.some Jvm.ClassFile.FieldType.int) : Cond) ∈ TB := TB_d TDe_23 4 rfl rfl
set_option maxRecDepth 20000 in
theorem tw_1109 : (Cond.constantLong "AnyOrderModel" (198 : Nat) (7 : Int64) : Cond) ∈ TB := TB_d TDe_23 5 rfl rfl
set_option maxRecDepth 20000 in
theorem tw_1110 : (Cond.methodLink "AnyOrderModel" (200 : Nat) ({ cls := "AnyOrderModel", name := "power", desc := "(JI)J" } : Jvm.MethodName) : Cond) ∈ TB := TB_d TDe_23 6 rfl rfl
set_option maxRecDepth 20000 in
theorem tw_1111 : (Cond.static ({ cls := "AnyOrderModel", name := "power", desc := "(JI)J" } : Jvm.MethodName) : Cond) ∈ TB := TB_d TDe_23 7 rfl rfl
set_option maxRecDepth 20000 in
theorem tw_1112 : (Cond.code ({ cls := "AnyOrderModel", name := "power", desc := "(JI)J" } : Jvm.MethodName) prog_14_method_34_code (6 : Nat) (Option.some Jvm.ClassFile.FieldType.long) : Cond) ∈ TB := TB_d TDe_23 8 rfl rfl
set_option maxRecDepth 20000 in
theorem tw_1113 : (Cond.methodLink "AnyOrderLaw" (64 : Nat) ({ cls := "AnyOrderModel", name := "close", desc := "()I" } : Jvm.MethodName) : Cond) ∈ TB := TB_d TDe_23 9 rfl rfl
set_option maxRecDepth 20000 in
theorem tw_1114 : (Cond.instanceMethod ({ cls := "AnyOrderModel", name := "close", desc := "()I" } : Jvm.MethodName) : Cond) ∈ TB := TB_d TDe_23 10 rfl rfl
set_option maxRecDepth 20000 in
theorem tw_1115 : (Cond.selects "AnyOrderModel" ({ cls := "AnyOrderModel", name := "close", desc := "()I" } : Jvm.MethodName) ({ cls := "AnyOrderModel", name := "close", desc := "()I" } : Jvm.MethodName) : Cond) ∈ TB := TB_d TDe_23 11 rfl rfl
set_option maxRecDepth 20000 in
theorem tw_1116 : (Cond.code ({ cls := "AnyOrderModel", name := "close", desc := "()I" } : Jvm.MethodName) prog_14_method_40_code (4 : Nat) (Option.some Jvm.ClassFile.FieldType.int) : Cond) ∈ TB := TB_d TDe_23 12 rfl rfl
set_option maxRecDepth 20000 in
theorem tw_1117 : (Cond.methodLink "AnyOrderModel" (218 : Nat) ({ cls := "AnyOrderModel", name := "comes", desc := "(II)Z" } : Jvm.MethodName) : Cond) ∈ TB := TB_d TDe_23 13 rfl rfl
set_option maxRecDepth 20000 in
theorem tw_1119 : (Cond.instanceMethod ({ cls := "AnyOrderModel", name := "comes", desc := "(II)Z" } : Jvm.MethodName) : Cond) ∈ TB := TB_d TDe_23 15 rfl rfl
set_option maxRecDepth 20000 in
theorem tw_1120 : (Cond.code ({ cls := "AnyOrderModel", name := "comes", desc := "(II)Z" } : Jvm.MethodName) prog_14_method_38_code (5 : Nat) (Option.some Jvm.ClassFile.FieldType.boolean) : Cond) ∈ TB := TB_d TDe_23 16 rfl rfl
set_option maxRecDepth 20000 in
theorem tw_1121 : (Cond.constantLong "AnyOrderModel" (211 : Nat) (-1000000 : Int64) : Cond) ∈ TB := TB_d TDe_23 17 rfl rfl
set_option maxRecDepth 20000 in
theorem tw_1122 : (Cond.constantLong "AnyOrderModel" (213 : Nat) (1000000 : Int64) : Cond) ∈ TB := TB_d TDe_23 18 rfl rfl
set_option maxRecDepth 20000 in
theorem tw_1123 : (Cond.methodLink "AnyOrderModel" (215 : Nat) ({ cls := "AnyOrderModel", name := "findAt", desc := "(I)I" } : Jvm.MethodName) : Cond) ∈ TB := TB_d TDe_23 19 rfl rfl
set_option maxRecDepth 20000 in
theorem tw_1125 : (Cond.instanceMethod ({ cls := "AnyOrderModel", name := "findAt", desc := "(I)I" } : Jvm.MethodName) : Cond) ∈ TB := TB_d TDe_23 21 rfl rfl
set_option maxRecDepth 20000 in
theorem tw_1126 : (Cond.code ({ cls := "AnyOrderModel", name := "findAt", desc := "(I)I" } : Jvm.MethodName) prog_14_method_37_code (4 : Nat) (Option.some Jvm.ClassFile.FieldType.int) : Cond) ∈ TB := TB_d TDe_23 22 rfl rfl
set_option maxRecDepth 20000 in
theorem tw_1127 : (Cond.methodLink "AnyOrderModel" (208 : Nat) ({ cls := "AnyOrderModel", name := "chainOf", desc := "(I)I" } : Jvm.MethodName) : Cond) ∈ TB := TB_d TDe_23 23 rfl rfl
set_option maxRecDepth 20000 in
theorem tw_1129 : (Cond.instanceMethod ({ cls := "AnyOrderModel", name := "chainOf", desc := "(I)I" } : Jvm.MethodName) : Cond) ∈ TB := TB_d TDe_23 25 rfl rfl
set_option maxRecDepth 20000 in
theorem tw_1130 : (Cond.code ({ cls := "AnyOrderModel", name := "chainOf", desc := "(I)I" } : Jvm.MethodName) prog_14_method_36_code (5 : Nat) (Option.some Jvm.ClassFile.FieldType.int) : Cond) ∈ TB := TB_d TDe_23 26 rfl rfl
set_option maxRecDepth 20000 in
theorem tw_1131 : (Cond.constantLong "AnyOrderModel" (204 : Nat) (1000003 : Int64) : Cond) ∈ TB := TB_d TDe_23 27 rfl rfl
set_option maxRecDepth 20000 in
theorem tw_1132 : (Cond.constantLong "AnyOrderModel" (206 : Nat) (4095 : Int64) : Cond) ∈ TB := TB_d TDe_23 28 rfl rfl
set_option maxRecDepth 20000 in
theorem tw_1133 : (Cond.methodLink "AnyOrderModel" (221 : Nat) ({ cls := "AnyOrderModel", name := "layProduct", desc := "(II)V" } : Jvm.MethodName) : Cond) ∈ TB := TB_d TDe_23 29 rfl rfl
set_option maxRecDepth 20000 in
theorem tw_1135 : (Cond.instanceMethod ({ cls := "AnyOrderModel", name := "layProduct", desc := "(II)V" } : Jvm.MethodName) : Cond) ∈ TB := TB_d TDe_23 31 rfl rfl
set_option maxRecDepth 20000 in
theorem tw_1136 : (Cond.code ({ cls := "AnyOrderModel", name := "layProduct", desc := "(II)V" } : Jvm.MethodName) prog_14_method_39_code (4 : Nat) (Option.none : Option Jvm.ClassFile.FieldType) : Cond) ∈ TB := TB_d TDe_23 32 rfl rfl
set_option maxRecDepth 20000 in
theorem tw_1137 : (Cond.methodLink "AnyOrderLaw" (68 : Nat) ({ cls := "AnyOrderModel", name := "closed", desc := "(I)I" } : Jvm.MethodName) : Cond) ∈ TB := TB_d TDe_23 33 rfl rfl
set_option maxRecDepth 20000 in
theorem tw_1138 : (Cond.instanceMethod ({ cls := "AnyOrderModel", name := "closed", desc := "(I)I" } : Jvm.MethodName) : Cond) ∈ TB := TB_d TDe_23 34 rfl rfl
set_option maxRecDepth 20000 in
theorem tw_1139 : (Cond.selects "AnyOrderModel" ({ cls := "AnyOrderModel", name := "closed", desc := "(I)I" } : Jvm.MethodName) ({ cls := "AnyOrderModel", name := "closed", desc := "(I)I" } : Jvm.MethodName) : Cond) ∈ TB := TB_d TDe_23 35 rfl rfl
set_option maxRecDepth 20000 in
theorem tw_1140 : (Cond.code ({ cls := "AnyOrderModel", name := "closed", desc := "(I)I" } : Jvm.MethodName) prog_14_method_44_code (4 : Nat) (Option.some Jvm.ClassFile.FieldType.int) : Cond) ∈ TB := TB_d TDe_23 36 rfl rfl
set_option maxRecDepth 20000 in
theorem tw_1141 : (Cond.constantLong "AnyOrderModel" (224 : Nat) (4 : Int64) : Cond) ∈ TB := TB_d TDe_23 37 rfl rfl
set_option maxRecDepth 20000 in
theorem tw_1142 : (Cond.methodLink "AnyOrderModel" (226 : Nat) ({ cls := "AnyOrderModel", name := "isNought", desc := "(I)Z" } : Jvm.MethodName) : Cond) ∈ TB := TB_d TDe_23 38 rfl rfl
set_option maxRecDepth 20000 in
theorem tw_1144 : (Cond.instanceMethod ({ cls := "AnyOrderModel", name := "isNought", desc := "(I)Z" } : Jvm.MethodName) : Cond) ∈ TB := TB_d TDe_23 40 rfl rfl
set_option maxRecDepth 20000 in
theorem tw_1145 : (Cond.code ({ cls := "AnyOrderModel", name := "isNought", desc := "(I)Z" } : Jvm.MethodName) prog_14_method_42_code (4 : Nat) (Option.some Jvm.ClassFile.FieldType.boolean) : Cond) ∈ TB := TB_d TDe_23 41 rfl rfl
set_option maxRecDepth 20000 in
theorem tw_1146 : (Cond.methodLink "AnyOrderModel" (229 : Nat) ({ cls := "AnyOrderModel", name := "isOne", desc := "(I)Z" } : Jvm.MethodName) : Cond) ∈ TB := TB_d TDe_23 42 rfl rfl
set_option maxRecDepth 20000 in
theorem tw_1148 : (Cond.instanceMethod ({ cls := "AnyOrderModel", name := "isOne", desc := "(I)Z" } : Jvm.MethodName) : Cond) ∈ TB := TB_d TDe_23 44 rfl rfl
set_option maxRecDepth 20000 in
theorem tw_1149 : (Cond.code ({ cls := "AnyOrderModel", name := "isOne", desc := "(I)Z" } : Jvm.MethodName) prog_14_method_43_code (5 : Nat) (Option.some Jvm.ClassFile.FieldType.boolean) : Cond) ∈ TB := TB_d TDe_23 45 rfl rfl
set_option maxRecDepth 20000 in
theorem tw_1150 : (Cond.methodLink "AnyOrderModel" (232 : Nat) ({ cls := "AnyOrderModel", name := "multiply", desc := "(II)V" } : Jvm.MethodName) : Cond) ∈ TB := TB_d TDe_23 46 rfl rfl
def TD_24 : List Cond := [Cond.instanceMethod ({ cls := "AnyOrderModel", name := "multiply", desc := "(II)V" } : Jvm.MethodName), Cond.code ({ cls := "AnyOrderModel", name := "multiply", desc := "(II)V" } : Jvm.MethodName) prog_14_method_41_code (8 : Nat) (Option.none : Option Jvm.ClassFile.FieldType), Cond.methodLink "AnyOrderLaw" (72 : Nat) ({ cls := "AnyOrderModel", name := "product", desc := "(III)J" } : Jvm.MethodName), Cond.instanceMethod ({ cls := "AnyOrderModel", name := "product", desc := "(III)J" } : Jvm.MethodName), Cond.selects "AnyOrderModel" ({ cls := "AnyOrderModel", name := "product", desc := "(III)J" } : Jvm.MethodName) ({ cls := "AnyOrderModel", name := "product", desc := "(III)J" } : Jvm.MethodName), Cond.code ({ cls := "AnyOrderModel", name := "product", desc := "(III)J" } : Jvm.MethodName) prog_14_method_46_code (4 : Nat) (Option.some Jvm.ClassFile.FieldType.long), Cond.methodLink "AnyOrderModel" (235 : Nat) ({ cls := "AnyOrderModel", name := "isProduct", desc := "(I)Z" } : Jvm.MethodName), Cond.privateMethod ({ cls := "AnyOrderModel", name := "isProduct", desc := "(I)Z" } : Jvm.MethodName), Cond.instanceMethod ({ cls := "AnyOrderModel", name := "isProduct", desc := "(I)Z" } : Jvm.MethodName), Cond.code ({ cls := "AnyOrderModel", name := "isProduct", desc := "(I)Z" } : Jvm.MethodName) prog_14_method_45_code (2 : Nat) (Option.some Jvm.ClassFile.FieldType.boolean), Cond.methodLink "AnyOrderLaw" (76 : Nat) ({ cls := "AnyOrderModel", name := "times", desc := "(II)I" } : Jvm.MethodName), Cond.instanceMethod ({ cls := "AnyOrderModel", name := "times", desc := "(II)I" } : Jvm.MethodName), Cond.selects "AnyOrderModel" ({ cls := "AnyOrderModel", name := "times", desc := "(II)I" } : Jvm.MethodName) ({ cls := "AnyOrderModel", name := "times", desc := "(II)I" } : Jvm.MethodName), Cond.code ({ cls := "AnyOrderModel", name := "times", desc := "(II)I" } : Jvm.MethodName) prog_14_method_47_code (3 : Nat) (Option.some Jvm.ClassFile.FieldType.int), Cond.methodLink "AnyOrderLaw" (81 : Nat) ({ cls := "AnyOrderModel", name := "word", desc := "(IIII)I" } : Jvm.MethodName), Cond.instanceMethod ({ cls := "AnyOrderModel", name := "word", desc := "(IIII)I" } : Jvm.MethodName), Cond.selects "AnyOrderModel" ({ cls := "AnyOrderModel", name := "word", desc := "(IIII)I" } : Jvm.MethodName) ({ cls := "AnyOrderModel", name := "word", desc := "(IIII)I" } : Jvm.MethodName), Cond.code ({ cls := "AnyOrderModel", name := "word", desc := "(IIII)I" } : Jvm.MethodName) prog_14_method_49_code (7 : Nat) (Option.some Jvm.ClassFile.FieldType.int), Cond.constantLong "AnyOrderModel" (238 : Nat) (12 : Int64), Cond.methodLink "AnyOrderLaw" (85 : Nat) ({ cls := "AnyOrderModel", name := "join", desc := "(II)I" } : Jvm.MethodName), Cond.instanceMethod ({ cls := "AnyOrderModel", name := "join", desc := "(II)I" } : Jvm.MethodName), Cond.selects "AnyOrderModel" ({ cls := "AnyOrderModel", name := "join", desc := "(II)I" } : Jvm.MethodName) ({ cls := "AnyOrderModel", name := "join", desc := "(II)I" } : Jvm.MethodName), Cond.code ({ cls := "AnyOrderModel", name := "join", desc := "(II)I" } : Jvm.MethodName) prog_14_method_50_code (4 : Nat) (Option.some Jvm.ClassFile.FieldType.int), Cond.methodLink "AnyOrderModel" (240 : Nat) ({ cls := "AnyOrderModel", name := "isWord", desc := "(I)Z" } : Jvm.MethodName), Cond.privateMethod ({ cls := "AnyOrderModel", name := "isWord", desc := "(I)Z" } : Jvm.MethodName), Cond.instanceMethod ({ cls := "AnyOrderModel", name := "isWord", desc := "(I)Z" } : Jvm.MethodName), Cond.code ({ cls := "AnyOrderModel", name := "isWord", desc := "(I)Z" } : Jvm.MethodName) prog_14_method_48_code (2 : Nat) (Option.some Jvm.ClassFile.FieldType.boolean), Cond.methodLink "AnyOrderLaw" (89 : Nat) ({ cls := "AnyOrderModel", name := "letter", desc := "(II)I" } : Jvm.MethodName), Cond.instanceMethod ({ cls := "AnyOrderModel", name := "letter", desc := "(II)I" } : Jvm.MethodName), Cond.selects "AnyOrderModel" ({ cls := "AnyOrderModel", name := "letter", desc := "(II)I" } : Jvm.MethodName) ({ cls := "AnyOrderModel", name := "letter", desc := "(II)I" } : Jvm.MethodName), Cond.code ({ cls := "AnyOrderModel", name := "letter", desc := "(II)I" } : Jvm.MethodName) prog_14_method_51_code (3 : Nat) (Option.some Jvm.ClassFile.FieldType.int), Cond.methodLink "AnyOrderLaw" (93 : Nat) ({ cls := "AnyOrderModel", name := "about", desc := "(II)I" } : Jvm.MethodName), Cond.instanceMethod ({ cls := "AnyOrderModel", name := "about", desc := "(II)I" } : Jvm.MethodName), Cond.selects "AnyOrderModel" ({ cls := "AnyOrderModel", name := "about", desc := "(II)I" } : Jvm.MethodName) ({ cls := "AnyOrderModel", name := "about", desc := "(II)I" } : Jvm.MethodName), Cond.code ({ cls := "AnyOrderModel", name := "about", desc := "(II)I" } : Jvm.MethodName) prog_14_method_52_code (5 : Nat) (Option.some Jvm.ClassFile.FieldType.int), Cond.methodLink "AnyOrderLaw" (97 : Nat) ({ cls := "AnyOrderModel", name := "entryOf", desc := "(III)J" } : Jvm.MethodName), Cond.instanceMethod ({ cls := "AnyOrderModel", name := "entryOf", desc := "(III)J" } : Jvm.MethodName), Cond.selects "AnyOrderModel" ({ cls := "AnyOrderModel", name := "entryOf", desc := "(III)J" } : Jvm.MethodName) ({ cls := "AnyOrderModel", name := "entryOf", desc := "(III)J" } : Jvm.MethodName), Cond.code ({ cls := "AnyOrderModel", name := "entryOf", desc := "(III)J" } : Jvm.MethodName) prog_14_method_54_code (4 : Nat) (Option.some Jvm.ClassFile.FieldType.long), Cond.methodLink "AnyOrderModel" (243 : Nat) ({ cls := "AnyOrderModel", name := "multiplyOut", desc := "(I)V" } : Jvm.MethodName), Cond.privateMethod ({ cls := "AnyOrderModel", name := "multiplyOut", desc := "(I)V" } : Jvm.MethodName), Cond.instanceMethod ({ cls := "AnyOrderModel", name := "multiplyOut", desc := "(I)V" } : Jvm.MethodName), Cond.code ({ cls := "AnyOrderModel", name := "multiplyOut", desc := "(I)V" } : Jvm.MethodName) prog_14_method_53_code (3 : Nat) (Option.none : Option Jvm.ClassFile.FieldType), Cond.methodLink "AnyOrderLaw" (101 : Nat) ({ cls := "AnyOrderModel", name := "size", desc := "(II)J" } : Jvm.MethodName), Cond.instanceMethod ({ cls := "AnyOrderModel", name := "size", desc := "(II)J" } : Jvm.MethodName), Cond.selects "AnyOrderModel" ({ cls := "AnyOrderModel", name := "size", desc := "(II)J" } : Jvm.MethodName) ({ cls := "AnyOrderModel", name := "size", desc := "(II)J" } : Jvm.MethodName), Cond.code ({ cls := "AnyOrderModel", name := "size", desc := "(II)J" } : Jvm.MethodName) prog_14_method_55_code (3 : Nat) (Option.some Jvm.ClassFile.FieldType.long), Cond.methodLink "AnyOrderLaw" (105 : Nat) ({ cls := "AnyOrderModel", name := "sheet", desc := "(III)I" } : Jvm.MethodName)]
set_option maxRecDepth 20000 in
theorem TDe_24 : TD_24 = (tables_1.drop 1152).take 48 := rfl
set_option maxRecDepth 20000 in
theorem tw_1152 : (Cond.instanceMethod ({ cls := "AnyOrderModel", name := "multiply", desc := "(II)V" } : Jvm.MethodName) : Cond) ∈ TB := TB_d TDe_24 0 rfl rfl
set_option maxRecDepth 20000 in
theorem tw_1153 : (Cond.code ({ cls := "AnyOrderModel", name := "multiply", desc := "(II)V" } : Jvm.MethodName) prog_14_method_41_code (8 : Nat) (Option.none : Option Jvm.ClassFile.FieldType) : Cond) ∈ TB := TB_d TDe_24 1 rfl rfl
set_option maxRecDepth 20000 in
theorem tw_1154 : (Cond.methodLink "AnyOrderLaw" (72 : Nat) ({ cls := "AnyOrderModel", name := "product", desc := "(III)J" } : Jvm.MethodName) : Cond) ∈ TB := TB_d TDe_24 2 rfl rfl
set_option maxRecDepth 20000 in
theorem tw_1155 : (Cond.instanceMethod ({ cls := "AnyOrderModel", name := "product", desc := "(III)J" } : Jvm.MethodName) : Cond) ∈ TB := TB_d TDe_24 3 rfl rfl
set_option maxRecDepth 20000 in
theorem tw_1156 : (Cond.selects "AnyOrderModel" ({ cls := "AnyOrderModel", name := "product", desc := "(III)J" } : Jvm.MethodName) ({ cls := "AnyOrderModel", name := "product", desc := "(III)J" } : Jvm.MethodName) : Cond) ∈ TB := TB_d TDe_24 4 rfl rfl
set_option maxRecDepth 20000 in
theorem tw_1157 : (Cond.code ({ cls := "AnyOrderModel", name := "product", desc := "(III)J" } : Jvm.MethodName) prog_14_method_46_code (4 : Nat) (Option.some Jvm.ClassFile.FieldType.long) : Cond) ∈ TB := TB_d TDe_24 5 rfl rfl
set_option maxRecDepth 20000 in
theorem tw_1158 : (Cond.methodLink "AnyOrderModel" (235 : Nat) ({ cls := "AnyOrderModel", name := "isProduct", desc := "(I)Z" } : Jvm.MethodName) : Cond) ∈ TB := TB_d TDe_24 6 rfl rfl
set_option maxRecDepth 20000 in
theorem tw_1160 : (Cond.instanceMethod ({ cls := "AnyOrderModel", name := "isProduct", desc := "(I)Z" } : Jvm.MethodName) : Cond) ∈ TB := TB_d TDe_24 8 rfl rfl
set_option maxRecDepth 20000 in
theorem tw_1161 : (Cond.code ({ cls := "AnyOrderModel", name := "isProduct", desc := "(I)Z" } : Jvm.MethodName) prog_14_method_45_code (2 : Nat) (Option.some Jvm.ClassFile.FieldType.boolean) : Cond) ∈ TB := TB_d TDe_24 9 rfl rfl
set_option maxRecDepth 20000 in
theorem tw_1162 : (Cond.methodLink "AnyOrderLaw" (76 : Nat) ({ cls := "AnyOrderModel", name := "times", desc := "(II)I" } : Jvm.MethodName) : Cond) ∈ TB := TB_d TDe_24 10 rfl rfl
set_option maxRecDepth 20000 in
theorem tw_1163 : (Cond.instanceMethod ({ cls := "AnyOrderModel", name := "times", desc := "(II)I" } : Jvm.MethodName) : Cond) ∈ TB := TB_d TDe_24 11 rfl rfl
set_option maxRecDepth 20000 in
theorem tw_1164 : (Cond.selects "AnyOrderModel" ({ cls := "AnyOrderModel", name := "times", desc := "(II)I" } : Jvm.MethodName) ({ cls := "AnyOrderModel", name := "times", desc := "(II)I" } : Jvm.MethodName) : Cond) ∈ TB := TB_d TDe_24 12 rfl rfl
set_option maxRecDepth 20000 in
theorem tw_1165 : (Cond.code ({ cls := "AnyOrderModel", name := "times", desc := "(II)I" } : Jvm.MethodName) prog_14_method_47_code (3 : Nat) (Option.some Jvm.ClassFile.FieldType.int) : Cond) ∈ TB := TB_d TDe_24 13 rfl rfl
set_option maxRecDepth 20000 in
theorem tw_1166 : (Cond.methodLink "AnyOrderLaw" (81 : Nat) ({ cls := "AnyOrderModel", name := "word", desc := "(IIII)I" } : Jvm.MethodName) : Cond) ∈ TB := TB_d TDe_24 14 rfl rfl
set_option maxRecDepth 20000 in
theorem tw_1167 : (Cond.instanceMethod ({ cls := "AnyOrderModel", name := "word", desc := "(IIII)I" } : Jvm.MethodName) : Cond) ∈ TB := TB_d TDe_24 15 rfl rfl
set_option maxRecDepth 20000 in
theorem tw_1168 : (Cond.selects "AnyOrderModel" ({ cls := "AnyOrderModel", name := "word", desc := "(IIII)I" } : Jvm.MethodName) ({ cls := "AnyOrderModel", name := "word", desc := "(IIII)I" } : Jvm.MethodName) : Cond) ∈ TB := TB_d TDe_24 16 rfl rfl
set_option maxRecDepth 20000 in
theorem tw_1169 : (Cond.code ({ cls := "AnyOrderModel", name := "word", desc := "(IIII)I" } : Jvm.MethodName) prog_14_method_49_code (7 : Nat) (Option.some Jvm.ClassFile.FieldType.int) : Cond) ∈ TB := TB_d TDe_24 17 rfl rfl
set_option maxRecDepth 20000 in
theorem tw_1170 : (Cond.constantLong "AnyOrderModel" (238 : Nat) (12 : Int64) : Cond) ∈ TB := TB_d TDe_24 18 rfl rfl
set_option maxRecDepth 20000 in
theorem tw_1171 : (Cond.methodLink "AnyOrderLaw" (85 : Nat) ({ cls := "AnyOrderModel", name := "join", desc := "(II)I" } : Jvm.MethodName) : Cond) ∈ TB := TB_d TDe_24 19 rfl rfl
set_option maxRecDepth 20000 in
theorem tw_1172 : (Cond.instanceMethod ({ cls := "AnyOrderModel", name := "join", desc := "(II)I" } : Jvm.MethodName) : Cond) ∈ TB := TB_d TDe_24 20 rfl rfl
set_option maxRecDepth 20000 in
theorem tw_1173 : (Cond.selects "AnyOrderModel" ({ cls := "AnyOrderModel", name := "join", desc := "(II)I" } : Jvm.MethodName) ({ cls := "AnyOrderModel", name := "join", desc := "(II)I" } : Jvm.MethodName) : Cond) ∈ TB := TB_d TDe_24 21 rfl rfl
set_option maxRecDepth 20000 in
theorem tw_1174 : (Cond.code ({ cls := "AnyOrderModel", name := "join", desc := "(II)I" } : Jvm.MethodName) prog_14_method_50_code (4 : Nat) (Option.some Jvm.ClassFile.FieldType.int) : Cond) ∈ TB := TB_d TDe_24 22 rfl rfl
set_option maxRecDepth 20000 in
theorem tw_1175 : (Cond.methodLink "AnyOrderModel" (240 : Nat) ({ cls := "AnyOrderModel", name := "isWord", desc := "(I)Z" } : Jvm.MethodName) : Cond) ∈ TB := TB_d TDe_24 23 rfl rfl
set_option maxRecDepth 20000 in
theorem tw_1177 : (Cond.instanceMethod ({ cls := "AnyOrderModel", name := "isWord", desc := "(I)Z" } : Jvm.MethodName) : Cond) ∈ TB := TB_d TDe_24 25 rfl rfl
set_option maxRecDepth 20000 in
theorem tw_1178 : (Cond.code ({ cls := "AnyOrderModel", name := "isWord", desc := "(I)Z" } : Jvm.MethodName) prog_14_method_48_code (2 : Nat) (Option.some Jvm.ClassFile.FieldType.boolean) : Cond) ∈ TB := TB_d TDe_24 26 rfl rfl
set_option maxRecDepth 20000 in
theorem tw_1179 : (Cond.methodLink "AnyOrderLaw" (89 : Nat) ({ cls := "AnyOrderModel", name := "letter", desc := "(II)I" } : Jvm.MethodName) : Cond) ∈ TB := TB_d TDe_24 27 rfl rfl
set_option maxRecDepth 20000 in
theorem tw_1180 : (Cond.instanceMethod ({ cls := "AnyOrderModel", name := "letter", desc := "(II)I" } : Jvm.MethodName) : Cond) ∈ TB := TB_d TDe_24 28 rfl rfl
set_option maxRecDepth 20000 in
theorem tw_1181 : (Cond.selects "AnyOrderModel" ({ cls := "AnyOrderModel", name := "letter", desc := "(II)I" } : Jvm.MethodName) ({ cls := "AnyOrderModel", name := "letter", desc := "(II)I" } : Jvm.MethodName) : Cond) ∈ TB := TB_d TDe_24 29 rfl rfl
set_option maxRecDepth 20000 in
theorem tw_1182 : (Cond.code ({ cls := "AnyOrderModel", name := "letter", desc := "(II)I" } : Jvm.MethodName) prog_14_method_51_code (3 : Nat) (Option.some Jvm.ClassFile.FieldType.int) : Cond) ∈ TB := TB_d TDe_24 30 rfl rfl
set_option maxRecDepth 20000 in
theorem tw_1183 : (Cond.methodLink "AnyOrderLaw" (93 : Nat) ({ cls := "AnyOrderModel", name := "about", desc := "(II)I" } : Jvm.MethodName) : Cond) ∈ TB := TB_d TDe_24 31 rfl rfl
set_option maxRecDepth 20000 in
theorem tw_1184 : (Cond.instanceMethod ({ cls := "AnyOrderModel", name := "about", desc := "(II)I" } : Jvm.MethodName) : Cond) ∈ TB := TB_d TDe_24 32 rfl rfl
set_option maxRecDepth 20000 in
theorem tw_1185 : (Cond.selects "AnyOrderModel" ({ cls := "AnyOrderModel", name := "about", desc := "(II)I" } : Jvm.MethodName) ({ cls := "AnyOrderModel", name := "about", desc := "(II)I" } : Jvm.MethodName) : Cond) ∈ TB := TB_d TDe_24 33 rfl rfl
set_option maxRecDepth 20000 in
theorem tw_1186 : (Cond.code ({ cls := "AnyOrderModel", name := "about", desc := "(II)I" } : Jvm.MethodName) prog_14_method_52_code (5 : Nat) (Option.some Jvm.ClassFile.FieldType.int) : Cond) ∈ TB := TB_d TDe_24 34 rfl rfl
set_option maxRecDepth 20000 in
theorem tw_1187 : (Cond.methodLink "AnyOrderLaw" (97 : Nat) ({ cls := "AnyOrderModel", name := "entryOf", desc := "(III)J" } : Jvm.MethodName) : Cond) ∈ TB := TB_d TDe_24 35 rfl rfl
set_option maxRecDepth 20000 in
theorem tw_1188 : (Cond.instanceMethod ({ cls := "AnyOrderModel", name := "entryOf", desc := "(III)J" } : Jvm.MethodName) : Cond) ∈ TB := TB_d TDe_24 36 rfl rfl
set_option maxRecDepth 20000 in
theorem tw_1189 : (Cond.selects "AnyOrderModel" ({ cls := "AnyOrderModel", name := "entryOf", desc := "(III)J" } : Jvm.MethodName) ({ cls := "AnyOrderModel", name := "entryOf", desc := "(III)J" } : Jvm.MethodName) : Cond) ∈ TB := TB_d TDe_24 37 rfl rfl
set_option maxRecDepth 20000 in
theorem tw_1190 : (Cond.code ({ cls := "AnyOrderModel", name := "entryOf", desc := "(III)J" } : Jvm.MethodName) prog_14_method_54_code (4 : Nat) (Option.some Jvm.ClassFile.FieldType.long) : Cond) ∈ TB := TB_d TDe_24 38 rfl rfl
set_option maxRecDepth 20000 in
theorem tw_1191 : (Cond.methodLink "AnyOrderModel" (243 : Nat) ({ cls := "AnyOrderModel", name := "multiplyOut", desc := "(I)V" } : Jvm.MethodName) : Cond) ∈ TB := TB_d TDe_24 39 rfl rfl
set_option maxRecDepth 20000 in
theorem tw_1193 : (Cond.instanceMethod ({ cls := "AnyOrderModel", name := "multiplyOut", desc := "(I)V" } : Jvm.MethodName) : Cond) ∈ TB := TB_d TDe_24 41 rfl rfl
set_option maxRecDepth 20000 in
theorem tw_1194 : (Cond.code ({ cls := "AnyOrderModel", name := "multiplyOut", desc := "(I)V" } : Jvm.MethodName) prog_14_method_53_code (3 : Nat) (Option.none : Option Jvm.ClassFile.FieldType) : Cond) ∈ TB := TB_d TDe_24 42 rfl rfl
set_option maxRecDepth 20000 in
theorem tw_1195 : (Cond.methodLink "AnyOrderLaw" (101 : Nat) ({ cls := "AnyOrderModel", name := "size", desc := "(II)J" } : Jvm.MethodName) : Cond) ∈ TB := TB_d TDe_24 43 rfl rfl
set_option maxRecDepth 20000 in
theorem tw_1196 : (Cond.instanceMethod ({ cls := "AnyOrderModel", name := "size", desc := "(II)J" } : Jvm.MethodName) : Cond) ∈ TB := TB_d TDe_24 44 rfl rfl
set_option maxRecDepth 20000 in
theorem tw_1197 : (Cond.selects "AnyOrderModel" ({ cls := "AnyOrderModel", name := "size", desc := "(II)J" } : Jvm.MethodName) ({ cls := "AnyOrderModel", name := "size", desc := "(II)J" } : Jvm.MethodName) : Cond) ∈ TB := TB_d TDe_24 45 rfl rfl
set_option maxRecDepth 20000 in
theorem tw_1198 : (Cond.code ({ cls := "AnyOrderModel", name := "size", desc := "(II)J" } : Jvm.MethodName) prog_14_method_55_code (3 : Nat) (Option.some Jvm.ClassFile.FieldType.long) : Cond) ∈ TB := TB_d TDe_24 46 rfl rfl
set_option maxRecDepth 20000 in
theorem tw_1199 : (Cond.methodLink "AnyOrderLaw" (105 : Nat) ({ cls := "AnyOrderModel", name := "sheet", desc := "(III)I" } : Jvm.MethodName) : Cond) ∈ TB := TB_d TDe_24 47 rfl rfl
def TD_25 : List Cond := [Cond.instanceMethod ({ cls := "AnyOrderModel", name := "sheet", desc := "(III)I" } : Jvm.MethodName), Cond.selects "AnyOrderModel" ({ cls := "AnyOrderModel", name := "sheet", desc := "(III)I" } : Jvm.MethodName) ({ cls := "AnyOrderModel", name := "sheet", desc := "(III)I" } : Jvm.MethodName), Cond.code ({ cls := "AnyOrderModel", name := "sheet", desc := "(III)I" } : Jvm.MethodName) prog_14_method_56_code (5 : Nat) (Option.some Jvm.ClassFile.FieldType.int), Cond.methodLink "AnyOrderLaw" (109 : Nat) ({ cls := "AnyOrderModel", name := "lose", desc := "(I)I" } : Jvm.MethodName), Cond.instanceMethod ({ cls := "AnyOrderModel", name := "lose", desc := "(I)I" } : Jvm.MethodName), Cond.selects "AnyOrderModel" ({ cls := "AnyOrderModel", name := "lose", desc := "(I)I" } : Jvm.MethodName) ({ cls := "AnyOrderModel", name := "lose", desc := "(I)I" } : Jvm.MethodName), Cond.code ({ cls := "AnyOrderModel", name := "lose", desc := "(I)I" } : Jvm.MethodName) prog_14_method_57_code (3 : Nat) (Option.some Jvm.ClassFile.FieldType.int), Cond.methodLink "AnyOrderLaw" (113 : Nat) ({ cls := "AnyOrderModel", name := "put", desc := "(III)I" } : Jvm.MethodName), Cond.instanceMethod ({ cls := "AnyOrderModel", name := "put", desc := "(III)I" } : Jvm.MethodName), Cond.selects "AnyOrderModel" ({ cls := "AnyOrderModel", name := "put", desc := "(III)I" } : Jvm.MethodName) ({ cls := "AnyOrderModel", name := "put", desc := "(III)I" } : Jvm.MethodName), Cond.code ({ cls := "AnyOrderModel", name := "put", desc := "(III)I" } : Jvm.MethodName) prog_14_method_58_code (4 : Nat) (Option.some Jvm.ClassFile.FieldType.int), Cond.methodLink "AnyOrderLaw" (117 : Nat) ({ cls := "AnyOrderModel", name := "at", desc := "(III)J" } : Jvm.MethodName), Cond.instanceMethod ({ cls := "AnyOrderModel", name := "at", desc := "(III)J" } : Jvm.MethodName), Cond.selects "AnyOrderModel" ({ cls := "AnyOrderModel", name := "at", desc := "(III)J" } : Jvm.MethodName) ({ cls := "AnyOrderModel", name := "at", desc := "(III)J" } : Jvm.MethodName), Cond.code ({ cls := "AnyOrderModel", name := "at", desc := "(III)J" } : Jvm.MethodName) prog_14_method_59_code (4 : Nat) (Option.some Jvm.ClassFile.FieldType.long), Cond.methodLink "AnyOrderModel" (246 : Nat) ({ cls := "AnyOrderModel", name := "lost", desc := "(I)J" } : Jvm.MethodName), Cond.privateMethod ({ cls := "AnyOrderModel", name := "lost", desc := "(I)J" } : Jvm.MethodName), Cond.instanceMethod ({ cls := "AnyOrderModel", name := "lost", desc := "(I)J" } : Jvm.MethodName), Cond.code ({ cls := "AnyOrderModel", name := "lost", desc := "(I)J" } : Jvm.MethodName) prog_14_method_4_code (2 : Nat) (Option.some Jvm.ClassFile.FieldType.long), Cond.methodLink "AnyOrderLaw" (121 : Nat) ({ cls := "AnyOrderModel", name := "tell", desc := "(I)I" } : Jvm.MethodName), Cond.instanceMethod ({ cls := "AnyOrderModel", name := "tell", desc := "(I)I" } : Jvm.MethodName), Cond.selects "AnyOrderModel" ({ cls := "AnyOrderModel", name := "tell", desc := "(I)I" } : Jvm.MethodName) ({ cls := "AnyOrderModel", name := "tell", desc := "(I)I" } : Jvm.MethodName), Cond.code ({ cls := "AnyOrderModel", name := "tell", desc := "(I)I" } : Jvm.MethodName) prog_14_method_64_code (3 : Nat) (Option.some Jvm.ClassFile.FieldType.int), Cond.methodLink "AnyOrderModel" (252 : Nat) ({ cls := "AnyOrderModel", name := "kindOf", desc := "(I)I" } : Jvm.MethodName), Cond.privateMethod ({ cls := "AnyOrderModel", name := "kindOf", desc := "(I)I" } : Jvm.MethodName), Cond.instanceMethod ({ cls := "AnyOrderModel", name := "kindOf", desc := "(I)I" } : Jvm.MethodName), Cond.code ({ cls := "AnyOrderModel", name := "kindOf", desc := "(I)I" } : Jvm.MethodName) prog_14_method_63_code (9 : Nat) (Option.some Jvm.ClassFile.FieldType.int), Cond.methodLink "AnyOrderModel" (255 : Nat) ({ cls := "AnyOrderModel", name := "begins", desc := "(I)V" } : Jvm.MethodName), Cond.privateMethod ({ cls := "AnyOrderModel", name := "begins", desc := "(I)V" } : Jvm.MethodName), Cond.instanceMethod ({ cls := "AnyOrderModel", name := "begins", desc := "(I)V" } : Jvm.MethodName), Cond.code ({ cls := "AnyOrderModel", name := "begins", desc := "(I)V" } : Jvm.MethodName) prog_14_method_60_code (2 : Nat) (Option.none : Option Jvm.ClassFile.FieldType), Cond.methodLink "AnyOrderModel" (258 : Nat) ({ cls := "AnyOrderModel", name := "trackOf", desc := "(I)I" } : Jvm.MethodName), Cond.privateMethod ({ cls := "AnyOrderModel", name := "trackOf", desc := "(I)I" } : Jvm.MethodName), Cond.instanceMethod ({ cls := "AnyOrderModel", name := "trackOf", desc := "(I)I" } : Jvm.MethodName), Cond.code ({ cls := "AnyOrderModel", name := "trackOf", desc := "(I)I" } : Jvm.MethodName) prog_14_method_62_code (4 : Nat) (Option.some Jvm.ClassFile.FieldType.int), Cond.methodLink "AnyOrderModel" (261 : Nat) ({ cls := "AnyOrderModel", name := "greatestOf", desc := "(I)I" } : Jvm.MethodName), Cond.privateMethod ({ cls := "AnyOrderModel", name := "greatestOf", desc := "(I)I" } : Jvm.MethodName), Cond.instanceMethod ({ cls := "AnyOrderModel", name := "greatestOf", desc := "(I)I" } : Jvm.MethodName), Cond.code ({ cls := "AnyOrderModel", name := "greatestOf", desc := "(I)I" } : Jvm.MethodName) prog_14_method_61_code (4 : Nat) (Option.some Jvm.ClassFile.FieldType.int), Cond.methodLink "AnyOrderLaw" (125 : Nat) ({ cls := "AnyOrderModel", name := "weigh", desc := "(I)I" } : Jvm.MethodName), Cond.instanceMethod ({ cls := "AnyOrderModel", name := "weigh", desc := "(I)I" } : Jvm.MethodName), Cond.selects "AnyOrderModel" ({ cls := "AnyOrderModel", name := "weigh", desc := "(I)I" } : Jvm.MethodName) ({ cls := "AnyOrderModel", name := "weigh", desc := "(I)I" } : Jvm.MethodName), Cond.code ({ cls := "AnyOrderModel", name := "weigh", desc := "(I)I" } : Jvm.MethodName) prog_14_method_65_code (3 : Nat) (Option.some Jvm.ClassFile.FieldType.int), Cond.methodLink "AnyOrderLaw" (129 : Nat) ({ cls := "AnyOrderModel", name := "as", desc := "(II)I" } : Jvm.MethodName), Cond.instanceMethod ({ cls := "AnyOrderModel", name := "as", desc := "(II)I" } : Jvm.MethodName), Cond.selects "AnyOrderModel" ({ cls := "AnyOrderModel", name := "as", desc := "(II)I" } : Jvm.MethodName) ({ cls := "AnyOrderModel", name := "as", desc := "(II)I" } : Jvm.MethodName), Cond.code ({ cls := "AnyOrderModel", name := "as", desc := "(II)I" } : Jvm.MethodName) prog_14_method_66_code (3 : Nat) (Option.some Jvm.ClassFile.FieldType.int), Cond.methodLink "AnyOrderLaw" (133 : Nat) ({ cls := "AnyOrderModel", name := "history", desc := "()I" } : Jvm.MethodName)]
set_option maxRecDepth 20000 in
theorem TDe_25 : TD_25 = (tables_1.drop 1200).take 48 := rfl
set_option maxRecDepth 20000 in
theorem tw_1200 : (Cond.instanceMethod ({ cls := "AnyOrderModel", name := "sheet", desc := "(III)I" } : Jvm.MethodName) : Cond) ∈ TB := TB_d TDe_25 0 rfl rfl
set_option maxRecDepth 20000 in
theorem tw_1201 : (Cond.selects "AnyOrderModel" ({ cls := "AnyOrderModel", name := "sheet", desc := "(III)I" } : Jvm.MethodName) ({ cls := "AnyOrderModel", name := "sheet", desc := "(III)I" } : Jvm.MethodName) : Cond) ∈ TB := TB_d TDe_25 1 rfl rfl
set_option maxRecDepth 20000 in
theorem tw_1202 : (Cond.code ({ cls := "AnyOrderModel", name := "sheet", desc := "(III)I" } : Jvm.MethodName) prog_14_method_56_code (5 : Nat) (Option.some Jvm.ClassFile.FieldType.int) : Cond) ∈ TB := TB_d TDe_25 2 rfl rfl
set_option maxRecDepth 20000 in
theorem tw_1203 : (Cond.methodLink "AnyOrderLaw" (109 : Nat) ({ cls := "AnyOrderModel", name := "lose", desc := "(I)I" } : Jvm.MethodName) : Cond) ∈ TB := TB_d TDe_25 3 rfl rfl
set_option maxRecDepth 20000 in
theorem tw_1204 : (Cond.instanceMethod ({ cls := "AnyOrderModel", name := "lose", desc := "(I)I" } : Jvm.MethodName) : Cond) ∈ TB := TB_d TDe_25 4 rfl rfl
set_option maxRecDepth 20000 in
theorem tw_1205 : (Cond.selects "AnyOrderModel" ({ cls := "AnyOrderModel", name := "lose", desc := "(I)I" } : Jvm.MethodName) ({ cls := "AnyOrderModel", name := "lose", desc := "(I)I" } : Jvm.MethodName) : Cond) ∈ TB := TB_d TDe_25 5 rfl rfl
set_option maxRecDepth 20000 in
theorem tw_1206 : (Cond.code ({ cls := "AnyOrderModel", name := "lose", desc := "(I)I" } : Jvm.MethodName) prog_14_method_57_code (3 : Nat) (Option.some Jvm.ClassFile.FieldType.int) : Cond) ∈ TB := TB_d TDe_25 6 rfl rfl
set_option maxRecDepth 20000 in
theorem tw_1207 : (Cond.methodLink "AnyOrderLaw" (113 : Nat) ({ cls := "AnyOrderModel", name := "put", desc := "(III)I" } : Jvm.MethodName) : Cond) ∈ TB := TB_d TDe_25 7 rfl rfl
set_option maxRecDepth 20000 in
theorem tw_1208 : (Cond.instanceMethod ({ cls := "AnyOrderModel", name := "put", desc := "(III)I" } : Jvm.MethodName) : Cond) ∈ TB := TB_d TDe_25 8 rfl rfl
set_option maxRecDepth 20000 in
theorem tw_1209 : (Cond.selects "AnyOrderModel" ({ cls := "AnyOrderModel", name := "put", desc := "(III)I" } : Jvm.MethodName) ({ cls := "AnyOrderModel", name := "put", desc := "(III)I" } : Jvm.MethodName) : Cond) ∈ TB := TB_d TDe_25 9 rfl rfl
set_option maxRecDepth 20000 in
theorem tw_1210 : (Cond.code ({ cls := "AnyOrderModel", name := "put", desc := "(III)I" } : Jvm.MethodName) prog_14_method_58_code (4 : Nat) (Option.some Jvm.ClassFile.FieldType.int) : Cond) ∈ TB := TB_d TDe_25 10 rfl rfl
set_option maxRecDepth 20000 in
theorem tw_1211 : (Cond.methodLink "AnyOrderLaw" (117 : Nat) ({ cls := "AnyOrderModel", name := "at", desc := "(III)J" } : Jvm.MethodName) : Cond) ∈ TB := TB_d TDe_25 11 rfl rfl
set_option maxRecDepth 20000 in
theorem tw_1212 : (Cond.instanceMethod ({ cls := "AnyOrderModel", name := "at", desc := "(III)J" } : Jvm.MethodName) : Cond) ∈ TB := TB_d TDe_25 12 rfl rfl
set_option maxRecDepth 20000 in
theorem tw_1213 : (Cond.selects "AnyOrderModel" ({ cls := "AnyOrderModel", name := "at", desc := "(III)J" } : Jvm.MethodName) ({ cls := "AnyOrderModel", name := "at", desc := "(III)J" } : Jvm.MethodName) : Cond) ∈ TB := TB_d TDe_25 13 rfl rfl
set_option maxRecDepth 20000 in
theorem tw_1214 : (Cond.code ({ cls := "AnyOrderModel", name := "at", desc := "(III)J" } : Jvm.MethodName) prog_14_method_59_code (4 : Nat) (Option.some Jvm.ClassFile.FieldType.long) : Cond) ∈ TB := TB_d TDe_25 14 rfl rfl
set_option maxRecDepth 20000 in
theorem tw_1215 : (Cond.methodLink "AnyOrderModel" (246 : Nat) ({ cls := "AnyOrderModel", name := "lost", desc := "(I)J" } : Jvm.MethodName) : Cond) ∈ TB := TB_d TDe_25 15 rfl rfl
set_option maxRecDepth 20000 in
theorem tw_1217 : (Cond.instanceMethod ({ cls := "AnyOrderModel", name := "lost", desc := "(I)J" } : Jvm.MethodName) : Cond) ∈ TB := TB_d TDe_25 17 rfl rfl
set_option maxRecDepth 20000 in
theorem tw_1218 : (Cond.code ({ cls := "AnyOrderModel", name := "lost", desc := "(I)J" } : Jvm.MethodName) prog_14_method_4_code (2 : Nat) (Option.some Jvm.ClassFile.FieldType.long) : Cond) ∈ TB := TB_d TDe_25 18 rfl rfl
set_option maxRecDepth 20000 in
theorem tw_1219 : (Cond.methodLink "AnyOrderLaw" (121 : Nat) ({ cls := "AnyOrderModel", name := "tell", desc := "(I)I" } : Jvm.MethodName) : Cond) ∈ TB := TB_d TDe_25 19 rfl rfl
set_option maxRecDepth 20000 in
theorem tw_1220 : (Cond.instanceMethod ({ cls := "AnyOrderModel", name := "tell", desc := "(I)I" } : Jvm.MethodName) : Cond) ∈ TB := TB_d TDe_25 20 rfl rfl
set_option maxRecDepth 20000 in
theorem tw_1221 : (Cond.selects "AnyOrderModel" ({ cls := "AnyOrderModel", name := "tell", desc := "(I)I" } : Jvm.MethodName) ({ cls := "AnyOrderModel", name := "tell", desc := "(I)I" } : Jvm.MethodName) : Cond) ∈ TB := TB_d TDe_25 21 rfl rfl
set_option maxRecDepth 20000 in
theorem tw_1222 : (Cond.code ({ cls := "AnyOrderModel", name := "tell", desc := "(I)I" } : Jvm.MethodName) prog_14_method_64_code (3 : Nat) (Option.some Jvm.ClassFile.FieldType.int) : Cond) ∈ TB := TB_d TDe_25 22 rfl rfl
set_option maxRecDepth 20000 in
theorem tw_1223 : (Cond.methodLink "AnyOrderModel" (252 : Nat) ({ cls := "AnyOrderModel", name := "kindOf", desc := "(I)I" } : Jvm.MethodName) : Cond) ∈ TB := TB_d TDe_25 23 rfl rfl
set_option maxRecDepth 20000 in
theorem tw_1225 : (Cond.instanceMethod ({ cls := "AnyOrderModel", name := "kindOf", desc := "(I)I" } : Jvm.MethodName) : Cond) ∈ TB := TB_d TDe_25 25 rfl rfl
set_option maxRecDepth 20000 in
theorem tw_1226 : (Cond.code ({ cls := "AnyOrderModel", name := "kindOf", desc := "(I)I" } : Jvm.MethodName) prog_14_method_63_code (9 : Nat) (Option.some Jvm.ClassFile.FieldType.int) : Cond) ∈ TB := TB_d TDe_25 26 rfl rfl
set_option maxRecDepth 20000 in
theorem tw_1227 : (Cond.methodLink "AnyOrderModel" (255 : Nat) ({ cls := "AnyOrderModel", name := "begins", desc := "(I)V" } : Jvm.MethodName) : Cond) ∈ TB := TB_d TDe_25 27 rfl rfl
set_option maxRecDepth 20000 in
theorem tw_1229 : (Cond.instanceMethod ({ cls := "AnyOrderModel", name := "begins", desc := "(I)V" } : Jvm.MethodName) : Cond) ∈ TB := TB_d TDe_25 29 rfl rfl
set_option maxRecDepth 20000 in
theorem tw_1230 : (Cond.code ({ cls := "AnyOrderModel", name := "begins", desc := "(I)V" } : Jvm.MethodName) prog_14_method_60_code (2 : Nat) (Option.none : Option Jvm.ClassFile.FieldType) : Cond) ∈ TB := TB_d TDe_25 30 rfl rfl
set_option maxRecDepth 20000 in
theorem tw_1231 : (Cond.methodLink "AnyOrderModel" (258 : Nat) ({ cls := "AnyOrderModel", name := "trackOf", desc := "(I)I" } : Jvm.MethodName) : Cond) ∈ TB := TB_d TDe_25 31 rfl rfl
set_option maxRecDepth 20000 in
theorem tw_1233 : (Cond.instanceMethod ({ cls := "AnyOrderModel", name := "trackOf", desc := "(I)I" } : Jvm.MethodName) : Cond) ∈ TB := TB_d TDe_25 33 rfl rfl
set_option maxRecDepth 20000 in
theorem tw_1234 : (Cond.code ({ cls := "AnyOrderModel", name := "trackOf", desc := "(I)I" } : Jvm.MethodName) prog_14_method_62_code (4 : Nat) (Option.some Jvm.ClassFile.FieldType.int) : Cond) ∈ TB := TB_d TDe_25 34 rfl rfl
set_option maxRecDepth 20000 in
theorem tw_1235 : (Cond.methodLink "AnyOrderModel" (261 : Nat) ({ cls := "AnyOrderModel", name := "greatestOf", desc := "(I)I" } : Jvm.MethodName) : Cond) ∈ TB := TB_d TDe_25 35 rfl rfl
set_option maxRecDepth 20000 in
theorem tw_1237 : (Cond.instanceMethod ({ cls := "AnyOrderModel", name := "greatestOf", desc := "(I)I" } : Jvm.MethodName) : Cond) ∈ TB := TB_d TDe_25 37 rfl rfl
set_option maxRecDepth 20000 in
theorem tw_1238 : (Cond.code ({ cls := "AnyOrderModel", name := "greatestOf", desc := "(I)I" } : Jvm.MethodName) prog_14_method_61_code (4 : Nat) (Option.some Jvm.ClassFile.FieldType.int) : Cond) ∈ TB := TB_d TDe_25 38 rfl rfl
set_option maxRecDepth 20000 in
theorem tw_1239 : (Cond.methodLink "AnyOrderLaw" (125 : Nat) ({ cls := "AnyOrderModel", name := "weigh", desc := "(I)I" } : Jvm.MethodName) : Cond) ∈ TB := TB_d TDe_25 39 rfl rfl
set_option maxRecDepth 20000 in
theorem tw_1240 : (Cond.instanceMethod ({ cls := "AnyOrderModel", name := "weigh", desc := "(I)I" } : Jvm.MethodName) : Cond) ∈ TB := TB_d TDe_25 40 rfl rfl
set_option maxRecDepth 20000 in
theorem tw_1241 : (Cond.selects "AnyOrderModel" ({ cls := "AnyOrderModel", name := "weigh", desc := "(I)I" } : Jvm.MethodName) ({ cls := "AnyOrderModel", name := "weigh", desc := "(I)I" } : Jvm.MethodName) : Cond) ∈ TB := TB_d TDe_25 41 rfl rfl
set_option maxRecDepth 20000 in
theorem tw_1242 : (Cond.code ({ cls := "AnyOrderModel", name := "weigh", desc := "(I)I" } : Jvm.MethodName) prog_14_method_65_code (3 : Nat) (Option.some Jvm.ClassFile.FieldType.int) : Cond) ∈ TB := TB_d TDe_25 42 rfl rfl
set_option maxRecDepth 20000 in
theorem tw_1243 : (Cond.methodLink "AnyOrderLaw" (129 : Nat) ({ cls := "AnyOrderModel", name := "as", desc := "(II)I" } : Jvm.MethodName) : Cond) ∈ TB := TB_d TDe_25 43 rfl rfl
set_option maxRecDepth 20000 in
theorem tw_1244 : (Cond.instanceMethod ({ cls := "AnyOrderModel", name := "as", desc := "(II)I" } : Jvm.MethodName) : Cond) ∈ TB := TB_d TDe_25 44 rfl rfl
set_option maxRecDepth 20000 in
theorem tw_1245 : (Cond.selects "AnyOrderModel" ({ cls := "AnyOrderModel", name := "as", desc := "(II)I" } : Jvm.MethodName) ({ cls := "AnyOrderModel", name := "as", desc := "(II)I" } : Jvm.MethodName) : Cond) ∈ TB := TB_d TDe_25 45 rfl rfl
set_option maxRecDepth 20000 in
theorem tw_1246 : (Cond.code ({ cls := "AnyOrderModel", name := "as", desc := "(II)I" } : Jvm.MethodName) prog_14_method_66_code (3 : Nat) (Option.some Jvm.ClassFile.FieldType.int) : Cond) ∈ TB := TB_d TDe_25 46 rfl rfl
set_option maxRecDepth 20000 in
theorem tw_1247 : (Cond.methodLink "AnyOrderLaw" (133 : Nat) ({ cls := "AnyOrderModel", name := "history", desc := "()I" } : Jvm.MethodName) : Cond) ∈ TB := TB_d TDe_25 47 rfl rfl
def TD_26 : List Cond := [Cond.instanceMethod ({ cls := "AnyOrderModel", name := "history", desc := "()I" } : Jvm.MethodName), Cond.selects "AnyOrderModel" ({ cls := "AnyOrderModel", name := "history", desc := "()I" } : Jvm.MethodName) ({ cls := "AnyOrderModel", name := "history", desc := "()I" } : Jvm.MethodName), Cond.code ({ cls := "AnyOrderModel", name := "history", desc := "()I" } : Jvm.MethodName) prog_14_method_67_code (1 : Nat) (Option.some Jvm.ClassFile.FieldType.int), Cond.methodLink "AnyOrderLaw" (137 : Nat) ({ cls := "AnyOrderModel", name := "fault", desc := "()I" } : Jvm.MethodName), Cond.instanceMethod ({ cls := "AnyOrderModel", name := "fault", desc := "()I" } : Jvm.MethodName), Cond.selects "AnyOrderModel" ({ cls := "AnyOrderModel", name := "fault", desc := "()I" } : Jvm.MethodName) ({ cls := "AnyOrderModel", name := "fault", desc := "()I" } : Jvm.MethodName), Cond.code ({ cls := "AnyOrderModel", name := "fault", desc := "()I" } : Jvm.MethodName) prog_14_method_68_code (1 : Nat) (Option.some Jvm.ClassFile.FieldType.int), Cond.methodLink "AnyOrderLaw" (141 : Nat) ({ cls := "AnyOrderModel", name := "told", desc := "(I)I" } : Jvm.MethodName), Cond.instanceMethod ({ cls := "AnyOrderModel", name := "told", desc := "(I)I" } : Jvm.MethodName), Cond.selects "AnyOrderModel" ({ cls := "AnyOrderModel", name := "told", desc := "(I)I" } : Jvm.MethodName) ({ cls := "AnyOrderModel", name := "told", desc := "(I)I" } : Jvm.MethodName), Cond.code ({ cls := "AnyOrderModel", name := "told", desc := "(I)I" } : Jvm.MethodName) prog_14_method_69_code (5 : Nat) (Option.some Jvm.ClassFile.FieldType.int), Cond.sameMethod "AnyOrder$EvenTable" "AnyOrder$EvenTable" "telling" "(LAnyOrder$Trail;)I", Cond.sameMethod "AnyOrder$Table" "AnyOrder$Table" "plainTelling" "(LAnyOrder$Trail;)I", Cond.selects "AnyOrder$EvenTable" ({ cls := "AnyOrder$Table", name := "plainTelling", desc := "(LAnyOrder$Trail;)I" } : Jvm.MethodName) ({ cls := "AnyOrder$Table", name := "plainTelling", desc := "(LAnyOrder$Trail;)I" } : Jvm.MethodName), Cond.selects "AnyOrder$ShuffleTable" ({ cls := "AnyOrder$Table", name := "plainTelling", desc := "(LAnyOrder$Trail;)I" } : Jvm.MethodName) ({ cls := "AnyOrder$Table", name := "plainTelling", desc := "(LAnyOrder$Trail;)I" } : Jvm.MethodName), Cond.selects "AnyOrder$Table" ({ cls := "AnyOrder$Table", name := "plainTelling", desc := "(LAnyOrder$Trail;)I" } : Jvm.MethodName) ({ cls := "AnyOrder$Table", name := "plainTelling", desc := "(LAnyOrder$Trail;)I" } : Jvm.MethodName), Cond.sameMethod "AnyOrder$EvenTable" "AnyOrder$EvenTable" "isOfKind" "(I)Z", Cond.castable "AnyOrder$ShuffleTable" "AnyOrder$Table", Cond.castable "AnyOrder$EvenTable" "AnyOrder$Table"]
set_option maxRecDepth 20000 in
theorem TDe_26 : TD_26 = (tables_1.drop 1248).take 48 := rfl
set_option maxRecDepth 20000 in
theorem tw_1248 : (Cond.instanceMethod ({ cls := "AnyOrderModel", name := "history", desc := "()I" } : Jvm.MethodName) : Cond) ∈ TB := TB_d TDe_26 0 rfl rfl
set_option maxRecDepth 20000 in
theorem tw_1249 : (Cond.selects "AnyOrderModel" ({ cls := "AnyOrderModel", name := "history", desc := "()I" } : Jvm.MethodName) ({ cls := "AnyOrderModel", name := "history", desc := "()I" } : Jvm.MethodName) : Cond) ∈ TB := TB_d TDe_26 1 rfl rfl
set_option maxRecDepth 20000 in
theorem tw_1250 : (Cond.code ({ cls := "AnyOrderModel", name := "history", desc := "()I" } : Jvm.MethodName) prog_14_method_67_code (1 : Nat) (Option.some Jvm.ClassFile.FieldType.int) : Cond) ∈ TB := TB_d TDe_26 2 rfl rfl
set_option maxRecDepth 20000 in
theorem tw_1251 : (Cond.methodLink "AnyOrderLaw" (137 : Nat) ({ cls := "AnyOrderModel", name := "fault", desc := "()I" } : Jvm.MethodName) : Cond) ∈ TB := TB_d TDe_26 3 rfl rfl
set_option maxRecDepth 20000 in
theorem tw_1252 : (Cond.instanceMethod ({ cls := "AnyOrderModel", name := "fault", desc := "()I" } : Jvm.MethodName) : Cond) ∈ TB := TB_d TDe_26 4 rfl rfl
set_option maxRecDepth 20000 in
theorem tw_1253 : (Cond.selects "AnyOrderModel" ({ cls := "AnyOrderModel", name := "fault", desc := "()I" } : Jvm.MethodName) ({ cls := "AnyOrderModel", name := "fault", desc := "()I" } : Jvm.MethodName) : Cond) ∈ TB := TB_d TDe_26 5 rfl rfl
set_option maxRecDepth 20000 in
theorem tw_1254 : (Cond.code ({ cls := "AnyOrderModel", name := "fault", desc := "()I" } : Jvm.MethodName) prog_14_method_68_code (1 : Nat) (Option.some Jvm.ClassFile.FieldType.int) : Cond) ∈ TB := TB_d TDe_26 6 rfl rfl
set_option maxRecDepth 20000 in
theorem tw_1255 : (Cond.methodLink "AnyOrderLaw" (141 : Nat) ({ cls := "AnyOrderModel", name := "told", desc := "(I)I" } : Jvm.MethodName) : Cond) ∈ TB := TB_d TDe_26 7 rfl rfl
set_option maxRecDepth 20000 in
theorem tw_1256 : (Cond.instanceMethod ({ cls := "AnyOrderModel", name := "told", desc := "(I)I" } : Jvm.MethodName) : Cond) ∈ TB := TB_d TDe_26 8 rfl rfl
set_option maxRecDepth 20000 in
theorem tw_1257 : (Cond.selects "AnyOrderModel" ({ cls := "AnyOrderModel", name := "told", desc := "(I)I" } : Jvm.MethodName) ({ cls := "AnyOrderModel", name := "told", desc := "(I)I" } : Jvm.MethodName) : Cond) ∈ TB := TB_d TDe_26 9 rfl rfl
set_option maxRecDepth 20000 in
theorem tw_1258 : (Cond.code ({ cls := "AnyOrderModel", name := "told", desc := "(I)I" } : Jvm.MethodName) prog_14_method_69_code (5 : Nat) (Option.some Jvm.ClassFile.FieldType.int) : Cond) ∈ TB := TB_d TDe_26 10 rfl rfl
set_option maxRecDepth 20000 in
theorem tw_1259 : (Cond.sameMethod "AnyOrder$EvenTable" "AnyOrder$EvenTable" "telling" "(LAnyOrder$Trail;)I" : Cond) ∈ TB := TB_d TDe_26 11 rfl rfl
set_option maxRecDepth 20000 in
theorem tw_1260 : (Cond.sameMethod "AnyOrder$Table" "AnyOrder$Table" "plainTelling" "(LAnyOrder$Trail;)I" : Cond) ∈ TB := TB_d TDe_26 12 rfl rfl
set_option maxRecDepth 20000 in
theorem tw_1261 : (Cond.selects "AnyOrder$EvenTable" ({ cls := "AnyOrder$Table", name := "plainTelling", desc := "(LAnyOrder$Trail;)I" } : Jvm.MethodName) ({ cls := "AnyOrder$Table", name := "plainTelling", desc := "(LAnyOrder$Trail;)I" } : Jvm.MethodName) : Cond) ∈ TB := TB_d TDe_26 13 rfl rfl
set_option maxRecDepth 20000 in
theorem tw_1262 : (Cond.selects "AnyOrder$ShuffleTable" ({ cls := "AnyOrder$Table", name := "plainTelling", desc := "(LAnyOrder$Trail;)I" } : Jvm.MethodName) ({ cls := "AnyOrder$Table", name := "plainTelling", desc := "(LAnyOrder$Trail;)I" } : Jvm.MethodName) : Cond) ∈ TB := TB_d TDe_26 14 rfl rfl
set_option maxRecDepth 20000 in
theorem tw_1263 : (Cond.selects "AnyOrder$Table" ({ cls := "AnyOrder$Table", name := "plainTelling", desc := "(LAnyOrder$Trail;)I" } : Jvm.MethodName) ({ cls := "AnyOrder$Table", name := "plainTelling", desc := "(LAnyOrder$Trail;)I" } : Jvm.MethodName) : Cond) ∈ TB := TB_d TDe_26 15 rfl rfl
set_option maxRecDepth 20000 in
theorem tw_1264 : (Cond.sameMethod "AnyOrder$EvenTable" "AnyOrder$EvenTable" "isOfKind" "(I)Z" : Cond) ∈ TB := TB_d TDe_26 16 rfl rfl
theorem ts_0 : (Cond.selects "AnyOrder$Tables" ⟨"AnyOrder$Tables", "allowAll", "()V"⟩ ⟨"AnyOrder$Tables", "allowAll", "()V"⟩) ∈ TB := TB_of (List.mem_append_left _ (by decide +kernel)) (by decide +kernel)
theorem ts_1 : (Cond.selects "AnyOrder" ⟨"AnyOrder", "addTable", "(III)I"⟩ ⟨"AnyOrder", "addTable", "(III)I"⟩) ∈ TB := TB_of (List.mem_append_left _ (by decide +kernel)) (by decide +kernel)
theorem ts_2 : (Cond.selects "AnyOrder" ⟨"AnyOrder", "lookAtCells", "(IIII)I"⟩ ⟨"AnyOrder", "lookAtCells", "(IIII)I"⟩) ∈ TB := TB_of (List.mem_append_left _ (by decide +kernel)) (by decide +kernel)
theorem ts_3 : (Cond.selects "AnyOrder$Tables" ⟨"AnyOrder$Tables", "restOf", "(J)J"⟩ ⟨"AnyOrder$Tables", "restOf", "(J)J"⟩) ∈ TB := TB_of (List.mem_append_left _ (by decide +kernel)) (by decide +kernel)
theorem ts_4 : (Cond.selects "AnyOrder$Tables" ⟨"AnyOrder$Tables", "makeTable", "(I[I)LAnyOrder$Table;"⟩ ⟨"AnyOrder$Tables", "makeTable", "(I[I)LAnyOrder$Table;"⟩) ∈ TB := TB_of (List.mem_append_left _ (by decide +kernel)) (by decide +kernel)
theorem ts_5 : (Cond.selects "AnyOrder$Tables" ⟨"AnyOrder$Tables", "isShuffle", "([I)Z"⟩ ⟨"AnyOrder$Tables", "isShuffle", "([I)Z"⟩) ∈ TB := TB_of (List.mem_append_left _ (by decide +kernel)) (by decide +kernel)
theorem ts_6 : (Cond.selects "AnyOrder$Tables" ⟨"AnyOrder$Tables", "isEven", "([I)Z"⟩ ⟨"AnyOrder$Tables", "isEven", "([I)Z"⟩) ∈ TB := TB_of (List.mem_append_left _ (by decide +kernel)) (by decide +kernel)
theorem ts_7 : (Cond.selects "AnyOrder" ⟨"AnyOrder", "settle", "(I)I"⟩ ⟨"AnyOrder", "settle", "(I)I"⟩) ∈ TB := TB_of (List.mem_append_left _ (by decide +kernel)) (by decide +kernel)
theorem ts_8 : (Cond.selects "AnyOrder$Lengths" ⟨"AnyOrder$Lengths", "findWays", "()V"⟩ ⟨"AnyOrder$Lengths", "findWays", "()V"⟩) ∈ TB := TB_of (List.mem_append_left _ (by decide +kernel)) (by decide +kernel)
theorem ts_9 : (Cond.selects "AnyOrder$Lengths" ⟨"AnyOrder$Lengths", "countWays", "(II)I"⟩ ⟨"AnyOrder$Lengths", "countWays", "(II)I"⟩) ∈ TB := TB_of (List.mem_append_left _ (by decide +kernel)) (by decide +kernel)
theorem ts_10 : (Cond.selects "AnyOrder$Lengths" ⟨"AnyOrder$Lengths", "noteWord", "(LAnyOrder$Survey;I)V"⟩ ⟨"AnyOrder$Lengths", "noteWord", "(LAnyOrder$Survey;I)V"⟩) ∈ TB := TB_of (List.mem_append_left _ (by decide +kernel)) (by decide +kernel)
theorem ts_11 : (Cond.selects "AnyOrder$Lengths" ⟨"AnyOrder$Lengths", "leadsOn", "(III)Z"⟩ ⟨"AnyOrder$Lengths", "leadsOn", "(III)Z"⟩) ∈ TB := TB_of (List.mem_append_left _ (by decide +kernel)) (by decide +kernel)
theorem ts_12 : (Cond.selects "AnyOrder$Lengths" ⟨"AnyOrder$Lengths", "extendPrefix", "(II)V"⟩ ⟨"AnyOrder$Lengths", "extendPrefix", "(II)V"⟩) ∈ TB := TB_of (List.mem_append_left _ (by decide +kernel)) (by decide +kernel)
theorem ts_13 : (Cond.selects "AnyOrder$Closure" ⟨"AnyOrder$Closure", "findAll", "()Z"⟩ ⟨"AnyOrder$Closure", "findAll", "()Z"⟩) ∈ TB := TB_of (List.mem_append_left _ (by decide +kernel)) (by decide +kernel)
theorem ts_14 : (Cond.selects "AnyOrder$Closure" ⟨"AnyOrder$Closure", "prepareRows", "()V"⟩ ⟨"AnyOrder$Closure", "prepareRows", "()V"⟩) ∈ TB := TB_of (List.mem_append_left _ (by decide +kernel)) (by decide +kernel)
theorem ts_15 : (Cond.selects "AnyOrder$Closure" ⟨"AnyOrder$Closure", "take", "([JI)Z"⟩ ⟨"AnyOrder$Closure", "take", "([JI)Z"⟩) ∈ TB := TB_of (List.mem_append_left _ (by decide +kernel)) (by decide +kernel)
theorem ts_16 : (Cond.selects "AnyOrder$Closure" ⟨"AnyOrder$Closure", "isBeyond", "([J)Z"⟩ ⟨"AnyOrder$Closure", "isBeyond", "([J)Z"⟩) ∈ TB := TB_of (List.mem_append_left _ (by decide +kernel)) (by decide +kernel)
theorem ts_17 : (Cond.selects "AnyOrder$Closure" ⟨"AnyOrder$Closure", "slotOf", "([J)I"⟩ ⟨"AnyOrder$Closure", "slotOf", "([J)I"⟩) ∈ TB := TB_of (List.mem_append_left _ (by decide +kernel)) (by decide +kernel)
theorem ts_18 : (Cond.selects "AnyOrder$Closure" ⟨"AnyOrder$Closure", "firstSlotOf", "([J)I"⟩ ⟨"AnyOrder$Closure", "firstSlotOf", "([J)I"⟩) ∈ TB := TB_of (List.mem_append_left _ (by decide +kernel)) (by decide +kernel)
theorem ts_19 : (Cond.selects "AnyOrder$Closure" ⟨"AnyOrder$Closure", "isSame", "(I[J)Z"⟩ ⟨"AnyOrder$Closure", "isSame", "(I[J)Z"⟩) ∈ TB := TB_of (List.mem_append_left _ (by decide +kernel)) (by decide +kernel)
theorem ts_20 : (Cond.selects "AnyOrder$Closure" ⟨"AnyOrder$Closure", "extendByLetters", "(I)Z"⟩ ⟨"AnyOrder$Closure", "extendByLetters", "(I)Z"⟩) ∈ TB := TB_of (List.mem_append_left _ (by decide +kernel)) (by decide +kernel)
theorem ts_21 : (Cond.selects "AnyOrder$Closure" ⟨"AnyOrder$Closure", "load", "(I[J)V"⟩ ⟨"AnyOrder$Closure", "load", "(I[J)V"⟩) ∈ TB := TB_of (List.mem_append_left _ (by decide +kernel)) (by decide +kernel)
theorem ts_22 : (Cond.selects "AnyOrder$Closure" ⟨"AnyOrder$Closure", "sumUp", "()V"⟩ ⟨"AnyOrder$Closure", "sumUp", "()V"⟩) ∈ TB := TB_of (List.mem_append_left _ (by decide +kernel)) (by decide +kernel)
theorem ts_23 : (Cond.selects "AnyOrder$Closure" ⟨"AnyOrder$Closure", "multiplyNumbered", "(II)V"⟩ ⟨"AnyOrder$Closure", "multiplyNumbered", "(II)V"⟩) ∈ TB := TB_of (List.mem_append_left _ (by decide +kernel)) (by decide +kernel)
theorem ts_24 : (Cond.selects "AnyOrder" ⟨"AnyOrder", "keepWord", "(IIII)I"⟩ ⟨"AnyOrder", "keepWord", "(IIII)I"⟩) ∈ TB := TB_of (List.mem_append_left _ (by decide +kernel)) (by decide +kernel)
theorem ts_25 : (Cond.selects "AnyOrder" ⟨"AnyOrder", "finishWord", "()I"⟩ ⟨"AnyOrder", "finishWord", "()I"⟩) ∈ TB := TB_of (List.mem_append_left _ (by decide +kernel)) (by decide +kernel)
theorem ts_26 : (Cond.selects "AnyOrder" ⟨"AnyOrder", "hasWord", "(I)Z"⟩ ⟨"AnyOrder", "hasWord", "(I)Z"⟩) ∈ TB := TB_of (List.mem_append_left _ (by decide +kernel)) (by decide +kernel)
theorem ts_27 : (Cond.selects "AnyOrder" ⟨"AnyOrder", "isRing", "(LAnyOrder$Word;)Z"⟩ ⟨"AnyOrder", "isRing", "(LAnyOrder$Word;)Z"⟩) ∈ TB := TB_of (List.mem_append_left _ (by decide +kernel)) (by decide +kernel)
theorem ts_28 : (Cond.selects "AnyOrder" ⟨"AnyOrder", "renewSheet", "(III)I"⟩ ⟨"AnyOrder", "renewSheet", "(III)I"⟩) ∈ TB := TB_of (List.mem_append_left _ (by decide +kernel)) (by decide +kernel)
theorem ts_29 : (Cond.selects "AnyOrder" ⟨"AnyOrder", "putCell", "(III)I"⟩ ⟨"AnyOrder", "putCell", "(III)I"⟩) ∈ TB := TB_of (List.mem_append_left _ (by decide +kernel)) (by decide +kernel)
theorem ts_30 : (Cond.selects "AnyOrder" ⟨"AnyOrder", "takeAs", "(II)I"⟩ ⟨"AnyOrder", "takeAs", "(II)I"⟩) ∈ TB := TB_of (List.mem_append_left _ (by decide +kernel)) (by decide +kernel)
theorem ts_31 : (Cond.selects "AnyOrderModel" ⟨"AnyOrderModel", "against", "(II)I"⟩ ⟨"AnyOrderModel", "against", "(II)I"⟩) ∈ TB := TB_of (List.mem_append_left _ (by decide +kernel)) (by decide +kernel)
theorem ts_32 : (Cond.selects "AnyOrderModel" ⟨"AnyOrderModel", "fails", "(I)I"⟩ ⟨"AnyOrderModel", "fails", "(I)I"⟩) ∈ TB := TB_of (List.mem_append_left _ (by decide +kernel)) (by decide +kernel)
theorem ts_33 : (Cond.selects "AnyOrderModel" ⟨"AnyOrderModel", "isTable", "(I)Z"⟩ ⟨"AnyOrderModel", "isTable", "(I)Z"⟩) ∈ TB := TB_of (List.mem_append_left _ (by decide +kernel)) (by decide +kernel)
theorem ts_34 : (Cond.selects "AnyOrderModel" ⟨"AnyOrderModel", "isPlace", "(II)Z"⟩ ⟨"AnyOrderModel", "isPlace", "(II)Z"⟩) ∈ TB := TB_of (List.mem_append_left _ (by decide +kernel)) (by decide +kernel)
theorem ts_35 : (Cond.selects "AnyOrderModel" ⟨"AnyOrderModel", "isSpent", "(I)Z"⟩ ⟨"AnyOrderModel", "isSpent", "(I)Z"⟩) ∈ TB := TB_of (List.mem_append_left _ (by decide +kernel)) (by decide +kernel)
theorem ts_36 : (Cond.selects "AnyOrderModel" ⟨"AnyOrderModel", "mayFollow", "(II)Z"⟩ ⟨"AnyOrderModel", "mayFollow", "(II)Z"⟩) ∈ TB := TB_of (List.mem_append_left _ (by decide +kernel)) (by decide +kernel)
theorem ts_37 : (Cond.selects "AnyOrderModel" ⟨"AnyOrderModel", "goThrough", "(I)V"⟩ ⟨"AnyOrderModel", "goThrough", "(I)V"⟩) ∈ TB := TB_of (List.mem_append_left _ (by decide +kernel)) (by decide +kernel)
theorem ts_38 : (Cond.selects "AnyOrderModel" ⟨"AnyOrderModel", "beginWords", "()V"⟩ ⟨"AnyOrderModel", "beginWords", "()V"⟩) ∈ TB := TB_of (List.mem_append_left _ (by decide +kernel)) (by decide +kernel)
theorem ts_39 : (Cond.selects "AnyOrderModel" ⟨"AnyOrderModel", "beginLevels", "()V"⟩ ⟨"AnyOrderModel", "beginLevels", "()V"⟩) ∈ TB := TB_of (List.mem_append_left _ (by decide +kernel)) (by decide +kernel)
theorem ts_40 : (Cond.selects "AnyOrderModel" ⟨"AnyOrderModel", "next", "(I)Z"⟩ ⟨"AnyOrderModel", "next", "(I)Z"⟩) ∈ TB := TB_of (List.mem_append_left _ (by decide +kernel)) (by decide +kernel)
theorem ts_41 : (Cond.selects "AnyOrderModel" ⟨"AnyOrderModel", "goOn", "(II)V"⟩ ⟨"AnyOrderModel", "goOn", "(II)V"⟩) ∈ TB := TB_of (List.mem_append_left _ (by decide +kernel)) (by decide +kernel)
theorem ts_42 : (Cond.selects "AnyOrderModel" ⟨"AnyOrderModel", "rest", "(J)J"⟩ ⟨"AnyOrderModel", "rest", "(J)J"⟩) ∈ TB := TB_of (List.mem_append_left _ (by decide +kernel)) (by decide +kernel)
theorem ts_43 : (Cond.selects "AnyOrderModel" ⟨"AnyOrderModel", "normAt", "(I)J"⟩ ⟨"AnyOrderModel", "normAt", "(I)J"⟩) ∈ TB := TB_of (List.mem_append_left _ (by decide +kernel)) (by decide +kernel)
theorem ts_44 : (Cond.selects "AnyOrderModel" ⟨"AnyOrderModel", "findRings", "(I)V"⟩ ⟨"AnyOrderModel", "findRings", "(I)V"⟩) ∈ TB := TB_of (List.mem_append_left _ (by decide +kernel)) (by decide +kernel)
theorem ts_45 : (Cond.selects "AnyOrderModel" ⟨"AnyOrderModel", "isRing", "(I)Z"⟩ ⟨"AnyOrderModel", "isRing", "(I)Z"⟩) ∈ TB := TB_of (List.mem_append_left _ (by decide +kernel)) (by decide +kernel)
theorem ts_46 : (Cond.selects "AnyOrderModel" ⟨"AnyOrderModel", "isAllowed", "(I)Z"⟩ ⟨"AnyOrderModel", "isAllowed", "(I)Z"⟩) ∈ TB := TB_of (List.mem_append_left _ (by decide +kernel)) (by decide +kernel)
theorem ts_47 : (Cond.selects "AnyOrderModel" ⟨"AnyOrderModel", "timesOf", "(I)I"⟩ ⟨"AnyOrderModel", "timesOf", "(I)I"⟩) ∈ TB := TB_of (List.mem_append_left _ (by decide +kernel)) (by decide +kernel)
theorem ts_48 : (Cond.selects "AnyOrderModel" ⟨"AnyOrderModel", "isFirstTurn", "(I)Z"⟩ ⟨"AnyOrderModel", "isFirstTurn", "(I)Z"⟩) ∈ TB := TB_of (List.mem_append_left _ (by decide +kernel)) (by decide +kernel)
theorem ts_49 : (Cond.selects "AnyOrderModel" ⟨"AnyOrderModel", "trackAt", "(I)J"⟩ ⟨"AnyOrderModel", "trackAt", "(I)J"⟩) ∈ TB := TB_of (List.mem_append_left _ (by decide +kernel)) (by decide +kernel)
theorem ts_50 : (Cond.selects "AnyOrderModel" ⟨"AnyOrderModel", "comes", "(II)Z"⟩ ⟨"AnyOrderModel", "comes", "(II)Z"⟩) ∈ TB := TB_of (List.mem_append_left _ (by decide +kernel)) (by decide +kernel)
theorem ts_51 : (Cond.selects "AnyOrderModel" ⟨"AnyOrderModel", "findAt", "(I)I"⟩ ⟨"AnyOrderModel", "findAt", "(I)I"⟩) ∈ TB := TB_of (List.mem_append_left _ (by decide +kernel)) (by decide +kernel)
theorem ts_52 : (Cond.selects "AnyOrderModel" ⟨"AnyOrderModel", "chainOf", "(I)I"⟩ ⟨"AnyOrderModel", "chainOf", "(I)I"⟩) ∈ TB := TB_of (List.mem_append_left _ (by decide +kernel)) (by decide +kernel)
theorem ts_53 : (Cond.selects "AnyOrderModel" ⟨"AnyOrderModel", "layProduct", "(II)V"⟩ ⟨"AnyOrderModel", "layProduct", "(II)V"⟩) ∈ TB := TB_of (List.mem_append_left _ (by decide +kernel)) (by decide +kernel)
theorem ts_54 : (Cond.selects "AnyOrderModel" ⟨"AnyOrderModel", "isNought", "(I)Z"⟩ ⟨"AnyOrderModel", "isNought", "(I)Z"⟩) ∈ TB := TB_of (List.mem_append_left _ (by decide +kernel)) (by decide +kernel)
theorem ts_55 : (Cond.selects "AnyOrderModel" ⟨"AnyOrderModel", "isOne", "(I)Z"⟩ ⟨"AnyOrderModel", "isOne", "(I)Z"⟩) ∈ TB := TB_of (List.mem_append_left _ (by decide +kernel)) (by decide +kernel)
theorem ts_56 : (Cond.selects "AnyOrderModel" ⟨"AnyOrderModel", "multiply", "(II)V"⟩ ⟨"AnyOrderModel", "multiply", "(II)V"⟩) ∈ TB := TB_of (List.mem_append_left _ (by decide +kernel)) (by decide +kernel)
theorem ts_57 : (Cond.selects "AnyOrderModel" ⟨"AnyOrderModel", "isProduct", "(I)Z"⟩ ⟨"AnyOrderModel", "isProduct", "(I)Z"⟩) ∈ TB := TB_of (List.mem_append_left _ (by decide +kernel)) (by decide +kernel)
theorem ts_58 : (Cond.selects "AnyOrderModel" ⟨"AnyOrderModel", "isWord", "(I)Z"⟩ ⟨"AnyOrderModel", "isWord", "(I)Z"⟩) ∈ TB := TB_of (List.mem_append_left _ (by decide +kernel)) (by decide +kernel)
theorem ts_59 : (Cond.selects "AnyOrderModel" ⟨"AnyOrderModel", "multiplyOut", "(I)V"⟩ ⟨"AnyOrderModel", "multiplyOut", "(I)V"⟩) ∈ TB := TB_of (List.mem_append_left _ (by decide +kernel)) (by decide +kernel)
theorem ts_60 : (Cond.selects "AnyOrderModel" ⟨"AnyOrderModel", "lost", "(I)J"⟩ ⟨"AnyOrderModel", "lost", "(I)J"⟩) ∈ TB := TB_of (List.mem_append_left _ (by decide +kernel)) (by decide +kernel)
theorem ts_61 : (Cond.selects "AnyOrderModel" ⟨"AnyOrderModel", "kindOf", "(I)I"⟩ ⟨"AnyOrderModel", "kindOf", "(I)I"⟩) ∈ TB := TB_of (List.mem_append_left _ (by decide +kernel)) (by decide +kernel)
theorem ts_62 : (Cond.selects "AnyOrderModel" ⟨"AnyOrderModel", "begins", "(I)V"⟩ ⟨"AnyOrderModel", "begins", "(I)V"⟩) ∈ TB := TB_of (List.mem_append_left _ (by decide +kernel)) (by decide +kernel)
theorem ts_63 : (Cond.selects "AnyOrderModel" ⟨"AnyOrderModel", "trackOf", "(I)I"⟩ ⟨"AnyOrderModel", "trackOf", "(I)I"⟩) ∈ TB := TB_of (List.mem_append_left _ (by decide +kernel)) (by decide +kernel)
theorem ts_64 : (Cond.selects "AnyOrderModel" ⟨"AnyOrderModel", "greatestOf", "(I)I"⟩ ⟨"AnyOrderModel", "greatestOf", "(I)I"⟩) ∈ TB := TB_of (List.mem_append_left _ (by decide +kernel)) (by decide +kernel)
