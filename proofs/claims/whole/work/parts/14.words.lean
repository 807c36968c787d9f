/-! words of the tables, one by one -/
theorem sm_t1 : ∀ w ∈ tables_1_1, w ∈ lw_tbl := fun w h => List.mem_append_right _ (List.mem_append_left _ h)
theorem sm_t2 : ∀ w ∈ tables_1_2, w ∈ lw_tbl := fun w h => List.mem_append_right _ (List.mem_append_right _ (List.mem_append_left _ h))
theorem sm_t3 : ∀ w ∈ tables_1_3, w ∈ lw_tbl := fun w h => List.mem_append_right _ (List.mem_append_right _ (List.mem_append_right _ (List.mem_append_left _ h)))
theorem sm_t4 : ∀ w ∈ tables_1_4, w ∈ lw_tbl := fun w h => List.mem_append_right _ (List.mem_append_right _ (List.mem_append_right _ (List.mem_append_right _ (List.mem_append_left _ h))))
theorem sm_t5 : ∀ w ∈ tables_1_5, w ∈ lw_tbl := fun w h => List.mem_append_right _ (List.mem_append_right _ (List.mem_append_right _ (List.mem_append_right _ (List.mem_append_right _ (List.mem_append_left _ h)))))
theorem sm_t6 : ∀ w ∈ tables_1_6, w ∈ lw_tbl := fun w h => List.mem_append_right _ (List.mem_append_right _ (List.mem_append_right _ (List.mem_append_right _ (List.mem_append_right _ (List.mem_append_right _ (List.mem_append_left _ h))))))
theorem sm_t7 : ∀ w ∈ tables_1_7, w ∈ lw_tbl := fun w h => List.mem_append_right _ (List.mem_append_right _ (List.mem_append_right _ (List.mem_append_right _ (List.mem_append_right _ (List.mem_append_right _ (List.mem_append_right _ (h)))))))
theorem sm_mw {w : Cond} {t : List Cond} (ht : ∀ w ∈ t, w ∈ lw_tbl) (i : Nat) (h : t[i]? = some w) (g : goodWord w = true) : w ∈ sm_WS := List.mem_filter.mpr ⟨ht w (List.mem_of_getElem? h), g⟩
theorem sm_mn {w : Cond} {t : List Cond} (ht : ∀ w ∈ t, w ∈ lw_tbl) (i : Nat) (h : t[i]? = some w) (g : sm_isN w = true) : w ∈ sm_NW := List.mem_filter.mpr ⟨ht w (List.mem_of_getElem? h), g⟩
theorem sm_mp {y : MethodName} {k : Nat} (h : (y, k) ∈ lw_privs) : Cond.selects y.cls y y ∈ sm_WS := List.mem_filter.mpr ⟨List.mem_append_left _ (List.mem_map.mpr ⟨(y, k), h, rfl⟩), rfl⟩
theorem sm_has (ws : List Cond) (ps : List Nat) (h1 : ws = ps.filterMap (fun i => tables_1[i]?)) (h2 : ws.all goodWord = true) : ∀ w ∈ ws, w ∈ sm_WS := by
  intro w hw
  have h3 := List.all_eq_true.mp h2 w hw
  rw [h1] at hw
  obtain ⟨i, -, hi⟩ := List.mem_filterMap.mp hw
  exact List.mem_filter.mpr ⟨List.mem_append_right _ (List.mem_of_getElem? hi), h3⟩
theorem mw_0 : (Jvm.Cond.initialized "StreamMarksLaw") ∈ sm_WS := sm_mw sm_t1 0 rfl rfl
theorem mw_1 : (Jvm.Cond.initialized "StreamMarks") ∈ sm_WS := sm_mw sm_t1 1 rfl rfl
theorem mw_2 : (Jvm.Cond.initialized "StreamMarks$Plan") ∈ sm_WS := sm_mw sm_t1 2 rfl rfl
theorem mw_3 : (Jvm.Cond.initialized "StreamMarks$Component") ∈ sm_WS := sm_mw sm_t1 3 rfl rfl
theorem mw_4 : (Jvm.Cond.initialized "StreamMarks$Coding") ∈ sm_WS := sm_mw sm_t1 4 rfl rfl
theorem mw_5 : (Jvm.Cond.initialized "StreamMarks$Steps") ∈ sm_WS := sm_mw sm_t1 5 rfl rfl
theorem mw_6 : (Jvm.Cond.initialized "java/util/Arrays") ∈ sm_WS := sm_mw sm_t1 6 rfl rfl
theorem mw_7 : (Jvm.Cond.initialized "StreamMarks$Row") ∈ sm_WS := sm_mw sm_t1 7 rfl rfl
theorem mw_8 : (Jvm.Cond.initialized "StreamMarks$Scanner") ∈ sm_WS := sm_mw sm_t1 8 rfl rfl
theorem mw_9 : (Jvm.Cond.initialized "StreamMarks$Places") ∈ sm_WS := sm_mw sm_t1 9 rfl rfl
theorem mw_10 : (Jvm.Cond.initialized "StreamMarks$Parts") ∈ sm_WS := sm_mw sm_t1 10 rfl rfl
theorem mw_11 : (Jvm.Cond.initialized "StreamMarks$Loader") ∈ sm_WS := sm_mw sm_t1 11 rfl rfl
theorem mw_12 : (Jvm.Cond.initialized "StreamMarksModel") ∈ sm_WS := sm_mw sm_t1 12 rfl rfl
theorem mw_13 : (Jvm.Cond.initialized "StreamMarks$Rules") ∈ sm_WS := sm_mw sm_t1 13 rfl rfl
theorem mw_14 : (Jvm.Cond.initialized "java/lang/Throwable") ∈ sm_WS := sm_mw sm_t1 14 rfl rfl
theorem mw_15 : (Jvm.Cond.initialized "java/lang/Exception") ∈ sm_WS := sm_mw sm_t1 15 rfl rfl
theorem mw_16 : (Jvm.Cond.initialized "java/lang/RuntimeException") ∈ sm_WS := sm_mw sm_t1 16 rfl rfl
theorem mw_17 : (Jvm.Cond.initialized "java/lang/IllegalArgumentException") ∈ sm_WS := sm_mw sm_t1 17 rfl rfl
theorem mw_18 : (Jvm.Cond.initialized "java/lang/IllegalStateException") ∈ sm_WS := sm_mw sm_t1 18 rfl rfl
theorem mw_19 : (Jvm.Cond.initialized "java/util/NoSuchElementException") ∈ sm_WS := sm_mw sm_t1 19 rfl rfl
theorem mw_20 : (Jvm.Cond.initialized "java/lang/UnsupportedOperationException") ∈ sm_WS := sm_mw sm_t1 20 rfl rfl
theorem mw_21 : (Jvm.Cond.initialized "java/lang/Math") ∈ sm_WS := sm_mw sm_t1 21 rfl rfl
theorem mw_22 : (Jvm.Cond.initialized "java/lang/System") ∈ sm_WS := sm_mw sm_t1 22 rfl rfl
theorem mw_23 : (Jvm.Cond.initialized "StreamMarks$Writer") ∈ sm_WS := sm_mw sm_t1 23 rfl rfl
theorem mw_24 : (Jvm.Cond.classLink "StreamMarksLaw" (8 : Nat) "StreamMarks") ∈ sm_WS := sm_mw sm_t1 24 rfl rfl
theorem mw_25 : (Jvm.Cond.instantiable "StreamMarks" (7 : Nat)) ∈ sm_WS := sm_mw sm_t1 25 rfl rfl
theorem mw_26 : (Jvm.Cond.methodLink "StreamMarksLaw" (86 : Nat) ({ cls := "StreamMarks", name := "<init>", desc := "()V" } : Jvm.MethodName)) ∈ sm_WS := sm_mw sm_t1 26 rfl rfl
theorem mw_27 : (Jvm.Cond.instanceMethod ({ cls := "StreamMarks", name := "<init>", desc := "()V" } : Jvm.MethodName)) ∈ sm_WS := sm_mw sm_t1 27 rfl rfl
theorem mw_28 : (Jvm.Cond.code ({ cls := "StreamMarks", name := "<init>", desc := "()V" } : Jvm.MethodName) prog_1_method_1_code (1 : Nat) (Option.none : Option Jvm.ClassFile.FieldType)) ∈ sm_WS := sm_mw sm_t1 28 rfl rfl
theorem mw_29 : (Jvm.Cond.methodLink "StreamMarks" (1 : Nat) ({ cls := "java/lang/Object", name := "<init>", desc := "()V" } : Jvm.MethodName)) ∈ sm_WS := sm_mw sm_t1 29 rfl rfl
theorem mw_30 : (Jvm.Cond.instanceMethod ({ cls := "java/lang/Object", name := "<init>", desc := "()V" } : Jvm.MethodName)) ∈ sm_WS := sm_mw sm_t1 30 rfl rfl
theorem mw_31 : (Jvm.Cond.code ({ cls := "java/lang/Object", name := "<init>", desc := "()V" } : Jvm.MethodName) object_method_1_code (1 : Nat) (Option.none : Option Jvm.ClassFile.FieldType)) ∈ sm_WS := sm_mw sm_t1 31 rfl rfl
theorem mw_32 : (Jvm.Cond.classLink "StreamMarks" (7 : Nat) "StreamMarks$Plan") ∈ sm_WS := sm_mw sm_t1 32 rfl rfl
theorem mw_33 : (Jvm.Cond.instantiable "StreamMarks$Plan" (10 : Nat)) ∈ sm_WS := sm_mw sm_t1 33 rfl rfl
theorem mw_34 : (Jvm.Cond.methodLink "StreamMarks" (9 : Nat) ({ cls := "StreamMarks$Plan", name := "<init>", desc := "()V" } : Jvm.MethodName)) ∈ sm_WS := sm_mw sm_t1 34 rfl rfl
theorem mw_35 : (Jvm.Cond.instanceMethod ({ cls := "StreamMarks$Plan", name := "<init>", desc := "()V" } : Jvm.MethodName)) ∈ sm_WS := sm_mw sm_t1 35 rfl rfl
theorem mw_36 : (Jvm.Cond.code ({ cls := "StreamMarks$Plan", name := "<init>", desc := "()V" } : Jvm.MethodName) prog_7_method_1_code (2 : Nat) (Option.none : Option Jvm.ClassFile.FieldType)) ∈ sm_WS := sm_mw sm_t1 36 rfl rfl
theorem mw_37 : (Jvm.Cond.methodLink "StreamMarks$Plan" (3 : Nat) ({ cls := "java/lang/Object", name := "<init>", desc := "()V" } : Jvm.MethodName)) ∈ sm_WS := sm_mw sm_t1 37 rfl rfl
theorem mw_38 : (Jvm.Cond.classLink "StreamMarks$Plan" (15 : Nat) "StreamMarks$Component") ∈ sm_WS := sm_mw sm_t1 38 rfl rfl
theorem mw_40 : (Jvm.Cond.instantiable "StreamMarks$Component" (7 : Nat)) ∈ sm_WS := sm_mw sm_t1 40 rfl rfl
theorem mn_41 : (Jvm.Cond.methodLinkNest "StreamMarks$Plan" (24 : Nat) ({ cls := "StreamMarks$Component", name := "<init>", desc := "()V" } : Jvm.MethodName) "StreamMarks") ∈ sm_NW := sm_mn sm_t1 41 rfl rfl
theorem mw_42 : (Jvm.Cond.instanceMethod ({ cls := "StreamMarks$Component", name := "<init>", desc := "()V" } : Jvm.MethodName)) ∈ sm_WS := sm_mw sm_t1 42 rfl rfl
theorem mw_43 : (Jvm.Cond.code ({ cls := "StreamMarks$Component", name := "<init>", desc := "()V" } : Jvm.MethodName) prog_3_method_1_code (1 : Nat) (Option.none : Option Jvm.ClassFile.FieldType)) ∈ sm_WS := sm_mw sm_t1 43 rfl rfl
theorem mw_44 : (Jvm.Cond.methodLink "StreamMarks$Component" (1 : Nat) ({ cls := "java/lang/Object", name := "<init>", desc := "()V" } : Jvm.MethodName)) ∈ sm_WS := sm_mw sm_t1 44 rfl rfl
theorem mw_45 : (Jvm.Cond.classLink "StreamMarks$Component" (7 : Nat) "StreamMarks$Coding") ∈ sm_WS := sm_mw sm_t1 45 rfl rfl
theorem mw_46 : (Jvm.Cond.instantiable "StreamMarks$Coding" (7 : Nat)) ∈ sm_WS := sm_mw sm_t1 46 rfl rfl
theorem mn_47 : (Jvm.Cond.methodLinkNest "StreamMarks$Component" (9 : Nat) ({ cls := "StreamMarks$Coding", name := "<init>", desc := "()V" } : Jvm.MethodName) "StreamMarks") ∈ sm_NW := sm_mn sm_t1 47 rfl rfl
theorem mw_48 : (Jvm.Cond.instanceMethod ({ cls := "StreamMarks$Coding", name := "<init>", desc := "()V" } : Jvm.MethodName)) ∈ sm_WS := sm_mw sm_t1 48 rfl rfl
theorem mw_49 : (Jvm.Cond.code ({ cls := "StreamMarks$Coding", name := "<init>", desc := "()V" } : Jvm.MethodName) prog_2_method_1_code (1 : Nat) (Option.none : Option Jvm.ClassFile.FieldType)) ∈ sm_WS := sm_mw sm_t1 49 rfl rfl
theorem mw_50 : (Jvm.Cond.methodLink "StreamMarks$Coding" (3 : Nat) ({ cls := "java/lang/Object", name := "<init>", desc := "()V" } : Jvm.MethodName)) ∈ sm_WS := sm_mw sm_t1 50 rfl rfl
theorem mn_51 : (Jvm.Cond.fieldLinkNest "StreamMarks$Component" (44 : Nat) "StreamMarks$Coding" "levels" "I" "StreamMarks") ∈ sm_NW := sm_mn sm_t1 51 rfl rfl
theorem mw_52 : (Jvm.Cond.fieldLink "StreamMarks$Coding" (31 : Nat) "StreamMarks$Coding" "levels" "I") ∈ sm_WS := sm_mw sm_t1 52 rfl rfl
theorem mn_53 : (Jvm.Cond.fieldLinkNest "StreamMarks$Writer" (121 : Nat) "StreamMarks$Coding" "levels" "I" "StreamMarks") ∈ sm_NW := sm_mn sm_t1 53 rfl rfl
theorem mn_54 : (Jvm.Cond.fieldLinkNest "StreamMarks$Component" (47 : Nat) "StreamMarks$Coding" "bw" "I" "StreamMarks") ∈ sm_NW := sm_mn sm_t1 54 rfl rfl
theorem mw_55 : (Jvm.Cond.fieldLink "StreamMarks$Coding" (35 : Nat) "StreamMarks$Coding" "bw" "I") ∈ sm_WS := sm_mw sm_t1 55 rfl rfl
theorem mn_56 : (Jvm.Cond.fieldLinkNest "StreamMarks$Writer" (124 : Nat) "StreamMarks$Coding" "bw" "I" "StreamMarks") ∈ sm_NW := sm_mn sm_t1 56 rfl rfl
theorem mn_57 : (Jvm.Cond.fieldLinkNest "StreamMarks$Component" (50 : Nat) "StreamMarks$Coding" "bh" "I" "StreamMarks") ∈ sm_NW := sm_mn sm_t1 57 rfl rfl
theorem mw_58 : (Jvm.Cond.fieldLink "StreamMarks$Coding" (38 : Nat) "StreamMarks$Coding" "bh" "I") ∈ sm_WS := sm_mw sm_t1 58 rfl rfl
theorem mn_59 : (Jvm.Cond.fieldLinkNest "StreamMarks$Writer" (127 : Nat) "StreamMarks$Coding" "bh" "I" "StreamMarks") ∈ sm_NW := sm_mn sm_t1 59 rfl rfl
theorem mn_60 : (Jvm.Cond.fieldLinkNest "StreamMarks$Component" (53 : Nat) "StreamMarks$Coding" "style" "I" "StreamMarks") ∈ sm_NW := sm_mn sm_t1 60 rfl rfl
theorem mw_61 : (Jvm.Cond.fieldLink "StreamMarks$Coding" (41 : Nat) "StreamMarks$Coding" "style" "I") ∈ sm_WS := sm_mw sm_t1 61 rfl rfl
theorem mn_62 : (Jvm.Cond.fieldLinkNest "StreamMarks$Writer" (130 : Nat) "StreamMarks$Coding" "style" "I" "StreamMarks") ∈ sm_NW := sm_mn sm_t1 62 rfl rfl
theorem mn_63 : (Jvm.Cond.fieldLinkNest "StreamMarks$Component" (56 : Nat) "StreamMarks$Coding" "exact" "Z" "StreamMarks") ∈ sm_NW := sm_mn sm_t1 63 rfl rfl
theorem mw_64 : (Jvm.Cond.fieldLink "StreamMarks$Coding" (44 : Nat) "StreamMarks$Coding" "exact" "Z") ∈ sm_WS := sm_mw sm_t1 64 rfl rfl
theorem mn_65 : (Jvm.Cond.fieldLinkNest "StreamMarks$Writer" (133 : Nat) "StreamMarks$Coding" "exact" "Z" "StreamMarks") ∈ sm_NW := sm_mn sm_t1 65 rfl rfl
theorem mw_66 : (Jvm.Cond.fieldLink "StreamMarks$Coding" (9 : Nat) "StreamMarks$Coding" "pw" "[I") ∈ sm_WS := sm_mw sm_t1 66 rfl rfl
theorem mw_67 : (Jvm.Cond.fieldLink "StreamMarks$Coding" (15 : Nat) "StreamMarks$Coding" "ph" "[I") ∈ sm_WS := sm_mw sm_t1 67 rfl rfl
theorem mw_83 : (Jvm.Cond.arrayClass Jvm.ClassFile.FieldType.int) ∈ sm_WS := sm_mw sm_t1 83 rfl rfl
theorem mw_84 : (Jvm.Cond.classLink "StreamMarks$Component" (16 : Nat) "StreamMarks$Steps") ∈ sm_WS := sm_mw sm_t1 84 rfl rfl
theorem mw_85 : (Jvm.Cond.instantiable "StreamMarks$Steps" (3 : Nat)) ∈ sm_WS := sm_mw sm_t1 85 rfl rfl
theorem mn_86 : (Jvm.Cond.methodLinkNest "StreamMarks$Component" (18 : Nat) ({ cls := "StreamMarks$Steps", name := "<init>", desc := "()V" } : Jvm.MethodName) "StreamMarks") ∈ sm_NW := sm_mn sm_t1 86 rfl rfl
theorem mw_87 : (Jvm.Cond.instanceMethod ({ cls := "StreamMarks$Steps", name := "<init>", desc := "()V" } : Jvm.MethodName)) ∈ sm_WS := sm_mw sm_t1 87 rfl rfl
theorem mw_88 : (Jvm.Cond.code ({ cls := "StreamMarks$Steps", name := "<init>", desc := "()V" } : Jvm.MethodName) prog_11_method_1_code (1 : Nat) (Option.none : Option Jvm.ClassFile.FieldType)) ∈ sm_WS := sm_mw sm_t1 88 rfl rfl
theorem mw_89 : (Jvm.Cond.methodLink "StreamMarks$Steps" (3 : Nat) ({ cls := "java/lang/Object", name := "<init>", desc := "()V" } : Jvm.MethodName)) ∈ sm_WS := sm_mw sm_t1 89 rfl rfl
theorem mw_90 : (Jvm.Cond.fieldLink "StreamMarks$Steps" (15 : Nat) "StreamMarks$Steps" "kind" "I") ∈ sm_WS := sm_mw sm_t1 90 rfl rfl
theorem mn_91 : (Jvm.Cond.fieldLinkNest "StreamMarks$Component" (59 : Nat) "StreamMarks$Steps" "kind" "I" "StreamMarks") ∈ sm_NW := sm_mn sm_t1 91 rfl rfl
theorem mn_92 : (Jvm.Cond.fieldLinkNest "StreamMarks$Writer" (152 : Nat) "StreamMarks$Steps" "kind" "I" "StreamMarks") ∈ sm_NW := sm_mn sm_t1 92 rfl rfl
theorem mn_93 : (Jvm.Cond.fieldLinkNest "StreamMarks" (175 : Nat) "StreamMarks$Steps" "kind" "I" "StreamMarks") ∈ sm_NW := sm_mn sm_t1 93 rfl rfl
theorem mn_94 : (Jvm.Cond.fieldLinkNest "StreamMarks$Loader" (133 : Nat) "StreamMarks$Steps" "kind" "I" "StreamMarks") ∈ sm_NW := sm_mn sm_t1 94 rfl rfl
theorem mw_95 : (Jvm.Cond.fieldLink "StreamMarks$Steps" (19 : Nat) "StreamMarks$Steps" "guard" "I") ∈ sm_WS := sm_mw sm_t1 95 rfl rfl
theorem mn_96 : (Jvm.Cond.fieldLinkNest "StreamMarks$Component" (62 : Nat) "StreamMarks$Steps" "guard" "I" "StreamMarks") ∈ sm_NW := sm_mn sm_t1 96 rfl rfl
theorem mn_97 : (Jvm.Cond.fieldLinkNest "StreamMarks$Writer" (155 : Nat) "StreamMarks$Steps" "guard" "I" "StreamMarks") ∈ sm_NW := sm_mn sm_t1 97 rfl rfl
theorem mn_98 : (Jvm.Cond.fieldLinkNest "StreamMarks" (180 : Nat) "StreamMarks$Steps" "guard" "I" "StreamMarks") ∈ sm_NW := sm_mn sm_t1 98 rfl rfl
theorem mn_99 : (Jvm.Cond.fieldLinkNest "StreamMarks$Loader" (138 : Nat) "StreamMarks$Steps" "guard" "I" "StreamMarks") ∈ sm_NW := sm_mn sm_t1 99 rfl rfl
theorem mw_100 : (Jvm.Cond.fieldLink "StreamMarks$Steps" (9 : Nat) "StreamMarks$Steps" "values" "[I") ∈ sm_WS := sm_mw sm_t1 100 rfl rfl
theorem mw_108 : (Jvm.Cond.fieldLink "StreamMarks$Component" (23 : Nat) "StreamMarks$Component" "bits" "I") ∈ sm_WS := sm_mw sm_t1 108 rfl rfl
theorem mn_109 : (Jvm.Cond.fieldLinkNest "StreamMarks$Writer" (76 : Nat) "StreamMarks$Component" "bits" "I" "StreamMarks") ∈ sm_NW := sm_mn sm_t1 109 rfl rfl
theorem mw_110 : (Jvm.Cond.fieldLink "StreamMarks$Component" (27 : Nat) "StreamMarks$Component" "signed" "Z") ∈ sm_WS := sm_mw sm_t1 110 rfl rfl
theorem mn_111 : (Jvm.Cond.fieldLinkNest "StreamMarks$Writer" (79 : Nat) "StreamMarks$Component" "signed" "Z" "StreamMarks") ∈ sm_NW := sm_mn sm_t1 111 rfl rfl
theorem mw_112 : (Jvm.Cond.fieldLink "StreamMarks$Component" (31 : Nat) "StreamMarks$Component" "dx" "I") ∈ sm_WS := sm_mw sm_t1 112 rfl rfl
theorem mn_113 : (Jvm.Cond.fieldLinkNest "StreamMarks$Writer" (86 : Nat) "StreamMarks$Component" "dx" "I" "StreamMarks") ∈ sm_NW := sm_mn sm_t1 113 rfl rfl
theorem mw_114 : (Jvm.Cond.fieldLink "StreamMarks$Component" (34 : Nat) "StreamMarks$Component" "dy" "I") ∈ sm_WS := sm_mw sm_t1 114 rfl rfl
theorem mn_115 : (Jvm.Cond.fieldLinkNest "StreamMarks$Writer" (89 : Nat) "StreamMarks$Component" "dy" "I" "StreamMarks") ∈ sm_NW := sm_mn sm_t1 115 rfl rfl
theorem mw_116 : (Jvm.Cond.fieldLink "StreamMarks$Component" (37 : Nat) "StreamMarks$Component" "shift" "I") ∈ sm_WS := sm_mw sm_t1 116 rfl rfl
theorem mn_117 : (Jvm.Cond.fieldLinkNest "StreamMarks" (183 : Nat) "StreamMarks$Component" "shift" "I" "StreamMarks") ∈ sm_NW := sm_mn sm_t1 117 rfl rfl
theorem mn_118 : (Jvm.Cond.fieldLinkNest "StreamMarks$Writer" (169 : Nat) "StreamMarks$Component" "shift" "I" "StreamMarks") ∈ sm_NW := sm_mn sm_t1 118 rfl rfl
theorem mn_119 : (Jvm.Cond.fieldLinkNest "StreamMarks$Loader" (148 : Nat) "StreamMarks$Component" "shift" "I" "StreamMarks") ∈ sm_NW := sm_mn sm_t1 119 rfl rfl
theorem mw_120 : (Jvm.Cond.fieldLink "StreamMarks$Component" (10 : Nat) "StreamMarks$Component" "coding" "LStreamMarks$Coding;") ∈ sm_WS := sm_mw sm_t1 120 rfl rfl
theorem mn_121 : (Jvm.Cond.fieldLinkNest "StreamMarks$Writer" (27 : Nat) "StreamMarks$Component" "coding" "LStreamMarks$Coding;" "StreamMarks") ∈ sm_NW := sm_mn sm_t1 121 rfl rfl
theorem mn_122 : (Jvm.Cond.fieldLinkNest "StreamMarks$Loader" (85 : Nat) "StreamMarks$Component" "coding" "LStreamMarks$Coding;" "StreamMarks") ∈ sm_NW := sm_mn sm_t1 122 rfl rfl
theorem mn_123 : (Jvm.Cond.fieldLinkNest "StreamMarks" (135 : Nat) "StreamMarks$Component" "coding" "LStreamMarks$Coding;" "StreamMarks") ∈ sm_NW := sm_mn sm_t1 123 rfl rfl
theorem mw_124 : (Jvm.Cond.fieldLink "StreamMarks$Component" (19 : Nat) "StreamMarks$Component" "steps" "LStreamMarks$Steps;") ∈ sm_WS := sm_mw sm_t1 124 rfl rfl
theorem mn_125 : (Jvm.Cond.fieldLinkNest "StreamMarks$Loader" (95 : Nat) "StreamMarks$Component" "steps" "LStreamMarks$Steps;" "StreamMarks") ∈ sm_NW := sm_mn sm_t1 125 rfl rfl
theorem mn_126 : (Jvm.Cond.fieldLinkNest "StreamMarks$Writer" (143 : Nat) "StreamMarks$Component" "steps" "LStreamMarks$Steps;" "StreamMarks") ∈ sm_NW := sm_mn sm_t1 126 rfl rfl
theorem mn_127 : (Jvm.Cond.fieldLinkNest "StreamMarks" (171 : Nat) "StreamMarks$Component" "steps" "LStreamMarks$Steps;" "StreamMarks") ∈ sm_NW := sm_mn sm_t1 127 rfl rfl
theorem mw_143 : (Jvm.Cond.methodLink "StreamMarks$Plan" (25 : Nat) ({ cls := "StreamMarks$Plan", name := "reset", desc := "()V" } : Jvm.MethodName)) ∈ sm_WS := sm_mw sm_t1 143 rfl rfl
theorem mw_144 : (Jvm.Cond.instanceMethod ({ cls := "StreamMarks$Plan", name := "reset", desc := "()V" } : Jvm.MethodName)) ∈ sm_WS := sm_mw sm_t1 144 rfl rfl
theorem mw_145 : (Jvm.Cond.selects "StreamMarks$Plan" ({ cls := "StreamMarks$Plan", name := "reset", desc := "()V" } : Jvm.MethodName) ({ cls := "StreamMarks$Plan", name := "reset", desc := "()V" } : Jvm.MethodName)) ∈ sm_WS := sm_mw sm_t1 145 rfl rfl
theorem mw_146 : (Jvm.Cond.code ({ cls := "StreamMarks$Plan", name := "reset", desc := "()V" } : Jvm.MethodName) prog_7_method_2_code (1 : Nat) (Option.none : Option Jvm.ClassFile.FieldType)) ∈ sm_WS := sm_mw sm_t1 146 rfl rfl
theorem mw_147 : (Jvm.Cond.methodLink "StreamMarks$Plan" (28 : Nat) ({ cls := "java/util/Arrays", name := "fill", desc := "([II)V" } : Jvm.MethodName)) ∈ sm_WS := sm_mw sm_t1 147 rfl rfl
theorem mw_148 : (Jvm.Cond.static ({ cls := "java/util/Arrays", name := "fill", desc := "([II)V" } : Jvm.MethodName)) ∈ sm_WS := sm_mw sm_t1 148 rfl rfl
theorem mw_149 : (Jvm.Cond.code ({ cls := "java/util/Arrays", name := "fill", desc := "([II)V" } : Jvm.MethodName) prog_25_method_103_code (4 : Nat) (Option.none : Option Jvm.ClassFile.FieldType)) ∈ sm_WS := sm_mw sm_t1 149 rfl rfl
theorem mw_150 : (Jvm.Cond.methodLink "StreamMarks$Plan" (41 : Nat) ({ cls := "StreamMarks$Plan", name := "setGeneral", desc := "(IIZZZ)V" } : Jvm.MethodName)) ∈ sm_WS := sm_mw sm_t1 150 rfl rfl
theorem mw_151 : (Jvm.Cond.instanceMethod ({ cls := "StreamMarks$Plan", name := "setGeneral", desc := "(IIZZZ)V" } : Jvm.MethodName)) ∈ sm_WS := sm_mw sm_t1 151 rfl rfl
theorem mw_152 : (Jvm.Cond.selects "StreamMarks$Plan" ({ cls := "StreamMarks$Plan", name := "setGeneral", desc := "(IIZZZ)V" } : Jvm.MethodName) ({ cls := "StreamMarks$Plan", name := "setGeneral", desc := "(IIZZZ)V" } : Jvm.MethodName)) ∈ sm_WS := sm_mw sm_t1 152 rfl rfl
theorem mw_153 : (Jvm.Cond.code ({ cls := "StreamMarks$Plan", name := "setGeneral", desc := "(IIZZZ)V" } : Jvm.MethodName) prog_7_method_6_code (6 : Nat) (Option.none : Option Jvm.ClassFile.FieldType)) ∈ sm_WS := sm_mw sm_t1 153 rfl rfl
theorem mw_154 : (Jvm.Cond.fieldLink "StreamMarks$Plan" (9 : Nat) "StreamMarks$Plan" "area" "[I") ∈ sm_WS := sm_mw sm_t1 154 rfl rfl
theorem mn_155 : (Jvm.Cond.fieldLinkNest "StreamMarks$Writer" (69 : Nat) "StreamMarks$Plan" "area" "[I" "StreamMarks") ∈ sm_NW := sm_mn sm_t1 155 rfl rfl
theorem mn_156 : (Jvm.Cond.fieldLinkNest "StreamMarks" (88 : Nat) "StreamMarks$Plan" "area" "[I" "StreamMarks") ∈ sm_NW := sm_mn sm_t1 156 rfl rfl
theorem mw_157 : (Jvm.Cond.fieldLink "StreamMarks$Plan" (17 : Nat) "StreamMarks$Plan" "components" "[LStreamMarks$Component;") ∈ sm_WS := sm_mw sm_t1 157 rfl rfl
theorem mw_158 : (Jvm.Cond.fieldLink "StreamMarks$Plan" (34 : Nat) "StreamMarks$Plan" "componentCount" "I") ∈ sm_WS := sm_mw sm_t1 158 rfl rfl
theorem mn_159 : (Jvm.Cond.fieldLinkNest "StreamMarks$Writer" (62 : Nat) "StreamMarks$Plan" "componentCount" "I" "StreamMarks") ∈ sm_NW := sm_mn sm_t1 159 rfl rfl
theorem mn_160 : (Jvm.Cond.fieldLinkNest "StreamMarks" (112 : Nat) "StreamMarks$Plan" "componentCount" "I" "StreamMarks") ∈ sm_NW := sm_mn sm_t1 160 rfl rfl
theorem mn_161 : (Jvm.Cond.fieldLinkNest "StreamMarks$Loader" (77 : Nat) "StreamMarks$Plan" "componentCount" "I" "StreamMarks") ∈ sm_NW := sm_mn sm_t1 161 rfl rfl
theorem mn_162 : (Jvm.Cond.fieldLinkNest "StreamMarks$Writer" (108 : Nat) "StreamMarks$Plan" "order" "I" "StreamMarks") ∈ sm_NW := sm_mn sm_t1 162 rfl rfl
theorem mw_163 : (Jvm.Cond.fieldLink "StreamMarks$Plan" (45 : Nat) "StreamMarks$Plan" "order" "I") ∈ sm_WS := sm_mw sm_t1 163 rfl rfl
theorem mn_164 : (Jvm.Cond.fieldLinkNest "StreamMarks$Writer" (111 : Nat) "StreamMarks$Plan" "layers" "I" "StreamMarks") ∈ sm_NW := sm_mn sm_t1 164 rfl rfl
theorem mw_165 : (Jvm.Cond.fieldLink "StreamMarks$Plan" (48 : Nat) "StreamMarks$Plan" "layers" "I") ∈ sm_WS := sm_mw sm_t1 165 rfl rfl
theorem mn_166 : (Jvm.Cond.fieldLinkNest "StreamMarks$Writer" (114 : Nat) "StreamMarks$Plan" "colour" "Z" "StreamMarks") ∈ sm_NW := sm_mn sm_t1 166 rfl rfl
theorem mw_167 : (Jvm.Cond.fieldLink "StreamMarks$Plan" (51 : Nat) "StreamMarks$Plan" "colour" "Z") ∈ sm_WS := sm_mw sm_t1 167 rfl rfl
theorem mn_168 : (Jvm.Cond.fieldLinkNest "StreamMarks$Writer" (98 : Nat) "StreamMarks$Plan" "ahead" "Z" "StreamMarks") ∈ sm_NW := sm_mn sm_t1 168 rfl rfl
theorem mw_169 : (Jvm.Cond.fieldLink "StreamMarks$Plan" (55 : Nat) "StreamMarks$Plan" "ahead" "Z") ∈ sm_WS := sm_mw sm_t1 169 rfl rfl
theorem mn_170 : (Jvm.Cond.fieldLinkNest "StreamMarks$Writer" (101 : Nat) "StreamMarks$Plan" "behind" "Z" "StreamMarks") ∈ sm_NW := sm_mn sm_t1 170 rfl rfl
theorem mw_171 : (Jvm.Cond.fieldLink "StreamMarks$Plan" (58 : Nat) "StreamMarks$Plan" "behind" "Z") ∈ sm_WS := sm_mw sm_t1 171 rfl rfl
theorem mw_172 : (Jvm.Cond.fieldLink "StreamMarks$Plan" (21 : Nat) "StreamMarks$Plan" "changes" "[I") ∈ sm_WS := sm_mw sm_t1 172 rfl rfl
theorem mw_173 : (Jvm.Cond.fieldLink "StreamMarks$Plan" (38 : Nat) "StreamMarks$Plan" "changeCount" "I") ∈ sm_WS := sm_mw sm_t1 173 rfl rfl
theorem mn_174 : (Jvm.Cond.fieldLinkNest "StreamMarks" (199 : Nat) "StreamMarks$Plan" "changeCount" "I" "StreamMarks") ∈ sm_NW := sm_mn sm_t1 174 rfl rfl
theorem mn_175 : (Jvm.Cond.fieldLinkNest "StreamMarks$Writer" (172 : Nat) "StreamMarks$Plan" "changeCount" "I" "StreamMarks") ∈ sm_NW := sm_mn sm_t1 175 rfl rfl
theorem mn_176 : (Jvm.Cond.fieldLinkNest "StreamMarks$Loader" (151 : Nat) "StreamMarks$Plan" "changeCount" "I" "StreamMarks") ∈ sm_NW := sm_mn sm_t1 176 rfl rfl
theorem mw_198 : (Jvm.Cond.classLink "StreamMarks" (16 : Nat) "StreamMarks$Row") ∈ sm_WS := sm_mw sm_t1 198 rfl rfl
theorem mw_199 : (Jvm.Cond.instantiable "StreamMarks$Row" (2 : Nat)) ∈ sm_WS := sm_mw sm_t1 199 rfl rfl
theorem mn_200 : (Jvm.Cond.methodLinkNest "StreamMarks" (18 : Nat) ({ cls := "StreamMarks$Row", name := "<init>", desc := "()V" } : Jvm.MethodName) "StreamMarks") ∈ sm_NW := sm_mn sm_t1 200 rfl rfl
theorem mw_201 : (Jvm.Cond.instanceMethod ({ cls := "StreamMarks$Row", name := "<init>", desc := "()V" } : Jvm.MethodName)) ∈ sm_WS := sm_mw sm_t1 201 rfl rfl
theorem mw_202 : (Jvm.Cond.code ({ cls := "StreamMarks$Row", name := "<init>", desc := "()V" } : Jvm.MethodName) prog_8_method_1_code (1 : Nat) (Option.none : Option Jvm.ClassFile.FieldType)) ∈ sm_WS := sm_mw sm_t1 202 rfl rfl
theorem mw_203 : (Jvm.Cond.methodLink "StreamMarks$Row" (3 : Nat) ({ cls := "java/lang/Object", name := "<init>", desc := "()V" } : Jvm.MethodName)) ∈ sm_WS := sm_mw sm_t1 203 rfl rfl
theorem mw_204 : (Jvm.Cond.fieldLink "StreamMarks$Row" (9 : Nat) "StreamMarks$Row" "bytes" "[B") ∈ sm_WS := sm_mw sm_t1 204 rfl rfl
theorem mw_205 : (Jvm.Cond.fieldLink "StreamMarks$Row" (15 : Nat) "StreamMarks$Row" "count" "I") ∈ sm_WS := sm_mw sm_t1 205 rfl rfl
theorem mn_206 : (Jvm.Cond.fieldLinkNest "StreamMarks$Scanner" (53 : Nat) "StreamMarks$Row" "count" "I" "StreamMarks") ∈ sm_NW := sm_mn sm_t1 206 rfl rfl
theorem mn_207 : (Jvm.Cond.fieldLinkNest "StreamMarks" (237 : Nat) "StreamMarks$Row" "count" "I" "StreamMarks") ∈ sm_NW := sm_mn sm_t1 207 rfl rfl
theorem mw_213 : (Jvm.Cond.arrayClass Jvm.ClassFile.FieldType.byte) ∈ sm_WS := sm_mw sm_t1 213 rfl rfl
theorem mw_214 : (Jvm.Cond.classLink "StreamMarks" (26 : Nat) "StreamMarks$Scanner") ∈ sm_WS := sm_mw sm_t1 214 rfl rfl
theorem mw_215 : (Jvm.Cond.instantiable "StreamMarks$Scanner" (14 : Nat)) ∈ sm_WS := sm_mw sm_t1 215 rfl rfl
theorem mw_216 : (Jvm.Cond.methodLink "StreamMarks" (28 : Nat) ({ cls := "StreamMarks$Scanner", name := "<init>", desc := "(LStreamMarks$Row;)V" } : Jvm.MethodName)) ∈ sm_WS := sm_mw sm_t1 216 rfl rfl
theorem mw_217 : (Jvm.Cond.instanceMethod ({ cls := "StreamMarks$Scanner", name := "<init>", desc := "(LStreamMarks$Row;)V" } : Jvm.MethodName)) ∈ sm_WS := sm_mw sm_t1 217 rfl rfl
theorem mw_218 : (Jvm.Cond.code ({ cls := "StreamMarks$Scanner", name := "<init>", desc := "(LStreamMarks$Row;)V" } : Jvm.MethodName) prog_10_method_1_code (2 : Nat) (Option.none : Option Jvm.ClassFile.FieldType)) ∈ sm_WS := sm_mw sm_t1 218 rfl rfl
theorem mw_219 : (Jvm.Cond.methodLink "StreamMarks$Scanner" (3 : Nat) ({ cls := "java/lang/Object", name := "<init>", desc := "()V" } : Jvm.MethodName)) ∈ sm_WS := sm_mw sm_t1 219 rfl rfl
theorem mw_220 : (Jvm.Cond.classLink "StreamMarks$Scanner" (9 : Nat) "StreamMarks$Row") ∈ sm_WS := sm_mw sm_t1 220 rfl rfl
theorem mn_221 : (Jvm.Cond.methodLinkNest "StreamMarks$Scanner" (11 : Nat) ({ cls := "StreamMarks$Row", name := "<init>", desc := "()V" } : Jvm.MethodName) "StreamMarks") ∈ sm_NW := sm_mn sm_t1 221 rfl rfl
theorem mw_222 : (Jvm.Cond.classLink "StreamMarks$Scanner" (18 : Nat) "StreamMarks$Places") ∈ sm_WS := sm_mw sm_t1 222 rfl rfl
theorem mw_223 : (Jvm.Cond.instantiable "StreamMarks$Places" (1 : Nat)) ∈ sm_WS := sm_mw sm_t1 223 rfl rfl
theorem mn_224 : (Jvm.Cond.methodLinkNest "StreamMarks$Scanner" (20 : Nat) ({ cls := "StreamMarks$Places", name := "<init>", desc := "()V" } : Jvm.MethodName) "StreamMarks") ∈ sm_NW := sm_mn sm_t1 224 rfl rfl
theorem mw_225 : (Jvm.Cond.instanceMethod ({ cls := "StreamMarks$Places", name := "<init>", desc := "()V" } : Jvm.MethodName)) ∈ sm_WS := sm_mw sm_t1 225 rfl rfl
theorem mw_226 : (Jvm.Cond.code ({ cls := "StreamMarks$Places", name := "<init>", desc := "()V" } : Jvm.MethodName) prog_6_method_1_code (1 : Nat) (Option.none : Option Jvm.ClassFile.FieldType)) ∈ sm_WS := sm_mw sm_t1 226 rfl rfl
theorem mw_227 : (Jvm.Cond.methodLink "StreamMarks$Places" (3 : Nat) ({ cls := "java/lang/Object", name := "<init>", desc := "()V" } : Jvm.MethodName)) ∈ sm_WS := sm_mw sm_t1 227 rfl rfl
theorem mw_228 : (Jvm.Cond.fieldLink "StreamMarks$Places" (11 : Nat) "StreamMarks$Places" "starts" "[I") ∈ sm_WS := sm_mw sm_t1 228 rfl rfl
theorem mw_232 : (Jvm.Cond.classLink "StreamMarks$Scanner" (25 : Nat) "StreamMarks$Parts") ∈ sm_WS := sm_mw sm_t1 232 rfl rfl
theorem mw_233 : (Jvm.Cond.instantiable "StreamMarks$Parts" (5 : Nat)) ∈ sm_WS := sm_mw sm_t1 233 rfl rfl
theorem mn_234 : (Jvm.Cond.methodLinkNest "StreamMarks$Scanner" (27 : Nat) ({ cls := "StreamMarks$Parts", name := "<init>", desc := "()V" } : Jvm.MethodName) "StreamMarks") ∈ sm_NW := sm_mn sm_t1 234 rfl rfl
theorem mw_235 : (Jvm.Cond.instanceMethod ({ cls := "StreamMarks$Parts", name := "<init>", desc := "()V" } : Jvm.MethodName)) ∈ sm_WS := sm_mw sm_t1 235 rfl rfl
theorem mw_236 : (Jvm.Cond.code ({ cls := "StreamMarks$Parts", name := "<init>", desc := "()V" } : Jvm.MethodName) prog_5_method_1_code (1 : Nat) (Option.none : Option Jvm.ClassFile.FieldType)) ∈ sm_WS := sm_mw sm_t1 236 rfl rfl
theorem mw_237 : (Jvm.Cond.methodLink "StreamMarks$Parts" (3 : Nat) ({ cls := "java/lang/Object", name := "<init>", desc := "()V" } : Jvm.MethodName)) ∈ sm_WS := sm_mw sm_t1 237 rfl rfl
theorem mw_238 : (Jvm.Cond.fieldLink "StreamMarks$Parts" (11 : Nat) "StreamMarks$Parts" "numbers" "[I") ∈ sm_WS := sm_mw sm_t1 238 rfl rfl
theorem mw_239 : (Jvm.Cond.fieldLink "StreamMarks$Parts" (24 : Nat) "StreamMarks$Parts" "count" "I") ∈ sm_WS := sm_mw sm_t1 239 rfl rfl
theorem mn_240 : (Jvm.Cond.fieldLinkNest "StreamMarks$Scanner" (162 : Nat) "StreamMarks$Parts" "count" "I" "StreamMarks") ∈ sm_NW := sm_mn sm_t2 0 rfl rfl
theorem mn_241 : (Jvm.Cond.fieldLinkNest "StreamMarks" (315 : Nat) "StreamMarks$Parts" "count" "I" "StreamMarks") ∈ sm_NW := sm_mn sm_t2 1 rfl rfl
theorem mw_242 : (Jvm.Cond.fieldLink "StreamMarks$Parts" (15 : Nat) "StreamMarks$Parts" "partsHad" "[I") ∈ sm_WS := sm_mw sm_t2 2 rfl rfl
theorem mw_243 : (Jvm.Cond.fieldLink "StreamMarks$Parts" (18 : Nat) "StreamMarks$Parts" "partsTold" "[I") ∈ sm_WS := sm_mw sm_t2 3 rfl rfl
theorem mw_244 : (Jvm.Cond.fieldLink "StreamMarks$Parts" (21 : Nat) "StreamMarks$Parts" "headSegments" "[I") ∈ sm_WS := sm_mw sm_t2 4 rfl rfl
theorem mw_256 : (Jvm.Cond.fieldLink "StreamMarks$Scanner" (32 : Nat) "StreamMarks$Scanner" "stream" "LStreamMarks$Row;") ∈ sm_WS := sm_mw sm_t2 16 rfl rfl
theorem mw_257 : (Jvm.Cond.fieldLink "StreamMarks$Scanner" (12 : Nat) "StreamMarks$Scanner" "heads" "LStreamMarks$Row;") ∈ sm_WS := sm_mw sm_t2 17 rfl rfl
theorem mn_258 : (Jvm.Cond.fieldLinkNest "StreamMarks" (308 : Nat) "StreamMarks$Scanner" "heads" "LStreamMarks$Row;" "StreamMarks") ∈ sm_NW := sm_mn sm_t2 18 rfl rfl
theorem mw_259 : (Jvm.Cond.fieldLink "StreamMarks$Scanner" (21 : Nat) "StreamMarks$Scanner" "places" "LStreamMarks$Places;") ∈ sm_WS := sm_mw sm_t2 19 rfl rfl
theorem mn_260 : (Jvm.Cond.fieldLinkNest "StreamMarks" (37 : Nat) "StreamMarks$Scanner" "places" "LStreamMarks$Places;" "StreamMarks") ∈ sm_NW := sm_mn sm_t2 20 rfl rfl
theorem mw_261 : (Jvm.Cond.fieldLink "StreamMarks$Scanner" (28 : Nat) "StreamMarks$Scanner" "parts" "LStreamMarks$Parts;") ∈ sm_WS := sm_mw sm_t2 21 rfl rfl
theorem mn_262 : (Jvm.Cond.fieldLinkNest "StreamMarks" (296 : Nat) "StreamMarks$Scanner" "parts" "LStreamMarks$Parts;" "StreamMarks") ∈ sm_NW := sm_mn sm_t2 22 rfl rfl
theorem mw_263 : (Jvm.Cond.fieldLink "StreamMarks$Scanner" (39 : Nat) "StreamMarks$Scanner" "state" "I") ∈ sm_WS := sm_mw sm_t2 23 rfl rfl
theorem mw_264 : (Jvm.Cond.fieldLink "StreamMarks$Scanner" (50 : Nat) "StreamMarks$Scanner" "here" "I") ∈ sm_WS := sm_mw sm_t2 24 rfl rfl
theorem mn_265 : (Jvm.Cond.fieldLinkNest "StreamMarks" (284 : Nat) "StreamMarks$Scanner" "here" "I" "StreamMarks") ∈ sm_NW := sm_mn sm_t2 25 rfl rfl
theorem mw_266 : (Jvm.Cond.fieldLink "StreamMarks$Scanner" (56 : Nat) "StreamMarks$Scanner" "end" "I") ∈ sm_WS := sm_mw sm_t2 26 rfl rfl
theorem mw_267 : (Jvm.Cond.fieldLink "StreamMarks$Scanner" (97 : Nat) "StreamMarks$Scanner" "mark" "I") ∈ sm_WS := sm_mw sm_t2 27 rfl rfl
theorem mw_268 : (Jvm.Cond.fieldLink "StreamMarks$Scanner" (113 : Nat) "StreamMarks$Scanner" "length" "I") ∈ sm_WS := sm_mw sm_t2 28 rfl rfl
theorem mw_269 : (Jvm.Cond.fieldLink "StreamMarks$Scanner" (59 : Nat) "StreamMarks$Scanner" "componentCount" "I") ∈ sm_WS := sm_mw sm_t2 29 rfl rfl
theorem mw_270 : (Jvm.Cond.fieldLink "StreamMarks$Scanner" (62 : Nat) "StreamMarks$Scanner" "tileCount" "I") ∈ sm_WS := sm_mw sm_t2 30 rfl rfl
theorem mn_271 : (Jvm.Cond.fieldLinkNest "StreamMarks" (333 : Nat) "StreamMarks$Scanner" "tileCount" "I" "StreamMarks") ∈ sm_NW := sm_mn sm_t2 31 rfl rfl
theorem mw_272 : (Jvm.Cond.fieldLink "StreamMarks$Scanner" (65 : Nat) "StreamMarks$Scanner" "mainHeadSegments" "I") ∈ sm_WS := sm_mw sm_t2 32 rfl rfl
theorem mw_273 : (Jvm.Cond.fieldLink "StreamMarks$Scanner" (185 : Nat) "StreamMarks$Scanner" "tile" "I") ∈ sm_WS := sm_mw sm_t2 33 rfl rfl
theorem mw_274 : (Jvm.Cond.fieldLink "StreamMarks$Scanner" (132 : Nat) "StreamMarks$Scanner" "inFirstPart" "Z") ∈ sm_WS := sm_mw sm_t2 34 rfl rfl
theorem mw_304 : (Jvm.Cond.classLink "StreamMarks" (35 : Nat) "StreamMarks$Loader") ∈ sm_WS := sm_mw sm_t2 64 rfl rfl
theorem mw_305 : (Jvm.Cond.instantiable "StreamMarks$Loader" (3 : Nat)) ∈ sm_WS := sm_mw sm_t2 65 rfl rfl
theorem mw_306 : (Jvm.Cond.methodLink "StreamMarks" (41 : Nat) ({ cls := "StreamMarks$Loader", name := "<init>", desc := "(LStreamMarks$Row;LStreamMarks$Places;LStreamMarks$Plan;)V" } : Jvm.MethodName)) ∈ sm_WS := sm_mw sm_t2 66 rfl rfl
theorem mw_307 : (Jvm.Cond.instanceMethod ({ cls := "StreamMarks$Loader", name := "<init>", desc := "(LStreamMarks$Row;LStreamMarks$Places;LStreamMarks$Plan;)V" } : Jvm.MethodName)) ∈ sm_WS := sm_mw sm_t2 67 rfl rfl
theorem mw_308 : (Jvm.Cond.code ({ cls := "StreamMarks$Loader", name := "<init>", desc := "(LStreamMarks$Row;LStreamMarks$Places;LStreamMarks$Plan;)V" } : Jvm.MethodName) prog_4_method_1_code (4 : Nat) (Option.none : Option Jvm.ClassFile.FieldType)) ∈ sm_WS := sm_mw sm_t2 68 rfl rfl
theorem mw_309 : (Jvm.Cond.methodLink "StreamMarks$Loader" (3 : Nat) ({ cls := "java/lang/Object", name := "<init>", desc := "()V" } : Jvm.MethodName)) ∈ sm_WS := sm_mw sm_t2 69 rfl rfl
theorem mw_310 : (Jvm.Cond.fieldLink "StreamMarks$Loader" (9 : Nat) "StreamMarks$Loader" "stream" "LStreamMarks$Row;") ∈ sm_WS := sm_mw sm_t2 70 rfl rfl
theorem mw_311 : (Jvm.Cond.fieldLink "StreamMarks$Loader" (15 : Nat) "StreamMarks$Loader" "places" "LStreamMarks$Places;") ∈ sm_WS := sm_mw sm_t2 71 rfl rfl
theorem mw_312 : (Jvm.Cond.fieldLink "StreamMarks$Loader" (19 : Nat) "StreamMarks$Loader" "plan" "LStreamMarks$Plan;") ∈ sm_WS := sm_mw sm_t2 72 rfl rfl
theorem mw_320 : (Jvm.Cond.fieldLink "StreamMarks" (10 : Nat) "StreamMarks" "plan" "LStreamMarks$Plan;") ∈ sm_WS := sm_mw sm_t2 80 rfl rfl
theorem mw_321 : (Jvm.Cond.fieldLink "StreamMarks" (19 : Nat) "StreamMarks" "stream" "LStreamMarks$Row;") ∈ sm_WS := sm_mw sm_t2 81 rfl rfl
theorem mw_322 : (Jvm.Cond.fieldLink "StreamMarks" (23 : Nat) "StreamMarks" "draft" "LStreamMarks$Row;") ∈ sm_WS := sm_mw sm_t2 82 rfl rfl
theorem mw_323 : (Jvm.Cond.fieldLink "StreamMarks" (31 : Nat) "StreamMarks" "scanner" "LStreamMarks$Scanner;") ∈ sm_WS := sm_mw sm_t2 83 rfl rfl
theorem mw_324 : (Jvm.Cond.fieldLink "StreamMarks" (44 : Nat) "StreamMarks" "loader" "LStreamMarks$Loader;") ∈ sm_WS := sm_mw sm_t2 84 rfl rfl
theorem mw_325 : (Jvm.Cond.fieldLink "StreamMarks" (48 : Nat) "StreamMarks" "scanned" "Z") ∈ sm_WS := sm_mw sm_t2 85 rfl rfl
theorem mw_326 : (Jvm.Cond.fieldLink "StreamMarks" (52 : Nat) "StreamMarks" "refusedAt" "I") ∈ sm_WS := sm_mw sm_t2 86 rfl rfl
theorem mw_342 : (Jvm.Cond.methodLink "StreamMarksLaw" (90 : Nat) ({ cls := "StreamMarks", name := "plan", desc := "()V" } : Jvm.MethodName)) ∈ sm_WS := sm_mw sm_t2 102 rfl rfl
theorem mw_343 : (Jvm.Cond.instanceMethod ({ cls := "StreamMarks", name := "plan", desc := "()V" } : Jvm.MethodName)) ∈ sm_WS := sm_mw sm_t2 103 rfl rfl
theorem mw_344 : (Jvm.Cond.selects "StreamMarks" ({ cls := "StreamMarks", name := "plan", desc := "()V" } : Jvm.MethodName) ({ cls := "StreamMarks", name := "plan", desc := "()V" } : Jvm.MethodName)) ∈ sm_WS := sm_mw sm_t2 104 rfl rfl
theorem mw_345 : (Jvm.Cond.code ({ cls := "StreamMarks", name := "plan", desc := "()V" } : Jvm.MethodName) prog_1_method_2_code (1 : Nat) (Option.none : Option Jvm.ClassFile.FieldType)) ∈ sm_WS := sm_mw sm_t2 105 rfl rfl
theorem mw_346 : (Jvm.Cond.methodLink "StreamMarks" (56 : Nat) ({ cls := "StreamMarks$Plan", name := "reset", desc := "()V" } : Jvm.MethodName)) ∈ sm_WS := sm_mw sm_t2 106 rfl rfl
theorem mw_347 : (Jvm.Cond.methodLink "StreamMarksLaw" (136 : Nat) ({ cls := "StreamMarks", name := "clear", desc := "()V" } : Jvm.MethodName)) ∈ sm_WS := sm_mw sm_t2 107 rfl rfl
theorem mw_348 : (Jvm.Cond.instanceMethod ({ cls := "StreamMarks", name := "clear", desc := "()V" } : Jvm.MethodName)) ∈ sm_WS := sm_mw sm_t2 108 rfl rfl
theorem mw_349 : (Jvm.Cond.selects "StreamMarks" ({ cls := "StreamMarks", name := "clear", desc := "()V" } : Jvm.MethodName) ({ cls := "StreamMarks", name := "clear", desc := "()V" } : Jvm.MethodName)) ∈ sm_WS := sm_mw sm_t2 109 rfl rfl
theorem mw_350 : (Jvm.Cond.code ({ cls := "StreamMarks", name := "clear", desc := "()V" } : Jvm.MethodName) prog_1_method_13_code (1 : Nat) (Option.none : Option Jvm.ClassFile.FieldType)) ∈ sm_WS := sm_mw sm_t2 110 rfl rfl
theorem mw_351 : (Jvm.Cond.methodLink "StreamMarks" (225 : Nat) ({ cls := "StreamMarks$Row", name := "clearAll", desc := "()V" } : Jvm.MethodName)) ∈ sm_WS := sm_mw sm_t2 111 rfl rfl
theorem mw_352 : (Jvm.Cond.instanceMethod ({ cls := "StreamMarks$Row", name := "clearAll", desc := "()V" } : Jvm.MethodName)) ∈ sm_WS := sm_mw sm_t2 112 rfl rfl
theorem mw_353 : (Jvm.Cond.selects "StreamMarks$Row" ({ cls := "StreamMarks$Row", name := "clearAll", desc := "()V" } : Jvm.MethodName) ({ cls := "StreamMarks$Row", name := "clearAll", desc := "()V" } : Jvm.MethodName)) ∈ sm_WS := sm_mw sm_t2 113 rfl rfl
theorem mw_354 : (Jvm.Cond.code ({ cls := "StreamMarks$Row", name := "clearAll", desc := "()V" } : Jvm.MethodName) prog_8_method_7_code (1 : Nat) (Option.none : Option Jvm.ClassFile.FieldType)) ∈ sm_WS := sm_mw sm_t2 114 rfl rfl
theorem mw_355 : (Jvm.Cond.methodLink "StreamMarksLaw" (162 : Nat) ({ cls := "StreamMarks", name := "scan", desc := "()I" } : Jvm.MethodName)) ∈ sm_WS := sm_mw sm_t2 115 rfl rfl
theorem mw_356 : (Jvm.Cond.instanceMethod ({ cls := "StreamMarks", name := "scan", desc := "()I" } : Jvm.MethodName)) ∈ sm_WS := sm_mw sm_t2 116 rfl rfl
theorem mw_357 : (Jvm.Cond.selects "StreamMarks" ({ cls := "StreamMarks", name := "scan", desc := "()I" } : Jvm.MethodName) ({ cls := "StreamMarks", name := "scan", desc := "()I" } : Jvm.MethodName)) ∈ sm_WS := sm_mw sm_t2 117 rfl rfl
theorem mw_358 : (Jvm.Cond.code ({ cls := "StreamMarks", name := "scan", desc := "()I" } : Jvm.MethodName) prog_1_method_20_code (2 : Nat) (Option.some Jvm.ClassFile.FieldType.int)) ∈ sm_WS := sm_mw sm_t2 118 rfl rfl
theorem mw_359 : (Jvm.Cond.methodLink "StreamMarks" (280 : Nat) ({ cls := "StreamMarks$Scanner", name := "refusal", desc := "()I" } : Jvm.MethodName)) ∈ sm_WS := sm_mw sm_t2 119 rfl rfl
theorem mw_360 : (Jvm.Cond.instanceMethod ({ cls := "StreamMarks$Scanner", name := "refusal", desc := "()I" } : Jvm.MethodName)) ∈ sm_WS := sm_mw sm_t2 120 rfl rfl
theorem mw_361 : (Jvm.Cond.selects "StreamMarks$Scanner" ({ cls := "StreamMarks$Scanner", name := "refusal", desc := "()I" } : Jvm.MethodName) ({ cls := "StreamMarks$Scanner", name := "refusal", desc := "()I" } : Jvm.MethodName)) ∈ sm_WS := sm_mw sm_t2 121 rfl rfl
theorem mw_362 : (Jvm.Cond.code ({ cls := "StreamMarks$Scanner", name := "refusal", desc := "()I" } : Jvm.MethodName) prog_10_method_2_code (3 : Nat) (Option.some Jvm.ClassFile.FieldType.int)) ∈ sm_WS := sm_mw sm_t2 122 rfl rfl
theorem mw_363 : (Jvm.Cond.methodLink "StreamMarks$Scanner" (35 : Nat) ({ cls := "StreamMarks$Scanner", name := "begin", desc := "()V" } : Jvm.MethodName)) ∈ sm_WS := sm_mw sm_t2 123 rfl rfl
theorem mw_365 : (Jvm.Cond.instanceMethod ({ cls := "StreamMarks$Scanner", name := "begin", desc := "()V" } : Jvm.MethodName)) ∈ sm_WS := sm_mw sm_t2 125 rfl rfl
theorem mw_366 : (Jvm.Cond.code ({ cls := "StreamMarks$Scanner", name := "begin", desc := "()V" } : Jvm.MethodName) prog_10_method_3_code (1 : Nat) (Option.none : Option Jvm.ClassFile.FieldType)) ∈ sm_WS := sm_mw sm_t2 126 rfl rfl
theorem mw_367 : (Jvm.Cond.methodLink "StreamMarks$Scanner" (68 : Nat) ({ cls := "StreamMarks$Row", name := "clearAll", desc := "()V" } : Jvm.MethodName)) ∈ sm_WS := sm_mw sm_t2 127 rfl rfl
theorem mw_368 : (Jvm.Cond.methodLink "StreamMarks$Scanner" (71 : Nat) ({ cls := "StreamMarks$Places", name := "forget", desc := "(I)V" } : Jvm.MethodName)) ∈ sm_WS := sm_mw sm_t2 128 rfl rfl
theorem mw_369 : (Jvm.Cond.instanceMethod ({ cls := "StreamMarks$Places", name := "forget", desc := "(I)V" } : Jvm.MethodName)) ∈ sm_WS := sm_mw sm_t2 129 rfl rfl
theorem mw_370 : (Jvm.Cond.selects "StreamMarks$Places" ({ cls := "StreamMarks$Places", name := "forget", desc := "(I)V" } : Jvm.MethodName) ({ cls := "StreamMarks$Places", name := "forget", desc := "(I)V" } : Jvm.MethodName)) ∈ sm_WS := sm_mw sm_t2 130 rfl rfl
theorem mw_371 : (Jvm.Cond.code ({ cls := "StreamMarks$Places", name := "forget", desc := "(I)V" } : Jvm.MethodName) prog_6_method_3_code (4 : Nat) (Option.none : Option Jvm.ClassFile.FieldType)) ∈ sm_WS := sm_mw sm_t2 131 rfl rfl
theorem mw_372 : (Jvm.Cond.methodLink "StreamMarks$Scanner" (75 : Nat) ({ cls := "StreamMarks$Parts", name := "forgetAll", desc := "()V" } : Jvm.MethodName)) ∈ sm_WS := sm_mw sm_t2 132 rfl rfl
theorem mw_373 : (Jvm.Cond.instanceMethod ({ cls := "StreamMarks$Parts", name := "forgetAll", desc := "()V" } : Jvm.MethodName)) ∈ sm_WS := sm_mw sm_t2 133 rfl rfl
theorem mw_374 : (Jvm.Cond.selects "StreamMarks$Parts" ({ cls := "StreamMarks$Parts", name := "forgetAll", desc := "()V" } : Jvm.MethodName) ({ cls := "StreamMarks$Parts", name := "forgetAll", desc := "()V" } : Jvm.MethodName)) ∈ sm_WS := sm_mw sm_t2 134 rfl rfl
theorem mw_375 : (Jvm.Cond.code ({ cls := "StreamMarks$Parts", name := "forgetAll", desc := "()V" } : Jvm.MethodName) prog_5_method_2_code (1 : Nat) (Option.none : Option Jvm.ClassFile.FieldType)) ∈ sm_WS := sm_mw sm_t2 135 rfl rfl
theorem mw_376 : (Jvm.Cond.methodLink "StreamMarks$Parts" (28 : Nat) ({ cls := "java/util/Arrays", name := "fill", desc := "([II)V" } : Jvm.MethodName)) ∈ sm_WS := sm_mw sm_t2 136 rfl rfl
theorem mw_377 : (Jvm.Cond.constant "StreamMarks$Scanner" (38 : Nat) (65536 : Int32)) ∈ sm_WS := sm_mw sm_t2 137 rfl rfl
theorem mw_378 : (Jvm.Cond.methodLink "StreamMarks$Scanner" (43 : Nat) ({ cls := "StreamMarks$Scanner", name := "refusalHere", desc := "()I" } : Jvm.MethodName)) ∈ sm_WS := sm_mw sm_t2 138 rfl rfl
theorem mw_380 : (Jvm.Cond.instanceMethod ({ cls := "StreamMarks$Scanner", name := "refusalHere", desc := "()I" } : Jvm.MethodName)) ∈ sm_WS := sm_mw sm_t2 140 rfl rfl
theorem mw_381 : (Jvm.Cond.code ({ cls := "StreamMarks$Scanner", name := "refusalHere", desc := "()I" } : Jvm.MethodName) prog_10_method_4_code (1 : Nat) (Option.some Jvm.ClassFile.FieldType.int)) ∈ sm_WS := sm_mw sm_t2 141 rfl rfl
theorem mw_382 : (Jvm.Cond.methodLink "StreamMarks$Scanner" (78 : Nat) ({ cls := "StreamMarks$Scanner", name := "readsCutMark", desc := "()Z" } : Jvm.MethodName)) ∈ sm_WS := sm_mw sm_t2 142 rfl rfl
theorem mw_384 : (Jvm.Cond.instanceMethod ({ cls := "StreamMarks$Scanner", name := "readsCutMark", desc := "()Z" } : Jvm.MethodName)) ∈ sm_WS := sm_mw sm_t2 144 rfl rfl
theorem mw_385 : (Jvm.Cond.code ({ cls := "StreamMarks$Scanner", name := "readsCutMark", desc := "()Z" } : Jvm.MethodName) prog_10_method_5_code (1 : Nat) (Option.some Jvm.ClassFile.FieldType.boolean)) ∈ sm_WS := sm_mw sm_t2 145 rfl rfl
theorem mw_386 : (Jvm.Cond.methodLink "StreamMarks$Scanner" (116 : Nat) ({ cls := "StreamMarks$Row", name := "u1", desc := "(I)I" } : Jvm.MethodName)) ∈ sm_WS := sm_mw sm_t2 146 rfl rfl
theorem mw_387 : (Jvm.Cond.instanceMethod ({ cls := "StreamMarks$Row", name := "u1", desc := "(I)I" } : Jvm.MethodName)) ∈ sm_WS := sm_mw sm_t2 147 rfl rfl
theorem mw_388 : (Jvm.Cond.selects "StreamMarks$Row" ({ cls := "StreamMarks$Row", name := "u1", desc := "(I)I" } : Jvm.MethodName) ({ cls := "StreamMarks$Row", name := "u1", desc := "(I)I" } : Jvm.MethodName)) ∈ sm_WS := sm_mw sm_t2 148 rfl rfl
theorem mw_389 : (Jvm.Cond.code ({ cls := "StreamMarks$Row", name := "u1", desc := "(I)I" } : Jvm.MethodName) prog_8_method_3_code (2 : Nat) (Option.some Jvm.ClassFile.FieldType.int)) ∈ sm_WS := sm_mw sm_t2 149 rfl rfl
theorem mw_390 : (Jvm.Cond.methodLink "StreamMarks$Scanner" (120 : Nat) ({ cls := "StreamMarks$Scanner", name := "hasSegment", desc := "()Z" } : Jvm.MethodName)) ∈ sm_WS := sm_mw sm_t2 150 rfl rfl
theorem mw_392 : (Jvm.Cond.instanceMethod ({ cls := "StreamMarks$Scanner", name := "hasSegment", desc := "()Z" } : Jvm.MethodName)) ∈ sm_WS := sm_mw sm_t2 152 rfl rfl
theorem mw_393 : (Jvm.Cond.code ({ cls := "StreamMarks$Scanner", name := "hasSegment", desc := "()Z" } : Jvm.MethodName) prog_10_method_6_code (1 : Nat) (Option.some Jvm.ClassFile.FieldType.boolean)) ∈ sm_WS := sm_mw sm_t2 153 rfl rfl
theorem mw_394 : (Jvm.Cond.methodLink "StreamMarks$Scanner" (123 : Nat) ({ cls := "StreamMarks$Row", name := "u2", desc := "(I)I" } : Jvm.MethodName)) ∈ sm_WS := sm_mw sm_t2 154 rfl rfl
theorem mw_395 : (Jvm.Cond.instanceMethod ({ cls := "StreamMarks$Row", name := "u2", desc := "(I)I" } : Jvm.MethodName)) ∈ sm_WS := sm_mw sm_t2 155 rfl rfl
theorem mw_396 : (Jvm.Cond.selects "StreamMarks$Row" ({ cls := "StreamMarks$Row", name := "u2", desc := "(I)I" } : Jvm.MethodName) ({ cls := "StreamMarks$Row", name := "u2", desc := "(I)I" } : Jvm.MethodName)) ∈ sm_WS := sm_mw sm_t2 156 rfl rfl
theorem mw_397 : (Jvm.Cond.code ({ cls := "StreamMarks$Row", name := "u2", desc := "(I)I" } : Jvm.MethodName) prog_8_method_4_code (2 : Nat) (Option.some Jvm.ClassFile.FieldType.int)) ∈ sm_WS := sm_mw sm_t2 157 rfl rfl
theorem mw_398 : (Jvm.Cond.methodLink "StreamMarks$Scanner" (82 : Nat) ({ cls := "StreamMarks$Scanner", name := "isWrong", desc := "()Z" } : Jvm.MethodName)) ∈ sm_WS := sm_mw sm_t2 158 rfl rfl
theorem mw_400 : (Jvm.Cond.instanceMethod ({ cls := "StreamMarks$Scanner", name := "isWrong", desc := "()Z" } : Jvm.MethodName)) ∈ sm_WS := sm_mw sm_t2 160 rfl rfl
theorem mw_401 : (Jvm.Cond.code ({ cls := "StreamMarks$Scanner", name := "isWrong", desc := "()Z" } : Jvm.MethodName) prog_10_method_7_code (1 : Nat) (Option.some Jvm.ClassFile.FieldType.boolean)) ∈ sm_WS := sm_mw sm_t2 161 rfl rfl
theorem mw_402 : (Jvm.Cond.methodLink "StreamMarks$Scanner" (126 : Nat) ({ cls := "StreamMarks$Scanner", name := "isWrongAmongMain", desc := "()Z" } : Jvm.MethodName)) ∈ sm_WS := sm_mw sm_t2 162 rfl rfl
theorem mw_404 : (Jvm.Cond.instanceMethod ({ cls := "StreamMarks$Scanner", name := "isWrongAmongMain", desc := "()Z" } : Jvm.MethodName)) ∈ sm_WS := sm_mw sm_t2 164 rfl rfl
theorem mw_405 : (Jvm.Cond.code ({ cls := "StreamMarks$Scanner", name := "isWrongAmongMain", desc := "()Z" } : Jvm.MethodName) prog_10_method_8_code (1 : Nat) (Option.some Jvm.ClassFile.FieldType.boolean)) ∈ sm_WS := sm_mw sm_t2 165 rfl rfl
theorem mw_406 : (Jvm.Cond.methodLink "StreamMarks$Scanner" (129 : Nat) ({ cls := "StreamMarks$Scanner", name := "isWrongInPart", desc := "()Z" } : Jvm.MethodName)) ∈ sm_WS := sm_mw sm_t2 166 rfl rfl
theorem mw_408 : (Jvm.Cond.instanceMethod ({ cls := "StreamMarks$Scanner", name := "isWrongInPart", desc := "()Z" } : Jvm.MethodName)) ∈ sm_WS := sm_mw sm_t2 168 rfl rfl
theorem mw_409 : (Jvm.Cond.code ({ cls := "StreamMarks$Scanner", name := "isWrongInPart", desc := "()Z" } : Jvm.MethodName) prog_10_method_9_code (1 : Nat) (Option.some Jvm.ClassFile.FieldType.boolean)) ∈ sm_WS := sm_mw sm_t2 169 rfl rfl
theorem mw_410 : (Jvm.Cond.methodLink "StreamMarks$Scanner" (85 : Nat) ({ cls := "StreamMarks$Scanner", name := "hasLength", desc := "()Z" } : Jvm.MethodName)) ∈ sm_WS := sm_mw sm_t2 170 rfl rfl
theorem mw_412 : (Jvm.Cond.instanceMethod ({ cls := "StreamMarks$Scanner", name := "hasLength", desc := "()Z" } : Jvm.MethodName)) ∈ sm_WS := sm_mw sm_t2 172 rfl rfl
theorem mw_413 : (Jvm.Cond.code ({ cls := "StreamMarks$Scanner", name := "hasLength", desc := "()Z" } : Jvm.MethodName) prog_10_method_10_code (1 : Nat) (Option.some Jvm.ClassFile.FieldType.boolean)) ∈ sm_WS := sm_mw sm_t2 173 rfl rfl
theorem mw_414 : (Jvm.Cond.methodLink "StreamMarks$Scanner" (136 : Nat) ({ cls := "StreamMarks$Scanner", name := "told2", desc := "(I)I" } : Jvm.MethodName)) ∈ sm_WS := sm_mw sm_t2 174 rfl rfl
theorem mw_416 : (Jvm.Cond.instanceMethod ({ cls := "StreamMarks$Scanner", name := "told2", desc := "(I)I" } : Jvm.MethodName)) ∈ sm_WS := sm_mw sm_t2 176 rfl rfl
theorem mw_417 : (Jvm.Cond.code ({ cls := "StreamMarks$Scanner", name := "told2", desc := "(I)I" } : Jvm.MethodName) prog_10_method_30_code (2 : Nat) (Option.some Jvm.ClassFile.FieldType.int)) ∈ sm_WS := sm_mw sm_t2 177 rfl rfl
theorem mw_418 : (Jvm.Cond.methodLink "StreamMarks$Scanner" (139 : Nat) ({ cls := "StreamMarks$Scanner", name := "told", desc := "(I)I" } : Jvm.MethodName)) ∈ sm_WS := sm_mw sm_t2 178 rfl rfl
theorem mw_420 : (Jvm.Cond.instanceMethod ({ cls := "StreamMarks$Scanner", name := "told", desc := "(I)I" } : Jvm.MethodName)) ∈ sm_WS := sm_mw sm_t2 180 rfl rfl
theorem mw_421 : (Jvm.Cond.code ({ cls := "StreamMarks$Scanner", name := "told", desc := "(I)I" } : Jvm.MethodName) prog_10_method_29_code (2 : Nat) (Option.some Jvm.ClassFile.FieldType.int)) ∈ sm_WS := sm_mw sm_t2 181 rfl rfl
theorem mw_422 : (Jvm.Cond.methodLink "StreamMarks$Scanner" (142 : Nat) ({ cls := "StreamMarks$Scanner", name := "precinctBytes", desc := "(II)I" } : Jvm.MethodName)) ∈ sm_WS := sm_mw sm_t2 182 rfl rfl
theorem mw_423 : (Jvm.Cond.static ({ cls := "StreamMarks$Scanner", name := "precinctBytes", desc := "(II)I" } : Jvm.MethodName)) ∈ sm_WS := sm_mw sm_t2 183 rfl rfl
theorem mw_424 : (Jvm.Cond.code ({ cls := "StreamMarks$Scanner", name := "precinctBytes", desc := "(II)I" } : Jvm.MethodName) prog_10_method_11_code (2 : Nat) (Option.some Jvm.ClassFile.FieldType.int)) ∈ sm_WS := sm_mw sm_t2 184 rfl rfl
theorem mw_425 : (Jvm.Cond.methodLink "StreamMarks$Scanner" (146 : Nat) ({ cls := "StreamMarks$Scanner", name := "hasLengthOfSteps", desc := "(I)Z" } : Jvm.MethodName)) ∈ sm_WS := sm_mw sm_t2 185 rfl rfl
theorem mw_427 : (Jvm.Cond.instanceMethod ({ cls := "StreamMarks$Scanner", name := "hasLengthOfSteps", desc := "(I)Z" } : Jvm.MethodName)) ∈ sm_WS := sm_mw sm_t2 187 rfl rfl
theorem mw_428 : (Jvm.Cond.code ({ cls := "StreamMarks$Scanner", name := "hasLengthOfSteps", desc := "(I)Z" } : Jvm.MethodName) prog_10_method_12_code (3 : Nat) (Option.some Jvm.ClassFile.FieldType.boolean)) ∈ sm_WS := sm_mw sm_t2 188 rfl rfl
theorem mw_429 : (Jvm.Cond.methodLink "StreamMarks$Scanner" (150 : Nat) ({ cls := "StreamMarks$Scanner", name := "isCountOfSteps", desc := "(I)Z" } : Jvm.MethodName)) ∈ sm_WS := sm_mw sm_t2 189 rfl rfl
theorem mw_430 : (Jvm.Cond.static ({ cls := "StreamMarks$Scanner", name := "isCountOfSteps", desc := "(I)Z" } : Jvm.MethodName)) ∈ sm_WS := sm_mw sm_t2 190 rfl rfl
theorem mw_431 : (Jvm.Cond.code ({ cls := "StreamMarks$Scanner", name := "isCountOfSteps", desc := "(I)Z" } : Jvm.MethodName) prog_10_method_13_code (1 : Nat) (Option.some Jvm.ClassFile.FieldType.boolean)) ∈ sm_WS := sm_mw sm_t2 191 rfl rfl
theorem mw_432 : (Jvm.Cond.methodLink "StreamMarks$Scanner" (88 : Nat) ({ cls := "StreamMarks$Scanner", name := "isGreat", desc := "()Z" } : Jvm.MethodName)) ∈ sm_WS := sm_mw sm_t2 192 rfl rfl
theorem mw_434 : (Jvm.Cond.instanceMethod ({ cls := "StreamMarks$Scanner", name := "isGreat", desc := "()Z" } : Jvm.MethodName)) ∈ sm_WS := sm_mw sm_t2 194 rfl rfl
theorem mw_435 : (Jvm.Cond.code ({ cls := "StreamMarks$Scanner", name := "isGreat", desc := "()Z" } : Jvm.MethodName) prog_10_method_14_code (1 : Nat) (Option.some Jvm.ClassFile.FieldType.boolean)) ∈ sm_WS := sm_mw sm_t2 195 rfl rfl
theorem mw_436 : (Jvm.Cond.methodLink "StreamMarks$Scanner" (153 : Nat) ({ cls := "StreamMarks$Scanner", name := "hasArea", desc := "()Z" } : Jvm.MethodName)) ∈ sm_WS := sm_mw sm_t2 196 rfl rfl
theorem mw_438 : (Jvm.Cond.instanceMethod ({ cls := "StreamMarks$Scanner", name := "hasArea", desc := "()Z" } : Jvm.MethodName)) ∈ sm_WS := sm_mw sm_t2 198 rfl rfl
theorem mw_439 : (Jvm.Cond.code ({ cls := "StreamMarks$Scanner", name := "hasArea", desc := "()Z" } : Jvm.MethodName) prog_10_method_16_code (5 : Nat) (Option.some Jvm.ClassFile.FieldType.boolean)) ∈ sm_WS := sm_mw sm_t2 199 rfl rfl
theorem mw_440 : (Jvm.Cond.methodLink "StreamMarks$Scanner" (200 : Nat) ({ cls := "StreamMarks$Row", name := "u4", desc := "(I)J" } : Jvm.MethodName)) ∈ sm_WS := sm_mw sm_t2 200 rfl rfl
theorem mw_441 : (Jvm.Cond.instanceMethod ({ cls := "StreamMarks$Row", name := "u4", desc := "(I)J" } : Jvm.MethodName)) ∈ sm_WS := sm_mw sm_t2 201 rfl rfl
theorem mw_442 : (Jvm.Cond.selects "StreamMarks$Row" ({ cls := "StreamMarks$Row", name := "u4", desc := "(I)J" } : Jvm.MethodName) ({ cls := "StreamMarks$Row", name := "u4", desc := "(I)J" } : Jvm.MethodName)) ∈ sm_WS := sm_mw sm_t2 202 rfl rfl
theorem mw_443 : (Jvm.Cond.code ({ cls := "StreamMarks$Row", name := "u4", desc := "(I)J" } : Jvm.MethodName) prog_8_method_5_code (2 : Nat) (Option.some Jvm.ClassFile.FieldType.long)) ∈ sm_WS := sm_mw sm_t2 203 rfl rfl
theorem mw_444 : (Jvm.Cond.methodLink "StreamMarks$Row" (19 : Nat) ({ cls := "StreamMarks$Row", name := "u2", desc := "(I)I" } : Jvm.MethodName)) ∈ sm_WS := sm_mw sm_t2 204 rfl rfl
theorem mw_445 : (Jvm.Cond.methodLink "StreamMarks$Scanner" (204 : Nat) ({ cls := "StreamMarks$Rules", name := "isPicture", desc := "(JJJJ)Z" } : Jvm.MethodName)) ∈ sm_WS := sm_mw sm_t2 205 rfl rfl
theorem mw_446 : (Jvm.Cond.static ({ cls := "StreamMarks$Rules", name := "isPicture", desc := "(JJJJ)Z" } : Jvm.MethodName)) ∈ sm_WS := sm_mw sm_t2 206 rfl rfl
theorem mw_447 : (Jvm.Cond.code ({ cls := "StreamMarks$Rules", name := "isPicture", desc := "(JJJJ)Z" } : Jvm.MethodName) prog_9_method_2_code (8 : Nat) (Option.some Jvm.ClassFile.FieldType.boolean)) ∈ sm_WS := sm_mw sm_t2 207 rfl rfl
theorem mw_448 : (Jvm.Cond.constantLong "StreamMarks$Rules" (9 : Nat) (2147483647 : Int64)) ∈ sm_WS := sm_mw sm_t2 208 rfl rfl
theorem mw_449 : (Jvm.Cond.methodLink "StreamMarks$Scanner" (208 : Nat) ({ cls := "StreamMarks$Rules", name := "isTiling", desc := "(JJJJJJ)Z" } : Jvm.MethodName)) ∈ sm_WS := sm_mw sm_t2 209 rfl rfl
theorem mw_450 : (Jvm.Cond.static ({ cls := "StreamMarks$Rules", name := "isTiling", desc := "(JJJJJJ)Z" } : Jvm.MethodName)) ∈ sm_WS := sm_mw sm_t2 210 rfl rfl
theorem mw_451 : (Jvm.Cond.code ({ cls := "StreamMarks$Rules", name := "isTiling", desc := "(JJJJJJ)Z" } : Jvm.MethodName) prog_9_method_3_code (12 : Nat) (Option.some Jvm.ClassFile.FieldType.boolean)) ∈ sm_WS := sm_mw sm_t2 211 rfl rfl
theorem mw_452 : (Jvm.Cond.methodLink "StreamMarks$Rules" (11 : Nat) ({ cls := "StreamMarks$Rules", name := "isTilingAlong", desc := "(JJJ)Z" } : Jvm.MethodName)) ∈ sm_WS := sm_mw sm_t2 212 rfl rfl
theorem mw_453 : (Jvm.Cond.static ({ cls := "StreamMarks$Rules", name := "isTilingAlong", desc := "(JJJ)Z" } : Jvm.MethodName)) ∈ sm_WS := sm_mw sm_t2 213 rfl rfl
theorem mw_454 : (Jvm.Cond.code ({ cls := "StreamMarks$Rules", name := "isTilingAlong", desc := "(JJJ)Z" } : Jvm.MethodName) prog_9_method_4_code (6 : Nat) (Option.some Jvm.ClassFile.FieldType.boolean)) ∈ sm_WS := sm_mw sm_t2 214 rfl rfl
theorem mw_455 : (Jvm.Cond.methodLink "StreamMarks$Scanner" (156 : Nat) ({ cls := "StreamMarks$Scanner", name := "toldTiles", desc := "()J" } : Jvm.MethodName)) ∈ sm_WS := sm_mw sm_t2 215 rfl rfl
theorem mw_457 : (Jvm.Cond.instanceMethod ({ cls := "StreamMarks$Scanner", name := "toldTiles", desc := "()J" } : Jvm.MethodName)) ∈ sm_WS := sm_mw sm_t2 217 rfl rfl
theorem mw_458 : (Jvm.Cond.code ({ cls := "StreamMarks$Scanner", name := "toldTiles", desc := "()J" } : Jvm.MethodName) prog_10_method_17_code (1 : Nat) (Option.some Jvm.ClassFile.FieldType.long)) ∈ sm_WS := sm_mw sm_t2 218 rfl rfl
theorem mw_459 : (Jvm.Cond.methodLink "StreamMarks$Scanner" (212 : Nat) ({ cls := "StreamMarks$Rules", name := "countTiles", desc := "(JJJJJJ)J" } : Jvm.MethodName)) ∈ sm_WS := sm_mw sm_t2 219 rfl rfl
theorem mw_460 : (Jvm.Cond.static ({ cls := "StreamMarks$Rules", name := "countTiles", desc := "(JJJJJJ)J" } : Jvm.MethodName)) ∈ sm_WS := sm_mw sm_t2 220 rfl rfl
theorem mw_461 : (Jvm.Cond.code ({ cls := "StreamMarks$Rules", name := "countTiles", desc := "(JJJJJJ)J" } : Jvm.MethodName) prog_9_method_5_code (12 : Nat) (Option.some Jvm.ClassFile.FieldType.long)) ∈ sm_WS := sm_mw sm_t2 221 rfl rfl
theorem mw_462 : (Jvm.Cond.methodLink "StreamMarks$Rules" (17 : Nat) ({ cls := "StreamMarks$Rules", name := "countAlong", desc := "(JJJ)J" } : Jvm.MethodName)) ∈ sm_WS := sm_mw sm_t2 222 rfl rfl
theorem mw_463 : (Jvm.Cond.static ({ cls := "StreamMarks$Rules", name := "countAlong", desc := "(JJJ)J" } : Jvm.MethodName)) ∈ sm_WS := sm_mw sm_t2 223 rfl rfl
theorem mw_464 : (Jvm.Cond.code ({ cls := "StreamMarks$Rules", name := "countAlong", desc := "(JJJ)J" } : Jvm.MethodName) prog_9_method_6_code (6 : Nat) (Option.some Jvm.ClassFile.FieldType.long)) ∈ sm_WS := sm_mw sm_t2 224 rfl rfl
theorem mw_465 : (Jvm.Cond.constantLong "StreamMarks$Scanner" (160 : Nat) (64 : Int64)) ∈ sm_WS := sm_mw sm_t2 225 rfl rfl
theorem mw_466 : (Jvm.Cond.methodLink "StreamMarks$Scanner" (91 : Nat) ({ cls := "StreamMarks$Scanner", name := "hasValues", desc := "()Z" } : Jvm.MethodName)) ∈ sm_WS := sm_mw sm_t2 226 rfl rfl
theorem mw_468 : (Jvm.Cond.instanceMethod ({ cls := "StreamMarks$Scanner", name := "hasValues", desc := "()Z" } : Jvm.MethodName)) ∈ sm_WS := sm_mw sm_t2 228 rfl rfl
theorem mw_469 : (Jvm.Cond.code ({ cls := "StreamMarks$Scanner", name := "hasValues", desc := "()Z" } : Jvm.MethodName) prog_10_method_15_code (1 : Nat) (Option.some Jvm.ClassFile.FieldType.boolean)) ∈ sm_WS := sm_mw sm_t2 229 rfl rfl
theorem mw_470 : (Jvm.Cond.methodLink "StreamMarks$Scanner" (163 : Nat) ({ cls := "StreamMarks$Scanner", name := "hasComponents", desc := "()Z" } : Jvm.MethodName)) ∈ sm_WS := sm_mw sm_t2 230 rfl rfl
theorem mw_472 : (Jvm.Cond.instanceMethod ({ cls := "StreamMarks$Scanner", name := "hasComponents", desc := "()Z" } : Jvm.MethodName)) ∈ sm_WS := sm_mw sm_t2 232 rfl rfl
theorem mw_473 : (Jvm.Cond.code ({ cls := "StreamMarks$Scanner", name := "hasComponents", desc := "()Z" } : Jvm.MethodName) prog_10_method_18_code (4 : Nat) (Option.some Jvm.ClassFile.FieldType.boolean)) ∈ sm_WS := sm_mw sm_t2 233 rfl rfl
theorem mw_474 : (Jvm.Cond.methodLink "StreamMarks$Scanner" (216 : Nat) ({ cls := "StreamMarks$Rules", name := "isComponent", desc := "(III)Z" } : Jvm.MethodName)) ∈ sm_WS := sm_mw sm_t2 234 rfl rfl
theorem mw_475 : (Jvm.Cond.static ({ cls := "StreamMarks$Rules", name := "isComponent", desc := "(III)Z" } : Jvm.MethodName)) ∈ sm_WS := sm_mw sm_t2 235 rfl rfl
theorem mw_476 : (Jvm.Cond.code ({ cls := "StreamMarks$Rules", name := "isComponent", desc := "(III)Z" } : Jvm.MethodName) prog_9_method_7_code (3 : Nat) (Option.some Jvm.ClassFile.FieldType.boolean)) ∈ sm_WS := sm_mw sm_t2 236 rfl rfl
theorem mw_477 : (Jvm.Cond.methodLink "StreamMarks$Scanner" (166 : Nat) ({ cls := "StreamMarks$Rules", name := "isOrder", desc := "(I)Z" } : Jvm.MethodName)) ∈ sm_WS := sm_mw sm_t2 237 rfl rfl
theorem mw_478 : (Jvm.Cond.static ({ cls := "StreamMarks$Rules", name := "isOrder", desc := "(I)Z" } : Jvm.MethodName)) ∈ sm_WS := sm_mw sm_t2 238 rfl rfl
theorem mw_479 : (Jvm.Cond.code ({ cls := "StreamMarks$Rules", name := "isOrder", desc := "(I)Z" } : Jvm.MethodName) prog_9_method_8_code (1 : Nat) (Option.some Jvm.ClassFile.FieldType.boolean)) ∈ sm_WS := sm_mw sm_t2 239 rfl rfl
theorem mw_480 : (Jvm.Cond.methodLink "StreamMarks$Scanner" (171 : Nat) ({ cls := "StreamMarks$Scanner", name := "hasBody", desc := "(IZ)Z" } : Jvm.MethodName)) ∈ sm_WS := sm_mw sm_t3 0 rfl rfl
theorem mw_482 : (Jvm.Cond.instanceMethod ({ cls := "StreamMarks$Scanner", name := "hasBody", desc := "(IZ)Z" } : Jvm.MethodName)) ∈ sm_WS := sm_mw sm_t3 2 rfl rfl
theorem mw_483 : (Jvm.Cond.code ({ cls := "StreamMarks$Scanner", name := "hasBody", desc := "(IZ)Z" } : Jvm.MethodName) prog_10_method_19_code (6 : Nat) (Option.some Jvm.ClassFile.FieldType.boolean)) ∈ sm_WS := sm_mw sm_t3 3 rfl rfl
theorem mw_484 : (Jvm.Cond.methodLink "StreamMarks$Scanner" (219 : Nat) ({ cls := "StreamMarks$Rules", name := "isCoding", desc := "(IIII)Z" } : Jvm.MethodName)) ∈ sm_WS := sm_mw sm_t3 4 rfl rfl
theorem mw_485 : (Jvm.Cond.static ({ cls := "StreamMarks$Rules", name := "isCoding", desc := "(IIII)Z" } : Jvm.MethodName)) ∈ sm_WS := sm_mw sm_t3 5 rfl rfl
theorem mw_486 : (Jvm.Cond.code ({ cls := "StreamMarks$Rules", name := "isCoding", desc := "(IIII)Z" } : Jvm.MethodName) prog_9_method_9_code (4 : Nat) (Option.some Jvm.ClassFile.FieldType.boolean)) ∈ sm_WS := sm_mw sm_t3 6 rfl rfl
theorem mw_487 : (Jvm.Cond.methodLink "StreamMarks$Scanner" (223 : Nat) ({ cls := "StreamMarks$Rules", name := "isPrecinct", desc := "(III)Z" } : Jvm.MethodName)) ∈ sm_WS := sm_mw sm_t3 7 rfl rfl
theorem mw_488 : (Jvm.Cond.static ({ cls := "StreamMarks$Rules", name := "isPrecinct", desc := "(III)Z" } : Jvm.MethodName)) ∈ sm_WS := sm_mw sm_t3 8 rfl rfl
theorem mw_489 : (Jvm.Cond.code ({ cls := "StreamMarks$Rules", name := "isPrecinct", desc := "(III)Z" } : Jvm.MethodName) prog_9_method_10_code (4 : Nat) (Option.some Jvm.ClassFile.FieldType.boolean)) ∈ sm_WS := sm_mw sm_t3 9 rfl rfl
theorem mw_490 : (Jvm.Cond.methodLink "StreamMarks$Scanner" (175 : Nat) ({ cls := "StreamMarks$Rules", name := "isStepping", desc := "(II)Z" } : Jvm.MethodName)) ∈ sm_WS := sm_mw sm_t3 10 rfl rfl
theorem mw_491 : (Jvm.Cond.static ({ cls := "StreamMarks$Rules", name := "isStepping", desc := "(II)Z" } : Jvm.MethodName)) ∈ sm_WS := sm_mw sm_t3 11 rfl rfl
theorem mw_492 : (Jvm.Cond.code ({ cls := "StreamMarks$Rules", name := "isStepping", desc := "(II)Z" } : Jvm.MethodName) prog_9_method_11_code (2 : Nat) (Option.some Jvm.ClassFile.FieldType.boolean)) ∈ sm_WS := sm_mw sm_t3 12 rfl rfl
theorem mw_493 : (Jvm.Cond.methodLink "StreamMarks$Scanner" (179 : Nat) ({ cls := "StreamMarks$Rules", name := "isShift", desc := "(I)Z" } : Jvm.MethodName)) ∈ sm_WS := sm_mw sm_t3 13 rfl rfl
theorem mw_494 : (Jvm.Cond.static ({ cls := "StreamMarks$Rules", name := "isShift", desc := "(I)Z" } : Jvm.MethodName)) ∈ sm_WS := sm_mw sm_t3 14 rfl rfl
theorem mw_495 : (Jvm.Cond.code ({ cls := "StreamMarks$Rules", name := "isShift", desc := "(I)Z" } : Jvm.MethodName) prog_9_method_12_code (1 : Nat) (Option.some Jvm.ClassFile.FieldType.boolean)) ∈ sm_WS := sm_mw sm_t3 15 rfl rfl
theorem mw_496 : (Jvm.Cond.methodLink "StreamMarks$Scanner" (182 : Nat) ({ cls := "StreamMarks$Scanner", name := "hasChanges", desc := "()Z" } : Jvm.MethodName)) ∈ sm_WS := sm_mw sm_t3 16 rfl rfl
theorem mw_498 : (Jvm.Cond.instanceMethod ({ cls := "StreamMarks$Scanner", name := "hasChanges", desc := "()Z" } : Jvm.MethodName)) ∈ sm_WS := sm_mw sm_t3 18 rfl rfl
theorem mw_499 : (Jvm.Cond.code ({ cls := "StreamMarks$Scanner", name := "hasChanges", desc := "()Z" } : Jvm.MethodName) prog_10_method_20_code (5 : Nat) (Option.some Jvm.ClassFile.FieldType.boolean)) ∈ sm_WS := sm_mw sm_t3 19 rfl rfl
theorem mw_500 : (Jvm.Cond.methodLink "StreamMarks$Scanner" (226 : Nat) ({ cls := "StreamMarks$Rules", name := "isChange", desc := "(IIIIII)Z" } : Jvm.MethodName)) ∈ sm_WS := sm_mw sm_t3 20 rfl rfl
theorem mw_501 : (Jvm.Cond.static ({ cls := "StreamMarks$Rules", name := "isChange", desc := "(IIIIII)Z" } : Jvm.MethodName)) ∈ sm_WS := sm_mw sm_t3 21 rfl rfl
theorem mw_502 : (Jvm.Cond.code ({ cls := "StreamMarks$Rules", name := "isChange", desc := "(IIIIII)Z" } : Jvm.MethodName) prog_9_method_13_code (6 : Nat) (Option.some Jvm.ClassFile.FieldType.boolean)) ∈ sm_WS := sm_mw sm_t3 22 rfl rfl
theorem mw_503 : (Jvm.Cond.methodLink "StreamMarks$Rules" (21 : Nat) ({ cls := "StreamMarks$Rules", name := "isOrder", desc := "(I)Z" } : Jvm.MethodName)) ∈ sm_WS := sm_mw sm_t3 23 rfl rfl
theorem mw_504 : (Jvm.Cond.methodLink "StreamMarks$Scanner" (188 : Nat) ({ cls := "StreamMarks$Parts", name := "headSegmentsOf", desc := "(I)I" } : Jvm.MethodName)) ∈ sm_WS := sm_mw sm_t3 24 rfl rfl
theorem mw_505 : (Jvm.Cond.instanceMethod ({ cls := "StreamMarks$Parts", name := "headSegmentsOf", desc := "(I)I" } : Jvm.MethodName)) ∈ sm_WS := sm_mw sm_t3 25 rfl rfl
theorem mw_506 : (Jvm.Cond.selects "StreamMarks$Parts" ({ cls := "StreamMarks$Parts", name := "headSegmentsOf", desc := "(I)I" } : Jvm.MethodName) ({ cls := "StreamMarks$Parts", name := "headSegmentsOf", desc := "(I)I" } : Jvm.MethodName)) ∈ sm_WS := sm_mw sm_t3 26 rfl rfl
theorem mw_507 : (Jvm.Cond.code ({ cls := "StreamMarks$Parts", name := "headSegmentsOf", desc := "(I)I" } : Jvm.MethodName) prog_5_method_9_code (2 : Nat) (Option.some Jvm.ClassFile.FieldType.int)) ∈ sm_WS := sm_mw sm_t3 27 rfl rfl
theorem mw_508 : (Jvm.Cond.methodLink "StreamMarks$Parts" (34 : Nat) ({ cls := "StreamMarks$Parts", name := "isTile", desc := "(I)Z" } : Jvm.MethodName)) ∈ sm_WS := sm_mw sm_t3 28 rfl rfl
theorem mw_509 : (Jvm.Cond.static ({ cls := "StreamMarks$Parts", name := "isTile", desc := "(I)Z" } : Jvm.MethodName)) ∈ sm_WS := sm_mw sm_t3 29 rfl rfl
theorem mw_510 : (Jvm.Cond.code ({ cls := "StreamMarks$Parts", name := "isTile", desc := "(I)Z" } : Jvm.MethodName) prog_5_method_5_code (1 : Nat) (Option.some Jvm.ClassFile.FieldType.boolean)) ∈ sm_WS := sm_mw sm_t3 30 rfl rfl
theorem mw_511 : (Jvm.Cond.methodLink "StreamMarks$Scanner" (191 : Nat) ({ cls := "StreamMarks$Scanner", name := "span", desc := "()J" } : Jvm.MethodName)) ∈ sm_WS := sm_mw sm_t3 31 rfl rfl
theorem mw_513 : (Jvm.Cond.instanceMethod ({ cls := "StreamMarks$Scanner", name := "span", desc := "()J" } : Jvm.MethodName)) ∈ sm_WS := sm_mw sm_t3 33 rfl rfl
theorem mw_514 : (Jvm.Cond.code ({ cls := "StreamMarks$Scanner", name := "span", desc := "()J" } : Jvm.MethodName) prog_10_method_31_code (1 : Nat) (Option.some Jvm.ClassFile.FieldType.long)) ∈ sm_WS := sm_mw sm_t3 34 rfl rfl
theorem mw_515 : (Jvm.Cond.constantLong "StreamMarks$Scanner" (194 : Nat) (14 : Int64)) ∈ sm_WS := sm_mw sm_t3 35 rfl rfl
theorem mw_516 : (Jvm.Cond.methodLink "StreamMarks$Scanner" (196 : Nat) ({ cls := "StreamMarks$Parts", name := "mayFollow", desc := "(III)Z" } : Jvm.MethodName)) ∈ sm_WS := sm_mw sm_t3 36 rfl rfl
theorem mw_517 : (Jvm.Cond.instanceMethod ({ cls := "StreamMarks$Parts", name := "mayFollow", desc := "(III)Z" } : Jvm.MethodName)) ∈ sm_WS := sm_mw sm_t3 37 rfl rfl
theorem mw_518 : (Jvm.Cond.selects "StreamMarks$Parts" ({ cls := "StreamMarks$Parts", name := "mayFollow", desc := "(III)Z" } : Jvm.MethodName) ({ cls := "StreamMarks$Parts", name := "mayFollow", desc := "(III)Z" } : Jvm.MethodName)) ∈ sm_WS := sm_mw sm_t3 38 rfl rfl
theorem mw_519 : (Jvm.Cond.code ({ cls := "StreamMarks$Parts", name := "mayFollow", desc := "(III)Z" } : Jvm.MethodName) prog_5_method_6_code (4 : Nat) (Option.some Jvm.ClassFile.FieldType.boolean)) ∈ sm_WS := sm_mw sm_t3 39 rfl rfl
theorem mw_520 : (Jvm.Cond.methodLink "StreamMarks$Scanner" (94 : Nat) ({ cls := "StreamMarks$Scanner", name := "owner", desc := "()I" } : Jvm.MethodName)) ∈ sm_WS := sm_mw sm_t3 40 rfl rfl
theorem mw_522 : (Jvm.Cond.instanceMethod ({ cls := "StreamMarks$Scanner", name := "owner", desc := "()I" } : Jvm.MethodName)) ∈ sm_WS := sm_mw sm_t3 42 rfl rfl
theorem mw_523 : (Jvm.Cond.code ({ cls := "StreamMarks$Scanner", name := "owner", desc := "()I" } : Jvm.MethodName) prog_10_method_27_code (1 : Nat) (Option.some Jvm.ClassFile.FieldType.int)) ∈ sm_WS := sm_mw sm_t3 43 rfl rfl
theorem mw_524 : (Jvm.Cond.methodLink "StreamMarks$Scanner" (250 : Nat) ({ cls := "StreamMarks$Places", name := "ownerOf", desc := "(I)I" } : Jvm.MethodName)) ∈ sm_WS := sm_mw sm_t3 44 rfl rfl
theorem mw_525 : (Jvm.Cond.static ({ cls := "StreamMarks$Places", name := "ownerOf", desc := "(I)I" } : Jvm.MethodName)) ∈ sm_WS := sm_mw sm_t3 45 rfl rfl
theorem mw_526 : (Jvm.Cond.code ({ cls := "StreamMarks$Places", name := "ownerOf", desc := "(I)I" } : Jvm.MethodName) prog_6_method_2_code (1 : Nat) (Option.some Jvm.ClassFile.FieldType.int)) ∈ sm_WS := sm_mw sm_t3 46 rfl rfl
theorem mw_527 : (Jvm.Cond.methodLink "StreamMarks$Scanner" (100 : Nat) ({ cls := "StreamMarks$Scanner", name := "toldComponent", desc := "()I" } : Jvm.MethodName)) ∈ sm_WS := sm_mw sm_t3 47 rfl rfl
theorem mw_529 : (Jvm.Cond.instanceMethod ({ cls := "StreamMarks$Scanner", name := "toldComponent", desc := "()I" } : Jvm.MethodName)) ∈ sm_WS := sm_mw sm_t3 49 rfl rfl
theorem mw_530 : (Jvm.Cond.code ({ cls := "StreamMarks$Scanner", name := "toldComponent", desc := "()I" } : Jvm.MethodName) prog_10_method_28_code (1 : Nat) (Option.some Jvm.ClassFile.FieldType.int)) ∈ sm_WS := sm_mw sm_t3 50 rfl rfl
theorem mw_531 : (Jvm.Cond.methodLink "StreamMarks$Scanner" (103 : Nat) ({ cls := "StreamMarks$Places", name := "startOf", desc := "(III)I" } : Jvm.MethodName)) ∈ sm_WS := sm_mw sm_t3 51 rfl rfl
theorem mw_532 : (Jvm.Cond.instanceMethod ({ cls := "StreamMarks$Places", name := "startOf", desc := "(III)I" } : Jvm.MethodName)) ∈ sm_WS := sm_mw sm_t3 52 rfl rfl
theorem mw_533 : (Jvm.Cond.selects "StreamMarks$Places" ({ cls := "StreamMarks$Places", name := "startOf", desc := "(III)I" } : Jvm.MethodName) ({ cls := "StreamMarks$Places", name := "startOf", desc := "(III)I" } : Jvm.MethodName)) ∈ sm_WS := sm_mw sm_t3 53 rfl rfl
theorem mw_534 : (Jvm.Cond.code ({ cls := "StreamMarks$Places", name := "startOf", desc := "(III)I" } : Jvm.MethodName) prog_6_method_5_code (5 : Nat) (Option.some Jvm.ClassFile.FieldType.int)) ∈ sm_WS := sm_mw sm_t3 54 rfl rfl
theorem mw_535 : (Jvm.Cond.methodLink "StreamMarks$Places" (15 : Nat) ({ cls := "StreamMarks$Places", name := "indexOf", desc := "(III)I" } : Jvm.MethodName)) ∈ sm_WS := sm_mw sm_t3 55 rfl rfl
theorem mw_536 : (Jvm.Cond.static ({ cls := "StreamMarks$Places", name := "indexOf", desc := "(III)I" } : Jvm.MethodName)) ∈ sm_WS := sm_mw sm_t3 56 rfl rfl
theorem mw_537 : (Jvm.Cond.code ({ cls := "StreamMarks$Places", name := "indexOf", desc := "(III)I" } : Jvm.MethodName) prog_6_method_6_code (4 : Nat) (Option.some Jvm.ClassFile.FieldType.int)) ∈ sm_WS := sm_mw sm_t3 57 rfl rfl
theorem mw_538 : (Jvm.Cond.methodLink "StreamMarks$Scanner" (107 : Nat) ({ cls := "StreamMarks$Scanner", name := "spanIsCut", desc := "()Z" } : Jvm.MethodName)) ∈ sm_WS := sm_mw sm_t3 58 rfl rfl
theorem mw_540 : (Jvm.Cond.instanceMethod ({ cls := "StreamMarks$Scanner", name := "spanIsCut", desc := "()Z" } : Jvm.MethodName)) ∈ sm_WS := sm_mw sm_t3 60 rfl rfl
theorem mw_541 : (Jvm.Cond.code ({ cls := "StreamMarks$Scanner", name := "spanIsCut", desc := "()Z" } : Jvm.MethodName) prog_10_method_21_code (2 : Nat) (Option.some Jvm.ClassFile.FieldType.boolean)) ∈ sm_WS := sm_mw sm_t3 61 rfl rfl
theorem mw_542 : (Jvm.Cond.methodLink "StreamMarks$Scanner" (110 : Nat) ({ cls := "StreamMarks$Scanner", name := "isMissing", desc := "()Z" } : Jvm.MethodName)) ∈ sm_WS := sm_mw sm_t3 62 rfl rfl
theorem mw_544 : (Jvm.Cond.instanceMethod ({ cls := "StreamMarks$Scanner", name := "isMissing", desc := "()Z" } : Jvm.MethodName)) ∈ sm_WS := sm_mw sm_t3 64 rfl rfl
theorem mw_545 : (Jvm.Cond.code ({ cls := "StreamMarks$Scanner", name := "isMissing", desc := "()Z" } : Jvm.MethodName) prog_10_method_22_code (2 : Nat) (Option.some Jvm.ClassFile.FieldType.boolean)) ∈ sm_WS := sm_mw sm_t3 65 rfl rfl
theorem mw_546 : (Jvm.Cond.methodLink "StreamMarks$Scanner" (230 : Nat) ({ cls := "StreamMarks$Parts", name := "areComplete", desc := "(I)Z" } : Jvm.MethodName)) ∈ sm_WS := sm_mw sm_t3 66 rfl rfl
theorem mw_547 : (Jvm.Cond.instanceMethod ({ cls := "StreamMarks$Parts", name := "areComplete", desc := "(I)Z" } : Jvm.MethodName)) ∈ sm_WS := sm_mw sm_t3 67 rfl rfl
theorem mw_548 : (Jvm.Cond.selects "StreamMarks$Parts" ({ cls := "StreamMarks$Parts", name := "areComplete", desc := "(I)Z" } : Jvm.MethodName) ({ cls := "StreamMarks$Parts", name := "areComplete", desc := "(I)Z" } : Jvm.MethodName)) ∈ sm_WS := sm_mw sm_t3 68 rfl rfl
theorem mw_549 : (Jvm.Cond.code ({ cls := "StreamMarks$Parts", name := "areComplete", desc := "(I)Z" } : Jvm.MethodName) prog_5_method_12_code (3 : Nat) (Option.some Jvm.ClassFile.FieldType.boolean)) ∈ sm_WS := sm_mw sm_t3 69 rfl rfl
theorem mw_550 : (Jvm.Cond.methodLink "StreamMarks$Scanner" (47 : Nat) ({ cls := "StreamMarks$Scanner", name := "takeMark", desc := "()V" } : Jvm.MethodName)) ∈ sm_WS := sm_mw sm_t3 70 rfl rfl
theorem mw_552 : (Jvm.Cond.instanceMethod ({ cls := "StreamMarks$Scanner", name := "takeMark", desc := "()V" } : Jvm.MethodName)) ∈ sm_WS := sm_mw sm_t3 72 rfl rfl
theorem mw_553 : (Jvm.Cond.code ({ cls := "StreamMarks$Scanner", name := "takeMark", desc := "()V" } : Jvm.MethodName) prog_10_method_23_code (2 : Nat) (Option.none : Option Jvm.ClassFile.FieldType)) ∈ sm_WS := sm_mw sm_t3 73 rfl rfl
theorem mw_554 : (Jvm.Cond.methodLink "StreamMarks$Scanner" (233 : Nat) ({ cls := "StreamMarks$Scanner", name := "takePart", desc := "()V" } : Jvm.MethodName)) ∈ sm_WS := sm_mw sm_t3 74 rfl rfl
theorem mw_556 : (Jvm.Cond.instanceMethod ({ cls := "StreamMarks$Scanner", name := "takePart", desc := "()V" } : Jvm.MethodName)) ∈ sm_WS := sm_mw sm_t3 76 rfl rfl
theorem mw_557 : (Jvm.Cond.code ({ cls := "StreamMarks$Scanner", name := "takePart", desc := "()V" } : Jvm.MethodName) prog_10_method_24_code (1 : Nat) (Option.none : Option Jvm.ClassFile.FieldType)) ∈ sm_WS := sm_mw sm_t3 77 rfl rfl
theorem mw_558 : (Jvm.Cond.methodLink "StreamMarks$Scanner" (246 : Nat) ({ cls := "StreamMarks$Parts", name := "add", desc := "(IIII)V" } : Jvm.MethodName)) ∈ sm_WS := sm_mw sm_t3 78 rfl rfl
theorem mw_559 : (Jvm.Cond.instanceMethod ({ cls := "StreamMarks$Parts", name := "add", desc := "(IIII)V" } : Jvm.MethodName)) ∈ sm_WS := sm_mw sm_t3 79 rfl rfl
theorem mw_560 : (Jvm.Cond.selects "StreamMarks$Parts" ({ cls := "StreamMarks$Parts", name := "add", desc := "(IIII)V" } : Jvm.MethodName) ({ cls := "StreamMarks$Parts", name := "add", desc := "(IIII)V" } : Jvm.MethodName)) ∈ sm_WS := sm_mw sm_t3 80 rfl rfl
theorem mw_561 : (Jvm.Cond.code ({ cls := "StreamMarks$Parts", name := "add", desc := "(IIII)V" } : Jvm.MethodName) prog_5_method_7_code (5 : Nat) (Option.none : Option Jvm.ClassFile.FieldType)) ∈ sm_WS := sm_mw sm_t3 81 rfl rfl
theorem mw_562 : (Jvm.Cond.methodLink "StreamMarks$Parts" (38 : Nat) ({ cls := "StreamMarks$Parts", name := "setNumber", desc := "(III)V" } : Jvm.MethodName)) ∈ sm_WS := sm_mw sm_t3 82 rfl rfl
theorem mw_564 : (Jvm.Cond.instanceMethod ({ cls := "StreamMarks$Parts", name := "setNumber", desc := "(III)V" } : Jvm.MethodName)) ∈ sm_WS := sm_mw sm_t3 84 rfl rfl
theorem mw_565 : (Jvm.Cond.code ({ cls := "StreamMarks$Parts", name := "setNumber", desc := "(III)V" } : Jvm.MethodName) prog_5_method_4_code (5 : Nat) (Option.none : Option Jvm.ClassFile.FieldType)) ∈ sm_WS := sm_mw sm_t3 85 rfl rfl
theorem mw_566 : (Jvm.Cond.methodLink "StreamMarks$Scanner" (236 : Nat) ({ cls := "StreamMarks$Parts", name := "setBytesOfLast", desc := "(II)V" } : Jvm.MethodName)) ∈ sm_WS := sm_mw sm_t3 86 rfl rfl
theorem mw_567 : (Jvm.Cond.instanceMethod ({ cls := "StreamMarks$Parts", name := "setBytesOfLast", desc := "(II)V" } : Jvm.MethodName)) ∈ sm_WS := sm_mw sm_t3 87 rfl rfl
theorem mw_568 : (Jvm.Cond.selects "StreamMarks$Parts" ({ cls := "StreamMarks$Parts", name := "setBytesOfLast", desc := "(II)V" } : Jvm.MethodName) ({ cls := "StreamMarks$Parts", name := "setBytesOfLast", desc := "(II)V" } : Jvm.MethodName)) ∈ sm_WS := sm_mw sm_t3 88 rfl rfl
theorem mw_569 : (Jvm.Cond.code ({ cls := "StreamMarks$Parts", name := "setBytesOfLast", desc := "(II)V" } : Jvm.MethodName) prog_5_method_8_code (3 : Nat) (Option.none : Option Jvm.ClassFile.FieldType)) ∈ sm_WS := sm_mw sm_t3 89 rfl rfl
theorem mw_570 : (Jvm.Cond.methodLink "StreamMarks$Scanner" (240 : Nat) ({ cls := "StreamMarks$Scanner", name := "dealHeads", desc := "()V" } : Jvm.MethodName)) ∈ sm_WS := sm_mw sm_t3 90 rfl rfl
theorem mw_572 : (Jvm.Cond.instanceMethod ({ cls := "StreamMarks$Scanner", name := "dealHeads", desc := "()V" } : Jvm.MethodName)) ∈ sm_WS := sm_mw sm_t3 92 rfl rfl
theorem mw_573 : (Jvm.Cond.code ({ cls := "StreamMarks$Scanner", name := "dealHeads", desc := "()V" } : Jvm.MethodName) prog_10_method_26_code (6 : Nat) (Option.none : Option Jvm.ClassFile.FieldType)) ∈ sm_WS := sm_mw sm_t3 93 rfl rfl
theorem mw_574 : (Jvm.Cond.methodLink "StreamMarks$Scanner" (263 : Nat) ({ cls := "java/lang/Math", name := "min", desc := "(JJ)J" } : Jvm.MethodName)) ∈ sm_WS := sm_mw sm_t3 94 rfl rfl
theorem mw_575 : (Jvm.Cond.static ({ cls := "java/lang/Math", name := "min", desc := "(JJ)J" } : Jvm.MethodName)) ∈ sm_WS := sm_mw sm_t3 95 rfl rfl
theorem mw_576 : (Jvm.Cond.code ({ cls := "java/lang/Math", name := "min", desc := "(JJ)J" } : Jvm.MethodName) prog_19_method_70_code (4 : Nat) (Option.some Jvm.ClassFile.FieldType.long)) ∈ sm_WS := sm_mw sm_t3 96 rfl rfl
theorem mw_577 : (Jvm.Cond.methodLink "StreamMarks$Scanner" (269 : Nat) ({ cls := "StreamMarks$Parts", name := "setHeads", desc := "(III)V" } : Jvm.MethodName)) ∈ sm_WS := sm_mw sm_t3 97 rfl rfl
theorem mw_578 : (Jvm.Cond.instanceMethod ({ cls := "StreamMarks$Parts", name := "setHeads", desc := "(III)V" } : Jvm.MethodName)) ∈ sm_WS := sm_mw sm_t3 98 rfl rfl
theorem mw_579 : (Jvm.Cond.selects "StreamMarks$Parts" ({ cls := "StreamMarks$Parts", name := "setHeads", desc := "(III)V" } : Jvm.MethodName) ({ cls := "StreamMarks$Parts", name := "setHeads", desc := "(III)V" } : Jvm.MethodName)) ∈ sm_WS := sm_mw sm_t3 99 rfl rfl
theorem mw_580 : (Jvm.Cond.code ({ cls := "StreamMarks$Parts", name := "setHeads", desc := "(III)V" } : Jvm.MethodName) prog_5_method_11_code (4 : Nat) (Option.none : Option Jvm.ClassFile.FieldType)) ∈ sm_WS := sm_mw sm_t3 100 rfl rfl
theorem mw_581 : (Jvm.Cond.methodLink "StreamMarks$Scanner" (243 : Nat) ({ cls := "StreamMarks$Scanner", name := "takeSegment", desc := "()V" } : Jvm.MethodName)) ∈ sm_WS := sm_mw sm_t3 101 rfl rfl
theorem mw_583 : (Jvm.Cond.instanceMethod ({ cls := "StreamMarks$Scanner", name := "takeSegment", desc := "()V" } : Jvm.MethodName)) ∈ sm_WS := sm_mw sm_t3 103 rfl rfl
theorem mw_584 : (Jvm.Cond.code ({ cls := "StreamMarks$Scanner", name := "takeSegment", desc := "()V" } : Jvm.MethodName) prog_10_method_25_code (1 : Nat) (Option.none : Option Jvm.ClassFile.FieldType)) ∈ sm_WS := sm_mw sm_t3 104 rfl rfl
theorem mw_585 : (Jvm.Cond.methodLink "StreamMarks$Scanner" (253 : Nat) ({ cls := "StreamMarks$Row", name := "addRange", desc := "(LStreamMarks$Row;II)V" } : Jvm.MethodName)) ∈ sm_WS := sm_mw sm_t3 105 rfl rfl
theorem mw_586 : (Jvm.Cond.instanceMethod ({ cls := "StreamMarks$Row", name := "addRange", desc := "(LStreamMarks$Row;II)V" } : Jvm.MethodName)) ∈ sm_WS := sm_mw sm_t3 106 rfl rfl
theorem mw_587 : (Jvm.Cond.selects "StreamMarks$Row" ({ cls := "StreamMarks$Row", name := "addRange", desc := "(LStreamMarks$Row;II)V" } : Jvm.MethodName) ({ cls := "StreamMarks$Row", name := "addRange", desc := "(LStreamMarks$Row;II)V" } : Jvm.MethodName)) ∈ sm_WS := sm_mw sm_t3 107 rfl rfl
theorem mw_588 : (Jvm.Cond.code ({ cls := "StreamMarks$Row", name := "addRange", desc := "(LStreamMarks$Row;II)V" } : Jvm.MethodName) prog_8_method_13_code (5 : Nat) (Option.none : Option Jvm.ClassFile.FieldType)) ∈ sm_WS := sm_mw sm_t3 108 rfl rfl
theorem mw_589 : (Jvm.Cond.methodLink "StreamMarks$Row" (40 : Nat) ({ cls := "StreamMarks$Row", name := "u1", desc := "(I)I" } : Jvm.MethodName)) ∈ sm_WS := sm_mw sm_t3 109 rfl rfl
theorem mw_590 : (Jvm.Cond.methodLink "StreamMarks$Row" (30 : Nat) ({ cls := "StreamMarks$Row", name := "addU1", desc := "(I)V" } : Jvm.MethodName)) ∈ sm_WS := sm_mw sm_t3 110 rfl rfl
theorem mw_591 : (Jvm.Cond.instanceMethod ({ cls := "StreamMarks$Row", name := "addU1", desc := "(I)V" } : Jvm.MethodName)) ∈ sm_WS := sm_mw sm_t3 111 rfl rfl
theorem mw_592 : (Jvm.Cond.selects "StreamMarks$Row" ({ cls := "StreamMarks$Row", name := "addU1", desc := "(I)V" } : Jvm.MethodName) ({ cls := "StreamMarks$Row", name := "addU1", desc := "(I)V" } : Jvm.MethodName)) ∈ sm_WS := sm_mw sm_t3 112 rfl rfl
theorem mw_593 : (Jvm.Cond.code ({ cls := "StreamMarks$Row", name := "addU1", desc := "(I)V" } : Jvm.MethodName) prog_8_method_8_code (2 : Nat) (Option.none : Option Jvm.ClassFile.FieldType)) ∈ sm_WS := sm_mw sm_t3 113 rfl rfl
theorem mw_594 : (Jvm.Cond.constant "StreamMarks$Row" (23 : Nat) (65536 : Int32)) ∈ sm_WS := sm_mw sm_t3 114 rfl rfl
theorem mw_595 : (Jvm.Cond.methodLink "StreamMarks$Row" (24 : Nat) ({ cls := "java/util/Arrays", name := "copyOf", desc := "([BI)[B" } : Jvm.MethodName)) ∈ sm_WS := sm_mw sm_t3 115 rfl rfl
theorem mw_596 : (Jvm.Cond.static ({ cls := "java/util/Arrays", name := "copyOf", desc := "([BI)[B" } : Jvm.MethodName)) ∈ sm_WS := sm_mw sm_t3 116 rfl rfl
theorem mw_597 : (Jvm.Cond.code ({ cls := "java/util/Arrays", name := "copyOf", desc := "([BI)[B" } : Jvm.MethodName) prog_25_method_121_code (3 : Nat) (Option.some (Jvm.ClassFile.FieldType.array Jvm.ClassFile.FieldType.byte))) ∈ sm_WS := sm_mw sm_t3 117 rfl rfl
theorem mw_598 : (Jvm.Cond.methodLink "java/util/Arrays" (310 : Nat) ({ cls := "[B", name := "clone", desc := "()Ljava/lang/Object;" } : Jvm.MethodName)) ∈ sm_WS := sm_mw sm_t3 118 rfl rfl
theorem mw_601 : (Jvm.Cond.instanceMethod ({ cls := "java/lang/Object", name := "clone", desc := "()Ljava/lang/Object;" } : Jvm.MethodName)) ∈ sm_WS := sm_mw sm_t3 121 rfl rfl
theorem mw_602 : (Jvm.Cond.selects "[B" ({ cls := "[B", name := "clone", desc := "()Ljava/lang/Object;" } : Jvm.MethodName) ({ cls := "java/lang/Object", name := "clone", desc := "()Ljava/lang/Object;" } : Jvm.MethodName)) ∈ sm_WS := sm_mw sm_t3 122 rfl rfl
theorem mn_603 : (Jvm.Cond.castable "[B" "java/lang/Cloneable") ∈ sm_NW := sm_mn sm_t3 123 rfl rfl
theorem mw_604 : (Jvm.Cond.classLink "java/util/Arrays" (311 : Nat) "[B") ∈ sm_WS := sm_mw sm_t3 124 rfl rfl
theorem mw_605 : (Jvm.Cond.methodLink "java/util/Arrays" (304 : Nat) ({ cls := "java/lang/Math", name := "min", desc := "(II)I" } : Jvm.MethodName)) ∈ sm_WS := sm_mw sm_t3 125 rfl rfl
theorem mw_606 : (Jvm.Cond.static ({ cls := "java/lang/Math", name := "min", desc := "(II)I" } : Jvm.MethodName)) ∈ sm_WS := sm_mw sm_t3 126 rfl rfl
theorem mw_607 : (Jvm.Cond.code ({ cls := "java/lang/Math", name := "min", desc := "(II)I" } : Jvm.MethodName) prog_19_method_69_code (2 : Nat) (Option.some Jvm.ClassFile.FieldType.int)) ∈ sm_WS := sm_mw sm_t3 127 rfl rfl
theorem mw_608 : (Jvm.Cond.methodLink "java/util/Arrays" (150 : Nat) ({ cls := "java/lang/System", name := "arraycopy", desc := "(Ljava/lang/Object;ILjava/lang/Object;II)V" } : Jvm.MethodName)) ∈ sm_WS := sm_mw sm_t3 128 rfl rfl
theorem mw_609 : (Jvm.Cond.static ({ cls := "java/lang/System", name := "arraycopy", desc := "(Ljava/lang/Object;ILjava/lang/Object;II)V" } : Jvm.MethodName)) ∈ sm_WS := sm_mw sm_t3 129 rfl rfl
theorem mw_611 : (Jvm.Cond.methodLink "StreamMarks$Scanner" (257 : Nat) ({ cls := "StreamMarks$Parts", name := "addHeadsToLast", desc := "(I)V" } : Jvm.MethodName)) ∈ sm_WS := sm_mw sm_t3 131 rfl rfl
theorem mw_612 : (Jvm.Cond.instanceMethod ({ cls := "StreamMarks$Parts", name := "addHeadsToLast", desc := "(I)V" } : Jvm.MethodName)) ∈ sm_WS := sm_mw sm_t3 132 rfl rfl
theorem mw_613 : (Jvm.Cond.selects "StreamMarks$Parts" ({ cls := "StreamMarks$Parts", name := "addHeadsToLast", desc := "(I)V" } : Jvm.MethodName) ({ cls := "StreamMarks$Parts", name := "addHeadsToLast", desc := "(I)V" } : Jvm.MethodName)) ∈ sm_WS := sm_mw sm_t3 133 rfl rfl
theorem mw_614 : (Jvm.Cond.code ({ cls := "StreamMarks$Parts", name := "addHeadsToLast", desc := "(I)V" } : Jvm.MethodName) prog_5_method_10_code (4 : Nat) (Option.none : Option Jvm.ClassFile.FieldType)) ∈ sm_WS := sm_mw sm_t3 134 rfl rfl
theorem mw_615 : (Jvm.Cond.methodLink "StreamMarks$Parts" (42 : Nat) ({ cls := "StreamMarks$Parts", name := "number", desc := "(II)I" } : Jvm.MethodName)) ∈ sm_WS := sm_mw sm_t3 135 rfl rfl
theorem mw_616 : (Jvm.Cond.instanceMethod ({ cls := "StreamMarks$Parts", name := "number", desc := "(II)I" } : Jvm.MethodName)) ∈ sm_WS := sm_mw sm_t3 136 rfl rfl
theorem mw_617 : (Jvm.Cond.selects "StreamMarks$Parts" ({ cls := "StreamMarks$Parts", name := "number", desc := "(II)I" } : Jvm.MethodName) ({ cls := "StreamMarks$Parts", name := "number", desc := "(II)I" } : Jvm.MethodName)) ∈ sm_WS := sm_mw sm_t3 137 rfl rfl
theorem mw_618 : (Jvm.Cond.code ({ cls := "StreamMarks$Parts", name := "number", desc := "(II)I" } : Jvm.MethodName) prog_5_method_3_code (4 : Nat) (Option.some Jvm.ClassFile.FieldType.int)) ∈ sm_WS := sm_mw sm_t3 138 rfl rfl
theorem mw_619 : (Jvm.Cond.methodLink "StreamMarks$Scanner" (260 : Nat) ({ cls := "StreamMarks$Places", name := "keep", desc := "(IIII)V" } : Jvm.MethodName)) ∈ sm_WS := sm_mw sm_t3 139 rfl rfl
theorem mw_620 : (Jvm.Cond.instanceMethod ({ cls := "StreamMarks$Places", name := "keep", desc := "(IIII)V" } : Jvm.MethodName)) ∈ sm_WS := sm_mw sm_t3 140 rfl rfl
theorem mw_621 : (Jvm.Cond.selects "StreamMarks$Places" ({ cls := "StreamMarks$Places", name := "keep", desc := "(IIII)V" } : Jvm.MethodName) ({ cls := "StreamMarks$Places", name := "keep", desc := "(IIII)V" } : Jvm.MethodName)) ∈ sm_WS := sm_mw sm_t3 141 rfl rfl
theorem mw_622 : (Jvm.Cond.code ({ cls := "StreamMarks$Places", name := "keep", desc := "(IIII)V" } : Jvm.MethodName) prog_6_method_4_code (6 : Nat) (Option.none : Option Jvm.ClassFile.FieldType)) ∈ sm_WS := sm_mw sm_t3 142 rfl rfl
theorem mw_623 : (Jvm.Cond.methodLink "StreamMarks" (287 : Nat) ({ cls := "StreamMarks$Loader", name := "loadMain", desc := "()V" } : Jvm.MethodName)) ∈ sm_WS := sm_mw sm_t3 143 rfl rfl
theorem mw_624 : (Jvm.Cond.instanceMethod ({ cls := "StreamMarks$Loader", name := "loadMain", desc := "()V" } : Jvm.MethodName)) ∈ sm_WS := sm_mw sm_t3 144 rfl rfl
theorem mw_625 : (Jvm.Cond.selects "StreamMarks$Loader" ({ cls := "StreamMarks$Loader", name := "loadMain", desc := "()V" } : Jvm.MethodName) ({ cls := "StreamMarks$Loader", name := "loadMain", desc := "()V" } : Jvm.MethodName)) ∈ sm_WS := sm_mw sm_t3 145 rfl rfl
theorem mw_626 : (Jvm.Cond.code ({ cls := "StreamMarks$Loader", name := "loadMain", desc := "()V" } : Jvm.MethodName) prog_4_method_2_code (1 : Nat) (Option.none : Option Jvm.ClassFile.FieldType)) ∈ sm_WS := sm_mw sm_t3 146 rfl rfl
theorem mw_627 : (Jvm.Cond.methodLink "StreamMarks$Loader" (23 : Nat) ({ cls := "StreamMarks$Plan", name := "reset", desc := "()V" } : Jvm.MethodName)) ∈ sm_WS := sm_mw sm_t3 147 rfl rfl
theorem mw_628 : (Jvm.Cond.methodLink "StreamMarks$Loader" (28 : Nat) ({ cls := "StreamMarks$Loader", name := "loadSize", desc := "(I)V" } : Jvm.MethodName)) ∈ sm_WS := sm_mw sm_t3 148 rfl rfl
theorem mw_630 : (Jvm.Cond.instanceMethod ({ cls := "StreamMarks$Loader", name := "loadSize", desc := "(I)V" } : Jvm.MethodName)) ∈ sm_WS := sm_mw sm_t3 150 rfl rfl
theorem mw_631 : (Jvm.Cond.code ({ cls := "StreamMarks$Loader", name := "loadSize", desc := "(I)V" } : Jvm.MethodName) prog_4_method_4_code (6 : Nat) (Option.none : Option Jvm.ClassFile.FieldType)) ∈ sm_WS := sm_mw sm_t3 151 rfl rfl
theorem mw_632 : (Jvm.Cond.methodLink "StreamMarks$Loader" (44 : Nat) ({ cls := "StreamMarks$Loader", name := "number4", desc := "(I)I" } : Jvm.MethodName)) ∈ sm_WS := sm_mw sm_t3 152 rfl rfl
theorem mw_634 : (Jvm.Cond.instanceMethod ({ cls := "StreamMarks$Loader", name := "number4", desc := "(I)I" } : Jvm.MethodName)) ∈ sm_WS := sm_mw sm_t3 154 rfl rfl
theorem mw_635 : (Jvm.Cond.code ({ cls := "StreamMarks$Loader", name := "number4", desc := "(I)I" } : Jvm.MethodName) prog_4_method_5_code (2 : Nat) (Option.some Jvm.ClassFile.FieldType.int)) ∈ sm_WS := sm_mw sm_t3 155 rfl rfl
theorem mw_636 : (Jvm.Cond.methodLink "StreamMarks$Loader" (66 : Nat) ({ cls := "StreamMarks$Row", name := "u4", desc := "(I)J" } : Jvm.MethodName)) ∈ sm_WS := sm_mw sm_t3 156 rfl rfl
theorem mw_637 : (Jvm.Cond.methodLink "StreamMarks$Loader" (47 : Nat) ({ cls := "StreamMarks$Plan", name := "setPicture", desc := "(IIII)V" } : Jvm.MethodName)) ∈ sm_WS := sm_mw sm_t3 157 rfl rfl
theorem mw_638 : (Jvm.Cond.instanceMethod ({ cls := "StreamMarks$Plan", name := "setPicture", desc := "(IIII)V" } : Jvm.MethodName)) ∈ sm_WS := sm_mw sm_t3 158 rfl rfl
theorem mw_639 : (Jvm.Cond.selects "StreamMarks$Plan" ({ cls := "StreamMarks$Plan", name := "setPicture", desc := "(IIII)V" } : Jvm.MethodName) ({ cls := "StreamMarks$Plan", name := "setPicture", desc := "(IIII)V" } : Jvm.MethodName)) ∈ sm_WS := sm_mw sm_t3 159 rfl rfl
theorem mw_640 : (Jvm.Cond.code ({ cls := "StreamMarks$Plan", name := "setPicture", desc := "(IIII)V" } : Jvm.MethodName) prog_7_method_4_code (5 : Nat) (Option.none : Option Jvm.ClassFile.FieldType)) ∈ sm_WS := sm_mw sm_t3 160 rfl rfl
theorem mw_641 : (Jvm.Cond.methodLink "StreamMarks$Loader" (51 : Nat) ({ cls := "StreamMarks$Plan", name := "setTiles", desc := "(IIII)V" } : Jvm.MethodName)) ∈ sm_WS := sm_mw sm_t3 161 rfl rfl
theorem mw_642 : (Jvm.Cond.instanceMethod ({ cls := "StreamMarks$Plan", name := "setTiles", desc := "(IIII)V" } : Jvm.MethodName)) ∈ sm_WS := sm_mw sm_t3 162 rfl rfl
theorem mw_643 : (Jvm.Cond.selects "StreamMarks$Plan" ({ cls := "StreamMarks$Plan", name := "setTiles", desc := "(IIII)V" } : Jvm.MethodName) ({ cls := "StreamMarks$Plan", name := "setTiles", desc := "(IIII)V" } : Jvm.MethodName)) ∈ sm_WS := sm_mw sm_t3 163 rfl rfl
theorem mw_644 : (Jvm.Cond.code ({ cls := "StreamMarks$Plan", name := "setTiles", desc := "(IIII)V" } : Jvm.MethodName) prog_7_method_5_code (5 : Nat) (Option.none : Option Jvm.ClassFile.FieldType)) ∈ sm_WS := sm_mw sm_t3 164 rfl rfl
theorem mw_645 : (Jvm.Cond.methodLink "StreamMarks$Loader" (54 : Nat) ({ cls := "StreamMarks$Row", name := "u2", desc := "(I)I" } : Jvm.MethodName)) ∈ sm_WS := sm_mw sm_t3 165 rfl rfl
theorem mw_646 : (Jvm.Cond.methodLink "StreamMarks$Loader" (59 : Nat) ({ cls := "StreamMarks$Row", name := "u1", desc := "(I)I" } : Jvm.MethodName)) ∈ sm_WS := sm_mw sm_t3 166 rfl rfl
theorem mw_647 : (Jvm.Cond.methodLink "StreamMarks$Loader" (62 : Nat) ({ cls := "StreamMarks$Plan", name := "addComponent", desc := "(IZII)I" } : Jvm.MethodName)) ∈ sm_WS := sm_mw sm_t3 167 rfl rfl
theorem mw_648 : (Jvm.Cond.instanceMethod ({ cls := "StreamMarks$Plan", name := "addComponent", desc := "(IZII)I" } : Jvm.MethodName)) ∈ sm_WS := sm_mw sm_t3 168 rfl rfl
theorem mw_649 : (Jvm.Cond.selects "StreamMarks$Plan" ({ cls := "StreamMarks$Plan", name := "addComponent", desc := "(IZII)I" } : Jvm.MethodName) ({ cls := "StreamMarks$Plan", name := "addComponent", desc := "(IZII)I" } : Jvm.MethodName)) ∈ sm_WS := sm_mw sm_t3 169 rfl rfl
theorem mw_650 : (Jvm.Cond.code ({ cls := "StreamMarks$Plan", name := "addComponent", desc := "(IZII)I" } : Jvm.MethodName) prog_7_method_8_code (6 : Nat) (Option.some Jvm.ClassFile.FieldType.int)) ∈ sm_WS := sm_mw sm_t3 170 rfl rfl
theorem mw_651 : (Jvm.Cond.methodLink "StreamMarks$Plan" (61 : Nat) ({ cls := "StreamMarks$Component", name := "reset", desc := "(IZII)V" } : Jvm.MethodName)) ∈ sm_WS := sm_mw sm_t3 171 rfl rfl
theorem mw_652 : (Jvm.Cond.instanceMethod ({ cls := "StreamMarks$Component", name := "reset", desc := "(IZII)V" } : Jvm.MethodName)) ∈ sm_WS := sm_mw sm_t3 172 rfl rfl
theorem mw_653 : (Jvm.Cond.selects "StreamMarks$Component" ({ cls := "StreamMarks$Component", name := "reset", desc := "(IZII)V" } : Jvm.MethodName) ({ cls := "StreamMarks$Component", name := "reset", desc := "(IZII)V" } : Jvm.MethodName)) ∈ sm_WS := sm_mw sm_t3 173 rfl rfl
theorem mw_654 : (Jvm.Cond.code ({ cls := "StreamMarks$Component", name := "reset", desc := "(IZII)V" } : Jvm.MethodName) prog_3_method_2_code (5 : Nat) (Option.none : Option Jvm.ClassFile.FieldType)) ∈ sm_WS := sm_mw sm_t3 174 rfl rfl
theorem mw_655 : (Jvm.Cond.methodLink "StreamMarks$Component" (40 : Nat) ({ cls := "StreamMarks$Coding", name := "reset", desc := "()V" } : Jvm.MethodName)) ∈ sm_WS := sm_mw sm_t3 175 rfl rfl
theorem mw_656 : (Jvm.Cond.instanceMethod ({ cls := "StreamMarks$Coding", name := "reset", desc := "()V" } : Jvm.MethodName)) ∈ sm_WS := sm_mw sm_t3 176 rfl rfl
theorem mw_657 : (Jvm.Cond.selects "StreamMarks$Coding" ({ cls := "StreamMarks$Coding", name := "reset", desc := "()V" } : Jvm.MethodName) ({ cls := "StreamMarks$Coding", name := "reset", desc := "()V" } : Jvm.MethodName)) ∈ sm_WS := sm_mw sm_t3 177 rfl rfl
theorem mw_658 : (Jvm.Cond.code ({ cls := "StreamMarks$Coding", name := "reset", desc := "()V" } : Jvm.MethodName) prog_2_method_2_code (1 : Nat) (Option.none : Option Jvm.ClassFile.FieldType)) ∈ sm_WS := sm_mw sm_t3 178 rfl rfl
theorem mw_659 : (Jvm.Cond.methodLink "StreamMarks$Coding" (18 : Nat) ({ cls := "StreamMarks$Coding", name := "setBlocks", desc := "(IIIIZ)V" } : Jvm.MethodName)) ∈ sm_WS := sm_mw sm_t3 179 rfl rfl
theorem mw_660 : (Jvm.Cond.instanceMethod ({ cls := "StreamMarks$Coding", name := "setBlocks", desc := "(IIIIZ)V" } : Jvm.MethodName)) ∈ sm_WS := sm_mw sm_t3 180 rfl rfl
theorem mw_661 : (Jvm.Cond.selects "StreamMarks$Coding" ({ cls := "StreamMarks$Coding", name := "setBlocks", desc := "(IIIIZ)V" } : Jvm.MethodName) ({ cls := "StreamMarks$Coding", name := "setBlocks", desc := "(IIIIZ)V" } : Jvm.MethodName)) ∈ sm_WS := sm_mw sm_t3 181 rfl rfl
theorem mw_662 : (Jvm.Cond.code ({ cls := "StreamMarks$Coding", name := "setBlocks", desc := "(IIIIZ)V" } : Jvm.MethodName) prog_2_method_4_code (6 : Nat) (Option.none : Option Jvm.ClassFile.FieldType)) ∈ sm_WS := sm_mw sm_t3 182 rfl rfl
theorem mw_663 : (Jvm.Cond.methodLink "StreamMarks$Coding" (22 : Nat) ({ cls := "StreamMarks$Coding", name := "resetPrecincts", desc := "()V" } : Jvm.MethodName)) ∈ sm_WS := sm_mw sm_t3 183 rfl rfl
theorem mw_664 : (Jvm.Cond.instanceMethod ({ cls := "StreamMarks$Coding", name := "resetPrecincts", desc := "()V" } : Jvm.MethodName)) ∈ sm_WS := sm_mw sm_t3 184 rfl rfl
theorem mw_665 : (Jvm.Cond.selects "StreamMarks$Coding" ({ cls := "StreamMarks$Coding", name := "resetPrecincts", desc := "()V" } : Jvm.MethodName) ({ cls := "StreamMarks$Coding", name := "resetPrecincts", desc := "()V" } : Jvm.MethodName)) ∈ sm_WS := sm_mw sm_t3 185 rfl rfl
theorem mw_666 : (Jvm.Cond.code ({ cls := "StreamMarks$Coding", name := "resetPrecincts", desc := "()V" } : Jvm.MethodName) prog_2_method_3_code (1 : Nat) (Option.none : Option Jvm.ClassFile.FieldType)) ∈ sm_WS := sm_mw sm_t3 186 rfl rfl
theorem mw_667 : (Jvm.Cond.methodLink "StreamMarks$Coding" (25 : Nat) ({ cls := "java/util/Arrays", name := "fill", desc := "([II)V" } : Jvm.MethodName)) ∈ sm_WS := sm_mw sm_t3 187 rfl rfl
theorem mw_668 : (Jvm.Cond.methodLink "StreamMarks$Component" (43 : Nat) ({ cls := "StreamMarks$Steps", name := "reset", desc := "()V" } : Jvm.MethodName)) ∈ sm_WS := sm_mw sm_t3 188 rfl rfl
theorem mw_669 : (Jvm.Cond.instanceMethod ({ cls := "StreamMarks$Steps", name := "reset", desc := "()V" } : Jvm.MethodName)) ∈ sm_WS := sm_mw sm_t3 189 rfl rfl
theorem mw_670 : (Jvm.Cond.selects "StreamMarks$Steps" ({ cls := "StreamMarks$Steps", name := "reset", desc := "()V" } : Jvm.MethodName) ({ cls := "StreamMarks$Steps", name := "reset", desc := "()V" } : Jvm.MethodName)) ∈ sm_WS := sm_mw sm_t3 190 rfl rfl
theorem mw_671 : (Jvm.Cond.code ({ cls := "StreamMarks$Steps", name := "reset", desc := "()V" } : Jvm.MethodName) prog_11_method_2_code (1 : Nat) (Option.none : Option Jvm.ClassFile.FieldType)) ∈ sm_WS := sm_mw sm_t3 191 rfl rfl
theorem mw_672 : (Jvm.Cond.methodLink "StreamMarks$Steps" (22 : Nat) ({ cls := "StreamMarks$Steps", name := "resetValues", desc := "()V" } : Jvm.MethodName)) ∈ sm_WS := sm_mw sm_t3 192 rfl rfl
theorem mw_673 : (Jvm.Cond.instanceMethod ({ cls := "StreamMarks$Steps", name := "resetValues", desc := "()V" } : Jvm.MethodName)) ∈ sm_WS := sm_mw sm_t3 193 rfl rfl
theorem mw_674 : (Jvm.Cond.selects "StreamMarks$Steps" ({ cls := "StreamMarks$Steps", name := "resetValues", desc := "()V" } : Jvm.MethodName) ({ cls := "StreamMarks$Steps", name := "resetValues", desc := "()V" } : Jvm.MethodName)) ∈ sm_WS := sm_mw sm_t3 194 rfl rfl
theorem mw_675 : (Jvm.Cond.code ({ cls := "StreamMarks$Steps", name := "resetValues", desc := "()V" } : Jvm.MethodName) prog_11_method_3_code (1 : Nat) (Option.none : Option Jvm.ClassFile.FieldType)) ∈ sm_WS := sm_mw sm_t3 195 rfl rfl
theorem mw_676 : (Jvm.Cond.methodLink "StreamMarks$Steps" (25 : Nat) ({ cls := "java/util/Arrays", name := "fill", desc := "([II)V" } : Jvm.MethodName)) ∈ sm_WS := sm_mw sm_t3 196 rfl rfl
theorem mw_677 : (Jvm.Cond.methodLink "StreamMarks$Loader" (32 : Nat) ({ cls := "StreamMarks$Loader", name := "loadOwner", desc := "(I)V" } : Jvm.MethodName)) ∈ sm_WS := sm_mw sm_t3 197 rfl rfl
theorem mw_679 : (Jvm.Cond.instanceMethod ({ cls := "StreamMarks$Loader", name := "loadOwner", desc := "(I)V" } : Jvm.MethodName)) ∈ sm_WS := sm_mw sm_t3 199 rfl rfl
theorem mw_680 : (Jvm.Cond.code ({ cls := "StreamMarks$Loader", name := "loadOwner", desc := "(I)V" } : Jvm.MethodName) prog_4_method_6_code (5 : Nat) (Option.none : Option Jvm.ClassFile.FieldType)) ∈ sm_WS := sm_mw sm_t3 200 rfl rfl
theorem mw_681 : (Jvm.Cond.methodLink "StreamMarks$Loader" (70 : Nat) ({ cls := "StreamMarks$Places", name := "startOf", desc := "(III)I" } : Jvm.MethodName)) ∈ sm_WS := sm_mw sm_t3 201 rfl rfl
theorem mw_682 : (Jvm.Cond.methodLink "StreamMarks$Loader" (74 : Nat) ({ cls := "StreamMarks$Loader", name := "loadGeneral", desc := "(I)V" } : Jvm.MethodName)) ∈ sm_WS := sm_mw sm_t3 202 rfl rfl
theorem mw_684 : (Jvm.Cond.instanceMethod ({ cls := "StreamMarks$Loader", name := "loadGeneral", desc := "(I)V" } : Jvm.MethodName)) ∈ sm_WS := sm_mw sm_t3 204 rfl rfl
theorem mw_685 : (Jvm.Cond.code ({ cls := "StreamMarks$Loader", name := "loadGeneral", desc := "(I)V" } : Jvm.MethodName) prog_4_method_7_code (3 : Nat) (Option.none : Option Jvm.ClassFile.FieldType)) ∈ sm_WS := sm_mw sm_t3 205 rfl rfl
theorem mw_686 : (Jvm.Cond.methodLink "StreamMarks$Loader" (110 : Nat) ({ cls := "StreamMarks$Plan", name := "setGeneral", desc := "(IIZZZ)V" } : Jvm.MethodName)) ∈ sm_WS := sm_mw sm_t3 206 rfl rfl
theorem mw_687 : (Jvm.Cond.methodLink "StreamMarks$Loader" (81 : Nat) ({ cls := "StreamMarks$Plan", name := "componentOrNull", desc := "(I)LStreamMarks$Component;" } : Jvm.MethodName)) ∈ sm_WS := sm_mw sm_t3 207 rfl rfl
theorem mw_688 : (Jvm.Cond.instanceMethod ({ cls := "StreamMarks$Plan", name := "componentOrNull", desc := "(I)LStreamMarks$Component;" } : Jvm.MethodName)) ∈ sm_WS := sm_mw sm_t3 208 rfl rfl
theorem mw_689 : (Jvm.Cond.selects "StreamMarks$Plan" ({ cls := "StreamMarks$Plan", name := "componentOrNull", desc := "(I)LStreamMarks$Component;" } : Jvm.MethodName) ({ cls := "StreamMarks$Plan", name := "componentOrNull", desc := "(I)LStreamMarks$Component;" } : Jvm.MethodName)) ∈ sm_WS := sm_mw sm_t3 209 rfl rfl
theorem mw_690 : (Jvm.Cond.code ({ cls := "StreamMarks$Plan", name := "componentOrNull", desc := "(I)LStreamMarks$Component;" } : Jvm.MethodName) prog_7_method_7_code (2 : Nat) (Option.some (Jvm.ClassFile.FieldType.object "StreamMarks$Component"))) ∈ sm_WS := sm_mw sm_t3 210 rfl rfl
theorem mw_691 : (Jvm.Cond.methodLink "StreamMarks$Loader" (91 : Nat) ({ cls := "StreamMarks$Loader", name := "loadCoding", desc := "(LStreamMarks$Coding;II)V" } : Jvm.MethodName)) ∈ sm_WS := sm_mw sm_t3 211 rfl rfl
theorem mw_693 : (Jvm.Cond.instanceMethod ({ cls := "StreamMarks$Loader", name := "loadCoding", desc := "(LStreamMarks$Coding;II)V" } : Jvm.MethodName)) ∈ sm_WS := sm_mw sm_t3 213 rfl rfl
theorem mw_694 : (Jvm.Cond.code ({ cls := "StreamMarks$Loader", name := "loadCoding", desc := "(LStreamMarks$Coding;II)V" } : Jvm.MethodName) prog_4_method_8_code (4 : Nat) (Option.none : Option Jvm.ClassFile.FieldType)) ∈ sm_WS := sm_mw sm_t3 214 rfl rfl
theorem mw_695 : (Jvm.Cond.methodLink "StreamMarks$Loader" (114 : Nat) ({ cls := "StreamMarks$Loader", name := "loadBody", desc := "(LStreamMarks$Coding;II)V" } : Jvm.MethodName)) ∈ sm_WS := sm_mw sm_t3 215 rfl rfl
theorem mw_697 : (Jvm.Cond.instanceMethod ({ cls := "StreamMarks$Loader", name := "loadBody", desc := "(LStreamMarks$Coding;II)V" } : Jvm.MethodName)) ∈ sm_WS := sm_mw sm_t3 217 rfl rfl
theorem mw_698 : (Jvm.Cond.code ({ cls := "StreamMarks$Loader", name := "loadBody", desc := "(LStreamMarks$Coding;II)V" } : Jvm.MethodName) prog_4_method_9_code (7 : Nat) (Option.none : Option Jvm.ClassFile.FieldType)) ∈ sm_WS := sm_mw sm_t3 218 rfl rfl
theorem mw_699 : (Jvm.Cond.methodLink "StreamMarks$Loader" (117 : Nat) ({ cls := "StreamMarks$Coding", name := "setBlocks", desc := "(IIIIZ)V" } : Jvm.MethodName)) ∈ sm_WS := sm_mw sm_t3 219 rfl rfl
theorem mw_700 : (Jvm.Cond.methodLink "StreamMarks$Loader" (123 : Nat) ({ cls := "StreamMarks$Coding", name := "resetPrecincts", desc := "()V" } : Jvm.MethodName)) ∈ sm_WS := sm_mw sm_t3 220 rfl rfl
theorem mw_701 : (Jvm.Cond.methodLink "StreamMarks$Loader" (126 : Nat) ({ cls := "StreamMarks$Coding", name := "setPrecinct", desc := "(III)V" } : Jvm.MethodName)) ∈ sm_WS := sm_mw sm_t3 221 rfl rfl
theorem mw_702 : (Jvm.Cond.instanceMethod ({ cls := "StreamMarks$Coding", name := "setPrecinct", desc := "(III)V" } : Jvm.MethodName)) ∈ sm_WS := sm_mw sm_t3 222 rfl rfl
theorem mw_703 : (Jvm.Cond.selects "StreamMarks$Coding" ({ cls := "StreamMarks$Coding", name := "setPrecinct", desc := "(III)V" } : Jvm.MethodName) ({ cls := "StreamMarks$Coding", name := "setPrecinct", desc := "(III)V" } : Jvm.MethodName)) ∈ sm_WS := sm_mw sm_t3 223 rfl rfl
theorem mw_704 : (Jvm.Cond.code ({ cls := "StreamMarks$Coding", name := "setPrecinct", desc := "(III)V" } : Jvm.MethodName) prog_2_method_5_code (4 : Nat) (Option.none : Option Jvm.ClassFile.FieldType)) ∈ sm_WS := sm_mw sm_t3 224 rfl rfl
theorem mw_705 : (Jvm.Cond.methodLink "StreamMarks$Loader" (99 : Nat) ({ cls := "StreamMarks$Loader", name := "loadSteps", desc := "(LStreamMarks$Steps;II)V" } : Jvm.MethodName)) ∈ sm_WS := sm_mw sm_t3 225 rfl rfl
theorem mw_707 : (Jvm.Cond.instanceMethod ({ cls := "StreamMarks$Loader", name := "loadSteps", desc := "(LStreamMarks$Steps;II)V" } : Jvm.MethodName)) ∈ sm_WS := sm_mw sm_t3 227 rfl rfl
theorem mw_708 : (Jvm.Cond.code ({ cls := "StreamMarks$Loader", name := "loadSteps", desc := "(LStreamMarks$Steps;II)V" } : Jvm.MethodName) prog_4_method_10_code (4 : Nat) (Option.none : Option Jvm.ClassFile.FieldType)) ∈ sm_WS := sm_mw sm_t3 228 rfl rfl
theorem mw_709 : (Jvm.Cond.methodLink "StreamMarks$Loader" (130 : Nat) ({ cls := "StreamMarks$Loader", name := "loadValues", desc := "(LStreamMarks$Steps;II)V" } : Jvm.MethodName)) ∈ sm_WS := sm_mw sm_t3 229 rfl rfl
theorem mw_711 : (Jvm.Cond.instanceMethod ({ cls := "StreamMarks$Loader", name := "loadValues", desc := "(LStreamMarks$Steps;II)V" } : Jvm.MethodName)) ∈ sm_WS := sm_mw sm_t3 231 rfl rfl
theorem mw_712 : (Jvm.Cond.code ({ cls := "StreamMarks$Loader", name := "loadValues", desc := "(LStreamMarks$Steps;II)V" } : Jvm.MethodName) prog_4_method_11_code (8 : Nat) (Option.none : Option Jvm.ClassFile.FieldType)) ∈ sm_WS := sm_mw sm_t3 232 rfl rfl
theorem mw_713 : (Jvm.Cond.methodLink "StreamMarks$Loader" (141 : Nat) ({ cls := "StreamMarks$Steps", name := "resetValues", desc := "()V" } : Jvm.MethodName)) ∈ sm_WS := sm_mw sm_t3 233 rfl rfl
theorem mw_714 : (Jvm.Cond.methodLink "StreamMarks$Loader" (144 : Nat) ({ cls := "StreamMarks$Steps", name := "setValue", desc := "(II)V" } : Jvm.MethodName)) ∈ sm_WS := sm_mw sm_t3 234 rfl rfl
theorem mw_715 : (Jvm.Cond.instanceMethod ({ cls := "StreamMarks$Steps", name := "setValue", desc := "(II)V" } : Jvm.MethodName)) ∈ sm_WS := sm_mw sm_t3 235 rfl rfl
theorem mw_716 : (Jvm.Cond.selects "StreamMarks$Steps" ({ cls := "StreamMarks$Steps", name := "setValue", desc := "(II)V" } : Jvm.MethodName) ({ cls := "StreamMarks$Steps", name := "setValue", desc := "(II)V" } : Jvm.MethodName)) ∈ sm_WS := sm_mw sm_t3 236 rfl rfl
theorem mw_717 : (Jvm.Cond.code ({ cls := "StreamMarks$Steps", name := "setValue", desc := "(II)V" } : Jvm.MethodName) prog_11_method_4_code (3 : Nat) (Option.none : Option Jvm.ClassFile.FieldType)) ∈ sm_WS := sm_mw sm_t3 237 rfl rfl
theorem mw_718 : (Jvm.Cond.methodLink "StreamMarks$Loader" (103 : Nat) ({ cls := "StreamMarks$Loader", name := "loadShift", desc := "(LStreamMarks$Component;I)V" } : Jvm.MethodName)) ∈ sm_WS := sm_mw sm_t3 238 rfl rfl
theorem mw_720 : (Jvm.Cond.instanceMethod ({ cls := "StreamMarks$Loader", name := "loadShift", desc := "(LStreamMarks$Component;I)V" } : Jvm.MethodName)) ∈ sm_WS := sm_mw sm_t4 0 rfl rfl
theorem mw_721 : (Jvm.Cond.code ({ cls := "StreamMarks$Loader", name := "loadShift", desc := "(LStreamMarks$Component;I)V" } : Jvm.MethodName) prog_4_method_12_code (3 : Nat) (Option.none : Option Jvm.ClassFile.FieldType)) ∈ sm_WS := sm_mw sm_t4 1 rfl rfl
theorem mw_722 : (Jvm.Cond.methodLink "StreamMarks$Loader" (107 : Nat) ({ cls := "StreamMarks$Loader", name := "loadChanges", desc := "(I)V" } : Jvm.MethodName)) ∈ sm_WS := sm_mw sm_t4 2 rfl rfl
theorem mw_724 : (Jvm.Cond.instanceMethod ({ cls := "StreamMarks$Loader", name := "loadChanges", desc := "(I)V" } : Jvm.MethodName)) ∈ sm_WS := sm_mw sm_t4 4 rfl rfl
theorem mw_725 : (Jvm.Cond.code ({ cls := "StreamMarks$Loader", name := "loadChanges", desc := "(I)V" } : Jvm.MethodName) prog_4_method_13_code (6 : Nat) (Option.none : Option Jvm.ClassFile.FieldType)) ∈ sm_WS := sm_mw sm_t4 5 rfl rfl
theorem mw_726 : (Jvm.Cond.methodLink "StreamMarks$Loader" (154 : Nat) ({ cls := "StreamMarks$Plan", name := "addChange", desc := "(IIIIII)V" } : Jvm.MethodName)) ∈ sm_WS := sm_mw sm_t4 6 rfl rfl
theorem mw_727 : (Jvm.Cond.instanceMethod ({ cls := "StreamMarks$Plan", name := "addChange", desc := "(IIIIII)V" } : Jvm.MethodName)) ∈ sm_WS := sm_mw sm_t4 7 rfl rfl
theorem mw_728 : (Jvm.Cond.selects "StreamMarks$Plan" ({ cls := "StreamMarks$Plan", name := "addChange", desc := "(IIIIII)V" } : Jvm.MethodName) ({ cls := "StreamMarks$Plan", name := "addChange", desc := "(IIIIII)V" } : Jvm.MethodName)) ∈ sm_WS := sm_mw sm_t4 8 rfl rfl
theorem mw_729 : (Jvm.Cond.code ({ cls := "StreamMarks$Plan", name := "addChange", desc := "(IIIIII)V" } : Jvm.MethodName) prog_7_method_9_code (8 : Nat) (Option.none : Option Jvm.ClassFile.FieldType)) ∈ sm_WS := sm_mw sm_t4 9 rfl rfl
theorem mw_730 : (Jvm.Cond.methodLink "StreamMarksLaw" (166 : Nat) ({ cls := "StreamMarks", name := "place", desc := "()I" } : Jvm.MethodName)) ∈ sm_WS := sm_mw sm_t4 10 rfl rfl
theorem mw_731 : (Jvm.Cond.instanceMethod ({ cls := "StreamMarks", name := "place", desc := "()I" } : Jvm.MethodName)) ∈ sm_WS := sm_mw sm_t4 11 rfl rfl
theorem mw_732 : (Jvm.Cond.selects "StreamMarks" ({ cls := "StreamMarks", name := "place", desc := "()I" } : Jvm.MethodName) ({ cls := "StreamMarks", name := "place", desc := "()I" } : Jvm.MethodName)) ∈ sm_WS := sm_mw sm_t4 12 rfl rfl
theorem mw_733 : (Jvm.Cond.code ({ cls := "StreamMarks", name := "place", desc := "()I" } : Jvm.MethodName) prog_1_method_21_code (1 : Nat) (Option.some Jvm.ClassFile.FieldType.int)) ∈ sm_WS := sm_mw sm_t4 13 rfl rfl
theorem mw_734 : (Jvm.Cond.methodLink "StreamMarksLaw" (94 : Nat) ({ cls := "StreamMarksLaw", name := "picture", desc := "(LStreamMarks;IIII)I" } : Jvm.MethodName)) ∈ sm_WS := sm_mw sm_t4 14 rfl rfl
theorem mw_735 : (Jvm.Cond.static ({ cls := "StreamMarksLaw", name := "picture", desc := "(LStreamMarks;IIII)I" } : Jvm.MethodName)) ∈ sm_WS := sm_mw sm_t4 15 rfl rfl
theorem mw_736 : (Jvm.Cond.codeWith ({ cls := "StreamMarksLaw", name := "picture", desc := "(LStreamMarks;IIII)I" } : Jvm.MethodName) method_3_code (6 : Nat) (Option.some Jvm.ClassFile.FieldType.int) [((0 : Nat), (9 : Nat), (12 : Nat), (13 : Nat))]) ∈ sm_WS := sm_mw sm_t4 16 rfl rfl
theorem mw_737 : (Jvm.Cond.classLink "StreamMarksLaw" (13 : Nat) "java/lang/IllegalArgumentException") ∈ sm_WS := sm_mw sm_t4 17 rfl rfl
theorem mw_738 : (Jvm.Cond.methodLink "StreamMarksLaw" (7 : Nat) ({ cls := "StreamMarks", name := "picture", desc := "(IIII)V" } : Jvm.MethodName)) ∈ sm_WS := sm_mw sm_t4 18 rfl rfl
theorem mw_739 : (Jvm.Cond.instanceMethod ({ cls := "StreamMarks", name := "picture", desc := "(IIII)V" } : Jvm.MethodName)) ∈ sm_WS := sm_mw sm_t4 19 rfl rfl
theorem mw_740 : (Jvm.Cond.selects "StreamMarks" ({ cls := "StreamMarks", name := "picture", desc := "(IIII)V" } : Jvm.MethodName) ({ cls := "StreamMarks", name := "picture", desc := "(IIII)V" } : Jvm.MethodName)) ∈ sm_WS := sm_mw sm_t4 20 rfl rfl
theorem mw_741 : (Jvm.Cond.code ({ cls := "StreamMarks", name := "picture", desc := "(IIII)V" } : Jvm.MethodName) prog_1_method_3_code (5 : Nat) (Option.none : Option Jvm.ClassFile.FieldType)) ∈ sm_WS := sm_mw sm_t4 21 rfl rfl
theorem mw_742 : (Jvm.Cond.methodLink "StreamMarks" (59 : Nat) ({ cls := "StreamMarks$Rules", name := "isPicture", desc := "(JJJJ)Z" } : Jvm.MethodName)) ∈ sm_WS := sm_mw sm_t4 22 rfl rfl
theorem mw_743 : (Jvm.Cond.classLink "StreamMarks" (65 : Nat) "java/lang/IllegalArgumentException") ∈ sm_WS := sm_mw sm_t4 23 rfl rfl
theorem mw_744 : (Jvm.Cond.instantiable "java/lang/IllegalArgumentException" (6 : Nat)) ∈ sm_WS := sm_mw sm_t4 24 rfl rfl
theorem mn_745 : (Jvm.Cond.castable "java/lang/IllegalArgumentException" "java/lang/IllegalArgumentException") ∈ sm_NW := sm_mn sm_t4 25 rfl rfl
theorem mw_752 : (Jvm.Cond.selects "java/lang/IllegalArgumentException" ({ cls := "java/lang/Throwable", name := "fillInStackTrace", desc := "(I)Ljava/lang/Throwable;" } : Jvm.MethodName) ({ cls := "java/lang/Throwable", name := "fillInStackTrace", desc := "(I)Ljava/lang/Throwable;" } : Jvm.MethodName)) ∈ sm_WS := sm_mw sm_t4 32 rfl rfl
theorem mw_753 : (Jvm.Cond.selects "java/lang/IllegalArgumentException" ({ cls := "java/lang/Throwable", name := "fillInStackTrace", desc := "()Ljava/lang/Throwable;" } : Jvm.MethodName) ({ cls := "java/lang/Throwable", name := "fillInStackTrace", desc := "()Ljava/lang/Throwable;" } : Jvm.MethodName)) ∈ sm_WS := sm_mw sm_t4 33 rfl rfl
theorem mw_764 : (Jvm.Cond.fieldLink "java/lang/Throwable" (198 : Nat) "java/lang/Throwable" "backtrace" "Ljava/lang/Object;") ∈ sm_WS := sm_mw sm_t4 44 rfl rfl
theorem mw_766 : (Jvm.Cond.instanceMethod ({ cls := "java/lang/Throwable", name := "<init>", desc := "()V" } : Jvm.MethodName)) ∈ sm_WS := sm_mw sm_t4 46 rfl rfl
theorem mw_767 : (Jvm.Cond.code ({ cls := "java/lang/Throwable", name := "<init>", desc := "()V" } : Jvm.MethodName) prog_23_method_1_code (1 : Nat) (Option.none : Option Jvm.ClassFile.FieldType)) ∈ sm_WS := sm_mw sm_t4 47 rfl rfl
theorem mw_768 : (Jvm.Cond.methodLink "java/lang/Throwable" (1 : Nat) ({ cls := "java/lang/Object", name := "<init>", desc := "()V" } : Jvm.MethodName)) ∈ sm_WS := sm_mw sm_t4 48 rfl rfl
theorem mw_769 : (Jvm.Cond.fieldLink "java/lang/Throwable" (13 : Nat) "java/lang/Throwable" "UNASSIGNED_STACK" "[Ljava/lang/StackTraceElement;") ∈ sm_WS := sm_mw sm_t4 49 rfl rfl
theorem mw_771 : (Jvm.Cond.fieldLink "java/lang/Throwable" (20 : Nat) "java/lang/Throwable" "SUPPRESSED_SENTINEL" "Ljava/util/List;") ∈ sm_WS := sm_mw sm_t4 51 rfl rfl
theorem mw_773 : (Jvm.Cond.methodLink "java/lang/Throwable" (27 : Nat) ({ cls := "java/lang/Throwable", name := "fillInStackTrace", desc := "()Ljava/lang/Throwable;" } : Jvm.MethodName)) ∈ sm_WS := sm_mw sm_t4 53 rfl rfl
theorem mw_774 : (Jvm.Cond.instanceMethod ({ cls := "java/lang/Throwable", name := "fillInStackTrace", desc := "()Ljava/lang/Throwable;" } : Jvm.MethodName)) ∈ sm_WS := sm_mw sm_t4 54 rfl rfl
theorem mw_776 : (Jvm.Cond.selects "java/lang/IllegalStateException" ({ cls := "java/lang/Throwable", name := "fillInStackTrace", desc := "()Ljava/lang/Throwable;" } : Jvm.MethodName) ({ cls := "java/lang/Throwable", name := "fillInStackTrace", desc := "()Ljava/lang/Throwable;" } : Jvm.MethodName)) ∈ sm_WS := sm_mw sm_t4 56 rfl rfl
theorem mw_777 : (Jvm.Cond.selects "java/lang/UnsupportedOperationException" ({ cls := "java/lang/Throwable", name := "fillInStackTrace", desc := "()Ljava/lang/Throwable;" } : Jvm.MethodName) ({ cls := "java/lang/Throwable", name := "fillInStackTrace", desc := "()Ljava/lang/Throwable;" } : Jvm.MethodName)) ∈ sm_WS := sm_mw sm_t4 57 rfl rfl
theorem mw_778 : (Jvm.Cond.selects "java/util/NoSuchElementException" ({ cls := "java/lang/Throwable", name := "fillInStackTrace", desc := "()Ljava/lang/Throwable;" } : Jvm.MethodName) ({ cls := "java/lang/Throwable", name := "fillInStackTrace", desc := "()Ljava/lang/Throwable;" } : Jvm.MethodName)) ∈ sm_WS := sm_mw sm_t4 58 rfl rfl
theorem mw_780 : (Jvm.Cond.methodLink "java/lang/Throwable" (202 : Nat) ({ cls := "java/lang/Throwable", name := "fillInStackTrace", desc := "(I)Ljava/lang/Throwable;" } : Jvm.MethodName)) ∈ sm_WS := sm_mw sm_t4 60 rfl rfl
theorem mw_782 : (Jvm.Cond.instanceMethod ({ cls := "java/lang/Throwable", name := "fillInStackTrace", desc := "(I)Ljava/lang/Throwable;" } : Jvm.MethodName)) ∈ sm_WS := sm_mw sm_t4 62 rfl rfl
theorem mw_783 : (Jvm.Cond.instantiable "java/lang/Throwable" (6 : Nat)) ∈ sm_WS := sm_mw sm_t4 63 rfl rfl
theorem mw_786 : (Jvm.Cond.methodLink "StreamMarks" (69 : Nat) ({ cls := "java/lang/IllegalArgumentException", name := "<init>", desc := "(Ljava/lang/String;)V" } : Jvm.MethodName)) ∈ sm_WS := sm_mw sm_t4 66 rfl rfl
theorem mw_787 : (Jvm.Cond.instanceMethod ({ cls := "java/lang/IllegalArgumentException", name := "<init>", desc := "(Ljava/lang/String;)V" } : Jvm.MethodName)) ∈ sm_WS := sm_mw sm_t4 67 rfl rfl
theorem mw_788 : (Jvm.Cond.code ({ cls := "java/lang/IllegalArgumentException", name := "<init>", desc := "(Ljava/lang/String;)V" } : Jvm.MethodName) prog_17_method_2_code (2 : Nat) (Option.none : Option Jvm.ClassFile.FieldType)) ∈ sm_WS := sm_mw sm_t4 68 rfl rfl
theorem mw_789 : (Jvm.Cond.methodLink "java/lang/IllegalArgumentException" (7 : Nat) ({ cls := "java/lang/RuntimeException", name := "<init>", desc := "(Ljava/lang/String;)V" } : Jvm.MethodName)) ∈ sm_WS := sm_mw sm_t4 69 rfl rfl
theorem mw_790 : (Jvm.Cond.instanceMethod ({ cls := "java/lang/RuntimeException", name := "<init>", desc := "(Ljava/lang/String;)V" } : Jvm.MethodName)) ∈ sm_WS := sm_mw sm_t4 70 rfl rfl
theorem mw_791 : (Jvm.Cond.code ({ cls := "java/lang/RuntimeException", name := "<init>", desc := "(Ljava/lang/String;)V" } : Jvm.MethodName) prog_20_method_2_code (2 : Nat) (Option.none : Option Jvm.ClassFile.FieldType)) ∈ sm_WS := sm_mw sm_t4 71 rfl rfl
theorem mw_792 : (Jvm.Cond.methodLink "java/lang/RuntimeException" (7 : Nat) ({ cls := "java/lang/Exception", name := "<init>", desc := "(Ljava/lang/String;)V" } : Jvm.MethodName)) ∈ sm_WS := sm_mw sm_t4 72 rfl rfl
theorem mw_793 : (Jvm.Cond.instanceMethod ({ cls := "java/lang/Exception", name := "<init>", desc := "(Ljava/lang/String;)V" } : Jvm.MethodName)) ∈ sm_WS := sm_mw sm_t4 73 rfl rfl
theorem mw_794 : (Jvm.Cond.code ({ cls := "java/lang/Exception", name := "<init>", desc := "(Ljava/lang/String;)V" } : Jvm.MethodName) prog_16_method_2_code (2 : Nat) (Option.none : Option Jvm.ClassFile.FieldType)) ∈ sm_WS := sm_mw sm_t4 74 rfl rfl
theorem mw_795 : (Jvm.Cond.methodLink "java/lang/Exception" (7 : Nat) ({ cls := "java/lang/Throwable", name := "<init>", desc := "(Ljava/lang/String;)V" } : Jvm.MethodName)) ∈ sm_WS := sm_mw sm_t4 75 rfl rfl
theorem mw_796 : (Jvm.Cond.instanceMethod ({ cls := "java/lang/Throwable", name := "<init>", desc := "(Ljava/lang/String;)V" } : Jvm.MethodName)) ∈ sm_WS := sm_mw sm_t4 76 rfl rfl
theorem mw_797 : (Jvm.Cond.code ({ cls := "java/lang/Throwable", name := "<init>", desc := "(Ljava/lang/String;)V" } : Jvm.MethodName) prog_23_method_2_code (2 : Nat) (Option.none : Option Jvm.ClassFile.FieldType)) ∈ sm_WS := sm_mw sm_t4 77 rfl rfl
theorem mw_798 : (Jvm.Cond.fieldLink "java/lang/Throwable" (198 : Nat) "java/lang/Throwable" "backtrace" "Ljava/lang/Object;") ∈ sm_WS := sm_mw sm_t4 78 rfl rfl
theorem mw_799 : (Jvm.Cond.fieldLink "java/lang/Throwable" (31 : Nat) "java/lang/Throwable" "detailMessage" "Ljava/lang/String;") ∈ sm_WS := sm_mw sm_t4 79 rfl rfl
theorem mw_800 : (Jvm.Cond.fieldLink "java/lang/Throwable" (7 : Nat) "java/lang/Throwable" "cause" "Ljava/lang/Throwable;") ∈ sm_WS := sm_mw sm_t4 80 rfl rfl
theorem mw_801 : (Jvm.Cond.fieldLink "java/lang/Throwable" (17 : Nat) "java/lang/Throwable" "stackTrace" "[Ljava/lang/StackTraceElement;") ∈ sm_WS := sm_mw sm_t4 81 rfl rfl
theorem mw_802 : (Jvm.Cond.fieldLink "java/lang/Throwable" (24 : Nat) "java/lang/Throwable" "suppressedExceptions" "Ljava/util/List;") ∈ sm_WS := sm_mw sm_t4 82 rfl rfl
theorem mw_811 : (Jvm.Cond.methodLink "StreamMarks" (72 : Nat) ({ cls := "StreamMarks$Plan", name := "setPicture", desc := "(IIII)V" } : Jvm.MethodName)) ∈ sm_WS := sm_mw sm_t4 91 rfl rfl
theorem mw_812 : (Jvm.Cond.methodLink "StreamMarks" (76 : Nat) ({ cls := "StreamMarks$Plan", name := "setTiles", desc := "(IIII)V" } : Jvm.MethodName)) ∈ sm_WS := sm_mw sm_t4 92 rfl rfl
theorem mw_813 : (Jvm.Cond.methodLink "StreamMarksLaw" (103 : Nat) ({ cls := "StreamMarksLaw", name := "tiles", desc := "(LStreamMarks;IIII)I" } : Jvm.MethodName)) ∈ sm_WS := sm_mw sm_t4 93 rfl rfl
theorem mw_814 : (Jvm.Cond.static ({ cls := "StreamMarksLaw", name := "tiles", desc := "(LStreamMarks;IIII)I" } : Jvm.MethodName)) ∈ sm_WS := sm_mw sm_t4 94 rfl rfl
theorem mw_815 : (Jvm.Cond.codeWith ({ cls := "StreamMarksLaw", name := "tiles", desc := "(LStreamMarks;IIII)I" } : Jvm.MethodName) method_4_code (6 : Nat) (Option.some Jvm.ClassFile.FieldType.int) [((0 : Nat), (9 : Nat), (12 : Nat), (18 : Nat)), ((0 : Nat), (9 : Nat), (16 : Nat), (13 : Nat))]) ∈ sm_WS := sm_mw sm_t4 95 rfl rfl
theorem mw_816 : (Jvm.Cond.classLink "StreamMarksLaw" (18 : Nat) "java/lang/IllegalStateException") ∈ sm_WS := sm_mw sm_t4 96 rfl rfl
theorem mw_817 : (Jvm.Cond.methodLink "StreamMarksLaw" (15 : Nat) ({ cls := "StreamMarks", name := "tiles", desc := "(IIII)V" } : Jvm.MethodName)) ∈ sm_WS := sm_mw sm_t4 97 rfl rfl
theorem mw_818 : (Jvm.Cond.instanceMethod ({ cls := "StreamMarks", name := "tiles", desc := "(IIII)V" } : Jvm.MethodName)) ∈ sm_WS := sm_mw sm_t4 98 rfl rfl
theorem mw_819 : (Jvm.Cond.selects "StreamMarks" ({ cls := "StreamMarks", name := "tiles", desc := "(IIII)V" } : Jvm.MethodName) ({ cls := "StreamMarks", name := "tiles", desc := "(IIII)V" } : Jvm.MethodName)) ∈ sm_WS := sm_mw sm_t4 99 rfl rfl
theorem mw_820 : (Jvm.Cond.code ({ cls := "StreamMarks", name := "tiles", desc := "(IIII)V" } : Jvm.MethodName) prog_1_method_4_code (5 : Nat) (Option.none : Option Jvm.ClassFile.FieldType)) ∈ sm_WS := sm_mw sm_t4 100 rfl rfl
theorem mw_821 : (Jvm.Cond.methodLink "StreamMarks" (79 : Nat) ({ cls := "StreamMarks$Plan", name := "hasPicture", desc := "()Z" } : Jvm.MethodName)) ∈ sm_WS := sm_mw sm_t4 101 rfl rfl
theorem mw_822 : (Jvm.Cond.instanceMethod ({ cls := "StreamMarks$Plan", name := "hasPicture", desc := "()Z" } : Jvm.MethodName)) ∈ sm_WS := sm_mw sm_t4 102 rfl rfl
theorem mw_823 : (Jvm.Cond.selects "StreamMarks$Plan" ({ cls := "StreamMarks$Plan", name := "hasPicture", desc := "()Z" } : Jvm.MethodName) ({ cls := "StreamMarks$Plan", name := "hasPicture", desc := "()Z" } : Jvm.MethodName)) ∈ sm_WS := sm_mw sm_t4 103 rfl rfl
theorem mw_824 : (Jvm.Cond.code ({ cls := "StreamMarks$Plan", name := "hasPicture", desc := "()Z" } : Jvm.MethodName) prog_7_method_3_code (1 : Nat) (Option.some Jvm.ClassFile.FieldType.boolean)) ∈ sm_WS := sm_mw sm_t4 104 rfl rfl
theorem mw_825 : (Jvm.Cond.classLink "StreamMarks" (83 : Nat) "java/lang/IllegalStateException") ∈ sm_WS := sm_mw sm_t4 105 rfl rfl
theorem mw_826 : (Jvm.Cond.instantiable "java/lang/IllegalStateException" (6 : Nat)) ∈ sm_WS := sm_mw sm_t4 106 rfl rfl
theorem mn_827 : (Jvm.Cond.castable "java/lang/IllegalStateException" "java/lang/IllegalStateException") ∈ sm_NW := sm_mn sm_t4 107 rfl rfl
theorem mw_828 : (Jvm.Cond.selects "java/lang/IllegalStateException" ({ cls := "java/lang/Throwable", name := "fillInStackTrace", desc := "(I)Ljava/lang/Throwable;" } : Jvm.MethodName) ({ cls := "java/lang/Throwable", name := "fillInStackTrace", desc := "(I)Ljava/lang/Throwable;" } : Jvm.MethodName)) ∈ sm_WS := sm_mw sm_t4 108 rfl rfl
theorem mw_835 : (Jvm.Cond.methodLink "StreamMarks" (87 : Nat) ({ cls := "java/lang/IllegalStateException", name := "<init>", desc := "(Ljava/lang/String;)V" } : Jvm.MethodName)) ∈ sm_WS := sm_mw sm_t4 115 rfl rfl
theorem mw_836 : (Jvm.Cond.instanceMethod ({ cls := "java/lang/IllegalStateException", name := "<init>", desc := "(Ljava/lang/String;)V" } : Jvm.MethodName)) ∈ sm_WS := sm_mw sm_t4 116 rfl rfl
theorem mw_837 : (Jvm.Cond.code ({ cls := "java/lang/IllegalStateException", name := "<init>", desc := "(Ljava/lang/String;)V" } : Jvm.MethodName) prog_18_method_2_code (2 : Nat) (Option.none : Option Jvm.ClassFile.FieldType)) ∈ sm_WS := sm_mw sm_t4 117 rfl rfl
theorem mw_838 : (Jvm.Cond.methodLink "java/lang/IllegalStateException" (7 : Nat) ({ cls := "java/lang/RuntimeException", name := "<init>", desc := "(Ljava/lang/String;)V" } : Jvm.MethodName)) ∈ sm_WS := sm_mw sm_t4 118 rfl rfl
theorem mw_841 : (Jvm.Cond.methodLink "StreamMarks" (92 : Nat) ({ cls := "StreamMarks$Rules", name := "isTiling", desc := "(JJJJJJ)Z" } : Jvm.MethodName)) ∈ sm_WS := sm_mw sm_t4 121 rfl rfl
theorem mw_843 : (Jvm.Cond.methodLink "StreamMarks" (98 : Nat) ({ cls := "StreamMarks$Rules", name := "countTiles", desc := "(JJJJJJ)J" } : Jvm.MethodName)) ∈ sm_WS := sm_mw sm_t4 123 rfl rfl
theorem mw_844 : (Jvm.Cond.constantLong "StreamMarks" (102 : Nat) (64 : Int64)) ∈ sm_WS := sm_mw sm_t4 124 rfl rfl
theorem mw_846 : (Jvm.Cond.methodLink "StreamMarksLaw" (106 : Nat) ({ cls := "StreamMarksLaw", name := "component", desc := "(LStreamMarks;IZII[J)I" } : Jvm.MethodName)) ∈ sm_WS := sm_mw sm_t4 126 rfl rfl
theorem mw_847 : (Jvm.Cond.static ({ cls := "StreamMarksLaw", name := "component", desc := "(LStreamMarks;IZII[J)I" } : Jvm.MethodName)) ∈ sm_WS := sm_mw sm_t4 127 rfl rfl
theorem mw_848 : (Jvm.Cond.codeWith ({ cls := "StreamMarksLaw", name := "component", desc := "(LStreamMarks;IZII[J)I" } : Jvm.MethodName) method_5_code (7 : Nat) (Option.some Jvm.ClassFile.FieldType.int) [((0 : Nat), (14 : Nat), (17 : Nat), (13 : Nat)), ((0 : Nat), (14 : Nat), (21 : Nat), (18 : Nat))]) ∈ sm_WS := sm_mw sm_t4 128 rfl rfl
theorem mw_849 : (Jvm.Cond.methodLink "StreamMarksLaw" (20 : Nat) ({ cls := "StreamMarks", name := "component", desc := "(IZII)I" } : Jvm.MethodName)) ∈ sm_WS := sm_mw sm_t4 129 rfl rfl
theorem mw_850 : (Jvm.Cond.instanceMethod ({ cls := "StreamMarks", name := "component", desc := "(IZII)I" } : Jvm.MethodName)) ∈ sm_WS := sm_mw sm_t4 130 rfl rfl
theorem mw_851 : (Jvm.Cond.selects "StreamMarks" ({ cls := "StreamMarks", name := "component", desc := "(IZII)I" } : Jvm.MethodName) ({ cls := "StreamMarks", name := "component", desc := "(IZII)I" } : Jvm.MethodName)) ∈ sm_WS := sm_mw sm_t4 131 rfl rfl
theorem mw_852 : (Jvm.Cond.code ({ cls := "StreamMarks", name := "component", desc := "(IZII)I" } : Jvm.MethodName) prog_1_method_5_code (5 : Nat) (Option.some Jvm.ClassFile.FieldType.int)) ∈ sm_WS := sm_mw sm_t4 132 rfl rfl
theorem mw_853 : (Jvm.Cond.methodLink "StreamMarks" (106 : Nat) ({ cls := "StreamMarks$Rules", name := "isComponent", desc := "(III)Z" } : Jvm.MethodName)) ∈ sm_WS := sm_mw sm_t4 133 rfl rfl
theorem mw_856 : (Jvm.Cond.methodLink "StreamMarks" (117 : Nat) ({ cls := "StreamMarks$Plan", name := "addComponent", desc := "(IZII)I" } : Jvm.MethodName)) ∈ sm_WS := sm_mw sm_t4 136 rfl rfl
theorem mw_857 : (Jvm.Cond.methodLink "StreamMarksLaw" (110 : Nat) ({ cls := "StreamMarksLaw", name := "general", desc := "(LStreamMarks;IIZZZ)I" } : Jvm.MethodName)) ∈ sm_WS := sm_mw sm_t4 137 rfl rfl
theorem mw_858 : (Jvm.Cond.static ({ cls := "StreamMarksLaw", name := "general", desc := "(LStreamMarks;IIZZZ)I" } : Jvm.MethodName)) ∈ sm_WS := sm_mw sm_t4 138 rfl rfl
theorem mw_859 : (Jvm.Cond.codeWith ({ cls := "StreamMarksLaw", name := "general", desc := "(LStreamMarks;IIZZZ)I" } : Jvm.MethodName) method_6_code (7 : Nat) (Option.some Jvm.ClassFile.FieldType.int) [((0 : Nat), (11 : Nat), (14 : Nat), (13 : Nat))]) ∈ sm_WS := sm_mw sm_t4 139 rfl rfl
theorem mw_860 : (Jvm.Cond.methodLink "StreamMarksLaw" (24 : Nat) ({ cls := "StreamMarks", name := "general", desc := "(IIZZZ)V" } : Jvm.MethodName)) ∈ sm_WS := sm_mw sm_t4 140 rfl rfl
theorem mw_861 : (Jvm.Cond.instanceMethod ({ cls := "StreamMarks", name := "general", desc := "(IIZZZ)V" } : Jvm.MethodName)) ∈ sm_WS := sm_mw sm_t4 141 rfl rfl
theorem mw_862 : (Jvm.Cond.selects "StreamMarks" ({ cls := "StreamMarks", name := "general", desc := "(IIZZZ)V" } : Jvm.MethodName) ({ cls := "StreamMarks", name := "general", desc := "(IIZZZ)V" } : Jvm.MethodName)) ∈ sm_WS := sm_mw sm_t4 142 rfl rfl
theorem mw_863 : (Jvm.Cond.code ({ cls := "StreamMarks", name := "general", desc := "(IIZZZ)V" } : Jvm.MethodName) prog_1_method_6_code (6 : Nat) (Option.none : Option Jvm.ClassFile.FieldType)) ∈ sm_WS := sm_mw sm_t4 143 rfl rfl
theorem mw_864 : (Jvm.Cond.methodLink "StreamMarks" (121 : Nat) ({ cls := "StreamMarks$Rules", name := "isOrder", desc := "(I)Z" } : Jvm.MethodName)) ∈ sm_WS := sm_mw sm_t4 144 rfl rfl
theorem mw_866 : (Jvm.Cond.methodLink "StreamMarks" (127 : Nat) ({ cls := "StreamMarks$Plan", name := "setGeneral", desc := "(IIZZZ)V" } : Jvm.MethodName)) ∈ sm_WS := sm_mw sm_t4 146 rfl rfl
theorem mw_867 : (Jvm.Cond.methodLink "StreamMarksLaw" (114 : Nat) ({ cls := "StreamMarksLaw", name := "coding", desc := "(LStreamMarks;IIIIIZ)I" } : Jvm.MethodName)) ∈ sm_WS := sm_mw sm_t4 147 rfl rfl
theorem mw_868 : (Jvm.Cond.static ({ cls := "StreamMarksLaw", name := "coding", desc := "(LStreamMarks;IIIIIZ)I" } : Jvm.MethodName)) ∈ sm_WS := sm_mw sm_t4 148 rfl rfl
theorem mw_869 : (Jvm.Cond.codeWith ({ cls := "StreamMarksLaw", name := "coding", desc := "(LStreamMarks;IIIIIZ)I" } : Jvm.MethodName) method_7_code (8 : Nat) (Option.some Jvm.ClassFile.FieldType.int) [((0 : Nat), (13 : Nat), (16 : Nat), (32 : Nat)), ((0 : Nat), (13 : Nat), (20 : Nat), (13 : Nat))]) ∈ sm_WS := sm_mw sm_t4 149 rfl rfl
theorem mw_870 : (Jvm.Cond.classLink "StreamMarksLaw" (32 : Nat) "java/util/NoSuchElementException") ∈ sm_WS := sm_mw sm_t4 150 rfl rfl
theorem mw_871 : (Jvm.Cond.methodLink "StreamMarksLaw" (28 : Nat) ({ cls := "StreamMarks", name := "coding", desc := "(IIIIIZ)V" } : Jvm.MethodName)) ∈ sm_WS := sm_mw sm_t4 151 rfl rfl
theorem mw_872 : (Jvm.Cond.instanceMethod ({ cls := "StreamMarks", name := "coding", desc := "(IIIIIZ)V" } : Jvm.MethodName)) ∈ sm_WS := sm_mw sm_t4 152 rfl rfl
theorem mw_873 : (Jvm.Cond.selects "StreamMarks" ({ cls := "StreamMarks", name := "coding", desc := "(IIIIIZ)V" } : Jvm.MethodName) ({ cls := "StreamMarks", name := "coding", desc := "(IIIIIZ)V" } : Jvm.MethodName)) ∈ sm_WS := sm_mw sm_t4 153 rfl rfl
theorem mw_874 : (Jvm.Cond.code ({ cls := "StreamMarks", name := "coding", desc := "(IIIIIZ)V" } : Jvm.MethodName) prog_1_method_7_code (8 : Nat) (Option.none : Option Jvm.ClassFile.FieldType)) ∈ sm_WS := sm_mw sm_t4 154 rfl rfl
theorem mw_875 : (Jvm.Cond.methodLink "StreamMarks" (131 : Nat) ({ cls := "StreamMarks", name := "existing", desc := "(I)LStreamMarks$Component;" } : Jvm.MethodName)) ∈ sm_WS := sm_mw sm_t4 155 rfl rfl
theorem mw_877 : (Jvm.Cond.instanceMethod ({ cls := "StreamMarks", name := "existing", desc := "(I)LStreamMarks$Component;" } : Jvm.MethodName)) ∈ sm_WS := sm_mw sm_t4 157 rfl rfl
theorem mw_878 : (Jvm.Cond.code ({ cls := "StreamMarks", name := "existing", desc := "(I)LStreamMarks$Component;" } : Jvm.MethodName) prog_1_method_25_code (3 : Nat) (Option.some (Jvm.ClassFile.FieldType.object "StreamMarks$Component"))) ∈ sm_WS := sm_mw sm_t4 158 rfl rfl
theorem mw_879 : (Jvm.Cond.methodLink "StreamMarks" (320 : Nat) ({ cls := "StreamMarks$Plan", name := "componentOrNull", desc := "(I)LStreamMarks$Component;" } : Jvm.MethodName)) ∈ sm_WS := sm_mw sm_t4 159 rfl rfl
theorem mw_880 : (Jvm.Cond.classLink "StreamMarks" (220 : Nat) "java/util/NoSuchElementException") ∈ sm_WS := sm_mw sm_t4 160 rfl rfl
theorem mw_881 : (Jvm.Cond.instantiable "java/util/NoSuchElementException" (6 : Nat)) ∈ sm_WS := sm_mw sm_t4 161 rfl rfl
theorem mn_882 : (Jvm.Cond.castable "java/util/NoSuchElementException" "java/util/NoSuchElementException") ∈ sm_NW := sm_mn sm_t4 162 rfl rfl
theorem mw_883 : (Jvm.Cond.selects "java/util/NoSuchElementException" ({ cls := "java/lang/Throwable", name := "fillInStackTrace", desc := "(I)Ljava/lang/Throwable;" } : Jvm.MethodName) ({ cls := "java/lang/Throwable", name := "fillInStackTrace", desc := "(I)Ljava/lang/Throwable;" } : Jvm.MethodName)) ∈ sm_WS := sm_mw sm_t4 163 rfl rfl
theorem mw_890 : (Jvm.Cond.methodLink "StreamMarks" (224 : Nat) ({ cls := "java/util/NoSuchElementException", name := "<init>", desc := "(Ljava/lang/String;)V" } : Jvm.MethodName)) ∈ sm_WS := sm_mw sm_t4 170 rfl rfl
theorem mw_891 : (Jvm.Cond.instanceMethod ({ cls := "java/util/NoSuchElementException", name := "<init>", desc := "(Ljava/lang/String;)V" } : Jvm.MethodName)) ∈ sm_WS := sm_mw sm_t4 171 rfl rfl
theorem mw_892 : (Jvm.Cond.code ({ cls := "java/util/NoSuchElementException", name := "<init>", desc := "(Ljava/lang/String;)V" } : Jvm.MethodName) prog_26_method_4_code (2 : Nat) (Option.none : Option Jvm.ClassFile.FieldType)) ∈ sm_WS := sm_mw sm_t4 172 rfl rfl
theorem mw_893 : (Jvm.Cond.methodLink "java/util/NoSuchElementException" (13 : Nat) ({ cls := "java/lang/RuntimeException", name := "<init>", desc := "(Ljava/lang/String;)V" } : Jvm.MethodName)) ∈ sm_WS := sm_mw sm_t4 173 rfl rfl
theorem mw_896 : (Jvm.Cond.methodLink "StreamMarks" (141 : Nat) ({ cls := "StreamMarks$Rules", name := "isCoding", desc := "(IIII)Z" } : Jvm.MethodName)) ∈ sm_WS := sm_mw sm_t4 176 rfl rfl
theorem mw_898 : (Jvm.Cond.methodLink "StreamMarks" (147 : Nat) ({ cls := "StreamMarks$Coding", name := "setBlocks", desc := "(IIIIZ)V" } : Jvm.MethodName)) ∈ sm_WS := sm_mw sm_t4 178 rfl rfl
theorem mw_899 : (Jvm.Cond.methodLink "StreamMarksLaw" (118 : Nat) ({ cls := "StreamMarksLaw", name := "precincts", desc := "(LStreamMarks;IIII)I" } : Jvm.MethodName)) ∈ sm_WS := sm_mw sm_t4 179 rfl rfl
theorem mw_900 : (Jvm.Cond.static ({ cls := "StreamMarksLaw", name := "precincts", desc := "(LStreamMarks;IIII)I" } : Jvm.MethodName)) ∈ sm_WS := sm_mw sm_t4 180 rfl rfl
theorem mw_901 : (Jvm.Cond.codeWith ({ cls := "StreamMarksLaw", name := "precincts", desc := "(LStreamMarks;IIII)I" } : Jvm.MethodName) method_8_code (6 : Nat) (Option.some Jvm.ClassFile.FieldType.int) [((0 : Nat), (9 : Nat), (12 : Nat), (32 : Nat)), ((0 : Nat), (9 : Nat), (16 : Nat), (13 : Nat))]) ∈ sm_WS := sm_mw sm_t4 181 rfl rfl
theorem mw_902 : (Jvm.Cond.methodLink "StreamMarksLaw" (34 : Nat) ({ cls := "StreamMarks", name := "precincts", desc := "(IIII)V" } : Jvm.MethodName)) ∈ sm_WS := sm_mw sm_t4 182 rfl rfl
theorem mw_903 : (Jvm.Cond.instanceMethod ({ cls := "StreamMarks", name := "precincts", desc := "(IIII)V" } : Jvm.MethodName)) ∈ sm_WS := sm_mw sm_t4 183 rfl rfl
theorem mw_904 : (Jvm.Cond.selects "StreamMarks" ({ cls := "StreamMarks", name := "precincts", desc := "(IIII)V" } : Jvm.MethodName) ({ cls := "StreamMarks", name := "precincts", desc := "(IIII)V" } : Jvm.MethodName)) ∈ sm_WS := sm_mw sm_t4 184 rfl rfl
theorem mw_905 : (Jvm.Cond.code ({ cls := "StreamMarks", name := "precincts", desc := "(IIII)V" } : Jvm.MethodName) prog_1_method_8_code (6 : Nat) (Option.none : Option Jvm.ClassFile.FieldType)) ∈ sm_WS := sm_mw sm_t4 185 rfl rfl
theorem mw_906 : (Jvm.Cond.methodLink "StreamMarks" (153 : Nat) ({ cls := "StreamMarks$Rules", name := "isPrecinct", desc := "(III)Z" } : Jvm.MethodName)) ∈ sm_WS := sm_mw sm_t4 186 rfl rfl
theorem mw_908 : (Jvm.Cond.methodLink "StreamMarks" (158 : Nat) ({ cls := "StreamMarks$Coding", name := "setPrecinct", desc := "(III)V" } : Jvm.MethodName)) ∈ sm_WS := sm_mw sm_t4 188 rfl rfl
theorem mw_909 : (Jvm.Cond.methodLink "StreamMarksLaw" (121 : Nat) ({ cls := "StreamMarksLaw", name := "steps", desc := "(LStreamMarks;IIII)I" } : Jvm.MethodName)) ∈ sm_WS := sm_mw sm_t4 189 rfl rfl
theorem mw_910 : (Jvm.Cond.static ({ cls := "StreamMarksLaw", name := "steps", desc := "(LStreamMarks;IIII)I" } : Jvm.MethodName)) ∈ sm_WS := sm_mw sm_t4 190 rfl rfl
theorem mw_911 : (Jvm.Cond.codeWith ({ cls := "StreamMarksLaw", name := "steps", desc := "(LStreamMarks;IIII)I" } : Jvm.MethodName) method_9_code (6 : Nat) (Option.some Jvm.ClassFile.FieldType.int) [((0 : Nat), (9 : Nat), (12 : Nat), (32 : Nat)), ((0 : Nat), (9 : Nat), (16 : Nat), (13 : Nat))]) ∈ sm_WS := sm_mw sm_t4 191 rfl rfl
theorem mw_912 : (Jvm.Cond.methodLink "StreamMarksLaw" (37 : Nat) ({ cls := "StreamMarks", name := "steps", desc := "(IIII)V" } : Jvm.MethodName)) ∈ sm_WS := sm_mw sm_t4 192 rfl rfl
theorem mw_913 : (Jvm.Cond.instanceMethod ({ cls := "StreamMarks", name := "steps", desc := "(IIII)V" } : Jvm.MethodName)) ∈ sm_WS := sm_mw sm_t4 193 rfl rfl
theorem mw_914 : (Jvm.Cond.selects "StreamMarks" ({ cls := "StreamMarks", name := "steps", desc := "(IIII)V" } : Jvm.MethodName) ({ cls := "StreamMarks", name := "steps", desc := "(IIII)V" } : Jvm.MethodName)) ∈ sm_WS := sm_mw sm_t4 194 rfl rfl
theorem mw_915 : (Jvm.Cond.code ({ cls := "StreamMarks", name := "steps", desc := "(IIII)V" } : Jvm.MethodName) prog_1_method_9_code (6 : Nat) (Option.none : Option Jvm.ClassFile.FieldType)) ∈ sm_WS := sm_mw sm_t4 195 rfl rfl
theorem mw_916 : (Jvm.Cond.methodLink "StreamMarks" (162 : Nat) ({ cls := "StreamMarks$Rules", name := "isStepping", desc := "(II)Z" } : Jvm.MethodName)) ∈ sm_WS := sm_mw sm_t4 196 rfl rfl
theorem mw_917 : (Jvm.Cond.methodLink "StreamMarks" (166 : Nat) ({ cls := "StreamMarks$Rules", name := "isShift", desc := "(I)Z" } : Jvm.MethodName)) ∈ sm_WS := sm_mw sm_t4 197 rfl rfl
theorem mw_919 : (Jvm.Cond.methodLink "StreamMarksLaw" (124 : Nat) ({ cls := "StreamMarksLaw", name := "step", desc := "(LStreamMarks;III)I" } : Jvm.MethodName)) ∈ sm_WS := sm_mw sm_t4 199 rfl rfl
theorem mw_920 : (Jvm.Cond.static ({ cls := "StreamMarksLaw", name := "step", desc := "(LStreamMarks;III)I" } : Jvm.MethodName)) ∈ sm_WS := sm_mw sm_t4 200 rfl rfl
theorem mw_921 : (Jvm.Cond.codeWith ({ cls := "StreamMarksLaw", name := "step", desc := "(LStreamMarks;III)I" } : Jvm.MethodName) method_10_code (5 : Nat) (Option.some Jvm.ClassFile.FieldType.int) [((0 : Nat), (7 : Nat), (10 : Nat), (32 : Nat)), ((0 : Nat), (7 : Nat), (14 : Nat), (13 : Nat))]) ∈ sm_WS := sm_mw sm_t4 201 rfl rfl
theorem mw_922 : (Jvm.Cond.methodLink "StreamMarksLaw" (40 : Nat) ({ cls := "StreamMarks", name := "step", desc := "(III)V" } : Jvm.MethodName)) ∈ sm_WS := sm_mw sm_t4 202 rfl rfl
theorem mw_923 : (Jvm.Cond.instanceMethod ({ cls := "StreamMarks", name := "step", desc := "(III)V" } : Jvm.MethodName)) ∈ sm_WS := sm_mw sm_t4 203 rfl rfl
theorem mw_924 : (Jvm.Cond.selects "StreamMarks" ({ cls := "StreamMarks", name := "step", desc := "(III)V" } : Jvm.MethodName) ({ cls := "StreamMarks", name := "step", desc := "(III)V" } : Jvm.MethodName)) ∈ sm_WS := sm_mw sm_t4 204 rfl rfl
theorem mw_925 : (Jvm.Cond.code ({ cls := "StreamMarks", name := "step", desc := "(III)V" } : Jvm.MethodName) prog_1_method_10_code (5 : Nat) (Option.none : Option Jvm.ClassFile.FieldType)) ∈ sm_WS := sm_mw sm_t4 205 rfl rfl
theorem mw_926 : (Jvm.Cond.constant "StreamMarks" (186 : Nat) (65535 : Int32)) ∈ sm_WS := sm_mw sm_t4 206 rfl rfl
theorem mw_928 : (Jvm.Cond.methodLink "StreamMarks" (189 : Nat) ({ cls := "StreamMarks$Steps", name := "setValue", desc := "(II)V" } : Jvm.MethodName)) ∈ sm_WS := sm_mw sm_t4 208 rfl rfl
theorem mw_929 : (Jvm.Cond.methodLink "StreamMarksLaw" (128 : Nat) ({ cls := "StreamMarksLaw", name := "change", desc := "(LStreamMarks;IIIIII[J)I" } : Jvm.MethodName)) ∈ sm_WS := sm_mw sm_t4 209 rfl rfl
theorem mw_930 : (Jvm.Cond.static ({ cls := "StreamMarksLaw", name := "change", desc := "(LStreamMarks;IIIIII[J)I" } : Jvm.MethodName)) ∈ sm_WS := sm_mw sm_t4 210 rfl rfl
theorem mw_931 : (Jvm.Cond.codeWith ({ cls := "StreamMarksLaw", name := "change", desc := "(LStreamMarks;IIIIII[J)I" } : Jvm.MethodName) method_11_code (9 : Nat) (Option.some Jvm.ClassFile.FieldType.int) [((0 : Nat), (18 : Nat), (21 : Nat), (13 : Nat)), ((0 : Nat), (18 : Nat), (25 : Nat), (18 : Nat))]) ∈ sm_WS := sm_mw sm_t4 211 rfl rfl
theorem mw_932 : (Jvm.Cond.methodLink "StreamMarksLaw" (44 : Nat) ({ cls := "StreamMarks", name := "change", desc := "(IIIIII)I" } : Jvm.MethodName)) ∈ sm_WS := sm_mw sm_t4 212 rfl rfl
theorem mw_933 : (Jvm.Cond.instanceMethod ({ cls := "StreamMarks", name := "change", desc := "(IIIIII)I" } : Jvm.MethodName)) ∈ sm_WS := sm_mw sm_t4 213 rfl rfl
theorem mw_934 : (Jvm.Cond.selects "StreamMarks" ({ cls := "StreamMarks", name := "change", desc := "(IIIIII)I" } : Jvm.MethodName) ({ cls := "StreamMarks", name := "change", desc := "(IIIIII)I" } : Jvm.MethodName)) ∈ sm_WS := sm_mw sm_t4 214 rfl rfl
theorem mw_935 : (Jvm.Cond.code ({ cls := "StreamMarks", name := "change", desc := "(IIIIII)I" } : Jvm.MethodName) prog_1_method_11_code (7 : Nat) (Option.some Jvm.ClassFile.FieldType.int)) ∈ sm_WS := sm_mw sm_t4 215 rfl rfl
theorem mw_936 : (Jvm.Cond.methodLink "StreamMarks" (193 : Nat) ({ cls := "StreamMarks$Rules", name := "isChange", desc := "(IIIIII)Z" } : Jvm.MethodName)) ∈ sm_WS := sm_mw sm_t4 216 rfl rfl
theorem mw_939 : (Jvm.Cond.methodLink "StreamMarks" (204 : Nat) ({ cls := "StreamMarks$Plan", name := "addChange", desc := "(IIIIII)V" } : Jvm.MethodName)) ∈ sm_WS := sm_mw sm_t4 219 rfl rfl
theorem mw_940 : (Jvm.Cond.methodLink "StreamMarksLaw" (132 : Nat) ({ cls := "StreamMarksLaw", name := "get", desc := "(LStreamMarks;III[J)I" } : Jvm.MethodName)) ∈ sm_WS := sm_mw sm_t4 220 rfl rfl
theorem mw_941 : (Jvm.Cond.static ({ cls := "StreamMarksLaw", name := "get", desc := "(LStreamMarks;III[J)I" } : Jvm.MethodName)) ∈ sm_WS := sm_mw sm_t4 221 rfl rfl
theorem mw_942 : (Jvm.Cond.codeWith ({ cls := "StreamMarksLaw", name := "get", desc := "(LStreamMarks;III[J)I" } : Jvm.MethodName) method_12_code (6 : Nat) (Option.some Jvm.ClassFile.FieldType.int) [((0 : Nat), (12 : Nat), (15 : Nat), (32 : Nat))]) ∈ sm_WS := sm_mw sm_t4 222 rfl rfl
theorem mw_943 : (Jvm.Cond.methodLink "StreamMarksLaw" (48 : Nat) ({ cls := "StreamMarks", name := "get", desc := "(III)I" } : Jvm.MethodName)) ∈ sm_WS := sm_mw sm_t4 223 rfl rfl
theorem mw_944 : (Jvm.Cond.instanceMethod ({ cls := "StreamMarks", name := "get", desc := "(III)I" } : Jvm.MethodName)) ∈ sm_WS := sm_mw sm_t4 224 rfl rfl
theorem mw_945 : (Jvm.Cond.selects "StreamMarks" ({ cls := "StreamMarks", name := "get", desc := "(III)I" } : Jvm.MethodName) ({ cls := "StreamMarks", name := "get", desc := "(III)I" } : Jvm.MethodName)) ∈ sm_WS := sm_mw sm_t4 225 rfl rfl
theorem mw_946 : (Jvm.Cond.code ({ cls := "StreamMarks", name := "get", desc := "(III)I" } : Jvm.MethodName) prog_1_method_12_code (4 : Nat) (Option.some Jvm.ClassFile.FieldType.int)) ∈ sm_WS := sm_mw sm_t4 226 rfl rfl
theorem mw_947 : (Jvm.Cond.methodLink "StreamMarks" (208 : Nat) ({ cls := "StreamMarks$Plan", name := "number", desc := "(I)I" } : Jvm.MethodName)) ∈ sm_WS := sm_mw sm_t4 227 rfl rfl
theorem mw_948 : (Jvm.Cond.instanceMethod ({ cls := "StreamMarks$Plan", name := "number", desc := "(I)I" } : Jvm.MethodName)) ∈ sm_WS := sm_mw sm_t4 228 rfl rfl
theorem mw_949 : (Jvm.Cond.selects "StreamMarks$Plan" ({ cls := "StreamMarks$Plan", name := "number", desc := "(I)I" } : Jvm.MethodName) ({ cls := "StreamMarks$Plan", name := "number", desc := "(I)I" } : Jvm.MethodName)) ∈ sm_WS := sm_mw sm_t4 229 rfl rfl
theorem mw_950 : (Jvm.Cond.code ({ cls := "StreamMarks$Plan", name := "number", desc := "(I)I" } : Jvm.MethodName) prog_7_method_11_code (2 : Nat) (Option.some Jvm.ClassFile.FieldType.int)) ∈ sm_WS := sm_mw sm_t4 230 rfl rfl
theorem mw_951 : (Jvm.Cond.methodLink "StreamMarks" (212 : Nat) ({ cls := "StreamMarks", name := "numberOfComponent", desc := "(III)I" } : Jvm.MethodName)) ∈ sm_WS := sm_mw sm_t4 231 rfl rfl
theorem mw_953 : (Jvm.Cond.instanceMethod ({ cls := "StreamMarks", name := "numberOfComponent", desc := "(III)I" } : Jvm.MethodName)) ∈ sm_WS := sm_mw sm_t4 233 rfl rfl
theorem mw_954 : (Jvm.Cond.code ({ cls := "StreamMarks", name := "numberOfComponent", desc := "(III)I" } : Jvm.MethodName) prog_1_method_26_code (6 : Nat) (Option.some Jvm.ClassFile.FieldType.int)) ∈ sm_WS := sm_mw sm_t4 234 rfl rfl
theorem mw_956 : (Jvm.Cond.methodLink "StreamMarks" (327 : Nat) ({ cls := "StreamMarks$Component", name := "number", desc := "(II)I" } : Jvm.MethodName)) ∈ sm_WS := sm_mw sm_t4 236 rfl rfl
theorem mw_957 : (Jvm.Cond.instanceMethod ({ cls := "StreamMarks$Component", name := "number", desc := "(II)I" } : Jvm.MethodName)) ∈ sm_WS := sm_mw sm_t4 237 rfl rfl
theorem mw_958 : (Jvm.Cond.selects "StreamMarks$Component" ({ cls := "StreamMarks$Component", name := "number", desc := "(II)I" } : Jvm.MethodName) ({ cls := "StreamMarks$Component", name := "number", desc := "(II)I" } : Jvm.MethodName)) ∈ sm_WS := sm_mw sm_t4 238 rfl rfl
theorem mw_959 : (Jvm.Cond.code ({ cls := "StreamMarks$Component", name := "number", desc := "(II)I" } : Jvm.MethodName) prog_3_method_3_code (3 : Nat) (Option.some Jvm.ClassFile.FieldType.int)) ∈ sm_WS := sm_mw sm_t4 239 rfl rfl
theorem mw_960 : (Jvm.Cond.methodLink "StreamMarks$Component" (65 : Nat) ({ cls := "StreamMarks$Coding", name := "pwOf", desc := "(I)I" } : Jvm.MethodName)) ∈ sm_WS := sm_mw sm_t5 0 rfl rfl
theorem mw_961 : (Jvm.Cond.instanceMethod ({ cls := "StreamMarks$Coding", name := "pwOf", desc := "(I)I" } : Jvm.MethodName)) ∈ sm_WS := sm_mw sm_t5 1 rfl rfl
theorem mw_962 : (Jvm.Cond.selects "StreamMarks$Coding" ({ cls := "StreamMarks$Coding", name := "pwOf", desc := "(I)I" } : Jvm.MethodName) ({ cls := "StreamMarks$Coding", name := "pwOf", desc := "(I)I" } : Jvm.MethodName)) ∈ sm_WS := sm_mw sm_t5 2 rfl rfl
theorem mw_963 : (Jvm.Cond.code ({ cls := "StreamMarks$Coding", name := "pwOf", desc := "(I)I" } : Jvm.MethodName) prog_2_method_6_code (2 : Nat) (Option.some Jvm.ClassFile.FieldType.int)) ∈ sm_WS := sm_mw sm_t5 3 rfl rfl
theorem mw_964 : (Jvm.Cond.methodLink "StreamMarks$Component" (69 : Nat) ({ cls := "StreamMarks$Coding", name := "phOf", desc := "(I)I" } : Jvm.MethodName)) ∈ sm_WS := sm_mw sm_t5 4 rfl rfl
theorem mw_965 : (Jvm.Cond.instanceMethod ({ cls := "StreamMarks$Coding", name := "phOf", desc := "(I)I" } : Jvm.MethodName)) ∈ sm_WS := sm_mw sm_t5 5 rfl rfl
theorem mw_966 : (Jvm.Cond.selects "StreamMarks$Coding" ({ cls := "StreamMarks$Coding", name := "phOf", desc := "(I)I" } : Jvm.MethodName) ({ cls := "StreamMarks$Coding", name := "phOf", desc := "(I)I" } : Jvm.MethodName)) ∈ sm_WS := sm_mw sm_t5 6 rfl rfl
theorem mw_967 : (Jvm.Cond.code ({ cls := "StreamMarks$Coding", name := "phOf", desc := "(I)I" } : Jvm.MethodName) prog_2_method_7_code (2 : Nat) (Option.some Jvm.ClassFile.FieldType.int)) ∈ sm_WS := sm_mw sm_t5 7 rfl rfl
theorem mw_968 : (Jvm.Cond.methodLink "StreamMarks$Component" (72 : Nat) ({ cls := "StreamMarks$Steps", name := "valueOf", desc := "(I)I" } : Jvm.MethodName)) ∈ sm_WS := sm_mw sm_t5 8 rfl rfl
theorem mw_969 : (Jvm.Cond.instanceMethod ({ cls := "StreamMarks$Steps", name := "valueOf", desc := "(I)I" } : Jvm.MethodName)) ∈ sm_WS := sm_mw sm_t5 9 rfl rfl
theorem mw_970 : (Jvm.Cond.selects "StreamMarks$Steps" ({ cls := "StreamMarks$Steps", name := "valueOf", desc := "(I)I" } : Jvm.MethodName) ({ cls := "StreamMarks$Steps", name := "valueOf", desc := "(I)I" } : Jvm.MethodName)) ∈ sm_WS := sm_mw sm_t5 10 rfl rfl
theorem mw_971 : (Jvm.Cond.code ({ cls := "StreamMarks$Steps", name := "valueOf", desc := "(I)I" } : Jvm.MethodName) prog_11_method_5_code (2 : Nat) (Option.some Jvm.ClassFile.FieldType.int)) ∈ sm_WS := sm_mw sm_t5 11 rfl rfl
theorem mw_972 : (Jvm.Cond.methodLink "StreamMarks" (216 : Nat) ({ cls := "StreamMarks$Plan", name := "numberOfChange", desc := "(II)I" } : Jvm.MethodName)) ∈ sm_WS := sm_mw sm_t5 12 rfl rfl
theorem mw_973 : (Jvm.Cond.instanceMethod ({ cls := "StreamMarks$Plan", name := "numberOfChange", desc := "(II)I" } : Jvm.MethodName)) ∈ sm_WS := sm_mw sm_t5 13 rfl rfl
theorem mw_974 : (Jvm.Cond.selects "StreamMarks$Plan" ({ cls := "StreamMarks$Plan", name := "numberOfChange", desc := "(II)I" } : Jvm.MethodName) ({ cls := "StreamMarks$Plan", name := "numberOfChange", desc := "(II)I" } : Jvm.MethodName)) ∈ sm_WS := sm_mw sm_t5 14 rfl rfl
theorem mw_975 : (Jvm.Cond.code ({ cls := "StreamMarks$Plan", name := "numberOfChange", desc := "(II)I" } : Jvm.MethodName) prog_7_method_10_code (4 : Nat) (Option.some Jvm.ClassFile.FieldType.int)) ∈ sm_WS := sm_mw sm_t5 15 rfl rfl
theorem mw_977 : (Jvm.Cond.methodLink "StreamMarksLaw" (140 : Nat) ({ cls := "StreamMarksLaw", name := "put", desc := "(LStreamMarks;I[J)I" } : Jvm.MethodName)) ∈ sm_WS := sm_mw sm_t5 17 rfl rfl
theorem mw_978 : (Jvm.Cond.static ({ cls := "StreamMarksLaw", name := "put", desc := "(LStreamMarks;I[J)I" } : Jvm.MethodName)) ∈ sm_WS := sm_mw sm_t5 18 rfl rfl
theorem mw_979 : (Jvm.Cond.codeWith ({ cls := "StreamMarksLaw", name := "put", desc := "(LStreamMarks;I[J)I" } : Jvm.MethodName) method_13_code (4 : Nat) (Option.some Jvm.ClassFile.FieldType.int) [((0 : Nat), (9 : Nat), (12 : Nat), (13 : Nat)), ((0 : Nat), (9 : Nat), (15 : Nat), (56 : Nat))]) ∈ sm_WS := sm_mw sm_t5 19 rfl rfl
theorem mw_980 : (Jvm.Cond.classLink "StreamMarksLaw" (56 : Nat) "java/lang/UnsupportedOperationException") ∈ sm_WS := sm_mw sm_t5 20 rfl rfl
theorem mw_981 : (Jvm.Cond.methodLink "StreamMarksLaw" (52 : Nat) ({ cls := "StreamMarks", name := "put", desc := "(I)I" } : Jvm.MethodName)) ∈ sm_WS := sm_mw sm_t5 21 rfl rfl
theorem mw_982 : (Jvm.Cond.instanceMethod ({ cls := "StreamMarks", name := "put", desc := "(I)I" } : Jvm.MethodName)) ∈ sm_WS := sm_mw sm_t5 22 rfl rfl
theorem mw_983 : (Jvm.Cond.selects "StreamMarks" ({ cls := "StreamMarks", name := "put", desc := "(I)I" } : Jvm.MethodName) ({ cls := "StreamMarks", name := "put", desc := "(I)I" } : Jvm.MethodName)) ∈ sm_WS := sm_mw sm_t5 23 rfl rfl
theorem mw_984 : (Jvm.Cond.code ({ cls := "StreamMarks", name := "put", desc := "(I)I" } : Jvm.MethodName) prog_1_method_14_code (2 : Nat) (Option.some Jvm.ClassFile.FieldType.int)) ∈ sm_WS := sm_mw sm_t5 24 rfl rfl
theorem mw_986 : (Jvm.Cond.methodLink "StreamMarks" (230 : Nat) ({ cls := "StreamMarks", name := "demandRoom", desc := "(I)V" } : Jvm.MethodName)) ∈ sm_WS := sm_mw sm_t5 26 rfl rfl
theorem mw_988 : (Jvm.Cond.instanceMethod ({ cls := "StreamMarks", name := "demandRoom", desc := "(I)V" } : Jvm.MethodName)) ∈ sm_WS := sm_mw sm_t5 28 rfl rfl
theorem mw_989 : (Jvm.Cond.code ({ cls := "StreamMarks", name := "demandRoom", desc := "(I)V" } : Jvm.MethodName) prog_1_method_27_code (2 : Nat) (Option.none : Option Jvm.ClassFile.FieldType)) ∈ sm_WS := sm_mw sm_t5 29 rfl rfl
theorem mw_990 : (Jvm.Cond.constant "StreamMarks" (260 : Nat) (65536 : Int32)) ∈ sm_WS := sm_mw sm_t5 30 rfl rfl
theorem mw_991 : (Jvm.Cond.classLink "StreamMarks" (328 : Nat) "java/lang/UnsupportedOperationException") ∈ sm_WS := sm_mw sm_t5 31 rfl rfl
theorem mw_992 : (Jvm.Cond.instantiable "java/lang/UnsupportedOperationException" (6 : Nat)) ∈ sm_WS := sm_mw sm_t5 32 rfl rfl
theorem mn_993 : (Jvm.Cond.castable "java/lang/UnsupportedOperationException" "java/lang/UnsupportedOperationException") ∈ sm_NW := sm_mn sm_t5 33 rfl rfl
theorem mw_994 : (Jvm.Cond.selects "java/lang/UnsupportedOperationException" ({ cls := "java/lang/Throwable", name := "fillInStackTrace", desc := "(I)Ljava/lang/Throwable;" } : Jvm.MethodName) ({ cls := "java/lang/Throwable", name := "fillInStackTrace", desc := "(I)Ljava/lang/Throwable;" } : Jvm.MethodName)) ∈ sm_WS := sm_mw sm_t5 34 rfl rfl
theorem mw_1001 : (Jvm.Cond.methodLink "StreamMarks" (332 : Nat) ({ cls := "java/lang/UnsupportedOperationException", name := "<init>", desc := "(Ljava/lang/String;)V" } : Jvm.MethodName)) ∈ sm_WS := sm_mw sm_t5 41 rfl rfl
theorem mw_1002 : (Jvm.Cond.instanceMethod ({ cls := "java/lang/UnsupportedOperationException", name := "<init>", desc := "(Ljava/lang/String;)V" } : Jvm.MethodName)) ∈ sm_WS := sm_mw sm_t5 42 rfl rfl
theorem mw_1003 : (Jvm.Cond.code ({ cls := "java/lang/UnsupportedOperationException", name := "<init>", desc := "(Ljava/lang/String;)V" } : Jvm.MethodName) prog_24_method_2_code (2 : Nat) (Option.none : Option Jvm.ClassFile.FieldType)) ∈ sm_WS := sm_mw sm_t5 43 rfl rfl
theorem mw_1004 : (Jvm.Cond.methodLink "java/lang/UnsupportedOperationException" (7 : Nat) ({ cls := "java/lang/RuntimeException", name := "<init>", desc := "(Ljava/lang/String;)V" } : Jvm.MethodName)) ∈ sm_WS := sm_mw sm_t5 44 rfl rfl
theorem mw_1007 : (Jvm.Cond.methodLink "StreamMarks" (234 : Nat) ({ cls := "StreamMarks$Row", name := "addU1", desc := "(I)V" } : Jvm.MethodName)) ∈ sm_WS := sm_mw sm_t5 47 rfl rfl
theorem mw_1008 : (Jvm.Cond.methodLink "StreamMarksLaw" (144 : Nat) ({ cls := "StreamMarksLaw", name := "at", desc := "(LStreamMarks;I[J)I" } : Jvm.MethodName)) ∈ sm_WS := sm_mw sm_t5 48 rfl rfl
theorem mw_1009 : (Jvm.Cond.static ({ cls := "StreamMarksLaw", name := "at", desc := "(LStreamMarks;I[J)I" } : Jvm.MethodName)) ∈ sm_WS := sm_mw sm_t5 49 rfl rfl
theorem mw_1010 : (Jvm.Cond.codeWith ({ cls := "StreamMarksLaw", name := "at", desc := "(LStreamMarks;I[J)I" } : Jvm.MethodName) method_14_code (4 : Nat) (Option.some Jvm.ClassFile.FieldType.int) [((0 : Nat), (9 : Nat), (12 : Nat), (32 : Nat))]) ∈ sm_WS := sm_mw sm_t5 50 rfl rfl
theorem mw_1011 : (Jvm.Cond.methodLink "StreamMarksLaw" (58 : Nat) ({ cls := "StreamMarks", name := "at", desc := "(I)I" } : Jvm.MethodName)) ∈ sm_WS := sm_mw sm_t5 51 rfl rfl
theorem mw_1012 : (Jvm.Cond.instanceMethod ({ cls := "StreamMarks", name := "at", desc := "(I)I" } : Jvm.MethodName)) ∈ sm_WS := sm_mw sm_t5 52 rfl rfl
theorem mw_1013 : (Jvm.Cond.selects "StreamMarks" ({ cls := "StreamMarks", name := "at", desc := "(I)I" } : Jvm.MethodName) ({ cls := "StreamMarks", name := "at", desc := "(I)I" } : Jvm.MethodName)) ∈ sm_WS := sm_mw sm_t5 53 rfl rfl
theorem mw_1014 : (Jvm.Cond.code ({ cls := "StreamMarks", name := "at", desc := "(I)I" } : Jvm.MethodName) prog_1_method_15_code (2 : Nat) (Option.some Jvm.ClassFile.FieldType.int)) ∈ sm_WS := sm_mw sm_t5 54 rfl rfl
theorem mw_1015 : (Jvm.Cond.methodLink "StreamMarks" (240 : Nat) ({ cls := "StreamMarks$Row", name := "has", desc := "(I)Z" } : Jvm.MethodName)) ∈ sm_WS := sm_mw sm_t5 55 rfl rfl
theorem mw_1016 : (Jvm.Cond.instanceMethod ({ cls := "StreamMarks$Row", name := "has", desc := "(I)Z" } : Jvm.MethodName)) ∈ sm_WS := sm_mw sm_t5 56 rfl rfl
theorem mw_1017 : (Jvm.Cond.selects "StreamMarks$Row" ({ cls := "StreamMarks$Row", name := "has", desc := "(I)Z" } : Jvm.MethodName) ({ cls := "StreamMarks$Row", name := "has", desc := "(I)Z" } : Jvm.MethodName)) ∈ sm_WS := sm_mw sm_t5 57 rfl rfl
theorem mw_1018 : (Jvm.Cond.code ({ cls := "StreamMarks$Row", name := "has", desc := "(I)Z" } : Jvm.MethodName) prog_8_method_2_code (2 : Nat) (Option.some Jvm.ClassFile.FieldType.boolean)) ∈ sm_WS := sm_mw sm_t5 58 rfl rfl
theorem mw_1020 : (Jvm.Cond.methodLink "StreamMarks" (245 : Nat) ({ cls := "StreamMarks$Row", name := "u1", desc := "(I)I" } : Jvm.MethodName)) ∈ sm_WS := sm_mw sm_t5 60 rfl rfl
theorem mw_1021 : (Jvm.Cond.methodLink "StreamMarksLaw" (147 : Nat) ({ cls := "StreamMarksLaw", name := "write", desc := "(LStreamMarks;[J)I" } : Jvm.MethodName)) ∈ sm_WS := sm_mw sm_t5 61 rfl rfl
theorem mw_1022 : (Jvm.Cond.static ({ cls := "StreamMarksLaw", name := "write", desc := "(LStreamMarks;[J)I" } : Jvm.MethodName)) ∈ sm_WS := sm_mw sm_t5 62 rfl rfl
theorem mw_1023 : (Jvm.Cond.codeWith ({ cls := "StreamMarksLaw", name := "write", desc := "(LStreamMarks;[J)I" } : Jvm.MethodName) method_15_code (3 : Nat) (Option.some Jvm.ClassFile.FieldType.int) [((0 : Nat), (8 : Nat), (11 : Nat), (18 : Nat)), ((0 : Nat), (8 : Nat), (14 : Nat), (56 : Nat))]) ∈ sm_WS := sm_mw sm_t5 63 rfl rfl
theorem mw_1024 : (Jvm.Cond.methodLink "StreamMarksLaw" (61 : Nat) ({ cls := "StreamMarks", name := "write", desc := "()I" } : Jvm.MethodName)) ∈ sm_WS := sm_mw sm_t5 64 rfl rfl
theorem mw_1025 : (Jvm.Cond.instanceMethod ({ cls := "StreamMarks", name := "write", desc := "()I" } : Jvm.MethodName)) ∈ sm_WS := sm_mw sm_t5 65 rfl rfl
theorem mw_1026 : (Jvm.Cond.selects "StreamMarks" ({ cls := "StreamMarks", name := "write", desc := "()I" } : Jvm.MethodName) ({ cls := "StreamMarks", name := "write", desc := "()I" } : Jvm.MethodName)) ∈ sm_WS := sm_mw sm_t5 66 rfl rfl
theorem mw_1027 : (Jvm.Cond.code ({ cls := "StreamMarks", name := "write", desc := "()I" } : Jvm.MethodName) prog_1_method_16_code (1 : Nat) (Option.some Jvm.ClassFile.FieldType.int)) ∈ sm_WS := sm_mw sm_t5 67 rfl rfl
theorem mw_1029 : (Jvm.Cond.methodLink "StreamMarks" (250 : Nat) ({ cls := "StreamMarks$Writer", name := "writePlan", desc := "(LStreamMarks$Plan;LStreamMarks$Row;)V" } : Jvm.MethodName)) ∈ sm_WS := sm_mw sm_t5 69 rfl rfl
theorem mw_1030 : (Jvm.Cond.static ({ cls := "StreamMarks$Writer", name := "writePlan", desc := "(LStreamMarks$Plan;LStreamMarks$Row;)V" } : Jvm.MethodName)) ∈ sm_WS := sm_mw sm_t5 70 rfl rfl
theorem mw_1031 : (Jvm.Cond.code ({ cls := "StreamMarks$Writer", name := "writePlan", desc := "(LStreamMarks$Plan;LStreamMarks$Row;)V" } : Jvm.MethodName) prog_12_method_2_code (3 : Nat) (Option.none : Option Jvm.ClassFile.FieldType)) ∈ sm_WS := sm_mw sm_t5 71 rfl rfl
theorem mw_1032 : (Jvm.Cond.methodLink "StreamMarks$Writer" (9 : Nat) ({ cls := "StreamMarks$Plan", name := "componentOrNull", desc := "(I)LStreamMarks$Component;" } : Jvm.MethodName)) ∈ sm_WS := sm_mw sm_t5 72 rfl rfl
theorem mw_1033 : (Jvm.Cond.methodLink "StreamMarks$Writer" (15 : Nat) ({ cls := "StreamMarks$Row", name := "addMark", desc := "(I)V" } : Jvm.MethodName)) ∈ sm_WS := sm_mw sm_t5 73 rfl rfl
theorem mw_1034 : (Jvm.Cond.instanceMethod ({ cls := "StreamMarks$Row", name := "addMark", desc := "(I)V" } : Jvm.MethodName)) ∈ sm_WS := sm_mw sm_t5 74 rfl rfl
theorem mw_1035 : (Jvm.Cond.selects "StreamMarks$Row" ({ cls := "StreamMarks$Row", name := "addMark", desc := "(I)V" } : Jvm.MethodName) ({ cls := "StreamMarks$Row", name := "addMark", desc := "(I)V" } : Jvm.MethodName)) ∈ sm_WS := sm_mw sm_t5 75 rfl rfl
theorem mw_1036 : (Jvm.Cond.code ({ cls := "StreamMarks$Row", name := "addMark", desc := "(I)V" } : Jvm.MethodName) prog_8_method_11_code (2 : Nat) (Option.none : Option Jvm.ClassFile.FieldType)) ∈ sm_WS := sm_mw sm_t5 76 rfl rfl
theorem mw_1037 : (Jvm.Cond.methodLink "StreamMarks$Writer" (21 : Nat) ({ cls := "StreamMarks$Writer", name := "writeSize", desc := "(LStreamMarks$Plan;LStreamMarks$Row;)V" } : Jvm.MethodName)) ∈ sm_WS := sm_mw sm_t5 77 rfl rfl
theorem mw_1038 : (Jvm.Cond.static ({ cls := "StreamMarks$Writer", name := "writeSize", desc := "(LStreamMarks$Plan;LStreamMarks$Row;)V" } : Jvm.MethodName)) ∈ sm_WS := sm_mw sm_t5 78 rfl rfl
theorem mw_1039 : (Jvm.Cond.code ({ cls := "StreamMarks$Writer", name := "writeSize", desc := "(LStreamMarks$Plan;LStreamMarks$Row;)V" } : Jvm.MethodName) prog_12_method_3_code (4 : Nat) (Option.none : Option Jvm.ClassFile.FieldType)) ∈ sm_WS := sm_mw sm_t5 79 rfl rfl
theorem mw_1040 : (Jvm.Cond.methodLink "StreamMarks$Writer" (41 : Nat) ({ cls := "StreamMarks$Row", name := "addSegment", desc := "(II)V" } : Jvm.MethodName)) ∈ sm_WS := sm_mw sm_t5 80 rfl rfl
theorem mw_1041 : (Jvm.Cond.instanceMethod ({ cls := "StreamMarks$Row", name := "addSegment", desc := "(II)V" } : Jvm.MethodName)) ∈ sm_WS := sm_mw sm_t5 81 rfl rfl
theorem mw_1042 : (Jvm.Cond.selects "StreamMarks$Row" ({ cls := "StreamMarks$Row", name := "addSegment", desc := "(II)V" } : Jvm.MethodName) ({ cls := "StreamMarks$Row", name := "addSegment", desc := "(II)V" } : Jvm.MethodName)) ∈ sm_WS := sm_mw sm_t5 82 rfl rfl
theorem mw_1043 : (Jvm.Cond.code ({ cls := "StreamMarks$Row", name := "addSegment", desc := "(II)V" } : Jvm.MethodName) prog_8_method_12_code (3 : Nat) (Option.none : Option Jvm.ClassFile.FieldType)) ∈ sm_WS := sm_mw sm_t5 83 rfl rfl
theorem mw_1044 : (Jvm.Cond.methodLink "StreamMarks$Row" (37 : Nat) ({ cls := "StreamMarks$Row", name := "addMark", desc := "(I)V" } : Jvm.MethodName)) ∈ sm_WS := sm_mw sm_t5 84 rfl rfl
theorem mw_1045 : (Jvm.Cond.methodLink "StreamMarks$Row" (34 : Nat) ({ cls := "StreamMarks$Row", name := "addU2", desc := "(I)V" } : Jvm.MethodName)) ∈ sm_WS := sm_mw sm_t5 85 rfl rfl
theorem mw_1046 : (Jvm.Cond.instanceMethod ({ cls := "StreamMarks$Row", name := "addU2", desc := "(I)V" } : Jvm.MethodName)) ∈ sm_WS := sm_mw sm_t5 86 rfl rfl
theorem mw_1047 : (Jvm.Cond.selects "StreamMarks$Row" ({ cls := "StreamMarks$Row", name := "addU2", desc := "(I)V" } : Jvm.MethodName) ({ cls := "StreamMarks$Row", name := "addU2", desc := "(I)V" } : Jvm.MethodName)) ∈ sm_WS := sm_mw sm_t5 87 rfl rfl
theorem mw_1048 : (Jvm.Cond.code ({ cls := "StreamMarks$Row", name := "addU2", desc := "(I)V" } : Jvm.MethodName) prog_8_method_9_code (2 : Nat) (Option.none : Option Jvm.ClassFile.FieldType)) ∈ sm_WS := sm_mw sm_t5 88 rfl rfl
theorem mw_1049 : (Jvm.Cond.methodLink "StreamMarks$Writer" (66 : Nat) ({ cls := "StreamMarks$Row", name := "addU2", desc := "(I)V" } : Jvm.MethodName)) ∈ sm_WS := sm_mw sm_t5 89 rfl rfl
theorem mw_1050 : (Jvm.Cond.methodLink "StreamMarks$Writer" (73 : Nat) ({ cls := "StreamMarks$Row", name := "addU4", desc := "(I)V" } : Jvm.MethodName)) ∈ sm_WS := sm_mw sm_t5 90 rfl rfl
theorem mw_1051 : (Jvm.Cond.instanceMethod ({ cls := "StreamMarks$Row", name := "addU4", desc := "(I)V" } : Jvm.MethodName)) ∈ sm_WS := sm_mw sm_t5 91 rfl rfl
theorem mw_1052 : (Jvm.Cond.selects "StreamMarks$Row" ({ cls := "StreamMarks$Row", name := "addU4", desc := "(I)V" } : Jvm.MethodName) ({ cls := "StreamMarks$Row", name := "addU4", desc := "(I)V" } : Jvm.MethodName)) ∈ sm_WS := sm_mw sm_t5 92 rfl rfl
theorem mw_1053 : (Jvm.Cond.code ({ cls := "StreamMarks$Row", name := "addU4", desc := "(I)V" } : Jvm.MethodName) prog_8_method_10_code (2 : Nat) (Option.none : Option Jvm.ClassFile.FieldType)) ∈ sm_WS := sm_mw sm_t5 93 rfl rfl
theorem mw_1054 : (Jvm.Cond.methodLink "StreamMarks$Writer" (83 : Nat) ({ cls := "StreamMarks$Row", name := "addU1", desc := "(I)V" } : Jvm.MethodName)) ∈ sm_WS := sm_mw sm_t5 94 rfl rfl
theorem mw_1055 : (Jvm.Cond.methodLink "StreamMarks$Writer" (33 : Nat) ({ cls := "StreamMarks$Writer", name := "writeCodingOfAll", desc := "(LStreamMarks$Plan;LStreamMarks$Coding;LStreamMarks$Row;)V" } : Jvm.MethodName)) ∈ sm_WS := sm_mw sm_t5 95 rfl rfl
theorem mw_1056 : (Jvm.Cond.static ({ cls := "StreamMarks$Writer", name := "writeCodingOfAll", desc := "(LStreamMarks$Plan;LStreamMarks$Coding;LStreamMarks$Row;)V" } : Jvm.MethodName)) ∈ sm_WS := sm_mw sm_t5 96 rfl rfl
theorem mw_1057 : (Jvm.Cond.code ({ cls := "StreamMarks$Writer", name := "writeCodingOfAll", desc := "(LStreamMarks$Plan;LStreamMarks$Coding;LStreamMarks$Row;)V" } : Jvm.MethodName) prog_12_method_4_code (4 : Nat) (Option.none : Option Jvm.ClassFile.FieldType)) ∈ sm_WS := sm_mw sm_t5 97 rfl rfl
theorem mw_1058 : (Jvm.Cond.methodLink "StreamMarks$Writer" (92 : Nat) ({ cls := "StreamMarks$Coding", name := "tellsPrecincts", desc := "()Z" } : Jvm.MethodName)) ∈ sm_WS := sm_mw sm_t5 98 rfl rfl
theorem mw_1059 : (Jvm.Cond.instanceMethod ({ cls := "StreamMarks$Coding", name := "tellsPrecincts", desc := "()Z" } : Jvm.MethodName)) ∈ sm_WS := sm_mw sm_t5 99 rfl rfl
theorem mw_1060 : (Jvm.Cond.selects "StreamMarks$Coding" ({ cls := "StreamMarks$Coding", name := "tellsPrecincts", desc := "()Z" } : Jvm.MethodName) ({ cls := "StreamMarks$Coding", name := "tellsPrecincts", desc := "()Z" } : Jvm.MethodName)) ∈ sm_WS := sm_mw sm_t5 100 rfl rfl
theorem mw_1061 : (Jvm.Cond.code ({ cls := "StreamMarks$Coding", name := "tellsPrecincts", desc := "()Z" } : Jvm.MethodName) prog_2_method_8_code (2 : Nat) (Option.some Jvm.ClassFile.FieldType.boolean)) ∈ sm_WS := sm_mw sm_t5 101 rfl rfl
theorem mw_1062 : (Jvm.Cond.methodLink "StreamMarks$Coding" (48 : Nat) ({ cls := "StreamMarks$Coding", name := "pwOf", desc := "(I)I" } : Jvm.MethodName)) ∈ sm_WS := sm_mw sm_t5 102 rfl rfl
theorem mw_1063 : (Jvm.Cond.methodLink "StreamMarks$Coding" (52 : Nat) ({ cls := "StreamMarks$Coding", name := "phOf", desc := "(I)I" } : Jvm.MethodName)) ∈ sm_WS := sm_mw sm_t5 103 rfl rfl
theorem mw_1064 : (Jvm.Cond.methodLink "StreamMarks$Writer" (104 : Nat) ({ cls := "StreamMarks$Writer", name := "bodyBytes", desc := "(LStreamMarks$Coding;)I" } : Jvm.MethodName)) ∈ sm_WS := sm_mw sm_t5 104 rfl rfl
theorem mw_1065 : (Jvm.Cond.static ({ cls := "StreamMarks$Writer", name := "bodyBytes", desc := "(LStreamMarks$Coding;)I" } : Jvm.MethodName)) ∈ sm_WS := sm_mw sm_t5 105 rfl rfl
theorem mw_1066 : (Jvm.Cond.code ({ cls := "StreamMarks$Writer", name := "bodyBytes", desc := "(LStreamMarks$Coding;)I" } : Jvm.MethodName) prog_12_method_5_code (1 : Nat) (Option.some Jvm.ClassFile.FieldType.int)) ∈ sm_WS := sm_mw sm_t5 106 rfl rfl
theorem mw_1067 : (Jvm.Cond.methodLink "StreamMarks$Writer" (117 : Nat) ({ cls := "StreamMarks$Writer", name := "writeBody", desc := "(LStreamMarks$Coding;LStreamMarks$Row;)V" } : Jvm.MethodName)) ∈ sm_WS := sm_mw sm_t5 107 rfl rfl
theorem mw_1068 : (Jvm.Cond.static ({ cls := "StreamMarks$Writer", name := "writeBody", desc := "(LStreamMarks$Coding;LStreamMarks$Row;)V" } : Jvm.MethodName)) ∈ sm_WS := sm_mw sm_t5 108 rfl rfl
theorem mw_1069 : (Jvm.Cond.code ({ cls := "StreamMarks$Writer", name := "writeBody", desc := "(LStreamMarks$Coding;LStreamMarks$Row;)V" } : Jvm.MethodName) prog_12_method_6_code (3 : Nat) (Option.none : Option Jvm.ClassFile.FieldType)) ∈ sm_WS := sm_mw sm_t5 109 rfl rfl
theorem mw_1070 : (Jvm.Cond.methodLink "StreamMarks$Writer" (136 : Nat) ({ cls := "StreamMarks$Coding", name := "pwOf", desc := "(I)I" } : Jvm.MethodName)) ∈ sm_WS := sm_mw sm_t5 110 rfl rfl
theorem mw_1071 : (Jvm.Cond.methodLink "StreamMarks$Writer" (140 : Nat) ({ cls := "StreamMarks$Coding", name := "phOf", desc := "(I)I" } : Jvm.MethodName)) ∈ sm_WS := sm_mw sm_t5 111 rfl rfl
theorem mw_1072 : (Jvm.Cond.methodLink "StreamMarks$Writer" (37 : Nat) ({ cls := "StreamMarks$Writer", name := "stepBytes", desc := "(LStreamMarks$Component;)I" } : Jvm.MethodName)) ∈ sm_WS := sm_mw sm_t5 112 rfl rfl
theorem mw_1073 : (Jvm.Cond.static ({ cls := "StreamMarks$Writer", name := "stepBytes", desc := "(LStreamMarks$Component;)I" } : Jvm.MethodName)) ∈ sm_WS := sm_mw sm_t5 113 rfl rfl
theorem mw_1074 : (Jvm.Cond.code ({ cls := "StreamMarks$Writer", name := "stepBytes", desc := "(LStreamMarks$Component;)I" } : Jvm.MethodName) prog_12_method_7_code (2 : Nat) (Option.some Jvm.ClassFile.FieldType.int)) ∈ sm_WS := sm_mw sm_t5 114 rfl rfl
theorem mw_1075 : (Jvm.Cond.methodLink "StreamMarks$Writer" (147 : Nat) ({ cls := "StreamMarks$Steps", name := "countWritten", desc := "(I)I" } : Jvm.MethodName)) ∈ sm_WS := sm_mw sm_t5 115 rfl rfl
theorem mw_1076 : (Jvm.Cond.instanceMethod ({ cls := "StreamMarks$Steps", name := "countWritten", desc := "(I)I" } : Jvm.MethodName)) ∈ sm_WS := sm_mw sm_t5 116 rfl rfl
theorem mw_1077 : (Jvm.Cond.selects "StreamMarks$Steps" ({ cls := "StreamMarks$Steps", name := "countWritten", desc := "(I)I" } : Jvm.MethodName) ({ cls := "StreamMarks$Steps", name := "countWritten", desc := "(I)I" } : Jvm.MethodName)) ∈ sm_WS := sm_mw sm_t5 117 rfl rfl
theorem mw_1078 : (Jvm.Cond.code ({ cls := "StreamMarks$Steps", name := "countWritten", desc := "(I)I" } : Jvm.MethodName) prog_11_method_6_code (2 : Nat) (Option.some Jvm.ClassFile.FieldType.int)) ∈ sm_WS := sm_mw sm_t5 118 rfl rfl
theorem mw_1079 : (Jvm.Cond.methodLink "StreamMarks$Writer" (45 : Nat) ({ cls := "StreamMarks$Writer", name := "writeSteps", desc := "(LStreamMarks$Component;LStreamMarks$Row;)V" } : Jvm.MethodName)) ∈ sm_WS := sm_mw sm_t5 119 rfl rfl
theorem mw_1080 : (Jvm.Cond.static ({ cls := "StreamMarks$Writer", name := "writeSteps", desc := "(LStreamMarks$Component;LStreamMarks$Row;)V" } : Jvm.MethodName)) ∈ sm_WS := sm_mw sm_t5 120 rfl rfl
theorem mw_1081 : (Jvm.Cond.code ({ cls := "StreamMarks$Writer", name := "writeSteps", desc := "(LStreamMarks$Component;LStreamMarks$Row;)V" } : Jvm.MethodName) prog_12_method_8_code (5 : Nat) (Option.none : Option Jvm.ClassFile.FieldType)) ∈ sm_WS := sm_mw sm_t5 121 rfl rfl
theorem mw_1082 : (Jvm.Cond.methodLink "StreamMarks$Writer" (158 : Nat) ({ cls := "StreamMarks$Steps", name := "written", desc := "(I)I" } : Jvm.MethodName)) ∈ sm_WS := sm_mw sm_t5 122 rfl rfl
theorem mw_1083 : (Jvm.Cond.instanceMethod ({ cls := "StreamMarks$Steps", name := "written", desc := "(I)I" } : Jvm.MethodName)) ∈ sm_WS := sm_mw sm_t5 123 rfl rfl
theorem mw_1084 : (Jvm.Cond.selects "StreamMarks$Steps" ({ cls := "StreamMarks$Steps", name := "written", desc := "(I)I" } : Jvm.MethodName) ({ cls := "StreamMarks$Steps", name := "written", desc := "(I)I" } : Jvm.MethodName)) ∈ sm_WS := sm_mw sm_t5 124 rfl rfl
theorem mw_1085 : (Jvm.Cond.code ({ cls := "StreamMarks$Steps", name := "written", desc := "(I)I" } : Jvm.MethodName) prog_11_method_7_code (2 : Nat) (Option.some Jvm.ClassFile.FieldType.int)) ∈ sm_WS := sm_mw sm_t5 125 rfl rfl
theorem mw_1086 : (Jvm.Cond.methodLink "StreamMarks$Steps" (31 : Nat) ({ cls := "StreamMarks$Steps", name := "valueOf", desc := "(I)I" } : Jvm.MethodName)) ∈ sm_WS := sm_mw sm_t5 126 rfl rfl
theorem mw_1087 : (Jvm.Cond.methodLink "StreamMarks$Writer" (49 : Nat) ({ cls := "StreamMarks$Writer", name := "writeOtherCodings", desc := "(LStreamMarks$Plan;LStreamMarks$Component;LStreamMarks$Row;)V" } : Jvm.MethodName)) ∈ sm_WS := sm_mw sm_t5 127 rfl rfl
theorem mw_1088 : (Jvm.Cond.static ({ cls := "StreamMarks$Writer", name := "writeOtherCodings", desc := "(LStreamMarks$Plan;LStreamMarks$Component;LStreamMarks$Row;)V" } : Jvm.MethodName)) ∈ sm_WS := sm_mw sm_t5 128 rfl rfl
theorem mw_1089 : (Jvm.Cond.code ({ cls := "StreamMarks$Writer", name := "writeOtherCodings", desc := "(LStreamMarks$Plan;LStreamMarks$Component;LStreamMarks$Row;)V" } : Jvm.MethodName) prog_12_method_9_code (5 : Nat) (Option.none : Option Jvm.ClassFile.FieldType)) ∈ sm_WS := sm_mw sm_t5 129 rfl rfl
theorem mw_1090 : (Jvm.Cond.methodLink "StreamMarks$Writer" (161 : Nat) ({ cls := "StreamMarks$Coding", name := "isLike", desc := "(LStreamMarks$Coding;)Z" } : Jvm.MethodName)) ∈ sm_WS := sm_mw sm_t5 130 rfl rfl
theorem mw_1091 : (Jvm.Cond.instanceMethod ({ cls := "StreamMarks$Coding", name := "isLike", desc := "(LStreamMarks$Coding;)Z" } : Jvm.MethodName)) ∈ sm_WS := sm_mw sm_t5 131 rfl rfl
theorem mw_1092 : (Jvm.Cond.selects "StreamMarks$Coding" ({ cls := "StreamMarks$Coding", name := "isLike", desc := "(LStreamMarks$Coding;)Z" } : Jvm.MethodName) ({ cls := "StreamMarks$Coding", name := "isLike", desc := "(LStreamMarks$Coding;)Z" } : Jvm.MethodName)) ∈ sm_WS := sm_mw sm_t5 132 rfl rfl
theorem mw_1093 : (Jvm.Cond.code ({ cls := "StreamMarks$Coding", name := "isLike", desc := "(LStreamMarks$Coding;)Z" } : Jvm.MethodName) prog_2_method_9_code (3 : Nat) (Option.some Jvm.ClassFile.FieldType.boolean)) ∈ sm_WS := sm_mw sm_t5 133 rfl rfl
theorem mw_1094 : (Jvm.Cond.methodLink "StreamMarks$Writer" (53 : Nat) ({ cls := "StreamMarks$Writer", name := "writeOtherSteps", desc := "(LStreamMarks$Plan;LStreamMarks$Component;LStreamMarks$Row;)V" } : Jvm.MethodName)) ∈ sm_WS := sm_mw sm_t5 134 rfl rfl
theorem mw_1095 : (Jvm.Cond.static ({ cls := "StreamMarks$Writer", name := "writeOtherSteps", desc := "(LStreamMarks$Plan;LStreamMarks$Component;LStreamMarks$Row;)V" } : Jvm.MethodName)) ∈ sm_WS := sm_mw sm_t5 135 rfl rfl
theorem mw_1096 : (Jvm.Cond.code ({ cls := "StreamMarks$Writer", name := "writeOtherSteps", desc := "(LStreamMarks$Plan;LStreamMarks$Component;LStreamMarks$Row;)V" } : Jvm.MethodName) prog_12_method_10_code (5 : Nat) (Option.none : Option Jvm.ClassFile.FieldType)) ∈ sm_WS := sm_mw sm_t5 136 rfl rfl
theorem mw_1097 : (Jvm.Cond.methodLink "StreamMarks$Writer" (165 : Nat) ({ cls := "StreamMarks$Component", name := "writesStepsLike", desc := "(LStreamMarks$Component;)Z" } : Jvm.MethodName)) ∈ sm_WS := sm_mw sm_t5 137 rfl rfl
theorem mw_1098 : (Jvm.Cond.instanceMethod ({ cls := "StreamMarks$Component", name := "writesStepsLike", desc := "(LStreamMarks$Component;)Z" } : Jvm.MethodName)) ∈ sm_WS := sm_mw sm_t5 138 rfl rfl
theorem mw_1099 : (Jvm.Cond.selects "StreamMarks$Component" ({ cls := "StreamMarks$Component", name := "writesStepsLike", desc := "(LStreamMarks$Component;)Z" } : Jvm.MethodName) ({ cls := "StreamMarks$Component", name := "writesStepsLike", desc := "(LStreamMarks$Component;)Z" } : Jvm.MethodName)) ∈ sm_WS := sm_mw sm_t5 139 rfl rfl
theorem mw_1100 : (Jvm.Cond.code ({ cls := "StreamMarks$Component", name := "writesStepsLike", desc := "(LStreamMarks$Component;)Z" } : Jvm.MethodName) prog_3_method_4_code (4 : Nat) (Option.some Jvm.ClassFile.FieldType.boolean)) ∈ sm_WS := sm_mw sm_t5 140 rfl rfl
theorem mw_1101 : (Jvm.Cond.methodLink "StreamMarks$Component" (75 : Nat) ({ cls := "StreamMarks$Steps", name := "countWritten", desc := "(I)I" } : Jvm.MethodName)) ∈ sm_WS := sm_mw sm_t5 141 rfl rfl
theorem mw_1102 : (Jvm.Cond.methodLink "StreamMarks$Component" (78 : Nat) ({ cls := "StreamMarks$Steps", name := "written", desc := "(I)I" } : Jvm.MethodName)) ∈ sm_WS := sm_mw sm_t5 142 rfl rfl
theorem mw_1103 : (Jvm.Cond.methodLink "StreamMarks$Writer" (56 : Nat) ({ cls := "StreamMarks$Writer", name := "writeShifts", desc := "(LStreamMarks$Plan;LStreamMarks$Row;)V" } : Jvm.MethodName)) ∈ sm_WS := sm_mw sm_t5 143 rfl rfl
theorem mw_1104 : (Jvm.Cond.static ({ cls := "StreamMarks$Writer", name := "writeShifts", desc := "(LStreamMarks$Plan;LStreamMarks$Row;)V" } : Jvm.MethodName)) ∈ sm_WS := sm_mw sm_t5 144 rfl rfl
theorem mw_1105 : (Jvm.Cond.code ({ cls := "StreamMarks$Writer", name := "writeShifts", desc := "(LStreamMarks$Plan;LStreamMarks$Row;)V" } : Jvm.MethodName) prog_12_method_11_code (4 : Nat) (Option.none : Option Jvm.ClassFile.FieldType)) ∈ sm_WS := sm_mw sm_t5 145 rfl rfl
theorem mw_1106 : (Jvm.Cond.methodLink "StreamMarks$Writer" (59 : Nat) ({ cls := "StreamMarks$Writer", name := "writeChanges", desc := "(LStreamMarks$Plan;LStreamMarks$Row;)V" } : Jvm.MethodName)) ∈ sm_WS := sm_mw sm_t5 146 rfl rfl
theorem mw_1107 : (Jvm.Cond.static ({ cls := "StreamMarks$Writer", name := "writeChanges", desc := "(LStreamMarks$Plan;LStreamMarks$Row;)V" } : Jvm.MethodName)) ∈ sm_WS := sm_mw sm_t5 147 rfl rfl
theorem mw_1108 : (Jvm.Cond.code ({ cls := "StreamMarks$Writer", name := "writeChanges", desc := "(LStreamMarks$Plan;LStreamMarks$Row;)V" } : Jvm.MethodName) prog_12_method_12_code (3 : Nat) (Option.none : Option Jvm.ClassFile.FieldType)) ∈ sm_WS := sm_mw sm_t5 148 rfl rfl
theorem mw_1109 : (Jvm.Cond.methodLink "StreamMarks$Writer" (175 : Nat) ({ cls := "StreamMarks$Plan", name := "numberOfChange", desc := "(II)I" } : Jvm.MethodName)) ∈ sm_WS := sm_mw sm_t5 149 rfl rfl
theorem mw_1110 : (Jvm.Cond.methodLink "StreamMarks" (256 : Nat) ({ cls := "StreamMarks$Row", name := "addRange", desc := "(LStreamMarks$Row;II)V" } : Jvm.MethodName)) ∈ sm_WS := sm_mw sm_t5 150 rfl rfl
theorem mw_1111 : (Jvm.Cond.methodLink "StreamMarksLaw" (151 : Nat) ({ cls := "StreamMarksLaw", name := "part", desc := "(LStreamMarks;IIII)I" } : Jvm.MethodName)) ∈ sm_WS := sm_mw sm_t5 151 rfl rfl
theorem mw_1112 : (Jvm.Cond.static ({ cls := "StreamMarksLaw", name := "part", desc := "(LStreamMarks;IIII)I" } : Jvm.MethodName)) ∈ sm_WS := sm_mw sm_t5 152 rfl rfl
theorem mw_1113 : (Jvm.Cond.codeWith ({ cls := "StreamMarksLaw", name := "part", desc := "(LStreamMarks;IIII)I" } : Jvm.MethodName) method_16_code (6 : Nat) (Option.some Jvm.ClassFile.FieldType.int) [((0 : Nat), (9 : Nat), (12 : Nat), (13 : Nat)), ((0 : Nat), (9 : Nat), (16 : Nat), (56 : Nat))]) ∈ sm_WS := sm_mw sm_t5 153 rfl rfl
theorem mw_1114 : (Jvm.Cond.methodLink "StreamMarksLaw" (65 : Nat) ({ cls := "StreamMarks", name := "part", desc := "(IIII)V" } : Jvm.MethodName)) ∈ sm_WS := sm_mw sm_t5 154 rfl rfl
theorem mw_1115 : (Jvm.Cond.instanceMethod ({ cls := "StreamMarks", name := "part", desc := "(IIII)V" } : Jvm.MethodName)) ∈ sm_WS := sm_mw sm_t5 155 rfl rfl
theorem mw_1116 : (Jvm.Cond.selects "StreamMarks" ({ cls := "StreamMarks", name := "part", desc := "(IIII)V" } : Jvm.MethodName) ({ cls := "StreamMarks", name := "part", desc := "(IIII)V" } : Jvm.MethodName)) ∈ sm_WS := sm_mw sm_t5 156 rfl rfl
theorem mw_1117 : (Jvm.Cond.code ({ cls := "StreamMarks", name := "part", desc := "(IIII)V" } : Jvm.MethodName) prog_1_method_17_code (5 : Nat) (Option.none : Option Jvm.ClassFile.FieldType)) ∈ sm_WS := sm_mw sm_t5 157 rfl rfl
theorem mw_1119 : (Jvm.Cond.methodLink "StreamMarks" (263 : Nat) ({ cls := "StreamMarks$Row", name := "addSegment", desc := "(II)V" } : Jvm.MethodName)) ∈ sm_WS := sm_mw sm_t5 159 rfl rfl
theorem mw_1120 : (Jvm.Cond.methodLink "StreamMarks" (266 : Nat) ({ cls := "StreamMarks$Row", name := "addU2", desc := "(I)V" } : Jvm.MethodName)) ∈ sm_WS := sm_mw sm_t5 160 rfl rfl
theorem mw_1121 : (Jvm.Cond.methodLink "StreamMarks" (269 : Nat) ({ cls := "StreamMarks$Row", name := "addU4", desc := "(I)V" } : Jvm.MethodName)) ∈ sm_WS := sm_mw sm_t5 161 rfl rfl
theorem mw_1122 : (Jvm.Cond.methodLink "StreamMarks" (272 : Nat) ({ cls := "StreamMarks$Row", name := "addMark", desc := "(I)V" } : Jvm.MethodName)) ∈ sm_WS := sm_mw sm_t5 162 rfl rfl
theorem mw_1123 : (Jvm.Cond.methodLink "StreamMarksLaw" (154 : Nat) ({ cls := "StreamMarksLaw", name := "mark", desc := "(LStreamMarks;I)I" } : Jvm.MethodName)) ∈ sm_WS := sm_mw sm_t5 163 rfl rfl
theorem mw_1124 : (Jvm.Cond.static ({ cls := "StreamMarksLaw", name := "mark", desc := "(LStreamMarks;I)I" } : Jvm.MethodName)) ∈ sm_WS := sm_mw sm_t5 164 rfl rfl
theorem mw_1125 : (Jvm.Cond.codeWith ({ cls := "StreamMarksLaw", name := "mark", desc := "(LStreamMarks;I)I" } : Jvm.MethodName) method_17_code (3 : Nat) (Option.some Jvm.ClassFile.FieldType.int) [((0 : Nat), (5 : Nat), (8 : Nat), (13 : Nat)), ((0 : Nat), (5 : Nat), (11 : Nat), (56 : Nat))]) ∈ sm_WS := sm_mw sm_t5 165 rfl rfl
theorem mw_1126 : (Jvm.Cond.methodLink "StreamMarksLaw" (68 : Nat) ({ cls := "StreamMarks", name := "mark", desc := "(I)V" } : Jvm.MethodName)) ∈ sm_WS := sm_mw sm_t5 166 rfl rfl
theorem mw_1127 : (Jvm.Cond.instanceMethod ({ cls := "StreamMarks", name := "mark", desc := "(I)V" } : Jvm.MethodName)) ∈ sm_WS := sm_mw sm_t5 167 rfl rfl
theorem mw_1128 : (Jvm.Cond.selects "StreamMarks" ({ cls := "StreamMarks", name := "mark", desc := "(I)V" } : Jvm.MethodName) ({ cls := "StreamMarks", name := "mark", desc := "(I)V" } : Jvm.MethodName)) ∈ sm_WS := sm_mw sm_t5 168 rfl rfl
theorem mw_1129 : (Jvm.Cond.code ({ cls := "StreamMarks", name := "mark", desc := "(I)V" } : Jvm.MethodName) prog_1_method_18_code (2 : Nat) (Option.none : Option Jvm.ClassFile.FieldType)) ∈ sm_WS := sm_mw sm_t5 169 rfl rfl
theorem mw_1131 : (Jvm.Cond.methodLink "StreamMarksLaw" (158 : Nat) ({ cls := "StreamMarksLaw", name := "spoil", desc := "(LStreamMarks;II)I" } : Jvm.MethodName)) ∈ sm_WS := sm_mw sm_t5 171 rfl rfl
theorem mw_1132 : (Jvm.Cond.static ({ cls := "StreamMarksLaw", name := "spoil", desc := "(LStreamMarks;II)I" } : Jvm.MethodName)) ∈ sm_WS := sm_mw sm_t5 172 rfl rfl
theorem mw_1133 : (Jvm.Cond.codeWith ({ cls := "StreamMarksLaw", name := "spoil", desc := "(LStreamMarks;II)I" } : Jvm.MethodName) method_18_code (4 : Nat) (Option.some Jvm.ClassFile.FieldType.int) [((0 : Nat), (6 : Nat), (9 : Nat), (32 : Nat))]) ∈ sm_WS := sm_mw sm_t5 173 rfl rfl
theorem mw_1134 : (Jvm.Cond.methodLink "StreamMarksLaw" (72 : Nat) ({ cls := "StreamMarks", name := "spoil", desc := "(II)V" } : Jvm.MethodName)) ∈ sm_WS := sm_mw sm_t5 174 rfl rfl
theorem mw_1135 : (Jvm.Cond.instanceMethod ({ cls := "StreamMarks", name := "spoil", desc := "(II)V" } : Jvm.MethodName)) ∈ sm_WS := sm_mw sm_t5 175 rfl rfl
theorem mw_1136 : (Jvm.Cond.selects "StreamMarks" ({ cls := "StreamMarks", name := "spoil", desc := "(II)V" } : Jvm.MethodName) ({ cls := "StreamMarks", name := "spoil", desc := "(II)V" } : Jvm.MethodName)) ∈ sm_WS := sm_mw sm_t5 176 rfl rfl
theorem mw_1137 : (Jvm.Cond.code ({ cls := "StreamMarks", name := "spoil", desc := "(II)V" } : Jvm.MethodName) prog_1_method_19_code (3 : Nat) (Option.none : Option Jvm.ClassFile.FieldType)) ∈ sm_WS := sm_mw sm_t5 177 rfl rfl
theorem mw_1138 : (Jvm.Cond.methodLink "StreamMarks" (277 : Nat) ({ cls := "StreamMarks$Row", name := "setU1", desc := "(II)V" } : Jvm.MethodName)) ∈ sm_WS := sm_mw sm_t5 178 rfl rfl
theorem mw_1139 : (Jvm.Cond.instanceMethod ({ cls := "StreamMarks$Row", name := "setU1", desc := "(II)V" } : Jvm.MethodName)) ∈ sm_WS := sm_mw sm_t5 179 rfl rfl
theorem mw_1140 : (Jvm.Cond.selects "StreamMarks$Row" ({ cls := "StreamMarks$Row", name := "setU1", desc := "(II)V" } : Jvm.MethodName) ({ cls := "StreamMarks$Row", name := "setU1", desc := "(II)V" } : Jvm.MethodName)) ∈ sm_WS := sm_mw sm_t5 180 rfl rfl
theorem mw_1141 : (Jvm.Cond.code ({ cls := "StreamMarks$Row", name := "setU1", desc := "(II)V" } : Jvm.MethodName) prog_8_method_6_code (3 : Nat) (Option.none : Option Jvm.ClassFile.FieldType)) ∈ sm_WS := sm_mw sm_t5 181 rfl rfl
theorem mw_1142 : (Jvm.Cond.methodLink "StreamMarksLaw" (170 : Nat) ({ cls := "StreamMarksLaw", name := "use", desc := "(LStreamMarks;I[J)I" } : Jvm.MethodName)) ∈ sm_WS := sm_mw sm_t5 182 rfl rfl
theorem mw_1143 : (Jvm.Cond.static ({ cls := "StreamMarksLaw", name := "use", desc := "(LStreamMarks;I[J)I" } : Jvm.MethodName)) ∈ sm_WS := sm_mw sm_t5 183 rfl rfl
theorem mw_1144 : (Jvm.Cond.codeWith ({ cls := "StreamMarksLaw", name := "use", desc := "(LStreamMarks;I[J)I" } : Jvm.MethodName) method_19_code (4 : Nat) (Option.some Jvm.ClassFile.FieldType.int) [((0 : Nat), (9 : Nat), (12 : Nat), (18 : Nat)), ((0 : Nat), (9 : Nat), (15 : Nat), (32 : Nat))]) ∈ sm_WS := sm_mw sm_t5 184 rfl rfl
theorem mw_1145 : (Jvm.Cond.methodLink "StreamMarksLaw" (76 : Nat) ({ cls := "StreamMarks", name := "use", desc := "(I)I" } : Jvm.MethodName)) ∈ sm_WS := sm_mw sm_t5 185 rfl rfl
theorem mw_1146 : (Jvm.Cond.instanceMethod ({ cls := "StreamMarks", name := "use", desc := "(I)I" } : Jvm.MethodName)) ∈ sm_WS := sm_mw sm_t5 186 rfl rfl
theorem mw_1147 : (Jvm.Cond.selects "StreamMarks" ({ cls := "StreamMarks", name := "use", desc := "(I)I" } : Jvm.MethodName) ({ cls := "StreamMarks", name := "use", desc := "(I)I" } : Jvm.MethodName)) ∈ sm_WS := sm_mw sm_t5 187 rfl rfl
theorem mw_1148 : (Jvm.Cond.code ({ cls := "StreamMarks", name := "use", desc := "(I)I" } : Jvm.MethodName) prog_1_method_22_code (2 : Nat) (Option.some Jvm.ClassFile.FieldType.int)) ∈ sm_WS := sm_mw sm_t5 188 rfl rfl
theorem mw_1149 : (Jvm.Cond.methodLink "StreamMarks" (290 : Nat) ({ cls := "StreamMarks", name := "demandTile", desc := "(I)V" } : Jvm.MethodName)) ∈ sm_WS := sm_mw sm_t5 189 rfl rfl
theorem mw_1151 : (Jvm.Cond.instanceMethod ({ cls := "StreamMarks", name := "demandTile", desc := "(I)V" } : Jvm.MethodName)) ∈ sm_WS := sm_mw sm_t5 191 rfl rfl
theorem mw_1152 : (Jvm.Cond.code ({ cls := "StreamMarks", name := "demandTile", desc := "(I)V" } : Jvm.MethodName) prog_1_method_28_code (2 : Nat) (Option.none : Option Jvm.ClassFile.FieldType)) ∈ sm_WS := sm_mw sm_t5 192 rfl rfl
theorem mw_1155 : (Jvm.Cond.methodLink "StreamMarks" (293 : Nat) ({ cls := "StreamMarks$Loader", name := "loadTile", desc := "(I)V" } : Jvm.MethodName)) ∈ sm_WS := sm_mw sm_t5 195 rfl rfl
theorem mw_1156 : (Jvm.Cond.instanceMethod ({ cls := "StreamMarks$Loader", name := "loadTile", desc := "(I)V" } : Jvm.MethodName)) ∈ sm_WS := sm_mw sm_t5 196 rfl rfl
theorem mw_1157 : (Jvm.Cond.selects "StreamMarks$Loader" ({ cls := "StreamMarks$Loader", name := "loadTile", desc := "(I)V" } : Jvm.MethodName) ({ cls := "StreamMarks$Loader", name := "loadTile", desc := "(I)V" } : Jvm.MethodName)) ∈ sm_WS := sm_mw sm_t5 197 rfl rfl
theorem mw_1158 : (Jvm.Cond.code ({ cls := "StreamMarks$Loader", name := "loadTile", desc := "(I)V" } : Jvm.MethodName) prog_4_method_3_code (2 : Nat) (Option.none : Option Jvm.ClassFile.FieldType)) ∈ sm_WS := sm_mw sm_t5 198 rfl rfl
theorem mw_1159 : (Jvm.Cond.methodLink "StreamMarks$Loader" (35 : Nat) ({ cls := "StreamMarks$Loader", name := "loadMain", desc := "()V" } : Jvm.MethodName)) ∈ sm_WS := sm_mw sm_t5 199 rfl rfl
theorem mw_1160 : (Jvm.Cond.methodLink "StreamMarks$Loader" (38 : Nat) ({ cls := "StreamMarks$Places", name := "ownerOf", desc := "(I)I" } : Jvm.MethodName)) ∈ sm_WS := sm_mw sm_t5 200 rfl rfl
theorem mw_1161 : (Jvm.Cond.methodLink "StreamMarks" (300 : Nat) ({ cls := "StreamMarks$Parts", name := "headsOfTile", desc := "(I)I" } : Jvm.MethodName)) ∈ sm_WS := sm_mw sm_t5 201 rfl rfl
theorem mw_1162 : (Jvm.Cond.instanceMethod ({ cls := "StreamMarks$Parts", name := "headsOfTile", desc := "(I)I" } : Jvm.MethodName)) ∈ sm_WS := sm_mw sm_t5 202 rfl rfl
theorem mw_1163 : (Jvm.Cond.selects "StreamMarks$Parts" ({ cls := "StreamMarks$Parts", name := "headsOfTile", desc := "(I)I" } : Jvm.MethodName) ({ cls := "StreamMarks$Parts", name := "headsOfTile", desc := "(I)I" } : Jvm.MethodName)) ∈ sm_WS := sm_mw sm_t5 203 rfl rfl
theorem mw_1164 : (Jvm.Cond.code ({ cls := "StreamMarks$Parts", name := "headsOfTile", desc := "(I)I" } : Jvm.MethodName) prog_5_method_13_code (4 : Nat) (Option.some Jvm.ClassFile.FieldType.int)) ∈ sm_WS := sm_mw sm_t5 204 rfl rfl
theorem mw_1165 : (Jvm.Cond.methodLink "StreamMarksLaw" (173 : Nat) ({ cls := "StreamMarksLaw", name := "head", desc := "(LStreamMarks;II[J)I" } : Jvm.MethodName)) ∈ sm_WS := sm_mw sm_t5 205 rfl rfl
theorem mw_1166 : (Jvm.Cond.static ({ cls := "StreamMarksLaw", name := "head", desc := "(LStreamMarks;II[J)I" } : Jvm.MethodName)) ∈ sm_WS := sm_mw sm_t5 206 rfl rfl
theorem mw_1167 : (Jvm.Cond.codeWith ({ cls := "StreamMarksLaw", name := "head", desc := "(LStreamMarks;II[J)I" } : Jvm.MethodName) method_20_code (5 : Nat) (Option.some Jvm.ClassFile.FieldType.int) [((0 : Nat), (10 : Nat), (13 : Nat), (18 : Nat)), ((0 : Nat), (10 : Nat), (17 : Nat), (32 : Nat))]) ∈ sm_WS := sm_mw sm_t5 207 rfl rfl
theorem mw_1168 : (Jvm.Cond.methodLink "StreamMarksLaw" (79 : Nat) ({ cls := "StreamMarks", name := "head", desc := "(II)I" } : Jvm.MethodName)) ∈ sm_WS := sm_mw sm_t5 208 rfl rfl
theorem mw_1169 : (Jvm.Cond.instanceMethod ({ cls := "StreamMarks", name := "head", desc := "(II)I" } : Jvm.MethodName)) ∈ sm_WS := sm_mw sm_t5 209 rfl rfl
theorem mw_1170 : (Jvm.Cond.selects "StreamMarks" ({ cls := "StreamMarks", name := "head", desc := "(II)I" } : Jvm.MethodName) ({ cls := "StreamMarks", name := "head", desc := "(II)I" } : Jvm.MethodName)) ∈ sm_WS := sm_mw sm_t5 210 rfl rfl
theorem mw_1171 : (Jvm.Cond.code ({ cls := "StreamMarks", name := "head", desc := "(II)I" } : Jvm.MethodName) prog_1_method_23_code (4 : Nat) (Option.some Jvm.ClassFile.FieldType.int)) ∈ sm_WS := sm_mw sm_t5 211 rfl rfl
theorem mw_1172 : (Jvm.Cond.methodLink "StreamMarks" (305 : Nat) ({ cls := "StreamMarks$Parts", name := "placeOfHead", desc := "(II)I" } : Jvm.MethodName)) ∈ sm_WS := sm_mw sm_t5 212 rfl rfl
theorem mw_1173 : (Jvm.Cond.instanceMethod ({ cls := "StreamMarks$Parts", name := "placeOfHead", desc := "(II)I" } : Jvm.MethodName)) ∈ sm_WS := sm_mw sm_t5 213 rfl rfl
theorem mw_1174 : (Jvm.Cond.selects "StreamMarks$Parts" ({ cls := "StreamMarks$Parts", name := "placeOfHead", desc := "(II)I" } : Jvm.MethodName) ({ cls := "StreamMarks$Parts", name := "placeOfHead", desc := "(II)I" } : Jvm.MethodName)) ∈ sm_WS := sm_mw sm_t5 214 rfl rfl
theorem mw_1175 : (Jvm.Cond.code ({ cls := "StreamMarks$Parts", name := "placeOfHead", desc := "(II)I" } : Jvm.MethodName) prog_5_method_14_code (5 : Nat) (Option.some Jvm.ClassFile.FieldType.int)) ∈ sm_WS := sm_mw sm_t5 215 rfl rfl
theorem mw_1177 : (Jvm.Cond.methodLink "StreamMarksLaw" (177 : Nat) ({ cls := "StreamMarksLaw", name := "found", desc := "(LStreamMarks;II[J)I" } : Jvm.MethodName)) ∈ sm_WS := sm_mw sm_t5 217 rfl rfl
theorem mw_1178 : (Jvm.Cond.static ({ cls := "StreamMarksLaw", name := "found", desc := "(LStreamMarks;II[J)I" } : Jvm.MethodName)) ∈ sm_WS := sm_mw sm_t5 218 rfl rfl
theorem mw_1179 : (Jvm.Cond.codeWith ({ cls := "StreamMarksLaw", name := "found", desc := "(LStreamMarks;II[J)I" } : Jvm.MethodName) method_21_code (5 : Nat) (Option.some Jvm.ClassFile.FieldType.int) [((0 : Nat), (10 : Nat), (13 : Nat), (18 : Nat)), ((0 : Nat), (10 : Nat), (17 : Nat), (32 : Nat))]) ∈ sm_WS := sm_mw sm_t5 219 rfl rfl
theorem mw_1180 : (Jvm.Cond.methodLink "StreamMarksLaw" (83 : Nat) ({ cls := "StreamMarks", name := "found", desc := "(II)I" } : Jvm.MethodName)) ∈ sm_WS := sm_mw sm_t5 220 rfl rfl
theorem mw_1181 : (Jvm.Cond.instanceMethod ({ cls := "StreamMarks", name := "found", desc := "(II)I" } : Jvm.MethodName)) ∈ sm_WS := sm_mw sm_t5 221 rfl rfl
theorem mw_1182 : (Jvm.Cond.selects "StreamMarks" ({ cls := "StreamMarks", name := "found", desc := "(II)I" } : Jvm.MethodName) ({ cls := "StreamMarks", name := "found", desc := "(II)I" } : Jvm.MethodName)) ∈ sm_WS := sm_mw sm_t5 222 rfl rfl
theorem mw_1183 : (Jvm.Cond.code ({ cls := "StreamMarks", name := "found", desc := "(II)I" } : Jvm.MethodName) prog_1_method_24_code (3 : Nat) (Option.some Jvm.ClassFile.FieldType.int)) ∈ sm_WS := sm_mw sm_t5 223 rfl rfl
theorem mw_1185 : (Jvm.Cond.methodLink "StreamMarks" (318 : Nat) ({ cls := "StreamMarks$Parts", name := "number", desc := "(II)I" } : Jvm.MethodName)) ∈ sm_WS := sm_mw sm_t5 225 rfl rfl
theorem mw_1186 : (Jvm.Cond.classLink "StreamMarksLaw" (87 : Nat) "StreamMarksModel") ∈ sm_WS := sm_mw sm_t5 226 rfl rfl
theorem mw_1187 : (Jvm.Cond.instantiable "StreamMarksModel" (37 : Nat)) ∈ sm_WS := sm_mw sm_t5 227 rfl rfl
theorem mw_1188 : (Jvm.Cond.methodLink "StreamMarksLaw" (89 : Nat) ({ cls := "StreamMarksModel", name := "<init>", desc := "()V" } : Jvm.MethodName)) ∈ sm_WS := sm_mw sm_t5 228 rfl rfl
theorem mw_1189 : (Jvm.Cond.instanceMethod ({ cls := "StreamMarksModel", name := "<init>", desc := "()V" } : Jvm.MethodName)) ∈ sm_WS := sm_mw sm_t5 229 rfl rfl
theorem mw_1190 : (Jvm.Cond.code ({ cls := "StreamMarksModel", name := "<init>", desc := "()V" } : Jvm.MethodName) prog_14_method_1_code (1 : Nat) (Option.none : Option Jvm.ClassFile.FieldType)) ∈ sm_WS := sm_mw sm_t5 230 rfl rfl
theorem mw_1191 : (Jvm.Cond.methodLink "StreamMarksModel" (1 : Nat) ({ cls := "java/lang/Object", name := "<init>", desc := "()V" } : Jvm.MethodName)) ∈ sm_WS := sm_mw sm_t5 231 rfl rfl
theorem mw_1192 : (Jvm.Cond.constant "StreamMarksModel" (44 : Nat) (65536 : Int32)) ∈ sm_WS := sm_mw sm_t5 232 rfl rfl
theorem mw_1193 : (Jvm.Cond.fieldLink "StreamMarksModel" (78 : Nat) "StreamMarksModel" "thrown" "I") ∈ sm_WS := sm_mw sm_t5 233 rfl rfl
theorem mw_1194 : (Jvm.Cond.fieldLink "StreamMarksModel" (7 : Nat) "StreamMarksModel" "area" "[I") ∈ sm_WS := sm_mw sm_t5 234 rfl rfl
theorem mw_1195 : (Jvm.Cond.fieldLink "StreamMarksModel" (84 : Nat) "StreamMarksModel" "pictured" "Z") ∈ sm_WS := sm_mw sm_t5 235 rfl rfl
theorem mw_1196 : (Jvm.Cond.fieldLink "StreamMarksModel" (88 : Nat) "StreamMarksModel" "components" "I") ∈ sm_WS := sm_mw sm_t5 236 rfl rfl
theorem mw_1197 : (Jvm.Cond.fieldLink "StreamMarksModel" (13 : Nat) "StreamMarksModel" "bits" "[I") ∈ sm_WS := sm_mw sm_t5 237 rfl rfl
theorem mw_1198 : (Jvm.Cond.fieldLink "StreamMarksModel" (16 : Nat) "StreamMarksModel" "signs" "[I") ∈ sm_WS := sm_mw sm_t5 238 rfl rfl
theorem mw_1199 : (Jvm.Cond.fieldLink "StreamMarksModel" (19 : Nat) "StreamMarksModel" "stepX" "[I") ∈ sm_WS := sm_mw sm_t5 239 rfl rfl
theorem mw_1200 : (Jvm.Cond.fieldLink "StreamMarksModel" (22 : Nat) "StreamMarksModel" "stepY" "[I") ∈ sm_WS := sm_mw sm_t6 0 rfl rfl
theorem mw_1201 : (Jvm.Cond.fieldLink "StreamMarksModel" (91 : Nat) "StreamMarksModel" "order" "I") ∈ sm_WS := sm_mw sm_t6 1 rfl rfl
theorem mw_1202 : (Jvm.Cond.fieldLink "StreamMarksModel" (25 : Nat) "StreamMarksModel" "layers" "I") ∈ sm_WS := sm_mw sm_t6 2 rfl rfl
theorem mw_1203 : (Jvm.Cond.fieldLink "StreamMarksModel" (94 : Nat) "StreamMarksModel" "colour" "I") ∈ sm_WS := sm_mw sm_t6 3 rfl rfl
theorem mw_1204 : (Jvm.Cond.fieldLink "StreamMarksModel" (97 : Nat) "StreamMarksModel" "ahead" "I") ∈ sm_WS := sm_mw sm_t6 4 rfl rfl
theorem mw_1205 : (Jvm.Cond.fieldLink "StreamMarksModel" (100 : Nat) "StreamMarksModel" "behind" "I") ∈ sm_WS := sm_mw sm_t6 5 rfl rfl
theorem mw_1206 : (Jvm.Cond.fieldLink "StreamMarksModel" (29 : Nat) "StreamMarksModel" "codes" "[I") ∈ sm_WS := sm_mw sm_t6 6 rfl rfl
theorem mw_1207 : (Jvm.Cond.fieldLink "StreamMarksModel" (32 : Nat) "StreamMarksModel" "wide" "[I") ∈ sm_WS := sm_mw sm_t6 7 rfl rfl
theorem mw_1208 : (Jvm.Cond.fieldLink "StreamMarksModel" (35 : Nat) "StreamMarksModel" "high" "[I") ∈ sm_WS := sm_mw sm_t6 8 rfl rfl
theorem mw_1209 : (Jvm.Cond.fieldLink "StreamMarksModel" (38 : Nat) "StreamMarksModel" "values" "[I") ∈ sm_WS := sm_mw sm_t6 9 rfl rfl
theorem mw_1210 : (Jvm.Cond.fieldLink "StreamMarksModel" (103 : Nat) "StreamMarksModel" "changes" "I") ∈ sm_WS := sm_mw sm_t6 10 rfl rfl
theorem mw_1211 : (Jvm.Cond.fieldLink "StreamMarksModel" (41 : Nat) "StreamMarksModel" "change" "[I") ∈ sm_WS := sm_mw sm_t6 11 rfl rfl
theorem mw_1212 : (Jvm.Cond.fieldLink "StreamMarksModel" (45 : Nat) "StreamMarksModel" "stream" "[I") ∈ sm_WS := sm_mw sm_t6 12 rfl rfl
theorem mw_1213 : (Jvm.Cond.fieldLink "StreamMarksModel" (174 : Nat) "StreamMarksModel" "size" "I") ∈ sm_WS := sm_mw sm_t6 13 rfl rfl
theorem mw_1214 : (Jvm.Cond.fieldLink "StreamMarksModel" (177 : Nat) "StreamMarksModel" "scanned" "Z") ∈ sm_WS := sm_mw sm_t6 14 rfl rfl
theorem mw_1215 : (Jvm.Cond.fieldLink "StreamMarksModel" (48 : Nat) "StreamMarksModel" "refusedAt" "I") ∈ sm_WS := sm_mw sm_t6 15 rfl rfl
theorem mw_1216 : (Jvm.Cond.fieldLink "StreamMarksModel" (239 : Nat) "StreamMarksModel" "segments" "I") ∈ sm_WS := sm_mw sm_t6 16 rfl rfl
theorem mw_1217 : (Jvm.Cond.fieldLink "StreamMarksModel" (51 : Nat) "StreamMarksModel" "markOf" "[I") ∈ sm_WS := sm_mw sm_t6 17 rfl rfl
theorem mw_1218 : (Jvm.Cond.fieldLink "StreamMarksModel" (54 : Nat) "StreamMarksModel" "placeOf" "[I") ∈ sm_WS := sm_mw sm_t6 18 rfl rfl
theorem mw_1219 : (Jvm.Cond.fieldLink "StreamMarksModel" (57 : Nat) "StreamMarksModel" "lengthOf" "[I") ∈ sm_WS := sm_mw sm_t6 19 rfl rfl
theorem mw_1220 : (Jvm.Cond.fieldLink "StreamMarksModel" (60 : Nat) "StreamMarksModel" "tileOf" "[I") ∈ sm_WS := sm_mw sm_t6 20 rfl rfl
theorem mw_1221 : (Jvm.Cond.fieldLink "StreamMarksModel" (312 : Nat) "StreamMarksModel" "parts" "I") ∈ sm_WS := sm_mw sm_t6 21 rfl rfl
theorem mw_1222 : (Jvm.Cond.fieldLink "StreamMarksModel" (63 : Nat) "StreamMarksModel" "partTile" "[I") ∈ sm_WS := sm_mw sm_t6 22 rfl rfl
theorem mw_1223 : (Jvm.Cond.fieldLink "StreamMarksModel" (66 : Nat) "StreamMarksModel" "partNumber" "[I") ∈ sm_WS := sm_mw sm_t6 23 rfl rfl
theorem mw_1224 : (Jvm.Cond.fieldLink "StreamMarksModel" (69 : Nat) "StreamMarksModel" "partParts" "[I") ∈ sm_WS := sm_mw sm_t6 24 rfl rfl
theorem mw_1225 : (Jvm.Cond.fieldLink "StreamMarksModel" (72 : Nat) "StreamMarksModel" "partData" "[I") ∈ sm_WS := sm_mw sm_t6 25 rfl rfl
theorem mw_1226 : (Jvm.Cond.fieldLink "StreamMarksModel" (75 : Nat) "StreamMarksModel" "partMany" "[I") ∈ sm_WS := sm_mw sm_t6 26 rfl rfl
theorem mw_1227 : (Jvm.Cond.fieldLink "StreamMarksModel" (306 : Nat) "StreamMarksModel" "tiles" "I") ∈ sm_WS := sm_mw sm_t6 27 rfl rfl
theorem mw_1228 : (Jvm.Cond.fieldLink "StreamMarksModel" (259 : Nat) "StreamMarksModel" "count" "I") ∈ sm_WS := sm_mw sm_t6 28 rfl rfl
theorem mw_1229 : (Jvm.Cond.fieldLink "StreamMarksModel" (180 : Nat) "StreamMarksModel" "cursor" "I") ∈ sm_WS := sm_mw sm_t6 29 rfl rfl
theorem mw_1305 : (Jvm.Cond.methodLink "StreamMarksLaw" (100 : Nat) ({ cls := "StreamMarksModel", name := "thrown", desc := "()I" } : Jvm.MethodName)) ∈ sm_WS := sm_mw sm_t6 105 rfl rfl
theorem mw_1306 : (Jvm.Cond.instanceMethod ({ cls := "StreamMarksModel", name := "thrown", desc := "()I" } : Jvm.MethodName)) ∈ sm_WS := sm_mw sm_t6 106 rfl rfl
theorem mw_1307 : (Jvm.Cond.selects "StreamMarksModel" ({ cls := "StreamMarksModel", name := "thrown", desc := "()I" } : Jvm.MethodName) ({ cls := "StreamMarksModel", name := "thrown", desc := "()I" } : Jvm.MethodName)) ∈ sm_WS := sm_mw sm_t6 107 rfl rfl
theorem mw_1308 : (Jvm.Cond.code ({ cls := "StreamMarksModel", name := "thrown", desc := "()I" } : Jvm.MethodName) prog_14_method_2_code (1 : Nat) (Option.some Jvm.ClassFile.FieldType.int)) ∈ sm_WS := sm_mw sm_t6 108 rfl rfl
theorem mw_1309 : (Jvm.Cond.methodLink "StreamMarksLaw" (93 : Nat) ({ cls := "StreamMarksModel", name := "plan", desc := "()V" } : Jvm.MethodName)) ∈ sm_WS := sm_mw sm_t6 109 rfl rfl
theorem mw_1310 : (Jvm.Cond.instanceMethod ({ cls := "StreamMarksModel", name := "plan", desc := "()V" } : Jvm.MethodName)) ∈ sm_WS := sm_mw sm_t6 110 rfl rfl
theorem mw_1311 : (Jvm.Cond.selects "StreamMarksModel" ({ cls := "StreamMarksModel", name := "plan", desc := "()V" } : Jvm.MethodName) ({ cls := "StreamMarksModel", name := "plan", desc := "()V" } : Jvm.MethodName)) ∈ sm_WS := sm_mw sm_t6 111 rfl rfl
theorem mw_1312 : (Jvm.Cond.code ({ cls := "StreamMarksModel", name := "plan", desc := "()V" } : Jvm.MethodName) prog_14_method_5_code (1 : Nat) (Option.none : Option Jvm.ClassFile.FieldType)) ∈ sm_WS := sm_mw sm_t6 112 rfl rfl
theorem mw_1313 : (Jvm.Cond.methodLink "StreamMarksModel" (81 : Nat) ({ cls := "StreamMarksModel", name := "empty", desc := "()V" } : Jvm.MethodName)) ∈ sm_WS := sm_mw sm_t6 113 rfl rfl
theorem mw_1315 : (Jvm.Cond.instanceMethod ({ cls := "StreamMarksModel", name := "empty", desc := "()V" } : Jvm.MethodName)) ∈ sm_WS := sm_mw sm_t6 115 rfl rfl
theorem mw_1316 : (Jvm.Cond.code ({ cls := "StreamMarksModel", name := "empty", desc := "()V" } : Jvm.MethodName) prog_14_method_6_code (2 : Nat) (Option.none : Option Jvm.ClassFile.FieldType)) ∈ sm_WS := sm_mw sm_t6 116 rfl rfl
theorem mw_1317 : (Jvm.Cond.methodLink "StreamMarksLaw" (99 : Nat) ({ cls := "StreamMarksModel", name := "picture", desc := "(IIII)V" } : Jvm.MethodName)) ∈ sm_WS := sm_mw sm_t6 117 rfl rfl
theorem mw_1318 : (Jvm.Cond.instanceMethod ({ cls := "StreamMarksModel", name := "picture", desc := "(IIII)V" } : Jvm.MethodName)) ∈ sm_WS := sm_mw sm_t6 118 rfl rfl
theorem mw_1319 : (Jvm.Cond.selects "StreamMarksModel" ({ cls := "StreamMarksModel", name := "picture", desc := "(IIII)V" } : Jvm.MethodName) ({ cls := "StreamMarksModel", name := "picture", desc := "(IIII)V" } : Jvm.MethodName)) ∈ sm_WS := sm_mw sm_t6 119 rfl rfl
theorem mw_1320 : (Jvm.Cond.code ({ cls := "StreamMarksModel", name := "picture", desc := "(IIII)V" } : Jvm.MethodName) prog_14_method_7_code (5 : Nat) (Option.none : Option Jvm.ClassFile.FieldType)) ∈ sm_WS := sm_mw sm_t6 120 rfl rfl
theorem mw_1321 : (Jvm.Cond.methodLink "StreamMarksModel" (106 : Nat) ({ cls := "StreamMarksModel", name := "refuse", desc := "(ZZ)Z" } : Jvm.MethodName)) ∈ sm_WS := sm_mw sm_t6 121 rfl rfl
theorem mw_1323 : (Jvm.Cond.instanceMethod ({ cls := "StreamMarksModel", name := "refuse", desc := "(ZZ)Z" } : Jvm.MethodName)) ∈ sm_WS := sm_mw sm_t6 123 rfl rfl
theorem mw_1324 : (Jvm.Cond.code ({ cls := "StreamMarksModel", name := "refuse", desc := "(ZZ)Z" } : Jvm.MethodName) prog_14_method_3_code (3 : Nat) (Option.some Jvm.ClassFile.FieldType.boolean)) ∈ sm_WS := sm_mw sm_t6 124 rfl rfl
theorem mw_1325 : (Jvm.Cond.methodLink "StreamMarksLaw" (105 : Nat) ({ cls := "StreamMarksModel", name := "tiles", desc := "(IIII)V" } : Jvm.MethodName)) ∈ sm_WS := sm_mw sm_t6 125 rfl rfl
theorem mw_1326 : (Jvm.Cond.instanceMethod ({ cls := "StreamMarksModel", name := "tiles", desc := "(IIII)V" } : Jvm.MethodName)) ∈ sm_WS := sm_mw sm_t6 126 rfl rfl
theorem mw_1327 : (Jvm.Cond.selects "StreamMarksModel" ({ cls := "StreamMarksModel", name := "tiles", desc := "(IIII)V" } : Jvm.MethodName) ({ cls := "StreamMarksModel", name := "tiles", desc := "(IIII)V" } : Jvm.MethodName)) ∈ sm_WS := sm_mw sm_t6 127 rfl rfl
theorem mw_1328 : (Jvm.Cond.code ({ cls := "StreamMarksModel", name := "tiles", desc := "(IIII)V" } : Jvm.MethodName) prog_14_method_10_code (7 : Nat) (Option.none : Option Jvm.ClassFile.FieldType)) ∈ sm_WS := sm_mw sm_t6 128 rfl rfl
theorem mw_1329 : (Jvm.Cond.methodLink "StreamMarksModel" (110 : Nat) ({ cls := "StreamMarksModel", name := "lie", desc := "(JJJJJJ)Z" } : Jvm.MethodName)) ∈ sm_WS := sm_mw sm_t6 129 rfl rfl
theorem mw_1330 : (Jvm.Cond.static ({ cls := "StreamMarksModel", name := "lie", desc := "(JJJJJJ)Z" } : Jvm.MethodName)) ∈ sm_WS := sm_mw sm_t6 130 rfl rfl
theorem mw_1331 : (Jvm.Cond.code ({ cls := "StreamMarksModel", name := "lie", desc := "(JJJJJJ)Z" } : Jvm.MethodName) prog_14_method_8_code (12 : Nat) (Option.some Jvm.ClassFile.FieldType.boolean)) ∈ sm_WS := sm_mw sm_t6 131 rfl rfl
theorem mw_1332 : (Jvm.Cond.methodLink "StreamMarksModel" (114 : Nat) ({ cls := "StreamMarksModel", name := "across", desc := "(JJJ)J" } : Jvm.MethodName)) ∈ sm_WS := sm_mw sm_t6 132 rfl rfl
theorem mw_1333 : (Jvm.Cond.static ({ cls := "StreamMarksModel", name := "across", desc := "(JJJ)J" } : Jvm.MethodName)) ∈ sm_WS := sm_mw sm_t6 133 rfl rfl
theorem mw_1334 : (Jvm.Cond.code ({ cls := "StreamMarksModel", name := "across", desc := "(JJJ)J" } : Jvm.MethodName) prog_14_method_9_code (6 : Nat) (Option.some Jvm.ClassFile.FieldType.long)) ∈ sm_WS := sm_mw sm_t6 134 rfl rfl
theorem mw_1335 : (Jvm.Cond.constantLong "StreamMarksModel" (118 : Nat) (64 : Int64)) ∈ sm_WS := sm_mw sm_t6 135 rfl rfl
theorem mw_1336 : (Jvm.Cond.methodLink "StreamMarksLaw" (109 : Nat) ({ cls := "StreamMarksModel", name := "component", desc := "(IZII)I" } : Jvm.MethodName)) ∈ sm_WS := sm_mw sm_t6 136 rfl rfl
theorem mw_1337 : (Jvm.Cond.instanceMethod ({ cls := "StreamMarksModel", name := "component", desc := "(IZII)I" } : Jvm.MethodName)) ∈ sm_WS := sm_mw sm_t6 137 rfl rfl
theorem mw_1338 : (Jvm.Cond.selects "StreamMarksModel" ({ cls := "StreamMarksModel", name := "component", desc := "(IZII)I" } : Jvm.MethodName) ({ cls := "StreamMarksModel", name := "component", desc := "(IZII)I" } : Jvm.MethodName)) ∈ sm_WS := sm_mw sm_t6 138 rfl rfl
theorem mw_1339 : (Jvm.Cond.code ({ cls := "StreamMarksModel", name := "component", desc := "(IZII)I" } : Jvm.MethodName) prog_14_method_12_code (5 : Nat) (Option.some Jvm.ClassFile.FieldType.int)) ∈ sm_WS := sm_mw sm_t6 139 rfl rfl
theorem mw_1340 : (Jvm.Cond.constantLong "StreamMarksModel" (120 : Nat) (38 : Int64)) ∈ sm_WS := sm_mw sm_t6 140 rfl rfl
theorem mw_1341 : (Jvm.Cond.methodLink "StreamMarksModel" (122 : Nat) ({ cls := "StreamMarksModel", name := "in", desc := "(JJJ)Z" } : Jvm.MethodName)) ∈ sm_WS := sm_mw sm_t6 141 rfl rfl
theorem mw_1342 : (Jvm.Cond.static ({ cls := "StreamMarksModel", name := "in", desc := "(JJJ)Z" } : Jvm.MethodName)) ∈ sm_WS := sm_mw sm_t6 142 rfl rfl
theorem mw_1343 : (Jvm.Cond.code ({ cls := "StreamMarksModel", name := "in", desc := "(JJJ)Z" } : Jvm.MethodName) prog_14_method_4_code (6 : Nat) (Option.some Jvm.ClassFile.FieldType.boolean)) ∈ sm_WS := sm_mw sm_t6 143 rfl rfl
theorem mw_1344 : (Jvm.Cond.constantLong "StreamMarksModel" (126 : Nat) (255 : Int64)) ∈ sm_WS := sm_mw sm_t6 144 rfl rfl
theorem mw_1345 : (Jvm.Cond.methodLink "StreamMarksModel" (128 : Nat) ({ cls := "StreamMarksModel", name := "fresh", desc := "(I)V" } : Jvm.MethodName)) ∈ sm_WS := sm_mw sm_t6 145 rfl rfl
theorem mw_1347 : (Jvm.Cond.instanceMethod ({ cls := "StreamMarksModel", name := "fresh", desc := "(I)V" } : Jvm.MethodName)) ∈ sm_WS := sm_mw sm_t6 147 rfl rfl
theorem mw_1348 : (Jvm.Cond.code ({ cls := "StreamMarksModel", name := "fresh", desc := "(I)V" } : Jvm.MethodName) prog_14_method_11_code (3 : Nat) (Option.none : Option Jvm.ClassFile.FieldType)) ∈ sm_WS := sm_mw sm_t6 148 rfl rfl
theorem mw_1349 : (Jvm.Cond.methodLink "StreamMarksLaw" (113 : Nat) ({ cls := "StreamMarksModel", name := "general", desc := "(IIZZZ)V" } : Jvm.MethodName)) ∈ sm_WS := sm_mw sm_t6 149 rfl rfl
theorem mw_1350 : (Jvm.Cond.instanceMethod ({ cls := "StreamMarksModel", name := "general", desc := "(IIZZZ)V" } : Jvm.MethodName)) ∈ sm_WS := sm_mw sm_t6 150 rfl rfl
theorem mw_1351 : (Jvm.Cond.selects "StreamMarksModel" ({ cls := "StreamMarksModel", name := "general", desc := "(IIZZZ)V" } : Jvm.MethodName) ({ cls := "StreamMarksModel", name := "general", desc := "(IIZZZ)V" } : Jvm.MethodName)) ∈ sm_WS := sm_mw sm_t6 151 rfl rfl
theorem mw_1352 : (Jvm.Cond.code ({ cls := "StreamMarksModel", name := "general", desc := "(IIZZZ)V" } : Jvm.MethodName) prog_14_method_13_code (6 : Nat) (Option.none : Option Jvm.ClassFile.FieldType)) ∈ sm_WS := sm_mw sm_t6 152 rfl rfl
theorem mw_1353 : (Jvm.Cond.constantLong "StreamMarksModel" (132 : Nat) (4 : Int64)) ∈ sm_WS := sm_mw sm_t6 153 rfl rfl
theorem mw_1354 : (Jvm.Cond.methodLink "StreamMarksLaw" (117 : Nat) ({ cls := "StreamMarksModel", name := "coding", desc := "(IIIIIZ)V" } : Jvm.MethodName)) ∈ sm_WS := sm_mw sm_t6 154 rfl rfl
theorem mw_1355 : (Jvm.Cond.instanceMethod ({ cls := "StreamMarksModel", name := "coding", desc := "(IIIIIZ)V" } : Jvm.MethodName)) ∈ sm_WS := sm_mw sm_t6 155 rfl rfl
theorem mw_1356 : (Jvm.Cond.selects "StreamMarksModel" ({ cls := "StreamMarksModel", name := "coding", desc := "(IIIIIZ)V" } : Jvm.MethodName) ({ cls := "StreamMarksModel", name := "coding", desc := "(IIIIIZ)V" } : Jvm.MethodName)) ∈ sm_WS := sm_mw sm_t6 156 rfl rfl
theorem mw_1357 : (Jvm.Cond.code ({ cls := "StreamMarksModel", name := "coding", desc := "(IIIIIZ)V" } : Jvm.MethodName) prog_14_method_15_code (7 : Nat) (Option.none : Option Jvm.ClassFile.FieldType)) ∈ sm_WS := sm_mw sm_t6 157 rfl rfl
theorem mw_1358 : (Jvm.Cond.methodLink "StreamMarksModel" (134 : Nat) ({ cls := "StreamMarksModel", name := "isComponent", desc := "(I)Z" } : Jvm.MethodName)) ∈ sm_WS := sm_mw sm_t6 158 rfl rfl
theorem mw_1360 : (Jvm.Cond.instanceMethod ({ cls := "StreamMarksModel", name := "isComponent", desc := "(I)Z" } : Jvm.MethodName)) ∈ sm_WS := sm_mw sm_t6 160 rfl rfl
theorem mw_1361 : (Jvm.Cond.code ({ cls := "StreamMarksModel", name := "isComponent", desc := "(I)Z" } : Jvm.MethodName) prog_14_method_14_code (2 : Nat) (Option.some Jvm.ClassFile.FieldType.boolean)) ∈ sm_WS := sm_mw sm_t6 161 rfl rfl
theorem mw_1362 : (Jvm.Cond.constantLong "StreamMarksModel" (138 : Nat) (32 : Int64)) ∈ sm_WS := sm_mw sm_t6 162 rfl rfl
theorem mw_1363 : (Jvm.Cond.constantLong "StreamMarksModel" (140 : Nat) (2 : Int64)) ∈ sm_WS := sm_mw sm_t6 163 rfl rfl
theorem mw_1364 : (Jvm.Cond.constantLong "StreamMarksModel" (142 : Nat) (10 : Int64)) ∈ sm_WS := sm_mw sm_t6 164 rfl rfl
theorem mw_1365 : (Jvm.Cond.constantLong "StreamMarksModel" (144 : Nat) (63 : Int64)) ∈ sm_WS := sm_mw sm_t6 165 rfl rfl
theorem mw_1366 : (Jvm.Cond.methodLink "StreamMarksLaw" (120 : Nat) ({ cls := "StreamMarksModel", name := "precincts", desc := "(IIII)V" } : Jvm.MethodName)) ∈ sm_WS := sm_mw sm_t6 166 rfl rfl
theorem mw_1367 : (Jvm.Cond.instanceMethod ({ cls := "StreamMarksModel", name := "precincts", desc := "(IIII)V" } : Jvm.MethodName)) ∈ sm_WS := sm_mw sm_t6 167 rfl rfl
theorem mw_1368 : (Jvm.Cond.selects "StreamMarksModel" ({ cls := "StreamMarksModel", name := "precincts", desc := "(IIII)V" } : Jvm.MethodName) ({ cls := "StreamMarksModel", name := "precincts", desc := "(IIII)V" } : Jvm.MethodName)) ∈ sm_WS := sm_mw sm_t6 168 rfl rfl
theorem mw_1369 : (Jvm.Cond.code ({ cls := "StreamMarksModel", name := "precincts", desc := "(IIII)V" } : Jvm.MethodName) prog_14_method_16_code (6 : Nat) (Option.none : Option Jvm.ClassFile.FieldType)) ∈ sm_WS := sm_mw sm_t6 169 rfl rfl
theorem mw_1370 : (Jvm.Cond.constantLong "StreamMarksModel" (146 : Nat) (15 : Int64)) ∈ sm_WS := sm_mw sm_t6 170 rfl rfl
theorem mw_1371 : (Jvm.Cond.methodLink "StreamMarksLaw" (123 : Nat) ({ cls := "StreamMarksModel", name := "steps", desc := "(IIII)V" } : Jvm.MethodName)) ∈ sm_WS := sm_mw sm_t6 171 rfl rfl
theorem mw_1372 : (Jvm.Cond.instanceMethod ({ cls := "StreamMarksModel", name := "steps", desc := "(IIII)V" } : Jvm.MethodName)) ∈ sm_WS := sm_mw sm_t6 172 rfl rfl
theorem mw_1373 : (Jvm.Cond.selects "StreamMarksModel" ({ cls := "StreamMarksModel", name := "steps", desc := "(IIII)V" } : Jvm.MethodName) ({ cls := "StreamMarksModel", name := "steps", desc := "(IIII)V" } : Jvm.MethodName)) ∈ sm_WS := sm_mw sm_t6 173 rfl rfl
theorem mw_1374 : (Jvm.Cond.code ({ cls := "StreamMarksModel", name := "steps", desc := "(IIII)V" } : Jvm.MethodName) prog_14_method_17_code (5 : Nat) (Option.none : Option Jvm.ClassFile.FieldType)) ∈ sm_WS := sm_mw sm_t6 174 rfl rfl
theorem mw_1375 : (Jvm.Cond.constantLong "StreamMarksModel" (148 : Nat) (7 : Int64)) ∈ sm_WS := sm_mw sm_t6 175 rfl rfl
theorem mw_1376 : (Jvm.Cond.constantLong "StreamMarksModel" (150 : Nat) (37 : Int64)) ∈ sm_WS := sm_mw sm_t6 176 rfl rfl
theorem mw_1377 : (Jvm.Cond.methodLink "StreamMarksLaw" (127 : Nat) ({ cls := "StreamMarksModel", name := "step", desc := "(III)V" } : Jvm.MethodName)) ∈ sm_WS := sm_mw sm_t6 177 rfl rfl
theorem mw_1378 : (Jvm.Cond.instanceMethod ({ cls := "StreamMarksModel", name := "step", desc := "(III)V" } : Jvm.MethodName)) ∈ sm_WS := sm_mw sm_t6 178 rfl rfl
theorem mw_1379 : (Jvm.Cond.selects "StreamMarksModel" ({ cls := "StreamMarksModel", name := "step", desc := "(III)V" } : Jvm.MethodName) ({ cls := "StreamMarksModel", name := "step", desc := "(III)V" } : Jvm.MethodName)) ∈ sm_WS := sm_mw sm_t6 179 rfl rfl
theorem mw_1380 : (Jvm.Cond.code ({ cls := "StreamMarksModel", name := "step", desc := "(III)V" } : Jvm.MethodName) prog_14_method_18_code (4 : Nat) (Option.none : Option Jvm.ClassFile.FieldType)) ∈ sm_WS := sm_mw sm_t6 180 rfl rfl
theorem mw_1381 : (Jvm.Cond.constantLong "StreamMarksModel" (152 : Nat) (96 : Int64)) ∈ sm_WS := sm_mw sm_t6 181 rfl rfl
theorem mw_1382 : (Jvm.Cond.constantLong "StreamMarksModel" (154 : Nat) (65535 : Int64)) ∈ sm_WS := sm_mw sm_t6 182 rfl rfl
theorem mw_1383 : (Jvm.Cond.methodLink "StreamMarksLaw" (131 : Nat) ({ cls := "StreamMarksModel", name := "change", desc := "(IIIIII)I" } : Jvm.MethodName)) ∈ sm_WS := sm_mw sm_t6 183 rfl rfl
theorem mw_1384 : (Jvm.Cond.instanceMethod ({ cls := "StreamMarksModel", name := "change", desc := "(IIIIII)I" } : Jvm.MethodName)) ∈ sm_WS := sm_mw sm_t6 184 rfl rfl
theorem mw_1385 : (Jvm.Cond.selects "StreamMarksModel" ({ cls := "StreamMarksModel", name := "change", desc := "(IIIIII)I" } : Jvm.MethodName) ({ cls := "StreamMarksModel", name := "change", desc := "(IIIIII)I" } : Jvm.MethodName)) ∈ sm_WS := sm_mw sm_t6 185 rfl rfl
theorem mw_1386 : (Jvm.Cond.code ({ cls := "StreamMarksModel", name := "change", desc := "(IIIIII)I" } : Jvm.MethodName) prog_14_method_19_code (8 : Nat) (Option.some Jvm.ClassFile.FieldType.int)) ∈ sm_WS := sm_mw sm_t6 186 rfl rfl
theorem mw_1387 : (Jvm.Cond.methodLink "StreamMarksModel" (156 : Nat) ({ cls := "StreamMarksModel", name := "turn", desc := "(IIIIII)V" } : Jvm.MethodName)) ∈ sm_WS := sm_mw sm_t6 187 rfl rfl
theorem mw_1389 : (Jvm.Cond.instanceMethod ({ cls := "StreamMarksModel", name := "turn", desc := "(IIIIII)V" } : Jvm.MethodName)) ∈ sm_WS := sm_mw sm_t6 189 rfl rfl
theorem mw_1390 : (Jvm.Cond.code ({ cls := "StreamMarksModel", name := "turn", desc := "(IIIIII)V" } : Jvm.MethodName) prog_14_method_20_code (8 : Nat) (Option.none : Option Jvm.ClassFile.FieldType)) ∈ sm_WS := sm_mw sm_t6 190 rfl rfl
theorem mw_1391 : (Jvm.Cond.methodLink "StreamMarksLaw" (135 : Nat) ({ cls := "StreamMarksModel", name := "get", desc := "(III)I" } : Jvm.MethodName)) ∈ sm_WS := sm_mw sm_t6 191 rfl rfl
theorem mw_1392 : (Jvm.Cond.instanceMethod ({ cls := "StreamMarksModel", name := "get", desc := "(III)I" } : Jvm.MethodName)) ∈ sm_WS := sm_mw sm_t6 192 rfl rfl
theorem mw_1393 : (Jvm.Cond.selects "StreamMarksModel" ({ cls := "StreamMarksModel", name := "get", desc := "(III)I" } : Jvm.MethodName) ({ cls := "StreamMarksModel", name := "get", desc := "(III)I" } : Jvm.MethodName)) ∈ sm_WS := sm_mw sm_t6 193 rfl rfl
theorem mw_1394 : (Jvm.Cond.code ({ cls := "StreamMarksModel", name := "get", desc := "(III)I" } : Jvm.MethodName) prog_14_method_22_code (7 : Nat) (Option.some Jvm.ClassFile.FieldType.int)) ∈ sm_WS := sm_mw sm_t6 194 rfl rfl
theorem mw_1395 : (Jvm.Cond.constantLong "StreamMarksModel" (160 : Nat) (14 : Int64)) ∈ sm_WS := sm_mw sm_t6 195 rfl rfl
theorem mw_1396 : (Jvm.Cond.constantLong "StreamMarksModel" (162 : Nat) (20 : Int64)) ∈ sm_WS := sm_mw sm_t6 196 rfl rfl
theorem mw_1397 : (Jvm.Cond.constantLong "StreamMarksModel" (164 : Nat) (34 : Int64)) ∈ sm_WS := sm_mw sm_t6 197 rfl rfl
theorem mw_1398 : (Jvm.Cond.constantLong "StreamMarksModel" (166 : Nat) (40 : Int64)) ∈ sm_WS := sm_mw sm_t6 198 rfl rfl
theorem mw_1399 : (Jvm.Cond.constantLong "StreamMarksModel" (168 : Nat) (45 : Int64)) ∈ sm_WS := sm_mw sm_t6 199 rfl rfl
theorem mw_1400 : (Jvm.Cond.methodLink "StreamMarksModel" (170 : Nat) ({ cls := "StreamMarksModel", name := "ofComponent", desc := "(III)I" } : Jvm.MethodName)) ∈ sm_WS := sm_mw sm_t6 200 rfl rfl
theorem mw_1402 : (Jvm.Cond.instanceMethod ({ cls := "StreamMarksModel", name := "ofComponent", desc := "(III)I" } : Jvm.MethodName)) ∈ sm_WS := sm_mw sm_t6 202 rfl rfl
theorem mw_1403 : (Jvm.Cond.code ({ cls := "StreamMarksModel", name := "ofComponent", desc := "(III)I" } : Jvm.MethodName) prog_14_method_21_code (4 : Nat) (Option.some Jvm.ClassFile.FieldType.int)) ∈ sm_WS := sm_mw sm_t6 203 rfl rfl
theorem mw_1404 : (Jvm.Cond.methodLink "StreamMarksLaw" (139 : Nat) ({ cls := "StreamMarksModel", name := "clear", desc := "()V" } : Jvm.MethodName)) ∈ sm_WS := sm_mw sm_t6 204 rfl rfl
theorem mw_1405 : (Jvm.Cond.instanceMethod ({ cls := "StreamMarksModel", name := "clear", desc := "()V" } : Jvm.MethodName)) ∈ sm_WS := sm_mw sm_t6 205 rfl rfl
theorem mw_1406 : (Jvm.Cond.selects "StreamMarksModel" ({ cls := "StreamMarksModel", name := "clear", desc := "()V" } : Jvm.MethodName) ({ cls := "StreamMarksModel", name := "clear", desc := "()V" } : Jvm.MethodName)) ∈ sm_WS := sm_mw sm_t6 206 rfl rfl
theorem mw_1407 : (Jvm.Cond.code ({ cls := "StreamMarksModel", name := "clear", desc := "()V" } : Jvm.MethodName) prog_14_method_23_code (1 : Nat) (Option.none : Option Jvm.ClassFile.FieldType)) ∈ sm_WS := sm_mw sm_t6 207 rfl rfl
theorem mw_1408 : (Jvm.Cond.methodLink "StreamMarksLaw" (143 : Nat) ({ cls := "StreamMarksModel", name := "put", desc := "(I)I" } : Jvm.MethodName)) ∈ sm_WS := sm_mw sm_t6 208 rfl rfl
theorem mw_1409 : (Jvm.Cond.instanceMethod ({ cls := "StreamMarksModel", name := "put", desc := "(I)I" } : Jvm.MethodName)) ∈ sm_WS := sm_mw sm_t6 209 rfl rfl
theorem mw_1410 : (Jvm.Cond.selects "StreamMarksModel" ({ cls := "StreamMarksModel", name := "put", desc := "(I)I" } : Jvm.MethodName) ({ cls := "StreamMarksModel", name := "put", desc := "(I)I" } : Jvm.MethodName)) ∈ sm_WS := sm_mw sm_t6 210 rfl rfl
theorem mw_1411 : (Jvm.Cond.code ({ cls := "StreamMarksModel", name := "put", desc := "(I)I" } : Jvm.MethodName) prog_14_method_24_code (2 : Nat) (Option.some Jvm.ClassFile.FieldType.int)) ∈ sm_WS := sm_mw sm_t6 211 rfl rfl
theorem mw_1412 : (Jvm.Cond.methodLink "StreamMarksLaw" (146 : Nat) ({ cls := "StreamMarksModel", name := "at", desc := "(I)I" } : Jvm.MethodName)) ∈ sm_WS := sm_mw sm_t6 212 rfl rfl
theorem mw_1413 : (Jvm.Cond.instanceMethod ({ cls := "StreamMarksModel", name := "at", desc := "(I)I" } : Jvm.MethodName)) ∈ sm_WS := sm_mw sm_t6 213 rfl rfl
theorem mw_1414 : (Jvm.Cond.selects "StreamMarksModel" ({ cls := "StreamMarksModel", name := "at", desc := "(I)I" } : Jvm.MethodName) ({ cls := "StreamMarksModel", name := "at", desc := "(I)I" } : Jvm.MethodName)) ∈ sm_WS := sm_mw sm_t6 214 rfl rfl
theorem mw_1415 : (Jvm.Cond.code ({ cls := "StreamMarksModel", name := "at", desc := "(I)I" } : Jvm.MethodName) prog_14_method_25_code (2 : Nat) (Option.some Jvm.ClassFile.FieldType.int)) ∈ sm_WS := sm_mw sm_t6 215 rfl rfl
theorem mw_1416 : (Jvm.Cond.methodLink "StreamMarksLaw" (150 : Nat) ({ cls := "StreamMarksModel", name := "write", desc := "()I" } : Jvm.MethodName)) ∈ sm_WS := sm_mw sm_t6 216 rfl rfl
theorem mw_1417 : (Jvm.Cond.instanceMethod ({ cls := "StreamMarksModel", name := "write", desc := "()I" } : Jvm.MethodName)) ∈ sm_WS := sm_mw sm_t6 217 rfl rfl
theorem mw_1418 : (Jvm.Cond.selects "StreamMarksModel" ({ cls := "StreamMarksModel", name := "write", desc := "()I" } : Jvm.MethodName) ({ cls := "StreamMarksModel", name := "write", desc := "()I" } : Jvm.MethodName)) ∈ sm_WS := sm_mw sm_t6 218 rfl rfl
theorem mw_1419 : (Jvm.Cond.code ({ cls := "StreamMarksModel", name := "write", desc := "()I" } : Jvm.MethodName) prog_14_method_40_code (2 : Nat) (Option.some Jvm.ClassFile.FieldType.int)) ∈ sm_WS := sm_mw sm_t6 219 rfl rfl
theorem mw_1420 : (Jvm.Cond.methodLink "StreamMarksModel" (219 : Nat) ({ cls := "StreamMarksModel", name := "addSize", desc := "()V" } : Jvm.MethodName)) ∈ sm_WS := sm_mw sm_t6 220 rfl rfl
theorem mw_1422 : (Jvm.Cond.instanceMethod ({ cls := "StreamMarksModel", name := "addSize", desc := "()V" } : Jvm.MethodName)) ∈ sm_WS := sm_mw sm_t6 222 rfl rfl
theorem mw_1423 : (Jvm.Cond.code ({ cls := "StreamMarksModel", name := "addSize", desc := "()V" } : Jvm.MethodName) prog_14_method_37_code (2 : Nat) (Option.none : Option Jvm.ClassFile.FieldType)) ∈ sm_WS := sm_mw sm_t6 223 rfl rfl
theorem mw_1424 : (Jvm.Cond.methodLink "StreamMarksModel" (183 : Nat) ({ cls := "StreamMarksModel", name := "add", desc := "(II)V" } : Jvm.MethodName)) ∈ sm_WS := sm_mw sm_t6 224 rfl rfl
theorem mw_1426 : (Jvm.Cond.instanceMethod ({ cls := "StreamMarksModel", name := "add", desc := "(II)V" } : Jvm.MethodName)) ∈ sm_WS := sm_mw sm_t6 226 rfl rfl
theorem mw_1427 : (Jvm.Cond.code ({ cls := "StreamMarksModel", name := "add", desc := "(II)V" } : Jvm.MethodName) prog_14_method_26_code (4 : Nat) (Option.none : Option Jvm.ClassFile.FieldType)) ∈ sm_WS := sm_mw sm_t6 227 rfl rfl
theorem mw_1428 : (Jvm.Cond.methodLink "StreamMarksModel" (198 : Nat) ({ cls := "StreamMarksModel", name := "beginSegment", desc := "(II)V" } : Jvm.MethodName)) ∈ sm_WS := sm_mw sm_t6 228 rfl rfl
theorem mw_1430 : (Jvm.Cond.instanceMethod ({ cls := "StreamMarksModel", name := "beginSegment", desc := "(II)V" } : Jvm.MethodName)) ∈ sm_WS := sm_mw sm_t6 230 rfl rfl
theorem mw_1431 : (Jvm.Cond.code ({ cls := "StreamMarksModel", name := "beginSegment", desc := "(II)V" } : Jvm.MethodName) prog_14_method_27_code (3 : Nat) (Option.none : Option Jvm.ClassFile.FieldType)) ∈ sm_WS := sm_mw sm_t6 231 rfl rfl
theorem mw_1432 : (Jvm.Cond.methodLink "StreamMarksModel" (222 : Nat) ({ cls := "StreamMarksModel", name := "addCodings", desc := "()V" } : Jvm.MethodName)) ∈ sm_WS := sm_mw sm_t6 232 rfl rfl
theorem mw_1434 : (Jvm.Cond.instanceMethod ({ cls := "StreamMarksModel", name := "addCodings", desc := "()V" } : Jvm.MethodName)) ∈ sm_WS := sm_mw sm_t6 234 rfl rfl
theorem mw_1435 : (Jvm.Cond.code ({ cls := "StreamMarksModel", name := "addCodings", desc := "()V" } : Jvm.MethodName) prog_14_method_38_code (2 : Nat) (Option.none : Option Jvm.ClassFile.FieldType)) ∈ sm_WS := sm_mw sm_t6 235 rfl rfl
theorem mw_1436 : (Jvm.Cond.methodLink "StreamMarksModel" (201 : Nat) ({ cls := "StreamMarksModel", name := "bodyLength", desc := "(I)I" } : Jvm.MethodName)) ∈ sm_WS := sm_mw sm_t6 236 rfl rfl
theorem mw_1438 : (Jvm.Cond.instanceMethod ({ cls := "StreamMarksModel", name := "bodyLength", desc := "(I)I" } : Jvm.MethodName)) ∈ sm_WS := sm_mw sm_t6 238 rfl rfl
theorem mw_1439 : (Jvm.Cond.code ({ cls := "StreamMarksModel", name := "bodyLength", desc := "(I)I" } : Jvm.MethodName) prog_14_method_34_code (2 : Nat) (Option.some Jvm.ClassFile.FieldType.int)) ∈ sm_WS := sm_mw sm_t6 239 rfl rfl
theorem mw_1440 : (Jvm.Cond.methodLink "StreamMarksModel" (187 : Nat) ({ cls := "StreamMarksModel", name := "tells", desc := "(I)Z" } : Jvm.MethodName)) ∈ sm_WS := sm_mw sm_t7 0 rfl rfl
theorem mw_1442 : (Jvm.Cond.instanceMethod ({ cls := "StreamMarksModel", name := "tells", desc := "(I)Z" } : Jvm.MethodName)) ∈ sm_WS := sm_mw sm_t7 2 rfl rfl
theorem mw_1443 : (Jvm.Cond.code ({ cls := "StreamMarksModel", name := "tells", desc := "(I)Z" } : Jvm.MethodName) prog_14_method_28_code (4 : Nat) (Option.some Jvm.ClassFile.FieldType.boolean)) ∈ sm_WS := sm_mw sm_t7 3 rfl rfl
theorem mw_1444 : (Jvm.Cond.methodLink "StreamMarksModel" (204 : Nat) ({ cls := "StreamMarksModel", name := "body", desc := "(I)V" } : Jvm.MethodName)) ∈ sm_WS := sm_mw sm_t7 4 rfl rfl
theorem mw_1446 : (Jvm.Cond.instanceMethod ({ cls := "StreamMarksModel", name := "body", desc := "(I)V" } : Jvm.MethodName)) ∈ sm_WS := sm_mw sm_t7 6 rfl rfl
theorem mw_1447 : (Jvm.Cond.code ({ cls := "StreamMarksModel", name := "body", desc := "(I)V" } : Jvm.MethodName) prog_14_method_29_code (3 : Nat) (Option.none : Option Jvm.ClassFile.FieldType)) ∈ sm_WS := sm_mw sm_t7 7 rfl rfl
theorem mw_1448 : (Jvm.Cond.methodLink "StreamMarksModel" (207 : Nat) ({ cls := "StreamMarksModel", name := "rowsLength", desc := "(I)I" } : Jvm.MethodName)) ∈ sm_WS := sm_mw sm_t7 8 rfl rfl
theorem mw_1450 : (Jvm.Cond.instanceMethod ({ cls := "StreamMarksModel", name := "rowsLength", desc := "(I)I" } : Jvm.MethodName)) ∈ sm_WS := sm_mw sm_t7 10 rfl rfl
theorem mw_1451 : (Jvm.Cond.code ({ cls := "StreamMarksModel", name := "rowsLength", desc := "(I)I" } : Jvm.MethodName) prog_14_method_33_code (2 : Nat) (Option.some Jvm.ClassFile.FieldType.int)) ∈ sm_WS := sm_mw sm_t7 11 rfl rfl
theorem mw_1452 : (Jvm.Cond.methodLink "StreamMarksModel" (190 : Nat) ({ cls := "StreamMarksModel", name := "valuesOf", desc := "(I)I" } : Jvm.MethodName)) ∈ sm_WS := sm_mw sm_t7 12 rfl rfl
theorem mw_1454 : (Jvm.Cond.instanceMethod ({ cls := "StreamMarksModel", name := "valuesOf", desc := "(I)I" } : Jvm.MethodName)) ∈ sm_WS := sm_mw sm_t7 14 rfl rfl
theorem mw_1455 : (Jvm.Cond.code ({ cls := "StreamMarksModel", name := "valuesOf", desc := "(I)I" } : Jvm.MethodName) prog_14_method_30_code (2 : Nat) (Option.some Jvm.ClassFile.FieldType.int)) ∈ sm_WS := sm_mw sm_t7 15 rfl rfl
theorem mw_1456 : (Jvm.Cond.methodLink "StreamMarksModel" (210 : Nat) ({ cls := "StreamMarksModel", name := "rows", desc := "(I)V" } : Jvm.MethodName)) ∈ sm_WS := sm_mw sm_t7 16 rfl rfl
theorem mw_1458 : (Jvm.Cond.instanceMethod ({ cls := "StreamMarksModel", name := "rows", desc := "(I)V" } : Jvm.MethodName)) ∈ sm_WS := sm_mw sm_t7 18 rfl rfl
theorem mw_1459 : (Jvm.Cond.code ({ cls := "StreamMarksModel", name := "rows", desc := "(I)V" } : Jvm.MethodName) prog_14_method_32_code (3 : Nat) (Option.none : Option Jvm.ClassFile.FieldType)) ∈ sm_WS := sm_mw sm_t7 19 rfl rfl
theorem mw_1460 : (Jvm.Cond.methodLink "StreamMarksModel" (194 : Nat) ({ cls := "StreamMarksModel", name := "valueOf", desc := "(II)I" } : Jvm.MethodName)) ∈ sm_WS := sm_mw sm_t7 20 rfl rfl
theorem mw_1462 : (Jvm.Cond.instanceMethod ({ cls := "StreamMarksModel", name := "valueOf", desc := "(II)I" } : Jvm.MethodName)) ∈ sm_WS := sm_mw sm_t7 22 rfl rfl
theorem mw_1463 : (Jvm.Cond.code ({ cls := "StreamMarksModel", name := "valueOf", desc := "(II)I" } : Jvm.MethodName) prog_14_method_31_code (3 : Nat) (Option.some Jvm.ClassFile.FieldType.int)) ∈ sm_WS := sm_mw sm_t7 23 rfl rfl
theorem mw_1464 : (Jvm.Cond.methodLink "StreamMarksModel" (213 : Nat) ({ cls := "StreamMarksModel", name := "otherCoding", desc := "(I)Z" } : Jvm.MethodName)) ∈ sm_WS := sm_mw sm_t7 24 rfl rfl
theorem mw_1466 : (Jvm.Cond.instanceMethod ({ cls := "StreamMarksModel", name := "otherCoding", desc := "(I)Z" } : Jvm.MethodName)) ∈ sm_WS := sm_mw sm_t7 26 rfl rfl
theorem mw_1467 : (Jvm.Cond.code ({ cls := "StreamMarksModel", name := "otherCoding", desc := "(I)Z" } : Jvm.MethodName) prog_14_method_35_code (4 : Nat) (Option.some Jvm.ClassFile.FieldType.boolean)) ∈ sm_WS := sm_mw sm_t7 27 rfl rfl
theorem mw_1468 : (Jvm.Cond.methodLink "StreamMarksModel" (216 : Nat) ({ cls := "StreamMarksModel", name := "otherSteps", desc := "(I)Z" } : Jvm.MethodName)) ∈ sm_WS := sm_mw sm_t7 28 rfl rfl
theorem mw_1470 : (Jvm.Cond.instanceMethod ({ cls := "StreamMarksModel", name := "otherSteps", desc := "(I)Z" } : Jvm.MethodName)) ∈ sm_WS := sm_mw sm_t7 30 rfl rfl
theorem mw_1471 : (Jvm.Cond.code ({ cls := "StreamMarksModel", name := "otherSteps", desc := "(I)Z" } : Jvm.MethodName) prog_14_method_36_code (4 : Nat) (Option.some Jvm.ClassFile.FieldType.boolean)) ∈ sm_WS := sm_mw sm_t7 31 rfl rfl
theorem mw_1472 : (Jvm.Cond.methodLink "StreamMarksModel" (225 : Nat) ({ cls := "StreamMarksModel", name := "addRest", desc := "()V" } : Jvm.MethodName)) ∈ sm_WS := sm_mw sm_t7 32 rfl rfl
theorem mw_1474 : (Jvm.Cond.instanceMethod ({ cls := "StreamMarksModel", name := "addRest", desc := "()V" } : Jvm.MethodName)) ∈ sm_WS := sm_mw sm_t7 34 rfl rfl
theorem mw_1475 : (Jvm.Cond.code ({ cls := "StreamMarksModel", name := "addRest", desc := "()V" } : Jvm.MethodName) prog_14_method_39_code (2 : Nat) (Option.none : Option Jvm.ClassFile.FieldType)) ∈ sm_WS := sm_mw sm_t7 35 rfl rfl
theorem mw_1476 : (Jvm.Cond.methodLink "StreamMarksLaw" (153 : Nat) ({ cls := "StreamMarksModel", name := "part", desc := "(IIII)V" } : Jvm.MethodName)) ∈ sm_WS := sm_mw sm_t7 36 rfl rfl
theorem mw_1477 : (Jvm.Cond.instanceMethod ({ cls := "StreamMarksModel", name := "part", desc := "(IIII)V" } : Jvm.MethodName)) ∈ sm_WS := sm_mw sm_t7 37 rfl rfl
theorem mw_1478 : (Jvm.Cond.selects "StreamMarksModel" ({ cls := "StreamMarksModel", name := "part", desc := "(IIII)V" } : Jvm.MethodName) ({ cls := "StreamMarksModel", name := "part", desc := "(IIII)V" } : Jvm.MethodName)) ∈ sm_WS := sm_mw sm_t7 38 rfl rfl
theorem mw_1479 : (Jvm.Cond.code ({ cls := "StreamMarksModel", name := "part", desc := "(IIII)V" } : Jvm.MethodName) prog_14_method_41_code (6 : Nat) (Option.none : Option Jvm.ClassFile.FieldType)) ∈ sm_WS := sm_mw sm_t7 39 rfl rfl
theorem mw_1480 : (Jvm.Cond.constantLong "StreamMarksModel" (228 : Nat) (65536 : Int64)) ∈ sm_WS := sm_mw sm_t7 40 rfl rfl
theorem mw_1481 : (Jvm.Cond.methodLink "StreamMarksLaw" (157 : Nat) ({ cls := "StreamMarksModel", name := "mark", desc := "(I)V" } : Jvm.MethodName)) ∈ sm_WS := sm_mw sm_t7 41 rfl rfl
theorem mw_1482 : (Jvm.Cond.instanceMethod ({ cls := "StreamMarksModel", name := "mark", desc := "(I)V" } : Jvm.MethodName)) ∈ sm_WS := sm_mw sm_t7 42 rfl rfl
theorem mw_1483 : (Jvm.Cond.selects "StreamMarksModel" ({ cls := "StreamMarksModel", name := "mark", desc := "(I)V" } : Jvm.MethodName) ({ cls := "StreamMarksModel", name := "mark", desc := "(I)V" } : Jvm.MethodName)) ∈ sm_WS := sm_mw sm_t7 43 rfl rfl
theorem mw_1484 : (Jvm.Cond.code ({ cls := "StreamMarksModel", name := "mark", desc := "(I)V" } : Jvm.MethodName) prog_14_method_42_code (2 : Nat) (Option.none : Option Jvm.ClassFile.FieldType)) ∈ sm_WS := sm_mw sm_t7 44 rfl rfl
theorem mw_1485 : (Jvm.Cond.methodLink "StreamMarksLaw" (161 : Nat) ({ cls := "StreamMarksModel", name := "spoil", desc := "(II)V" } : Jvm.MethodName)) ∈ sm_WS := sm_mw sm_t7 45 rfl rfl
theorem mw_1486 : (Jvm.Cond.instanceMethod ({ cls := "StreamMarksModel", name := "spoil", desc := "(II)V" } : Jvm.MethodName)) ∈ sm_WS := sm_mw sm_t7 46 rfl rfl
theorem mw_1487 : (Jvm.Cond.selects "StreamMarksModel" ({ cls := "StreamMarksModel", name := "spoil", desc := "(II)V" } : Jvm.MethodName) ({ cls := "StreamMarksModel", name := "spoil", desc := "(II)V" } : Jvm.MethodName)) ∈ sm_WS := sm_mw sm_t7 47 rfl rfl
theorem mw_1488 : (Jvm.Cond.code ({ cls := "StreamMarksModel", name := "spoil", desc := "(II)V" } : Jvm.MethodName) prog_14_method_43_code (3 : Nat) (Option.none : Option Jvm.ClassFile.FieldType)) ∈ sm_WS := sm_mw sm_t7 48 rfl rfl
theorem mw_1489 : (Jvm.Cond.methodLink "StreamMarksLaw" (165 : Nat) ({ cls := "StreamMarksModel", name := "scan", desc := "()I" } : Jvm.MethodName)) ∈ sm_WS := sm_mw sm_t7 49 rfl rfl
theorem mw_1490 : (Jvm.Cond.instanceMethod ({ cls := "StreamMarksModel", name := "scan", desc := "()I" } : Jvm.MethodName)) ∈ sm_WS := sm_mw sm_t7 50 rfl rfl
theorem mw_1491 : (Jvm.Cond.selects "StreamMarksModel" ({ cls := "StreamMarksModel", name := "scan", desc := "()I" } : Jvm.MethodName) ({ cls := "StreamMarksModel", name := "scan", desc := "()I" } : Jvm.MethodName)) ∈ sm_WS := sm_mw sm_t7 51 rfl rfl
theorem mw_1492 : (Jvm.Cond.code ({ cls := "StreamMarksModel", name := "scan", desc := "()I" } : Jvm.MethodName) prog_14_method_74_code (2 : Nat) (Option.some Jvm.ClassFile.FieldType.int)) ∈ sm_WS := sm_mw sm_t7 52 rfl rfl
theorem mw_1493 : (Jvm.Cond.methodLink "StreamMarksModel" (338 : Nat) ({ cls := "StreamMarksModel", name := "walk", desc := "()I" } : Jvm.MethodName)) ∈ sm_WS := sm_mw sm_t7 53 rfl rfl
theorem mw_1495 : (Jvm.Cond.instanceMethod ({ cls := "StreamMarksModel", name := "walk", desc := "()I" } : Jvm.MethodName)) ∈ sm_WS := sm_mw sm_t7 55 rfl rfl
theorem mw_1496 : (Jvm.Cond.code ({ cls := "StreamMarksModel", name := "walk", desc := "()I" } : Jvm.MethodName) prog_14_method_73_code (4 : Nat) (Option.some Jvm.ClassFile.FieldType.int)) ∈ sm_WS := sm_mw sm_t7 56 rfl rfl
theorem mw_1497 : (Jvm.Cond.methodLink "StreamMarksModel" (324 : Nat) ({ cls := "StreamMarksModel", name := "start", desc := "()I" } : Jvm.MethodName)) ∈ sm_WS := sm_mw sm_t7 57 rfl rfl
theorem mw_1499 : (Jvm.Cond.instanceMethod ({ cls := "StreamMarksModel", name := "start", desc := "()I" } : Jvm.MethodName)) ∈ sm_WS := sm_mw sm_t7 59 rfl rfl
theorem mw_1500 : (Jvm.Cond.code ({ cls := "StreamMarksModel", name := "start", desc := "()I" } : Jvm.MethodName) prog_14_method_66_code (2 : Nat) (Option.some Jvm.ClassFile.FieldType.int)) ∈ sm_WS := sm_mw sm_t7 60 rfl rfl
theorem mw_1501 : (Jvm.Cond.methodLink "StreamMarksModel" (297 : Nat) ({ cls := "StreamMarksModel", name := "isCut", desc := "(II)Z" } : Jvm.MethodName)) ∈ sm_WS := sm_mw sm_t7 61 rfl rfl
theorem mw_1503 : (Jvm.Cond.instanceMethod ({ cls := "StreamMarksModel", name := "isCut", desc := "(II)Z" } : Jvm.MethodName)) ∈ sm_WS := sm_mw sm_t7 63 rfl rfl
theorem mw_1504 : (Jvm.Cond.code ({ cls := "StreamMarksModel", name := "isCut", desc := "(II)Z" } : Jvm.MethodName) prog_14_method_49_code (3 : Nat) (Option.some Jvm.ClassFile.FieldType.boolean)) ∈ sm_WS := sm_mw sm_t7 64 rfl rfl
theorem mw_1505 : (Jvm.Cond.methodLink "StreamMarksModel" (233 : Nat) ({ cls := "StreamMarksModel", name := "u1", desc := "(I)I" } : Jvm.MethodName)) ∈ sm_WS := sm_mw sm_t7 65 rfl rfl
theorem mw_1507 : (Jvm.Cond.instanceMethod ({ cls := "StreamMarksModel", name := "u1", desc := "(I)I" } : Jvm.MethodName)) ∈ sm_WS := sm_mw sm_t7 67 rfl rfl
theorem mw_1508 : (Jvm.Cond.code ({ cls := "StreamMarksModel", name := "u1", desc := "(I)I" } : Jvm.MethodName) prog_14_method_44_code (2 : Nat) (Option.some Jvm.ClassFile.FieldType.int)) ∈ sm_WS := sm_mw sm_t7 68 rfl rfl
theorem mw_1509 : (Jvm.Cond.methodLink "StreamMarksModel" (236 : Nat) ({ cls := "StreamMarksModel", name := "hasLength", desc := "(I)Z" } : Jvm.MethodName)) ∈ sm_WS := sm_mw sm_t7 69 rfl rfl
theorem mw_1510 : (Jvm.Cond.static ({ cls := "StreamMarksModel", name := "hasLength", desc := "(I)Z" } : Jvm.MethodName)) ∈ sm_WS := sm_mw sm_t7 70 rfl rfl
theorem mw_1511 : (Jvm.Cond.code ({ cls := "StreamMarksModel", name := "hasLength", desc := "(I)Z" } : Jvm.MethodName) prog_14_method_48_code (1 : Nat) (Option.some Jvm.ClassFile.FieldType.boolean)) ∈ sm_WS := sm_mw sm_t7 71 rfl rfl
theorem mw_1512 : (Jvm.Cond.methodLink "StreamMarksModel" (230 : Nat) ({ cls := "StreamMarksModel", name := "u2", desc := "(I)I" } : Jvm.MethodName)) ∈ sm_WS := sm_mw sm_t7 72 rfl rfl
theorem mw_1514 : (Jvm.Cond.instanceMethod ({ cls := "StreamMarksModel", name := "u2", desc := "(I)I" } : Jvm.MethodName)) ∈ sm_WS := sm_mw sm_t7 74 rfl rfl
theorem mw_1515 : (Jvm.Cond.code ({ cls := "StreamMarksModel", name := "u2", desc := "(I)I" } : Jvm.MethodName) prog_14_method_45_code (2 : Nat) (Option.some Jvm.ClassFile.FieldType.int)) ∈ sm_WS := sm_mw sm_t7 75 rfl rfl
theorem mw_1516 : (Jvm.Cond.methodLink "StreamMarksModel" (281 : Nat) ({ cls := "StreamMarksModel", name := "no", desc := "(II)I" } : Jvm.MethodName)) ∈ sm_WS := sm_mw sm_t7 76 rfl rfl
theorem mw_1518 : (Jvm.Cond.instanceMethod ({ cls := "StreamMarksModel", name := "no", desc := "(II)I" } : Jvm.MethodName)) ∈ sm_WS := sm_mw sm_t7 78 rfl rfl
theorem mw_1519 : (Jvm.Cond.code ({ cls := "StreamMarksModel", name := "no", desc := "(II)I" } : Jvm.MethodName) prog_14_method_47_code (3 : Nat) (Option.some Jvm.ClassFile.FieldType.int)) ∈ sm_WS := sm_mw sm_t7 79 rfl rfl
theorem mw_1520 : (Jvm.Cond.methodLink "StreamMarksModel" (300 : Nat) ({ cls := "StreamMarksModel", name := "markAt", desc := "(I)I" } : Jvm.MethodName)) ∈ sm_WS := sm_mw sm_t7 80 rfl rfl
theorem mw_1522 : (Jvm.Cond.instanceMethod ({ cls := "StreamMarksModel", name := "markAt", desc := "(I)I" } : Jvm.MethodName)) ∈ sm_WS := sm_mw sm_t7 82 rfl rfl
theorem mw_1523 : (Jvm.Cond.code ({ cls := "StreamMarksModel", name := "markAt", desc := "(I)I" } : Jvm.MethodName) prog_14_method_50_code (2 : Nat) (Option.some Jvm.ClassFile.FieldType.int)) ∈ sm_WS := sm_mw sm_t7 83 rfl rfl
theorem mw_1524 : (Jvm.Cond.methodLink "StreamMarksModel" (303 : Nat) ({ cls := "StreamMarksModel", name := "look", desc := "(III)I" } : Jvm.MethodName)) ∈ sm_WS := sm_mw sm_t7 84 rfl rfl
theorem mw_1526 : (Jvm.Cond.instanceMethod ({ cls := "StreamMarksModel", name := "look", desc := "(III)I" } : Jvm.MethodName)) ∈ sm_WS := sm_mw sm_t7 86 rfl rfl
theorem mw_1527 : (Jvm.Cond.code ({ cls := "StreamMarksModel", name := "look", desc := "(III)I" } : Jvm.MethodName) prog_14_method_65_code (6 : Nat) (Option.some Jvm.ClassFile.FieldType.int)) ∈ sm_WS := sm_mw sm_t7 87 rfl rfl
theorem mw_1528 : (Jvm.Cond.methodLink "StreamMarksModel" (275 : Nat) ({ cls := "StreamMarksModel", name := "met", desc := "(II)I" } : Jvm.MethodName)) ∈ sm_WS := sm_mw sm_t7 88 rfl rfl
theorem mw_1530 : (Jvm.Cond.instanceMethod ({ cls := "StreamMarksModel", name := "met", desc := "(II)I" } : Jvm.MethodName)) ∈ sm_WS := sm_mw sm_t7 90 rfl rfl
theorem mw_1531 : (Jvm.Cond.code ({ cls := "StreamMarksModel", name := "met", desc := "(II)I" } : Jvm.MethodName) prog_14_method_52_code (5 : Nat) (Option.some Jvm.ClassFile.FieldType.int)) ∈ sm_WS := sm_mw sm_t7 91 rfl rfl
theorem mw_1532 : (Jvm.Cond.methodLink "StreamMarksModel" (284 : Nat) ({ cls := "StreamMarksModel", name := "fitsLength", desc := "(II)Z" } : Jvm.MethodName)) ∈ sm_WS := sm_mw sm_t7 92 rfl rfl
theorem mw_1534 : (Jvm.Cond.instanceMethod ({ cls := "StreamMarksModel", name := "fitsLength", desc := "(II)Z" } : Jvm.MethodName)) ∈ sm_WS := sm_mw sm_t7 94 rfl rfl
theorem mw_1535 : (Jvm.Cond.code ({ cls := "StreamMarksModel", name := "fitsLength", desc := "(II)Z" } : Jvm.MethodName) prog_14_method_56_code (5 : Nat) (Option.some Jvm.ClassFile.FieldType.boolean)) ∈ sm_WS := sm_mw sm_t7 95 rfl rfl
theorem mw_1536 : (Jvm.Cond.methodLink "StreamMarksModel" (242 : Nat) ({ cls := "StreamMarksModel", name := "fitsBody", desc := "(IIZI)Z" } : Jvm.MethodName)) ∈ sm_WS := sm_mw sm_t7 96 rfl rfl
theorem mw_1538 : (Jvm.Cond.instanceMethod ({ cls := "StreamMarksModel", name := "fitsBody", desc := "(IIZI)Z" } : Jvm.MethodName)) ∈ sm_WS := sm_mw sm_t7 98 rfl rfl
theorem mw_1539 : (Jvm.Cond.code ({ cls := "StreamMarksModel", name := "fitsBody", desc := "(IIZI)Z" } : Jvm.MethodName) prog_14_method_54_code (5 : Nat) (Option.some Jvm.ClassFile.FieldType.boolean)) ∈ sm_WS := sm_mw sm_t7 99 rfl rfl
theorem mw_1540 : (Jvm.Cond.methodLink "StreamMarksModel" (246 : Nat) ({ cls := "StreamMarksModel", name := "fitsRows", desc := "(III)Z" } : Jvm.MethodName)) ∈ sm_WS := sm_mw sm_t7 100 rfl rfl
theorem mw_1542 : (Jvm.Cond.instanceMethod ({ cls := "StreamMarksModel", name := "fitsRows", desc := "(III)Z" } : Jvm.MethodName)) ∈ sm_WS := sm_mw sm_t7 102 rfl rfl
theorem mw_1543 : (Jvm.Cond.code ({ cls := "StreamMarksModel", name := "fitsRows", desc := "(III)Z" } : Jvm.MethodName) prog_14_method_55_code (7 : Nat) (Option.some Jvm.ClassFile.FieldType.boolean)) ∈ sm_WS := sm_mw sm_t7 103 rfl rfl
theorem mw_1544 : (Jvm.Cond.methodLink "StreamMarksModel" (288 : Nat) ({ cls := "StreamMarksModel", name := "isGreat", desc := "(II)Z" } : Jvm.MethodName)) ∈ sm_WS := sm_mw sm_t7 104 rfl rfl
theorem mw_1546 : (Jvm.Cond.instanceMethod ({ cls := "StreamMarksModel", name := "isGreat", desc := "(II)Z" } : Jvm.MethodName)) ∈ sm_WS := sm_mw sm_t7 106 rfl rfl
theorem mw_1547 : (Jvm.Cond.code ({ cls := "StreamMarksModel", name := "isGreat", desc := "(II)Z" } : Jvm.MethodName) prog_14_method_57_code (9 : Nat) (Option.some Jvm.ClassFile.FieldType.boolean)) ∈ sm_WS := sm_mw sm_t7 107 rfl rfl
theorem mw_1548 : (Jvm.Cond.methodLink "StreamMarksModel" (250 : Nat) ({ cls := "StreamMarksModel", name := "isPicture", desc := "(I)Z" } : Jvm.MethodName)) ∈ sm_WS := sm_mw sm_t7 108 rfl rfl
theorem mw_1550 : (Jvm.Cond.instanceMethod ({ cls := "StreamMarksModel", name := "isPicture", desc := "(I)Z" } : Jvm.MethodName)) ∈ sm_WS := sm_mw sm_t7 110 rfl rfl
theorem mw_1551 : (Jvm.Cond.code ({ cls := "StreamMarksModel", name := "isPicture", desc := "(I)Z" } : Jvm.MethodName) prog_14_method_58_code (4 : Nat) (Option.some Jvm.ClassFile.FieldType.boolean)) ∈ sm_WS := sm_mw sm_t7 111 rfl rfl
theorem mw_1552 : (Jvm.Cond.methodLink "StreamMarksModel" (253 : Nat) ({ cls := "StreamMarksModel", name := "u4", desc := "(I)J" } : Jvm.MethodName)) ∈ sm_WS := sm_mw sm_t7 112 rfl rfl
theorem mw_1554 : (Jvm.Cond.instanceMethod ({ cls := "StreamMarksModel", name := "u4", desc := "(I)J" } : Jvm.MethodName)) ∈ sm_WS := sm_mw sm_t7 114 rfl rfl
theorem mw_1555 : (Jvm.Cond.code ({ cls := "StreamMarksModel", name := "u4", desc := "(I)J" } : Jvm.MethodName) prog_14_method_46_code (2 : Nat) (Option.some Jvm.ClassFile.FieldType.long)) ∈ sm_WS := sm_mw sm_t7 115 rfl rfl
theorem mw_1556 : (Jvm.Cond.constantLong "StreamMarksModel" (257 : Nat) (2147483648 : Int64)) ∈ sm_WS := sm_mw sm_t7 116 rfl rfl
theorem mw_1557 : (Jvm.Cond.methodLink "StreamMarksModel" (291 : Nat) ({ cls := "StreamMarksModel", name := "isValue", desc := "(III)Z" } : Jvm.MethodName)) ∈ sm_WS := sm_mw sm_t7 117 rfl rfl
theorem mw_1559 : (Jvm.Cond.instanceMethod ({ cls := "StreamMarksModel", name := "isValue", desc := "(III)Z" } : Jvm.MethodName)) ∈ sm_WS := sm_mw sm_t7 119 rfl rfl
theorem mw_1560 : (Jvm.Cond.code ({ cls := "StreamMarksModel", name := "isValue", desc := "(III)Z" } : Jvm.MethodName) prog_14_method_63_code (5 : Nat) (Option.some Jvm.ClassFile.FieldType.boolean)) ∈ sm_WS := sm_mw sm_t7 120 rfl rfl
theorem mw_1561 : (Jvm.Cond.methodLink "StreamMarksModel" (262 : Nat) ({ cls := "StreamMarksModel", name := "isSize", desc := "(I)Z" } : Jvm.MethodName)) ∈ sm_WS := sm_mw sm_t7 121 rfl rfl
theorem mw_1563 : (Jvm.Cond.instanceMethod ({ cls := "StreamMarksModel", name := "isSize", desc := "(I)Z" } : Jvm.MethodName)) ∈ sm_WS := sm_mw sm_t7 123 rfl rfl
theorem mw_1564 : (Jvm.Cond.code ({ cls := "StreamMarksModel", name := "isSize", desc := "(I)Z" } : Jvm.MethodName) prog_14_method_59_code (5 : Nat) (Option.some Jvm.ClassFile.FieldType.boolean)) ∈ sm_WS := sm_mw sm_t7 124 rfl rfl
theorem mw_1565 : (Jvm.Cond.methodLink "StreamMarksModel" (265 : Nat) ({ cls := "StreamMarksModel", name := "isBody", desc := "(IZ)Z" } : Jvm.MethodName)) ∈ sm_WS := sm_mw sm_t7 125 rfl rfl
theorem mw_1567 : (Jvm.Cond.instanceMethod ({ cls := "StreamMarksModel", name := "isBody", desc := "(IZ)Z" } : Jvm.MethodName)) ∈ sm_WS := sm_mw sm_t7 127 rfl rfl
theorem mw_1568 : (Jvm.Cond.code ({ cls := "StreamMarksModel", name := "isBody", desc := "(IZ)Z" } : Jvm.MethodName) prog_14_method_60_code (5 : Nat) (Option.some Jvm.ClassFile.FieldType.boolean)) ∈ sm_WS := sm_mw sm_t7 128 rfl rfl
theorem mw_1569 : (Jvm.Cond.methodLink "StreamMarksModel" (269 : Nat) ({ cls := "StreamMarksModel", name := "isThere", desc := "(I)Z" } : Jvm.MethodName)) ∈ sm_WS := sm_mw sm_t7 129 rfl rfl
theorem mw_1571 : (Jvm.Cond.instanceMethod ({ cls := "StreamMarksModel", name := "isThere", desc := "(I)Z" } : Jvm.MethodName)) ∈ sm_WS := sm_mw sm_t7 131 rfl rfl
theorem mw_1572 : (Jvm.Cond.code ({ cls := "StreamMarksModel", name := "isThere", desc := "(I)Z" } : Jvm.MethodName) prog_14_method_62_code (2 : Nat) (Option.some Jvm.ClassFile.FieldType.boolean)) ∈ sm_WS := sm_mw sm_t7 132 rfl rfl
theorem mw_1573 : (Jvm.Cond.methodLink "StreamMarksModel" (272 : Nat) ({ cls := "StreamMarksModel", name := "areChanges", desc := "(I)Z" } : Jvm.MethodName)) ∈ sm_WS := sm_mw sm_t7 133 rfl rfl
theorem mw_1575 : (Jvm.Cond.instanceMethod ({ cls := "StreamMarksModel", name := "areChanges", desc := "(I)Z" } : Jvm.MethodName)) ∈ sm_WS := sm_mw sm_t7 135 rfl rfl
theorem mw_1576 : (Jvm.Cond.code ({ cls := "StreamMarksModel", name := "areChanges", desc := "(I)Z" } : Jvm.MethodName) prog_14_method_61_code (6 : Nat) (Option.some Jvm.ClassFile.FieldType.boolean)) ∈ sm_WS := sm_mw sm_t7 136 rfl rfl
theorem mw_1577 : (Jvm.Cond.methodLink "StreamMarksModel" (294 : Nat) ({ cls := "StreamMarksModel", name := "isTwice", desc := "(III)Z" } : Jvm.MethodName)) ∈ sm_WS := sm_mw sm_t7 137 rfl rfl
theorem mw_1579 : (Jvm.Cond.instanceMethod ({ cls := "StreamMarksModel", name := "isTwice", desc := "(III)Z" } : Jvm.MethodName)) ∈ sm_WS := sm_mw sm_t7 139 rfl rfl
theorem mw_1580 : (Jvm.Cond.code ({ cls := "StreamMarksModel", name := "isTwice", desc := "(III)Z" } : Jvm.MethodName) prog_14_method_64_code (4 : Nat) (Option.some Jvm.ClassFile.FieldType.boolean)) ∈ sm_WS := sm_mw sm_t7 140 rfl rfl
theorem mw_1581 : (Jvm.Cond.methodLink "StreamMarksModel" (278 : Nat) ({ cls := "StreamMarksModel", name := "metOf", desc := "(III)Z" } : Jvm.MethodName)) ∈ sm_WS := sm_mw sm_t7 141 rfl rfl
theorem mw_1583 : (Jvm.Cond.instanceMethod ({ cls := "StreamMarksModel", name := "metOf", desc := "(III)Z" } : Jvm.MethodName)) ∈ sm_WS := sm_mw sm_t7 143 rfl rfl
theorem mw_1584 : (Jvm.Cond.code ({ cls := "StreamMarksModel", name := "metOf", desc := "(III)Z" } : Jvm.MethodName) prog_14_method_53_code (6 : Nat) (Option.some Jvm.ClassFile.FieldType.boolean)) ∈ sm_WS := sm_mw sm_t7 144 rfl rfl
theorem mw_1585 : (Jvm.Cond.methodLink "StreamMarksModel" (328 : Nat) ({ cls := "StreamMarksModel", name := "main", desc := "()I" } : Jvm.MethodName)) ∈ sm_WS := sm_mw sm_t7 145 rfl rfl
theorem mw_1587 : (Jvm.Cond.instanceMethod ({ cls := "StreamMarksModel", name := "main", desc := "()I" } : Jvm.MethodName)) ∈ sm_WS := sm_mw sm_t7 147 rfl rfl
theorem mw_1588 : (Jvm.Cond.code ({ cls := "StreamMarksModel", name := "main", desc := "()I" } : Jvm.MethodName) prog_14_method_67_code (4 : Nat) (Option.some Jvm.ClassFile.FieldType.int)) ∈ sm_WS := sm_mw sm_t7 148 rfl rfl
theorem mw_1589 : (Jvm.Cond.methodLink "StreamMarksModel" (309 : Nat) ({ cls := "StreamMarksModel", name := "mayStand", desc := "(II)Z" } : Jvm.MethodName)) ∈ sm_WS := sm_mw sm_t7 149 rfl rfl
theorem mw_1590 : (Jvm.Cond.static ({ cls := "StreamMarksModel", name := "mayStand", desc := "(II)Z" } : Jvm.MethodName)) ∈ sm_WS := sm_mw sm_t7 150 rfl rfl
theorem mw_1591 : (Jvm.Cond.code ({ cls := "StreamMarksModel", name := "mayStand", desc := "(II)Z" } : Jvm.MethodName) prog_14_method_51_code (2 : Nat) (Option.some Jvm.ClassFile.FieldType.boolean)) ∈ sm_WS := sm_mw sm_t7 151 rfl rfl
theorem mw_1592 : (Jvm.Cond.methodLink "StreamMarksModel" (331 : Nat) ({ cls := "StreamMarksModel", name := "isAllThere", desc := "()Z" } : Jvm.MethodName)) ∈ sm_WS := sm_mw sm_t7 152 rfl rfl
theorem mw_1594 : (Jvm.Cond.instanceMethod ({ cls := "StreamMarksModel", name := "isAllThere", desc := "()Z" } : Jvm.MethodName)) ∈ sm_WS := sm_mw sm_t7 154 rfl rfl
theorem mw_1595 : (Jvm.Cond.code ({ cls := "StreamMarksModel", name := "isAllThere", desc := "()Z" } : Jvm.MethodName) prog_14_method_72_code (4 : Nat) (Option.some Jvm.ClassFile.FieldType.boolean)) ∈ sm_WS := sm_mw sm_t7 155 rfl rfl
theorem mw_1596 : (Jvm.Cond.methodLink "StreamMarksModel" (315 : Nat) ({ cls := "StreamMarksModel", name := "partsOf", desc := "(I)I" } : Jvm.MethodName)) ∈ sm_WS := sm_mw sm_t7 156 rfl rfl
theorem mw_1598 : (Jvm.Cond.instanceMethod ({ cls := "StreamMarksModel", name := "partsOf", desc := "(I)I" } : Jvm.MethodName)) ∈ sm_WS := sm_mw sm_t7 158 rfl rfl
theorem mw_1599 : (Jvm.Cond.code ({ cls := "StreamMarksModel", name := "partsOf", desc := "(I)I" } : Jvm.MethodName) prog_14_method_68_code (4 : Nat) (Option.some Jvm.ClassFile.FieldType.int)) ∈ sm_WS := sm_mw sm_t7 159 rfl rfl
theorem mw_1600 : (Jvm.Cond.methodLink "StreamMarksModel" (318 : Nat) ({ cls := "StreamMarksModel", name := "saidOf", desc := "(I)I" } : Jvm.MethodName)) ∈ sm_WS := sm_mw sm_t7 160 rfl rfl
theorem mw_1602 : (Jvm.Cond.instanceMethod ({ cls := "StreamMarksModel", name := "saidOf", desc := "(I)I" } : Jvm.MethodName)) ∈ sm_WS := sm_mw sm_t7 162 rfl rfl
theorem mw_1603 : (Jvm.Cond.code ({ cls := "StreamMarksModel", name := "saidOf", desc := "(I)I" } : Jvm.MethodName) prog_14_method_69_code (4 : Nat) (Option.some Jvm.ClassFile.FieldType.int)) ∈ sm_WS := sm_mw sm_t7 163 rfl rfl
theorem mw_1604 : (Jvm.Cond.methodLink "StreamMarksModel" (335 : Nat) ({ cls := "StreamMarksModel", name := "partAt", desc := "(I)I" } : Jvm.MethodName)) ∈ sm_WS := sm_mw sm_t7 164 rfl rfl
theorem mw_1606 : (Jvm.Cond.instanceMethod ({ cls := "StreamMarksModel", name := "partAt", desc := "(I)I" } : Jvm.MethodName)) ∈ sm_WS := sm_mw sm_t7 166 rfl rfl
theorem mw_1607 : (Jvm.Cond.code ({ cls := "StreamMarksModel", name := "partAt", desc := "(I)I" } : Jvm.MethodName) prog_14_method_71_code (13 : Nat) (Option.some Jvm.ClassFile.FieldType.int)) ∈ sm_WS := sm_mw sm_t7 167 rfl rfl
theorem mw_1608 : (Jvm.Cond.methodLink "StreamMarksModel" (321 : Nat) ({ cls := "StreamMarksModel", name := "isPart", desc := "(I)Z" } : Jvm.MethodName)) ∈ sm_WS := sm_mw sm_t7 168 rfl rfl
theorem mw_1610 : (Jvm.Cond.instanceMethod ({ cls := "StreamMarksModel", name := "isPart", desc := "(I)Z" } : Jvm.MethodName)) ∈ sm_WS := sm_mw sm_t7 170 rfl rfl
theorem mw_1611 : (Jvm.Cond.code ({ cls := "StreamMarksModel", name := "isPart", desc := "(I)Z" } : Jvm.MethodName) prog_14_method_70_code (8 : Nat) (Option.some Jvm.ClassFile.FieldType.boolean)) ∈ sm_WS := sm_mw sm_t7 171 rfl rfl
theorem mw_1612 : (Jvm.Cond.methodLink "StreamMarksModel" (341 : Nat) ({ cls := "StreamMarksModel", name := "make", desc := "(I)V" } : Jvm.MethodName)) ∈ sm_WS := sm_mw sm_t7 172 rfl rfl
theorem mw_1614 : (Jvm.Cond.instanceMethod ({ cls := "StreamMarksModel", name := "make", desc := "(I)V" } : Jvm.MethodName)) ∈ sm_WS := sm_mw sm_t7 174 rfl rfl
theorem mw_1615 : (Jvm.Cond.code ({ cls := "StreamMarksModel", name := "make", desc := "(I)V" } : Jvm.MethodName) prog_14_method_81_code (3 : Nat) (Option.none : Option Jvm.ClassFile.FieldType)) ∈ sm_WS := sm_mw sm_t7 175 rfl rfl
theorem mw_1616 : (Jvm.Cond.methodLink "StreamMarksModel" (358 : Nat) ({ cls := "StreamMarksModel", name := "take", desc := "(I)V" } : Jvm.MethodName)) ∈ sm_WS := sm_mw sm_t7 176 rfl rfl
theorem mw_1618 : (Jvm.Cond.instanceMethod ({ cls := "StreamMarksModel", name := "take", desc := "(I)V" } : Jvm.MethodName)) ∈ sm_WS := sm_mw sm_t7 178 rfl rfl
theorem mw_1619 : (Jvm.Cond.code ({ cls := "StreamMarksModel", name := "take", desc := "(I)V" } : Jvm.MethodName) prog_14_method_80_code (5 : Nat) (Option.none : Option Jvm.ClassFile.FieldType)) ∈ sm_WS := sm_mw sm_t7 179 rfl rfl
theorem mw_1620 : (Jvm.Cond.methodLink "StreamMarksModel" (348 : Nat) ({ cls := "StreamMarksModel", name := "takeCoding", desc := "(I)V" } : Jvm.MethodName)) ∈ sm_WS := sm_mw sm_t7 180 rfl rfl
theorem mw_1622 : (Jvm.Cond.instanceMethod ({ cls := "StreamMarksModel", name := "takeCoding", desc := "(I)V" } : Jvm.MethodName)) ∈ sm_WS := sm_mw sm_t7 182 rfl rfl
theorem mw_1623 : (Jvm.Cond.code ({ cls := "StreamMarksModel", name := "takeCoding", desc := "(I)V" } : Jvm.MethodName) prog_14_method_78_code (3 : Nat) (Option.none : Option Jvm.ClassFile.FieldType)) ∈ sm_WS := sm_mw sm_t7 183 rfl rfl
theorem mw_1624 : (Jvm.Cond.methodLink "StreamMarksModel" (344 : Nat) ({ cls := "StreamMarksModel", name := "takeBody", desc := "(IIZ)V" } : Jvm.MethodName)) ∈ sm_WS := sm_mw sm_t7 184 rfl rfl
theorem mw_1626 : (Jvm.Cond.instanceMethod ({ cls := "StreamMarksModel", name := "takeBody", desc := "(IIZ)V" } : Jvm.MethodName)) ∈ sm_WS := sm_mw sm_t7 186 rfl rfl
theorem mw_1627 : (Jvm.Cond.code ({ cls := "StreamMarksModel", name := "takeBody", desc := "(IIZ)V" } : Jvm.MethodName) prog_14_method_76_code (6 : Nat) (Option.none : Option Jvm.ClassFile.FieldType)) ∈ sm_WS := sm_mw sm_t7 187 rfl rfl
theorem mw_1628 : (Jvm.Cond.methodLink "StreamMarksModel" (351 : Nat) ({ cls := "StreamMarksModel", name := "takeRows", desc := "(III)V" } : Jvm.MethodName)) ∈ sm_WS := sm_mw sm_t7 188 rfl rfl
theorem mw_1630 : (Jvm.Cond.instanceMethod ({ cls := "StreamMarksModel", name := "takeRows", desc := "(III)V" } : Jvm.MethodName)) ∈ sm_WS := sm_mw sm_t7 190 rfl rfl
theorem mw_1631 : (Jvm.Cond.code ({ cls := "StreamMarksModel", name := "takeRows", desc := "(III)V" } : Jvm.MethodName) prog_14_method_77_code (7 : Nat) (Option.none : Option Jvm.ClassFile.FieldType)) ∈ sm_WS := sm_mw sm_t7 191 rfl rfl
theorem mw_1632 : (Jvm.Cond.methodLink "StreamMarksModel" (355 : Nat) ({ cls := "StreamMarksModel", name := "takeChanges", desc := "(I)V" } : Jvm.MethodName)) ∈ sm_WS := sm_mw sm_t7 192 rfl rfl
theorem mw_1634 : (Jvm.Cond.instanceMethod ({ cls := "StreamMarksModel", name := "takeChanges", desc := "(I)V" } : Jvm.MethodName)) ∈ sm_WS := sm_mw sm_t7 194 rfl rfl
theorem mw_1635 : (Jvm.Cond.code ({ cls := "StreamMarksModel", name := "takeChanges", desc := "(I)V" } : Jvm.MethodName) prog_14_method_79_code (5 : Nat) (Option.none : Option Jvm.ClassFile.FieldType)) ∈ sm_WS := sm_mw sm_t7 195 rfl rfl
theorem mw_1636 : (Jvm.Cond.methodLink "StreamMarksLaw" (169 : Nat) ({ cls := "StreamMarksModel", name := "place", desc := "()I" } : Jvm.MethodName)) ∈ sm_WS := sm_mw sm_t7 196 rfl rfl
theorem mw_1637 : (Jvm.Cond.instanceMethod ({ cls := "StreamMarksModel", name := "place", desc := "()I" } : Jvm.MethodName)) ∈ sm_WS := sm_mw sm_t7 197 rfl rfl
theorem mw_1638 : (Jvm.Cond.selects "StreamMarksModel" ({ cls := "StreamMarksModel", name := "place", desc := "()I" } : Jvm.MethodName) ({ cls := "StreamMarksModel", name := "place", desc := "()I" } : Jvm.MethodName)) ∈ sm_WS := sm_mw sm_t7 198 rfl rfl
theorem mw_1639 : (Jvm.Cond.code ({ cls := "StreamMarksModel", name := "place", desc := "()I" } : Jvm.MethodName) prog_14_method_75_code (1 : Nat) (Option.some Jvm.ClassFile.FieldType.int)) ∈ sm_WS := sm_mw sm_t7 199 rfl rfl
theorem mw_1640 : (Jvm.Cond.methodLink "StreamMarksLaw" (172 : Nat) ({ cls := "StreamMarksModel", name := "use", desc := "(I)I" } : Jvm.MethodName)) ∈ sm_WS := sm_mw sm_t7 200 rfl rfl
theorem mw_1641 : (Jvm.Cond.instanceMethod ({ cls := "StreamMarksModel", name := "use", desc := "(I)I" } : Jvm.MethodName)) ∈ sm_WS := sm_mw sm_t7 201 rfl rfl
theorem mw_1642 : (Jvm.Cond.selects "StreamMarksModel" ({ cls := "StreamMarksModel", name := "use", desc := "(I)I" } : Jvm.MethodName) ({ cls := "StreamMarksModel", name := "use", desc := "(I)I" } : Jvm.MethodName)) ∈ sm_WS := sm_mw sm_t7 202 rfl rfl
theorem mw_1643 : (Jvm.Cond.code ({ cls := "StreamMarksModel", name := "use", desc := "(I)I" } : Jvm.MethodName) prog_14_method_86_code (2 : Nat) (Option.some Jvm.ClassFile.FieldType.int)) ∈ sm_WS := sm_mw sm_t7 203 rfl rfl
theorem mw_1644 : (Jvm.Cond.methodLink "StreamMarksModel" (370 : Nat) ({ cls := "StreamMarksModel", name := "headOf", desc := "(II)I" } : Jvm.MethodName)) ∈ sm_WS := sm_mw sm_t7 204 rfl rfl
theorem mw_1646 : (Jvm.Cond.instanceMethod ({ cls := "StreamMarksModel", name := "headOf", desc := "(II)I" } : Jvm.MethodName)) ∈ sm_WS := sm_mw sm_t7 206 rfl rfl
theorem mw_1647 : (Jvm.Cond.code ({ cls := "StreamMarksModel", name := "headOf", desc := "(II)I" } : Jvm.MethodName) prog_14_method_85_code (3 : Nat) (Option.some Jvm.ClassFile.FieldType.int)) ∈ sm_WS := sm_mw sm_t7 207 rfl rfl
theorem mw_1648 : (Jvm.Cond.methodLink "StreamMarksModel" (364 : Nat) ({ cls := "StreamMarksModel", name := "ofAll", desc := "(II)I" } : Jvm.MethodName)) ∈ sm_WS := sm_mw sm_t7 208 rfl rfl
theorem mw_1650 : (Jvm.Cond.instanceMethod ({ cls := "StreamMarksModel", name := "ofAll", desc := "(II)I" } : Jvm.MethodName)) ∈ sm_WS := sm_mw sm_t7 210 rfl rfl
theorem mw_1651 : (Jvm.Cond.code ({ cls := "StreamMarksModel", name := "ofAll", desc := "(II)I" } : Jvm.MethodName) prog_14_method_83_code (11 : Nat) (Option.some Jvm.ClassFile.FieldType.int)) ∈ sm_WS := sm_mw sm_t7 211 rfl rfl
theorem mw_1652 : (Jvm.Cond.methodLink "StreamMarksModel" (361 : Nat) ({ cls := "StreamMarksModel", name := "packed", desc := "(I)I" } : Jvm.MethodName)) ∈ sm_WS := sm_mw sm_t7 212 rfl rfl
theorem mw_1654 : (Jvm.Cond.instanceMethod ({ cls := "StreamMarksModel", name := "packed", desc := "(I)I" } : Jvm.MethodName)) ∈ sm_WS := sm_mw sm_t7 214 rfl rfl
theorem mw_1655 : (Jvm.Cond.code ({ cls := "StreamMarksModel", name := "packed", desc := "(I)I" } : Jvm.MethodName) prog_14_method_82_code (6 : Nat) (Option.some Jvm.ClassFile.FieldType.int)) ∈ sm_WS := sm_mw sm_t7 215 rfl rfl
theorem mw_1656 : (Jvm.Cond.methodLink "StreamMarksModel" (367 : Nat) ({ cls := "StreamMarksModel", name := "ofTile", desc := "(II)I" } : Jvm.MethodName)) ∈ sm_WS := sm_mw sm_t7 216 rfl rfl
theorem mw_1658 : (Jvm.Cond.instanceMethod ({ cls := "StreamMarksModel", name := "ofTile", desc := "(II)I" } : Jvm.MethodName)) ∈ sm_WS := sm_mw sm_t7 218 rfl rfl
theorem mw_1659 : (Jvm.Cond.code ({ cls := "StreamMarksModel", name := "ofTile", desc := "(II)I" } : Jvm.MethodName) prog_14_method_84_code (7 : Nat) (Option.some Jvm.ClassFile.FieldType.int)) ∈ sm_WS := sm_mw sm_t7 219 rfl rfl
theorem mw_1660 : (Jvm.Cond.methodLink "StreamMarksLaw" (176 : Nat) ({ cls := "StreamMarksModel", name := "head", desc := "(II)I" } : Jvm.MethodName)) ∈ sm_WS := sm_mw sm_t7 220 rfl rfl
theorem mw_1661 : (Jvm.Cond.instanceMethod ({ cls := "StreamMarksModel", name := "head", desc := "(II)I" } : Jvm.MethodName)) ∈ sm_WS := sm_mw sm_t7 221 rfl rfl
theorem mw_1662 : (Jvm.Cond.selects "StreamMarksModel" ({ cls := "StreamMarksModel", name := "head", desc := "(II)I" } : Jvm.MethodName) ({ cls := "StreamMarksModel", name := "head", desc := "(II)I" } : Jvm.MethodName)) ∈ sm_WS := sm_mw sm_t7 222 rfl rfl
theorem mw_1663 : (Jvm.Cond.code ({ cls := "StreamMarksModel", name := "head", desc := "(II)I" } : Jvm.MethodName) prog_14_method_87_code (5 : Nat) (Option.some Jvm.ClassFile.FieldType.int)) ∈ sm_WS := sm_mw sm_t7 223 rfl rfl
theorem mw_1664 : (Jvm.Cond.methodLink "StreamMarksLaw" (179 : Nat) ({ cls := "StreamMarksModel", name := "found", desc := "(II)I" } : Jvm.MethodName)) ∈ sm_WS := sm_mw sm_t7 224 rfl rfl
theorem mw_1665 : (Jvm.Cond.instanceMethod ({ cls := "StreamMarksModel", name := "found", desc := "(II)I" } : Jvm.MethodName)) ∈ sm_WS := sm_mw sm_t7 225 rfl rfl
theorem mw_1666 : (Jvm.Cond.selects "StreamMarksModel" ({ cls := "StreamMarksModel", name := "found", desc := "(II)I" } : Jvm.MethodName) ({ cls := "StreamMarksModel", name := "found", desc := "(II)I" } : Jvm.MethodName)) ∈ sm_WS := sm_mw sm_t7 226 rfl rfl
theorem mw_1667 : (Jvm.Cond.code ({ cls := "StreamMarksModel", name := "found", desc := "(II)I" } : Jvm.MethodName) prog_14_method_88_code (4 : Nat) (Option.some Jvm.ClassFile.FieldType.int)) ∈ sm_WS := sm_mw sm_t7 227 rfl rfl
theorem mw_1668 : (Jvm.Cond.arrayClass Jvm.ClassFile.FieldType.long) ∈ sm_WS := sm_mw sm_t7 228 rfl rfl
theorem mp_0 : Cond.selects "StreamMarks$Scanner" ⟨"StreamMarks$Scanner", "begin", "()V"⟩ ⟨"StreamMarks$Scanner", "begin", "()V"⟩ ∈ sm_WS := sm_mp (k := 14) (List.mem_of_getElem? (i := 0) rfl)
theorem mp_1 : Cond.selects "StreamMarks$Scanner" ⟨"StreamMarks$Scanner", "refusalHere", "()I"⟩ ⟨"StreamMarks$Scanner", "refusalHere", "()I"⟩ ∈ sm_WS := sm_mp (k := 14) (List.mem_of_getElem? (i := 1) rfl)
theorem mp_2 : Cond.selects "StreamMarks$Scanner" ⟨"StreamMarks$Scanner", "readsCutMark", "()Z"⟩ ⟨"StreamMarks$Scanner", "readsCutMark", "()Z"⟩ ∈ sm_WS := sm_mp (k := 14) (List.mem_of_getElem? (i := 2) rfl)
theorem mp_3 : Cond.selects "StreamMarks$Scanner" ⟨"StreamMarks$Scanner", "hasSegment", "()Z"⟩ ⟨"StreamMarks$Scanner", "hasSegment", "()Z"⟩ ∈ sm_WS := sm_mp (k := 14) (List.mem_of_getElem? (i := 3) rfl)
theorem mp_4 : Cond.selects "StreamMarks$Scanner" ⟨"StreamMarks$Scanner", "isWrong", "()Z"⟩ ⟨"StreamMarks$Scanner", "isWrong", "()Z"⟩ ∈ sm_WS := sm_mp (k := 14) (List.mem_of_getElem? (i := 4) rfl)
theorem mp_5 : Cond.selects "StreamMarks$Scanner" ⟨"StreamMarks$Scanner", "isWrongAmongMain", "()Z"⟩ ⟨"StreamMarks$Scanner", "isWrongAmongMain", "()Z"⟩ ∈ sm_WS := sm_mp (k := 14) (List.mem_of_getElem? (i := 5) rfl)
theorem mp_6 : Cond.selects "StreamMarks$Scanner" ⟨"StreamMarks$Scanner", "isWrongInPart", "()Z"⟩ ⟨"StreamMarks$Scanner", "isWrongInPart", "()Z"⟩ ∈ sm_WS := sm_mp (k := 14) (List.mem_of_getElem? (i := 6) rfl)
theorem mp_7 : Cond.selects "StreamMarks$Scanner" ⟨"StreamMarks$Scanner", "hasLength", "()Z"⟩ ⟨"StreamMarks$Scanner", "hasLength", "()Z"⟩ ∈ sm_WS := sm_mp (k := 14) (List.mem_of_getElem? (i := 7) rfl)
theorem mp_8 : Cond.selects "StreamMarks$Scanner" ⟨"StreamMarks$Scanner", "told2", "(I)I"⟩ ⟨"StreamMarks$Scanner", "told2", "(I)I"⟩ ∈ sm_WS := sm_mp (k := 14) (List.mem_of_getElem? (i := 8) rfl)
theorem mp_9 : Cond.selects "StreamMarks$Scanner" ⟨"StreamMarks$Scanner", "told", "(I)I"⟩ ⟨"StreamMarks$Scanner", "told", "(I)I"⟩ ∈ sm_WS := sm_mp (k := 14) (List.mem_of_getElem? (i := 9) rfl)
theorem mp_10 : Cond.selects "StreamMarks$Scanner" ⟨"StreamMarks$Scanner", "hasLengthOfSteps", "(I)Z"⟩ ⟨"StreamMarks$Scanner", "hasLengthOfSteps", "(I)Z"⟩ ∈ sm_WS := sm_mp (k := 14) (List.mem_of_getElem? (i := 10) rfl)
theorem mp_11 : Cond.selects "StreamMarks$Scanner" ⟨"StreamMarks$Scanner", "isGreat", "()Z"⟩ ⟨"StreamMarks$Scanner", "isGreat", "()Z"⟩ ∈ sm_WS := sm_mp (k := 14) (List.mem_of_getElem? (i := 11) rfl)
theorem mp_12 : Cond.selects "StreamMarks$Scanner" ⟨"StreamMarks$Scanner", "hasArea", "()Z"⟩ ⟨"StreamMarks$Scanner", "hasArea", "()Z"⟩ ∈ sm_WS := sm_mp (k := 14) (List.mem_of_getElem? (i := 12) rfl)
theorem mp_13 : Cond.selects "StreamMarks$Scanner" ⟨"StreamMarks$Scanner", "toldTiles", "()J"⟩ ⟨"StreamMarks$Scanner", "toldTiles", "()J"⟩ ∈ sm_WS := sm_mp (k := 14) (List.mem_of_getElem? (i := 13) rfl)
theorem mp_14 : Cond.selects "StreamMarks$Scanner" ⟨"StreamMarks$Scanner", "hasValues", "()Z"⟩ ⟨"StreamMarks$Scanner", "hasValues", "()Z"⟩ ∈ sm_WS := sm_mp (k := 14) (List.mem_of_getElem? (i := 14) rfl)
theorem mp_15 : Cond.selects "StreamMarks$Scanner" ⟨"StreamMarks$Scanner", "hasComponents", "()Z"⟩ ⟨"StreamMarks$Scanner", "hasComponents", "()Z"⟩ ∈ sm_WS := sm_mp (k := 14) (List.mem_of_getElem? (i := 15) rfl)
theorem mp_16 : Cond.selects "StreamMarks$Scanner" ⟨"StreamMarks$Scanner", "hasBody", "(IZ)Z"⟩ ⟨"StreamMarks$Scanner", "hasBody", "(IZ)Z"⟩ ∈ sm_WS := sm_mp (k := 14) (List.mem_of_getElem? (i := 16) rfl)
theorem mp_17 : Cond.selects "StreamMarks$Scanner" ⟨"StreamMarks$Scanner", "hasChanges", "()Z"⟩ ⟨"StreamMarks$Scanner", "hasChanges", "()Z"⟩ ∈ sm_WS := sm_mp (k := 14) (List.mem_of_getElem? (i := 17) rfl)
theorem mp_18 : Cond.selects "StreamMarks$Scanner" ⟨"StreamMarks$Scanner", "span", "()J"⟩ ⟨"StreamMarks$Scanner", "span", "()J"⟩ ∈ sm_WS := sm_mp (k := 14) (List.mem_of_getElem? (i := 18) rfl)
theorem mp_19 : Cond.selects "StreamMarks$Scanner" ⟨"StreamMarks$Scanner", "owner", "()I"⟩ ⟨"StreamMarks$Scanner", "owner", "()I"⟩ ∈ sm_WS := sm_mp (k := 14) (List.mem_of_getElem? (i := 19) rfl)
theorem mp_20 : Cond.selects "StreamMarks$Scanner" ⟨"StreamMarks$Scanner", "toldComponent", "()I"⟩ ⟨"StreamMarks$Scanner", "toldComponent", "()I"⟩ ∈ sm_WS := sm_mp (k := 14) (List.mem_of_getElem? (i := 20) rfl)
theorem mp_21 : Cond.selects "StreamMarks$Scanner" ⟨"StreamMarks$Scanner", "spanIsCut", "()Z"⟩ ⟨"StreamMarks$Scanner", "spanIsCut", "()Z"⟩ ∈ sm_WS := sm_mp (k := 14) (List.mem_of_getElem? (i := 21) rfl)
theorem mp_22 : Cond.selects "StreamMarks$Scanner" ⟨"StreamMarks$Scanner", "isMissing", "()Z"⟩ ⟨"StreamMarks$Scanner", "isMissing", "()Z"⟩ ∈ sm_WS := sm_mp (k := 14) (List.mem_of_getElem? (i := 22) rfl)
theorem mp_23 : Cond.selects "StreamMarks$Scanner" ⟨"StreamMarks$Scanner", "takeMark", "()V"⟩ ⟨"StreamMarks$Scanner", "takeMark", "()V"⟩ ∈ sm_WS := sm_mp (k := 14) (List.mem_of_getElem? (i := 23) rfl)
theorem mp_24 : Cond.selects "StreamMarks$Scanner" ⟨"StreamMarks$Scanner", "takePart", "()V"⟩ ⟨"StreamMarks$Scanner", "takePart", "()V"⟩ ∈ sm_WS := sm_mp (k := 14) (List.mem_of_getElem? (i := 24) rfl)
theorem mp_25 : Cond.selects "StreamMarks$Parts" ⟨"StreamMarks$Parts", "setNumber", "(III)V"⟩ ⟨"StreamMarks$Parts", "setNumber", "(III)V"⟩ ∈ sm_WS := sm_mp (k := 5) (List.mem_of_getElem? (i := 25) rfl)
theorem mp_26 : Cond.selects "StreamMarks$Scanner" ⟨"StreamMarks$Scanner", "dealHeads", "()V"⟩ ⟨"StreamMarks$Scanner", "dealHeads", "()V"⟩ ∈ sm_WS := sm_mp (k := 14) (List.mem_of_getElem? (i := 26) rfl)
theorem mp_27 : Cond.selects "StreamMarks$Scanner" ⟨"StreamMarks$Scanner", "takeSegment", "()V"⟩ ⟨"StreamMarks$Scanner", "takeSegment", "()V"⟩ ∈ sm_WS := sm_mp (k := 14) (List.mem_of_getElem? (i := 27) rfl)
theorem mp_28 : Cond.selects "StreamMarks$Loader" ⟨"StreamMarks$Loader", "loadSize", "(I)V"⟩ ⟨"StreamMarks$Loader", "loadSize", "(I)V"⟩ ∈ sm_WS := sm_mp (k := 3) (List.mem_of_getElem? (i := 28) rfl)
theorem mp_29 : Cond.selects "StreamMarks$Loader" ⟨"StreamMarks$Loader", "number4", "(I)I"⟩ ⟨"StreamMarks$Loader", "number4", "(I)I"⟩ ∈ sm_WS := sm_mp (k := 3) (List.mem_of_getElem? (i := 29) rfl)
theorem mp_30 : Cond.selects "StreamMarks$Loader" ⟨"StreamMarks$Loader", "loadOwner", "(I)V"⟩ ⟨"StreamMarks$Loader", "loadOwner", "(I)V"⟩ ∈ sm_WS := sm_mp (k := 3) (List.mem_of_getElem? (i := 30) rfl)
theorem mp_31 : Cond.selects "StreamMarks$Loader" ⟨"StreamMarks$Loader", "loadGeneral", "(I)V"⟩ ⟨"StreamMarks$Loader", "loadGeneral", "(I)V"⟩ ∈ sm_WS := sm_mp (k := 3) (List.mem_of_getElem? (i := 31) rfl)
theorem mp_32 : Cond.selects "StreamMarks$Loader" ⟨"StreamMarks$Loader", "loadCoding", "(LStreamMarks$Coding;II)V"⟩ ⟨"StreamMarks$Loader", "loadCoding", "(LStreamMarks$Coding;II)V"⟩ ∈ sm_WS := sm_mp (k := 3) (List.mem_of_getElem? (i := 32) rfl)
theorem mp_33 : Cond.selects "StreamMarks$Loader" ⟨"StreamMarks$Loader", "loadBody", "(LStreamMarks$Coding;II)V"⟩ ⟨"StreamMarks$Loader", "loadBody", "(LStreamMarks$Coding;II)V"⟩ ∈ sm_WS := sm_mp (k := 3) (List.mem_of_getElem? (i := 33) rfl)
theorem mp_34 : Cond.selects "StreamMarks$Loader" ⟨"StreamMarks$Loader", "loadSteps", "(LStreamMarks$Steps;II)V"⟩ ⟨"StreamMarks$Loader", "loadSteps", "(LStreamMarks$Steps;II)V"⟩ ∈ sm_WS := sm_mp (k := 3) (List.mem_of_getElem? (i := 34) rfl)
theorem mp_35 : Cond.selects "StreamMarks$Loader" ⟨"StreamMarks$Loader", "loadValues", "(LStreamMarks$Steps;II)V"⟩ ⟨"StreamMarks$Loader", "loadValues", "(LStreamMarks$Steps;II)V"⟩ ∈ sm_WS := sm_mp (k := 3) (List.mem_of_getElem? (i := 35) rfl)
theorem mp_36 : Cond.selects "StreamMarks$Loader" ⟨"StreamMarks$Loader", "loadShift", "(LStreamMarks$Component;I)V"⟩ ⟨"StreamMarks$Loader", "loadShift", "(LStreamMarks$Component;I)V"⟩ ∈ sm_WS := sm_mp (k := 3) (List.mem_of_getElem? (i := 36) rfl)
theorem mp_37 : Cond.selects "StreamMarks$Loader" ⟨"StreamMarks$Loader", "loadChanges", "(I)V"⟩ ⟨"StreamMarks$Loader", "loadChanges", "(I)V"⟩ ∈ sm_WS := sm_mp (k := 3) (List.mem_of_getElem? (i := 37) rfl)
theorem mp_38 : Cond.selects "java/lang/Throwable" ⟨"java/lang/Throwable", "fillInStackTrace", "(I)Ljava/lang/Throwable;"⟩ ⟨"java/lang/Throwable", "fillInStackTrace", "(I)Ljava/lang/Throwable;"⟩ ∈ sm_WS := sm_mp (k := 6) (List.mem_of_getElem? (i := 38) rfl)
theorem mp_39 : Cond.selects "StreamMarks" ⟨"StreamMarks", "existing", "(I)LStreamMarks$Component;"⟩ ⟨"StreamMarks", "existing", "(I)LStreamMarks$Component;"⟩ ∈ sm_WS := sm_mp (k := 7) (List.mem_of_getElem? (i := 39) rfl)
theorem mp_40 : Cond.selects "StreamMarks" ⟨"StreamMarks", "numberOfComponent", "(III)I"⟩ ⟨"StreamMarks", "numberOfComponent", "(III)I"⟩ ∈ sm_WS := sm_mp (k := 7) (List.mem_of_getElem? (i := 40) rfl)
theorem mp_41 : Cond.selects "StreamMarks" ⟨"StreamMarks", "demandRoom", "(I)V"⟩ ⟨"StreamMarks", "demandRoom", "(I)V"⟩ ∈ sm_WS := sm_mp (k := 7) (List.mem_of_getElem? (i := 41) rfl)
theorem mp_42 : Cond.selects "StreamMarks" ⟨"StreamMarks", "demandTile", "(I)V"⟩ ⟨"StreamMarks", "demandTile", "(I)V"⟩ ∈ sm_WS := sm_mp (k := 7) (List.mem_of_getElem? (i := 42) rfl)
theorem mp_43 : Cond.selects "StreamMarksModel" ⟨"StreamMarksModel", "empty", "()V"⟩ ⟨"StreamMarksModel", "empty", "()V"⟩ ∈ sm_WS := sm_mp (k := 37) (List.mem_of_getElem? (i := 43) rfl)
theorem mp_44 : Cond.selects "StreamMarksModel" ⟨"StreamMarksModel", "refuse", "(ZZ)Z"⟩ ⟨"StreamMarksModel", "refuse", "(ZZ)Z"⟩ ∈ sm_WS := sm_mp (k := 37) (List.mem_of_getElem? (i := 44) rfl)
theorem mp_45 : Cond.selects "StreamMarksModel" ⟨"StreamMarksModel", "fresh", "(I)V"⟩ ⟨"StreamMarksModel", "fresh", "(I)V"⟩ ∈ sm_WS := sm_mp (k := 37) (List.mem_of_getElem? (i := 45) rfl)
theorem mp_46 : Cond.selects "StreamMarksModel" ⟨"StreamMarksModel", "isComponent", "(I)Z"⟩ ⟨"StreamMarksModel", "isComponent", "(I)Z"⟩ ∈ sm_WS := sm_mp (k := 37) (List.mem_of_getElem? (i := 46) rfl)
theorem mp_47 : Cond.selects "StreamMarksModel" ⟨"StreamMarksModel", "turn", "(IIIIII)V"⟩ ⟨"StreamMarksModel", "turn", "(IIIIII)V"⟩ ∈ sm_WS := sm_mp (k := 37) (List.mem_of_getElem? (i := 47) rfl)
theorem mp_48 : Cond.selects "StreamMarksModel" ⟨"StreamMarksModel", "ofComponent", "(III)I"⟩ ⟨"StreamMarksModel", "ofComponent", "(III)I"⟩ ∈ sm_WS := sm_mp (k := 37) (List.mem_of_getElem? (i := 48) rfl)
theorem mp_49 : Cond.selects "StreamMarksModel" ⟨"StreamMarksModel", "addSize", "()V"⟩ ⟨"StreamMarksModel", "addSize", "()V"⟩ ∈ sm_WS := sm_mp (k := 37) (List.mem_of_getElem? (i := 49) rfl)
theorem mp_50 : Cond.selects "StreamMarksModel" ⟨"StreamMarksModel", "add", "(II)V"⟩ ⟨"StreamMarksModel", "add", "(II)V"⟩ ∈ sm_WS := sm_mp (k := 37) (List.mem_of_getElem? (i := 50) rfl)
theorem mp_51 : Cond.selects "StreamMarksModel" ⟨"StreamMarksModel", "beginSegment", "(II)V"⟩ ⟨"StreamMarksModel", "beginSegment", "(II)V"⟩ ∈ sm_WS := sm_mp (k := 37) (List.mem_of_getElem? (i := 51) rfl)
theorem mp_52 : Cond.selects "StreamMarksModel" ⟨"StreamMarksModel", "addCodings", "()V"⟩ ⟨"StreamMarksModel", "addCodings", "()V"⟩ ∈ sm_WS := sm_mp (k := 37) (List.mem_of_getElem? (i := 52) rfl)
theorem mp_53 : Cond.selects "StreamMarksModel" ⟨"StreamMarksModel", "bodyLength", "(I)I"⟩ ⟨"StreamMarksModel", "bodyLength", "(I)I"⟩ ∈ sm_WS := sm_mp (k := 37) (List.mem_of_getElem? (i := 53) rfl)
theorem mp_54 : Cond.selects "StreamMarksModel" ⟨"StreamMarksModel", "tells", "(I)Z"⟩ ⟨"StreamMarksModel", "tells", "(I)Z"⟩ ∈ sm_WS := sm_mp (k := 37) (List.mem_of_getElem? (i := 54) rfl)
theorem mp_55 : Cond.selects "StreamMarksModel" ⟨"StreamMarksModel", "body", "(I)V"⟩ ⟨"StreamMarksModel", "body", "(I)V"⟩ ∈ sm_WS := sm_mp (k := 37) (List.mem_of_getElem? (i := 55) rfl)
theorem mp_56 : Cond.selects "StreamMarksModel" ⟨"StreamMarksModel", "rowsLength", "(I)I"⟩ ⟨"StreamMarksModel", "rowsLength", "(I)I"⟩ ∈ sm_WS := sm_mp (k := 37) (List.mem_of_getElem? (i := 56) rfl)
theorem mp_57 : Cond.selects "StreamMarksModel" ⟨"StreamMarksModel", "valuesOf", "(I)I"⟩ ⟨"StreamMarksModel", "valuesOf", "(I)I"⟩ ∈ sm_WS := sm_mp (k := 37) (List.mem_of_getElem? (i := 57) rfl)
theorem mp_58 : Cond.selects "StreamMarksModel" ⟨"StreamMarksModel", "rows", "(I)V"⟩ ⟨"StreamMarksModel", "rows", "(I)V"⟩ ∈ sm_WS := sm_mp (k := 37) (List.mem_of_getElem? (i := 58) rfl)
theorem mp_59 : Cond.selects "StreamMarksModel" ⟨"StreamMarksModel", "valueOf", "(II)I"⟩ ⟨"StreamMarksModel", "valueOf", "(II)I"⟩ ∈ sm_WS := sm_mp (k := 37) (List.mem_of_getElem? (i := 59) rfl)
theorem mp_60 : Cond.selects "StreamMarksModel" ⟨"StreamMarksModel", "otherCoding", "(I)Z"⟩ ⟨"StreamMarksModel", "otherCoding", "(I)Z"⟩ ∈ sm_WS := sm_mp (k := 37) (List.mem_of_getElem? (i := 60) rfl)
theorem mp_61 : Cond.selects "StreamMarksModel" ⟨"StreamMarksModel", "otherSteps", "(I)Z"⟩ ⟨"StreamMarksModel", "otherSteps", "(I)Z"⟩ ∈ sm_WS := sm_mp (k := 37) (List.mem_of_getElem? (i := 61) rfl)
theorem mp_62 : Cond.selects "StreamMarksModel" ⟨"StreamMarksModel", "addRest", "()V"⟩ ⟨"StreamMarksModel", "addRest", "()V"⟩ ∈ sm_WS := sm_mp (k := 37) (List.mem_of_getElem? (i := 62) rfl)
theorem mp_63 : Cond.selects "StreamMarksModel" ⟨"StreamMarksModel", "walk", "()I"⟩ ⟨"StreamMarksModel", "walk", "()I"⟩ ∈ sm_WS := sm_mp (k := 37) (List.mem_of_getElem? (i := 63) rfl)
theorem mp_64 : Cond.selects "StreamMarksModel" ⟨"StreamMarksModel", "start", "()I"⟩ ⟨"StreamMarksModel", "start", "()I"⟩ ∈ sm_WS := sm_mp (k := 37) (List.mem_of_getElem? (i := 64) rfl)
theorem mp_65 : Cond.selects "StreamMarksModel" ⟨"StreamMarksModel", "isCut", "(II)Z"⟩ ⟨"StreamMarksModel", "isCut", "(II)Z"⟩ ∈ sm_WS := sm_mp (k := 37) (List.mem_of_getElem? (i := 65) rfl)
theorem mp_66 : Cond.selects "StreamMarksModel" ⟨"StreamMarksModel", "u1", "(I)I"⟩ ⟨"StreamMarksModel", "u1", "(I)I"⟩ ∈ sm_WS := sm_mp (k := 37) (List.mem_of_getElem? (i := 66) rfl)
theorem mp_67 : Cond.selects "StreamMarksModel" ⟨"StreamMarksModel", "u2", "(I)I"⟩ ⟨"StreamMarksModel", "u2", "(I)I"⟩ ∈ sm_WS := sm_mp (k := 37) (List.mem_of_getElem? (i := 67) rfl)
theorem mp_68 : Cond.selects "StreamMarksModel" ⟨"StreamMarksModel", "no", "(II)I"⟩ ⟨"StreamMarksModel", "no", "(II)I"⟩ ∈ sm_WS := sm_mp (k := 37) (List.mem_of_getElem? (i := 68) rfl)
theorem mp_69 : Cond.selects "StreamMarksModel" ⟨"StreamMarksModel", "markAt", "(I)I"⟩ ⟨"StreamMarksModel", "markAt", "(I)I"⟩ ∈ sm_WS := sm_mp (k := 37) (List.mem_of_getElem? (i := 69) rfl)
theorem mp_70 : Cond.selects "StreamMarksModel" ⟨"StreamMarksModel", "look", "(III)I"⟩ ⟨"StreamMarksModel", "look", "(III)I"⟩ ∈ sm_WS := sm_mp (k := 37) (List.mem_of_getElem? (i := 70) rfl)
theorem mp_71 : Cond.selects "StreamMarksModel" ⟨"StreamMarksModel", "met", "(II)I"⟩ ⟨"StreamMarksModel", "met", "(II)I"⟩ ∈ sm_WS := sm_mp (k := 37) (List.mem_of_getElem? (i := 71) rfl)
theorem mp_72 : Cond.selects "StreamMarksModel" ⟨"StreamMarksModel", "fitsLength", "(II)Z"⟩ ⟨"StreamMarksModel", "fitsLength", "(II)Z"⟩ ∈ sm_WS := sm_mp (k := 37) (List.mem_of_getElem? (i := 72) rfl)
theorem mp_73 : Cond.selects "StreamMarksModel" ⟨"StreamMarksModel", "fitsBody", "(IIZI)Z"⟩ ⟨"StreamMarksModel", "fitsBody", "(IIZI)Z"⟩ ∈ sm_WS := sm_mp (k := 37) (List.mem_of_getElem? (i := 73) rfl)
theorem mp_74 : Cond.selects "StreamMarksModel" ⟨"StreamMarksModel", "fitsRows", "(III)Z"⟩ ⟨"StreamMarksModel", "fitsRows", "(III)Z"⟩ ∈ sm_WS := sm_mp (k := 37) (List.mem_of_getElem? (i := 74) rfl)
theorem mp_75 : Cond.selects "StreamMarksModel" ⟨"StreamMarksModel", "isGreat", "(II)Z"⟩ ⟨"StreamMarksModel", "isGreat", "(II)Z"⟩ ∈ sm_WS := sm_mp (k := 37) (List.mem_of_getElem? (i := 75) rfl)
theorem mp_76 : Cond.selects "StreamMarksModel" ⟨"StreamMarksModel", "isPicture", "(I)Z"⟩ ⟨"StreamMarksModel", "isPicture", "(I)Z"⟩ ∈ sm_WS := sm_mp (k := 37) (List.mem_of_getElem? (i := 76) rfl)
theorem mp_77 : Cond.selects "StreamMarksModel" ⟨"StreamMarksModel", "u4", "(I)J"⟩ ⟨"StreamMarksModel", "u4", "(I)J"⟩ ∈ sm_WS := sm_mp (k := 37) (List.mem_of_getElem? (i := 77) rfl)
theorem mp_78 : Cond.selects "StreamMarksModel" ⟨"StreamMarksModel", "isValue", "(III)Z"⟩ ⟨"StreamMarksModel", "isValue", "(III)Z"⟩ ∈ sm_WS := sm_mp (k := 37) (List.mem_of_getElem? (i := 78) rfl)
theorem mp_79 : Cond.selects "StreamMarksModel" ⟨"StreamMarksModel", "isSize", "(I)Z"⟩ ⟨"StreamMarksModel", "isSize", "(I)Z"⟩ ∈ sm_WS := sm_mp (k := 37) (List.mem_of_getElem? (i := 79) rfl)
theorem mp_80 : Cond.selects "StreamMarksModel" ⟨"StreamMarksModel", "isBody", "(IZ)Z"⟩ ⟨"StreamMarksModel", "isBody", "(IZ)Z"⟩ ∈ sm_WS := sm_mp (k := 37) (List.mem_of_getElem? (i := 80) rfl)
theorem mp_81 : Cond.selects "StreamMarksModel" ⟨"StreamMarksModel", "isThere", "(I)Z"⟩ ⟨"StreamMarksModel", "isThere", "(I)Z"⟩ ∈ sm_WS := sm_mp (k := 37) (List.mem_of_getElem? (i := 81) rfl)
theorem mp_82 : Cond.selects "StreamMarksModel" ⟨"StreamMarksModel", "areChanges", "(I)Z"⟩ ⟨"StreamMarksModel", "areChanges", "(I)Z"⟩ ∈ sm_WS := sm_mp (k := 37) (List.mem_of_getElem? (i := 82) rfl)
theorem mp_83 : Cond.selects "StreamMarksModel" ⟨"StreamMarksModel", "isTwice", "(III)Z"⟩ ⟨"StreamMarksModel", "isTwice", "(III)Z"⟩ ∈ sm_WS := sm_mp (k := 37) (List.mem_of_getElem? (i := 83) rfl)
theorem mp_84 : Cond.selects "StreamMarksModel" ⟨"StreamMarksModel", "metOf", "(III)Z"⟩ ⟨"StreamMarksModel", "metOf", "(III)Z"⟩ ∈ sm_WS := sm_mp (k := 37) (List.mem_of_getElem? (i := 84) rfl)
theorem mp_85 : Cond.selects "StreamMarksModel" ⟨"StreamMarksModel", "main", "()I"⟩ ⟨"StreamMarksModel", "main", "()I"⟩ ∈ sm_WS := sm_mp (k := 37) (List.mem_of_getElem? (i := 85) rfl)
theorem mp_86 : Cond.selects "StreamMarksModel" ⟨"StreamMarksModel", "isAllThere", "()Z"⟩ ⟨"StreamMarksModel", "isAllThere", "()Z"⟩ ∈ sm_WS := sm_mp (k := 37) (List.mem_of_getElem? (i := 86) rfl)
theorem mp_87 : Cond.selects "StreamMarksModel" ⟨"StreamMarksModel", "partsOf", "(I)I"⟩ ⟨"StreamMarksModel", "partsOf", "(I)I"⟩ ∈ sm_WS := sm_mp (k := 37) (List.mem_of_getElem? (i := 87) rfl)
theorem mp_88 : Cond.selects "StreamMarksModel" ⟨"StreamMarksModel", "saidOf", "(I)I"⟩ ⟨"StreamMarksModel", "saidOf", "(I)I"⟩ ∈ sm_WS := sm_mp (k := 37) (List.mem_of_getElem? (i := 88) rfl)
theorem mp_89 : Cond.selects "StreamMarksModel" ⟨"StreamMarksModel", "partAt", "(I)I"⟩ ⟨"StreamMarksModel", "partAt", "(I)I"⟩ ∈ sm_WS := sm_mp (k := 37) (List.mem_of_getElem? (i := 89) rfl)
theorem mp_90 : Cond.selects "StreamMarksModel" ⟨"StreamMarksModel", "isPart", "(I)Z"⟩ ⟨"StreamMarksModel", "isPart", "(I)Z"⟩ ∈ sm_WS := sm_mp (k := 37) (List.mem_of_getElem? (i := 90) rfl)
theorem mp_91 : Cond.selects "StreamMarksModel" ⟨"StreamMarksModel", "make", "(I)V"⟩ ⟨"StreamMarksModel", "make", "(I)V"⟩ ∈ sm_WS := sm_mp (k := 37) (List.mem_of_getElem? (i := 91) rfl)
theorem mp_92 : Cond.selects "StreamMarksModel" ⟨"StreamMarksModel", "take", "(I)V"⟩ ⟨"StreamMarksModel", "take", "(I)V"⟩ ∈ sm_WS := sm_mp (k := 37) (List.mem_of_getElem? (i := 92) rfl)
theorem mp_93 : Cond.selects "StreamMarksModel" ⟨"StreamMarksModel", "takeCoding", "(I)V"⟩ ⟨"StreamMarksModel", "takeCoding", "(I)V"⟩ ∈ sm_WS := sm_mp (k := 37) (List.mem_of_getElem? (i := 93) rfl)
theorem mp_94 : Cond.selects "StreamMarksModel" ⟨"StreamMarksModel", "takeBody", "(IIZ)V"⟩ ⟨"StreamMarksModel", "takeBody", "(IIZ)V"⟩ ∈ sm_WS := sm_mp (k := 37) (List.mem_of_getElem? (i := 94) rfl)
theorem mp_95 : Cond.selects "StreamMarksModel" ⟨"StreamMarksModel", "takeRows", "(III)V"⟩ ⟨"StreamMarksModel", "takeRows", "(III)V"⟩ ∈ sm_WS := sm_mp (k := 37) (List.mem_of_getElem? (i := 95) rfl)
theorem mp_96 : Cond.selects "StreamMarksModel" ⟨"StreamMarksModel", "takeChanges", "(I)V"⟩ ⟨"StreamMarksModel", "takeChanges", "(I)V"⟩ ∈ sm_WS := sm_mp (k := 37) (List.mem_of_getElem? (i := 96) rfl)
theorem mp_97 : Cond.selects "StreamMarksModel" ⟨"StreamMarksModel", "headOf", "(II)I"⟩ ⟨"StreamMarksModel", "headOf", "(II)I"⟩ ∈ sm_WS := sm_mp (k := 37) (List.mem_of_getElem? (i := 97) rfl)
theorem mp_98 : Cond.selects "StreamMarksModel" ⟨"StreamMarksModel", "ofAll", "(II)I"⟩ ⟨"StreamMarksModel", "ofAll", "(II)I"⟩ ∈ sm_WS := sm_mp (k := 37) (List.mem_of_getElem? (i := 98) rfl)
theorem mp_99 : Cond.selects "StreamMarksModel" ⟨"StreamMarksModel", "packed", "(I)I"⟩ ⟨"StreamMarksModel", "packed", "(I)I"⟩ ∈ sm_WS := sm_mp (k := 37) (List.mem_of_getElem? (i := 99) rfl)
theorem mp_100 : Cond.selects "StreamMarksModel" ⟨"StreamMarksModel", "ofTile", "(II)I"⟩ ⟨"StreamMarksModel", "ofTile", "(II)I"⟩ ∈ sm_WS := sm_mp (k := 37) (List.mem_of_getElem? (i := 100) rfl)
theorem uw_SM : ∀ w ∈ u_ws cR_SM cT_SM 7, w ∈ sm_WS := sm_has _ [327, 329, 331, 333, 335, 337, 339] rfl rfl
theorem uw_Pl : ∀ w ∈ u_ws cR_Pl cT_Pl 10, w ∈ sm_WS := sm_has _ [177, 179, 181, 183, 185, 187, 189, 191, 193, 195] rfl rfl
theorem uw_Cp : ∀ w ∈ u_ws cR_Cp cT_Cp 7, w ∈ sm_WS := sm_has _ [128, 130, 132, 134, 136, 138, 140] rfl rfl
theorem uw_Cd : ∀ w ∈ u_ws cR_Cd cT_Cd 7, w ∈ sm_WS := sm_has _ [68, 70, 72, 74, 76, 78, 80] rfl rfl
theorem uw_St : ∀ w ∈ u_ws cR_St cT_St 3, w ∈ sm_WS := sm_has _ [101, 103, 105] rfl rfl
theorem uw_Rw : ∀ w ∈ u_ws cR_Rw cT_Rw 2, w ∈ sm_WS := sm_has _ [208, 210] rfl rfl
theorem uw_Sc : ∀ w ∈ u_ws cR_Sc cT_Sc 14, w ∈ sm_WS := sm_has _ [275, 277, 279, 281, 283, 285, 287, 289, 291, 293, 295, 297, 299, 301] rfl rfl
theorem uw_Ps : ∀ w ∈ u_ws cR_Ps cT_Ps 1, w ∈ sm_WS := sm_has _ [229] rfl rfl
theorem uw_Pt : ∀ w ∈ u_ws cR_Pt cT_Pt 5, w ∈ sm_WS := sm_has _ [245, 247, 249, 251, 253] rfl rfl
theorem uw_Ld : ∀ w ∈ u_ws cR_Ld cT_Ld 3, w ∈ sm_WS := sm_has _ [313, 315, 317] rfl rfl
set_option maxRecDepth 20000 in
theorem uw_Md : ∀ w ∈ u_ws cR_Md cT_Md 37, w ∈ sm_WS := sm_has _ [1230, 1232, 1234, 1236, 1238, 1240, 1242, 1244, 1246, 1248, 1250, 1252, 1254, 1256, 1258, 1260, 1262, 1264, 1266, 1268, 1270, 1272, 1274, 1276, 1278, 1280, 1282, 1284, 1286, 1288, 1290, 1292, 1294, 1296, 1298, 1300, 1302] rfl rfl
