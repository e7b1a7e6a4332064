theorem hw_0 : (Jvm.Cond.initialized "WideNetLaw") ∈ xs_U := xs_mk (xs_t1 0 rfl) rfl
theorem hw_1 : (Jvm.Cond.initialized "WideNet") ∈ xs_U := xs_mk (xs_t1 1 rfl) rfl
theorem hw_2 : (Jvm.Cond.initialized "WideNet$Air") ∈ xs_U := xs_mk (xs_t1 2 rfl) rfl
theorem hw_3 : (Jvm.Cond.initialized "WideNet$Frame") ∈ xs_U := xs_mk (xs_t1 3 rfl) rfl
theorem hw_4 : (Jvm.Cond.initialized "WideNet$Mac") ∈ xs_U := xs_mk (xs_t1 4 rfl) rfl
theorem hw_5 : (Jvm.Cond.initialized "WideNet$Cipher") ∈ xs_U := xs_mk (xs_t1 5 rfl) rfl
theorem hw_6 : (Jvm.Cond.initialized "java/util/Arrays") ∈ xs_U := xs_mk (xs_t1 6 rfl) rfl
theorem hw_7 : (Jvm.Cond.initialized "java/lang/System") ∈ xs_U := xs_mk (xs_t1 7 rfl) rfl
theorem hw_8 : (Jvm.Cond.initialized "WideNet$Device") ∈ xs_U := xs_mk (xs_t1 8 rfl) rfl
theorem hw_9 : (Jvm.Cond.initialized "WideNet$Session") ∈ xs_U := xs_mk (xs_t1 9 rfl) rfl
theorem hw_10 : (Jvm.Cond.initialized "WideNet$Inbox") ∈ xs_U := xs_mk (xs_t1 10 rfl) rfl
theorem hw_11 : (Jvm.Cond.initialized "WideNet$Server") ∈ xs_U := xs_mk (xs_t1 11 rfl) rfl
theorem hw_12 : (Jvm.Cond.initialized "WideNet$Account") ∈ xs_U := xs_mk (xs_t1 12 rfl) rfl
theorem hw_13 : (Jvm.Cond.initialized "WideNetModel") ∈ xs_U := xs_mk (xs_t1 13 rfl) rfl
theorem hw_14 : (Jvm.Cond.initialized "java/lang/Integer") ∈ xs_U := xs_mk (xs_t1 14 rfl) rfl
theorem hw_15 : (Jvm.Cond.initialized "java/lang/Math") ∈ xs_U := xs_mk (xs_t1 15 rfl) rfl
theorem hw_16 : (Jvm.Cond.classLink "WideNetLaw" (7 : Nat) "WideNet") ∈ xs_U := xs_mk (xs_t1 16 rfl) rfl
theorem hw_17 : (Jvm.Cond.instantiable "WideNet" (4 : Nat)) ∈ xs_U := xs_mk (xs_t1 17 rfl) rfl
theorem hw_18 : (Jvm.Cond.methodLink "WideNetLaw" (15 : Nat) ({ cls := "WideNet", name := "<init>", desc := "(I)V" } : Jvm.MethodName)) ∈ xs_U := xs_mk (xs_t1 18 rfl) rfl
theorem hw_19 : (Jvm.Cond.instanceMethod ({ cls := "WideNet", name := "<init>", desc := "(I)V" } : Jvm.MethodName)) ∈ xs_U := xs_mk (xs_t1 19 rfl) rfl
theorem hw_20 : (Jvm.Cond.code ({ cls := "WideNet", name := "<init>", desc := "(I)V" } : Jvm.MethodName) prog_1_method_1_code (6 : Nat) (Option.none : Option Jvm.ClassFile.FieldType)) ∈ xs_U := xs_mk (xs_t1 20 rfl) rfl
theorem hw_21 : (Jvm.Cond.methodLink "WideNet" (1 : Nat) ({ cls := "java/lang/Object", name := "<init>", desc := "()V" } : Jvm.MethodName)) ∈ xs_U := xs_mk (xs_t1 21 rfl) rfl
theorem hw_22 : (Jvm.Cond.instanceMethod ({ cls := "java/lang/Object", name := "<init>", desc := "()V" } : Jvm.MethodName)) ∈ xs_U := xs_mk (xs_t1 22 rfl) rfl
theorem hw_23 : (Jvm.Cond.code ({ cls := "java/lang/Object", name := "<init>", desc := "()V" } : Jvm.MethodName) object_method_1_code (1 : Nat) (Option.none : Option Jvm.ClassFile.FieldType)) ∈ xs_U := xs_mk (xs_t1 23 rfl) rfl
theorem hw_24 : (Jvm.Cond.classLink "WideNet" (7 : Nat) "WideNet$Air") ∈ xs_U := xs_mk (xs_t1 24 rfl) rfl
theorem hw_25 : (Jvm.Cond.instantiable "WideNet$Air" (4 : Nat)) ∈ xs_U := xs_mk (xs_t1 25 rfl) rfl
theorem hw_26 : (Jvm.Cond.methodLink "WideNet" (9 : Nat) ({ cls := "WideNet$Air", name := "<init>", desc := "()V" } : Jvm.MethodName)) ∈ xs_U := xs_mk (xs_t1 26 rfl) rfl
theorem hw_27 : (Jvm.Cond.instanceMethod ({ cls := "WideNet$Air", name := "<init>", desc := "()V" } : Jvm.MethodName)) ∈ xs_U := xs_mk (xs_t1 27 rfl) rfl
theorem hw_28 : (Jvm.Cond.code ({ cls := "WideNet$Air", name := "<init>", desc := "()V" } : Jvm.MethodName) prog_3_method_1_code (2 : Nat) (Option.none : Option Jvm.ClassFile.FieldType)) ∈ xs_U := xs_mk (xs_t1 28 rfl) rfl
theorem hw_29 : (Jvm.Cond.methodLink "WideNet$Air" (1 : Nat) ({ cls := "java/lang/Object", name := "<init>", desc := "()V" } : Jvm.MethodName)) ∈ xs_U := xs_mk (xs_t1 29 rfl) rfl
theorem hw_30 : (Jvm.Cond.classLink "WideNet$Air" (9 : Nat) "WideNet$Frame") ∈ xs_U := xs_mk (xs_t1 30 rfl) rfl
theorem hn_31 : (Jvm.Cond.arrayOver (Jvm.ClassFile.FieldType.object "WideNet$Frame")) ∈ lw_tbl := xs_t1 31 rfl
theorem hw_32 : (Jvm.Cond.instantiable "WideNet$Frame" (3 : Nat)) ∈ xs_U := xs_mk (xs_t1 32 rfl) rfl
theorem hn_33 : (Jvm.Cond.methodLinkNest "WideNet$Air" (25 : Nat) ({ cls := "WideNet$Frame", name := "<init>", desc := "()V" } : Jvm.MethodName) "WideNet") ∈ lw_tbl := xs_t1 33 rfl
theorem hw_34 : (Jvm.Cond.instanceMethod ({ cls := "WideNet$Frame", name := "<init>", desc := "()V" } : Jvm.MethodName)) ∈ xs_U := xs_mk (xs_t1 34 rfl) rfl
theorem hw_35 : (Jvm.Cond.code ({ cls := "WideNet$Frame", name := "<init>", desc := "()V" } : Jvm.MethodName) prog_6_method_1_code (1 : Nat) (Option.none : Option Jvm.ClassFile.FieldType)) ∈ xs_U := xs_mk (xs_t1 35 rfl) rfl
theorem hw_36 : (Jvm.Cond.methodLink "WideNet$Frame" (3 : Nat) ({ cls := "java/lang/Object", name := "<init>", desc := "()V" } : Jvm.MethodName)) ∈ xs_U := xs_mk (xs_t1 36 rfl) rfl
theorem hw_37 : (Jvm.Cond.fieldLink "WideNet$Frame" (11 : Nat) "WideNet$Frame" "bytes" "[I") ∈ xs_U := xs_mk (xs_t1 37 rfl) rfl
theorem hn_38 : (Jvm.Cond.fieldLinkNest "WideNet$Server" (31 : Nat) "WideNet$Frame" "bytes" "[I" "WideNet") ∈ lw_tbl := xs_t1 38 rfl
theorem hn_39 : (Jvm.Cond.fieldLinkNest "WideNet$Device" (91 : Nat) "WideNet$Frame" "bytes" "[I" "WideNet") ∈ lw_tbl := xs_t1 39 rfl
theorem hn_40 : (Jvm.Cond.fieldLinkNest "WideNet$Account" (106 : Nat) "WideNet$Frame" "bytes" "[I" "WideNet") ∈ lw_tbl := xs_t1 40 rfl
theorem hn_41 : (Jvm.Cond.fieldLinkNest "WideNet$Session" (69 : Nat) "WideNet$Frame" "bytes" "[I" "WideNet") ∈ lw_tbl := xs_t1 41 rfl
theorem hn_42 : (Jvm.Cond.fieldLinkNest "WideNet" (115 : Nat) "WideNet$Frame" "bytes" "[I" "WideNet") ∈ lw_tbl := xs_t1 42 rfl
theorem hw_43 : (Jvm.Cond.fieldLink "WideNet$Frame" (15 : Nat) "WideNet$Frame" "size" "I") ∈ xs_U := xs_mk (xs_t1 43 rfl) rfl
theorem hn_44 : (Jvm.Cond.fieldLinkNest "WideNet$Device" (95 : Nat) "WideNet$Frame" "size" "I" "WideNet") ∈ lw_tbl := xs_t1 44 rfl
theorem hn_45 : (Jvm.Cond.fieldLinkNest "WideNet$Session" (58 : Nat) "WideNet$Frame" "size" "I" "WideNet") ∈ lw_tbl := xs_t1 45 rfl
theorem hn_46 : (Jvm.Cond.fieldLinkNest "WideNet$Account" (137 : Nat) "WideNet$Frame" "size" "I" "WideNet") ∈ lw_tbl := xs_t1 46 rfl
theorem hn_47 : (Jvm.Cond.fieldLinkNest "WideNet" (137 : Nat) "WideNet$Frame" "size" "I" "WideNet") ∈ lw_tbl := xs_t1 47 rfl
theorem hw_48 : (Jvm.Cond.fieldLink "WideNet$Frame" (19 : Nat) "WideNet$Frame" "target" "I") ∈ xs_U := xs_mk (xs_t1 48 rfl) rfl
theorem hn_49 : (Jvm.Cond.fieldLinkNest "WideNet" (100 : Nat) "WideNet$Frame" "target" "I" "WideNet") ∈ lw_tbl := xs_t1 49 rfl
theorem hw_50 : (Jvm.Cond.laysFinal "WideNet$Frame" "WideNet$Frame" "bytes" "[I") ∈ xs_U := xs_mk (xs_t1 50 rfl) rfl
theorem hw_52 : (Jvm.Cond.lays "WideNet$Frame" "WideNet$Frame" "size" "I") ∈ xs_U := xs_mk (xs_t1 52 rfl) rfl
theorem hw_54 : (Jvm.Cond.lays "WideNet$Frame" "WideNet$Frame" "target" "I") ∈ xs_U := xs_mk (xs_t1 54 rfl) rfl
theorem hw_57 : (Jvm.Cond.arrayClass Jvm.ClassFile.FieldType.int) ∈ xs_U := xs_mk (xs_t1 57 rfl) rfl
theorem hw_58 : (Jvm.Cond.fieldLink "WideNet$Air" (11 : Nat) "WideNet$Air" "underWay" "[LWideNet$Frame;") ∈ xs_U := xs_mk (xs_t1 58 rfl) rfl
theorem hn_59 : (Jvm.Cond.fieldLinkNest "WideNet" (96 : Nat) "WideNet$Air" "underWay" "[LWideNet$Frame;" "WideNet") ∈ lw_tbl := xs_t1 59 rfl
theorem hw_60 : (Jvm.Cond.fieldLink "WideNet$Air" (15 : Nat) "WideNet$Air" "remembered" "[LWideNet$Frame;") ∈ xs_U := xs_mk (xs_t1 60 rfl) rfl
theorem hw_61 : (Jvm.Cond.fieldLink "WideNet$Air" (18 : Nat) "WideNet$Air" "size" "I") ∈ xs_U := xs_mk (xs_t1 61 rfl) rfl
theorem hn_62 : (Jvm.Cond.fieldLinkNest "WideNet" (134 : Nat) "WideNet$Air" "size" "I" "WideNet") ∈ lw_tbl := xs_t1 62 rfl
theorem hw_63 : (Jvm.Cond.fieldLink "WideNet$Air" (22 : Nat) "WideNet$Air" "sent" "I") ∈ xs_U := xs_mk (xs_t1 63 rfl) rfl
theorem hw_64 : (Jvm.Cond.laysFinal "WideNet$Air" "WideNet$Air" "underWay" "[LWideNet$Frame;") ∈ xs_U := xs_mk (xs_t1 64 rfl) rfl
theorem hw_66 : (Jvm.Cond.laysFinal "WideNet$Air" "WideNet$Air" "remembered" "[LWideNet$Frame;") ∈ xs_U := xs_mk (xs_t1 66 rfl) rfl
theorem hw_68 : (Jvm.Cond.lays "WideNet$Air" "WideNet$Air" "size" "I") ∈ xs_U := xs_mk (xs_t1 68 rfl) rfl
theorem hw_70 : (Jvm.Cond.lays "WideNet$Air" "WideNet$Air" "sent" "I") ∈ xs_U := xs_mk (xs_t1 70 rfl) rfl
theorem hw_73 : (Jvm.Cond.classLink "WideNet" (16 : Nat) "WideNet$Device") ∈ xs_U := xs_mk (xs_t1 73 rfl) rfl
theorem hn_74 : (Jvm.Cond.arrayOver (Jvm.ClassFile.FieldType.object "WideNet$Device")) ∈ lw_tbl := xs_t1 74 rfl
theorem hw_75 : (Jvm.Cond.classLink "WideNet" (26 : Nat) "WideNet$Mac") ∈ xs_U := xs_mk (xs_t1 75 rfl) rfl
theorem hn_76 : (Jvm.Cond.arrayOver (Jvm.ClassFile.FieldType.object "WideNet$Mac")) ∈ lw_tbl := xs_t1 76 rfl
theorem hw_77 : (Jvm.Cond.instantiable "WideNet$Mac" (4 : Nat)) ∈ xs_U := xs_mk (xs_t1 77 rfl) rfl
theorem hn_78 : (Jvm.Cond.methodLinkNest "WideNet" (28 : Nat) ({ cls := "WideNet$Mac", name := "<init>", desc := "()V" } : Jvm.MethodName) "WideNet") ∈ lw_tbl := xs_t1 78 rfl
theorem hw_79 : (Jvm.Cond.instanceMethod ({ cls := "WideNet$Mac", name := "<init>", desc := "()V" } : Jvm.MethodName)) ∈ xs_U := xs_mk (xs_t1 79 rfl) rfl
theorem hw_80 : (Jvm.Cond.code ({ cls := "WideNet$Mac", name := "<init>", desc := "()V" } : Jvm.MethodName) prog_8_method_1_code (1 : Nat) (Option.none : Option Jvm.ClassFile.FieldType)) ∈ xs_U := xs_mk (xs_t1 80 rfl) rfl
theorem hw_81 : (Jvm.Cond.methodLink "WideNet$Mac" (3 : Nat) ({ cls := "java/lang/Object", name := "<init>", desc := "()V" } : Jvm.MethodName)) ∈ xs_U := xs_mk (xs_t1 81 rfl) rfl
theorem hw_82 : (Jvm.Cond.classLink "WideNet$Mac" (9 : Nat) "WideNet$Cipher") ∈ xs_U := xs_mk (xs_t1 82 rfl) rfl
theorem hw_83 : (Jvm.Cond.instantiable "WideNet$Cipher" (1 : Nat)) ∈ xs_U := xs_mk (xs_t1 83 rfl) rfl
theorem hn_84 : (Jvm.Cond.methodLinkNest "WideNet$Mac" (11 : Nat) ({ cls := "WideNet$Cipher", name := "<init>", desc := "()V" } : Jvm.MethodName) "WideNet") ∈ lw_tbl := xs_t1 84 rfl
theorem hw_85 : (Jvm.Cond.instanceMethod ({ cls := "WideNet$Cipher", name := "<init>", desc := "()V" } : Jvm.MethodName)) ∈ xs_U := xs_mk (xs_t1 85 rfl) rfl
theorem hw_86 : (Jvm.Cond.code ({ cls := "WideNet$Cipher", name := "<init>", desc := "()V" } : Jvm.MethodName) prog_4_method_1_code (1 : Nat) (Option.none : Option Jvm.ClassFile.FieldType)) ∈ xs_U := xs_mk (xs_t1 86 rfl) rfl
theorem hw_87 : (Jvm.Cond.methodLink "WideNet$Cipher" (1 : Nat) ({ cls := "java/lang/Object", name := "<init>", desc := "()V" } : Jvm.MethodName)) ∈ xs_U := xs_mk (xs_t1 87 rfl) rfl
theorem hw_88 : (Jvm.Cond.fieldLink "WideNet$Cipher" (9 : Nat) "WideNet$Cipher" "roundKeys" "[I") ∈ xs_U := xs_mk (xs_t1 88 rfl) rfl
theorem hw_89 : (Jvm.Cond.laysFinal "WideNet$Cipher" "WideNet$Cipher" "roundKeys" "[I") ∈ xs_U := xs_mk (xs_t1 89 rfl) rfl
theorem hw_92 : (Jvm.Cond.fieldLink "WideNet$Mac" (12 : Nat) "WideNet$Mac" "cipher" "LWideNet$Cipher;") ∈ xs_U := xs_mk (xs_t1 92 rfl) rfl
theorem hn_93 : (Jvm.Cond.fieldLinkNest "WideNet$Account" (73 : Nat) "WideNet$Mac" "cipher" "LWideNet$Cipher;" "WideNet") ∈ lw_tbl := xs_t1 93 rfl
theorem hn_94 : (Jvm.Cond.fieldLinkNest "WideNet$Device" (136 : Nat) "WideNet$Mac" "cipher" "LWideNet$Cipher;" "WideNet") ∈ lw_tbl := xs_t1 94 rfl
theorem hw_95 : (Jvm.Cond.fieldLink "WideNet$Mac" (18 : Nat) "WideNet$Mac" "wholeSubkey" "[I") ∈ xs_U := xs_mk (xs_t1 95 rfl) rfl
theorem hw_96 : (Jvm.Cond.fieldLink "WideNet$Mac" (22 : Nat) "WideNet$Mac" "paddedSubkey" "[I") ∈ xs_U := xs_mk (xs_t1 96 rfl) rfl
theorem hw_97 : (Jvm.Cond.fieldLink "WideNet$Mac" (25 : Nat) "WideNet$Mac" "chained" "[I") ∈ xs_U := xs_mk (xs_t1 97 rfl) rfl
theorem hw_98 : (Jvm.Cond.laysFinal "WideNet$Mac" "WideNet$Mac" "cipher" "LWideNet$Cipher;") ∈ xs_U := xs_mk (xs_t1 98 rfl) rfl
theorem hw_100 : (Jvm.Cond.laysFinal "WideNet$Mac" "WideNet$Mac" "wholeSubkey" "[I") ∈ xs_U := xs_mk (xs_t1 100 rfl) rfl
theorem hw_102 : (Jvm.Cond.laysFinal "WideNet$Mac" "WideNet$Mac" "paddedSubkey" "[I") ∈ xs_U := xs_mk (xs_t1 102 rfl) rfl
theorem hw_104 : (Jvm.Cond.laysFinal "WideNet$Mac" "WideNet$Mac" "chained" "[I") ∈ xs_U := xs_mk (xs_t1 104 rfl) rfl
theorem hw_107 : (Jvm.Cond.methodLink "WideNet" (29 : Nat) ({ cls := "WideNet$Mac", name := "takeKey", desc := "([I)V" } : Jvm.MethodName)) ∈ xs_U := xs_mk (xs_t1 107 rfl) rfl
theorem hw_108 : (Jvm.Cond.instanceMethod ({ cls := "WideNet$Mac", name := "takeKey", desc := "([I)V" } : Jvm.MethodName)) ∈ xs_U := xs_mk (xs_t1 108 rfl) rfl
theorem hw_109 : (Jvm.Cond.selects "WideNet$Mac" ({ cls := "WideNet$Mac", name := "takeKey", desc := "([I)V" } : Jvm.MethodName) ({ cls := "WideNet$Mac", name := "takeKey", desc := "([I)V" } : Jvm.MethodName)) ∈ xs_U := xs_mk (xs_t1 109 rfl) rfl
theorem hw_110 : (Jvm.Cond.code ({ cls := "WideNet$Mac", name := "takeKey", desc := "([I)V" } : Jvm.MethodName) prog_8_method_2_code (2 : Nat) (Option.none : Option Jvm.ClassFile.FieldType)) ∈ xs_U := xs_mk (xs_t1 110 rfl) rfl
theorem hw_111 : (Jvm.Cond.methodLink "WideNet$Mac" (28 : Nat) ({ cls := "WideNet$Cipher", name := "takeKey", desc := "([I)V" } : Jvm.MethodName)) ∈ xs_U := xs_mk (xs_t1 111 rfl) rfl
theorem hw_112 : (Jvm.Cond.instanceMethod ({ cls := "WideNet$Cipher", name := "takeKey", desc := "([I)V" } : Jvm.MethodName)) ∈ xs_U := xs_mk (xs_t1 112 rfl) rfl
theorem hw_113 : (Jvm.Cond.selects "WideNet$Cipher" ({ cls := "WideNet$Cipher", name := "takeKey", desc := "([I)V" } : Jvm.MethodName) ({ cls := "WideNet$Cipher", name := "takeKey", desc := "([I)V" } : Jvm.MethodName)) ∈ xs_U := xs_mk (xs_t1 113 rfl) rfl
theorem hw_114 : (Jvm.Cond.code ({ cls := "WideNet$Cipher", name := "takeKey", desc := "([I)V" } : Jvm.MethodName) prog_4_method_2_code (6 : Nat) (Option.none : Option Jvm.ClassFile.FieldType)) ∈ xs_U := xs_mk (xs_t1 114 rfl) rfl
theorem hn_115 : (Jvm.Cond.methodLinkNest "WideNet$Cipher" (13 : Nat) ({ cls := "WideNet", name := "number", desc := "([III)I" } : Jvm.MethodName) "WideNet") ∈ lw_tbl := xs_t1 115 rfl
theorem hw_116 : (Jvm.Cond.static ({ cls := "WideNet", name := "number", desc := "([III)I" } : Jvm.MethodName)) ∈ xs_U := xs_mk (xs_t1 116 rfl) rfl
theorem hw_117 : (Jvm.Cond.code ({ cls := "WideNet", name := "number", desc := "([III)I" } : Jvm.MethodName) prog_1_method_22_code (5 : Nat) (Option.some Jvm.ClassFile.FieldType.int)) ∈ xs_U := xs_mk (xs_t1 117 rfl) rfl
theorem hw_118 : (Jvm.Cond.fieldLink "WideNet$Cipher" (19 : Nat) "WideNet$Cipher" "SUBSTITUTES" "[I") ∈ xs_U := xs_mk (xs_t1 118 rfl) rfl
theorem hn_119 : (Jvm.Cond.laysStatic "WideNet$Cipher" "SUBSTITUTES" "[I") ∈ lw_tbl := xs_t1 119 rfl
theorem hw_120 : (Jvm.Cond.methodLink "WideNet$Cipher" (22 : Nat) ({ cls := "WideNet$Cipher", name := "gathered", desc := "([IIIII)I" } : Jvm.MethodName)) ∈ xs_U := xs_mk (xs_t1 120 rfl) rfl
theorem hw_121 : (Jvm.Cond.static ({ cls := "WideNet$Cipher", name := "gathered", desc := "([IIIII)I" } : Jvm.MethodName)) ∈ xs_U := xs_mk (xs_t1 121 rfl) rfl
theorem hw_122 : (Jvm.Cond.code ({ cls := "WideNet$Cipher", name := "gathered", desc := "([IIIII)I" } : Jvm.MethodName) prog_4_method_5_code (5 : Nat) (Option.some Jvm.ClassFile.FieldType.int)) ∈ xs_U := xs_mk (xs_t1 122 rfl) rfl
theorem hw_123 : (Jvm.Cond.methodLink "WideNet$Cipher" (26 : Nat) ({ cls := "WideNet$Cipher", name := "doubled", desc := "(I)I" } : Jvm.MethodName)) ∈ xs_U := xs_mk (xs_t1 123 rfl) rfl
theorem hw_124 : (Jvm.Cond.static ({ cls := "WideNet$Cipher", name := "doubled", desc := "(I)I" } : Jvm.MethodName)) ∈ xs_U := xs_mk (xs_t1 124 rfl) rfl
theorem hw_125 : (Jvm.Cond.code ({ cls := "WideNet$Cipher", name := "doubled", desc := "(I)I" } : Jvm.MethodName) prog_4_method_6_code (1 : Nat) (Option.some Jvm.ClassFile.FieldType.int)) ∈ xs_U := xs_mk (xs_t1 125 rfl) rfl
theorem hw_126 : (Jvm.Cond.constant "WideNet$Cipher" (44 : Nat) (2139062143 : Int32)) ∈ xs_U := xs_mk (xs_t1 126 rfl) rfl
theorem hw_127 : (Jvm.Cond.constant "WideNet$Cipher" (45 : Nat) (16843009 : Int32)) ∈ xs_U := xs_mk (xs_t1 127 rfl) rfl
theorem hw_128 : (Jvm.Cond.methodLink "WideNet$Mac" (32 : Nat) ({ cls := "java/util/Arrays", name := "fill", desc := "([II)V" } : Jvm.MethodName)) ∈ xs_U := xs_mk (xs_t1 128 rfl) rfl
theorem hw_129 : (Jvm.Cond.static ({ cls := "java/util/Arrays", name := "fill", desc := "([II)V" } : Jvm.MethodName)) ∈ xs_U := xs_mk (xs_t1 129 rfl) rfl
theorem hw_130 : (Jvm.Cond.code ({ cls := "java/util/Arrays", name := "fill", desc := "([II)V" } : Jvm.MethodName) prog_16_method_103_code (4 : Nat) (Option.none : Option Jvm.ClassFile.FieldType)) ∈ xs_U := xs_mk (xs_t1 130 rfl) rfl
theorem hw_131 : (Jvm.Cond.methodLink "WideNet$Mac" (38 : Nat) ({ cls := "WideNet$Cipher", name := "encipher", desc := "([II)V" } : Jvm.MethodName)) ∈ xs_U := xs_mk (xs_t1 131 rfl) rfl
theorem hw_132 : (Jvm.Cond.instanceMethod ({ cls := "WideNet$Cipher", name := "encipher", desc := "([II)V" } : Jvm.MethodName)) ∈ xs_U := xs_mk (xs_t1 132 rfl) rfl
theorem hw_133 : (Jvm.Cond.selects "WideNet$Cipher" ({ cls := "WideNet$Cipher", name := "encipher", desc := "([II)V" } : Jvm.MethodName) ({ cls := "WideNet$Cipher", name := "encipher", desc := "([II)V" } : Jvm.MethodName)) ∈ xs_U := xs_mk (xs_t1 133 rfl) rfl
theorem hw_134 : (Jvm.Cond.code ({ cls := "WideNet$Cipher", name := "encipher", desc := "([II)V" } : Jvm.MethodName) prog_4_method_3_code (13 : Nat) (Option.none : Option Jvm.ClassFile.FieldType)) ∈ xs_U := xs_mk (xs_t1 134 rfl) rfl
theorem hw_135 : (Jvm.Cond.methodLink "WideNet$Cipher" (30 : Nat) ({ cls := "WideNet$Cipher", name := "mixed", desc := "(II)I" } : Jvm.MethodName)) ∈ xs_U := xs_mk (xs_t1 135 rfl) rfl
theorem hw_136 : (Jvm.Cond.static ({ cls := "WideNet$Cipher", name := "mixed", desc := "(II)I" } : Jvm.MethodName)) ∈ xs_U := xs_mk (xs_t1 136 rfl) rfl
theorem hw_137 : (Jvm.Cond.code ({ cls := "WideNet$Cipher", name := "mixed", desc := "(II)I" } : Jvm.MethodName) prog_4_method_7_code (3 : Nat) (Option.some Jvm.ClassFile.FieldType.int)) ∈ xs_U := xs_mk (xs_t1 137 rfl) rfl
theorem hn_138 : (Jvm.Cond.methodLinkNest "WideNet$Cipher" (34 : Nat) ({ cls := "WideNet", name := "putNumber", desc := "([IIII)V" } : Jvm.MethodName) "WideNet") ∈ lw_tbl := xs_t1 138 rfl
theorem hw_139 : (Jvm.Cond.static ({ cls := "WideNet", name := "putNumber", desc := "([IIII)V" } : Jvm.MethodName)) ∈ xs_U := xs_mk (xs_t1 139 rfl) rfl
theorem hw_140 : (Jvm.Cond.code ({ cls := "WideNet", name := "putNumber", desc := "([IIII)V" } : Jvm.MethodName) prog_1_method_23_code (5 : Nat) (Option.none : Option Jvm.ClassFile.FieldType)) ∈ xs_U := xs_mk (xs_t1 140 rfl) rfl
theorem hw_141 : (Jvm.Cond.methodLink "WideNet$Mac" (41 : Nat) ({ cls := "WideNet$Mac", name := "moveUp", desc := "([I)V" } : Jvm.MethodName)) ∈ xs_U := xs_mk (xs_t1 141 rfl) rfl
theorem hw_142 : (Jvm.Cond.static ({ cls := "WideNet$Mac", name := "moveUp", desc := "([I)V" } : Jvm.MethodName)) ∈ xs_U := xs_mk (xs_t1 142 rfl) rfl
theorem hw_143 : (Jvm.Cond.code ({ cls := "WideNet$Mac", name := "moveUp", desc := "([I)V" } : Jvm.MethodName) prog_8_method_5_code (4 : Nat) (Option.none : Option Jvm.ClassFile.FieldType)) ∈ xs_U := xs_mk (xs_t1 143 rfl) rfl
theorem hw_144 : (Jvm.Cond.methodLink "WideNet$Mac" (44 : Nat) ({ cls := "java/lang/System", name := "arraycopy", desc := "(Ljava/lang/Object;ILjava/lang/Object;II)V" } : Jvm.MethodName)) ∈ xs_U := xs_mk (xs_t1 144 rfl) rfl
theorem hw_145 : (Jvm.Cond.static ({ cls := "java/lang/System", name := "arraycopy", desc := "(Ljava/lang/Object;ILjava/lang/Object;II)V" } : Jvm.MethodName)) ∈ xs_U := xs_mk (xs_t1 145 rfl) rfl
theorem hw_146 : (Jvm.Cond.native ({ cls := "java/lang/System", name := "arraycopy", desc := "(Ljava/lang/Object;ILjava/lang/Object;II)V" } : Jvm.MethodName)) ∈ xs_U := xs_mk (xs_t1 146 rfl) rfl
theorem hw_147 : (Jvm.Cond.instantiable "WideNet$Device" (18 : Nat)) ∈ xs_U := xs_mk (xs_t1 147 rfl) rfl
theorem hw_148 : (Jvm.Cond.methodLink "WideNet" (33 : Nat) ({ cls := "WideNet$Device", name := "<init>", desc := "(ILWideNet$Mac;)V" } : Jvm.MethodName)) ∈ xs_U := xs_mk (xs_t1 148 rfl) rfl
theorem hw_149 : (Jvm.Cond.instanceMethod ({ cls := "WideNet$Device", name := "<init>", desc := "(ILWideNet$Mac;)V" } : Jvm.MethodName)) ∈ xs_U := xs_mk (xs_t1 149 rfl) rfl
theorem hw_150 : (Jvm.Cond.code ({ cls := "WideNet$Device", name := "<init>", desc := "(ILWideNet$Mac;)V" } : Jvm.MethodName) prog_5_method_1_code (3 : Nat) (Option.none : Option Jvm.ClassFile.FieldType)) ∈ xs_U := xs_mk (xs_t1 150 rfl) rfl
theorem hw_151 : (Jvm.Cond.methodLink "WideNet$Device" (3 : Nat) ({ cls := "java/lang/Object", name := "<init>", desc := "()V" } : Jvm.MethodName)) ∈ xs_U := xs_mk (xs_t1 151 rfl) rfl
theorem hw_152 : (Jvm.Cond.classLink "WideNet$Device" (9 : Nat) "WideNet$Session") ∈ xs_U := xs_mk (xs_t1 152 rfl) rfl
theorem hw_153 : (Jvm.Cond.instantiable "WideNet$Session" (5 : Nat)) ∈ xs_U := xs_mk (xs_t1 153 rfl) rfl
theorem hn_154 : (Jvm.Cond.methodLinkNest "WideNet$Device" (11 : Nat) ({ cls := "WideNet$Session", name := "<init>", desc := "()V" } : Jvm.MethodName) "WideNet") ∈ lw_tbl := xs_t1 154 rfl
theorem hw_155 : (Jvm.Cond.instanceMethod ({ cls := "WideNet$Session", name := "<init>", desc := "()V" } : Jvm.MethodName)) ∈ xs_U := xs_mk (xs_t1 155 rfl) rfl
theorem hw_156 : (Jvm.Cond.code ({ cls := "WideNet$Session", name := "<init>", desc := "()V" } : Jvm.MethodName) prog_10_method_1_code (1 : Nat) (Option.none : Option Jvm.ClassFile.FieldType)) ∈ xs_U := xs_mk (xs_t1 156 rfl) rfl
theorem hw_157 : (Jvm.Cond.methodLink "WideNet$Session" (3 : Nat) ({ cls := "java/lang/Object", name := "<init>", desc := "()V" } : Jvm.MethodName)) ∈ xs_U := xs_mk (xs_t1 157 rfl) rfl
theorem hw_158 : (Jvm.Cond.classLink "WideNet$Session" (9 : Nat) "WideNet$Mac") ∈ xs_U := xs_mk (xs_t1 158 rfl) rfl
theorem hn_159 : (Jvm.Cond.methodLinkNest "WideNet$Session" (11 : Nat) ({ cls := "WideNet$Mac", name := "<init>", desc := "()V" } : Jvm.MethodName) "WideNet") ∈ lw_tbl := xs_t1 159 rfl
theorem hw_160 : (Jvm.Cond.classLink "WideNet$Session" (18 : Nat) "WideNet$Cipher") ∈ xs_U := xs_mk (xs_t1 160 rfl) rfl
theorem hn_161 : (Jvm.Cond.methodLinkNest "WideNet$Session" (20 : Nat) ({ cls := "WideNet$Cipher", name := "<init>", desc := "()V" } : Jvm.MethodName) "WideNet") ∈ lw_tbl := xs_t1 161 rfl
theorem hw_162 : (Jvm.Cond.fieldLink "WideNet$Session" (12 : Nat) "WideNet$Session" "network" "LWideNet$Mac;") ∈ xs_U := xs_mk (xs_t1 162 rfl) rfl
theorem hw_163 : (Jvm.Cond.fieldLink "WideNet$Session" (21 : Nat) "WideNet$Session" "application" "LWideNet$Cipher;") ∈ xs_U := xs_mk (xs_t1 163 rfl) rfl
theorem hw_164 : (Jvm.Cond.fieldLink "WideNet$Session" (27 : Nat) "WideNet$Session" "row" "[I") ∈ xs_U := xs_mk (xs_t1 164 rfl) rfl
theorem hw_165 : (Jvm.Cond.fieldLink "WideNet$Session" (31 : Nat) "WideNet$Session" "key" "[I") ∈ xs_U := xs_mk (xs_t1 165 rfl) rfl
theorem hw_166 : (Jvm.Cond.fieldLink "WideNet$Session" (34 : Nat) "WideNet$Session" "address" "I") ∈ xs_U := xs_mk (xs_t1 166 rfl) rfl
theorem hn_167 : (Jvm.Cond.fieldLinkNest "WideNet$Server" (63 : Nat) "WideNet$Session" "address" "I" "WideNet") ∈ lw_tbl := xs_t1 167 rfl
theorem hn_168 : (Jvm.Cond.fieldLinkNest "WideNet$Account" (134 : Nat) "WideNet$Session" "address" "I" "WideNet") ∈ lw_tbl := xs_t1 168 rfl
theorem hn_169 : (Jvm.Cond.fieldLinkNest "WideNet$Device" (165 : Nat) "WideNet$Session" "address" "I" "WideNet") ∈ lw_tbl := xs_t1 169 rfl
theorem hw_170 : (Jvm.Cond.laysFinal "WideNet$Session" "WideNet$Session" "network" "LWideNet$Mac;") ∈ xs_U := xs_mk (xs_t1 170 rfl) rfl
theorem hw_172 : (Jvm.Cond.laysFinal "WideNet$Session" "WideNet$Session" "application" "LWideNet$Cipher;") ∈ xs_U := xs_mk (xs_t1 172 rfl) rfl
theorem hw_174 : (Jvm.Cond.laysFinal "WideNet$Session" "WideNet$Session" "row" "[I") ∈ xs_U := xs_mk (xs_t1 174 rfl) rfl
theorem hw_176 : (Jvm.Cond.laysFinal "WideNet$Session" "WideNet$Session" "key" "[I") ∈ xs_U := xs_mk (xs_t1 176 rfl) rfl
theorem hw_178 : (Jvm.Cond.lays "WideNet$Session" "WideNet$Session" "address" "I") ∈ xs_U := xs_mk (xs_t1 178 rfl) rfl
theorem hw_181 : (Jvm.Cond.classLink "WideNet$Device" (18 : Nat) "WideNet$Inbox") ∈ xs_U := xs_mk (xs_t1 181 rfl) rfl
theorem hw_182 : (Jvm.Cond.instantiable "WideNet$Inbox" (2 : Nat)) ∈ xs_U := xs_mk (xs_t1 182 rfl) rfl
theorem hn_183 : (Jvm.Cond.methodLinkNest "WideNet$Device" (20 : Nat) ({ cls := "WideNet$Inbox", name := "<init>", desc := "()V" } : Jvm.MethodName) "WideNet") ∈ lw_tbl := xs_t1 183 rfl
theorem hw_184 : (Jvm.Cond.instanceMethod ({ cls := "WideNet$Inbox", name := "<init>", desc := "()V" } : Jvm.MethodName)) ∈ xs_U := xs_mk (xs_t1 184 rfl) rfl
theorem hw_185 : (Jvm.Cond.code ({ cls := "WideNet$Inbox", name := "<init>", desc := "()V" } : Jvm.MethodName) prog_7_method_1_code (1 : Nat) (Option.none : Option Jvm.ClassFile.FieldType)) ∈ xs_U := xs_mk (xs_t1 185 rfl) rfl
theorem hw_186 : (Jvm.Cond.methodLink "WideNet$Inbox" (3 : Nat) ({ cls := "java/lang/Object", name := "<init>", desc := "()V" } : Jvm.MethodName)) ∈ xs_U := xs_mk (xs_t1 186 rfl) rfl
theorem hw_187 : (Jvm.Cond.fieldLink "WideNet$Inbox" (11 : Nat) "WideNet$Inbox" "latest" "[J") ∈ xs_U := xs_mk (xs_t1 187 rfl) rfl
theorem hw_188 : (Jvm.Cond.fieldLink "WideNet$Inbox" (15 : Nat) "WideNet$Inbox" "total" "I") ∈ xs_U := xs_mk (xs_t1 188 rfl) rfl
theorem hn_189 : (Jvm.Cond.fieldLinkNest "WideNet" (145 : Nat) "WideNet$Inbox" "total" "I" "WideNet") ∈ lw_tbl := xs_t1 189 rfl
theorem hw_190 : (Jvm.Cond.laysFinal "WideNet$Inbox" "WideNet$Inbox" "latest" "[J") ∈ xs_U := xs_mk (xs_t1 190 rfl) rfl
theorem hw_192 : (Jvm.Cond.lays "WideNet$Inbox" "WideNet$Inbox" "total" "I") ∈ xs_U := xs_mk (xs_t1 192 rfl) rfl
theorem hw_195 : (Jvm.Cond.arrayClass Jvm.ClassFile.FieldType.long) ∈ xs_U := xs_mk (xs_t1 195 rfl) rfl
theorem hw_196 : (Jvm.Cond.classLink "WideNet$Device" (25 : Nat) "WideNet$Frame") ∈ xs_U := xs_mk (xs_t1 196 rfl) rfl
theorem hn_197 : (Jvm.Cond.methodLinkNest "WideNet$Device" (27 : Nat) ({ cls := "WideNet$Frame", name := "<init>", desc := "()V" } : Jvm.MethodName) "WideNet") ∈ lw_tbl := xs_t1 197 rfl
theorem hw_198 : (Jvm.Cond.fieldLink "WideNet$Device" (73 : Nat) "WideNet$Device" "id" "I") ∈ xs_U := xs_mk (xs_t1 198 rfl) rfl
theorem hw_199 : (Jvm.Cond.fieldLink "WideNet$Device" (76 : Nat) "WideNet$Device" "root" "LWideNet$Mac;") ∈ xs_U := xs_mk (xs_t1 199 rfl) rfl
theorem hw_200 : (Jvm.Cond.fieldLink "WideNet$Device" (12 : Nat) "WideNet$Device" "session" "LWideNet$Session;") ∈ xs_U := xs_mk (xs_t1 200 rfl) rfl
theorem hw_201 : (Jvm.Cond.fieldLink "WideNet$Device" (21 : Nat) "WideNet$Device" "inbox" "LWideNet$Inbox;") ∈ xs_U := xs_mk (xs_t1 201 rfl) rfl
theorem hn_202 : (Jvm.Cond.fieldLinkNest "WideNet" (171 : Nat) "WideNet$Device" "inbox" "LWideNet$Inbox;" "WideNet") ∈ lw_tbl := xs_t1 202 rfl
theorem hw_203 : (Jvm.Cond.fieldLink "WideNet$Device" (28 : Nat) "WideNet$Device" "sent" "LWideNet$Frame;") ∈ xs_U := xs_mk (xs_t1 203 rfl) rfl
theorem hw_204 : (Jvm.Cond.fieldLink "WideNet$Device" (32 : Nat) "WideNet$Device" "opened" "LWideNet$Frame;") ∈ xs_U := xs_mk (xs_t1 204 rfl) rfl
theorem hw_205 : (Jvm.Cond.fieldLink "WideNet$Device" (35 : Nat) "WideNet$Device" "state" "I") ∈ xs_U := xs_mk (xs_t1 205 rfl) rfl
theorem hn_206 : (Jvm.Cond.fieldLinkNest "WideNet" (138 : Nat) "WideNet$Device" "state" "I" "WideNet") ∈ lw_tbl := xs_t1 206 rfl
theorem hw_207 : (Jvm.Cond.fieldLink "WideNet$Device" (39 : Nat) "WideNet$Device" "nonce" "I") ∈ xs_U := xs_mk (xs_t1 207 rfl) rfl
theorem hn_208 : (Jvm.Cond.fieldLinkNest "WideNet" (53 : Nat) "WideNet$Device" "nonce" "I" "WideNet") ∈ lw_tbl := xs_t1 208 rfl
theorem hw_209 : (Jvm.Cond.fieldLink "WideNet$Device" (42 : Nat) "WideNet$Device" "greatestSerial" "I") ∈ xs_U := xs_mk (xs_t1 209 rfl) rfl
theorem hw_210 : (Jvm.Cond.fieldLink "WideNet$Device" (45 : Nat) "WideNet$Device" "countUp" "I") ∈ xs_U := xs_mk (xs_t1 210 rfl) rfl
theorem hn_211 : (Jvm.Cond.fieldLinkNest "WideNet" (68 : Nat) "WideNet$Device" "countUp" "I" "WideNet") ∈ lw_tbl := xs_t1 211 rfl
theorem hw_212 : (Jvm.Cond.fieldLink "WideNet$Device" (48 : Nat) "WideNet$Device" "greatestDown" "I") ∈ xs_U := xs_mk (xs_t1 212 rfl) rfl
theorem hw_213 : (Jvm.Cond.fieldLink "WideNet$Device" (51 : Nat) "WideNet$Device" "waits" "Z") ∈ xs_U := xs_mk (xs_t1 213 rfl) rfl
theorem hn_214 : (Jvm.Cond.fieldLinkNest "WideNet" (49 : Nat) "WideNet$Device" "waits" "Z" "WideNet") ∈ lw_tbl := xs_t1 214 rfl
theorem hw_215 : (Jvm.Cond.fieldLink "WideNet$Device" (55 : Nat) "WideNet$Device" "sentAt" "I") ∈ xs_U := xs_mk (xs_t1 215 rfl) rfl
theorem hw_216 : (Jvm.Cond.fieldLink "WideNet$Device" (58 : Nat) "WideNet$Device" "timesSent" "I") ∈ xs_U := xs_mk (xs_t1 216 rfl) rfl
theorem hw_217 : (Jvm.Cond.fieldLink "WideNet$Device" (61 : Nat) "WideNet$Device" "confirmed" "Z") ∈ xs_U := xs_mk (xs_t1 217 rfl) rfl
theorem hw_218 : (Jvm.Cond.fieldLink "WideNet$Device" (64 : Nat) "WideNet$Device" "acknowledged" "I") ∈ xs_U := xs_mk (xs_t1 218 rfl) rfl
theorem hn_219 : (Jvm.Cond.fieldLinkNest "WideNet" (156 : Nat) "WideNet$Device" "acknowledged" "I" "WideNet") ∈ lw_tbl := xs_t1 219 rfl
theorem hw_220 : (Jvm.Cond.fieldLink "WideNet$Device" (67 : Nat) "WideNet$Device" "failed" "I") ∈ xs_U := xs_mk (xs_t1 220 rfl) rfl
theorem hn_221 : (Jvm.Cond.fieldLinkNest "WideNet" (159 : Nat) "WideNet$Device" "failed" "I" "WideNet") ∈ lw_tbl := xs_t1 221 rfl
theorem hw_222 : (Jvm.Cond.fieldLink "WideNet$Device" (70 : Nat) "WideNet$Device" "checkedGateways" "I") ∈ xs_U := xs_mk (xs_t1 222 rfl) rfl
theorem hn_223 : (Jvm.Cond.fieldLinkNest "WideNet" (162 : Nat) "WideNet$Device" "checkedGateways" "I" "WideNet") ∈ lw_tbl := xs_t1 223 rfl
theorem hw_224 : (Jvm.Cond.laysFinal "WideNet$Device" "WideNet$Device" "id" "I") ∈ xs_U := xs_mk (xs_t1 224 rfl) rfl
theorem hw_226 : (Jvm.Cond.laysFinal "WideNet$Device" "WideNet$Device" "root" "LWideNet$Mac;") ∈ xs_U := xs_mk (xs_t1 226 rfl) rfl
theorem hw_228 : (Jvm.Cond.laysFinal "WideNet$Device" "WideNet$Device" "session" "LWideNet$Session;") ∈ xs_U := xs_mk (xs_t1 228 rfl) rfl
theorem hw_230 : (Jvm.Cond.laysFinal "WideNet$Device" "WideNet$Device" "inbox" "LWideNet$Inbox;") ∈ xs_U := xs_mk (xs_t1 230 rfl) rfl
theorem hw_232 : (Jvm.Cond.laysFinal "WideNet$Device" "WideNet$Device" "sent" "LWideNet$Frame;") ∈ xs_U := xs_mk (xs_t1 232 rfl) rfl
theorem hw_234 : (Jvm.Cond.laysFinal "WideNet$Device" "WideNet$Device" "opened" "LWideNet$Frame;") ∈ xs_U := xs_mk (xs_t1 234 rfl) rfl
theorem hw_236 : (Jvm.Cond.lays "WideNet$Device" "WideNet$Device" "state" "I") ∈ xs_U := xs_mk (xs_t1 236 rfl) rfl
theorem hw_238 : (Jvm.Cond.lays "WideNet$Device" "WideNet$Device" "nonce" "I") ∈ xs_U := xs_mk (xs_t1 238 rfl) rfl
theorem hw_240 : (Jvm.Cond.lays "WideNet$Device" "WideNet$Device" "greatestSerial" "I") ∈ xs_U := xs_mk (xs_t2 0 rfl) rfl
theorem hw_242 : (Jvm.Cond.lays "WideNet$Device" "WideNet$Device" "countUp" "I") ∈ xs_U := xs_mk (xs_t2 2 rfl) rfl
theorem hw_244 : (Jvm.Cond.lays "WideNet$Device" "WideNet$Device" "greatestDown" "I") ∈ xs_U := xs_mk (xs_t2 4 rfl) rfl
theorem hw_246 : (Jvm.Cond.lays "WideNet$Device" "WideNet$Device" "waits" "Z") ∈ xs_U := xs_mk (xs_t2 6 rfl) rfl
theorem hw_248 : (Jvm.Cond.lays "WideNet$Device" "WideNet$Device" "sentAt" "I") ∈ xs_U := xs_mk (xs_t2 8 rfl) rfl
theorem hw_250 : (Jvm.Cond.lays "WideNet$Device" "WideNet$Device" "timesSent" "I") ∈ xs_U := xs_mk (xs_t2 10 rfl) rfl
theorem hw_252 : (Jvm.Cond.lays "WideNet$Device" "WideNet$Device" "confirmed" "Z") ∈ xs_U := xs_mk (xs_t2 12 rfl) rfl
theorem hw_254 : (Jvm.Cond.lays "WideNet$Device" "WideNet$Device" "acknowledged" "I") ∈ xs_U := xs_mk (xs_t2 14 rfl) rfl
theorem hw_256 : (Jvm.Cond.lays "WideNet$Device" "WideNet$Device" "failed" "I") ∈ xs_U := xs_mk (xs_t2 16 rfl) rfl
theorem hw_258 : (Jvm.Cond.lays "WideNet$Device" "WideNet$Device" "checkedGateways" "I") ∈ xs_U := xs_mk (xs_t2 18 rfl) rfl
theorem hw_261 : (Jvm.Cond.classLink "WideNet" (36 : Nat) "WideNet$Server") ∈ xs_U := xs_mk (xs_t2 21 rfl) rfl
theorem hw_262 : (Jvm.Cond.instantiable "WideNet$Server" (3 : Nat)) ∈ xs_U := xs_mk (xs_t2 22 rfl) rfl
theorem hw_263 : (Jvm.Cond.methodLink "WideNet" (38 : Nat) ({ cls := "WideNet$Server", name := "<init>", desc := "([LWideNet$Mac;)V" } : Jvm.MethodName)) ∈ xs_U := xs_mk (xs_t2 23 rfl) rfl
theorem hw_264 : (Jvm.Cond.instanceMethod ({ cls := "WideNet$Server", name := "<init>", desc := "([LWideNet$Mac;)V" } : Jvm.MethodName)) ∈ xs_U := xs_mk (xs_t2 24 rfl) rfl
theorem hw_265 : (Jvm.Cond.code ({ cls := "WideNet$Server", name := "<init>", desc := "([LWideNet$Mac;)V" } : Jvm.MethodName) prog_9_method_1_code (3 : Nat) (Option.none : Option Jvm.ClassFile.FieldType)) ∈ xs_U := xs_mk (xs_t2 25 rfl) rfl
theorem hw_266 : (Jvm.Cond.methodLink "WideNet$Server" (3 : Nat) ({ cls := "java/lang/Object", name := "<init>", desc := "()V" } : Jvm.MethodName)) ∈ xs_U := xs_mk (xs_t2 26 rfl) rfl
theorem hw_267 : (Jvm.Cond.classLink "WideNet$Server" (9 : Nat) "WideNet$Account") ∈ xs_U := xs_mk (xs_t2 27 rfl) rfl
theorem hn_268 : (Jvm.Cond.arrayOver (Jvm.ClassFile.FieldType.object "WideNet$Account")) ∈ lw_tbl := xs_t2 28 rfl
theorem hw_269 : (Jvm.Cond.classLink "WideNet$Server" (17 : Nat) "WideNet$Frame") ∈ xs_U := xs_mk (xs_t2 29 rfl) rfl
theorem hn_270 : (Jvm.Cond.methodLinkNest "WideNet$Server" (19 : Nat) ({ cls := "WideNet$Frame", name := "<init>", desc := "()V" } : Jvm.MethodName) "WideNet") ∈ lw_tbl := xs_t2 30 rfl
theorem hw_271 : (Jvm.Cond.instantiable "WideNet$Account" (16 : Nat)) ∈ xs_U := xs_mk (xs_t2 31 rfl) rfl
theorem hw_272 : (Jvm.Cond.methodLink "WideNet$Server" (28 : Nat) ({ cls := "WideNet$Account", name := "<init>", desc := "(ILWideNet$Mac;)V" } : Jvm.MethodName)) ∈ xs_U := xs_mk (xs_t2 32 rfl) rfl
theorem hw_273 : (Jvm.Cond.instanceMethod ({ cls := "WideNet$Account", name := "<init>", desc := "(ILWideNet$Mac;)V" } : Jvm.MethodName)) ∈ xs_U := xs_mk (xs_t2 33 rfl) rfl
theorem hw_274 : (Jvm.Cond.code ({ cls := "WideNet$Account", name := "<init>", desc := "(ILWideNet$Mac;)V" } : Jvm.MethodName) prog_2_method_1_code (3 : Nat) (Option.none : Option Jvm.ClassFile.FieldType)) ∈ xs_U := xs_mk (xs_t2 34 rfl) rfl
theorem hw_275 : (Jvm.Cond.methodLink "WideNet$Account" (3 : Nat) ({ cls := "java/lang/Object", name := "<init>", desc := "()V" } : Jvm.MethodName)) ∈ xs_U := xs_mk (xs_t2 35 rfl) rfl
theorem hw_276 : (Jvm.Cond.classLink "WideNet$Account" (9 : Nat) "WideNet$Session") ∈ xs_U := xs_mk (xs_t2 36 rfl) rfl
theorem hn_277 : (Jvm.Cond.methodLinkNest "WideNet$Account" (11 : Nat) ({ cls := "WideNet$Session", name := "<init>", desc := "()V" } : Jvm.MethodName) "WideNet") ∈ lw_tbl := xs_t2 37 rfl
theorem hw_278 : (Jvm.Cond.classLink "WideNet$Account" (18 : Nat) "WideNet$Inbox") ∈ xs_U := xs_mk (xs_t2 38 rfl) rfl
theorem hn_279 : (Jvm.Cond.methodLinkNest "WideNet$Account" (20 : Nat) ({ cls := "WideNet$Inbox", name := "<init>", desc := "()V" } : Jvm.MethodName) "WideNet") ∈ lw_tbl := xs_t2 39 rfl
theorem hw_280 : (Jvm.Cond.fieldLink "WideNet$Account" (65 : Nat) "WideNet$Account" "id" "I") ∈ xs_U := xs_mk (xs_t2 40 rfl) rfl
theorem hw_281 : (Jvm.Cond.fieldLink "WideNet$Account" (68 : Nat) "WideNet$Account" "root" "LWideNet$Mac;") ∈ xs_U := xs_mk (xs_t2 41 rfl) rfl
theorem hn_282 : (Jvm.Cond.fieldLinkNest "WideNet$Server" (42 : Nat) "WideNet$Account" "root" "LWideNet$Mac;" "WideNet") ∈ lw_tbl := xs_t2 42 rfl
theorem hw_283 : (Jvm.Cond.fieldLink "WideNet$Account" (12 : Nat) "WideNet$Account" "session" "LWideNet$Session;") ∈ xs_U := xs_mk (xs_t2 43 rfl) rfl
theorem hn_284 : (Jvm.Cond.fieldLinkNest "WideNet$Server" (59 : Nat) "WideNet$Account" "session" "LWideNet$Session;" "WideNet") ∈ lw_tbl := xs_t2 44 rfl
theorem hw_285 : (Jvm.Cond.fieldLink "WideNet$Account" (21 : Nat) "WideNet$Account" "inbox" "LWideNet$Inbox;") ∈ xs_U := xs_mk (xs_t2 45 rfl) rfl
theorem hn_286 : (Jvm.Cond.fieldLinkNest "WideNet" (168 : Nat) "WideNet$Account" "inbox" "LWideNet$Inbox;" "WideNet") ∈ lw_tbl := xs_t2 46 rfl
theorem hw_287 : (Jvm.Cond.fieldLink "WideNet$Account" (25 : Nat) "WideNet$Account" "queuedPayloads" "[J") ∈ xs_U := xs_mk (xs_t2 47 rfl) rfl
theorem hw_288 : (Jvm.Cond.fieldLink "WideNet$Account" (29 : Nat) "WideNet$Account" "queuedBytes" "[I") ∈ xs_U := xs_mk (xs_t2 48 rfl) rfl
theorem hw_289 : (Jvm.Cond.fieldLink "WideNet$Account" (33 : Nat) "WideNet$Account" "queued" "I") ∈ xs_U := xs_mk (xs_t2 49 rfl) rfl
theorem hw_290 : (Jvm.Cond.fieldLink "WideNet$Account" (37 : Nat) "WideNet$Account" "sessions" "I") ∈ xs_U := xs_mk (xs_t2 50 rfl) rfl
theorem hn_291 : (Jvm.Cond.fieldLinkNest "WideNet$Server" (56 : Nat) "WideNet$Account" "sessions" "I" "WideNet") ∈ lw_tbl := xs_t2 51 rfl
theorem hn_292 : (Jvm.Cond.fieldLinkNest "WideNet" (165 : Nat) "WideNet$Account" "sessions" "I" "WideNet") ∈ lw_tbl := xs_t2 52 rfl
theorem hw_293 : (Jvm.Cond.fieldLink "WideNet$Account" (40 : Nat) "WideNet$Account" "serial" "I") ∈ xs_U := xs_mk (xs_t2 53 rfl) rfl
theorem hw_294 : (Jvm.Cond.fieldLink "WideNet$Account" (43 : Nat) "WideNet$Account" "greatestNonce" "I") ∈ xs_U := xs_mk (xs_t2 54 rfl) rfl
theorem hn_295 : (Jvm.Cond.fieldLinkNest "WideNet$Server" (39 : Nat) "WideNet$Account" "greatestNonce" "I" "WideNet") ∈ lw_tbl := xs_t2 55 rfl
theorem hw_296 : (Jvm.Cond.fieldLink "WideNet$Account" (46 : Nat) "WideNet$Account" "greatestUp" "I") ∈ xs_U := xs_mk (xs_t2 56 rfl) rfl
theorem hw_297 : (Jvm.Cond.fieldLink "WideNet$Account" (49 : Nat) "WideNet$Account" "nextDown" "I") ∈ xs_U := xs_mk (xs_t2 57 rfl) rfl
theorem hw_298 : (Jvm.Cond.fieldLink "WideNet$Account" (52 : Nat) "WideNet$Account" "gateways" "I") ∈ xs_U := xs_mk (xs_t2 58 rfl) rfl
theorem hw_299 : (Jvm.Cond.fieldLink "WideNet$Account" (55 : Nat) "WideNet$Account" "due" "I") ∈ xs_U := xs_mk (xs_t2 59 rfl) rfl
theorem hn_300 : (Jvm.Cond.fieldLinkNest "WideNet$Server" (75 : Nat) "WideNet$Account" "due" "I" "WideNet") ∈ lw_tbl := xs_t2 60 rfl
theorem hw_301 : (Jvm.Cond.fieldLink "WideNet$Account" (58 : Nat) "WideNet$Account" "acknowledges" "Z") ∈ xs_U := xs_mk (xs_t2 61 rfl) rfl
theorem hw_302 : (Jvm.Cond.fieldLink "WideNet$Account" (62 : Nat) "WideNet$Account" "checks" "Z") ∈ xs_U := xs_mk (xs_t2 62 rfl) rfl
theorem hw_303 : (Jvm.Cond.laysFinal "WideNet$Account" "WideNet$Account" "id" "I") ∈ xs_U := xs_mk (xs_t2 63 rfl) rfl
theorem hw_305 : (Jvm.Cond.laysFinal "WideNet$Account" "WideNet$Account" "root" "LWideNet$Mac;") ∈ xs_U := xs_mk (xs_t2 65 rfl) rfl
theorem hw_307 : (Jvm.Cond.laysFinal "WideNet$Account" "WideNet$Account" "session" "LWideNet$Session;") ∈ xs_U := xs_mk (xs_t2 67 rfl) rfl
theorem hw_309 : (Jvm.Cond.laysFinal "WideNet$Account" "WideNet$Account" "inbox" "LWideNet$Inbox;") ∈ xs_U := xs_mk (xs_t2 69 rfl) rfl
theorem hw_311 : (Jvm.Cond.laysFinal "WideNet$Account" "WideNet$Account" "queuedPayloads" "[J") ∈ xs_U := xs_mk (xs_t2 71 rfl) rfl
theorem hw_313 : (Jvm.Cond.laysFinal "WideNet$Account" "WideNet$Account" "queuedBytes" "[I") ∈ xs_U := xs_mk (xs_t2 73 rfl) rfl
theorem hw_315 : (Jvm.Cond.lays "WideNet$Account" "WideNet$Account" "queued" "I") ∈ xs_U := xs_mk (xs_t2 75 rfl) rfl
theorem hw_317 : (Jvm.Cond.lays "WideNet$Account" "WideNet$Account" "sessions" "I") ∈ xs_U := xs_mk (xs_t2 77 rfl) rfl
theorem hw_319 : (Jvm.Cond.lays "WideNet$Account" "WideNet$Account" "serial" "I") ∈ xs_U := xs_mk (xs_t2 79 rfl) rfl
theorem hw_321 : (Jvm.Cond.lays "WideNet$Account" "WideNet$Account" "greatestNonce" "I") ∈ xs_U := xs_mk (xs_t2 81 rfl) rfl
theorem hw_323 : (Jvm.Cond.lays "WideNet$Account" "WideNet$Account" "greatestUp" "I") ∈ xs_U := xs_mk (xs_t2 83 rfl) rfl
theorem hw_325 : (Jvm.Cond.lays "WideNet$Account" "WideNet$Account" "nextDown" "I") ∈ xs_U := xs_mk (xs_t2 85 rfl) rfl
theorem hw_327 : (Jvm.Cond.lays "WideNet$Account" "WideNet$Account" "gateways" "I") ∈ xs_U := xs_mk (xs_t2 87 rfl) rfl
theorem hw_329 : (Jvm.Cond.lays "WideNet$Account" "WideNet$Account" "due" "I") ∈ xs_U := xs_mk (xs_t2 89 rfl) rfl
theorem hw_331 : (Jvm.Cond.lays "WideNet$Account" "WideNet$Account" "acknowledges" "Z") ∈ xs_U := xs_mk (xs_t2 91 rfl) rfl
theorem hw_333 : (Jvm.Cond.lays "WideNet$Account" "WideNet$Account" "checks" "Z") ∈ xs_U := xs_mk (xs_t2 93 rfl) rfl
theorem hw_336 : (Jvm.Cond.fieldLink "WideNet$Server" (11 : Nat) "WideNet$Server" "accounts" "[LWideNet$Account;") ∈ xs_U := xs_mk (xs_t2 96 rfl) rfl
theorem hn_337 : (Jvm.Cond.fieldLinkNest "WideNet" (76 : Nat) "WideNet$Server" "accounts" "[LWideNet$Account;" "WideNet") ∈ lw_tbl := xs_t2 97 rfl
theorem hw_338 : (Jvm.Cond.fieldLink "WideNet$Server" (20 : Nat) "WideNet$Server" "outgoing" "LWideNet$Frame;") ∈ xs_U := xs_mk (xs_t2 98 rfl) rfl
theorem hw_339 : (Jvm.Cond.fieldLink "WideNet$Server" (24 : Nat) "WideNet$Server" "serial" "I") ∈ xs_U := xs_mk (xs_t2 99 rfl) rfl
theorem hw_340 : (Jvm.Cond.laysFinal "WideNet$Server" "WideNet$Server" "accounts" "[LWideNet$Account;") ∈ xs_U := xs_mk (xs_t2 100 rfl) rfl
theorem hw_342 : (Jvm.Cond.laysFinal "WideNet$Server" "WideNet$Server" "outgoing" "LWideNet$Frame;") ∈ xs_U := xs_mk (xs_t2 102 rfl) rfl
theorem hw_344 : (Jvm.Cond.lays "WideNet$Server" "WideNet$Server" "serial" "I") ∈ xs_U := xs_mk (xs_t2 104 rfl) rfl
theorem hw_347 : (Jvm.Cond.fieldLink "WideNet" (10 : Nat) "WideNet" "air" "LWideNet$Air;") ∈ xs_U := xs_mk (xs_t2 107 rfl) rfl
theorem hw_348 : (Jvm.Cond.fieldLink "WideNet" (18 : Nat) "WideNet" "devices" "[LWideNet$Device;") ∈ xs_U := xs_mk (xs_t2 108 rfl) rfl
theorem hw_349 : (Jvm.Cond.fieldLink "WideNet" (41 : Nat) "WideNet" "server" "LWideNet$Server;") ∈ xs_U := xs_mk (xs_t2 109 rfl) rfl
theorem hw_350 : (Jvm.Cond.fieldLink "WideNet" (22 : Nat) "WideNet" "time" "I") ∈ xs_U := xs_mk (xs_t2 110 rfl) rfl
theorem hw_351 : (Jvm.Cond.laysFinal "WideNet" "WideNet" "air" "LWideNet$Air;") ∈ xs_U := xs_mk (xs_t2 111 rfl) rfl
theorem hw_353 : (Jvm.Cond.laysFinal "WideNet" "WideNet" "devices" "[LWideNet$Device;") ∈ xs_U := xs_mk (xs_t2 113 rfl) rfl
theorem hw_355 : (Jvm.Cond.laysFinal "WideNet" "WideNet" "server" "LWideNet$Server;") ∈ xs_U := xs_mk (xs_t2 115 rfl) rfl
theorem hw_357 : (Jvm.Cond.lays "WideNet" "WideNet" "time" "I") ∈ xs_U := xs_mk (xs_t2 117 rfl) rfl
theorem hw_360 : (Jvm.Cond.methodLink "WideNetLaw" (21 : Nat) ({ cls := "WideNet", name := "join", desc := "(I)I" } : Jvm.MethodName)) ∈ xs_U := xs_mk (xs_t2 120 rfl) rfl
theorem hw_361 : (Jvm.Cond.instanceMethod ({ cls := "WideNet", name := "join", desc := "(I)I" } : Jvm.MethodName)) ∈ xs_U := xs_mk (xs_t2 121 rfl) rfl
theorem hw_362 : (Jvm.Cond.selects "WideNet" ({ cls := "WideNet", name := "join", desc := "(I)I" } : Jvm.MethodName) ({ cls := "WideNet", name := "join", desc := "(I)I" } : Jvm.MethodName)) ∈ xs_U := xs_mk (xs_t2 122 rfl) rfl
theorem hw_363 : (Jvm.Cond.code ({ cls := "WideNet", name := "join", desc := "(I)I" } : Jvm.MethodName) prog_1_method_2_code (2 : Nat) (Option.some Jvm.ClassFile.FieldType.int)) ∈ xs_U := xs_mk (xs_t2 123 rfl) rfl
theorem hw_364 : (Jvm.Cond.methodLink "WideNet" (45 : Nat) ({ cls := "WideNet", name := "isDevice", desc := "(I)Z" } : Jvm.MethodName)) ∈ xs_U := xs_mk (xs_t2 124 rfl) rfl
theorem hw_365 : (Jvm.Cond.static ({ cls := "WideNet", name := "isDevice", desc := "(I)Z" } : Jvm.MethodName)) ∈ xs_U := xs_mk (xs_t2 125 rfl) rfl
theorem hw_366 : (Jvm.Cond.code ({ cls := "WideNet", name := "isDevice", desc := "(I)Z" } : Jvm.MethodName) prog_1_method_20_code (1 : Nat) (Option.some Jvm.ClassFile.FieldType.boolean)) ∈ xs_U := xs_mk (xs_t2 126 rfl) rfl
theorem hw_367 : (Jvm.Cond.constant "WideNet" (56 : Nat) (65535 : Int32)) ∈ xs_U := xs_mk (xs_t2 127 rfl) rfl
theorem hw_368 : (Jvm.Cond.methodLink "WideNet" (57 : Nat) ({ cls := "WideNet$Device", name := "writeJoin", desc := "()V" } : Jvm.MethodName)) ∈ xs_U := xs_mk (xs_t2 128 rfl) rfl
theorem hw_369 : (Jvm.Cond.instanceMethod ({ cls := "WideNet$Device", name := "writeJoin", desc := "()V" } : Jvm.MethodName)) ∈ xs_U := xs_mk (xs_t2 129 rfl) rfl
theorem hw_370 : (Jvm.Cond.selects "WideNet$Device" ({ cls := "WideNet$Device", name := "writeJoin", desc := "()V" } : Jvm.MethodName) ({ cls := "WideNet$Device", name := "writeJoin", desc := "()V" } : Jvm.MethodName)) ∈ xs_U := xs_mk (xs_t2 130 rfl) rfl
theorem hw_371 : (Jvm.Cond.code ({ cls := "WideNet$Device", name := "writeJoin", desc := "()V" } : Jvm.MethodName) prog_5_method_3_code (1 : Nat) (Option.none : Option Jvm.ClassFile.FieldType)) ∈ xs_U := xs_mk (xs_t2 131 rfl) rfl
theorem hw_372 : (Jvm.Cond.methodLink "WideNet$Device" (80 : Nat) ({ cls := "WideNet$Frame", name := "begin", desc := "(II)V" } : Jvm.MethodName)) ∈ xs_U := xs_mk (xs_t2 132 rfl) rfl
theorem hw_373 : (Jvm.Cond.instanceMethod ({ cls := "WideNet$Frame", name := "begin", desc := "(II)V" } : Jvm.MethodName)) ∈ xs_U := xs_mk (xs_t2 133 rfl) rfl
theorem hw_374 : (Jvm.Cond.selects "WideNet$Frame" ({ cls := "WideNet$Frame", name := "begin", desc := "(II)V" } : Jvm.MethodName) ({ cls := "WideNet$Frame", name := "begin", desc := "(II)V" } : Jvm.MethodName)) ∈ xs_U := xs_mk (xs_t2 134 rfl) rfl
theorem hw_375 : (Jvm.Cond.code ({ cls := "WideNet$Frame", name := "begin", desc := "(II)V" } : Jvm.MethodName) prog_6_method_2_code (3 : Nat) (Option.none : Option Jvm.ClassFile.FieldType)) ∈ xs_U := xs_mk (xs_t2 135 rfl) rfl
theorem hw_376 : (Jvm.Cond.methodLink "WideNet$Frame" (22 : Nat) ({ cls := "WideNet$Frame", name := "append", desc := "(II)V" } : Jvm.MethodName)) ∈ xs_U := xs_mk (xs_t2 136 rfl) rfl
theorem hw_377 : (Jvm.Cond.instanceMethod ({ cls := "WideNet$Frame", name := "append", desc := "(II)V" } : Jvm.MethodName)) ∈ xs_U := xs_mk (xs_t2 137 rfl) rfl
theorem hw_378 : (Jvm.Cond.selects "WideNet$Frame" ({ cls := "WideNet$Frame", name := "append", desc := "(II)V" } : Jvm.MethodName) ({ cls := "WideNet$Frame", name := "append", desc := "(II)V" } : Jvm.MethodName)) ∈ xs_U := xs_mk (xs_t2 138 rfl) rfl
theorem hw_379 : (Jvm.Cond.code ({ cls := "WideNet$Frame", name := "append", desc := "(II)V" } : Jvm.MethodName) prog_6_method_3_code (3 : Nat) (Option.none : Option Jvm.ClassFile.FieldType)) ∈ xs_U := xs_mk (xs_t2 139 rfl) rfl
theorem hn_380 : (Jvm.Cond.methodLinkNest "WideNet$Frame" (26 : Nat) ({ cls := "WideNet", name := "putNumber", desc := "([IIII)V" } : Jvm.MethodName) "WideNet") ∈ lw_tbl := xs_t2 140 rfl
theorem hw_381 : (Jvm.Cond.methodLink "WideNet$Device" (84 : Nat) ({ cls := "WideNet$Frame", name := "appendZeros", desc := "(I)V" } : Jvm.MethodName)) ∈ xs_U := xs_mk (xs_t2 141 rfl) rfl
theorem hw_382 : (Jvm.Cond.instanceMethod ({ cls := "WideNet$Frame", name := "appendZeros", desc := "(I)V" } : Jvm.MethodName)) ∈ xs_U := xs_mk (xs_t2 142 rfl) rfl
theorem hw_383 : (Jvm.Cond.selects "WideNet$Frame" ({ cls := "WideNet$Frame", name := "appendZeros", desc := "(I)V" } : Jvm.MethodName) ({ cls := "WideNet$Frame", name := "appendZeros", desc := "(I)V" } : Jvm.MethodName)) ∈ xs_U := xs_mk (xs_t2 143 rfl) rfl
theorem hw_384 : (Jvm.Cond.code ({ cls := "WideNet$Frame", name := "appendZeros", desc := "(I)V" } : Jvm.MethodName) prog_6_method_4_code (3 : Nat) (Option.none : Option Jvm.ClassFile.FieldType)) ∈ xs_U := xs_mk (xs_t2 144 rfl) rfl
theorem hw_385 : (Jvm.Cond.methodLink "WideNet$Device" (88 : Nat) ({ cls := "WideNet$Frame", name := "append", desc := "(II)V" } : Jvm.MethodName)) ∈ xs_U := xs_mk (xs_t2 145 rfl) rfl
theorem hw_386 : (Jvm.Cond.methodLink "WideNet$Device" (98 : Nat) ({ cls := "WideNet$Mac", name := "codeOf", desc := "([II)I" } : Jvm.MethodName)) ∈ xs_U := xs_mk (xs_t2 146 rfl) rfl
theorem hw_387 : (Jvm.Cond.instanceMethod ({ cls := "WideNet$Mac", name := "codeOf", desc := "([II)I" } : Jvm.MethodName)) ∈ xs_U := xs_mk (xs_t2 147 rfl) rfl
theorem hw_388 : (Jvm.Cond.selects "WideNet$Mac" ({ cls := "WideNet$Mac", name := "codeOf", desc := "([II)I" } : Jvm.MethodName) ({ cls := "WideNet$Mac", name := "codeOf", desc := "([II)I" } : Jvm.MethodName)) ∈ xs_U := xs_mk (xs_t2 148 rfl) rfl
theorem hw_389 : (Jvm.Cond.code ({ cls := "WideNet$Mac", name := "codeOf", desc := "([II)I" } : Jvm.MethodName) prog_8_method_3_code (5 : Nat) (Option.some Jvm.ClassFile.FieldType.int)) ∈ xs_U := xs_mk (xs_t2 149 rfl) rfl
theorem hw_390 : (Jvm.Cond.methodLink "WideNet$Mac" (50 : Nat) ({ cls := "WideNet$Mac", name := "combine", desc := "([III)V" } : Jvm.MethodName)) ∈ xs_U := xs_mk (xs_t2 150 rfl) rfl
theorem hw_392 : (Jvm.Cond.instanceMethod ({ cls := "WideNet$Mac", name := "combine", desc := "([III)V" } : Jvm.MethodName)) ∈ xs_U := xs_mk (xs_t2 152 rfl) rfl
theorem hw_393 : (Jvm.Cond.code ({ cls := "WideNet$Mac", name := "combine", desc := "([III)V" } : Jvm.MethodName) prog_8_method_4_code (5 : Nat) (Option.none : Option Jvm.ClassFile.FieldType)) ∈ xs_U := xs_mk (xs_t2 153 rfl) rfl
theorem hn_394 : (Jvm.Cond.methodLinkNest "WideNet$Mac" (54 : Nat) ({ cls := "WideNet", name := "number", desc := "([III)I" } : Jvm.MethodName) "WideNet") ∈ lw_tbl := xs_t2 154 rfl
theorem hw_395 : (Jvm.Cond.methodLink "WideNet" (60 : Nat) ({ cls := "WideNet$Device", name := "transmit", desc := "(LWideNet$Air;I)V" } : Jvm.MethodName)) ∈ xs_U := xs_mk (xs_t2 155 rfl) rfl
theorem hw_396 : (Jvm.Cond.instanceMethod ({ cls := "WideNet$Device", name := "transmit", desc := "(LWideNet$Air;I)V" } : Jvm.MethodName)) ∈ xs_U := xs_mk (xs_t2 156 rfl) rfl
theorem hw_397 : (Jvm.Cond.selects "WideNet$Device" ({ cls := "WideNet$Device", name := "transmit", desc := "(LWideNet$Air;I)V" } : Jvm.MethodName) ({ cls := "WideNet$Device", name := "transmit", desc := "(LWideNet$Air;I)V" } : Jvm.MethodName)) ∈ xs_U := xs_mk (xs_t2 157 rfl) rfl
theorem hw_398 : (Jvm.Cond.code ({ cls := "WideNet$Device", name := "transmit", desc := "(LWideNet$Air;I)V" } : Jvm.MethodName) prog_5_method_5_code (3 : Nat) (Option.none : Option Jvm.ClassFile.FieldType)) ∈ xs_U := xs_mk (xs_t2 158 rfl) rfl
theorem hw_399 : (Jvm.Cond.methodLink "WideNet$Device" (111 : Nat) ({ cls := "WideNet$Air", name := "transmit", desc := "(LWideNet$Frame;)V" } : Jvm.MethodName)) ∈ xs_U := xs_mk (xs_t2 159 rfl) rfl
theorem hw_400 : (Jvm.Cond.instanceMethod ({ cls := "WideNet$Air", name := "transmit", desc := "(LWideNet$Frame;)V" } : Jvm.MethodName)) ∈ xs_U := xs_mk (xs_t2 160 rfl) rfl
theorem hw_401 : (Jvm.Cond.selects "WideNet$Air" ({ cls := "WideNet$Air", name := "transmit", desc := "(LWideNet$Frame;)V" } : Jvm.MethodName) ({ cls := "WideNet$Air", name := "transmit", desc := "(LWideNet$Frame;)V" } : Jvm.MethodName)) ∈ xs_U := xs_mk (xs_t2 161 rfl) rfl
theorem hw_402 : (Jvm.Cond.code ({ cls := "WideNet$Air", name := "transmit", desc := "(LWideNet$Frame;)V" } : Jvm.MethodName) prog_3_method_3_code (2 : Nat) (Option.none : Option Jvm.ClassFile.FieldType)) ∈ xs_U := xs_mk (xs_t2 162 rfl) rfl
theorem hw_403 : (Jvm.Cond.methodLink "WideNet$Air" (26 : Nat) ({ cls := "WideNet$Frame", name := "copy", desc := "(LWideNet$Frame;)V" } : Jvm.MethodName)) ∈ xs_U := xs_mk (xs_t2 163 rfl) rfl
theorem hw_404 : (Jvm.Cond.instanceMethod ({ cls := "WideNet$Frame", name := "copy", desc := "(LWideNet$Frame;)V" } : Jvm.MethodName)) ∈ xs_U := xs_mk (xs_t2 164 rfl) rfl
theorem hw_405 : (Jvm.Cond.selects "WideNet$Frame" ({ cls := "WideNet$Frame", name := "copy", desc := "(LWideNet$Frame;)V" } : Jvm.MethodName) ({ cls := "WideNet$Frame", name := "copy", desc := "(LWideNet$Frame;)V" } : Jvm.MethodName)) ∈ xs_U := xs_mk (xs_t2 165 rfl) rfl
theorem hw_406 : (Jvm.Cond.code ({ cls := "WideNet$Frame", name := "copy", desc := "(LWideNet$Frame;)V" } : Jvm.MethodName) prog_6_method_5_code (2 : Nat) (Option.none : Option Jvm.ClassFile.FieldType)) ∈ xs_U := xs_mk (xs_t2 166 rfl) rfl
theorem hw_407 : (Jvm.Cond.methodLink "WideNet$Frame" (30 : Nat) ({ cls := "java/lang/System", name := "arraycopy", desc := "(Ljava/lang/Object;ILjava/lang/Object;II)V" } : Jvm.MethodName)) ∈ xs_U := xs_mk (xs_t2 167 rfl) rfl
theorem hw_408 : (Jvm.Cond.methodLink "WideNet$Air" (30 : Nat) ({ cls := "WideNet$Air", name := "add", desc := "(LWideNet$Frame;)Z" } : Jvm.MethodName)) ∈ xs_U := xs_mk (xs_t2 168 rfl) rfl
theorem hw_410 : (Jvm.Cond.instanceMethod ({ cls := "WideNet$Air", name := "add", desc := "(LWideNet$Frame;)Z" } : Jvm.MethodName)) ∈ xs_U := xs_mk (xs_t2 170 rfl) rfl
theorem hw_411 : (Jvm.Cond.code ({ cls := "WideNet$Air", name := "add", desc := "(LWideNet$Frame;)Z" } : Jvm.MethodName) prog_3_method_6_code (2 : Nat) (Option.some Jvm.ClassFile.FieldType.boolean)) ∈ xs_U := xs_mk (xs_t2 171 rfl) rfl
theorem hw_412 : (Jvm.Cond.methodLink "WideNetLaw" (28 : Nat) ({ cls := "WideNet", name := "send", desc := "(IJIZZ)I" } : Jvm.MethodName)) ∈ xs_U := xs_mk (xs_t2 172 rfl) rfl
theorem hw_413 : (Jvm.Cond.instanceMethod ({ cls := "WideNet", name := "send", desc := "(IJIZZ)I" } : Jvm.MethodName)) ∈ xs_U := xs_mk (xs_t2 173 rfl) rfl
theorem hw_414 : (Jvm.Cond.selects "WideNet" ({ cls := "WideNet", name := "send", desc := "(IJIZZ)I" } : Jvm.MethodName) ({ cls := "WideNet", name := "send", desc := "(IJIZZ)I" } : Jvm.MethodName)) ∈ xs_U := xs_mk (xs_t2 174 rfl) rfl
theorem hw_415 : (Jvm.Cond.code ({ cls := "WideNet", name := "send", desc := "(IJIZZ)I" } : Jvm.MethodName) prog_1_method_3_code (8 : Nat) (Option.some Jvm.ClassFile.FieldType.int)) ∈ xs_U := xs_mk (xs_t2 175 rfl) rfl
theorem hw_416 : (Jvm.Cond.methodLink "WideNet" (64 : Nat) ({ cls := "WideNet$Device", name := "isFree", desc := "()Z" } : Jvm.MethodName)) ∈ xs_U := xs_mk (xs_t2 176 rfl) rfl
theorem hw_417 : (Jvm.Cond.instanceMethod ({ cls := "WideNet$Device", name := "isFree", desc := "()Z" } : Jvm.MethodName)) ∈ xs_U := xs_mk (xs_t2 177 rfl) rfl
theorem hw_418 : (Jvm.Cond.selects "WideNet$Device" ({ cls := "WideNet$Device", name := "isFree", desc := "()Z" } : Jvm.MethodName) ({ cls := "WideNet$Device", name := "isFree", desc := "()Z" } : Jvm.MethodName)) ∈ xs_U := xs_mk (xs_t2 178 rfl) rfl
theorem hw_419 : (Jvm.Cond.code ({ cls := "WideNet$Device", name := "isFree", desc := "()Z" } : Jvm.MethodName) prog_5_method_2_code (1 : Nat) (Option.some Jvm.ClassFile.FieldType.boolean)) ∈ xs_U := xs_mk (xs_t2 179 rfl) rfl
theorem hw_420 : (Jvm.Cond.methodLink "WideNet" (71 : Nat) ({ cls := "WideNet$Device", name := "writeData", desc := "(JIZZ)V" } : Jvm.MethodName)) ∈ xs_U := xs_mk (xs_t2 180 rfl) rfl
theorem hw_421 : (Jvm.Cond.instanceMethod ({ cls := "WideNet$Device", name := "writeData", desc := "(JIZZ)V" } : Jvm.MethodName)) ∈ xs_U := xs_mk (xs_t2 181 rfl) rfl
theorem hw_422 : (Jvm.Cond.selects "WideNet$Device" ({ cls := "WideNet$Device", name := "writeData", desc := "(JIZZ)V" } : Jvm.MethodName) ({ cls := "WideNet$Device", name := "writeData", desc := "(JIZZ)V" } : Jvm.MethodName)) ∈ xs_U := xs_mk (xs_t2 182 rfl) rfl
theorem hw_423 : (Jvm.Cond.code ({ cls := "WideNet$Device", name := "writeData", desc := "(JIZZ)V" } : Jvm.MethodName) prog_5_method_4_code (6 : Nat) (Option.none : Option Jvm.ClassFile.FieldType)) ∈ xs_U := xs_mk (xs_t2 183 rfl) rfl
theorem hw_424 : (Jvm.Cond.methodLink "WideNet$Device" (104 : Nat) ({ cls := "WideNet$Session", name := "begin", desc := "(LWideNet$Frame;IIII)V" } : Jvm.MethodName)) ∈ xs_U := xs_mk (xs_t2 184 rfl) rfl
theorem hw_425 : (Jvm.Cond.instanceMethod ({ cls := "WideNet$Session", name := "begin", desc := "(LWideNet$Frame;IIII)V" } : Jvm.MethodName)) ∈ xs_U := xs_mk (xs_t2 185 rfl) rfl
theorem hw_426 : (Jvm.Cond.selects "WideNet$Session" ({ cls := "WideNet$Session", name := "begin", desc := "(LWideNet$Frame;IIII)V" } : Jvm.MethodName) ({ cls := "WideNet$Session", name := "begin", desc := "(LWideNet$Frame;IIII)V" } : Jvm.MethodName)) ∈ xs_U := xs_mk (xs_t2 186 rfl) rfl
theorem hw_427 : (Jvm.Cond.code ({ cls := "WideNet$Session", name := "begin", desc := "(LWideNet$Frame;IIII)V" } : Jvm.MethodName) prog_10_method_3_code (6 : Nat) (Option.none : Option Jvm.ClassFile.FieldType)) ∈ xs_U := xs_mk (xs_t2 187 rfl) rfl
theorem hw_428 : (Jvm.Cond.methodLink "WideNet$Session" (47 : Nat) ({ cls := "WideNet$Frame", name := "begin", desc := "(II)V" } : Jvm.MethodName)) ∈ xs_U := xs_mk (xs_t2 188 rfl) rfl
theorem hw_429 : (Jvm.Cond.methodLink "WideNet$Session" (51 : Nat) ({ cls := "WideNet$Frame", name := "append", desc := "(II)V" } : Jvm.MethodName)) ∈ xs_U := xs_mk (xs_t2 189 rfl) rfl
theorem hw_430 : (Jvm.Cond.methodLink "WideNet$Device" (107 : Nat) ({ cls := "WideNet$Session", name := "finish", desc := "(LWideNet$Frame;IIJI)V" } : Jvm.MethodName)) ∈ xs_U := xs_mk (xs_t2 190 rfl) rfl
theorem hw_431 : (Jvm.Cond.instanceMethod ({ cls := "WideNet$Session", name := "finish", desc := "(LWideNet$Frame;IIJI)V" } : Jvm.MethodName)) ∈ xs_U := xs_mk (xs_t2 191 rfl) rfl
theorem hw_432 : (Jvm.Cond.selects "WideNet$Session" ({ cls := "WideNet$Session", name := "finish", desc := "(LWideNet$Frame;IIJI)V" } : Jvm.MethodName) ({ cls := "WideNet$Session", name := "finish", desc := "(LWideNet$Frame;IIJI)V" } : Jvm.MethodName)) ∈ xs_U := xs_mk (xs_t2 192 rfl) rfl
theorem hw_433 : (Jvm.Cond.code ({ cls := "WideNet$Session", name := "finish", desc := "(LWideNet$Frame;IIJI)V" } : Jvm.MethodName) prog_10_method_4_code (10 : Nat) (Option.none : Option Jvm.ClassFile.FieldType)) ∈ xs_U := xs_mk (xs_t2 193 rfl) rfl
theorem hw_434 : (Jvm.Cond.methodLink "WideNet$Session" (54 : Nat) ({ cls := "WideNet$Session", name := "stream", desc := "(II)J" } : Jvm.MethodName)) ∈ xs_U := xs_mk (xs_t2 194 rfl) rfl
theorem hw_436 : (Jvm.Cond.instanceMethod ({ cls := "WideNet$Session", name := "stream", desc := "(II)J" } : Jvm.MethodName)) ∈ xs_U := xs_mk (xs_t2 196 rfl) rfl
theorem hw_437 : (Jvm.Cond.code ({ cls := "WideNet$Session", name := "stream", desc := "(II)J" } : Jvm.MethodName) prog_10_method_10_code (5 : Nat) (Option.some Jvm.ClassFile.FieldType.long)) ∈ xs_U := xs_mk (xs_t2 197 rfl) rfl
theorem hw_438 : (Jvm.Cond.methodLink "WideNet$Session" (100 : Nat) ({ cls := "WideNet$Session", name := "layFirstBlock", desc := "(IIII)V" } : Jvm.MethodName)) ∈ xs_U := xs_mk (xs_t2 198 rfl) rfl
theorem hw_440 : (Jvm.Cond.instanceMethod ({ cls := "WideNet$Session", name := "layFirstBlock", desc := "(IIII)V" } : Jvm.MethodName)) ∈ xs_U := xs_mk (xs_t2 200 rfl) rfl
theorem hw_441 : (Jvm.Cond.code ({ cls := "WideNet$Session", name := "layFirstBlock", desc := "(IIII)V" } : Jvm.MethodName) prog_10_method_9_code (5 : Nat) (Option.none : Option Jvm.ClassFile.FieldType)) ∈ xs_U := xs_mk (xs_t2 201 rfl) rfl
theorem hw_442 : (Jvm.Cond.methodLink "WideNet$Session" (87 : Nat) ({ cls := "java/util/Arrays", name := "fill", desc := "([II)V" } : Jvm.MethodName)) ∈ xs_U := xs_mk (xs_t2 202 rfl) rfl
theorem hn_443 : (Jvm.Cond.methodLinkNest "WideNet$Session" (93 : Nat) ({ cls := "WideNet", name := "putNumber", desc := "([IIII)V" } : Jvm.MethodName) "WideNet") ∈ lw_tbl := xs_t2 203 rfl
theorem hw_444 : (Jvm.Cond.methodLink "WideNet$Session" (97 : Nat) ({ cls := "WideNet$Cipher", name := "encipher", desc := "([II)V" } : Jvm.MethodName)) ∈ xs_U := xs_mk (xs_t2 204 rfl) rfl
theorem hn_445 : (Jvm.Cond.methodLinkNest "WideNet$Session" (72 : Nat) ({ cls := "WideNet", name := "number", desc := "([III)I" } : Jvm.MethodName) "WideNet") ∈ lw_tbl := xs_t2 205 rfl
theorem hw_446 : (Jvm.Cond.constantLong "WideNet$Session" (110 : Nat) (4294967295 : Int64)) ∈ xs_U := xs_mk (xs_t2 206 rfl) rfl
theorem hw_447 : (Jvm.Cond.methodLink "WideNet$Session" (61 : Nat) ({ cls := "WideNet$Session", name := "layRow", desc := "(LWideNet$Frame;III)V" } : Jvm.MethodName)) ∈ xs_U := xs_mk (xs_t2 207 rfl) rfl
theorem hw_449 : (Jvm.Cond.instanceMethod ({ cls := "WideNet$Session", name := "layRow", desc := "(LWideNet$Frame;III)V" } : Jvm.MethodName)) ∈ xs_U := xs_mk (xs_t2 209 rfl) rfl
theorem hw_450 : (Jvm.Cond.code ({ cls := "WideNet$Session", name := "layRow", desc := "(LWideNet$Frame;III)V" } : Jvm.MethodName) prog_10_method_8_code (5 : Nat) (Option.none : Option Jvm.ClassFile.FieldType)) ∈ xs_U := xs_mk (xs_t2 210 rfl) rfl
theorem hw_451 : (Jvm.Cond.methodLink "WideNet$Session" (104 : Nat) ({ cls := "java/lang/System", name := "arraycopy", desc := "(Ljava/lang/Object;ILjava/lang/Object;II)V" } : Jvm.MethodName)) ∈ xs_U := xs_mk (xs_t2 211 rfl) rfl
theorem hw_452 : (Jvm.Cond.methodLink "WideNet$Session" (65 : Nat) ({ cls := "WideNet$Mac", name := "codeOf", desc := "([II)I" } : Jvm.MethodName)) ∈ xs_U := xs_mk (xs_t2 212 rfl) rfl
theorem hw_453 : (Jvm.Cond.methodLink "WideNetLaw" (33 : Nat) ({ cls := "WideNet", name := "skip", desc := "(II)I" } : Jvm.MethodName)) ∈ xs_U := xs_mk (xs_t2 213 rfl) rfl
theorem hw_454 : (Jvm.Cond.instanceMethod ({ cls := "WideNet", name := "skip", desc := "(II)I" } : Jvm.MethodName)) ∈ xs_U := xs_mk (xs_t2 214 rfl) rfl
theorem hw_455 : (Jvm.Cond.selects "WideNet" ({ cls := "WideNet", name := "skip", desc := "(II)I" } : Jvm.MethodName) ({ cls := "WideNet", name := "skip", desc := "(II)I" } : Jvm.MethodName)) ∈ xs_U := xs_mk (xs_t2 215 rfl) rfl
theorem hw_456 : (Jvm.Cond.code ({ cls := "WideNet", name := "skip", desc := "(II)I" } : Jvm.MethodName) prog_1_method_4_code (3 : Nat) (Option.some Jvm.ClassFile.FieldType.int)) ∈ xs_U := xs_mk (xs_t2 216 rfl) rfl
theorem hw_457 : (Jvm.Cond.constant "WideNet" (75 : Nat) (70000 : Int32)) ∈ xs_U := xs_mk (xs_t2 217 rfl) rfl
theorem hw_458 : (Jvm.Cond.methodLink "WideNetLaw" (38 : Nat) ({ cls := "WideNet", name := "queue", desc := "(IJI)I" } : Jvm.MethodName)) ∈ xs_U := xs_mk (xs_t2 218 rfl) rfl
theorem hw_459 : (Jvm.Cond.instanceMethod ({ cls := "WideNet", name := "queue", desc := "(IJI)I" } : Jvm.MethodName)) ∈ xs_U := xs_mk (xs_t2 219 rfl) rfl
theorem hw_460 : (Jvm.Cond.selects "WideNet" ({ cls := "WideNet", name := "queue", desc := "(IJI)I" } : Jvm.MethodName) ({ cls := "WideNet", name := "queue", desc := "(IJI)I" } : Jvm.MethodName)) ∈ xs_U := xs_mk (xs_t2 220 rfl) rfl
theorem hw_461 : (Jvm.Cond.code ({ cls := "WideNet", name := "queue", desc := "(IJI)I" } : Jvm.MethodName) prog_1_method_5_code (5 : Nat) (Option.some Jvm.ClassFile.FieldType.int)) ∈ xs_U := xs_mk (xs_t2 221 rfl) rfl
theorem hw_462 : (Jvm.Cond.methodLink "WideNet" (80 : Nat) ({ cls := "WideNet$Account", name := "enqueue", desc := "(JI)I" } : Jvm.MethodName)) ∈ xs_U := xs_mk (xs_t2 222 rfl) rfl
theorem hw_463 : (Jvm.Cond.instanceMethod ({ cls := "WideNet$Account", name := "enqueue", desc := "(JI)I" } : Jvm.MethodName)) ∈ xs_U := xs_mk (xs_t2 223 rfl) rfl
theorem hw_464 : (Jvm.Cond.selects "WideNet$Account" ({ cls := "WideNet$Account", name := "enqueue", desc := "(JI)I" } : Jvm.MethodName) ({ cls := "WideNet$Account", name := "enqueue", desc := "(JI)I" } : Jvm.MethodName)) ∈ xs_U := xs_mk (xs_t2 224 rfl) rfl
theorem hw_465 : (Jvm.Cond.code ({ cls := "WideNet$Account", name := "enqueue", desc := "(JI)I" } : Jvm.MethodName) prog_2_method_2_code (4 : Nat) (Option.some Jvm.ClassFile.FieldType.int)) ∈ xs_U := xs_mk (xs_t2 225 rfl) rfl
theorem hw_466 : (Jvm.Cond.methodLink "WideNetLaw" (43 : Nat) ({ cls := "WideNet", name := "tick", desc := "(I)I" } : Jvm.MethodName)) ∈ xs_U := xs_mk (xs_t2 226 rfl) rfl
theorem hw_467 : (Jvm.Cond.instanceMethod ({ cls := "WideNet", name := "tick", desc := "(I)I" } : Jvm.MethodName)) ∈ xs_U := xs_mk (xs_t2 227 rfl) rfl
theorem hw_468 : (Jvm.Cond.selects "WideNet" ({ cls := "WideNet", name := "tick", desc := "(I)I" } : Jvm.MethodName) ({ cls := "WideNet", name := "tick", desc := "(I)I" } : Jvm.MethodName)) ∈ xs_U := xs_mk (xs_t2 228 rfl) rfl
theorem hw_469 : (Jvm.Cond.code ({ cls := "WideNet", name := "tick", desc := "(I)I" } : Jvm.MethodName) prog_1_method_6_code (4 : Nat) (Option.some Jvm.ClassFile.FieldType.int)) ∈ xs_U := xs_mk (xs_t2 229 rfl) rfl
theorem hw_470 : (Jvm.Cond.methodLink "WideNet" (86 : Nat) ({ cls := "WideNet$Server", name := "sendWhatIsDue", desc := "(LWideNet$Air;)V" } : Jvm.MethodName)) ∈ xs_U := xs_mk (xs_t2 230 rfl) rfl
theorem hw_471 : (Jvm.Cond.instanceMethod ({ cls := "WideNet$Server", name := "sendWhatIsDue", desc := "(LWideNet$Air;)V" } : Jvm.MethodName)) ∈ xs_U := xs_mk (xs_t2 231 rfl) rfl
theorem hw_472 : (Jvm.Cond.selects "WideNet$Server" ({ cls := "WideNet$Server", name := "sendWhatIsDue", desc := "(LWideNet$Air;)V" } : Jvm.MethodName) ({ cls := "WideNet$Server", name := "sendWhatIsDue", desc := "(LWideNet$Air;)V" } : Jvm.MethodName)) ∈ xs_U := xs_mk (xs_t2 232 rfl) rfl
theorem hw_473 : (Jvm.Cond.code ({ cls := "WideNet$Server", name := "sendWhatIsDue", desc := "(LWideNet$Air;)V" } : Jvm.MethodName) prog_9_method_4_code (4 : Nat) (Option.none : Option Jvm.ClassFile.FieldType)) ∈ xs_U := xs_mk (xs_t2 233 rfl) rfl
theorem hw_474 : (Jvm.Cond.methodLink "WideNet$Server" (78 : Nat) ({ cls := "WideNet$Account", name := "writeAccept", desc := "(LWideNet$Frame;)V" } : Jvm.MethodName)) ∈ xs_U := xs_mk (xs_t2 234 rfl) rfl
theorem hw_475 : (Jvm.Cond.instanceMethod ({ cls := "WideNet$Account", name := "writeAccept", desc := "(LWideNet$Frame;)V" } : Jvm.MethodName)) ∈ xs_U := xs_mk (xs_t2 235 rfl) rfl
theorem hw_476 : (Jvm.Cond.selects "WideNet$Account" ({ cls := "WideNet$Account", name := "writeAccept", desc := "(LWideNet$Frame;)V" } : Jvm.MethodName) ({ cls := "WideNet$Account", name := "writeAccept", desc := "(LWideNet$Frame;)V" } : Jvm.MethodName)) ∈ xs_U := xs_mk (xs_t2 236 rfl) rfl
theorem hw_477 : (Jvm.Cond.code ({ cls := "WideNet$Account", name := "writeAccept", desc := "(LWideNet$Frame;)V" } : Jvm.MethodName) prog_2_method_5_code (2 : Nat) (Option.none : Option Jvm.ClassFile.FieldType)) ∈ xs_U := xs_mk (xs_t2 237 rfl) rfl
theorem hw_478 : (Jvm.Cond.methodLink "WideNet$Account" (127 : Nat) ({ cls := "WideNet$Frame", name := "begin", desc := "(II)V" } : Jvm.MethodName)) ∈ xs_U := xs_mk (xs_t2 238 rfl) rfl
theorem hw_479 : (Jvm.Cond.methodLink "WideNet$Account" (131 : Nat) ({ cls := "WideNet$Frame", name := "append", desc := "(II)V" } : Jvm.MethodName)) ∈ xs_U := xs_mk (xs_t2 239 rfl) rfl
theorem hw_480 : (Jvm.Cond.methodLink "WideNet$Account" (140 : Nat) ({ cls := "WideNet$Mac", name := "codeOf", desc := "([II)I" } : Jvm.MethodName)) ∈ xs_U := xs_mk (xs_t3 0 rfl) rfl
theorem hw_481 : (Jvm.Cond.methodLink "WideNet$Account" (144 : Nat) ({ cls := "WideNet$Cipher", name := "decipher", desc := "([II)V" } : Jvm.MethodName)) ∈ xs_U := xs_mk (xs_t3 1 rfl) rfl
theorem hw_482 : (Jvm.Cond.instanceMethod ({ cls := "WideNet$Cipher", name := "decipher", desc := "([II)V" } : Jvm.MethodName)) ∈ xs_U := xs_mk (xs_t3 2 rfl) rfl
theorem hw_483 : (Jvm.Cond.selects "WideNet$Cipher" ({ cls := "WideNet$Cipher", name := "decipher", desc := "([II)V" } : Jvm.MethodName) ({ cls := "WideNet$Cipher", name := "decipher", desc := "([II)V" } : Jvm.MethodName)) ∈ xs_U := xs_mk (xs_t3 3 rfl) rfl
theorem hw_484 : (Jvm.Cond.code ({ cls := "WideNet$Cipher", name := "decipher", desc := "([II)V" } : Jvm.MethodName) prog_4_method_4_code (14 : Nat) (Option.none : Option Jvm.ClassFile.FieldType)) ∈ xs_U := xs_mk (xs_t3 4 rfl) rfl
theorem hw_485 : (Jvm.Cond.fieldLink "WideNet$Cipher" (38 : Nat) "WideNet$Cipher" "ORIGINALS" "[I") ∈ xs_U := xs_mk (xs_t3 5 rfl) rfl
theorem hn_486 : (Jvm.Cond.laysStatic "WideNet$Cipher" "ORIGINALS" "[I") ∈ lw_tbl := xs_t3 6 rfl
theorem hw_487 : (Jvm.Cond.methodLink "WideNet$Cipher" (41 : Nat) ({ cls := "WideNet$Cipher", name := "unmixed", desc := "(I)I" } : Jvm.MethodName)) ∈ xs_U := xs_mk (xs_t3 7 rfl) rfl
theorem hw_488 : (Jvm.Cond.static ({ cls := "WideNet$Cipher", name := "unmixed", desc := "(I)I" } : Jvm.MethodName)) ∈ xs_U := xs_mk (xs_t3 8 rfl) rfl
theorem hw_489 : (Jvm.Cond.code ({ cls := "WideNet$Cipher", name := "unmixed", desc := "(I)I" } : Jvm.MethodName) prog_4_method_8_code (3 : Nat) (Option.some Jvm.ClassFile.FieldType.int)) ∈ xs_U := xs_mk (xs_t3 9 rfl) rfl
theorem hw_490 : (Jvm.Cond.methodLink "WideNet$Server" (82 : Nat) ({ cls := "WideNet$Air", name := "transmit", desc := "(LWideNet$Frame;)V" } : Jvm.MethodName)) ∈ xs_U := xs_mk (xs_t3 10 rfl) rfl
theorem hw_491 : (Jvm.Cond.methodLink "WideNet$Server" (87 : Nat) ({ cls := "WideNet$Account", name := "writeAnswer", desc := "(LWideNet$Frame;)V" } : Jvm.MethodName)) ∈ xs_U := xs_mk (xs_t3 11 rfl) rfl
theorem hw_492 : (Jvm.Cond.instanceMethod ({ cls := "WideNet$Account", name := "writeAnswer", desc := "(LWideNet$Frame;)V" } : Jvm.MethodName)) ∈ xs_U := xs_mk (xs_t3 12 rfl) rfl
theorem hw_493 : (Jvm.Cond.selects "WideNet$Account" ({ cls := "WideNet$Account", name := "writeAnswer", desc := "(LWideNet$Frame;)V" } : Jvm.MethodName) ({ cls := "WideNet$Account", name := "writeAnswer", desc := "(LWideNet$Frame;)V" } : Jvm.MethodName)) ∈ xs_U := xs_mk (xs_t3 13 rfl) rfl
theorem hw_494 : (Jvm.Cond.code ({ cls := "WideNet$Account", name := "writeAnswer", desc := "(LWideNet$Frame;)V" } : Jvm.MethodName) prog_2_method_6_code (3 : Nat) (Option.none : Option Jvm.ClassFile.FieldType)) ∈ xs_U := xs_mk (xs_t3 14 rfl) rfl
theorem hw_495 : (Jvm.Cond.methodLink "WideNet$Account" (150 : Nat) ({ cls := "WideNet$Session", name := "begin", desc := "(LWideNet$Frame;IIII)V" } : Jvm.MethodName)) ∈ xs_U := xs_mk (xs_t3 15 rfl) rfl
theorem hw_496 : (Jvm.Cond.methodLink "WideNet$Account" (153 : Nat) ({ cls := "java/lang/Integer", name := "bitCount", desc := "(I)I" } : Jvm.MethodName)) ∈ xs_U := xs_mk (xs_t3 16 rfl) rfl
theorem hw_497 : (Jvm.Cond.static ({ cls := "java/lang/Integer", name := "bitCount", desc := "(I)I" } : Jvm.MethodName)) ∈ xs_U := xs_mk (xs_t3 17 rfl) rfl
theorem hw_498 : (Jvm.Cond.code ({ cls := "java/lang/Integer", name := "bitCount", desc := "(I)I" } : Jvm.MethodName) prog_13_method_49_code (1 : Nat) (Option.some Jvm.ClassFile.FieldType.int)) ∈ xs_U := xs_mk (xs_t3 18 rfl) rfl
theorem hw_499 : (Jvm.Cond.constant "java/lang/Integer" (265 : Nat) (1431655765 : Int32)) ∈ xs_U := xs_mk (xs_t3 19 rfl) rfl
theorem hw_500 : (Jvm.Cond.constant "java/lang/Integer" (266 : Nat) (858993459 : Int32)) ∈ xs_U := xs_mk (xs_t3 20 rfl) rfl
theorem hw_501 : (Jvm.Cond.constant "java/lang/Integer" (267 : Nat) (252645135 : Int32)) ∈ xs_U := xs_mk (xs_t3 21 rfl) rfl
theorem hw_502 : (Jvm.Cond.methodLink "WideNet$Account" (158 : Nat) ({ cls := "WideNet$Session", name := "finish", desc := "(LWideNet$Frame;IIJI)V" } : Jvm.MethodName)) ∈ xs_U := xs_mk (xs_t3 22 rfl) rfl
theorem hw_503 : (Jvm.Cond.methodLink "WideNet$Account" (162 : Nat) ({ cls := "WideNet$Account", name := "dequeue", desc := "()V" } : Jvm.MethodName)) ∈ xs_U := xs_mk (xs_t3 23 rfl) rfl
theorem hw_505 : (Jvm.Cond.instanceMethod ({ cls := "WideNet$Account", name := "dequeue", desc := "()V" } : Jvm.MethodName)) ∈ xs_U := xs_mk (xs_t3 25 rfl) rfl
theorem hw_506 : (Jvm.Cond.code ({ cls := "WideNet$Account", name := "dequeue", desc := "()V" } : Jvm.MethodName) prog_2_method_8_code (2 : Nat) (Option.none : Option Jvm.ClassFile.FieldType)) ∈ xs_U := xs_mk (xs_t3 26 rfl) rfl
theorem hw_507 : (Jvm.Cond.methodLink "WideNet$Server" (90 : Nat) ({ cls := "WideNet$Account", name := "setDue", desc := "(IZZ)V" } : Jvm.MethodName)) ∈ xs_U := xs_mk (xs_t3 27 rfl) rfl
theorem hw_508 : (Jvm.Cond.instanceMethod ({ cls := "WideNet$Account", name := "setDue", desc := "(IZZ)V" } : Jvm.MethodName)) ∈ xs_U := xs_mk (xs_t3 28 rfl) rfl
theorem hw_509 : (Jvm.Cond.selects "WideNet$Account" ({ cls := "WideNet$Account", name := "setDue", desc := "(IZZ)V" } : Jvm.MethodName) ({ cls := "WideNet$Account", name := "setDue", desc := "(IZZ)V" } : Jvm.MethodName)) ∈ xs_U := xs_mk (xs_t3 29 rfl) rfl
theorem hw_510 : (Jvm.Cond.code ({ cls := "WideNet$Account", name := "setDue", desc := "(IZZ)V" } : Jvm.MethodName) prog_2_method_7_code (4 : Nat) (Option.none : Option Jvm.ClassFile.FieldType)) ∈ xs_U := xs_mk (xs_t3 30 rfl) rfl
theorem hw_511 : (Jvm.Cond.methodLink "WideNet" (90 : Nat) ({ cls := "WideNet$Device", name := "endWaiting", desc := "(LWideNet$Air;I)V" } : Jvm.MethodName)) ∈ xs_U := xs_mk (xs_t3 31 rfl) rfl
theorem hw_512 : (Jvm.Cond.instanceMethod ({ cls := "WideNet$Device", name := "endWaiting", desc := "(LWideNet$Air;I)V" } : Jvm.MethodName)) ∈ xs_U := xs_mk (xs_t3 32 rfl) rfl
theorem hw_513 : (Jvm.Cond.selects "WideNet$Device" ({ cls := "WideNet$Device", name := "endWaiting", desc := "(LWideNet$Air;I)V" } : Jvm.MethodName) ({ cls := "WideNet$Device", name := "endWaiting", desc := "(LWideNet$Air;I)V" } : Jvm.MethodName)) ∈ xs_U := xs_mk (xs_t3 33 rfl) rfl
theorem hw_514 : (Jvm.Cond.code ({ cls := "WideNet$Device", name := "endWaiting", desc := "(LWideNet$Air;I)V" } : Jvm.MethodName) prog_5_method_6_code (3 : Nat) (Option.none : Option Jvm.ClassFile.FieldType)) ∈ xs_U := xs_mk (xs_t3 34 rfl) rfl
theorem hw_515 : (Jvm.Cond.methodLink "WideNet$Device" (117 : Nat) ({ cls := "WideNet$Device", name := "transmit", desc := "(LWideNet$Air;I)V" } : Jvm.MethodName)) ∈ xs_U := xs_mk (xs_t3 35 rfl) rfl
theorem hw_516 : (Jvm.Cond.methodLink "WideNetLaw" (47 : Nat) ({ cls := "WideNet", name := "hear", desc := "(II)Z" } : Jvm.MethodName)) ∈ xs_U := xs_mk (xs_t3 36 rfl) rfl
theorem hw_517 : (Jvm.Cond.instanceMethod ({ cls := "WideNet", name := "hear", desc := "(II)Z" } : Jvm.MethodName)) ∈ xs_U := xs_mk (xs_t3 37 rfl) rfl
theorem hw_518 : (Jvm.Cond.selects "WideNet" ({ cls := "WideNet", name := "hear", desc := "(II)Z" } : Jvm.MethodName) ({ cls := "WideNet", name := "hear", desc := "(II)Z" } : Jvm.MethodName)) ∈ xs_U := xs_mk (xs_t3 38 rfl) rfl
theorem hw_519 : (Jvm.Cond.code ({ cls := "WideNet", name := "hear", desc := "(II)Z" } : Jvm.MethodName) prog_1_method_7_code (4 : Nat) (Option.some Jvm.ClassFile.FieldType.boolean)) ∈ xs_U := xs_mk (xs_t3 39 rfl) rfl
theorem hw_520 : (Jvm.Cond.methodLink "WideNet" (93 : Nat) ({ cls := "WideNet$Air", name := "holds", desc := "(I)Z" } : Jvm.MethodName)) ∈ xs_U := xs_mk (xs_t3 40 rfl) rfl
theorem hw_521 : (Jvm.Cond.instanceMethod ({ cls := "WideNet$Air", name := "holds", desc := "(I)Z" } : Jvm.MethodName)) ∈ xs_U := xs_mk (xs_t3 41 rfl) rfl
theorem hw_522 : (Jvm.Cond.selects "WideNet$Air" ({ cls := "WideNet$Air", name := "holds", desc := "(I)Z" } : Jvm.MethodName) ({ cls := "WideNet$Air", name := "holds", desc := "(I)Z" } : Jvm.MethodName)) ∈ xs_U := xs_mk (xs_t3 42 rfl) rfl
theorem hw_523 : (Jvm.Cond.code ({ cls := "WideNet$Air", name := "holds", desc := "(I)Z" } : Jvm.MethodName) prog_3_method_2_code (2 : Nat) (Option.some Jvm.ClassFile.FieldType.boolean)) ∈ xs_U := xs_mk (xs_t3 43 rfl) rfl
theorem hw_524 : (Jvm.Cond.methodLink "WideNet" (105 : Nat) ({ cls := "WideNet$Frame", name := "hasJoinForm", desc := "()Z" } : Jvm.MethodName)) ∈ xs_U := xs_mk (xs_t3 44 rfl) rfl
theorem hw_525 : (Jvm.Cond.instanceMethod ({ cls := "WideNet$Frame", name := "hasJoinForm", desc := "()Z" } : Jvm.MethodName)) ∈ xs_U := xs_mk (xs_t3 45 rfl) rfl
theorem hw_526 : (Jvm.Cond.selects "WideNet$Frame" ({ cls := "WideNet$Frame", name := "hasJoinForm", desc := "()Z" } : Jvm.MethodName) ({ cls := "WideNet$Frame", name := "hasJoinForm", desc := "()Z" } : Jvm.MethodName)) ∈ xs_U := xs_mk (xs_t3 46 rfl) rfl
theorem hw_527 : (Jvm.Cond.code ({ cls := "WideNet$Frame", name := "hasJoinForm", desc := "()Z" } : Jvm.MethodName) prog_6_method_7_code (2 : Nat) (Option.some Jvm.ClassFile.FieldType.boolean)) ∈ xs_U := xs_mk (xs_t3 47 rfl) rfl
theorem hw_528 : (Jvm.Cond.methodLink "WideNet" (108 : Nat) ({ cls := "WideNet$Server", name := "takeJoin", desc := "(LWideNet$Frame;)V" } : Jvm.MethodName)) ∈ xs_U := xs_mk (xs_t3 48 rfl) rfl
theorem hw_529 : (Jvm.Cond.instanceMethod ({ cls := "WideNet$Server", name := "takeJoin", desc := "(LWideNet$Frame;)V" } : Jvm.MethodName)) ∈ xs_U := xs_mk (xs_t3 49 rfl) rfl
theorem hw_530 : (Jvm.Cond.selects "WideNet$Server" ({ cls := "WideNet$Server", name := "takeJoin", desc := "(LWideNet$Frame;)V" } : Jvm.MethodName) ({ cls := "WideNet$Server", name := "takeJoin", desc := "(LWideNet$Frame;)V" } : Jvm.MethodName)) ∈ xs_U := xs_mk (xs_t3 50 rfl) rfl
theorem hw_531 : (Jvm.Cond.code ({ cls := "WideNet$Server", name := "takeJoin", desc := "(LWideNet$Frame;)V" } : Jvm.MethodName) prog_9_method_2_code (5 : Nat) (Option.none : Option Jvm.ClassFile.FieldType)) ∈ xs_U := xs_mk (xs_t3 51 rfl) rfl
theorem hn_532 : (Jvm.Cond.methodLinkNest "WideNet$Server" (35 : Nat) ({ cls := "WideNet", name := "number", desc := "([III)I" } : Jvm.MethodName) "WideNet") ∈ lw_tbl := xs_t3 52 rfl
theorem hw_533 : (Jvm.Cond.methodLink "WideNet$Server" (46 : Nat) ({ cls := "WideNet$Mac", name := "codeOf", desc := "([II)I" } : Jvm.MethodName)) ∈ xs_U := xs_mk (xs_t3 53 rfl) rfl
theorem hw_534 : (Jvm.Cond.methodLink "WideNet$Server" (52 : Nat) ({ cls := "WideNet$Account", name := "openSession", desc := "(II)V" } : Jvm.MethodName)) ∈ xs_U := xs_mk (xs_t3 54 rfl) rfl
theorem hw_535 : (Jvm.Cond.instanceMethod ({ cls := "WideNet$Account", name := "openSession", desc := "(II)V" } : Jvm.MethodName)) ∈ xs_U := xs_mk (xs_t3 55 rfl) rfl
theorem hw_536 : (Jvm.Cond.selects "WideNet$Account" ({ cls := "WideNet$Account", name := "openSession", desc := "(II)V" } : Jvm.MethodName) ({ cls := "WideNet$Account", name := "openSession", desc := "(II)V" } : Jvm.MethodName)) ∈ xs_U := xs_mk (xs_t3 56 rfl) rfl
theorem hw_537 : (Jvm.Cond.code ({ cls := "WideNet$Account", name := "openSession", desc := "(II)V" } : Jvm.MethodName) prog_2_method_3_code (4 : Nat) (Option.none : Option Jvm.ClassFile.FieldType)) ∈ xs_U := xs_mk (xs_t3 57 rfl) rfl
theorem hw_538 : (Jvm.Cond.constant "WideNet$Account" (72 : Nat) (637534208 : Int32)) ∈ xs_U := xs_mk (xs_t3 58 rfl) rfl
theorem hw_539 : (Jvm.Cond.methodLink "WideNet$Account" (79 : Nat) ({ cls := "WideNet$Session", name := "open", desc := "(LWideNet$Cipher;III)V" } : Jvm.MethodName)) ∈ xs_U := xs_mk (xs_t3 59 rfl) rfl
theorem hw_540 : (Jvm.Cond.instanceMethod ({ cls := "WideNet$Session", name := "open", desc := "(LWideNet$Cipher;III)V" } : Jvm.MethodName)) ∈ xs_U := xs_mk (xs_t3 60 rfl) rfl
theorem hw_541 : (Jvm.Cond.selects "WideNet$Session" ({ cls := "WideNet$Session", name := "open", desc := "(LWideNet$Cipher;III)V" } : Jvm.MethodName) ({ cls := "WideNet$Session", name := "open", desc := "(LWideNet$Cipher;III)V" } : Jvm.MethodName)) ∈ xs_U := xs_mk (xs_t3 61 rfl) rfl
theorem hw_542 : (Jvm.Cond.code ({ cls := "WideNet$Session", name := "open", desc := "(LWideNet$Cipher;III)V" } : Jvm.MethodName) prog_10_method_2_code (5 : Nat) (Option.none : Option Jvm.ClassFile.FieldType)) ∈ xs_U := xs_mk (xs_t3 62 rfl) rfl
theorem hw_543 : (Jvm.Cond.methodLink "WideNet$Session" (38 : Nat) ({ cls := "WideNet$Session", name := "deriveKey", desc := "(LWideNet$Cipher;III)V" } : Jvm.MethodName)) ∈ xs_U := xs_mk (xs_t3 63 rfl) rfl
theorem hw_545 : (Jvm.Cond.instanceMethod ({ cls := "WideNet$Session", name := "deriveKey", desc := "(LWideNet$Cipher;III)V" } : Jvm.MethodName)) ∈ xs_U := xs_mk (xs_t3 65 rfl) rfl
theorem hw_546 : (Jvm.Cond.code ({ cls := "WideNet$Session", name := "deriveKey", desc := "(LWideNet$Cipher;III)V" } : Jvm.MethodName) prog_10_method_7_code (5 : Nat) (Option.none : Option Jvm.ClassFile.FieldType)) ∈ xs_U := xs_mk (xs_t3 66 rfl) rfl
theorem hw_547 : (Jvm.Cond.methodLink "WideNet$Session" (42 : Nat) ({ cls := "WideNet$Mac", name := "takeKey", desc := "([I)V" } : Jvm.MethodName)) ∈ xs_U := xs_mk (xs_t3 67 rfl) rfl
theorem hw_548 : (Jvm.Cond.methodLink "WideNet$Session" (46 : Nat) ({ cls := "WideNet$Cipher", name := "takeKey", desc := "([I)V" } : Jvm.MethodName)) ∈ xs_U := xs_mk (xs_t3 68 rfl) rfl
theorem hw_549 : (Jvm.Cond.methodLink "WideNet$Account" (83 : Nat) ({ cls := "WideNet$Account", name := "setDue", desc := "(IZZ)V" } : Jvm.MethodName)) ∈ xs_U := xs_mk (xs_t3 69 rfl) rfl
theorem hw_550 : (Jvm.Cond.methodLink "WideNet" (112 : Nat) ({ cls := "WideNet$Frame", name := "hasDataForm", desc := "()Z" } : Jvm.MethodName)) ∈ xs_U := xs_mk (xs_t3 70 rfl) rfl
theorem hw_551 : (Jvm.Cond.instanceMethod ({ cls := "WideNet$Frame", name := "hasDataForm", desc := "()Z" } : Jvm.MethodName)) ∈ xs_U := xs_mk (xs_t3 71 rfl) rfl
theorem hw_552 : (Jvm.Cond.selects "WideNet$Frame" ({ cls := "WideNet$Frame", name := "hasDataForm", desc := "()Z" } : Jvm.MethodName) ({ cls := "WideNet$Frame", name := "hasDataForm", desc := "()Z" } : Jvm.MethodName)) ∈ xs_U := xs_mk (xs_t3 72 rfl) rfl
theorem hw_553 : (Jvm.Cond.code ({ cls := "WideNet$Frame", name := "hasDataForm", desc := "()Z" } : Jvm.MethodName) prog_6_method_9_code (3 : Nat) (Option.some Jvm.ClassFile.FieldType.boolean)) ∈ xs_U := xs_mk (xs_t3 73 rfl) rfl
theorem hw_554 : (Jvm.Cond.methodLink "WideNet$Frame" (36 : Nat) ({ cls := "WideNet$Frame", name := "optionCount", desc := "()I" } : Jvm.MethodName)) ∈ xs_U := xs_mk (xs_t3 74 rfl) rfl
theorem hw_555 : (Jvm.Cond.instanceMethod ({ cls := "WideNet$Frame", name := "optionCount", desc := "()I" } : Jvm.MethodName)) ∈ xs_U := xs_mk (xs_t3 75 rfl) rfl
theorem hw_556 : (Jvm.Cond.selects "WideNet$Frame" ({ cls := "WideNet$Frame", name := "optionCount", desc := "()I" } : Jvm.MethodName) ({ cls := "WideNet$Frame", name := "optionCount", desc := "()I" } : Jvm.MethodName)) ∈ xs_U := xs_mk (xs_t3 76 rfl) rfl
theorem hw_557 : (Jvm.Cond.code ({ cls := "WideNet$Frame", name := "optionCount", desc := "()I" } : Jvm.MethodName) prog_6_method_13_code (1 : Nat) (Option.some Jvm.ClassFile.FieldType.int)) ∈ xs_U := xs_mk (xs_t3 77 rfl) rfl
theorem hw_558 : (Jvm.Cond.methodLink "WideNet$Frame" (44 : Nat) ({ cls := "WideNet$Frame", name := "control", desc := "()I" } : Jvm.MethodName)) ∈ xs_U := xs_mk (xs_t3 78 rfl) rfl
theorem hw_559 : (Jvm.Cond.instanceMethod ({ cls := "WideNet$Frame", name := "control", desc := "()I" } : Jvm.MethodName)) ∈ xs_U := xs_mk (xs_t3 79 rfl) rfl
theorem hw_560 : (Jvm.Cond.selects "WideNet$Frame" ({ cls := "WideNet$Frame", name := "control", desc := "()I" } : Jvm.MethodName) ({ cls := "WideNet$Frame", name := "control", desc := "()I" } : Jvm.MethodName)) ∈ xs_U := xs_mk (xs_t3 80 rfl) rfl
theorem hw_561 : (Jvm.Cond.code ({ cls := "WideNet$Frame", name := "control", desc := "()I" } : Jvm.MethodName) prog_6_method_11_code (1 : Nat) (Option.some Jvm.ClassFile.FieldType.int)) ∈ xs_U := xs_mk (xs_t3 81 rfl) rfl
theorem hw_562 : (Jvm.Cond.methodLink "WideNet" (119 : Nat) ({ cls := "WideNet$Server", name := "takeData", desc := "(LWideNet$Frame;I)V" } : Jvm.MethodName)) ∈ xs_U := xs_mk (xs_t3 82 rfl) rfl
theorem hw_563 : (Jvm.Cond.instanceMethod ({ cls := "WideNet$Server", name := "takeData", desc := "(LWideNet$Frame;I)V" } : Jvm.MethodName)) ∈ xs_U := xs_mk (xs_t3 83 rfl) rfl
theorem hw_564 : (Jvm.Cond.selects "WideNet$Server" ({ cls := "WideNet$Server", name := "takeData", desc := "(LWideNet$Frame;I)V" } : Jvm.MethodName) ({ cls := "WideNet$Server", name := "takeData", desc := "(LWideNet$Frame;I)V" } : Jvm.MethodName)) ∈ xs_U := xs_mk (xs_t3 84 rfl) rfl
theorem hw_565 : (Jvm.Cond.code ({ cls := "WideNet$Server", name := "takeData", desc := "(LWideNet$Frame;I)V" } : Jvm.MethodName) prog_9_method_3_code (4 : Nat) (Option.none : Option Jvm.ClassFile.FieldType)) ∈ xs_U := xs_mk (xs_t3 85 rfl) rfl
theorem hw_566 : (Jvm.Cond.methodLink "WideNet$Server" (68 : Nat) ({ cls := "WideNet$Frame", name := "address", desc := "()I" } : Jvm.MethodName)) ∈ xs_U := xs_mk (xs_t3 86 rfl) rfl
theorem hw_567 : (Jvm.Cond.instanceMethod ({ cls := "WideNet$Frame", name := "address", desc := "()I" } : Jvm.MethodName)) ∈ xs_U := xs_mk (xs_t3 87 rfl) rfl
theorem hw_568 : (Jvm.Cond.selects "WideNet$Frame" ({ cls := "WideNet$Frame", name := "address", desc := "()I" } : Jvm.MethodName) ({ cls := "WideNet$Frame", name := "address", desc := "()I" } : Jvm.MethodName)) ∈ xs_U := xs_mk (xs_t3 88 rfl) rfl
theorem hw_569 : (Jvm.Cond.code ({ cls := "WideNet$Frame", name := "address", desc := "()I" } : Jvm.MethodName) prog_6_method_10_code (1 : Nat) (Option.some Jvm.ClassFile.FieldType.int)) ∈ xs_U := xs_mk (xs_t3 89 rfl) rfl
theorem hn_570 : (Jvm.Cond.methodLinkNest "WideNet$Frame" (40 : Nat) ({ cls := "WideNet", name := "number", desc := "([III)I" } : Jvm.MethodName) "WideNet") ∈ lw_tbl := xs_t3 90 rfl
theorem hw_571 : (Jvm.Cond.methodLink "WideNet$Server" (71 : Nat) ({ cls := "WideNet$Account", name := "takeData", desc := "(LWideNet$Frame;I)V" } : Jvm.MethodName)) ∈ xs_U := xs_mk (xs_t3 91 rfl) rfl
theorem hw_572 : (Jvm.Cond.instanceMethod ({ cls := "WideNet$Account", name := "takeData", desc := "(LWideNet$Frame;I)V" } : Jvm.MethodName)) ∈ xs_U := xs_mk (xs_t3 92 rfl) rfl
theorem hw_573 : (Jvm.Cond.selects "WideNet$Account" ({ cls := "WideNet$Account", name := "takeData", desc := "(LWideNet$Frame;I)V" } : Jvm.MethodName) ({ cls := "WideNet$Account", name := "takeData", desc := "(LWideNet$Frame;I)V" } : Jvm.MethodName)) ∈ xs_U := xs_mk (xs_t3 93 rfl) rfl
theorem hw_574 : (Jvm.Cond.code ({ cls := "WideNet$Account", name := "takeData", desc := "(LWideNet$Frame;I)V" } : Jvm.MethodName) prog_2_method_4_code (7 : Nat) (Option.none : Option Jvm.ClassFile.FieldType)) ∈ xs_U := xs_mk (xs_t3 94 rfl) rfl
theorem hw_575 : (Jvm.Cond.methodLink "WideNet$Account" (87 : Nat) ({ cls := "java/lang/Math", name := "max", desc := "(II)I" } : Jvm.MethodName)) ∈ xs_U := xs_mk (xs_t3 95 rfl) rfl
theorem hw_576 : (Jvm.Cond.static ({ cls := "java/lang/Math", name := "max", desc := "(II)I" } : Jvm.MethodName)) ∈ xs_U := xs_mk (xs_t3 96 rfl) rfl
theorem hw_577 : (Jvm.Cond.code ({ cls := "java/lang/Math", name := "max", desc := "(II)I" } : Jvm.MethodName) prog_14_method_65_code (2 : Nat) (Option.some Jvm.ClassFile.FieldType.int)) ∈ xs_U := xs_mk (xs_t3 97 rfl) rfl
theorem hw_578 : (Jvm.Cond.methodLink "WideNet$Account" (93 : Nat) ({ cls := "WideNet$Frame", name := "countEnd", desc := "()I" } : Jvm.MethodName)) ∈ xs_U := xs_mk (xs_t3 98 rfl) rfl
theorem hw_579 : (Jvm.Cond.instanceMethod ({ cls := "WideNet$Frame", name := "countEnd", desc := "()I" } : Jvm.MethodName)) ∈ xs_U := xs_mk (xs_t3 99 rfl) rfl
theorem hw_580 : (Jvm.Cond.selects "WideNet$Frame" ({ cls := "WideNet$Frame", name := "countEnd", desc := "()I" } : Jvm.MethodName) ({ cls := "WideNet$Frame", name := "countEnd", desc := "()I" } : Jvm.MethodName)) ∈ xs_U := xs_mk (xs_t3 100 rfl) rfl
theorem hw_581 : (Jvm.Cond.code ({ cls := "WideNet$Frame", name := "countEnd", desc := "()I" } : Jvm.MethodName) prog_6_method_12_code (1 : Nat) (Option.some Jvm.ClassFile.FieldType.int)) ∈ xs_U := xs_mk (xs_t3 101 rfl) rfl
theorem hn_582 : (Jvm.Cond.methodLinkNest "WideNet$Account" (99 : Nat) ({ cls := "WideNet", name := "countFrom", desc := "(II)I" } : Jvm.MethodName) "WideNet") ∈ lw_tbl := xs_t3 102 rfl
theorem hw_583 : (Jvm.Cond.static ({ cls := "WideNet", name := "countFrom", desc := "(II)I" } : Jvm.MethodName)) ∈ xs_U := xs_mk (xs_t3 103 rfl) rfl
theorem hw_584 : (Jvm.Cond.code ({ cls := "WideNet", name := "countFrom", desc := "(II)I" } : Jvm.MethodName) prog_1_method_24_code (2 : Nat) (Option.some Jvm.ClassFile.FieldType.int)) ∈ xs_U := xs_mk (xs_t3 104 rfl) rfl
theorem hw_585 : (Jvm.Cond.methodLink "WideNet$Account" (102 : Nat) ({ cls := "WideNet$Session", name := "isCodeRight", desc := "(LWideNet$Frame;II)Z" } : Jvm.MethodName)) ∈ xs_U := xs_mk (xs_t3 105 rfl) rfl
theorem hw_586 : (Jvm.Cond.instanceMethod ({ cls := "WideNet$Session", name := "isCodeRight", desc := "(LWideNet$Frame;II)Z" } : Jvm.MethodName)) ∈ xs_U := xs_mk (xs_t3 106 rfl) rfl
theorem hw_587 : (Jvm.Cond.selects "WideNet$Session" ({ cls := "WideNet$Session", name := "isCodeRight", desc := "(LWideNet$Frame;II)Z" } : Jvm.MethodName) ({ cls := "WideNet$Session", name := "isCodeRight", desc := "(LWideNet$Frame;II)Z" } : Jvm.MethodName)) ∈ xs_U := xs_mk (xs_t3 107 rfl) rfl
theorem hw_588 : (Jvm.Cond.code ({ cls := "WideNet$Session", name := "isCodeRight", desc := "(LWideNet$Frame;II)Z" } : Jvm.MethodName) prog_10_method_5_code (5 : Nat) (Option.some Jvm.ClassFile.FieldType.boolean)) ∈ xs_U := xs_mk (xs_t3 108 rfl) rfl
theorem hw_589 : (Jvm.Cond.methodLink "WideNet$Account" (109 : Nat) ({ cls := "WideNet$Frame", name := "payloadBytes", desc := "()I" } : Jvm.MethodName)) ∈ xs_U := xs_mk (xs_t3 109 rfl) rfl
theorem hw_590 : (Jvm.Cond.instanceMethod ({ cls := "WideNet$Frame", name := "payloadBytes", desc := "()I" } : Jvm.MethodName)) ∈ xs_U := xs_mk (xs_t3 110 rfl) rfl
theorem hw_591 : (Jvm.Cond.selects "WideNet$Frame" ({ cls := "WideNet$Frame", name := "payloadBytes", desc := "()I" } : Jvm.MethodName) ({ cls := "WideNet$Frame", name := "payloadBytes", desc := "()I" } : Jvm.MethodName)) ∈ xs_U := xs_mk (xs_t3 111 rfl) rfl
theorem hw_592 : (Jvm.Cond.code ({ cls := "WideNet$Frame", name := "payloadBytes", desc := "()I" } : Jvm.MethodName) prog_6_method_16_code (1 : Nat) (Option.some Jvm.ClassFile.FieldType.int)) ∈ xs_U := xs_mk (xs_t3 112 rfl) rfl
theorem hw_593 : (Jvm.Cond.methodLink "WideNet$Frame" (47 : Nat) ({ cls := "WideNet$Frame", name := "payloadStart", desc := "()I" } : Jvm.MethodName)) ∈ xs_U := xs_mk (xs_t3 113 rfl) rfl
theorem hw_594 : (Jvm.Cond.instanceMethod ({ cls := "WideNet$Frame", name := "payloadStart", desc := "()I" } : Jvm.MethodName)) ∈ xs_U := xs_mk (xs_t3 114 rfl) rfl
theorem hw_595 : (Jvm.Cond.selects "WideNet$Frame" ({ cls := "WideNet$Frame", name := "payloadStart", desc := "()I" } : Jvm.MethodName) ({ cls := "WideNet$Frame", name := "payloadStart", desc := "()I" } : Jvm.MethodName)) ∈ xs_U := xs_mk (xs_t3 115 rfl) rfl
theorem hw_596 : (Jvm.Cond.code ({ cls := "WideNet$Frame", name := "payloadStart", desc := "()I" } : Jvm.MethodName) prog_6_method_15_code (1 : Nat) (Option.some Jvm.ClassFile.FieldType.int)) ∈ xs_U := xs_mk (xs_t3 116 rfl) rfl
theorem hw_597 : (Jvm.Cond.methodLink "WideNet$Frame" (50 : Nat) ({ cls := "java/lang/Math", name := "max", desc := "(II)I" } : Jvm.MethodName)) ∈ xs_U := xs_mk (xs_t3 117 rfl) rfl
theorem hw_598 : (Jvm.Cond.methodLink "WideNet$Account" (112 : Nat) ({ cls := "WideNet$Session", name := "readPayload", desc := "(LWideNet$Frame;II)J" } : Jvm.MethodName)) ∈ xs_U := xs_mk (xs_t3 118 rfl) rfl
theorem hw_599 : (Jvm.Cond.instanceMethod ({ cls := "WideNet$Session", name := "readPayload", desc := "(LWideNet$Frame;II)J" } : Jvm.MethodName)) ∈ xs_U := xs_mk (xs_t3 119 rfl) rfl
theorem hw_600 : (Jvm.Cond.selects "WideNet$Session" ({ cls := "WideNet$Session", name := "readPayload", desc := "(LWideNet$Frame;II)J" } : Jvm.MethodName) ({ cls := "WideNet$Session", name := "readPayload", desc := "(LWideNet$Frame;II)J" } : Jvm.MethodName)) ∈ xs_U := xs_mk (xs_t3 120 rfl) rfl
theorem hw_601 : (Jvm.Cond.code ({ cls := "WideNet$Session", name := "readPayload", desc := "(LWideNet$Frame;II)J" } : Jvm.MethodName) prog_10_method_6_code (9 : Nat) (Option.some Jvm.ClassFile.FieldType.long)) ∈ xs_U := xs_mk (xs_t3 121 rfl) rfl
theorem hw_602 : (Jvm.Cond.methodLink "WideNet$Session" (76 : Nat) ({ cls := "WideNet$Frame", name := "payloadBytes", desc := "()I" } : Jvm.MethodName)) ∈ xs_U := xs_mk (xs_t3 122 rfl) rfl
theorem hw_603 : (Jvm.Cond.methodLink "WideNet$Session" (80 : Nat) ({ cls := "WideNet$Frame", name := "payloadStart", desc := "()I" } : Jvm.MethodName)) ∈ xs_U := xs_mk (xs_t3 123 rfl) rfl
theorem hn_604 : (Jvm.Cond.methodLinkNest "WideNet$Session" (83 : Nat) ({ cls := "WideNet", name := "lowest", desc := "(JI)J" } : Jvm.MethodName) "WideNet") ∈ lw_tbl := xs_t3 124 rfl
theorem hw_605 : (Jvm.Cond.static ({ cls := "WideNet", name := "lowest", desc := "(JI)J" } : Jvm.MethodName)) ∈ xs_U := xs_mk (xs_t3 125 rfl) rfl
theorem hw_606 : (Jvm.Cond.code ({ cls := "WideNet", name := "lowest", desc := "(JI)J" } : Jvm.MethodName) prog_1_method_25_code (3 : Nat) (Option.some Jvm.ClassFile.FieldType.long)) ∈ xs_U := xs_mk (xs_t3 126 rfl) rfl
theorem hw_607 : (Jvm.Cond.constantLong "WideNet" (154 : Nat) (-1 : Int64)) ∈ xs_U := xs_mk (xs_t3 127 rfl) rfl
theorem hw_608 : (Jvm.Cond.methodLink "WideNet$Account" (116 : Nat) ({ cls := "WideNet$Inbox", name := "add", desc := "(J)V" } : Jvm.MethodName)) ∈ xs_U := xs_mk (xs_t3 128 rfl) rfl
theorem hw_609 : (Jvm.Cond.instanceMethod ({ cls := "WideNet$Inbox", name := "add", desc := "(J)V" } : Jvm.MethodName)) ∈ xs_U := xs_mk (xs_t3 129 rfl) rfl
theorem hw_610 : (Jvm.Cond.selects "WideNet$Inbox" ({ cls := "WideNet$Inbox", name := "add", desc := "(J)V" } : Jvm.MethodName) ({ cls := "WideNet$Inbox", name := "add", desc := "(J)V" } : Jvm.MethodName)) ∈ xs_U := xs_mk (xs_t3 130 rfl) rfl
theorem hw_611 : (Jvm.Cond.code ({ cls := "WideNet$Inbox", name := "add", desc := "(J)V" } : Jvm.MethodName) prog_7_method_2_code (3 : Nat) (Option.none : Option Jvm.ClassFile.FieldType)) ∈ xs_U := xs_mk (xs_t3 131 rfl) rfl
theorem hw_612 : (Jvm.Cond.methodLink "WideNet$Account" (120 : Nat) ({ cls := "WideNet$Frame", name := "optionCount", desc := "()I" } : Jvm.MethodName)) ∈ xs_U := xs_mk (xs_t3 132 rfl) rfl
theorem hw_613 : (Jvm.Cond.methodLink "WideNet$Account" (123 : Nat) ({ cls := "WideNet$Frame", name := "option", desc := "(I)I" } : Jvm.MethodName)) ∈ xs_U := xs_mk (xs_t3 133 rfl) rfl
theorem hw_614 : (Jvm.Cond.instanceMethod ({ cls := "WideNet$Frame", name := "option", desc := "(I)I" } : Jvm.MethodName)) ∈ xs_U := xs_mk (xs_t3 134 rfl) rfl
theorem hw_615 : (Jvm.Cond.selects "WideNet$Frame" ({ cls := "WideNet$Frame", name := "option", desc := "(I)I" } : Jvm.MethodName) ({ cls := "WideNet$Frame", name := "option", desc := "(I)I" } : Jvm.MethodName)) ∈ xs_U := xs_mk (xs_t3 135 rfl) rfl
theorem hw_616 : (Jvm.Cond.code ({ cls := "WideNet$Frame", name := "option", desc := "(I)I" } : Jvm.MethodName) prog_6_method_14_code (2 : Nat) (Option.some Jvm.ClassFile.FieldType.int)) ∈ xs_U := xs_mk (xs_t3 136 rfl) rfl
theorem hw_617 : (Jvm.Cond.methodLink "WideNetLaw" (52 : Nat) ({ cls := "WideNet", name := "reach", desc := "(I)Z" } : Jvm.MethodName)) ∈ xs_U := xs_mk (xs_t3 137 rfl) rfl
theorem hw_618 : (Jvm.Cond.instanceMethod ({ cls := "WideNet", name := "reach", desc := "(I)Z" } : Jvm.MethodName)) ∈ xs_U := xs_mk (xs_t3 138 rfl) rfl
theorem hw_619 : (Jvm.Cond.selects "WideNet" ({ cls := "WideNet", name := "reach", desc := "(I)Z" } : Jvm.MethodName) ({ cls := "WideNet", name := "reach", desc := "(I)Z" } : Jvm.MethodName)) ∈ xs_U := xs_mk (xs_t3 139 rfl) rfl
theorem hw_620 : (Jvm.Cond.code ({ cls := "WideNet", name := "reach", desc := "(I)Z" } : Jvm.MethodName) prog_1_method_8_code (3 : Nat) (Option.some Jvm.ClassFile.FieldType.boolean)) ∈ xs_U := xs_mk (xs_t3 140 rfl) rfl
theorem hw_621 : (Jvm.Cond.methodLink "WideNet" (123 : Nat) ({ cls := "WideNet$Air", name := "takeOut", desc := "(I)LWideNet$Frame;" } : Jvm.MethodName)) ∈ xs_U := xs_mk (xs_t3 141 rfl) rfl
theorem hw_622 : (Jvm.Cond.instanceMethod ({ cls := "WideNet$Air", name := "takeOut", desc := "(I)LWideNet$Frame;" } : Jvm.MethodName)) ∈ xs_U := xs_mk (xs_t3 142 rfl) rfl
theorem hw_623 : (Jvm.Cond.selects "WideNet$Air" ({ cls := "WideNet$Air", name := "takeOut", desc := "(I)LWideNet$Frame;" } : Jvm.MethodName) ({ cls := "WideNet$Air", name := "takeOut", desc := "(I)LWideNet$Frame;" } : Jvm.MethodName)) ∈ xs_U := xs_mk (xs_t3 143 rfl) rfl
theorem hw_624 : (Jvm.Cond.code ({ cls := "WideNet$Air", name := "takeOut", desc := "(I)LWideNet$Frame;" } : Jvm.MethodName) prog_3_method_5_code (4 : Nat) (Option.some (Jvm.ClassFile.FieldType.object "WideNet$Frame"))) ∈ xs_U := xs_mk (xs_t3 144 rfl) rfl
theorem hw_625 : (Jvm.Cond.methodLink "WideNet" (127 : Nat) ({ cls := "WideNet$Device", name := "take", desc := "(LWideNet$Frame;I)V" } : Jvm.MethodName)) ∈ xs_U := xs_mk (xs_t3 145 rfl) rfl
theorem hw_626 : (Jvm.Cond.instanceMethod ({ cls := "WideNet$Device", name := "take", desc := "(LWideNet$Frame;I)V" } : Jvm.MethodName)) ∈ xs_U := xs_mk (xs_t3 146 rfl) rfl
theorem hw_627 : (Jvm.Cond.selects "WideNet$Device" ({ cls := "WideNet$Device", name := "take", desc := "(LWideNet$Frame;I)V" } : Jvm.MethodName) ({ cls := "WideNet$Device", name := "take", desc := "(LWideNet$Frame;I)V" } : Jvm.MethodName)) ∈ xs_U := xs_mk (xs_t3 147 rfl) rfl
theorem hw_628 : (Jvm.Cond.code ({ cls := "WideNet$Device", name := "take", desc := "(LWideNet$Frame;I)V" } : Jvm.MethodName) prog_5_method_7_code (3 : Nat) (Option.none : Option Jvm.ClassFile.FieldType)) ∈ xs_U := xs_mk (xs_t3 148 rfl) rfl
theorem hw_629 : (Jvm.Cond.methodLink "WideNet$Device" (120 : Nat) ({ cls := "WideNet$Frame", name := "hasAcceptForm", desc := "()Z" } : Jvm.MethodName)) ∈ xs_U := xs_mk (xs_t3 149 rfl) rfl
theorem hw_630 : (Jvm.Cond.instanceMethod ({ cls := "WideNet$Frame", name := "hasAcceptForm", desc := "()Z" } : Jvm.MethodName)) ∈ xs_U := xs_mk (xs_t3 150 rfl) rfl
theorem hw_631 : (Jvm.Cond.selects "WideNet$Frame" ({ cls := "WideNet$Frame", name := "hasAcceptForm", desc := "()Z" } : Jvm.MethodName) ({ cls := "WideNet$Frame", name := "hasAcceptForm", desc := "()Z" } : Jvm.MethodName)) ∈ xs_U := xs_mk (xs_t3 151 rfl) rfl
theorem hw_632 : (Jvm.Cond.code ({ cls := "WideNet$Frame", name := "hasAcceptForm", desc := "()Z" } : Jvm.MethodName) prog_6_method_8_code (1 : Nat) (Option.some Jvm.ClassFile.FieldType.boolean)) ∈ xs_U := xs_mk (xs_t3 152 rfl) rfl
theorem hw_633 : (Jvm.Cond.methodLink "WideNet$Device" (124 : Nat) ({ cls := "WideNet$Device", name := "takeAccept", desc := "(LWideNet$Frame;)V" } : Jvm.MethodName)) ∈ xs_U := xs_mk (xs_t3 153 rfl) rfl
theorem hw_635 : (Jvm.Cond.instanceMethod ({ cls := "WideNet$Device", name := "takeAccept", desc := "(LWideNet$Frame;)V" } : Jvm.MethodName)) ∈ xs_U := xs_mk (xs_t3 155 rfl) rfl
theorem hw_636 : (Jvm.Cond.code ({ cls := "WideNet$Device", name := "takeAccept", desc := "(LWideNet$Frame;)V" } : Jvm.MethodName) prog_5_method_8_code (3 : Nat) (Option.none : Option Jvm.ClassFile.FieldType)) ∈ xs_U := xs_mk (xs_t3 156 rfl) rfl
theorem hw_637 : (Jvm.Cond.methodLink "WideNet$Device" (133 : Nat) ({ cls := "WideNet$Frame", name := "copy", desc := "(LWideNet$Frame;)V" } : Jvm.MethodName)) ∈ xs_U := xs_mk (xs_t3 157 rfl) rfl
theorem hw_638 : (Jvm.Cond.methodLink "WideNet$Device" (140 : Nat) ({ cls := "WideNet$Cipher", name := "encipher", desc := "([II)V" } : Jvm.MethodName)) ∈ xs_U := xs_mk (xs_t3 158 rfl) rfl
theorem hn_639 : (Jvm.Cond.methodLinkNest "WideNet$Device" (146 : Nat) ({ cls := "WideNet", name := "number", desc := "([III)I" } : Jvm.MethodName) "WideNet") ∈ lw_tbl := xs_t3 159 rfl
theorem hw_640 : (Jvm.Cond.methodLink "WideNet$Device" (150 : Nat) ({ cls := "WideNet$Session", name := "open", desc := "(LWideNet$Cipher;III)V" } : Jvm.MethodName)) ∈ xs_U := xs_mk (xs_t3 160 rfl) rfl
theorem hw_641 : (Jvm.Cond.methodLink "WideNet$Device" (127 : Nat) ({ cls := "WideNet$Frame", name := "hasDataForm", desc := "()Z" } : Jvm.MethodName)) ∈ xs_U := xs_mk (xs_t3 161 rfl) rfl
theorem hw_642 : (Jvm.Cond.methodLink "WideNet$Device" (130 : Nat) ({ cls := "WideNet$Device", name := "takeData", desc := "(LWideNet$Frame;)V" } : Jvm.MethodName)) ∈ xs_U := xs_mk (xs_t3 162 rfl) rfl
theorem hw_644 : (Jvm.Cond.instanceMethod ({ cls := "WideNet$Device", name := "takeData", desc := "(LWideNet$Frame;)V" } : Jvm.MethodName)) ∈ xs_U := xs_mk (xs_t3 164 rfl) rfl
theorem hw_645 : (Jvm.Cond.code ({ cls := "WideNet$Device", name := "takeData", desc := "(LWideNet$Frame;)V" } : Jvm.MethodName) prog_5_method_9_code (4 : Nat) (Option.none : Option Jvm.ClassFile.FieldType)) ∈ xs_U := xs_mk (xs_t3 165 rfl) rfl
theorem hw_646 : (Jvm.Cond.methodLink "WideNet$Device" (154 : Nat) ({ cls := "WideNet$Frame", name := "countEnd", desc := "()I" } : Jvm.MethodName)) ∈ xs_U := xs_mk (xs_t3 166 rfl) rfl
theorem hn_647 : (Jvm.Cond.methodLinkNest "WideNet$Device" (158 : Nat) ({ cls := "WideNet", name := "countFrom", desc := "(II)I" } : Jvm.MethodName) "WideNet") ∈ lw_tbl := xs_t3 167 rfl
theorem hw_648 : (Jvm.Cond.methodLink "WideNet$Device" (162 : Nat) ({ cls := "WideNet$Frame", name := "address", desc := "()I" } : Jvm.MethodName)) ∈ xs_U := xs_mk (xs_t3 168 rfl) rfl
theorem hw_649 : (Jvm.Cond.methodLink "WideNet$Device" (167 : Nat) ({ cls := "WideNet$Session", name := "isCodeRight", desc := "(LWideNet$Frame;II)Z" } : Jvm.MethodName)) ∈ xs_U := xs_mk (xs_t3 169 rfl) rfl
theorem hw_650 : (Jvm.Cond.methodLink "WideNet$Device" (171 : Nat) ({ cls := "WideNet$Frame", name := "payloadBytes", desc := "()I" } : Jvm.MethodName)) ∈ xs_U := xs_mk (xs_t3 170 rfl) rfl
theorem hw_651 : (Jvm.Cond.methodLink "WideNet$Device" (174 : Nat) ({ cls := "WideNet$Session", name := "readPayload", desc := "(LWideNet$Frame;II)J" } : Jvm.MethodName)) ∈ xs_U := xs_mk (xs_t3 171 rfl) rfl
theorem hw_652 : (Jvm.Cond.methodLink "WideNet$Device" (178 : Nat) ({ cls := "WideNet$Inbox", name := "add", desc := "(J)V" } : Jvm.MethodName)) ∈ xs_U := xs_mk (xs_t3 172 rfl) rfl
theorem hw_653 : (Jvm.Cond.methodLink "WideNet$Device" (182 : Nat) ({ cls := "WideNet$Frame", name := "optionCount", desc := "()I" } : Jvm.MethodName)) ∈ xs_U := xs_mk (xs_t3 173 rfl) rfl
theorem hw_654 : (Jvm.Cond.methodLink "WideNet$Device" (185 : Nat) ({ cls := "WideNet$Frame", name := "option", desc := "(I)I" } : Jvm.MethodName)) ∈ xs_U := xs_mk (xs_t3 174 rfl) rfl
theorem hw_655 : (Jvm.Cond.methodLink "WideNet$Device" (189 : Nat) ({ cls := "WideNet$Frame", name := "control", desc := "()I" } : Jvm.MethodName)) ∈ xs_U := xs_mk (xs_t3 175 rfl) rfl
theorem hw_656 : (Jvm.Cond.methodLink "WideNetLaw" (57 : Nat) ({ cls := "WideNet", name := "lose", desc := "(I)Z" } : Jvm.MethodName)) ∈ xs_U := xs_mk (xs_t3 176 rfl) rfl
theorem hw_657 : (Jvm.Cond.instanceMethod ({ cls := "WideNet", name := "lose", desc := "(I)Z" } : Jvm.MethodName)) ∈ xs_U := xs_mk (xs_t3 177 rfl) rfl
theorem hw_658 : (Jvm.Cond.selects "WideNet" ({ cls := "WideNet", name := "lose", desc := "(I)Z" } : Jvm.MethodName) ({ cls := "WideNet", name := "lose", desc := "(I)Z" } : Jvm.MethodName)) ∈ xs_U := xs_mk (xs_t3 178 rfl) rfl
theorem hw_659 : (Jvm.Cond.code ({ cls := "WideNet", name := "lose", desc := "(I)Z" } : Jvm.MethodName) prog_1_method_9_code (2 : Nat) (Option.some Jvm.ClassFile.FieldType.boolean)) ∈ xs_U := xs_mk (xs_t3 179 rfl) rfl
theorem hw_660 : (Jvm.Cond.methodLink "WideNetLaw" (61 : Nat) ({ cls := "WideNet", name := "replay", desc := "(I)Z" } : Jvm.MethodName)) ∈ xs_U := xs_mk (xs_t3 180 rfl) rfl
theorem hw_661 : (Jvm.Cond.instanceMethod ({ cls := "WideNet", name := "replay", desc := "(I)Z" } : Jvm.MethodName)) ∈ xs_U := xs_mk (xs_t3 181 rfl) rfl
theorem hw_662 : (Jvm.Cond.selects "WideNet" ({ cls := "WideNet", name := "replay", desc := "(I)Z" } : Jvm.MethodName) ({ cls := "WideNet", name := "replay", desc := "(I)Z" } : Jvm.MethodName)) ∈ xs_U := xs_mk (xs_t3 182 rfl) rfl
theorem hw_663 : (Jvm.Cond.code ({ cls := "WideNet", name := "replay", desc := "(I)Z" } : Jvm.MethodName) prog_1_method_10_code (2 : Nat) (Option.some Jvm.ClassFile.FieldType.boolean)) ∈ xs_U := xs_mk (xs_t3 183 rfl) rfl
theorem hw_664 : (Jvm.Cond.methodLink "WideNet" (130 : Nat) ({ cls := "WideNet$Air", name := "repeat", desc := "(I)Z" } : Jvm.MethodName)) ∈ xs_U := xs_mk (xs_t3 184 rfl) rfl
theorem hw_665 : (Jvm.Cond.instanceMethod ({ cls := "WideNet$Air", name := "repeat", desc := "(I)Z" } : Jvm.MethodName)) ∈ xs_U := xs_mk (xs_t3 185 rfl) rfl
theorem hw_666 : (Jvm.Cond.selects "WideNet$Air" ({ cls := "WideNet$Air", name := "repeat", desc := "(I)Z" } : Jvm.MethodName) ({ cls := "WideNet$Air", name := "repeat", desc := "(I)Z" } : Jvm.MethodName)) ∈ xs_U := xs_mk (xs_t3 186 rfl) rfl
theorem hw_667 : (Jvm.Cond.code ({ cls := "WideNet$Air", name := "repeat", desc := "(I)Z" } : Jvm.MethodName) prog_3_method_4_code (2 : Nat) (Option.some Jvm.ClassFile.FieldType.boolean)) ∈ xs_U := xs_mk (xs_t3 187 rfl) rfl
theorem hw_668 : (Jvm.Cond.methodLink "WideNet$Air" (34 : Nat) ({ cls := "java/lang/Math", name := "min", desc := "(II)I" } : Jvm.MethodName)) ∈ xs_U := xs_mk (xs_t3 188 rfl) rfl
theorem hw_669 : (Jvm.Cond.static ({ cls := "java/lang/Math", name := "min", desc := "(II)I" } : Jvm.MethodName)) ∈ xs_U := xs_mk (xs_t3 189 rfl) rfl
theorem hw_670 : (Jvm.Cond.code ({ cls := "java/lang/Math", name := "min", desc := "(II)I" } : Jvm.MethodName) prog_14_method_69_code (2 : Nat) (Option.some Jvm.ClassFile.FieldType.int)) ∈ xs_U := xs_mk (xs_t3 190 rfl) rfl
theorem hw_671 : (Jvm.Cond.methodLink "WideNetLaw" (65 : Nat) ({ cls := "WideNet", name := "spoil", desc := "(III)Z" } : Jvm.MethodName)) ∈ xs_U := xs_mk (xs_t3 191 rfl) rfl
theorem hw_672 : (Jvm.Cond.instanceMethod ({ cls := "WideNet", name := "spoil", desc := "(III)Z" } : Jvm.MethodName)) ∈ xs_U := xs_mk (xs_t3 192 rfl) rfl
theorem hw_673 : (Jvm.Cond.selects "WideNet" ({ cls := "WideNet", name := "spoil", desc := "(III)Z" } : Jvm.MethodName) ({ cls := "WideNet", name := "spoil", desc := "(III)Z" } : Jvm.MethodName)) ∈ xs_U := xs_mk (xs_t3 193 rfl) rfl
theorem hw_674 : (Jvm.Cond.code ({ cls := "WideNet", name := "spoil", desc := "(III)Z" } : Jvm.MethodName) prog_1_method_11_code (4 : Nat) (Option.some Jvm.ClassFile.FieldType.boolean)) ∈ xs_U := xs_mk (xs_t3 194 rfl) rfl
theorem hw_675 : (Jvm.Cond.methodLink "WideNet" (133 : Nat) ({ cls := "WideNet$Frame", name := "holds", desc := "(I)Z" } : Jvm.MethodName)) ∈ xs_U := xs_mk (xs_t3 195 rfl) rfl
theorem hw_676 : (Jvm.Cond.instanceMethod ({ cls := "WideNet$Frame", name := "holds", desc := "(I)Z" } : Jvm.MethodName)) ∈ xs_U := xs_mk (xs_t3 196 rfl) rfl
theorem hw_677 : (Jvm.Cond.selects "WideNet$Frame" ({ cls := "WideNet$Frame", name := "holds", desc := "(I)Z" } : Jvm.MethodName) ({ cls := "WideNet$Frame", name := "holds", desc := "(I)Z" } : Jvm.MethodName)) ∈ xs_U := xs_mk (xs_t3 197 rfl) rfl
theorem hw_678 : (Jvm.Cond.code ({ cls := "WideNet$Frame", name := "holds", desc := "(I)Z" } : Jvm.MethodName) prog_6_method_6_code (2 : Nat) (Option.some Jvm.ClassFile.FieldType.boolean)) ∈ xs_U := xs_mk (xs_t3 198 rfl) rfl
theorem hw_679 : (Jvm.Cond.methodLink "WideNetLaw" (70 : Nat) ({ cls := "WideNet", name := "frames", desc := "()I" } : Jvm.MethodName)) ∈ xs_U := xs_mk (xs_t3 199 rfl) rfl
theorem hw_680 : (Jvm.Cond.instanceMethod ({ cls := "WideNet", name := "frames", desc := "()I" } : Jvm.MethodName)) ∈ xs_U := xs_mk (xs_t3 200 rfl) rfl
theorem hw_681 : (Jvm.Cond.selects "WideNet" ({ cls := "WideNet", name := "frames", desc := "()I" } : Jvm.MethodName) ({ cls := "WideNet", name := "frames", desc := "()I" } : Jvm.MethodName)) ∈ xs_U := xs_mk (xs_t3 201 rfl) rfl
theorem hw_682 : (Jvm.Cond.code ({ cls := "WideNet", name := "frames", desc := "()I" } : Jvm.MethodName) prog_1_method_12_code (1 : Nat) (Option.some Jvm.ClassFile.FieldType.int)) ∈ xs_U := xs_mk (xs_t3 202 rfl) rfl
theorem hw_683 : (Jvm.Cond.methodLink "WideNetLaw" (75 : Nat) ({ cls := "WideNet", name := "length", desc := "(I)I" } : Jvm.MethodName)) ∈ xs_U := xs_mk (xs_t3 203 rfl) rfl
theorem hw_684 : (Jvm.Cond.instanceMethod ({ cls := "WideNet", name := "length", desc := "(I)I" } : Jvm.MethodName)) ∈ xs_U := xs_mk (xs_t3 204 rfl) rfl
theorem hw_685 : (Jvm.Cond.selects "WideNet" ({ cls := "WideNet", name := "length", desc := "(I)I" } : Jvm.MethodName) ({ cls := "WideNet", name := "length", desc := "(I)I" } : Jvm.MethodName)) ∈ xs_U := xs_mk (xs_t3 205 rfl) rfl
theorem hw_686 : (Jvm.Cond.code ({ cls := "WideNet", name := "length", desc := "(I)I" } : Jvm.MethodName) prog_1_method_13_code (2 : Nat) (Option.some Jvm.ClassFile.FieldType.int)) ∈ xs_U := xs_mk (xs_t3 206 rfl) rfl
theorem hw_687 : (Jvm.Cond.methodLink "WideNetLaw" (79 : Nat) ({ cls := "WideNet", name := "octet", desc := "(II)I" } : Jvm.MethodName)) ∈ xs_U := xs_mk (xs_t3 207 rfl) rfl
theorem hw_688 : (Jvm.Cond.instanceMethod ({ cls := "WideNet", name := "octet", desc := "(II)I" } : Jvm.MethodName)) ∈ xs_U := xs_mk (xs_t3 208 rfl) rfl
theorem hw_689 : (Jvm.Cond.selects "WideNet" ({ cls := "WideNet", name := "octet", desc := "(II)I" } : Jvm.MethodName) ({ cls := "WideNet", name := "octet", desc := "(II)I" } : Jvm.MethodName)) ∈ xs_U := xs_mk (xs_t3 209 rfl) rfl
theorem hw_690 : (Jvm.Cond.code ({ cls := "WideNet", name := "octet", desc := "(II)I" } : Jvm.MethodName) prog_1_method_14_code (3 : Nat) (Option.some Jvm.ClassFile.FieldType.int)) ∈ xs_U := xs_mk (xs_t3 210 rfl) rfl
theorem hw_691 : (Jvm.Cond.methodLink "WideNetLaw" (83 : Nat) ({ cls := "WideNet", name := "goal", desc := "(I)I" } : Jvm.MethodName)) ∈ xs_U := xs_mk (xs_t3 211 rfl) rfl
theorem hw_692 : (Jvm.Cond.instanceMethod ({ cls := "WideNet", name := "goal", desc := "(I)I" } : Jvm.MethodName)) ∈ xs_U := xs_mk (xs_t3 212 rfl) rfl
theorem hw_693 : (Jvm.Cond.selects "WideNet" ({ cls := "WideNet", name := "goal", desc := "(I)I" } : Jvm.MethodName) ({ cls := "WideNet", name := "goal", desc := "(I)I" } : Jvm.MethodName)) ∈ xs_U := xs_mk (xs_t3 213 rfl) rfl
theorem hw_694 : (Jvm.Cond.code ({ cls := "WideNet", name := "goal", desc := "(I)I" } : Jvm.MethodName) prog_1_method_15_code (2 : Nat) (Option.some Jvm.ClassFile.FieldType.int)) ∈ xs_U := xs_mk (xs_t3 214 rfl) rfl
theorem hw_695 : (Jvm.Cond.methodLink "WideNetLaw" (87 : Nat) ({ cls := "WideNet", name := "state", desc := "(I)I" } : Jvm.MethodName)) ∈ xs_U := xs_mk (xs_t3 215 rfl) rfl
theorem hw_696 : (Jvm.Cond.instanceMethod ({ cls := "WideNet", name := "state", desc := "(I)I" } : Jvm.MethodName)) ∈ xs_U := xs_mk (xs_t3 216 rfl) rfl
theorem hw_697 : (Jvm.Cond.selects "WideNet" ({ cls := "WideNet", name := "state", desc := "(I)I" } : Jvm.MethodName) ({ cls := "WideNet", name := "state", desc := "(I)I" } : Jvm.MethodName)) ∈ xs_U := xs_mk (xs_t3 217 rfl) rfl
theorem hw_698 : (Jvm.Cond.code ({ cls := "WideNet", name := "state", desc := "(I)I" } : Jvm.MethodName) prog_1_method_16_code (2 : Nat) (Option.some Jvm.ClassFile.FieldType.int)) ∈ xs_U := xs_mk (xs_t3 218 rfl) rfl
theorem hw_699 : (Jvm.Cond.methodLink "WideNetLaw" (91 : Nat) ({ cls := "WideNet", name := "received", desc := "(IZ)I" } : Jvm.MethodName)) ∈ xs_U := xs_mk (xs_t3 219 rfl) rfl
theorem hw_700 : (Jvm.Cond.instanceMethod ({ cls := "WideNet", name := "received", desc := "(IZ)I" } : Jvm.MethodName)) ∈ xs_U := xs_mk (xs_t3 220 rfl) rfl
theorem hw_701 : (Jvm.Cond.selects "WideNet" ({ cls := "WideNet", name := "received", desc := "(IZ)I" } : Jvm.MethodName) ({ cls := "WideNet", name := "received", desc := "(IZ)I" } : Jvm.MethodName)) ∈ xs_U := xs_mk (xs_t3 221 rfl) rfl
theorem hw_702 : (Jvm.Cond.code ({ cls := "WideNet", name := "received", desc := "(IZ)I" } : Jvm.MethodName) prog_1_method_17_code (3 : Nat) (Option.some Jvm.ClassFile.FieldType.int)) ∈ xs_U := xs_mk (xs_t3 222 rfl) rfl
theorem hw_703 : (Jvm.Cond.methodLink "WideNet" (141 : Nat) ({ cls := "WideNet", name := "inbox", desc := "(IZ)LWideNet$Inbox;" } : Jvm.MethodName)) ∈ xs_U := xs_mk (xs_t3 223 rfl) rfl
theorem hw_705 : (Jvm.Cond.instanceMethod ({ cls := "WideNet", name := "inbox", desc := "(IZ)LWideNet$Inbox;" } : Jvm.MethodName)) ∈ xs_U := xs_mk (xs_t3 225 rfl) rfl
theorem hw_706 : (Jvm.Cond.code ({ cls := "WideNet", name := "inbox", desc := "(IZ)LWideNet$Inbox;" } : Jvm.MethodName) prog_1_method_21_code (3 : Nat) (Option.some (Jvm.ClassFile.FieldType.object "WideNet$Inbox"))) ∈ xs_U := xs_mk (xs_t3 226 rfl) rfl
theorem hw_707 : (Jvm.Cond.methodLink "WideNetLaw" (96 : Nat) ({ cls := "WideNet", name := "payload", desc := "(IZI)J" } : Jvm.MethodName)) ∈ xs_U := xs_mk (xs_t3 227 rfl) rfl
theorem hw_708 : (Jvm.Cond.instanceMethod ({ cls := "WideNet", name := "payload", desc := "(IZI)J" } : Jvm.MethodName)) ∈ xs_U := xs_mk (xs_t3 228 rfl) rfl
theorem hw_709 : (Jvm.Cond.selects "WideNet" ({ cls := "WideNet", name := "payload", desc := "(IZI)J" } : Jvm.MethodName) ({ cls := "WideNet", name := "payload", desc := "(IZI)J" } : Jvm.MethodName)) ∈ xs_U := xs_mk (xs_t3 229 rfl) rfl
theorem hw_710 : (Jvm.Cond.code ({ cls := "WideNet", name := "payload", desc := "(IZI)J" } : Jvm.MethodName) prog_1_method_18_code (4 : Nat) (Option.some Jvm.ClassFile.FieldType.long)) ∈ xs_U := xs_mk (xs_t3 230 rfl) rfl
theorem hw_711 : (Jvm.Cond.methodLink "WideNet" (150 : Nat) ({ cls := "WideNet$Inbox", name := "get", desc := "(I)J" } : Jvm.MethodName)) ∈ xs_U := xs_mk (xs_t3 231 rfl) rfl
theorem hw_712 : (Jvm.Cond.instanceMethod ({ cls := "WideNet$Inbox", name := "get", desc := "(I)J" } : Jvm.MethodName)) ∈ xs_U := xs_mk (xs_t3 232 rfl) rfl
theorem hw_713 : (Jvm.Cond.selects "WideNet$Inbox" ({ cls := "WideNet$Inbox", name := "get", desc := "(I)J" } : Jvm.MethodName) ({ cls := "WideNet$Inbox", name := "get", desc := "(I)J" } : Jvm.MethodName)) ∈ xs_U := xs_mk (xs_t3 233 rfl) rfl
theorem hw_714 : (Jvm.Cond.code ({ cls := "WideNet$Inbox", name := "get", desc := "(I)J" } : Jvm.MethodName) prog_7_method_3_code (2 : Nat) (Option.some Jvm.ClassFile.FieldType.long)) ∈ xs_U := xs_mk (xs_t3 234 rfl) rfl
theorem hw_715 : (Jvm.Cond.constantLong "WideNet$Inbox" (19 : Nat) (-1 : Int64)) ∈ xs_U := xs_mk (xs_t3 235 rfl) rfl
theorem hw_716 : (Jvm.Cond.methodLink "WideNetLaw" (101 : Nat) ({ cls := "WideNet", name := "tally", desc := "(II)I" } : Jvm.MethodName)) ∈ xs_U := xs_mk (xs_t3 236 rfl) rfl
theorem hw_717 : (Jvm.Cond.instanceMethod ({ cls := "WideNet", name := "tally", desc := "(II)I" } : Jvm.MethodName)) ∈ xs_U := xs_mk (xs_t3 237 rfl) rfl
theorem hw_718 : (Jvm.Cond.selects "WideNet" ({ cls := "WideNet", name := "tally", desc := "(II)I" } : Jvm.MethodName) ({ cls := "WideNet", name := "tally", desc := "(II)I" } : Jvm.MethodName)) ∈ xs_U := xs_mk (xs_t3 238 rfl) rfl
theorem hw_719 : (Jvm.Cond.code ({ cls := "WideNet", name := "tally", desc := "(II)I" } : Jvm.MethodName) prog_1_method_19_code (3 : Nat) (Option.some Jvm.ClassFile.FieldType.int)) ∈ xs_U := xs_mk (xs_t3 239 rfl) rfl
theorem hw_720 : (Jvm.Cond.methodLink "WideNetLaw" (9 : Nat) ({ cls := "WideNetLaw", name := "cell", desc := "([II)I" } : Jvm.MethodName)) ∈ xs_U := xs_mk (xs_t4 0 rfl) rfl
theorem hw_721 : (Jvm.Cond.static ({ cls := "WideNetLaw", name := "cell", desc := "([II)I" } : Jvm.MethodName)) ∈ xs_U := xs_mk (xs_t4 1 rfl) rfl
theorem hw_722 : (Jvm.Cond.code ({ cls := "WideNetLaw", name := "cell", desc := "([II)I" } : Jvm.MethodName) method_2_code (2 : Nat) (Option.some Jvm.ClassFile.FieldType.int)) ∈ xs_U := xs_mk (xs_t4 2 rfl) rfl
theorem hw_723 : (Jvm.Cond.classLink "WideNetLaw" (18 : Nat) "WideNetModel") ∈ xs_U := xs_mk (xs_t4 3 rfl) rfl
theorem hw_724 : (Jvm.Cond.instantiable "WideNetModel" (40 : Nat)) ∈ xs_U := xs_mk (xs_t4 4 rfl) rfl
theorem hw_725 : (Jvm.Cond.methodLink "WideNetLaw" (20 : Nat) ({ cls := "WideNetModel", name := "<init>", desc := "(I)V" } : Jvm.MethodName)) ∈ xs_U := xs_mk (xs_t4 5 rfl) rfl
theorem hw_726 : (Jvm.Cond.instanceMethod ({ cls := "WideNetModel", name := "<init>", desc := "(I)V" } : Jvm.MethodName)) ∈ xs_U := xs_mk (xs_t4 6 rfl) rfl
theorem hw_727 : (Jvm.Cond.code ({ cls := "WideNetModel", name := "<init>", desc := "(I)V" } : Jvm.MethodName) prog_12_method_1_code (4 : Nat) (Option.none : Option Jvm.ClassFile.FieldType)) ∈ xs_U := xs_mk (xs_t4 7 rfl) rfl
theorem hw_728 : (Jvm.Cond.methodLink "WideNetModel" (1 : Nat) ({ cls := "java/lang/Object", name := "<init>", desc := "()V" } : Jvm.MethodName)) ∈ xs_U := xs_mk (xs_t4 8 rfl) rfl
theorem hw_729 : (Jvm.Cond.methodLink "WideNetModel" (120 : Nat) ({ cls := "WideNetModel", name := "boxes", desc := "()V" } : Jvm.MethodName)) ∈ xs_U := xs_mk (xs_t4 9 rfl) rfl
theorem hw_731 : (Jvm.Cond.instanceMethod ({ cls := "WideNetModel", name := "boxes", desc := "()V" } : Jvm.MethodName)) ∈ xs_U := xs_mk (xs_t4 11 rfl) rfl
theorem hw_732 : (Jvm.Cond.code ({ cls := "WideNetModel", name := "boxes", desc := "()V" } : Jvm.MethodName) prog_12_method_4_code (6 : Nat) (Option.none : Option Jvm.ClassFile.FieldType)) ∈ xs_U := xs_mk (xs_t4 12 rfl) rfl
theorem hw_733 : (Jvm.Cond.methodLink "WideNetModel" (127 : Nat) ({ cls := "WideNetModel", name := "times", desc := "(II)I" } : Jvm.MethodName)) ∈ xs_U := xs_mk (xs_t4 13 rfl) rfl
theorem hw_734 : (Jvm.Cond.static ({ cls := "WideNetModel", name := "times", desc := "(II)I" } : Jvm.MethodName)) ∈ xs_U := xs_mk (xs_t4 14 rfl) rfl
theorem hw_735 : (Jvm.Cond.code ({ cls := "WideNetModel", name := "times", desc := "(II)I" } : Jvm.MethodName) prog_12_method_3_code (5 : Nat) (Option.some Jvm.ClassFile.FieldType.int)) ∈ xs_U := xs_mk (xs_t4 15 rfl) rfl
theorem hw_736 : (Jvm.Cond.methodLink "WideNetModel" (123 : Nat) ({ cls := "WideNetModel", name := "twice", desc := "(I)I" } : Jvm.MethodName)) ∈ xs_U := xs_mk (xs_t4 16 rfl) rfl
theorem hw_737 : (Jvm.Cond.static ({ cls := "WideNetModel", name := "twice", desc := "(I)I" } : Jvm.MethodName)) ∈ xs_U := xs_mk (xs_t4 17 rfl) rfl
theorem hw_738 : (Jvm.Cond.code ({ cls := "WideNetModel", name := "twice", desc := "(I)I" } : Jvm.MethodName) prog_12_method_2_code (1 : Nat) (Option.some Jvm.ClassFile.FieldType.int)) ∈ xs_U := xs_mk (xs_t4 18 rfl) rfl
theorem hw_739 : (Jvm.Cond.methodLink "WideNetModel" (131 : Nat) ({ cls := "WideNetModel", name := "enter", desc := "(II)V" } : Jvm.MethodName)) ∈ xs_U := xs_mk (xs_t4 19 rfl) rfl
theorem hw_741 : (Jvm.Cond.instanceMethod ({ cls := "WideNetModel", name := "enter", desc := "(II)V" } : Jvm.MethodName)) ∈ xs_U := xs_mk (xs_t4 21 rfl) rfl
theorem hw_742 : (Jvm.Cond.code ({ cls := "WideNetModel", name := "enter", desc := "(II)V" } : Jvm.MethodName) prog_12_method_5_code (5 : Nat) (Option.none : Option Jvm.ClassFile.FieldType)) ∈ xs_U := xs_mk (xs_t4 22 rfl) rfl
theorem hw_743 : (Jvm.Cond.fieldLink "WideNetModel" (7 : Nat) "WideNetModel" "box" "[I") ∈ xs_U := xs_mk (xs_t4 23 rfl) rfl
theorem hw_744 : (Jvm.Cond.fieldLink "WideNetModel" (13 : Nat) "WideNetModel" "unbox" "[I") ∈ xs_U := xs_mk (xs_t4 24 rfl) rfl
theorem hw_745 : (Jvm.Cond.fieldLink "WideNetModel" (16 : Nat) "WideNetModel" "rounds" "[I") ∈ xs_U := xs_mk (xs_t4 25 rfl) rfl
theorem hw_746 : (Jvm.Cond.fieldLink "WideNetModel" (19 : Nat) "WideNetModel" "block" "[I") ∈ xs_U := xs_mk (xs_t4 26 rfl) rfl
theorem hw_747 : (Jvm.Cond.fieldLink "WideNetModel" (22 : Nat) "WideNetModel" "old" "[I") ∈ xs_U := xs_mk (xs_t4 27 rfl) rfl
theorem hw_748 : (Jvm.Cond.fieldLink "WideNetModel" (25 : Nat) "WideNetModel" "code" "[I") ∈ xs_U := xs_mk (xs_t4 28 rfl) rfl
theorem hw_749 : (Jvm.Cond.fieldLink "WideNetModel" (28 : Nat) "WideNetModel" "keys" "[I") ∈ xs_U := xs_mk (xs_t4 29 rfl) rfl
theorem hw_750 : (Jvm.Cond.fieldLink "WideNetModel" (31 : Nat) "WideNetModel" "row" "[I") ∈ xs_U := xs_mk (xs_t4 30 rfl) rfl
theorem hw_751 : (Jvm.Cond.fieldLink "WideNetModel" (191 : Nat) "WideNetModel" "time" "I") ∈ xs_U := xs_mk (xs_t4 31 rfl) rfl
theorem hw_752 : (Jvm.Cond.fieldLink "WideNetModel" (34 : Nat) "WideNetModel" "bytes" "[I") ∈ xs_U := xs_mk (xs_t4 32 rfl) rfl
theorem hw_753 : (Jvm.Cond.fieldLink "WideNetModel" (37 : Nat) "WideNetModel" "length" "[I") ∈ xs_U := xs_mk (xs_t4 33 rfl) rfl
theorem hw_754 : (Jvm.Cond.fieldLink "WideNetModel" (40 : Nat) "WideNetModel" "goal" "[I") ∈ xs_U := xs_mk (xs_t4 34 rfl) rfl
theorem hw_755 : (Jvm.Cond.fieldLink "WideNetModel" (168 : Nat) "WideNetModel" "many" "I") ∈ xs_U := xs_mk (xs_t4 35 rfl) rfl
theorem hw_756 : (Jvm.Cond.fieldLink "WideNetModel" (161 : Nat) "WideNetModel" "sent" "I") ∈ xs_U := xs_mk (xs_t4 36 rfl) rfl
theorem hw_757 : (Jvm.Cond.fieldLink "WideNetModel" (43 : Nat) "WideNetModel" "state" "[I") ∈ xs_U := xs_mk (xs_t4 37 rfl) rfl
theorem hw_758 : (Jvm.Cond.fieldLink "WideNetModel" (46 : Nat) "WideNetModel" "waits" "[Z") ∈ xs_U := xs_mk (xs_t4 38 rfl) rfl
theorem hw_759 : (Jvm.Cond.fieldLink "WideNetModel" (50 : Nat) "WideNetModel" "since" "[I") ∈ xs_U := xs_mk (xs_t4 39 rfl) rfl
theorem hw_760 : (Jvm.Cond.fieldLink "WideNetModel" (53 : Nat) "WideNetModel" "tries" "[I") ∈ xs_U := xs_mk (xs_t4 40 rfl) rfl
theorem hw_761 : (Jvm.Cond.fieldLink "WideNetModel" (56 : Nat) "WideNetModel" "nonce" "[I") ∈ xs_U := xs_mk (xs_t4 41 rfl) rfl
theorem hw_762 : (Jvm.Cond.fieldLink "WideNetModel" (59 : Nat) "WideNetModel" "tookSerial" "[I") ∈ xs_U := xs_mk (xs_t4 42 rfl) rfl
theorem hw_763 : (Jvm.Cond.fieldLink "WideNetModel" (62 : Nat) "WideNetModel" "address" "[I") ∈ xs_U := xs_mk (xs_t4 43 rfl) rfl
theorem hw_764 : (Jvm.Cond.fieldLink "WideNetModel" (65 : Nat) "WideNetModel" "nextUp" "[I") ∈ xs_U := xs_mk (xs_t4 44 rfl) rfl
theorem hw_765 : (Jvm.Cond.fieldLink "WideNetModel" (68 : Nat) "WideNetModel" "lastDown" "[I") ∈ xs_U := xs_mk (xs_t4 45 rfl) rfl
theorem hw_766 : (Jvm.Cond.fieldLink "WideNetModel" (259 : Nat) "WideNetModel" "serial" "I") ∈ xs_U := xs_mk (xs_t4 46 rfl) rfl
theorem hw_767 : (Jvm.Cond.fieldLink "WideNetModel" (71 : Nat) "WideNetModel" "sessions" "[I") ∈ xs_U := xs_mk (xs_t4 47 rfl) rfl
theorem hw_768 : (Jvm.Cond.fieldLink "WideNetModel" (74 : Nat) "WideNetModel" "ours" "[I") ∈ xs_U := xs_mk (xs_t4 48 rfl) rfl
theorem hw_769 : (Jvm.Cond.fieldLink "WideNetModel" (77 : Nat) "WideNetModel" "ourSerial" "[I") ∈ xs_U := xs_mk (xs_t4 49 rfl) rfl
theorem hw_770 : (Jvm.Cond.fieldLink "WideNetModel" (80 : Nat) "WideNetModel" "lastUp" "[I") ∈ xs_U := xs_mk (xs_t4 50 rfl) rfl
theorem hw_771 : (Jvm.Cond.fieldLink "WideNetModel" (83 : Nat) "WideNetModel" "nextDown" "[I") ∈ xs_U := xs_mk (xs_t4 51 rfl) rfl
theorem hw_772 : (Jvm.Cond.fieldLink "WideNetModel" (86 : Nat) "WideNetModel" "lastNonce" "[I") ∈ xs_U := xs_mk (xs_t4 52 rfl) rfl
theorem hw_773 : (Jvm.Cond.fieldLink "WideNetModel" (89 : Nat) "WideNetModel" "gateways" "[I") ∈ xs_U := xs_mk (xs_t4 53 rfl) rfl
theorem hw_774 : (Jvm.Cond.fieldLink "WideNetModel" (92 : Nat) "WideNetModel" "due" "[I") ∈ xs_U := xs_mk (xs_t4 54 rfl) rfl
theorem hw_775 : (Jvm.Cond.fieldLink "WideNetModel" (95 : Nat) "WideNetModel" "acknowledges" "[Z") ∈ xs_U := xs_mk (xs_t4 55 rfl) rfl
theorem hw_776 : (Jvm.Cond.fieldLink "WideNetModel" (98 : Nat) "WideNetModel" "checks" "[Z") ∈ xs_U := xs_mk (xs_t4 56 rfl) rfl
theorem hw_777 : (Jvm.Cond.fieldLink "WideNetModel" (101 : Nat) "WideNetModel" "queue" "[J") ∈ xs_U := xs_mk (xs_t4 57 rfl) rfl
theorem hw_778 : (Jvm.Cond.fieldLink "WideNetModel" (105 : Nat) "WideNetModel" "queueLength" "[I") ∈ xs_U := xs_mk (xs_t4 58 rfl) rfl
theorem hw_779 : (Jvm.Cond.fieldLink "WideNetModel" (108 : Nat) "WideNetModel" "queued" "[I") ∈ xs_U := xs_mk (xs_t4 59 rfl) rfl
theorem hw_780 : (Jvm.Cond.fieldLink "WideNetModel" (111 : Nat) "WideNetModel" "got" "[I") ∈ xs_U := xs_mk (xs_t4 60 rfl) rfl
theorem hw_781 : (Jvm.Cond.fieldLink "WideNetModel" (114 : Nat) "WideNetModel" "values" "[J") ∈ xs_U := xs_mk (xs_t4 61 rfl) rfl
theorem hw_782 : (Jvm.Cond.fieldLink "WideNetModel" (117 : Nat) "WideNetModel" "tallies" "[I") ∈ xs_U := xs_mk (xs_t4 62 rfl) rfl
theorem hw_783 : (Jvm.Cond.laysFinal "WideNetModel" "WideNetModel" "box" "[I") ∈ xs_U := xs_mk (xs_t4 63 rfl) rfl
theorem hw_785 : (Jvm.Cond.laysFinal "WideNetModel" "WideNetModel" "unbox" "[I") ∈ xs_U := xs_mk (xs_t4 65 rfl) rfl
theorem hw_787 : (Jvm.Cond.laysFinal "WideNetModel" "WideNetModel" "rounds" "[I") ∈ xs_U := xs_mk (xs_t4 67 rfl) rfl
theorem hw_789 : (Jvm.Cond.laysFinal "WideNetModel" "WideNetModel" "block" "[I") ∈ xs_U := xs_mk (xs_t4 69 rfl) rfl
theorem hw_791 : (Jvm.Cond.laysFinal "WideNetModel" "WideNetModel" "old" "[I") ∈ xs_U := xs_mk (xs_t4 71 rfl) rfl
theorem hw_793 : (Jvm.Cond.laysFinal "WideNetModel" "WideNetModel" "code" "[I") ∈ xs_U := xs_mk (xs_t4 73 rfl) rfl
theorem hw_795 : (Jvm.Cond.laysFinal "WideNetModel" "WideNetModel" "keys" "[I") ∈ xs_U := xs_mk (xs_t4 75 rfl) rfl
theorem hw_797 : (Jvm.Cond.laysFinal "WideNetModel" "WideNetModel" "row" "[I") ∈ xs_U := xs_mk (xs_t4 77 rfl) rfl
theorem hw_799 : (Jvm.Cond.lays "WideNetModel" "WideNetModel" "time" "I") ∈ xs_U := xs_mk (xs_t4 79 rfl) rfl
theorem hw_801 : (Jvm.Cond.laysFinal "WideNetModel" "WideNetModel" "bytes" "[I") ∈ xs_U := xs_mk (xs_t4 81 rfl) rfl
theorem hw_803 : (Jvm.Cond.laysFinal "WideNetModel" "WideNetModel" "length" "[I") ∈ xs_U := xs_mk (xs_t4 83 rfl) rfl
theorem hw_805 : (Jvm.Cond.laysFinal "WideNetModel" "WideNetModel" "goal" "[I") ∈ xs_U := xs_mk (xs_t4 85 rfl) rfl
theorem hw_807 : (Jvm.Cond.lays "WideNetModel" "WideNetModel" "many" "I") ∈ xs_U := xs_mk (xs_t4 87 rfl) rfl
theorem hw_809 : (Jvm.Cond.lays "WideNetModel" "WideNetModel" "sent" "I") ∈ xs_U := xs_mk (xs_t4 89 rfl) rfl
theorem hw_811 : (Jvm.Cond.laysFinal "WideNetModel" "WideNetModel" "state" "[I") ∈ xs_U := xs_mk (xs_t4 91 rfl) rfl
theorem hw_813 : (Jvm.Cond.laysFinal "WideNetModel" "WideNetModel" "waits" "[Z") ∈ xs_U := xs_mk (xs_t4 93 rfl) rfl
theorem hw_815 : (Jvm.Cond.laysFinal "WideNetModel" "WideNetModel" "since" "[I") ∈ xs_U := xs_mk (xs_t4 95 rfl) rfl
theorem hw_817 : (Jvm.Cond.laysFinal "WideNetModel" "WideNetModel" "tries" "[I") ∈ xs_U := xs_mk (xs_t4 97 rfl) rfl
theorem hw_819 : (Jvm.Cond.laysFinal "WideNetModel" "WideNetModel" "nonce" "[I") ∈ xs_U := xs_mk (xs_t4 99 rfl) rfl
theorem hw_821 : (Jvm.Cond.laysFinal "WideNetModel" "WideNetModel" "tookSerial" "[I") ∈ xs_U := xs_mk (xs_t4 101 rfl) rfl
theorem hw_823 : (Jvm.Cond.laysFinal "WideNetModel" "WideNetModel" "address" "[I") ∈ xs_U := xs_mk (xs_t4 103 rfl) rfl
theorem hw_825 : (Jvm.Cond.laysFinal "WideNetModel" "WideNetModel" "nextUp" "[I") ∈ xs_U := xs_mk (xs_t4 105 rfl) rfl
theorem hw_827 : (Jvm.Cond.laysFinal "WideNetModel" "WideNetModel" "lastDown" "[I") ∈ xs_U := xs_mk (xs_t4 107 rfl) rfl
theorem hw_829 : (Jvm.Cond.lays "WideNetModel" "WideNetModel" "serial" "I") ∈ xs_U := xs_mk (xs_t4 109 rfl) rfl
theorem hw_831 : (Jvm.Cond.laysFinal "WideNetModel" "WideNetModel" "sessions" "[I") ∈ xs_U := xs_mk (xs_t4 111 rfl) rfl
theorem hw_833 : (Jvm.Cond.laysFinal "WideNetModel" "WideNetModel" "ours" "[I") ∈ xs_U := xs_mk (xs_t4 113 rfl) rfl
theorem hw_835 : (Jvm.Cond.laysFinal "WideNetModel" "WideNetModel" "ourSerial" "[I") ∈ xs_U := xs_mk (xs_t4 115 rfl) rfl
theorem hw_837 : (Jvm.Cond.laysFinal "WideNetModel" "WideNetModel" "lastUp" "[I") ∈ xs_U := xs_mk (xs_t4 117 rfl) rfl
theorem hw_839 : (Jvm.Cond.laysFinal "WideNetModel" "WideNetModel" "nextDown" "[I") ∈ xs_U := xs_mk (xs_t4 119 rfl) rfl
theorem hw_841 : (Jvm.Cond.laysFinal "WideNetModel" "WideNetModel" "lastNonce" "[I") ∈ xs_U := xs_mk (xs_t4 121 rfl) rfl
theorem hw_843 : (Jvm.Cond.laysFinal "WideNetModel" "WideNetModel" "gateways" "[I") ∈ xs_U := xs_mk (xs_t4 123 rfl) rfl
theorem hw_845 : (Jvm.Cond.laysFinal "WideNetModel" "WideNetModel" "due" "[I") ∈ xs_U := xs_mk (xs_t4 125 rfl) rfl
theorem hw_847 : (Jvm.Cond.laysFinal "WideNetModel" "WideNetModel" "acknowledges" "[Z") ∈ xs_U := xs_mk (xs_t4 127 rfl) rfl
theorem hw_849 : (Jvm.Cond.laysFinal "WideNetModel" "WideNetModel" "checks" "[Z") ∈ xs_U := xs_mk (xs_t4 129 rfl) rfl
theorem hw_851 : (Jvm.Cond.laysFinal "WideNetModel" "WideNetModel" "queue" "[J") ∈ xs_U := xs_mk (xs_t4 131 rfl) rfl
theorem hw_853 : (Jvm.Cond.laysFinal "WideNetModel" "WideNetModel" "queueLength" "[I") ∈ xs_U := xs_mk (xs_t4 133 rfl) rfl
theorem hw_855 : (Jvm.Cond.laysFinal "WideNetModel" "WideNetModel" "queued" "[I") ∈ xs_U := xs_mk (xs_t4 135 rfl) rfl
theorem hw_857 : (Jvm.Cond.laysFinal "WideNetModel" "WideNetModel" "got" "[I") ∈ xs_U := xs_mk (xs_t4 137 rfl) rfl
theorem hw_859 : (Jvm.Cond.laysFinal "WideNetModel" "WideNetModel" "values" "[J") ∈ xs_U := xs_mk (xs_t4 139 rfl) rfl
theorem hw_861 : (Jvm.Cond.laysFinal "WideNetModel" "WideNetModel" "tallies" "[I") ∈ xs_U := xs_mk (xs_t4 141 rfl) rfl
theorem hw_864 : (Jvm.Cond.arrayClass Jvm.ClassFile.FieldType.boolean) ∈ xs_U := xs_mk (xs_t4 144 rfl) rfl
theorem hw_865 : (Jvm.Cond.methodLink "WideNetLaw" (25 : Nat) ({ cls := "WideNetModel", name := "join", desc := "(I)I" } : Jvm.MethodName)) ∈ xs_U := xs_mk (xs_t4 145 rfl) rfl
theorem hw_866 : (Jvm.Cond.instanceMethod ({ cls := "WideNetModel", name := "join", desc := "(I)I" } : Jvm.MethodName)) ∈ xs_U := xs_mk (xs_t4 146 rfl) rfl
theorem hw_867 : (Jvm.Cond.selects "WideNetModel" ({ cls := "WideNetModel", name := "join", desc := "(I)I" } : Jvm.MethodName) ({ cls := "WideNetModel", name := "join", desc := "(I)I" } : Jvm.MethodName)) ∈ xs_U := xs_mk (xs_t4 147 rfl) rfl
theorem hw_868 : (Jvm.Cond.code ({ cls := "WideNetModel", name := "join", desc := "(I)I" } : Jvm.MethodName) prog_12_method_34_code (4 : Nat) (Option.some Jvm.ClassFile.FieldType.int)) ∈ xs_U := xs_mk (xs_t4 148 rfl) rfl
theorem hw_869 : (Jvm.Cond.methodLink "WideNetModel" (197 : Nat) ({ cls := "WideNetModel", name := "below", desc := "(II)Z" } : Jvm.MethodName)) ∈ xs_U := xs_mk (xs_t4 149 rfl) rfl
theorem hw_870 : (Jvm.Cond.static ({ cls := "WideNetModel", name := "below", desc := "(II)Z" } : Jvm.MethodName)) ∈ xs_U := xs_mk (xs_t4 150 rfl) rfl
theorem hw_871 : (Jvm.Cond.code ({ cls := "WideNetModel", name := "below", desc := "(II)Z" } : Jvm.MethodName) prog_12_method_32_code (2 : Nat) (Option.some Jvm.ClassFile.FieldType.boolean)) ∈ xs_U := xs_mk (xs_t4 151 rfl) rfl
theorem hw_872 : (Jvm.Cond.constant "WideNetModel" (201 : Nat) (65535 : Int32)) ∈ xs_U := xs_mk (xs_t4 152 rfl) rfl
theorem hw_873 : (Jvm.Cond.methodLink "WideNetModel" (155 : Nat) ({ cls := "WideNetModel", name := "write", desc := "(II)V" } : Jvm.MethodName)) ∈ xs_U := xs_mk (xs_t4 153 rfl) rfl
theorem hw_875 : (Jvm.Cond.instanceMethod ({ cls := "WideNetModel", name := "write", desc := "(II)V" } : Jvm.MethodName)) ∈ xs_U := xs_mk (xs_t4 155 rfl) rfl
theorem hw_876 : (Jvm.Cond.code ({ cls := "WideNetModel", name := "write", desc := "(II)V" } : Jvm.MethodName) prog_12_method_16_code (3 : Nat) (Option.none : Option Jvm.ClassFile.FieldType)) ∈ xs_U := xs_mk (xs_t4 156 rfl) rfl
theorem hw_877 : (Jvm.Cond.methodLink "WideNetModel" (179 : Nat) ({ cls := "WideNetModel", name := "writeNumber", desc := "(III)V" } : Jvm.MethodName)) ∈ xs_U := xs_mk (xs_t4 157 rfl) rfl
theorem hw_879 : (Jvm.Cond.instanceMethod ({ cls := "WideNetModel", name := "writeNumber", desc := "(III)V" } : Jvm.MethodName)) ∈ xs_U := xs_mk (xs_t4 159 rfl) rfl
theorem hw_880 : (Jvm.Cond.code ({ cls := "WideNetModel", name := "writeNumber", desc := "(III)V" } : Jvm.MethodName) prog_12_method_17_code (5 : Nat) (Option.none : Option Jvm.ClassFile.FieldType)) ∈ xs_U := xs_mk (xs_t4 160 rfl) rfl
theorem hw_881 : (Jvm.Cond.methodLink "WideNetModel" (202 : Nat) ({ cls := "WideNetModel", name := "rootCode", desc := "(III)V" } : Jvm.MethodName)) ∈ xs_U := xs_mk (xs_t4 161 rfl) rfl
theorem hw_883 : (Jvm.Cond.instanceMethod ({ cls := "WideNetModel", name := "rootCode", desc := "(III)V" } : Jvm.MethodName)) ∈ xs_U := xs_mk (xs_t4 163 rfl) rfl
theorem hw_884 : (Jvm.Cond.code ({ cls := "WideNetModel", name := "rootCode", desc := "(III)V" } : Jvm.MethodName) prog_12_method_24_code (5 : Nat) (Option.none : Option Jvm.ClassFile.FieldType)) ∈ xs_U := xs_mk (xs_t4 164 rfl) rfl
theorem hw_885 : (Jvm.Cond.methodLink "WideNetModel" (158 : Nat) ({ cls := "WideNetModel", name := "at", desc := "(II)I" } : Jvm.MethodName)) ∈ xs_U := xs_mk (xs_t4 165 rfl) rfl
theorem hw_887 : (Jvm.Cond.instanceMethod ({ cls := "WideNetModel", name := "at", desc := "(II)I" } : Jvm.MethodName)) ∈ xs_U := xs_mk (xs_t4 167 rfl) rfl
theorem hw_888 : (Jvm.Cond.code ({ cls := "WideNetModel", name := "at", desc := "(II)I" } : Jvm.MethodName) prog_12_method_15_code (3 : Nat) (Option.some Jvm.ClassFile.FieldType.int)) ∈ xs_U := xs_mk (xs_t4 168 rfl) rfl
theorem hw_889 : (Jvm.Cond.methodLink "WideNetModel" (174 : Nat) ({ cls := "WideNetModel", name := "mac", desc := "(II)V" } : Jvm.MethodName)) ∈ xs_U := xs_mk (xs_t4 169 rfl) rfl
theorem hw_891 : (Jvm.Cond.instanceMethod ({ cls := "WideNetModel", name := "mac", desc := "(II)V" } : Jvm.MethodName)) ∈ xs_U := xs_mk (xs_t4 171 rfl) rfl
theorem hw_892 : (Jvm.Cond.code ({ cls := "WideNetModel", name := "mac", desc := "(II)V" } : Jvm.MethodName) prog_12_method_13_code (7 : Nat) (Option.none : Option Jvm.ClassFile.FieldType)) ∈ xs_U := xs_mk (xs_t4 172 rfl) rfl
theorem hw_893 : (Jvm.Cond.methodLink "WideNetModel" (149 : Nat) ({ cls := "WideNetModel", name := "cipher", desc := "(I)V" } : Jvm.MethodName)) ∈ xs_U := xs_mk (xs_t4 173 rfl) rfl
theorem hw_895 : (Jvm.Cond.instanceMethod ({ cls := "WideNetModel", name := "cipher", desc := "(I)V" } : Jvm.MethodName)) ∈ xs_U := xs_mk (xs_t4 175 rfl) rfl
theorem hw_896 : (Jvm.Cond.code ({ cls := "WideNetModel", name := "cipher", desc := "(I)V" } : Jvm.MethodName) prog_12_method_10_code (4 : Nat) (Option.none : Option Jvm.ClassFile.FieldType)) ∈ xs_U := xs_mk (xs_t4 176 rfl) rfl
theorem hw_897 : (Jvm.Cond.methodLink "WideNetModel" (138 : Nat) ({ cls := "WideNetModel", name := "schedule", desc := "(I)V" } : Jvm.MethodName)) ∈ xs_U := xs_mk (xs_t4 177 rfl) rfl
theorem hw_899 : (Jvm.Cond.instanceMethod ({ cls := "WideNetModel", name := "schedule", desc := "(I)V" } : Jvm.MethodName)) ∈ xs_U := xs_mk (xs_t4 179 rfl) rfl
theorem hw_900 : (Jvm.Cond.code ({ cls := "WideNetModel", name := "schedule", desc := "(I)V" } : Jvm.MethodName) prog_12_method_6_code (7 : Nat) (Option.none : Option Jvm.ClassFile.FieldType)) ∈ xs_U := xs_mk (xs_t4 180 rfl) rfl
theorem hw_901 : (Jvm.Cond.methodLink "WideNetModel" (142 : Nat) ({ cls := "WideNetModel", name := "addKey", desc := "(I)V" } : Jvm.MethodName)) ∈ xs_U := xs_mk (xs_t4 181 rfl) rfl
theorem hw_903 : (Jvm.Cond.instanceMethod ({ cls := "WideNetModel", name := "addKey", desc := "(I)V" } : Jvm.MethodName)) ∈ xs_U := xs_mk (xs_t4 183 rfl) rfl
theorem hw_904 : (Jvm.Cond.code ({ cls := "WideNetModel", name := "addKey", desc := "(I)V" } : Jvm.MethodName) prog_12_method_7_code (3 : Nat) (Option.none : Option Jvm.ClassFile.FieldType)) ∈ xs_U := xs_mk (xs_t4 184 rfl) rfl
theorem hw_905 : (Jvm.Cond.methodLink "WideNetModel" (135 : Nat) ({ cls := "WideNetModel", name := "copyBlock", desc := "()V" } : Jvm.MethodName)) ∈ xs_U := xs_mk (xs_t4 185 rfl) rfl
theorem hw_907 : (Jvm.Cond.instanceMethod ({ cls := "WideNetModel", name := "copyBlock", desc := "()V" } : Jvm.MethodName)) ∈ xs_U := xs_mk (xs_t4 187 rfl) rfl
theorem hw_908 : (Jvm.Cond.code ({ cls := "WideNetModel", name := "copyBlock", desc := "()V" } : Jvm.MethodName) prog_12_method_8_code (2 : Nat) (Option.none : Option Jvm.ClassFile.FieldType)) ∈ xs_U := xs_mk (xs_t4 188 rfl) rfl
theorem hw_909 : (Jvm.Cond.methodLink "WideNetModel" (145 : Nat) ({ cls := "WideNetModel", name := "mix", desc := "(IIII)V" } : Jvm.MethodName)) ∈ xs_U := xs_mk (xs_t4 189 rfl) rfl
theorem hw_911 : (Jvm.Cond.instanceMethod ({ cls := "WideNetModel", name := "mix", desc := "(IIII)V" } : Jvm.MethodName)) ∈ xs_U := xs_mk (xs_t4 191 rfl) rfl
theorem hw_912 : (Jvm.Cond.code ({ cls := "WideNetModel", name := "mix", desc := "(IIII)V" } : Jvm.MethodName) prog_12_method_9_code (7 : Nat) (Option.none : Option Jvm.ClassFile.FieldType)) ∈ xs_U := xs_mk (xs_t4 192 rfl) rfl
theorem hw_913 : (Jvm.Cond.methodLink "WideNetModel" (152 : Nat) ({ cls := "WideNetModel", name := "doubled", desc := "()V" } : Jvm.MethodName)) ∈ xs_U := xs_mk (xs_t4 193 rfl) rfl
theorem hw_915 : (Jvm.Cond.instanceMethod ({ cls := "WideNetModel", name := "doubled", desc := "()V" } : Jvm.MethodName)) ∈ xs_U := xs_mk (xs_t4 195 rfl) rfl
theorem hw_916 : (Jvm.Cond.code ({ cls := "WideNetModel", name := "doubled", desc := "()V" } : Jvm.MethodName) prog_12_method_12_code (3 : Nat) (Option.none : Option Jvm.ClassFile.FieldType)) ∈ xs_U := xs_mk (xs_t4 196 rfl) rfl
theorem hw_917 : (Jvm.Cond.methodLink "WideNetModel" (205 : Nat) ({ cls := "WideNetModel", name := "transmit", desc := "(I)V" } : Jvm.MethodName)) ∈ xs_U := xs_mk (xs_t4 197 rfl) rfl
theorem hw_919 : (Jvm.Cond.instanceMethod ({ cls := "WideNetModel", name := "transmit", desc := "(I)V" } : Jvm.MethodName)) ∈ xs_U := xs_mk (xs_t4 199 rfl) rfl
theorem hw_920 : (Jvm.Cond.code ({ cls := "WideNetModel", name := "transmit", desc := "(I)V" } : Jvm.MethodName) prog_12_method_33_code (2 : Nat) (Option.none : Option Jvm.ClassFile.FieldType)) ∈ xs_U := xs_mk (xs_t4 200 rfl) rfl
theorem hw_921 : (Jvm.Cond.methodLink "WideNetModel" (194 : Nat) ({ cls := "WideNetModel", name := "post", desc := "(I)V" } : Jvm.MethodName)) ∈ xs_U := xs_mk (xs_t4 201 rfl) rfl
theorem hw_923 : (Jvm.Cond.instanceMethod ({ cls := "WideNetModel", name := "post", desc := "(I)V" } : Jvm.MethodName)) ∈ xs_U := xs_mk (xs_t4 203 rfl) rfl
theorem hw_924 : (Jvm.Cond.code ({ cls := "WideNetModel", name := "post", desc := "(I)V" } : Jvm.MethodName) prog_12_method_20_code (2 : Nat) (Option.none : Option Jvm.ClassFile.FieldType)) ∈ xs_U := xs_mk (xs_t4 204 rfl) rfl
theorem hw_925 : (Jvm.Cond.methodLink "WideNetModel" (165 : Nat) ({ cls := "WideNetModel", name := "copyFrame", desc := "(II)V" } : Jvm.MethodName)) ∈ xs_U := xs_mk (xs_t4 205 rfl) rfl
theorem hw_927 : (Jvm.Cond.instanceMethod ({ cls := "WideNetModel", name := "copyFrame", desc := "(II)V" } : Jvm.MethodName)) ∈ xs_U := xs_mk (xs_t4 207 rfl) rfl
theorem hw_928 : (Jvm.Cond.code ({ cls := "WideNetModel", name := "copyFrame", desc := "(II)V" } : Jvm.MethodName) prog_12_method_19_code (4 : Nat) (Option.none : Option Jvm.ClassFile.FieldType)) ∈ xs_U := xs_mk (xs_t4 208 rfl) rfl
theorem hw_929 : (Jvm.Cond.methodLink "WideNetLaw" (32 : Nat) ({ cls := "WideNetModel", name := "send", desc := "(IJIZZ)I" } : Jvm.MethodName)) ∈ xs_U := xs_mk (xs_t4 209 rfl) rfl
theorem hw_930 : (Jvm.Cond.instanceMethod ({ cls := "WideNetModel", name := "send", desc := "(IJIZZ)I" } : Jvm.MethodName)) ∈ xs_U := xs_mk (xs_t4 210 rfl) rfl
theorem hw_931 : (Jvm.Cond.selects "WideNetModel" ({ cls := "WideNetModel", name := "send", desc := "(IJIZZ)I" } : Jvm.MethodName) ({ cls := "WideNetModel", name := "send", desc := "(IJIZZ)I" } : Jvm.MethodName)) ∈ xs_U := xs_mk (xs_t4 211 rfl) rfl
theorem hw_932 : (Jvm.Cond.code ({ cls := "WideNetModel", name := "send", desc := "(IJIZZ)I" } : Jvm.MethodName) prog_12_method_35_code (9 : Nat) (Option.some Jvm.ClassFile.FieldType.int)) ∈ xs_U := xs_mk (xs_t4 212 rfl) rfl
theorem hw_933 : (Jvm.Cond.methodLink "WideNetModel" (208 : Nat) ({ cls := "WideNetModel", name := "begin", desc := "(IIIII)V" } : Jvm.MethodName)) ∈ xs_U := xs_mk (xs_t4 213 rfl) rfl
theorem hw_935 : (Jvm.Cond.instanceMethod ({ cls := "WideNetModel", name := "begin", desc := "(IIIII)V" } : Jvm.MethodName)) ∈ xs_U := xs_mk (xs_t4 215 rfl) rfl
theorem hw_936 : (Jvm.Cond.code ({ cls := "WideNetModel", name := "begin", desc := "(IIIII)V" } : Jvm.MethodName) prog_12_method_27_code (6 : Nat) (Option.none : Option Jvm.ClassFile.FieldType)) ∈ xs_U := xs_mk (xs_t4 216 rfl) rfl
theorem hw_937 : (Jvm.Cond.methodLink "WideNetModel" (212 : Nat) ({ cls := "WideNetModel", name := "finish", desc := "(IJIIIII)V" } : Jvm.MethodName)) ∈ xs_U := xs_mk (xs_t4 217 rfl) rfl
theorem hw_939 : (Jvm.Cond.instanceMethod ({ cls := "WideNetModel", name := "finish", desc := "(IJIIIII)V" } : Jvm.MethodName)) ∈ xs_U := xs_mk (xs_t4 219 rfl) rfl
theorem hw_940 : (Jvm.Cond.code ({ cls := "WideNetModel", name := "finish", desc := "(IJIIIII)V" } : Jvm.MethodName) prog_12_method_28_code (13 : Nat) (Option.none : Option Jvm.ClassFile.FieldType)) ∈ xs_U := xs_mk (xs_t4 220 rfl) rfl
theorem hw_941 : (Jvm.Cond.methodLink "WideNetModel" (183 : Nat) ({ cls := "WideNetModel", name := "enciphered", desc := "(JIIIII)J" } : Jvm.MethodName)) ∈ xs_U := xs_mk (xs_t4 221 rfl) rfl
theorem hw_943 : (Jvm.Cond.instanceMethod ({ cls := "WideNetModel", name := "enciphered", desc := "(JIIIII)J" } : Jvm.MethodName)) ∈ xs_U := xs_mk (xs_t4 223 rfl) rfl
theorem hw_944 : (Jvm.Cond.code ({ cls := "WideNetModel", name := "enciphered", desc := "(JIIIII)J" } : Jvm.MethodName) prog_12_method_26_code (11 : Nat) (Option.some Jvm.ClassFile.FieldType.long)) ∈ xs_U := xs_mk (xs_t4 224 rfl) rfl
theorem hw_945 : (Jvm.Cond.methodLink "WideNetModel" (171 : Nat) ({ cls := "WideNetModel", name := "rowHead", desc := "(IIII)V" } : Jvm.MethodName)) ∈ xs_U := xs_mk (xs_t4 225 rfl) rfl
theorem hw_947 : (Jvm.Cond.instanceMethod ({ cls := "WideNetModel", name := "rowHead", desc := "(IIII)V" } : Jvm.MethodName)) ∈ xs_U := xs_mk (xs_t4 227 rfl) rfl
theorem hw_948 : (Jvm.Cond.code ({ cls := "WideNetModel", name := "rowHead", desc := "(IIII)V" } : Jvm.MethodName) prog_12_method_22_code (6 : Nat) (Option.none : Option Jvm.ClassFile.FieldType)) ∈ xs_U := xs_mk (xs_t4 228 rfl) rfl
theorem hw_949 : (Jvm.Cond.constantLong "WideNetModel" (177 : Nat) (255 : Int64)) ∈ xs_U := xs_mk (xs_t4 229 rfl) rfl
theorem hw_950 : (Jvm.Cond.methodLink "WideNetModel" (187 : Nat) ({ cls := "WideNetModel", name := "dataCode", desc := "(IIIIII)V" } : Jvm.MethodName)) ∈ xs_U := xs_mk (xs_t4 230 rfl) rfl
theorem hw_952 : (Jvm.Cond.instanceMethod ({ cls := "WideNetModel", name := "dataCode", desc := "(IIIIII)V" } : Jvm.MethodName)) ∈ xs_U := xs_mk (xs_t4 232 rfl) rfl
theorem hw_953 : (Jvm.Cond.code ({ cls := "WideNetModel", name := "dataCode", desc := "(IIIIII)V" } : Jvm.MethodName) prog_12_method_23_code (8 : Nat) (Option.none : Option Jvm.ClassFile.FieldType)) ∈ xs_U := xs_mk (xs_t4 233 rfl) rfl
theorem hw_954 : (Jvm.Cond.methodLink "WideNetLaw" (37 : Nat) ({ cls := "WideNetModel", name := "skip", desc := "(II)I" } : Jvm.MethodName)) ∈ xs_U := xs_mk (xs_t4 234 rfl) rfl
theorem hw_955 : (Jvm.Cond.instanceMethod ({ cls := "WideNetModel", name := "skip", desc := "(II)I" } : Jvm.MethodName)) ∈ xs_U := xs_mk (xs_t4 235 rfl) rfl
theorem hw_956 : (Jvm.Cond.selects "WideNetModel" ({ cls := "WideNetModel", name := "skip", desc := "(II)I" } : Jvm.MethodName) ({ cls := "WideNetModel", name := "skip", desc := "(II)I" } : Jvm.MethodName)) ∈ xs_U := xs_mk (xs_t4 236 rfl) rfl
theorem hw_957 : (Jvm.Cond.code ({ cls := "WideNetModel", name := "skip", desc := "(II)I" } : Jvm.MethodName) prog_12_method_36_code (3 : Nat) (Option.some Jvm.ClassFile.FieldType.int)) ∈ xs_U := xs_mk (xs_t4 237 rfl) rfl
theorem hw_958 : (Jvm.Cond.constant "WideNetModel" (216 : Nat) (70000 : Int32)) ∈ xs_U := xs_mk (xs_t4 238 rfl) rfl
theorem hw_959 : (Jvm.Cond.methodLink "WideNetLaw" (56 : Nat) ({ cls := "WideNetModel", name := "reach", desc := "(I)Z" } : Jvm.MethodName)) ∈ xs_U := xs_mk (xs_t4 239 rfl) rfl
theorem hw_960 : (Jvm.Cond.instanceMethod ({ cls := "WideNetModel", name := "reach", desc := "(I)Z" } : Jvm.MethodName)) ∈ xs_U := xs_mk (xs_t5 0 rfl) rfl
theorem hw_961 : (Jvm.Cond.selects "WideNetModel" ({ cls := "WideNetModel", name := "reach", desc := "(I)Z" } : Jvm.MethodName) ({ cls := "WideNetModel", name := "reach", desc := "(I)Z" } : Jvm.MethodName)) ∈ xs_U := xs_mk (xs_t5 1 rfl) rfl
theorem hw_962 : (Jvm.Cond.code ({ cls := "WideNetModel", name := "reach", desc := "(I)Z" } : Jvm.MethodName) prog_12_method_42_code (4 : Nat) (Option.some Jvm.ClassFile.FieldType.boolean)) ∈ xs_U := xs_mk (xs_t5 2 rfl) rfl
theorem hw_963 : (Jvm.Cond.methodLink "WideNetModel" (246 : Nat) ({ cls := "WideNetModel", name := "leave", desc := "(I)V" } : Jvm.MethodName)) ∈ xs_U := xs_mk (xs_t5 3 rfl) rfl
theorem hw_965 : (Jvm.Cond.instanceMethod ({ cls := "WideNetModel", name := "leave", desc := "(I)V" } : Jvm.MethodName)) ∈ xs_U := xs_mk (xs_t5 5 rfl) rfl
theorem hw_966 : (Jvm.Cond.code ({ cls := "WideNetModel", name := "leave", desc := "(I)V" } : Jvm.MethodName) prog_12_method_21_code (3 : Nat) (Option.none : Option Jvm.ClassFile.FieldType)) ∈ xs_U := xs_mk (xs_t5 6 rfl) rfl
theorem hw_967 : (Jvm.Cond.methodLink "WideNetModel" (249 : Nat) ({ cls := "WideNetModel", name := "takeAccept", desc := "(I)V" } : Jvm.MethodName)) ∈ xs_U := xs_mk (xs_t5 7 rfl) rfl
theorem hw_969 : (Jvm.Cond.instanceMethod ({ cls := "WideNetModel", name := "takeAccept", desc := "(I)V" } : Jvm.MethodName)) ∈ xs_U := xs_mk (xs_t5 9 rfl) rfl
theorem hw_970 : (Jvm.Cond.code ({ cls := "WideNetModel", name := "takeAccept", desc := "(I)V" } : Jvm.MethodName) prog_12_method_39_code (3 : Nat) (Option.none : Option Jvm.ClassFile.FieldType)) ∈ xs_U := xs_mk (xs_t5 10 rfl) rfl
theorem hw_971 : (Jvm.Cond.methodLink "WideNetModel" (221 : Nat) ({ cls := "WideNetModel", name := "numberAt", desc := "(III)I" } : Jvm.MethodName)) ∈ xs_U := xs_mk (xs_t5 11 rfl) rfl
theorem hw_973 : (Jvm.Cond.instanceMethod ({ cls := "WideNetModel", name := "numberAt", desc := "(III)I" } : Jvm.MethodName)) ∈ xs_U := xs_mk (xs_t5 13 rfl) rfl
theorem hw_974 : (Jvm.Cond.code ({ cls := "WideNetModel", name := "numberAt", desc := "(III)I" } : Jvm.MethodName) prog_12_method_18_code (6 : Nat) (Option.some Jvm.ClassFile.FieldType.int)) ∈ xs_U := xs_mk (xs_t5 14 rfl) rfl
theorem hw_975 : (Jvm.Cond.methodLink "WideNetModel" (225 : Nat) ({ cls := "WideNetModel", name := "endsWithCode", desc := "(I)Z" } : Jvm.MethodName)) ∈ xs_U := xs_mk (xs_t5 15 rfl) rfl
theorem hw_977 : (Jvm.Cond.instanceMethod ({ cls := "WideNetModel", name := "endsWithCode", desc := "(I)Z" } : Jvm.MethodName)) ∈ xs_U := xs_mk (xs_t5 17 rfl) rfl
theorem hw_978 : (Jvm.Cond.code ({ cls := "WideNetModel", name := "endsWithCode", desc := "(I)Z" } : Jvm.MethodName) prog_12_method_25_code (4 : Nat) (Option.some Jvm.ClassFile.FieldType.boolean)) ∈ xs_U := xs_mk (xs_t5 18 rfl) rfl
theorem hw_979 : (Jvm.Cond.methodLink "WideNetModel" (228 : Nat) ({ cls := "WideNetModel", name := "derive", desc := "(IIII)V" } : Jvm.MethodName)) ∈ xs_U := xs_mk (xs_t5 19 rfl) rfl
theorem hw_981 : (Jvm.Cond.instanceMethod ({ cls := "WideNetModel", name := "derive", desc := "(IIII)V" } : Jvm.MethodName)) ∈ xs_U := xs_mk (xs_t5 21 rfl) rfl
theorem hw_982 : (Jvm.Cond.code ({ cls := "WideNetModel", name := "derive", desc := "(IIII)V" } : Jvm.MethodName) prog_12_method_14_code (7 : Nat) (Option.none : Option Jvm.ClassFile.FieldType)) ∈ xs_U := xs_mk (xs_t5 22 rfl) rfl
theorem hw_983 : (Jvm.Cond.methodLink "WideNetModel" (252 : Nat) ({ cls := "WideNetModel", name := "takeData", desc := "(I)V" } : Jvm.MethodName)) ∈ xs_U := xs_mk (xs_t5 23 rfl) rfl
theorem hw_985 : (Jvm.Cond.instanceMethod ({ cls := "WideNetModel", name := "takeData", desc := "(I)V" } : Jvm.MethodName)) ∈ xs_U := xs_mk (xs_t5 25 rfl) rfl
theorem hw_986 : (Jvm.Cond.code ({ cls := "WideNetModel", name := "takeData", desc := "(I)V" } : Jvm.MethodName) prog_12_method_41_code (6 : Nat) (Option.none : Option Jvm.ClassFile.FieldType)) ∈ xs_U := xs_mk (xs_t5 26 rfl) rfl
theorem hw_987 : (Jvm.Cond.methodLink "WideNetModel" (232 : Nat) ({ cls := "WideNetModel", name := "payloadOf", desc := "(I)I" } : Jvm.MethodName)) ∈ xs_U := xs_mk (xs_t5 27 rfl) rfl
theorem hw_989 : (Jvm.Cond.instanceMethod ({ cls := "WideNetModel", name := "payloadOf", desc := "(I)I" } : Jvm.MethodName)) ∈ xs_U := xs_mk (xs_t5 29 rfl) rfl
theorem hw_990 : (Jvm.Cond.code ({ cls := "WideNetModel", name := "payloadOf", desc := "(I)I" } : Jvm.MethodName) prog_12_method_29_code (3 : Nat) (Option.some Jvm.ClassFile.FieldType.int)) ∈ xs_U := xs_mk (xs_t5 30 rfl) rfl
theorem hw_991 : (Jvm.Cond.methodLink "WideNetModel" (235 : Nat) ({ cls := "WideNetModel", name := "ending", desc := "(II)I" } : Jvm.MethodName)) ∈ xs_U := xs_mk (xs_t5 31 rfl) rfl
theorem hw_992 : (Jvm.Cond.static ({ cls := "WideNetModel", name := "ending", desc := "(II)I" } : Jvm.MethodName)) ∈ xs_U := xs_mk (xs_t5 32 rfl) rfl
theorem hw_993 : (Jvm.Cond.code ({ cls := "WideNetModel", name := "ending", desc := "(II)I" } : Jvm.MethodName) prog_12_method_40_code (3 : Nat) (Option.some Jvm.ClassFile.FieldType.int)) ∈ xs_U := xs_mk (xs_t5 33 rfl) rfl
theorem hw_994 : (Jvm.Cond.constant "WideNetModel" (231 : Nat) (65536 : Int32)) ∈ xs_U := xs_mk (xs_t5 34 rfl) rfl
theorem hw_995 : (Jvm.Cond.methodLink "WideNetModel" (238 : Nat) ({ cls := "WideNetModel", name := "payloadAt", desc := "(II)J" } : Jvm.MethodName)) ∈ xs_U := xs_mk (xs_t5 35 rfl) rfl
theorem hw_997 : (Jvm.Cond.instanceMethod ({ cls := "WideNetModel", name := "payloadAt", desc := "(II)J" } : Jvm.MethodName)) ∈ xs_U := xs_mk (xs_t5 37 rfl) rfl
theorem hw_998 : (Jvm.Cond.code ({ cls := "WideNetModel", name := "payloadAt", desc := "(II)J" } : Jvm.MethodName) prog_12_method_30_code (6 : Nat) (Option.some Jvm.ClassFile.FieldType.long)) ∈ xs_U := xs_mk (xs_t5 38 rfl) rfl
theorem hw_999 : (Jvm.Cond.methodLink "WideNetModel" (242 : Nat) ({ cls := "WideNetModel", name := "receive", desc := "(IJ)V" } : Jvm.MethodName)) ∈ xs_U := xs_mk (xs_t5 39 rfl) rfl
theorem hw_1001 : (Jvm.Cond.instanceMethod ({ cls := "WideNetModel", name := "receive", desc := "(IJ)V" } : Jvm.MethodName)) ∈ xs_U := xs_mk (xs_t5 41 rfl) rfl
theorem hw_1002 : (Jvm.Cond.code ({ cls := "WideNetModel", name := "receive", desc := "(IJ)V" } : Jvm.MethodName) prog_12_method_31_code (4 : Nat) (Option.none : Option Jvm.ClassFile.FieldType)) ∈ xs_U := xs_mk (xs_t5 42 rfl) rfl
theorem hw_1003 : (Jvm.Cond.methodLink "WideNetModel" (217 : Nat) ({ cls := "WideNetModel", name := "confirmed", desc := "(I)Z" } : Jvm.MethodName)) ∈ xs_U := xs_mk (xs_t5 43 rfl) rfl
theorem hw_1005 : (Jvm.Cond.instanceMethod ({ cls := "WideNetModel", name := "confirmed", desc := "(I)Z" } : Jvm.MethodName)) ∈ xs_U := xs_mk (xs_t5 45 rfl) rfl
theorem hw_1006 : (Jvm.Cond.code ({ cls := "WideNetModel", name := "confirmed", desc := "(I)Z" } : Jvm.MethodName) prog_12_method_37_code (2 : Nat) (Option.some Jvm.ClassFile.FieldType.boolean)) ∈ xs_U := xs_mk (xs_t5 46 rfl) rfl
theorem hw_1007 : (Jvm.Cond.methodLink "WideNetLaw" (42 : Nat) ({ cls := "WideNetModel", name := "queue", desc := "(IJI)I" } : Jvm.MethodName)) ∈ xs_U := xs_mk (xs_t5 47 rfl) rfl
theorem hw_1008 : (Jvm.Cond.instanceMethod ({ cls := "WideNetModel", name := "queue", desc := "(IJI)I" } : Jvm.MethodName)) ∈ xs_U := xs_mk (xs_t5 48 rfl) rfl
theorem hw_1009 : (Jvm.Cond.selects "WideNetModel" ({ cls := "WideNetModel", name := "queue", desc := "(IJI)I" } : Jvm.MethodName) ({ cls := "WideNetModel", name := "queue", desc := "(IJI)I" } : Jvm.MethodName)) ∈ xs_U := xs_mk (xs_t5 49 rfl) rfl
theorem hw_1010 : (Jvm.Cond.code ({ cls := "WideNetModel", name := "queue", desc := "(IJI)I" } : Jvm.MethodName) prog_12_method_43_code (5 : Nat) (Option.some Jvm.ClassFile.FieldType.int)) ∈ xs_U := xs_mk (xs_t5 50 rfl) rfl
theorem hw_1011 : (Jvm.Cond.methodLink "WideNetLaw" (51 : Nat) ({ cls := "WideNetModel", name := "hear", desc := "(II)Z" } : Jvm.MethodName)) ∈ xs_U := xs_mk (xs_t5 51 rfl) rfl
theorem hw_1012 : (Jvm.Cond.instanceMethod ({ cls := "WideNetModel", name := "hear", desc := "(II)Z" } : Jvm.MethodName)) ∈ xs_U := xs_mk (xs_t5 52 rfl) rfl
theorem hw_1013 : (Jvm.Cond.selects "WideNetModel" ({ cls := "WideNetModel", name := "hear", desc := "(II)Z" } : Jvm.MethodName) ({ cls := "WideNetModel", name := "hear", desc := "(II)Z" } : Jvm.MethodName)) ∈ xs_U := xs_mk (xs_t5 53 rfl) rfl
theorem hw_1014 : (Jvm.Cond.code ({ cls := "WideNetModel", name := "hear", desc := "(II)Z" } : Jvm.MethodName) prog_12_method_48_code (4 : Nat) (Option.some Jvm.ClassFile.FieldType.boolean)) ∈ xs_U := xs_mk (xs_t5 54 rfl) rfl
theorem hw_1015 : (Jvm.Cond.methodLink "WideNetModel" (266 : Nat) ({ cls := "WideNetModel", name := "heardJoin", desc := "()V" } : Jvm.MethodName)) ∈ xs_U := xs_mk (xs_t5 55 rfl) rfl
theorem hw_1017 : (Jvm.Cond.instanceMethod ({ cls := "WideNetModel", name := "heardJoin", desc := "()V" } : Jvm.MethodName)) ∈ xs_U := xs_mk (xs_t5 57 rfl) rfl
theorem hw_1018 : (Jvm.Cond.code ({ cls := "WideNetModel", name := "heardJoin", desc := "()V" } : Jvm.MethodName) prog_12_method_45_code (3 : Nat) (Option.none : Option Jvm.ClassFile.FieldType)) ∈ xs_U := xs_mk (xs_t5 58 rfl) rfl
theorem hw_1019 : (Jvm.Cond.methodLink "WideNetModel" (255 : Nat) ({ cls := "WideNetModel", name := "zeros", desc := "(III)Z" } : Jvm.MethodName)) ∈ xs_U := xs_mk (xs_t5 59 rfl) rfl
theorem hw_1021 : (Jvm.Cond.instanceMethod ({ cls := "WideNetModel", name := "zeros", desc := "(III)Z" } : Jvm.MethodName)) ∈ xs_U := xs_mk (xs_t5 61 rfl) rfl
theorem hw_1022 : (Jvm.Cond.code ({ cls := "WideNetModel", name := "zeros", desc := "(III)Z" } : Jvm.MethodName) prog_12_method_44_code (6 : Nat) (Option.some Jvm.ClassFile.FieldType.boolean)) ∈ xs_U := xs_mk (xs_t5 62 rfl) rfl
theorem hw_1023 : (Jvm.Cond.constant "WideNetModel" (262 : Nat) (637534208 : Int32)) ∈ xs_U := xs_mk (xs_t5 63 rfl) rfl
theorem hw_1024 : (Jvm.Cond.methodLink "WideNetModel" (269 : Nat) ({ cls := "WideNetModel", name := "heardData", desc := "(I)V" } : Jvm.MethodName)) ∈ xs_U := xs_mk (xs_t5 64 rfl) rfl
theorem hw_1026 : (Jvm.Cond.instanceMethod ({ cls := "WideNetModel", name := "heardData", desc := "(I)V" } : Jvm.MethodName)) ∈ xs_U := xs_mk (xs_t5 66 rfl) rfl
theorem hw_1027 : (Jvm.Cond.code ({ cls := "WideNetModel", name := "heardData", desc := "(I)V" } : Jvm.MethodName) prog_12_method_47_code (9 : Nat) (Option.none : Option Jvm.ClassFile.FieldType)) ∈ xs_U := xs_mk (xs_t5 67 rfl) rfl
theorem hw_1028 : (Jvm.Cond.methodLink "WideNetModel" (263 : Nat) ({ cls := "WideNetModel", name := "deviceOf", desc := "(I)I" } : Jvm.MethodName)) ∈ xs_U := xs_mk (xs_t5 68 rfl) rfl
theorem hw_1030 : (Jvm.Cond.instanceMethod ({ cls := "WideNetModel", name := "deviceOf", desc := "(I)I" } : Jvm.MethodName)) ∈ xs_U := xs_mk (xs_t5 70 rfl) rfl
theorem hw_1031 : (Jvm.Cond.code ({ cls := "WideNetModel", name := "deviceOf", desc := "(I)I" } : Jvm.MethodName) prog_12_method_46_code (4 : Nat) (Option.some Jvm.ClassFile.FieldType.int)) ∈ xs_U := xs_mk (xs_t5 71 rfl) rfl
theorem hw_1032 : (Jvm.Cond.methodLink "WideNetLaw" (46 : Nat) ({ cls := "WideNetModel", name := "tick", desc := "(I)I" } : Jvm.MethodName)) ∈ xs_U := xs_mk (xs_t5 72 rfl) rfl
theorem hw_1033 : (Jvm.Cond.instanceMethod ({ cls := "WideNetModel", name := "tick", desc := "(I)I" } : Jvm.MethodName)) ∈ xs_U := xs_mk (xs_t5 73 rfl) rfl
theorem hw_1034 : (Jvm.Cond.selects "WideNetModel" ({ cls := "WideNetModel", name := "tick", desc := "(I)I" } : Jvm.MethodName) ({ cls := "WideNetModel", name := "tick", desc := "(I)I" } : Jvm.MethodName)) ∈ xs_U := xs_mk (xs_t5 74 rfl) rfl
theorem hw_1035 : (Jvm.Cond.code ({ cls := "WideNetModel", name := "tick", desc := "(I)I" } : Jvm.MethodName) prog_12_method_51_code (4 : Nat) (Option.some Jvm.ClassFile.FieldType.int)) ∈ xs_U := xs_mk (xs_t5 75 rfl) rfl
theorem hw_1036 : (Jvm.Cond.methodLink "WideNetModel" (275 : Nat) ({ cls := "WideNetModel", name := "sendAccept", desc := "(I)V" } : Jvm.MethodName)) ∈ xs_U := xs_mk (xs_t5 76 rfl) rfl
theorem hw_1038 : (Jvm.Cond.instanceMethod ({ cls := "WideNetModel", name := "sendAccept", desc := "(I)V" } : Jvm.MethodName)) ∈ xs_U := xs_mk (xs_t5 78 rfl) rfl
theorem hw_1039 : (Jvm.Cond.code ({ cls := "WideNetModel", name := "sendAccept", desc := "(I)V" } : Jvm.MethodName) prog_12_method_49_code (3 : Nat) (Option.none : Option Jvm.ClassFile.FieldType)) ∈ xs_U := xs_mk (xs_t5 79 rfl) rfl
theorem hw_1040 : (Jvm.Cond.methodLink "WideNetModel" (272 : Nat) ({ cls := "WideNetModel", name := "decipher", desc := "(I)V" } : Jvm.MethodName)) ∈ xs_U := xs_mk (xs_t5 80 rfl) rfl
theorem hw_1042 : (Jvm.Cond.instanceMethod ({ cls := "WideNetModel", name := "decipher", desc := "(I)V" } : Jvm.MethodName)) ∈ xs_U := xs_mk (xs_t5 82 rfl) rfl
theorem hw_1043 : (Jvm.Cond.code ({ cls := "WideNetModel", name := "decipher", desc := "(I)V" } : Jvm.MethodName) prog_12_method_11_code (4 : Nat) (Option.none : Option Jvm.ClassFile.FieldType)) ∈ xs_U := xs_mk (xs_t5 83 rfl) rfl
theorem hw_1044 : (Jvm.Cond.methodLink "WideNetModel" (278 : Nat) ({ cls := "WideNetModel", name := "sendAnswer", desc := "(I)V" } : Jvm.MethodName)) ∈ xs_U := xs_mk (xs_t5 84 rfl) rfl
theorem hw_1046 : (Jvm.Cond.instanceMethod ({ cls := "WideNetModel", name := "sendAnswer", desc := "(I)V" } : Jvm.MethodName)) ∈ xs_U := xs_mk (xs_t5 86 rfl) rfl
theorem hw_1047 : (Jvm.Cond.code ({ cls := "WideNetModel", name := "sendAnswer", desc := "(I)V" } : Jvm.MethodName) prog_12_method_50_code (6 : Nat) (Option.none : Option Jvm.ClassFile.FieldType)) ∈ xs_U := xs_mk (xs_t5 87 rfl) rfl
theorem hw_1048 : (Jvm.Cond.methodLink "WideNetModel" (281 : Nat) ({ cls := "WideNetModel", name := "timeOut", desc := "(I)V" } : Jvm.MethodName)) ∈ xs_U := xs_mk (xs_t5 88 rfl) rfl
theorem hw_1050 : (Jvm.Cond.instanceMethod ({ cls := "WideNetModel", name := "timeOut", desc := "(I)V" } : Jvm.MethodName)) ∈ xs_U := xs_mk (xs_t5 90 rfl) rfl
theorem hw_1051 : (Jvm.Cond.code ({ cls := "WideNetModel", name := "timeOut", desc := "(I)V" } : Jvm.MethodName) prog_12_method_38_code (2 : Nat) (Option.none : Option Jvm.ClassFile.FieldType)) ∈ xs_U := xs_mk (xs_t5 91 rfl) rfl
theorem hw_1052 : (Jvm.Cond.methodLink "WideNetLaw" (60 : Nat) ({ cls := "WideNetModel", name := "lose", desc := "(I)Z" } : Jvm.MethodName)) ∈ xs_U := xs_mk (xs_t5 92 rfl) rfl
theorem hw_1053 : (Jvm.Cond.instanceMethod ({ cls := "WideNetModel", name := "lose", desc := "(I)Z" } : Jvm.MethodName)) ∈ xs_U := xs_mk (xs_t5 93 rfl) rfl
theorem hw_1054 : (Jvm.Cond.selects "WideNetModel" ({ cls := "WideNetModel", name := "lose", desc := "(I)Z" } : Jvm.MethodName) ({ cls := "WideNetModel", name := "lose", desc := "(I)Z" } : Jvm.MethodName)) ∈ xs_U := xs_mk (xs_t5 94 rfl) rfl
theorem hw_1055 : (Jvm.Cond.code ({ cls := "WideNetModel", name := "lose", desc := "(I)Z" } : Jvm.MethodName) prog_12_method_52_code (2 : Nat) (Option.some Jvm.ClassFile.FieldType.boolean)) ∈ xs_U := xs_mk (xs_t5 95 rfl) rfl
theorem hw_1056 : (Jvm.Cond.methodLink "WideNetLaw" (64 : Nat) ({ cls := "WideNetModel", name := "replay", desc := "(I)Z" } : Jvm.MethodName)) ∈ xs_U := xs_mk (xs_t5 96 rfl) rfl
theorem hw_1057 : (Jvm.Cond.instanceMethod ({ cls := "WideNetModel", name := "replay", desc := "(I)Z" } : Jvm.MethodName)) ∈ xs_U := xs_mk (xs_t5 97 rfl) rfl
theorem hw_1058 : (Jvm.Cond.selects "WideNetModel" ({ cls := "WideNetModel", name := "replay", desc := "(I)Z" } : Jvm.MethodName) ({ cls := "WideNetModel", name := "replay", desc := "(I)Z" } : Jvm.MethodName)) ∈ xs_U := xs_mk (xs_t5 98 rfl) rfl
theorem hw_1059 : (Jvm.Cond.code ({ cls := "WideNetModel", name := "replay", desc := "(I)Z" } : Jvm.MethodName) prog_12_method_53_code (2 : Nat) (Option.some Jvm.ClassFile.FieldType.boolean)) ∈ xs_U := xs_mk (xs_t5 99 rfl) rfl
theorem hw_1060 : (Jvm.Cond.methodLink "WideNetLaw" (69 : Nat) ({ cls := "WideNetModel", name := "spoil", desc := "(III)Z" } : Jvm.MethodName)) ∈ xs_U := xs_mk (xs_t5 100 rfl) rfl
theorem hw_1061 : (Jvm.Cond.instanceMethod ({ cls := "WideNetModel", name := "spoil", desc := "(III)Z" } : Jvm.MethodName)) ∈ xs_U := xs_mk (xs_t5 101 rfl) rfl
theorem hw_1062 : (Jvm.Cond.selects "WideNetModel" ({ cls := "WideNetModel", name := "spoil", desc := "(III)Z" } : Jvm.MethodName) ({ cls := "WideNetModel", name := "spoil", desc := "(III)Z" } : Jvm.MethodName)) ∈ xs_U := xs_mk (xs_t5 102 rfl) rfl
theorem hw_1063 : (Jvm.Cond.code ({ cls := "WideNetModel", name := "spoil", desc := "(III)Z" } : Jvm.MethodName) prog_12_method_54_code (4 : Nat) (Option.some Jvm.ClassFile.FieldType.boolean)) ∈ xs_U := xs_mk (xs_t5 103 rfl) rfl
theorem hw_1064 : (Jvm.Cond.methodLink "WideNetLaw" (74 : Nat) ({ cls := "WideNetModel", name := "frames", desc := "()I" } : Jvm.MethodName)) ∈ xs_U := xs_mk (xs_t5 104 rfl) rfl
theorem hw_1065 : (Jvm.Cond.instanceMethod ({ cls := "WideNetModel", name := "frames", desc := "()I" } : Jvm.MethodName)) ∈ xs_U := xs_mk (xs_t5 105 rfl) rfl
theorem hw_1066 : (Jvm.Cond.selects "WideNetModel" ({ cls := "WideNetModel", name := "frames", desc := "()I" } : Jvm.MethodName) ({ cls := "WideNetModel", name := "frames", desc := "()I" } : Jvm.MethodName)) ∈ xs_U := xs_mk (xs_t5 106 rfl) rfl
theorem hw_1067 : (Jvm.Cond.code ({ cls := "WideNetModel", name := "frames", desc := "()I" } : Jvm.MethodName) prog_12_method_55_code (1 : Nat) (Option.some Jvm.ClassFile.FieldType.int)) ∈ xs_U := xs_mk (xs_t5 107 rfl) rfl
theorem hw_1068 : (Jvm.Cond.methodLink "WideNetLaw" (78 : Nat) ({ cls := "WideNetModel", name := "length", desc := "(I)I" } : Jvm.MethodName)) ∈ xs_U := xs_mk (xs_t5 108 rfl) rfl
theorem hw_1069 : (Jvm.Cond.instanceMethod ({ cls := "WideNetModel", name := "length", desc := "(I)I" } : Jvm.MethodName)) ∈ xs_U := xs_mk (xs_t5 109 rfl) rfl
theorem hw_1070 : (Jvm.Cond.selects "WideNetModel" ({ cls := "WideNetModel", name := "length", desc := "(I)I" } : Jvm.MethodName) ({ cls := "WideNetModel", name := "length", desc := "(I)I" } : Jvm.MethodName)) ∈ xs_U := xs_mk (xs_t5 110 rfl) rfl
theorem hw_1071 : (Jvm.Cond.code ({ cls := "WideNetModel", name := "length", desc := "(I)I" } : Jvm.MethodName) prog_12_method_56_code (2 : Nat) (Option.some Jvm.ClassFile.FieldType.int)) ∈ xs_U := xs_mk (xs_t5 111 rfl) rfl
theorem hw_1072 : (Jvm.Cond.methodLink "WideNetLaw" (82 : Nat) ({ cls := "WideNetModel", name := "octet", desc := "(II)I" } : Jvm.MethodName)) ∈ xs_U := xs_mk (xs_t5 112 rfl) rfl
theorem hw_1073 : (Jvm.Cond.instanceMethod ({ cls := "WideNetModel", name := "octet", desc := "(II)I" } : Jvm.MethodName)) ∈ xs_U := xs_mk (xs_t5 113 rfl) rfl
theorem hw_1074 : (Jvm.Cond.selects "WideNetModel" ({ cls := "WideNetModel", name := "octet", desc := "(II)I" } : Jvm.MethodName) ({ cls := "WideNetModel", name := "octet", desc := "(II)I" } : Jvm.MethodName)) ∈ xs_U := xs_mk (xs_t5 114 rfl) rfl
theorem hw_1075 : (Jvm.Cond.code ({ cls := "WideNetModel", name := "octet", desc := "(II)I" } : Jvm.MethodName) prog_12_method_57_code (3 : Nat) (Option.some Jvm.ClassFile.FieldType.int)) ∈ xs_U := xs_mk (xs_t5 115 rfl) rfl
theorem hw_1076 : (Jvm.Cond.methodLink "WideNetLaw" (86 : Nat) ({ cls := "WideNetModel", name := "goal", desc := "(I)I" } : Jvm.MethodName)) ∈ xs_U := xs_mk (xs_t5 116 rfl) rfl
theorem hw_1077 : (Jvm.Cond.instanceMethod ({ cls := "WideNetModel", name := "goal", desc := "(I)I" } : Jvm.MethodName)) ∈ xs_U := xs_mk (xs_t5 117 rfl) rfl
theorem hw_1078 : (Jvm.Cond.selects "WideNetModel" ({ cls := "WideNetModel", name := "goal", desc := "(I)I" } : Jvm.MethodName) ({ cls := "WideNetModel", name := "goal", desc := "(I)I" } : Jvm.MethodName)) ∈ xs_U := xs_mk (xs_t5 118 rfl) rfl
theorem hw_1079 : (Jvm.Cond.code ({ cls := "WideNetModel", name := "goal", desc := "(I)I" } : Jvm.MethodName) prog_12_method_58_code (2 : Nat) (Option.some Jvm.ClassFile.FieldType.int)) ∈ xs_U := xs_mk (xs_t5 119 rfl) rfl
theorem hw_1080 : (Jvm.Cond.methodLink "WideNetLaw" (90 : Nat) ({ cls := "WideNetModel", name := "state", desc := "(I)I" } : Jvm.MethodName)) ∈ xs_U := xs_mk (xs_t5 120 rfl) rfl
theorem hw_1081 : (Jvm.Cond.instanceMethod ({ cls := "WideNetModel", name := "state", desc := "(I)I" } : Jvm.MethodName)) ∈ xs_U := xs_mk (xs_t5 121 rfl) rfl
theorem hw_1082 : (Jvm.Cond.selects "WideNetModel" ({ cls := "WideNetModel", name := "state", desc := "(I)I" } : Jvm.MethodName) ({ cls := "WideNetModel", name := "state", desc := "(I)I" } : Jvm.MethodName)) ∈ xs_U := xs_mk (xs_t5 122 rfl) rfl
theorem hw_1083 : (Jvm.Cond.code ({ cls := "WideNetModel", name := "state", desc := "(I)I" } : Jvm.MethodName) prog_12_method_59_code (2 : Nat) (Option.some Jvm.ClassFile.FieldType.int)) ∈ xs_U := xs_mk (xs_t5 123 rfl) rfl
theorem hw_1084 : (Jvm.Cond.methodLink "WideNetLaw" (95 : Nat) ({ cls := "WideNetModel", name := "received", desc := "(IZ)I" } : Jvm.MethodName)) ∈ xs_U := xs_mk (xs_t5 124 rfl) rfl
theorem hw_1085 : (Jvm.Cond.instanceMethod ({ cls := "WideNetModel", name := "received", desc := "(IZ)I" } : Jvm.MethodName)) ∈ xs_U := xs_mk (xs_t5 125 rfl) rfl
theorem hw_1086 : (Jvm.Cond.selects "WideNetModel" ({ cls := "WideNetModel", name := "received", desc := "(IZ)I" } : Jvm.MethodName) ({ cls := "WideNetModel", name := "received", desc := "(IZ)I" } : Jvm.MethodName)) ∈ xs_U := xs_mk (xs_t5 126 rfl) rfl
theorem hw_1087 : (Jvm.Cond.code ({ cls := "WideNetModel", name := "received", desc := "(IZ)I" } : Jvm.MethodName) prog_12_method_60_code (3 : Nat) (Option.some Jvm.ClassFile.FieldType.int)) ∈ xs_U := xs_mk (xs_t5 127 rfl) rfl
theorem hw_1088 : (Jvm.Cond.methodLink "WideNetLaw" (100 : Nat) ({ cls := "WideNetModel", name := "payload", desc := "(IZI)J" } : Jvm.MethodName)) ∈ xs_U := xs_mk (xs_t5 128 rfl) rfl
theorem hw_1089 : (Jvm.Cond.instanceMethod ({ cls := "WideNetModel", name := "payload", desc := "(IZI)J" } : Jvm.MethodName)) ∈ xs_U := xs_mk (xs_t5 129 rfl) rfl
theorem hw_1090 : (Jvm.Cond.selects "WideNetModel" ({ cls := "WideNetModel", name := "payload", desc := "(IZI)J" } : Jvm.MethodName) ({ cls := "WideNetModel", name := "payload", desc := "(IZI)J" } : Jvm.MethodName)) ∈ xs_U := xs_mk (xs_t5 130 rfl) rfl
theorem hw_1091 : (Jvm.Cond.code ({ cls := "WideNetModel", name := "payload", desc := "(IZI)J" } : Jvm.MethodName) prog_12_method_61_code (5 : Nat) (Option.some Jvm.ClassFile.FieldType.long)) ∈ xs_U := xs_mk (xs_t5 131 rfl) rfl
theorem hw_1092 : (Jvm.Cond.constantLong "WideNetModel" (284 : Nat) (-1 : Int64)) ∈ xs_U := xs_mk (xs_t5 132 rfl) rfl
theorem hw_1093 : (Jvm.Cond.methodLink "WideNetLaw" (104 : Nat) ({ cls := "WideNetModel", name := "tally", desc := "(II)I" } : Jvm.MethodName)) ∈ xs_U := xs_mk (xs_t5 133 rfl) rfl
theorem hw_1094 : (Jvm.Cond.instanceMethod ({ cls := "WideNetModel", name := "tally", desc := "(II)I" } : Jvm.MethodName)) ∈ xs_U := xs_mk (xs_t5 134 rfl) rfl
theorem hw_1095 : (Jvm.Cond.selects "WideNetModel" ({ cls := "WideNetModel", name := "tally", desc := "(II)I" } : Jvm.MethodName) ({ cls := "WideNetModel", name := "tally", desc := "(II)I" } : Jvm.MethodName)) ∈ xs_U := xs_mk (xs_t5 135 rfl) rfl
theorem hw_1096 : (Jvm.Cond.code ({ cls := "WideNetModel", name := "tally", desc := "(II)I" } : Jvm.MethodName) prog_12_method_62_code (3 : Nat) (Option.some Jvm.ClassFile.FieldType.int)) ∈ xs_U := xs_mk (xs_t5 136 rfl) rfl
theorem hw_1097 : (Jvm.Cond.constantLong "WideNetLaw" (26 : Nat) (4294967295 : Int64)) ∈ xs_U := xs_mk (xs_t5 137 rfl) rfl
theorem in_W : ∀ w ∈ u_ws R_W T_W 4, w ∈ xs_U := fun w h => by
  obtain ⟨k, hk, rfl⟩ := List.mem_map.mp h
  have hk : k < 4 := List.mem_range.mp hk
  exact match k, hk with
  | 0, _ => hw_351
  | 1, _ => hw_353
  | 2, _ => hw_355
  | 3, _ => hw_357
  | n + 4, h => absurd h (by omega)
theorem in_A : ∀ w ∈ u_ws R_A T_A 4, w ∈ xs_U := fun w h => by
  obtain ⟨k, hk, rfl⟩ := List.mem_map.mp h
  have hk : k < 4 := List.mem_range.mp hk
  exact match k, hk with
  | 0, _ => hw_64
  | 1, _ => hw_66
  | 2, _ => hw_68
  | 3, _ => hw_70
  | n + 4, h => absurd h (by omega)
theorem in_F : ∀ w ∈ u_ws R_F T_F 3, w ∈ xs_U := fun w h => by
  obtain ⟨k, hk, rfl⟩ := List.mem_map.mp h
  have hk : k < 3 := List.mem_range.mp hk
  exact match k, hk with
  | 0, _ => hw_50
  | 1, _ => hw_52
  | 2, _ => hw_54
  | n + 3, h => absurd h (by omega)
theorem in_C : ∀ w ∈ u_ws R_C T_C 1, w ∈ xs_U := fun w h => by
  obtain ⟨k, hk, rfl⟩ := List.mem_map.mp h
  have hk : k < 1 := List.mem_range.mp hk
  exact match k, hk with
  | 0, _ => hw_89
  | n + 1, h => absurd h (by omega)
theorem in_M : ∀ w ∈ u_ws R_M T_M 4, w ∈ xs_U := fun w h => by
  obtain ⟨k, hk, rfl⟩ := List.mem_map.mp h
  have hk : k < 4 := List.mem_range.mp hk
  exact match k, hk with
  | 0, _ => hw_98
  | 1, _ => hw_100
  | 2, _ => hw_102
  | 3, _ => hw_104
  | n + 4, h => absurd h (by omega)
theorem in_S : ∀ w ∈ u_ws R_S T_S 5, w ∈ xs_U := fun w h => by
  obtain ⟨k, hk, rfl⟩ := List.mem_map.mp h
  have hk : k < 5 := List.mem_range.mp hk
  exact match k, hk with
  | 0, _ => hw_170
  | 1, _ => hw_172
  | 2, _ => hw_174
  | 3, _ => hw_176
  | 4, _ => hw_178
  | n + 5, h => absurd h (by omega)
theorem in_I : ∀ w ∈ u_ws R_I T_I 2, w ∈ xs_U := fun w h => by
  obtain ⟨k, hk, rfl⟩ := List.mem_map.mp h
  have hk : k < 2 := List.mem_range.mp hk
  exact match k, hk with
  | 0, _ => hw_190
  | 1, _ => hw_192
  | n + 2, h => absurd h (by omega)
theorem in_D : ∀ w ∈ u_ws R_D T_D 18, w ∈ xs_U := fun w h => by
  obtain ⟨k, hk, rfl⟩ := List.mem_map.mp h
  have hk : k < 18 := List.mem_range.mp hk
  exact match k, hk with
  | 0, _ => hw_224
  | 1, _ => hw_226
  | 2, _ => hw_228
  | 3, _ => hw_230
  | 4, _ => hw_232
  | 5, _ => hw_234
  | 6, _ => hw_236
  | 7, _ => hw_238
  | 8, _ => hw_240
  | 9, _ => hw_242
  | 10, _ => hw_244
  | 11, _ => hw_246
  | 12, _ => hw_248
  | 13, _ => hw_250
  | 14, _ => hw_252
  | 15, _ => hw_254
  | 16, _ => hw_256
  | 17, _ => hw_258
  | n + 18, h => absurd h (by omega)
theorem in_K : ∀ w ∈ u_ws R_K T_K 16, w ∈ xs_U := fun w h => by
  obtain ⟨k, hk, rfl⟩ := List.mem_map.mp h
  have hk : k < 16 := List.mem_range.mp hk
  exact match k, hk with
  | 0, _ => hw_303
  | 1, _ => hw_305
  | 2, _ => hw_307
  | 3, _ => hw_309
  | 4, _ => hw_311
  | 5, _ => hw_313
  | 6, _ => hw_315
  | 7, _ => hw_317
  | 8, _ => hw_319
  | 9, _ => hw_321
  | 10, _ => hw_323
  | 11, _ => hw_325
  | 12, _ => hw_327
  | 13, _ => hw_329
  | 14, _ => hw_331
  | 15, _ => hw_333
  | n + 16, h => absurd h (by omega)
theorem in_V : ∀ w ∈ u_ws R_V T_V 3, w ∈ xs_U := fun w h => by
  obtain ⟨k, hk, rfl⟩ := List.mem_map.mp h
  have hk : k < 3 := List.mem_range.mp hk
  exact match k, hk with
  | 0, _ => hw_340
  | 1, _ => hw_342
  | 2, _ => hw_344
  | n + 3, h => absurd h (by omega)
theorem in_R : ∀ w ∈ u_ws R_R T_R 40, w ∈ xs_U := fun w h => by
  obtain ⟨k, hk, rfl⟩ := List.mem_map.mp h
  have hk : k < 40 := List.mem_range.mp hk
  exact match k, hk with
  | 0, _ => hw_783
  | 1, _ => hw_785
  | 2, _ => hw_787
  | 3, _ => hw_789
  | 4, _ => hw_791
  | 5, _ => hw_793
  | 6, _ => hw_795
  | 7, _ => hw_797
  | 8, _ => hw_799
  | 9, _ => hw_801
  | 10, _ => hw_803
  | 11, _ => hw_805
  | 12, _ => hw_807
  | 13, _ => hw_809
  | 14, _ => hw_811
  | 15, _ => hw_813
  | 16, _ => hw_815
  | 17, _ => hw_817
  | 18, _ => hw_819
  | 19, _ => hw_821
  | 20, _ => hw_823
  | 21, _ => hw_825
  | 22, _ => hw_827
  | 23, _ => hw_829
  | 24, _ => hw_831
  | 25, _ => hw_833
  | 26, _ => hw_835
  | 27, _ => hw_837
  | 28, _ => hw_839
  | 29, _ => hw_841
  | 30, _ => hw_843
  | 31, _ => hw_845
  | 32, _ => hw_847
  | 33, _ => hw_849
  | 34, _ => hw_851
  | 35, _ => hw_853
  | 36, _ => hw_855
  | 37, _ => hw_857
  | 38, _ => hw_859
  | 39, _ => hw_861
  | n + 40, h => absurd h (by omega)
