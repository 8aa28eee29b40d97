set_option maxRecDepth 20000 in
theorem m_9 : (Jvm.Cond.selects "TapOfficeModel" ({ cls := "TapOfficeModel", name := "load", desc := "(I)V" } : Jvm.MethodName) ({ cls := "TapOfficeModel", name := "load", desc := "(I)V" } : Jvm.MethodName)) ∈ lw_tbl := List.mem_of_getElem? (i := 9) rfl
set_option maxRecDepth 20000 in
theorem m_10 : (Jvm.Cond.selects "TapOfficeModel" ({ cls := "TapOfficeModel", name := "base", desc := "(I)I" } : Jvm.MethodName) ({ cls := "TapOfficeModel", name := "base", desc := "(I)I" } : Jvm.MethodName)) ∈ lw_tbl := List.mem_of_getElem? (i := 10) rfl
set_option maxRecDepth 20000 in
theorem m_11 : (Jvm.Cond.selects "TapOfficeModel" ({ cls := "TapOfficeModel", name := "spent", desc := "(I)I" } : Jvm.MethodName) ({ cls := "TapOfficeModel", name := "spent", desc := "(I)I" } : Jvm.MethodName)) ∈ lw_tbl := List.mem_of_getElem? (i := 11) rfl
set_option maxRecDepth 20000 in
theorem m_12 : (Jvm.Cond.selects "TapOfficeModel" ({ cls := "TapOfficeModel", name := "leave", desc := "(II)I" } : Jvm.MethodName) ({ cls := "TapOfficeModel", name := "leave", desc := "(II)I" } : Jvm.MethodName)) ∈ lw_tbl := List.mem_of_getElem? (i := 12) rfl
set_option maxRecDepth 20000 in
theorem m_13 : (Jvm.Cond.selects "TapOfficeModel" ({ cls := "TapOfficeModel", name := "full", desc := "(I)I" } : Jvm.MethodName) ({ cls := "TapOfficeModel", name := "full", desc := "(I)I" } : Jvm.MethodName)) ∈ lw_tbl := List.mem_of_getElem? (i := 13) rfl
set_option maxRecDepth 20000 in
theorem m_14 : (Jvm.Cond.selects "TapOfficeModel" ({ cls := "TapOfficeModel", name := "price", desc := "(II)I" } : Jvm.MethodName) ({ cls := "TapOfficeModel", name := "price", desc := "(II)I" } : Jvm.MethodName)) ∈ lw_tbl := List.mem_of_getElem? (i := 14) rfl
set_option maxRecDepth 20000 in
theorem m_15 : (Jvm.Cond.selects "TapOfficeModel" ({ cls := "TapOfficeModel", name := "capped", desc := "(II)I" } : Jvm.MethodName) ({ cls := "TapOfficeModel", name := "capped", desc := "(II)I" } : Jvm.MethodName)) ∈ lw_tbl := List.mem_of_getElem? (i := 15) rfl
set_option maxRecDepth 20000 in
theorem m_16 : (Jvm.Cond.selects "TapOfficeModel" ({ cls := "TapOfficeModel", name := "enter", desc := "(II)I" } : Jvm.MethodName) ({ cls := "TapOfficeModel", name := "enter", desc := "(II)I" } : Jvm.MethodName)) ∈ lw_tbl := List.mem_of_getElem? (i := 16) rfl
set_option maxRecDepth 20000 in
theorem m_17 : (Jvm.Cond.selects "TapOfficeModel" ({ cls := "TapOfficeModel", name := "counter", desc := "(I)I" } : Jvm.MethodName) ({ cls := "TapOfficeModel", name := "counter", desc := "(I)I" } : Jvm.MethodName)) ∈ lw_tbl := List.mem_of_getElem? (i := 17) rfl
set_option maxRecDepth 20000 in
theorem m_18 : (Jvm.Cond.selects "TapOfficeModel" ({ cls := "TapOfficeModel", name := "change", desc := "(II)V" } : Jvm.MethodName) ({ cls := "TapOfficeModel", name := "change", desc := "(II)V" } : Jvm.MethodName)) ∈ lw_tbl := List.mem_of_getElem? (i := 18) rfl
set_option maxRecDepth 20000 in
theorem m_19 : (Jvm.Cond.selects "TapOfficeModel" ({ cls := "TapOfficeModel", name := "enterOffice", desc := "(IIIII)V" } : Jvm.MethodName) ({ cls := "TapOfficeModel", name := "enterOffice", desc := "(IIIII)V" } : Jvm.MethodName)) ∈ lw_tbl := List.mem_of_getElem? (i := 19) rfl
set_option maxRecDepth 20000 in
theorem m_20 : (Jvm.Cond.selects "TapOfficeModel" ({ cls := "TapOfficeModel", name := "known", desc := "(I)I" } : Jvm.MethodName) ({ cls := "TapOfficeModel", name := "known", desc := "(I)I" } : Jvm.MethodName)) ∈ lw_tbl := List.mem_of_getElem? (i := 20) rfl
set_option maxRecDepth 20000 in
theorem m_21 : (Jvm.Cond.selects "TapOfficeModel" ({ cls := "TapOfficeModel", name := "greatest", desc := "(I)I" } : Jvm.MethodName) ({ cls := "TapOfficeModel", name := "greatest", desc := "(I)I" } : Jvm.MethodName)) ∈ lw_tbl := List.mem_of_getElem? (i := 21) rfl
set_option maxRecDepth 20000 in
theorem m_22 : (Jvm.Cond.selects "TapOfficeModel" ({ cls := "TapOfficeModel", name := "lost", desc := "(I)I" } : Jvm.MethodName) ({ cls := "TapOfficeModel", name := "lost", desc := "(I)I" } : Jvm.MethodName)) ∈ lw_tbl := List.mem_of_getElem? (i := 22) rfl
set_option maxRecDepth 20000 in
theorem m_23 : (Jvm.Cond.selects "TapOfficeModel" ({ cls := "TapOfficeModel", name := "sum", desc := "(II)I" } : Jvm.MethodName) ({ cls := "TapOfficeModel", name := "sum", desc := "(II)I" } : Jvm.MethodName)) ∈ lw_tbl := List.mem_of_getElem? (i := 23) rfl
set_option maxRecDepth 20000 in
theorem m_24 : (Jvm.Cond.initialized "TapOfficeLaw") ∈ lw_tbl := List.mem_of_getElem? (i := 24) rfl
set_option maxRecDepth 20000 in
theorem m_31 : (Jvm.Cond.initialized "TapOfficeModel") ∈ lw_tbl := List.mem_of_getElem? (i := 31) rfl
set_option maxRecDepth 20000 in
theorem m_34 : (Jvm.Cond.classLink "TapOfficeLaw" (7 : Nat) "TapOffice") ∈ lw_tbl := List.mem_of_getElem? (i := 34) rfl
set_option maxRecDepth 20000 in
theorem m_35 : (Jvm.Cond.instantiable "TapOffice" (8 : Nat)) ∈ lw_tbl := List.mem_of_getElem? (i := 35) rfl
set_option maxRecDepth 20000 in
theorem m_36 : (Jvm.Cond.methodLink "TapOfficeLaw" (9 : Nat) ({ cls := "TapOffice", name := "<init>", desc := "()V" } : Jvm.MethodName)) ∈ lw_tbl := List.mem_of_getElem? (i := 36) rfl
set_option maxRecDepth 20000 in
theorem m_37 : (Jvm.Cond.instanceMethod ({ cls := "TapOffice", name := "<init>", desc := "()V" } : Jvm.MethodName)) ∈ lw_tbl := List.mem_of_getElem? (i := 37) rfl
set_option maxRecDepth 20000 in
theorem m_38 : (Jvm.Cond.code ({ cls := "TapOffice", name := "<init>", desc := "()V" } : Jvm.MethodName) prog_1_method_1_code (2 : Nat) (Option.none : Option Jvm.ClassFile.FieldType)) ∈ lw_tbl := List.mem_of_getElem? (i := 38) rfl
set_option maxRecDepth 20000 in
theorem m_39 : (Jvm.Cond.methodLink "TapOffice" (1 : Nat) ({ cls := "java/lang/Object", name := "<init>", desc := "()V" } : Jvm.MethodName)) ∈ lw_tbl := List.mem_of_getElem? (i := 39) rfl
set_option maxRecDepth 20000 in
theorem m_40 : (Jvm.Cond.instanceMethod ({ cls := "java/lang/Object", name := "<init>", desc := "()V" } : Jvm.MethodName)) ∈ lw_tbl := List.mem_of_getElem? (i := 40) rfl
set_option maxRecDepth 20000 in
theorem m_41 : (Jvm.Cond.code ({ cls := "java/lang/Object", name := "<init>", desc := "()V" } : Jvm.MethodName) object_method_1_code (1 : Nat) (Option.none : Option Jvm.ClassFile.FieldType)) ∈ lw_tbl := List.mem_of_getElem? (i := 41) rfl
set_option maxRecDepth 20000 in
theorem m_42 : (Jvm.Cond.classLink "TapOffice" (7 : Nat) "TapOffice$Tariff") ∈ lw_tbl := List.mem_of_getElem? (i := 42) rfl
set_option maxRecDepth 20000 in
theorem m_43 : (Jvm.Cond.instantiable "TapOffice$Tariff" (2 : Nat)) ∈ lw_tbl := List.mem_of_getElem? (i := 43) rfl
set_option maxRecDepth 20000 in
theorem m_44 : (Jvm.Cond.methodLinkNest "TapOffice" (9 : Nat) ({ cls := "TapOffice$Tariff", name := "<init>", desc := "()V" } : Jvm.MethodName) "TapOffice") ∈ lw_tbl := List.mem_of_getElem? (i := 44) rfl
set_option maxRecDepth 20000 in
theorem m_45 : (Jvm.Cond.instanceMethod ({ cls := "TapOffice$Tariff", name := "<init>", desc := "()V" } : Jvm.MethodName)) ∈ lw_tbl := List.mem_of_getElem? (i := 45) rfl
set_option maxRecDepth 20000 in
theorem m_46 : (Jvm.Cond.code ({ cls := "TapOffice$Tariff", name := "<init>", desc := "()V" } : Jvm.MethodName) prog_4_method_1_code (1 : Nat) (Option.none : Option Jvm.ClassFile.FieldType)) ∈ lw_tbl := List.mem_of_getElem? (i := 46) rfl
set_option maxRecDepth 20000 in
theorem m_47 : (Jvm.Cond.methodLink "TapOffice$Tariff" (3 : Nat) ({ cls := "java/lang/Object", name := "<init>", desc := "()V" } : Jvm.MethodName)) ∈ lw_tbl := List.mem_of_getElem? (i := 47) rfl
set_option maxRecDepth 20000 in
theorem m_48 : (Jvm.Cond.classLink "TapOffice$Tariff" (9 : Nat) "[[I") ∈ lw_tbl := List.mem_of_getElem? (i := 48) rfl
set_option maxRecDepth 20000 in
theorem m_49 : (Jvm.Cond.arrayOver (Jvm.ClassFile.FieldType.array Jvm.ClassFile.FieldType.int)) ∈ lw_tbl := List.mem_of_getElem? (i := 49) rfl
set_option maxRecDepth 20000 in
theorem m_50 : (Jvm.Cond.fieldLinkNest "TapOffice$Tariff" (16 : Nat) "TapOffice" "FIRST_SETTINGS" "[I" "TapOffice") ∈ lw_tbl := List.mem_of_getElem? (i := 50) rfl
set_option maxRecDepth 20000 in
theorem m_51 : (Jvm.Cond.laysStatic "TapOffice" "FIRST_SETTINGS" "[I") ∈ lw_tbl := List.mem_of_getElem? (i := 51) rfl
set_option maxRecDepth 20000 in
theorem m_52 : (Jvm.Cond.methodLink "TapOffice$Tariff" (20 : Nat) ({ cls := "[I", name := "clone", desc := "()Ljava/lang/Object;" } : Jvm.MethodName)) ∈ lw_tbl := List.mem_of_getElem? (i := 52) rfl
set_option maxRecDepth 20000 in
theorem m_53 : (Jvm.Cond.sameMethod "[I" "java/lang/Object" "clone" "()Ljava/lang/Object;") ∈ lw_tbl := List.mem_of_getElem? (i := 53) rfl
set_option maxRecDepth 20000 in
theorem m_54 : (Jvm.Cond.native ({ cls := "java/lang/Object", name := "clone", desc := "()Ljava/lang/Object;" } : Jvm.MethodName)) ∈ lw_tbl := List.mem_of_getElem? (i := 54) rfl
set_option maxRecDepth 20000 in
theorem m_55 : (Jvm.Cond.instanceMethod ({ cls := "java/lang/Object", name := "clone", desc := "()Ljava/lang/Object;" } : Jvm.MethodName)) ∈ lw_tbl := List.mem_of_getElem? (i := 55) rfl
set_option maxRecDepth 20000 in
theorem m_56 : (Jvm.Cond.selects "[I" ({ cls := "[I", name := "clone", desc := "()Ljava/lang/Object;" } : Jvm.MethodName) ({ cls := "java/lang/Object", name := "clone", desc := "()Ljava/lang/Object;" } : Jvm.MethodName)) ∈ lw_tbl := List.mem_of_getElem? (i := 56) rfl
set_option maxRecDepth 20000 in
theorem m_57 : (Jvm.Cond.castable "[I" "java/lang/Cloneable") ∈ lw_tbl := List.mem_of_getElem? (i := 57) rfl
set_option maxRecDepth 20000 in
theorem m_58 : (Jvm.Cond.classLink "TapOffice$Tariff" (21 : Nat) "[I") ∈ lw_tbl := List.mem_of_getElem? (i := 58) rfl
set_option maxRecDepth 20000 in
theorem m_61 : (Jvm.Cond.laysFinal "TapOffice$Tariff" "TapOffice$Tariff" "fares" "[[I") ∈ lw_tbl := List.mem_of_getElem? (i := 61) rfl
set_option maxRecDepth 20000 in
theorem m_62 : (Jvm.Cond.soleField "TapOffice$Tariff" "fares") ∈ lw_tbl := List.mem_of_getElem? (i := 62) rfl
set_option maxRecDepth 20000 in
theorem m_63 : (Jvm.Cond.laysFinal "TapOffice$Tariff" "TapOffice$Tariff" "settings" "[I") ∈ lw_tbl := List.mem_of_getElem? (i := 63) rfl
set_option maxRecDepth 20000 in
theorem m_64 : (Jvm.Cond.soleField "TapOffice$Tariff" "settings") ∈ lw_tbl := List.mem_of_getElem? (i := 64) rfl
set_option maxRecDepth 20000 in
theorem m_65 : (Jvm.Cond.superclass "TapOffice$Tariff" "java/lang/Object") ∈ lw_tbl := List.mem_of_getElem? (i := 65) rfl
set_option maxRecDepth 20000 in
theorem m_66 : (Jvm.Cond.arrayClass Jvm.ClassFile.FieldType.int) ∈ lw_tbl := List.mem_of_getElem? (i := 66) rfl
set_option maxRecDepth 20000 in
theorem m_67 : (Jvm.Cond.classLink "TapOffice" (16 : Nat) "TapOffice$Card") ∈ lw_tbl := List.mem_of_getElem? (i := 67) rfl
set_option maxRecDepth 20000 in
theorem m_68 : (Jvm.Cond.arrayOver (Jvm.ClassFile.FieldType.object "TapOffice$Card")) ∈ lw_tbl := List.mem_of_getElem? (i := 68) rfl
set_option maxRecDepth 20000 in
theorem m_69 : (Jvm.Cond.classLink "TapOffice" (22 : Nat) "TapOffice$Account") ∈ lw_tbl := List.mem_of_getElem? (i := 69) rfl
set_option maxRecDepth 20000 in
theorem m_70 : (Jvm.Cond.arrayOver (Jvm.ClassFile.FieldType.object "TapOffice$Account")) ∈ lw_tbl := List.mem_of_getElem? (i := 70) rfl
set_option maxRecDepth 20000 in
theorem m_71 : (Jvm.Cond.classLink "TapOffice" (28 : Nat) "TapOffice$Validator") ∈ lw_tbl := List.mem_of_getElem? (i := 71) rfl
set_option maxRecDepth 20000 in
theorem m_72 : (Jvm.Cond.arrayOver (Jvm.ClassFile.FieldType.object "TapOffice$Validator")) ∈ lw_tbl := List.mem_of_getElem? (i := 72) rfl
set_option maxRecDepth 20000 in
theorem m_73 : (Jvm.Cond.instantiable "TapOffice$Card" (2 : Nat)) ∈ lw_tbl := List.mem_of_getElem? (i := 73) rfl
set_option maxRecDepth 20000 in
theorem m_74 : (Jvm.Cond.methodLink "TapOffice" (38 : Nat) ({ cls := "TapOffice$Card", name := "<init>", desc := "()V" } : Jvm.MethodName)) ∈ lw_tbl := List.mem_of_getElem? (i := 74) rfl
set_option maxRecDepth 20000 in
theorem m_75 : (Jvm.Cond.instanceMethod ({ cls := "TapOffice$Card", name := "<init>", desc := "()V" } : Jvm.MethodName)) ∈ lw_tbl := List.mem_of_getElem? (i := 75) rfl
set_option maxRecDepth 20000 in
theorem m_76 : (Jvm.Cond.code ({ cls := "TapOffice$Card", name := "<init>", desc := "()V" } : Jvm.MethodName) prog_3_method_1_code (1 : Nat) (Option.none : Option Jvm.ClassFile.FieldType)) ∈ lw_tbl := List.mem_of_getElem? (i := 76) rfl
set_option maxRecDepth 20000 in
theorem m_77 : (Jvm.Cond.methodLink "TapOffice$Card" (3 : Nat) ({ cls := "java/lang/Object", name := "<init>", desc := "()V" } : Jvm.MethodName)) ∈ lw_tbl := List.mem_of_getElem? (i := 77) rfl
set_option maxRecDepth 20000 in
theorem m_78 : (Jvm.Cond.classLink "TapOffice$Card" (9 : Nat) "[[I") ∈ lw_tbl := List.mem_of_getElem? (i := 78) rfl
set_option maxRecDepth 20000 in
theorem m_79 : (Jvm.Cond.fieldLinkNest "TapOffice$Card" (20 : Nat) "TapOffice" "BLANK_RECORD" "[I" "TapOffice") ∈ lw_tbl := List.mem_of_getElem? (i := 79) rfl
set_option maxRecDepth 20000 in
theorem m_80 : (Jvm.Cond.laysStatic "TapOffice" "BLANK_RECORD" "[I") ∈ lw_tbl := List.mem_of_getElem? (i := 80) rfl
set_option maxRecDepth 20000 in
theorem m_86 : (Jvm.Cond.laysFinal "TapOffice$Card" "TapOffice$Card" "copies" "[[I") ∈ lw_tbl := List.mem_of_getElem? (i := 86) rfl
set_option maxRecDepth 20000 in
theorem m_87 : (Jvm.Cond.soleField "TapOffice$Card" "copies") ∈ lw_tbl := List.mem_of_getElem? (i := 87) rfl
set_option maxRecDepth 20000 in
theorem m_88 : (Jvm.Cond.laysFinal "TapOffice$Card" "TapOffice$Card" "draft" "[I") ∈ lw_tbl := List.mem_of_getElem? (i := 88) rfl
set_option maxRecDepth 20000 in
theorem m_89 : (Jvm.Cond.soleField "TapOffice$Card" "draft") ∈ lw_tbl := List.mem_of_getElem? (i := 89) rfl
set_option maxRecDepth 20000 in
theorem m_90 : (Jvm.Cond.superclass "TapOffice$Card" "java/lang/Object") ∈ lw_tbl := List.mem_of_getElem? (i := 90) rfl
set_option maxRecDepth 20000 in
theorem m_91 : (Jvm.Cond.instantiable "TapOffice$Account" (7 : Nat)) ∈ lw_tbl := List.mem_of_getElem? (i := 91) rfl
set_option maxRecDepth 20000 in
theorem m_92 : (Jvm.Cond.methodLinkNest "TapOffice" (39 : Nat) ({ cls := "TapOffice$Account", name := "<init>", desc := "()V" } : Jvm.MethodName) "TapOffice") ∈ lw_tbl := List.mem_of_getElem? (i := 92) rfl
set_option maxRecDepth 20000 in
theorem m_93 : (Jvm.Cond.instanceMethod ({ cls := "TapOffice$Account", name := "<init>", desc := "()V" } : Jvm.MethodName)) ∈ lw_tbl := List.mem_of_getElem? (i := 93) rfl
set_option maxRecDepth 20000 in
theorem m_94 : (Jvm.Cond.code ({ cls := "TapOffice$Account", name := "<init>", desc := "()V" } : Jvm.MethodName) prog_2_method_1_code (1 : Nat) (Option.none : Option Jvm.ClassFile.FieldType)) ∈ lw_tbl := List.mem_of_getElem? (i := 94) rfl
set_option maxRecDepth 20000 in
theorem m_95 : (Jvm.Cond.methodLink "TapOffice$Account" (3 : Nat) ({ cls := "java/lang/Object", name := "<init>", desc := "()V" } : Jvm.MethodName)) ∈ lw_tbl := List.mem_of_getElem? (i := 95) rfl
set_option maxRecDepth 20000 in
theorem m_103 : (Jvm.Cond.laysFinal "TapOffice$Account" "TapOffice$Account" "has" "[Z") ∈ lw_tbl := List.mem_of_getElem? (i := 103) rfl
set_option maxRecDepth 20000 in
theorem m_104 : (Jvm.Cond.soleField "TapOffice$Account" "has") ∈ lw_tbl := List.mem_of_getElem? (i := 104) rfl
set_option maxRecDepth 20000 in
theorem m_105 : (Jvm.Cond.laysFinal "TapOffice$Account" "TapOffice$Account" "before" "[I") ∈ lw_tbl := List.mem_of_getElem? (i := 105) rfl
set_option maxRecDepth 20000 in
theorem m_106 : (Jvm.Cond.soleField "TapOffice$Account" "before") ∈ lw_tbl := List.mem_of_getElem? (i := 106) rfl
set_option maxRecDepth 20000 in
theorem m_107 : (Jvm.Cond.laysFinal "TapOffice$Account" "TapOffice$Account" "after" "[I") ∈ lw_tbl := List.mem_of_getElem? (i := 107) rfl
set_option maxRecDepth 20000 in
theorem m_108 : (Jvm.Cond.soleField "TapOffice$Account" "after") ∈ lw_tbl := List.mem_of_getElem? (i := 108) rfl
set_option maxRecDepth 20000 in
theorem m_109 : (Jvm.Cond.lays "TapOffice$Account" "TapOffice$Account" "entries" "I") ∈ lw_tbl := List.mem_of_getElem? (i := 109) rfl
set_option maxRecDepth 20000 in
theorem m_110 : (Jvm.Cond.soleField "TapOffice$Account" "entries") ∈ lw_tbl := List.mem_of_getElem? (i := 110) rfl
set_option maxRecDepth 20000 in
theorem m_111 : (Jvm.Cond.lays "TapOffice$Account" "TapOffice$Account" "greatest" "I") ∈ lw_tbl := List.mem_of_getElem? (i := 111) rfl
set_option maxRecDepth 20000 in
theorem m_112 : (Jvm.Cond.soleField "TapOffice$Account" "greatest") ∈ lw_tbl := List.mem_of_getElem? (i := 112) rfl
set_option maxRecDepth 20000 in
theorem m_113 : (Jvm.Cond.lays "TapOffice$Account" "TapOffice$Account" "charges" "I") ∈ lw_tbl := List.mem_of_getElem? (i := 113) rfl
set_option maxRecDepth 20000 in
theorem m_114 : (Jvm.Cond.soleField "TapOffice$Account" "charges") ∈ lw_tbl := List.mem_of_getElem? (i := 114) rfl
set_option maxRecDepth 20000 in
theorem m_115 : (Jvm.Cond.lays "TapOffice$Account" "TapOffice$Account" "topUps" "I") ∈ lw_tbl := List.mem_of_getElem? (i := 115) rfl
set_option maxRecDepth 20000 in
theorem m_116 : (Jvm.Cond.soleField "TapOffice$Account" "topUps") ∈ lw_tbl := List.mem_of_getElem? (i := 116) rfl
set_option maxRecDepth 20000 in
theorem m_117 : (Jvm.Cond.superclass "TapOffice$Account" "java/lang/Object") ∈ lw_tbl := List.mem_of_getElem? (i := 117) rfl
set_option maxRecDepth 20000 in
theorem m_118 : (Jvm.Cond.arrayClass Jvm.ClassFile.FieldType.boolean) ∈ lw_tbl := List.mem_of_getElem? (i := 118) rfl
set_option maxRecDepth 20000 in
theorem m_119 : (Jvm.Cond.instantiable "TapOffice$Validator" (5 : Nat)) ∈ lw_tbl := List.mem_of_getElem? (i := 119) rfl
set_option maxRecDepth 20000 in
theorem m_120 : (Jvm.Cond.methodLink "TapOffice" (40 : Nat) ({ cls := "TapOffice$Validator", name := "<init>", desc := "(I)V" } : Jvm.MethodName)) ∈ lw_tbl := List.mem_of_getElem? (i := 120) rfl
set_option maxRecDepth 20000 in
theorem m_121 : (Jvm.Cond.instanceMethod ({ cls := "TapOffice$Validator", name := "<init>", desc := "(I)V" } : Jvm.MethodName)) ∈ lw_tbl := List.mem_of_getElem? (i := 121) rfl
set_option maxRecDepth 20000 in
theorem m_122 : (Jvm.Cond.code ({ cls := "TapOffice$Validator", name := "<init>", desc := "(I)V" } : Jvm.MethodName) prog_5_method_1_code (2 : Nat) (Option.none : Option Jvm.ClassFile.FieldType)) ∈ lw_tbl := List.mem_of_getElem? (i := 122) rfl
set_option maxRecDepth 20000 in
theorem m_123 : (Jvm.Cond.methodLink "TapOffice$Validator" (3 : Nat) ({ cls := "java/lang/Object", name := "<init>", desc := "()V" } : Jvm.MethodName)) ∈ lw_tbl := List.mem_of_getElem? (i := 123) rfl
set_option maxRecDepth 20000 in
theorem m_124 : (Jvm.Cond.classLink "TapOffice$Validator" (9 : Nat) "[[I") ∈ lw_tbl := List.mem_of_getElem? (i := 124) rfl
set_option maxRecDepth 20000 in
theorem m_130 : (Jvm.Cond.laysFinal "TapOffice$Validator" "TapOffice$Validator" "log" "[[I") ∈ lw_tbl := List.mem_of_getElem? (i := 130) rfl
set_option maxRecDepth 20000 in
theorem m_131 : (Jvm.Cond.soleField "TapOffice$Validator" "log") ∈ lw_tbl := List.mem_of_getElem? (i := 131) rfl
set_option maxRecDepth 20000 in
theorem m_132 : (Jvm.Cond.lays "TapOffice$Validator" "TapOffice$Validator" "size" "I") ∈ lw_tbl := List.mem_of_getElem? (i := 132) rfl
set_option maxRecDepth 20000 in
theorem m_133 : (Jvm.Cond.soleField "TapOffice$Validator" "size") ∈ lw_tbl := List.mem_of_getElem? (i := 133) rfl
set_option maxRecDepth 20000 in
theorem m_134 : (Jvm.Cond.lays "TapOffice$Validator" "TapOffice$Validator" "zone" "I") ∈ lw_tbl := List.mem_of_getElem? (i := 134) rfl
set_option maxRecDepth 20000 in
theorem m_135 : (Jvm.Cond.soleField "TapOffice$Validator" "zone") ∈ lw_tbl := List.mem_of_getElem? (i := 135) rfl
set_option maxRecDepth 20000 in
theorem m_136 : (Jvm.Cond.lays "TapOffice$Validator" "TapOffice$Validator" "exit" "Z") ∈ lw_tbl := List.mem_of_getElem? (i := 136) rfl
set_option maxRecDepth 20000 in
theorem m_137 : (Jvm.Cond.soleField "TapOffice$Validator" "exit") ∈ lw_tbl := List.mem_of_getElem? (i := 137) rfl
set_option maxRecDepth 20000 in
theorem m_138 : (Jvm.Cond.lays "TapOffice$Validator" "TapOffice$Validator" "denied" "I") ∈ lw_tbl := List.mem_of_getElem? (i := 138) rfl
set_option maxRecDepth 20000 in
theorem m_139 : (Jvm.Cond.soleField "TapOffice$Validator" "denied") ∈ lw_tbl := List.mem_of_getElem? (i := 139) rfl
set_option maxRecDepth 20000 in
theorem m_140 : (Jvm.Cond.superclass "TapOffice$Validator" "java/lang/Object") ∈ lw_tbl := List.mem_of_getElem? (i := 140) rfl
set_option maxRecDepth 20000 in
theorem m_149 : (Jvm.Cond.laysFinal "TapOffice" "TapOffice" "tariff" "LTapOffice$Tariff;") ∈ lw_tbl := List.mem_of_getElem? (i := 149) rfl
set_option maxRecDepth 20000 in
theorem m_150 : (Jvm.Cond.soleField "TapOffice" "tariff") ∈ lw_tbl := List.mem_of_getElem? (i := 150) rfl
set_option maxRecDepth 20000 in
theorem m_151 : (Jvm.Cond.laysFinal "TapOffice" "TapOffice" "cards" "[LTapOffice$Card;") ∈ lw_tbl := List.mem_of_getElem? (i := 151) rfl
set_option maxRecDepth 20000 in
theorem m_152 : (Jvm.Cond.soleField "TapOffice" "cards") ∈ lw_tbl := List.mem_of_getElem? (i := 152) rfl
set_option maxRecDepth 20000 in
theorem m_153 : (Jvm.Cond.laysFinal "TapOffice" "TapOffice" "accounts" "[LTapOffice$Account;") ∈ lw_tbl := List.mem_of_getElem? (i := 153) rfl
set_option maxRecDepth 20000 in
theorem m_154 : (Jvm.Cond.soleField "TapOffice" "accounts") ∈ lw_tbl := List.mem_of_getElem? (i := 154) rfl
set_option maxRecDepth 20000 in
theorem m_155 : (Jvm.Cond.laysFinal "TapOffice" "TapOffice" "validators" "[LTapOffice$Validator;") ∈ lw_tbl := List.mem_of_getElem? (i := 155) rfl
set_option maxRecDepth 20000 in
theorem m_156 : (Jvm.Cond.soleField "TapOffice" "validators") ∈ lw_tbl := List.mem_of_getElem? (i := 156) rfl
set_option maxRecDepth 20000 in
theorem m_157 : (Jvm.Cond.laysFinal "TapOffice" "TapOffice" "incomes" "[I") ∈ lw_tbl := List.mem_of_getElem? (i := 157) rfl
set_option maxRecDepth 20000 in
theorem m_158 : (Jvm.Cond.soleField "TapOffice" "incomes") ∈ lw_tbl := List.mem_of_getElem? (i := 158) rfl
set_option maxRecDepth 20000 in
theorem m_159 : (Jvm.Cond.lays "TapOffice" "TapOffice" "now" "I") ∈ lw_tbl := List.mem_of_getElem? (i := 159) rfl
set_option maxRecDepth 20000 in
theorem m_160 : (Jvm.Cond.soleField "TapOffice" "now") ∈ lw_tbl := List.mem_of_getElem? (i := 160) rfl
set_option maxRecDepth 20000 in
theorem m_161 : (Jvm.Cond.lays "TapOffice" "TapOffice" "deniedCards" "I") ∈ lw_tbl := List.mem_of_getElem? (i := 161) rfl
set_option maxRecDepth 20000 in
theorem m_162 : (Jvm.Cond.soleField "TapOffice" "deniedCards") ∈ lw_tbl := List.mem_of_getElem? (i := 162) rfl
set_option maxRecDepth 20000 in
theorem m_163 : (Jvm.Cond.lays "TapOffice" "TapOffice" "tornTaps" "I") ∈ lw_tbl := List.mem_of_getElem? (i := 163) rfl
set_option maxRecDepth 20000 in
theorem m_164 : (Jvm.Cond.soleField "TapOffice" "tornTaps") ∈ lw_tbl := List.mem_of_getElem? (i := 164) rfl
set_option maxRecDepth 20000 in
theorem m_165 : (Jvm.Cond.superclass "TapOffice" "java/lang/Object") ∈ lw_tbl := List.mem_of_getElem? (i := 165) rfl
set_option maxRecDepth 20000 in
theorem m_166 : (Jvm.Cond.methodLink "TapOfficeLaw" (13 : Nat) ({ cls := "TapOffice", name := "fare", desc := "(III)I" } : Jvm.MethodName)) ∈ lw_tbl := List.mem_of_getElem? (i := 166) rfl
set_option maxRecDepth 20000 in
theorem m_167 : (Jvm.Cond.instanceMethod ({ cls := "TapOffice", name := "fare", desc := "(III)I" } : Jvm.MethodName)) ∈ lw_tbl := List.mem_of_getElem? (i := 167) rfl
set_option maxRecDepth 20000 in
theorem m_168 : (Jvm.Cond.selects "TapOffice" ({ cls := "TapOffice", name := "fare", desc := "(III)I" } : Jvm.MethodName) ({ cls := "TapOffice", name := "fare", desc := "(III)I" } : Jvm.MethodName)) ∈ lw_tbl := List.mem_of_getElem? (i := 168) rfl
set_option maxRecDepth 20000 in
theorem m_169 : (Jvm.Cond.code ({ cls := "TapOffice", name := "fare", desc := "(III)I" } : Jvm.MethodName) prog_1_method_2_code (4 : Nat) (Option.some Jvm.ClassFile.FieldType.int)) ∈ lw_tbl := List.mem_of_getElem? (i := 169) rfl
set_option maxRecDepth 20000 in
theorem m_177 : (Jvm.Cond.methodLink "TapOfficeLaw" (18 : Nat) ({ cls := "TapOffice", name := "set", desc := "(II)I" } : Jvm.MethodName)) ∈ lw_tbl := List.mem_of_getElem? (i := 177) rfl
set_option maxRecDepth 20000 in
theorem m_178 : (Jvm.Cond.instanceMethod ({ cls := "TapOffice", name := "set", desc := "(II)I" } : Jvm.MethodName)) ∈ lw_tbl := List.mem_of_getElem? (i := 178) rfl
set_option maxRecDepth 20000 in
theorem m_179 : (Jvm.Cond.selects "TapOffice" ({ cls := "TapOffice", name := "set", desc := "(II)I" } : Jvm.MethodName) ({ cls := "TapOffice", name := "set", desc := "(II)I" } : Jvm.MethodName)) ∈ lw_tbl := List.mem_of_getElem? (i := 179) rfl
set_option maxRecDepth 20000 in
theorem m_180 : (Jvm.Cond.code ({ cls := "TapOffice", name := "set", desc := "(II)I" } : Jvm.MethodName) prog_1_method_3_code (3 : Nat) (Option.some Jvm.ClassFile.FieldType.int)) ∈ lw_tbl := List.mem_of_getElem? (i := 180) rfl
set_option maxRecDepth 20000 in
theorem m_182 : (Jvm.Cond.laysStatic "TapOffice" "MOST_SETTINGS" "[I") ∈ lw_tbl := List.mem_of_getElem? (i := 182) rfl
set_option maxRecDepth 20000 in
theorem m_187 : (Jvm.Cond.methodLink "TapOfficeLaw" (23 : Nat) ({ cls := "TapOffice", name := "place", desc := "(IIZ)I" } : Jvm.MethodName)) ∈ lw_tbl := List.mem_of_getElem? (i := 187) rfl
set_option maxRecDepth 20000 in
theorem m_188 : (Jvm.Cond.instanceMethod ({ cls := "TapOffice", name := "place", desc := "(IIZ)I" } : Jvm.MethodName)) ∈ lw_tbl := List.mem_of_getElem? (i := 188) rfl
set_option maxRecDepth 20000 in
theorem m_189 : (Jvm.Cond.selects "TapOffice" ({ cls := "TapOffice", name := "place", desc := "(IIZ)I" } : Jvm.MethodName) ({ cls := "TapOffice", name := "place", desc := "(IIZ)I" } : Jvm.MethodName)) ∈ lw_tbl := List.mem_of_getElem? (i := 189) rfl
set_option maxRecDepth 20000 in
theorem m_190 : (Jvm.Cond.code ({ cls := "TapOffice", name := "place", desc := "(IIZ)I" } : Jvm.MethodName) prog_1_method_4_code (4 : Nat) (Option.some Jvm.ClassFile.FieldType.int)) ∈ lw_tbl := List.mem_of_getElem? (i := 190) rfl
set_option maxRecDepth 20000 in
theorem m_195 : (Jvm.Cond.methodLink "TapOfficeLaw" (28 : Nat) ({ cls := "TapOffice", name := "clock", desc := "(I)I" } : Jvm.MethodName)) ∈ lw_tbl := List.mem_of_getElem? (i := 195) rfl
set_option maxRecDepth 20000 in
theorem m_196 : (Jvm.Cond.instanceMethod ({ cls := "TapOffice", name := "clock", desc := "(I)I" } : Jvm.MethodName)) ∈ lw_tbl := List.mem_of_getElem? (i := 196) rfl
set_option maxRecDepth 20000 in
theorem m_197 : (Jvm.Cond.selects "TapOffice" ({ cls := "TapOffice", name := "clock", desc := "(I)I" } : Jvm.MethodName) ({ cls := "TapOffice", name := "clock", desc := "(I)I" } : Jvm.MethodName)) ∈ lw_tbl := List.mem_of_getElem? (i := 197) rfl
set_option maxRecDepth 20000 in
theorem m_198 : (Jvm.Cond.code ({ cls := "TapOffice", name := "clock", desc := "(I)I" } : Jvm.MethodName) prog_1_method_5_code (2 : Nat) (Option.some Jvm.ClassFile.FieldType.int)) ∈ lw_tbl := List.mem_of_getElem? (i := 198) rfl
set_option maxRecDepth 20000 in
theorem m_199 : (Jvm.Cond.methodLink "TapOfficeLaw" (33 : Nat) ({ cls := "TapOffice", name := "tap", desc := "(III)I" } : Jvm.MethodName)) ∈ lw_tbl := List.mem_of_getElem? (i := 199) rfl
set_option maxRecDepth 20000 in
theorem m_200 : (Jvm.Cond.instanceMethod ({ cls := "TapOffice", name := "tap", desc := "(III)I" } : Jvm.MethodName)) ∈ lw_tbl := List.mem_of_getElem? (i := 200) rfl
set_option maxRecDepth 20000 in
theorem m_201 : (Jvm.Cond.selects "TapOffice" ({ cls := "TapOffice", name := "tap", desc := "(III)I" } : Jvm.MethodName) ({ cls := "TapOffice", name := "tap", desc := "(III)I" } : Jvm.MethodName)) ∈ lw_tbl := List.mem_of_getElem? (i := 201) rfl
set_option maxRecDepth 20000 in
theorem m_202 : (Jvm.Cond.code ({ cls := "TapOffice", name := "tap", desc := "(III)I" } : Jvm.MethodName) prog_1_method_6_code (7 : Nat) (Option.some Jvm.ClassFile.FieldType.int)) ∈ lw_tbl := List.mem_of_getElem? (i := 202) rfl
set_option maxRecDepth 20000 in
theorem m_220 : (Jvm.Cond.privateMethod ({ cls := "TapOffice$Card", name := "recordCopy", desc := "()I" } : Jvm.MethodName)) ∈ lw_tbl := List.mem_of_getElem? (i := 220) rfl
set_option maxRecDepth 20000 in
theorem m_232 : (Jvm.Cond.privateMethod ({ cls := "TapOffice$Card", name := "startDraft", desc := "(I)V" } : Jvm.MethodName)) ∈ lw_tbl := List.mem_of_getElem? (i := 232) rfl
set_option maxRecDepth 20000 in
theorem m_250 : (Jvm.Cond.privateMethod ({ cls := "TapOffice$Card", name := "draftExit", desc := "(IILTapOffice$Tariff;)I" } : Jvm.MethodName)) ∈ lw_tbl := List.mem_of_getElem? (i := 250) rfl
set_option maxRecDepth 20000 in
theorem m_257 : (Jvm.Cond.methodLinkNest "TapOffice$Tariff" (28 : Nat) ({ cls := "TapOffice", name := "isBelow", desc := "(II)Z" } : Jvm.MethodName) "TapOffice") ∈ lw_tbl := List.mem_of_getElem? (i := 257) rfl
set_option maxRecDepth 20000 in
theorem m_259 : (Jvm.Cond.privateMethod ({ cls := "TapOffice$Tariff", name := "price", desc := "(II)I" } : Jvm.MethodName)) ∈ lw_tbl := List.mem_of_getElem? (i := 259) rfl
set_option maxRecDepth 20000 in
theorem m_263 : (Jvm.Cond.privateMethod ({ cls := "TapOffice$Card", name := "priceOutOfTime", desc := "(IILTapOffice$Tariff;)I" } : Jvm.MethodName)) ∈ lw_tbl := List.mem_of_getElem? (i := 263) rfl
set_option maxRecDepth 20000 in
theorem m_281 : (Jvm.Cond.privateMethod ({ cls := "TapOffice$Card", name := "draftEntry", desc := "(IILTapOffice$Tariff;)I" } : Jvm.MethodName)) ∈ lw_tbl := List.mem_of_getElem? (i := 281) rfl
set_option maxRecDepth 20000 in
theorem m_294 : (Jvm.Cond.methodLink "TapOfficeLaw" (37 : Nat) ({ cls := "TapOffice", name := "topUp", desc := "(II)I" } : Jvm.MethodName)) ∈ lw_tbl := List.mem_of_getElem? (i := 294) rfl
set_option maxRecDepth 20000 in
theorem m_295 : (Jvm.Cond.instanceMethod ({ cls := "TapOffice", name := "topUp", desc := "(II)I" } : Jvm.MethodName)) ∈ lw_tbl := List.mem_of_getElem? (i := 295) rfl
set_option maxRecDepth 20000 in
theorem m_296 : (Jvm.Cond.selects "TapOffice" ({ cls := "TapOffice", name := "topUp", desc := "(II)I" } : Jvm.MethodName) ({ cls := "TapOffice", name := "topUp", desc := "(II)I" } : Jvm.MethodName)) ∈ lw_tbl := List.mem_of_getElem? (i := 296) rfl
set_option maxRecDepth 20000 in
theorem m_297 : (Jvm.Cond.code ({ cls := "TapOffice", name := "topUp", desc := "(II)I" } : Jvm.MethodName) prog_1_method_7_code (5 : Nat) (Option.some Jvm.ClassFile.FieldType.int)) ∈ lw_tbl := List.mem_of_getElem? (i := 297) rfl
set_option maxRecDepth 20000 in
theorem m_307 : (Jvm.Cond.privateMethod ({ cls := "TapOffice$Account", name := "enter", desc := "(III)Z" } : Jvm.MethodName)) ∈ lw_tbl := List.mem_of_getElem? (i := 307) rfl
set_option maxRecDepth 20000 in
theorem m_311 : (Jvm.Cond.methodLink "TapOfficeLaw" (41 : Nat) ({ cls := "TapOffice", name := "upload", desc := "(IZ)I" } : Jvm.MethodName)) ∈ lw_tbl := List.mem_of_getElem? (i := 311) rfl
set_option maxRecDepth 20000 in
theorem m_312 : (Jvm.Cond.instanceMethod ({ cls := "TapOffice", name := "upload", desc := "(IZ)I" } : Jvm.MethodName)) ∈ lw_tbl := List.mem_of_getElem? (i := 312) rfl
set_option maxRecDepth 20000 in
theorem m_313 : (Jvm.Cond.selects "TapOffice" ({ cls := "TapOffice", name := "upload", desc := "(IZ)I" } : Jvm.MethodName) ({ cls := "TapOffice", name := "upload", desc := "(IZ)I" } : Jvm.MethodName)) ∈ lw_tbl := List.mem_of_getElem? (i := 313) rfl
set_option maxRecDepth 20000 in
theorem m_314 : (Jvm.Cond.code ({ cls := "TapOffice", name := "upload", desc := "(IZ)I" } : Jvm.MethodName) prog_1_method_8_code (6 : Nat) (Option.some Jvm.ClassFile.FieldType.int)) ∈ lw_tbl := List.mem_of_getElem? (i := 314) rfl
set_option maxRecDepth 20000 in
theorem m_320 : (Jvm.Cond.privateMethod ({ cls := "TapOffice", name := "receiveEntry", desc := "(II)V" } : Jvm.MethodName)) ∈ lw_tbl := List.mem_of_getElem? (i := 320) rfl
set_option maxRecDepth 20000 in
theorem m_339 : (Jvm.Cond.methodLink "TapOfficeLaw" (46 : Nat) ({ cls := "TapOffice", name := "deny", desc := "(IZ)I" } : Jvm.MethodName)) ∈ lw_tbl := List.mem_of_getElem? (i := 339) rfl
set_option maxRecDepth 20000 in
theorem m_340 : (Jvm.Cond.instanceMethod ({ cls := "TapOffice", name := "deny", desc := "(IZ)I" } : Jvm.MethodName)) ∈ lw_tbl := List.mem_of_getElem? (i := 340) rfl
set_option maxRecDepth 20000 in
theorem m_341 : (Jvm.Cond.selects "TapOffice" ({ cls := "TapOffice", name := "deny", desc := "(IZ)I" } : Jvm.MethodName) ({ cls := "TapOffice", name := "deny", desc := "(IZ)I" } : Jvm.MethodName)) ∈ lw_tbl := List.mem_of_getElem? (i := 341) rfl
set_option maxRecDepth 20000 in
theorem m_342 : (Jvm.Cond.code ({ cls := "TapOffice", name := "deny", desc := "(IZ)I" } : Jvm.MethodName) prog_1_method_9_code (3 : Nat) (Option.some Jvm.ClassFile.FieldType.int)) ∈ lw_tbl := List.mem_of_getElem? (i := 342) rfl
set_option maxRecDepth 20000 in
theorem m_343 : (Jvm.Cond.methodLink "TapOfficeLaw" (50 : Nat) ({ cls := "TapOffice", name := "word", desc := "(III)I" } : Jvm.MethodName)) ∈ lw_tbl := List.mem_of_getElem? (i := 343) rfl
set_option maxRecDepth 20000 in
theorem m_344 : (Jvm.Cond.instanceMethod ({ cls := "TapOffice", name := "word", desc := "(III)I" } : Jvm.MethodName)) ∈ lw_tbl := List.mem_of_getElem? (i := 344) rfl
set_option maxRecDepth 20000 in
theorem m_345 : (Jvm.Cond.selects "TapOffice" ({ cls := "TapOffice", name := "word", desc := "(III)I" } : Jvm.MethodName) ({ cls := "TapOffice", name := "word", desc := "(III)I" } : Jvm.MethodName)) ∈ lw_tbl := List.mem_of_getElem? (i := 345) rfl
set_option maxRecDepth 20000 in
theorem m_346 : (Jvm.Cond.code ({ cls := "TapOffice", name := "word", desc := "(III)I" } : Jvm.MethodName) prog_1_method_10_code (4 : Nat) (Option.some Jvm.ClassFile.FieldType.int)) ∈ lw_tbl := List.mem_of_getElem? (i := 346) rfl
set_option maxRecDepth 20000 in
theorem m_351 : (Jvm.Cond.methodLink "TapOfficeLaw" (54 : Nat) ({ cls := "TapOffice", name := "card", desc := "(II)I" } : Jvm.MethodName)) ∈ lw_tbl := List.mem_of_getElem? (i := 351) rfl
set_option maxRecDepth 20000 in
theorem m_352 : (Jvm.Cond.instanceMethod ({ cls := "TapOffice", name := "card", desc := "(II)I" } : Jvm.MethodName)) ∈ lw_tbl := List.mem_of_getElem? (i := 352) rfl
set_option maxRecDepth 20000 in
theorem m_353 : (Jvm.Cond.selects "TapOffice" ({ cls := "TapOffice", name := "card", desc := "(II)I" } : Jvm.MethodName) ({ cls := "TapOffice", name := "card", desc := "(II)I" } : Jvm.MethodName)) ∈ lw_tbl := List.mem_of_getElem? (i := 353) rfl
set_option maxRecDepth 20000 in
theorem m_354 : (Jvm.Cond.code ({ cls := "TapOffice", name := "card", desc := "(II)I" } : Jvm.MethodName) prog_1_method_11_code (4 : Nat) (Option.some Jvm.ClassFile.FieldType.int)) ∈ lw_tbl := List.mem_of_getElem? (i := 354) rfl
set_option maxRecDepth 20000 in
theorem m_356 : (Jvm.Cond.methodLink "TapOfficeLaw" (58 : Nat) ({ cls := "TapOffice", name := "logged", desc := "(III)I" } : Jvm.MethodName)) ∈ lw_tbl := List.mem_of_getElem? (i := 356) rfl
set_option maxRecDepth 20000 in
theorem m_357 : (Jvm.Cond.instanceMethod ({ cls := "TapOffice", name := "logged", desc := "(III)I" } : Jvm.MethodName)) ∈ lw_tbl := List.mem_of_getElem? (i := 357) rfl
set_option maxRecDepth 20000 in
theorem m_358 : (Jvm.Cond.selects "TapOffice" ({ cls := "TapOffice", name := "logged", desc := "(III)I" } : Jvm.MethodName) ({ cls := "TapOffice", name := "logged", desc := "(III)I" } : Jvm.MethodName)) ∈ lw_tbl := List.mem_of_getElem? (i := 358) rfl
set_option maxRecDepth 20000 in
theorem m_359 : (Jvm.Cond.code ({ cls := "TapOffice", name := "logged", desc := "(III)I" } : Jvm.MethodName) prog_1_method_12_code (5 : Nat) (Option.some Jvm.ClassFile.FieldType.int)) ∈ lw_tbl := List.mem_of_getElem? (i := 359) rfl
set_option maxRecDepth 20000 in
theorem m_360 : (Jvm.Cond.methodLink "TapOfficeLaw" (62 : Nat) ({ cls := "TapOffice", name := "office", desc := "(II)I" } : Jvm.MethodName)) ∈ lw_tbl := List.mem_of_getElem? (i := 360) rfl
set_option maxRecDepth 20000 in
theorem m_361 : (Jvm.Cond.instanceMethod ({ cls := "TapOffice", name := "office", desc := "(II)I" } : Jvm.MethodName)) ∈ lw_tbl := List.mem_of_getElem? (i := 361) rfl
set_option maxRecDepth 20000 in
theorem m_362 : (Jvm.Cond.selects "TapOffice" ({ cls := "TapOffice", name := "office", desc := "(II)I" } : Jvm.MethodName) ({ cls := "TapOffice", name := "office", desc := "(II)I" } : Jvm.MethodName)) ∈ lw_tbl := List.mem_of_getElem? (i := 362) rfl
set_option maxRecDepth 20000 in
theorem m_363 : (Jvm.Cond.code ({ cls := "TapOffice", name := "office", desc := "(II)I" } : Jvm.MethodName) prog_1_method_13_code (4 : Nat) (Option.some Jvm.ClassFile.FieldType.int)) ∈ lw_tbl := List.mem_of_getElem? (i := 363) rfl
set_option maxRecDepth 20000 in
theorem m_388 : (Jvm.Cond.methodLink "TapOfficeLaw" (66 : Nat) ({ cls := "TapOffice", name := "income", desc := "(I)I" } : Jvm.MethodName)) ∈ lw_tbl := List.mem_of_getElem? (i := 388) rfl
set_option maxRecDepth 20000 in
theorem m_389 : (Jvm.Cond.instanceMethod ({ cls := "TapOffice", name := "income", desc := "(I)I" } : Jvm.MethodName)) ∈ lw_tbl := List.mem_of_getElem? (i := 389) rfl
set_option maxRecDepth 20000 in
theorem m_390 : (Jvm.Cond.selects "TapOffice" ({ cls := "TapOffice", name := "income", desc := "(I)I" } : Jvm.MethodName) ({ cls := "TapOffice", name := "income", desc := "(I)I" } : Jvm.MethodName)) ∈ lw_tbl := List.mem_of_getElem? (i := 390) rfl
set_option maxRecDepth 20000 in
theorem m_391 : (Jvm.Cond.code ({ cls := "TapOffice", name := "income", desc := "(I)I" } : Jvm.MethodName) prog_1_method_14_code (2 : Nat) (Option.some Jvm.ClassFile.FieldType.int)) ∈ lw_tbl := List.mem_of_getElem? (i := 391) rfl
set_option maxRecDepth 20000 in
theorem m_392 : (Jvm.Cond.methodLink "TapOfficeLaw" (70 : Nat) ({ cls := "TapOffice", name := "count", desc := "(I)I" } : Jvm.MethodName)) ∈ lw_tbl := List.mem_of_getElem? (i := 392) rfl
set_option maxRecDepth 20000 in
theorem m_393 : (Jvm.Cond.instanceMethod ({ cls := "TapOffice", name := "count", desc := "(I)I" } : Jvm.MethodName)) ∈ lw_tbl := List.mem_of_getElem? (i := 393) rfl
set_option maxRecDepth 20000 in
theorem m_394 : (Jvm.Cond.selects "TapOffice" ({ cls := "TapOffice", name := "count", desc := "(I)I" } : Jvm.MethodName) ({ cls := "TapOffice", name := "count", desc := "(I)I" } : Jvm.MethodName)) ∈ lw_tbl := List.mem_of_getElem? (i := 394) rfl
set_option maxRecDepth 20000 in
theorem m_395 : (Jvm.Cond.code ({ cls := "TapOffice", name := "count", desc := "(I)I" } : Jvm.MethodName) prog_1_method_15_code (2 : Nat) (Option.some Jvm.ClassFile.FieldType.int)) ∈ lw_tbl := List.mem_of_getElem? (i := 395) rfl
set_option maxRecDepth 20000 in
theorem m_397 : (Jvm.Cond.privateMethod ({ cls := "TapOffice", name := "entriesInLogs", desc := "()I" } : Jvm.MethodName)) ∈ lw_tbl := List.mem_of_getElem? (i := 397) rfl
set_option maxRecDepth 20000 in
theorem m_406 : (Jvm.Cond.classLink "TapOfficeLaw" (10 : Nat) "TapOfficeModel") ∈ lw_tbl := List.mem_of_getElem? (i := 406) rfl
set_option maxRecDepth 20000 in
theorem m_407 : (Jvm.Cond.instantiable "TapOfficeModel" (16 : Nat)) ∈ lw_tbl := List.mem_of_getElem? (i := 407) rfl
set_option maxRecDepth 20000 in
theorem m_408 : (Jvm.Cond.methodLink "TapOfficeLaw" (12 : Nat) ({ cls := "TapOfficeModel", name := "<init>", desc := "()V" } : Jvm.MethodName)) ∈ lw_tbl := List.mem_of_getElem? (i := 408) rfl
set_option maxRecDepth 20000 in
theorem m_409 : (Jvm.Cond.instanceMethod ({ cls := "TapOfficeModel", name := "<init>", desc := "()V" } : Jvm.MethodName)) ∈ lw_tbl := List.mem_of_getElem? (i := 409) rfl
set_option maxRecDepth 20000 in
theorem m_410 : (Jvm.Cond.code ({ cls := "TapOfficeModel", name := "<init>", desc := "()V" } : Jvm.MethodName) prog_7_method_1_code (2 : Nat) (Option.none : Option Jvm.ClassFile.FieldType)) ∈ lw_tbl := List.mem_of_getElem? (i := 410) rfl
set_option maxRecDepth 20000 in
theorem m_411 : (Jvm.Cond.methodLink "TapOfficeModel" (1 : Nat) ({ cls := "java/lang/Object", name := "<init>", desc := "()V" } : Jvm.MethodName)) ∈ lw_tbl := List.mem_of_getElem? (i := 411) rfl
set_option maxRecDepth 20000 in
theorem m_412 : (Jvm.Cond.fieldLink "TapOfficeModel" (7 : Nat) "TapOfficeModel" "fare" "[I") ∈ lw_tbl := List.mem_of_getElem? (i := 412) rfl
set_option maxRecDepth 20000 in
theorem m_413 : (Jvm.Cond.fieldLink "TapOfficeModel" (13 : Nat) "TapOfficeModel" "setting" "[I") ∈ lw_tbl := List.mem_of_getElem? (i := 413) rfl
set_option maxRecDepth 20000 in
theorem m_414 : (Jvm.Cond.fieldLink "TapOfficeModel" (57 : Nat) "TapOfficeModel" "time" "I") ∈ lw_tbl := List.mem_of_getElem? (i := 414) rfl
set_option maxRecDepth 20000 in
theorem m_415 : (Jvm.Cond.fieldLink "TapOfficeModel" (16 : Nat) "TapOfficeModel" "words" "[I") ∈ lw_tbl := List.mem_of_getElem? (i := 415) rfl
set_option maxRecDepth 20000 in
theorem m_416 : (Jvm.Cond.fieldLink "TapOfficeModel" (19 : Nat) "TapOfficeModel" "next" "[I") ∈ lw_tbl := List.mem_of_getElem? (i := 416) rfl
set_option maxRecDepth 20000 in
theorem m_417 : (Jvm.Cond.fieldLink "TapOfficeModel" (22 : Nat) "TapOfficeModel" "zone" "[I") ∈ lw_tbl := List.mem_of_getElem? (i := 417) rfl
set_option maxRecDepth 20000 in
theorem m_418 : (Jvm.Cond.fieldLink "TapOfficeModel" (25 : Nat) "TapOfficeModel" "exit" "[Z") ∈ lw_tbl := List.mem_of_getElem? (i := 418) rfl
set_option maxRecDepth 20000 in
theorem m_419 : (Jvm.Cond.fieldLink "TapOfficeModel" (29 : Nat) "TapOfficeModel" "log" "[I") ∈ lw_tbl := List.mem_of_getElem? (i := 419) rfl
set_option maxRecDepth 20000 in
theorem m_420 : (Jvm.Cond.fieldLink "TapOfficeModel" (32 : Nat) "TapOfficeModel" "logged" "[I") ∈ lw_tbl := List.mem_of_getElem? (i := 420) rfl
set_option maxRecDepth 20000 in
theorem m_421 : (Jvm.Cond.fieldLink "TapOfficeModel" (35 : Nat) "TapOfficeModel" "denies" "[Z") ∈ lw_tbl := List.mem_of_getElem? (i := 421) rfl
set_option maxRecDepth 20000 in
theorem m_422 : (Jvm.Cond.fieldLink "TapOfficeModel" (38 : Nat) "TapOfficeModel" "denied" "[Z") ∈ lw_tbl := List.mem_of_getElem? (i := 422) rfl
set_option maxRecDepth 20000 in
theorem m_423 : (Jvm.Cond.fieldLink "TapOfficeModel" (41 : Nat) "TapOfficeModel" "income" "[I") ∈ lw_tbl := List.mem_of_getElem? (i := 423) rfl
set_option maxRecDepth 20000 in
theorem m_424 : (Jvm.Cond.fieldLink "TapOfficeModel" (86 : Nat) "TapOfficeModel" "torn" "I") ∈ lw_tbl := List.mem_of_getElem? (i := 424) rfl
set_option maxRecDepth 20000 in
theorem m_425 : (Jvm.Cond.fieldLink "TapOfficeModel" (44 : Nat) "TapOfficeModel" "kind" "[I") ∈ lw_tbl := List.mem_of_getElem? (i := 425) rfl
set_option maxRecDepth 20000 in
theorem m_426 : (Jvm.Cond.fieldLink "TapOfficeModel" (47 : Nat) "TapOfficeModel" "amount" "[I") ∈ lw_tbl := List.mem_of_getElem? (i := 426) rfl
set_option maxRecDepth 20000 in
theorem m_427 : (Jvm.Cond.fieldLink "TapOfficeModel" (50 : Nat) "TapOfficeModel" "balance" "[I") ∈ lw_tbl := List.mem_of_getElem? (i := 427) rfl
set_option maxRecDepth 20000 in
theorem m_428 : (Jvm.Cond.laysFinal "TapOfficeModel" "TapOfficeModel" "fare" "[I") ∈ lw_tbl := List.mem_of_getElem? (i := 428) rfl
set_option maxRecDepth 20000 in
theorem m_429 : (Jvm.Cond.soleField "TapOfficeModel" "fare") ∈ lw_tbl := List.mem_of_getElem? (i := 429) rfl
set_option maxRecDepth 20000 in
theorem m_430 : (Jvm.Cond.laysFinal "TapOfficeModel" "TapOfficeModel" "setting" "[I") ∈ lw_tbl := List.mem_of_getElem? (i := 430) rfl
set_option maxRecDepth 20000 in
theorem m_431 : (Jvm.Cond.soleField "TapOfficeModel" "setting") ∈ lw_tbl := List.mem_of_getElem? (i := 431) rfl
set_option maxRecDepth 20000 in
theorem m_432 : (Jvm.Cond.lays "TapOfficeModel" "TapOfficeModel" "time" "I") ∈ lw_tbl := List.mem_of_getElem? (i := 432) rfl
set_option maxRecDepth 20000 in
theorem m_433 : (Jvm.Cond.soleField "TapOfficeModel" "time") ∈ lw_tbl := List.mem_of_getElem? (i := 433) rfl
set_option maxRecDepth 20000 in
theorem m_434 : (Jvm.Cond.laysFinal "TapOfficeModel" "TapOfficeModel" "words" "[I") ∈ lw_tbl := List.mem_of_getElem? (i := 434) rfl
set_option maxRecDepth 20000 in
theorem m_435 : (Jvm.Cond.soleField "TapOfficeModel" "words") ∈ lw_tbl := List.mem_of_getElem? (i := 435) rfl
set_option maxRecDepth 20000 in
theorem m_436 : (Jvm.Cond.laysFinal "TapOfficeModel" "TapOfficeModel" "next" "[I") ∈ lw_tbl := List.mem_of_getElem? (i := 436) rfl
set_option maxRecDepth 20000 in
theorem m_437 : (Jvm.Cond.soleField "TapOfficeModel" "next") ∈ lw_tbl := List.mem_of_getElem? (i := 437) rfl
set_option maxRecDepth 20000 in
theorem m_438 : (Jvm.Cond.laysFinal "TapOfficeModel" "TapOfficeModel" "zone" "[I") ∈ lw_tbl := List.mem_of_getElem? (i := 438) rfl
set_option maxRecDepth 20000 in
theorem m_439 : (Jvm.Cond.soleField "TapOfficeModel" "zone") ∈ lw_tbl := List.mem_of_getElem? (i := 439) rfl
set_option maxRecDepth 20000 in
theorem m_440 : (Jvm.Cond.laysFinal "TapOfficeModel" "TapOfficeModel" "exit" "[Z") ∈ lw_tbl := List.mem_of_getElem? (i := 440) rfl
set_option maxRecDepth 20000 in
theorem m_441 : (Jvm.Cond.soleField "TapOfficeModel" "exit") ∈ lw_tbl := List.mem_of_getElem? (i := 441) rfl
set_option maxRecDepth 20000 in
theorem m_442 : (Jvm.Cond.laysFinal "TapOfficeModel" "TapOfficeModel" "log" "[I") ∈ lw_tbl := List.mem_of_getElem? (i := 442) rfl
set_option maxRecDepth 20000 in
theorem m_443 : (Jvm.Cond.soleField "TapOfficeModel" "log") ∈ lw_tbl := List.mem_of_getElem? (i := 443) rfl
set_option maxRecDepth 20000 in
theorem m_444 : (Jvm.Cond.laysFinal "TapOfficeModel" "TapOfficeModel" "logged" "[I") ∈ lw_tbl := List.mem_of_getElem? (i := 444) rfl
set_option maxRecDepth 20000 in
theorem m_445 : (Jvm.Cond.soleField "TapOfficeModel" "logged") ∈ lw_tbl := List.mem_of_getElem? (i := 445) rfl
set_option maxRecDepth 20000 in
theorem m_446 : (Jvm.Cond.laysFinal "TapOfficeModel" "TapOfficeModel" "denies" "[Z") ∈ lw_tbl := List.mem_of_getElem? (i := 446) rfl
set_option maxRecDepth 20000 in
theorem m_447 : (Jvm.Cond.soleField "TapOfficeModel" "denies") ∈ lw_tbl := List.mem_of_getElem? (i := 447) rfl
set_option maxRecDepth 20000 in
theorem m_448 : (Jvm.Cond.laysFinal "TapOfficeModel" "TapOfficeModel" "denied" "[Z") ∈ lw_tbl := List.mem_of_getElem? (i := 448) rfl
set_option maxRecDepth 20000 in
theorem m_449 : (Jvm.Cond.soleField "TapOfficeModel" "denied") ∈ lw_tbl := List.mem_of_getElem? (i := 449) rfl
set_option maxRecDepth 20000 in
theorem m_450 : (Jvm.Cond.laysFinal "TapOfficeModel" "TapOfficeModel" "income" "[I") ∈ lw_tbl := List.mem_of_getElem? (i := 450) rfl
set_option maxRecDepth 20000 in
theorem m_451 : (Jvm.Cond.soleField "TapOfficeModel" "income") ∈ lw_tbl := List.mem_of_getElem? (i := 451) rfl
set_option maxRecDepth 20000 in
theorem m_452 : (Jvm.Cond.lays "TapOfficeModel" "TapOfficeModel" "torn" "I") ∈ lw_tbl := List.mem_of_getElem? (i := 452) rfl
set_option maxRecDepth 20000 in
theorem m_453 : (Jvm.Cond.soleField "TapOfficeModel" "torn") ∈ lw_tbl := List.mem_of_getElem? (i := 453) rfl
set_option maxRecDepth 20000 in
theorem m_454 : (Jvm.Cond.laysFinal "TapOfficeModel" "TapOfficeModel" "kind" "[I") ∈ lw_tbl := List.mem_of_getElem? (i := 454) rfl
set_option maxRecDepth 20000 in
theorem m_455 : (Jvm.Cond.soleField "TapOfficeModel" "kind") ∈ lw_tbl := List.mem_of_getElem? (i := 455) rfl
set_option maxRecDepth 20000 in
theorem m_456 : (Jvm.Cond.laysFinal "TapOfficeModel" "TapOfficeModel" "amount" "[I") ∈ lw_tbl := List.mem_of_getElem? (i := 456) rfl
set_option maxRecDepth 20000 in
theorem m_457 : (Jvm.Cond.soleField "TapOfficeModel" "amount") ∈ lw_tbl := List.mem_of_getElem? (i := 457) rfl
set_option maxRecDepth 20000 in
theorem m_458 : (Jvm.Cond.laysFinal "TapOfficeModel" "TapOfficeModel" "balance" "[I") ∈ lw_tbl := List.mem_of_getElem? (i := 458) rfl
set_option maxRecDepth 20000 in
theorem m_459 : (Jvm.Cond.soleField "TapOfficeModel" "balance") ∈ lw_tbl := List.mem_of_getElem? (i := 459) rfl
set_option maxRecDepth 20000 in
theorem m_460 : (Jvm.Cond.superclass "TapOfficeModel" "java/lang/Object") ∈ lw_tbl := List.mem_of_getElem? (i := 460) rfl
set_option maxRecDepth 20000 in
theorem m_461 : (Jvm.Cond.methodLink "TapOfficeLaw" (17 : Nat) ({ cls := "TapOfficeModel", name := "fare", desc := "(III)I" } : Jvm.MethodName)) ∈ lw_tbl := List.mem_of_getElem? (i := 461) rfl
set_option maxRecDepth 20000 in
theorem m_462 : (Jvm.Cond.instanceMethod ({ cls := "TapOfficeModel", name := "fare", desc := "(III)I" } : Jvm.MethodName)) ∈ lw_tbl := List.mem_of_getElem? (i := 462) rfl
set_option maxRecDepth 20000 in
theorem m_463 : (Jvm.Cond.selects "TapOfficeModel" ({ cls := "TapOfficeModel", name := "fare", desc := "(III)I" } : Jvm.MethodName) ({ cls := "TapOfficeModel", name := "fare", desc := "(III)I" } : Jvm.MethodName)) ∈ lw_tbl := List.mem_of_getElem? (i := 463) rfl
set_option maxRecDepth 20000 in
theorem m_464 : (Jvm.Cond.code ({ cls := "TapOfficeModel", name := "fare", desc := "(III)I" } : Jvm.MethodName) prog_7_method_3_code (4 : Nat) (Option.some Jvm.ClassFile.FieldType.int)) ∈ lw_tbl := List.mem_of_getElem? (i := 464) rfl
set_option maxRecDepth 20000 in
theorem m_465 : (Jvm.Cond.methodLink "TapOfficeModel" (53 : Nat) ({ cls := "TapOfficeModel", name := "in", desc := "(III)Z" } : Jvm.MethodName)) ∈ lw_tbl := List.mem_of_getElem? (i := 465) rfl
set_option maxRecDepth 20000 in
theorem m_466 : (Jvm.Cond.static ({ cls := "TapOfficeModel", name := "in", desc := "(III)Z" } : Jvm.MethodName)) ∈ lw_tbl := List.mem_of_getElem? (i := 466) rfl
set_option maxRecDepth 20000 in
theorem m_467 : (Jvm.Cond.code ({ cls := "TapOfficeModel", name := "in", desc := "(III)Z" } : Jvm.MethodName) prog_7_method_2_code (3 : Nat) (Option.some Jvm.ClassFile.FieldType.boolean)) ∈ lw_tbl := List.mem_of_getElem? (i := 467) rfl
set_option maxRecDepth 20000 in
theorem m_468 : (Jvm.Cond.methodLink "TapOfficeLaw" (22 : Nat) ({ cls := "TapOfficeModel", name := "set", desc := "(II)I" } : Jvm.MethodName)) ∈ lw_tbl := List.mem_of_getElem? (i := 468) rfl
set_option maxRecDepth 20000 in
theorem m_469 : (Jvm.Cond.instanceMethod ({ cls := "TapOfficeModel", name := "set", desc := "(II)I" } : Jvm.MethodName)) ∈ lw_tbl := List.mem_of_getElem? (i := 469) rfl
set_option maxRecDepth 20000 in
theorem m_470 : (Jvm.Cond.selects "TapOfficeModel" ({ cls := "TapOfficeModel", name := "set", desc := "(II)I" } : Jvm.MethodName) ({ cls := "TapOfficeModel", name := "set", desc := "(II)I" } : Jvm.MethodName)) ∈ lw_tbl := List.mem_of_getElem? (i := 470) rfl
set_option maxRecDepth 20000 in
theorem m_471 : (Jvm.Cond.code ({ cls := "TapOfficeModel", name := "set", desc := "(II)I" } : Jvm.MethodName) prog_7_method_4_code (4 : Nat) (Option.some Jvm.ClassFile.FieldType.int)) ∈ lw_tbl := List.mem_of_getElem? (i := 471) rfl
set_option maxRecDepth 20000 in
theorem m_472 : (Jvm.Cond.methodLink "TapOfficeLaw" (27 : Nat) ({ cls := "TapOfficeModel", name := "place", desc := "(IIZ)I" } : Jvm.MethodName)) ∈ lw_tbl := List.mem_of_getElem? (i := 472) rfl
set_option maxRecDepth 20000 in
theorem m_473 : (Jvm.Cond.instanceMethod ({ cls := "TapOfficeModel", name := "place", desc := "(IIZ)I" } : Jvm.MethodName)) ∈ lw_tbl := List.mem_of_getElem? (i := 473) rfl
set_option maxRecDepth 20000 in
theorem m_474 : (Jvm.Cond.selects "TapOfficeModel" ({ cls := "TapOfficeModel", name := "place", desc := "(IIZ)I" } : Jvm.MethodName) ({ cls := "TapOfficeModel", name := "place", desc := "(IIZ)I" } : Jvm.MethodName)) ∈ lw_tbl := List.mem_of_getElem? (i := 474) rfl
set_option maxRecDepth 20000 in
theorem m_475 : (Jvm.Cond.code ({ cls := "TapOfficeModel", name := "place", desc := "(IIZ)I" } : Jvm.MethodName) prog_7_method_5_code (4 : Nat) (Option.some Jvm.ClassFile.FieldType.int)) ∈ lw_tbl := List.mem_of_getElem? (i := 475) rfl
set_option maxRecDepth 20000 in
theorem m_476 : (Jvm.Cond.methodLink "TapOfficeLaw" (32 : Nat) ({ cls := "TapOfficeModel", name := "clock", desc := "(I)I" } : Jvm.MethodName)) ∈ lw_tbl := List.mem_of_getElem? (i := 476) rfl
set_option maxRecDepth 20000 in
theorem m_477 : (Jvm.Cond.instanceMethod ({ cls := "TapOfficeModel", name := "clock", desc := "(I)I" } : Jvm.MethodName)) ∈ lw_tbl := List.mem_of_getElem? (i := 477) rfl
set_option maxRecDepth 20000 in
theorem m_478 : (Jvm.Cond.selects "TapOfficeModel" ({ cls := "TapOfficeModel", name := "clock", desc := "(I)I" } : Jvm.MethodName) ({ cls := "TapOfficeModel", name := "clock", desc := "(I)I" } : Jvm.MethodName)) ∈ lw_tbl := List.mem_of_getElem? (i := 478) rfl
set_option maxRecDepth 20000 in
theorem m_479 : (Jvm.Cond.code ({ cls := "TapOfficeModel", name := "clock", desc := "(I)I" } : Jvm.MethodName) prog_7_method_6_code (2 : Nat) (Option.some Jvm.ClassFile.FieldType.int)) ∈ lw_tbl := List.mem_of_getElem? (i := 479) rfl
set_option maxRecDepth 20000 in
theorem m_480 : (Jvm.Cond.methodLink "TapOfficeLaw" (36 : Nat) ({ cls := "TapOfficeModel", name := "tap", desc := "(III)I" } : Jvm.MethodName)) ∈ lw_tbl := List.mem_of_getElem? (i := 480) rfl
set_option maxRecDepth 20000 in
theorem m_481 : (Jvm.Cond.instanceMethod ({ cls := "TapOfficeModel", name := "tap", desc := "(III)I" } : Jvm.MethodName)) ∈ lw_tbl := List.mem_of_getElem? (i := 481) rfl
set_option maxRecDepth 20000 in
theorem m_482 : (Jvm.Cond.selects "TapOfficeModel" ({ cls := "TapOfficeModel", name := "tap", desc := "(III)I" } : Jvm.MethodName) ({ cls := "TapOfficeModel", name := "tap", desc := "(III)I" } : Jvm.MethodName)) ∈ lw_tbl := List.mem_of_getElem? (i := 482) rfl
set_option maxRecDepth 20000 in
theorem m_483 : (Jvm.Cond.code ({ cls := "TapOfficeModel", name := "tap", desc := "(III)I" } : Jvm.MethodName) prog_7_method_15_code (7 : Nat) (Option.some Jvm.ClassFile.FieldType.int)) ∈ lw_tbl := List.mem_of_getElem? (i := 483) rfl
set_option maxRecDepth 20000 in
theorem m_484 : (Jvm.Cond.methodLink "TapOfficeModel" (71 : Nat) ({ cls := "TapOfficeModel", name := "load", desc := "(I)V" } : Jvm.MethodName)) ∈ lw_tbl := List.mem_of_getElem? (i := 484) rfl
set_option maxRecDepth 20000 in
theorem m_485 : (Jvm.Cond.privateMethod ({ cls := "TapOfficeModel", name := "load", desc := "(I)V" } : Jvm.MethodName)) ∈ lw_tbl := List.mem_of_getElem? (i := 485) rfl
set_option maxRecDepth 20000 in
theorem m_486 : (Jvm.Cond.instanceMethod ({ cls := "TapOfficeModel", name := "load", desc := "(I)V" } : Jvm.MethodName)) ∈ lw_tbl := List.mem_of_getElem? (i := 486) rfl
set_option maxRecDepth 20000 in
theorem m_487 : (Jvm.Cond.code ({ cls := "TapOfficeModel", name := "load", desc := "(I)V" } : Jvm.MethodName) prog_7_method_14_code (4 : Nat) (Option.none : Option Jvm.ClassFile.FieldType)) ∈ lw_tbl := List.mem_of_getElem? (i := 487) rfl
set_option maxRecDepth 20000 in
theorem m_488 : (Jvm.Cond.methodLink "TapOfficeModel" (61 : Nat) ({ cls := "TapOfficeModel", name := "base", desc := "(I)I" } : Jvm.MethodName)) ∈ lw_tbl := List.mem_of_getElem? (i := 488) rfl
set_option maxRecDepth 20000 in
theorem m_489 : (Jvm.Cond.privateMethod ({ cls := "TapOfficeModel", name := "base", desc := "(I)I" } : Jvm.MethodName)) ∈ lw_tbl := List.mem_of_getElem? (i := 489) rfl
set_option maxRecDepth 20000 in
theorem m_490 : (Jvm.Cond.instanceMethod ({ cls := "TapOfficeModel", name := "base", desc := "(I)I" } : Jvm.MethodName)) ∈ lw_tbl := List.mem_of_getElem? (i := 490) rfl
set_option maxRecDepth 20000 in
theorem m_491 : (Jvm.Cond.code ({ cls := "TapOfficeModel", name := "base", desc := "(I)I" } : Jvm.MethodName) prog_7_method_7_code (4 : Nat) (Option.some Jvm.ClassFile.FieldType.int)) ∈ lw_tbl := List.mem_of_getElem? (i := 491) rfl
set_option maxRecDepth 20000 in
theorem m_492 : (Jvm.Cond.methodLink "TapOfficeModel" (65 : Nat) ({ cls := "TapOfficeModel", name := "spent", desc := "(I)I" } : Jvm.MethodName)) ∈ lw_tbl := List.mem_of_getElem? (i := 492) rfl
set_option maxRecDepth 20000 in
theorem m_493 : (Jvm.Cond.privateMethod ({ cls := "TapOfficeModel", name := "spent", desc := "(I)I" } : Jvm.MethodName)) ∈ lw_tbl := List.mem_of_getElem? (i := 493) rfl
set_option maxRecDepth 20000 in
theorem m_494 : (Jvm.Cond.instanceMethod ({ cls := "TapOfficeModel", name := "spent", desc := "(I)I" } : Jvm.MethodName)) ∈ lw_tbl := List.mem_of_getElem? (i := 494) rfl
set_option maxRecDepth 20000 in
theorem m_495 : (Jvm.Cond.code ({ cls := "TapOfficeModel", name := "spent", desc := "(I)I" } : Jvm.MethodName) prog_7_method_9_code (3 : Nat) (Option.some Jvm.ClassFile.FieldType.int)) ∈ lw_tbl := List.mem_of_getElem? (i := 495) rfl
set_option maxRecDepth 20000 in
theorem m_496 : (Jvm.Cond.methodLink "TapOfficeModel" (75 : Nat) ({ cls := "TapOfficeModel", name := "leave", desc := "(II)I" } : Jvm.MethodName)) ∈ lw_tbl := List.mem_of_getElem? (i := 496) rfl
set_option maxRecDepth 20000 in
theorem m_497 : (Jvm.Cond.privateMethod ({ cls := "TapOfficeModel", name := "leave", desc := "(II)I" } : Jvm.MethodName)) ∈ lw_tbl := List.mem_of_getElem? (i := 497) rfl
set_option maxRecDepth 20000 in
theorem m_498 : (Jvm.Cond.instanceMethod ({ cls := "TapOfficeModel", name := "leave", desc := "(II)I" } : Jvm.MethodName)) ∈ lw_tbl := List.mem_of_getElem? (i := 498) rfl
set_option maxRecDepth 20000 in
theorem m_499 : (Jvm.Cond.code ({ cls := "TapOfficeModel", name := "leave", desc := "(II)I" } : Jvm.MethodName) prog_7_method_17_code (5 : Nat) (Option.some Jvm.ClassFile.FieldType.int)) ∈ lw_tbl := List.mem_of_getElem? (i := 499) rfl
set_option maxRecDepth 20000 in
theorem m_500 : (Jvm.Cond.methodLink "TapOfficeModel" (89 : Nat) ({ cls := "TapOfficeModel", name := "full", desc := "(I)I" } : Jvm.MethodName)) ∈ lw_tbl := List.mem_of_getElem? (i := 500) rfl
set_option maxRecDepth 20000 in
theorem m_501 : (Jvm.Cond.privateMethod ({ cls := "TapOfficeModel", name := "full", desc := "(I)I" } : Jvm.MethodName)) ∈ lw_tbl := List.mem_of_getElem? (i := 501) rfl
set_option maxRecDepth 20000 in
theorem m_502 : (Jvm.Cond.instanceMethod ({ cls := "TapOfficeModel", name := "full", desc := "(I)I" } : Jvm.MethodName)) ∈ lw_tbl := List.mem_of_getElem? (i := 502) rfl
set_option maxRecDepth 20000 in
theorem m_503 : (Jvm.Cond.code ({ cls := "TapOfficeModel", name := "full", desc := "(I)I" } : Jvm.MethodName) prog_7_method_10_code (4 : Nat) (Option.some Jvm.ClassFile.FieldType.int)) ∈ lw_tbl := List.mem_of_getElem? (i := 503) rfl
set_option maxRecDepth 20000 in
theorem m_504 : (Jvm.Cond.methodLink "TapOfficeModel" (92 : Nat) ({ cls := "TapOfficeModel", name := "price", desc := "(II)I" } : Jvm.MethodName)) ∈ lw_tbl := List.mem_of_getElem? (i := 504) rfl
set_option maxRecDepth 20000 in
theorem m_505 : (Jvm.Cond.privateMethod ({ cls := "TapOfficeModel", name := "price", desc := "(II)I" } : Jvm.MethodName)) ∈ lw_tbl := List.mem_of_getElem? (i := 505) rfl
set_option maxRecDepth 20000 in
theorem m_506 : (Jvm.Cond.instanceMethod ({ cls := "TapOfficeModel", name := "price", desc := "(II)I" } : Jvm.MethodName)) ∈ lw_tbl := List.mem_of_getElem? (i := 506) rfl
set_option maxRecDepth 20000 in
theorem m_507 : (Jvm.Cond.code ({ cls := "TapOfficeModel", name := "price", desc := "(II)I" } : Jvm.MethodName) prog_7_method_11_code (4 : Nat) (Option.some Jvm.ClassFile.FieldType.int)) ∈ lw_tbl := List.mem_of_getElem? (i := 507) rfl
set_option maxRecDepth 20000 in
theorem m_508 : (Jvm.Cond.methodLink "TapOfficeModel" (95 : Nat) ({ cls := "TapOfficeModel", name := "capped", desc := "(II)I" } : Jvm.MethodName)) ∈ lw_tbl := List.mem_of_getElem? (i := 508) rfl
set_option maxRecDepth 20000 in
theorem m_509 : (Jvm.Cond.privateMethod ({ cls := "TapOfficeModel", name := "capped", desc := "(II)I" } : Jvm.MethodName)) ∈ lw_tbl := List.mem_of_getElem? (i := 509) rfl
set_option maxRecDepth 20000 in
theorem m_510 : (Jvm.Cond.instanceMethod ({ cls := "TapOfficeModel", name := "capped", desc := "(II)I" } : Jvm.MethodName)) ∈ lw_tbl := List.mem_of_getElem? (i := 510) rfl
set_option maxRecDepth 20000 in
theorem m_511 : (Jvm.Cond.code ({ cls := "TapOfficeModel", name := "capped", desc := "(II)I" } : Jvm.MethodName) prog_7_method_12_code (5 : Nat) (Option.some Jvm.ClassFile.FieldType.int)) ∈ lw_tbl := List.mem_of_getElem? (i := 511) rfl
set_option maxRecDepth 20000 in
theorem m_512 : (Jvm.Cond.methodLink "TapOfficeModel" (79 : Nat) ({ cls := "TapOfficeModel", name := "enter", desc := "(II)I" } : Jvm.MethodName)) ∈ lw_tbl := List.mem_of_getElem? (i := 512) rfl
set_option maxRecDepth 20000 in
theorem m_513 : (Jvm.Cond.privateMethod ({ cls := "TapOfficeModel", name := "enter", desc := "(II)I" } : Jvm.MethodName)) ∈ lw_tbl := List.mem_of_getElem? (i := 513) rfl
set_option maxRecDepth 20000 in
theorem m_514 : (Jvm.Cond.instanceMethod ({ cls := "TapOfficeModel", name := "enter", desc := "(II)I" } : Jvm.MethodName)) ∈ lw_tbl := List.mem_of_getElem? (i := 514) rfl
set_option maxRecDepth 20000 in
theorem m_515 : (Jvm.Cond.code ({ cls := "TapOfficeModel", name := "enter", desc := "(II)I" } : Jvm.MethodName) prog_7_method_16_code (5 : Nat) (Option.some Jvm.ClassFile.FieldType.int)) ∈ lw_tbl := List.mem_of_getElem? (i := 515) rfl
set_option maxRecDepth 20000 in
theorem m_516 : (Jvm.Cond.methodLink "TapOfficeModel" (68 : Nat) ({ cls := "TapOfficeModel", name := "counter", desc := "(I)I" } : Jvm.MethodName)) ∈ lw_tbl := List.mem_of_getElem? (i := 516) rfl
set_option maxRecDepth 20000 in
theorem m_517 : (Jvm.Cond.privateMethod ({ cls := "TapOfficeModel", name := "counter", desc := "(I)I" } : Jvm.MethodName)) ∈ lw_tbl := List.mem_of_getElem? (i := 517) rfl
set_option maxRecDepth 20000 in
theorem m_518 : (Jvm.Cond.instanceMethod ({ cls := "TapOfficeModel", name := "counter", desc := "(I)I" } : Jvm.MethodName)) ∈ lw_tbl := List.mem_of_getElem? (i := 518) rfl
set_option maxRecDepth 20000 in
theorem m_519 : (Jvm.Cond.code ({ cls := "TapOfficeModel", name := "counter", desc := "(I)I" } : Jvm.MethodName) prog_7_method_8_code (2 : Nat) (Option.some Jvm.ClassFile.FieldType.int)) ∈ lw_tbl := List.mem_of_getElem? (i := 519) rfl
set_option maxRecDepth 20000 in
theorem m_520 : (Jvm.Cond.methodLink "TapOfficeModel" (82 : Nat) ({ cls := "TapOfficeModel", name := "change", desc := "(II)V" } : Jvm.MethodName)) ∈ lw_tbl := List.mem_of_getElem? (i := 520) rfl
set_option maxRecDepth 20000 in
theorem m_521 : (Jvm.Cond.privateMethod ({ cls := "TapOfficeModel", name := "change", desc := "(II)V" } : Jvm.MethodName)) ∈ lw_tbl := List.mem_of_getElem? (i := 521) rfl
set_option maxRecDepth 20000 in
theorem m_522 : (Jvm.Cond.instanceMethod ({ cls := "TapOfficeModel", name := "change", desc := "(II)V" } : Jvm.MethodName)) ∈ lw_tbl := List.mem_of_getElem? (i := 522) rfl
set_option maxRecDepth 20000 in
theorem m_523 : (Jvm.Cond.code ({ cls := "TapOfficeModel", name := "change", desc := "(II)V" } : Jvm.MethodName) prog_7_method_13_code (6 : Nat) (Option.none : Option Jvm.ClassFile.FieldType)) ∈ lw_tbl := List.mem_of_getElem? (i := 523) rfl
set_option maxRecDepth 20000 in
theorem m_524 : (Jvm.Cond.methodLink "TapOfficeLaw" (40 : Nat) ({ cls := "TapOfficeModel", name := "topUp", desc := "(II)I" } : Jvm.MethodName)) ∈ lw_tbl := List.mem_of_getElem? (i := 524) rfl
set_option maxRecDepth 20000 in
theorem m_525 : (Jvm.Cond.instanceMethod ({ cls := "TapOfficeModel", name := "topUp", desc := "(II)I" } : Jvm.MethodName)) ∈ lw_tbl := List.mem_of_getElem? (i := 525) rfl
set_option maxRecDepth 20000 in
theorem m_526 : (Jvm.Cond.selects "TapOfficeModel" ({ cls := "TapOfficeModel", name := "topUp", desc := "(II)I" } : Jvm.MethodName) ({ cls := "TapOfficeModel", name := "topUp", desc := "(II)I" } : Jvm.MethodName)) ∈ lw_tbl := List.mem_of_getElem? (i := 526) rfl
set_option maxRecDepth 20000 in
theorem m_527 : (Jvm.Cond.code ({ cls := "TapOfficeModel", name := "topUp", desc := "(II)I" } : Jvm.MethodName) prog_7_method_19_code (3 : Nat) (Option.some Jvm.ClassFile.FieldType.int)) ∈ lw_tbl := List.mem_of_getElem? (i := 527) rfl
set_option maxRecDepth 20000 in
theorem m_528 : (Jvm.Cond.methodLink "TapOfficeModel" (98 : Nat) ({ cls := "TapOfficeModel", name := "enterOffice", desc := "(IIIII)V" } : Jvm.MethodName)) ∈ lw_tbl := List.mem_of_getElem? (i := 528) rfl
set_option maxRecDepth 20000 in
theorem m_529 : (Jvm.Cond.privateMethod ({ cls := "TapOfficeModel", name := "enterOffice", desc := "(IIIII)V" } : Jvm.MethodName)) ∈ lw_tbl := List.mem_of_getElem? (i := 529) rfl
set_option maxRecDepth 20000 in
theorem m_530 : (Jvm.Cond.instanceMethod ({ cls := "TapOfficeModel", name := "enterOffice", desc := "(IIIII)V" } : Jvm.MethodName)) ∈ lw_tbl := List.mem_of_getElem? (i := 530) rfl
set_option maxRecDepth 20000 in
theorem m_531 : (Jvm.Cond.code ({ cls := "TapOfficeModel", name := "enterOffice", desc := "(IIIII)V" } : Jvm.MethodName) prog_7_method_18_code (6 : Nat) (Option.none : Option Jvm.ClassFile.FieldType)) ∈ lw_tbl := List.mem_of_getElem? (i := 531) rfl
set_option maxRecDepth 20000 in
theorem m_532 : (Jvm.Cond.methodLink "TapOfficeLaw" (45 : Nat) ({ cls := "TapOfficeModel", name := "upload", desc := "(IZ)I" } : Jvm.MethodName)) ∈ lw_tbl := List.mem_of_getElem? (i := 532) rfl
set_option maxRecDepth 20000 in
theorem m_533 : (Jvm.Cond.instanceMethod ({ cls := "TapOfficeModel", name := "upload", desc := "(IZ)I" } : Jvm.MethodName)) ∈ lw_tbl := List.mem_of_getElem? (i := 533) rfl
set_option maxRecDepth 20000 in
theorem m_534 : (Jvm.Cond.selects "TapOfficeModel" ({ cls := "TapOfficeModel", name := "upload", desc := "(IZ)I" } : Jvm.MethodName) ({ cls := "TapOfficeModel", name := "upload", desc := "(IZ)I" } : Jvm.MethodName)) ∈ lw_tbl := List.mem_of_getElem? (i := 534) rfl
set_option maxRecDepth 20000 in
theorem m_535 : (Jvm.Cond.code ({ cls := "TapOfficeModel", name := "upload", desc := "(IZ)I" } : Jvm.MethodName) prog_7_method_20_code (6 : Nat) (Option.some Jvm.ClassFile.FieldType.int)) ∈ lw_tbl := List.mem_of_getElem? (i := 535) rfl
set_option maxRecDepth 20000 in
theorem m_536 : (Jvm.Cond.methodLink "TapOfficeLaw" (49 : Nat) ({ cls := "TapOfficeModel", name := "deny", desc := "(IZ)I" } : Jvm.MethodName)) ∈ lw_tbl := List.mem_of_getElem? (i := 536) rfl
set_option maxRecDepth 20000 in
theorem m_537 : (Jvm.Cond.instanceMethod ({ cls := "TapOfficeModel", name := "deny", desc := "(IZ)I" } : Jvm.MethodName)) ∈ lw_tbl := List.mem_of_getElem? (i := 537) rfl
set_option maxRecDepth 20000 in
theorem m_538 : (Jvm.Cond.selects "TapOfficeModel" ({ cls := "TapOfficeModel", name := "deny", desc := "(IZ)I" } : Jvm.MethodName) ({ cls := "TapOfficeModel", name := "deny", desc := "(IZ)I" } : Jvm.MethodName)) ∈ lw_tbl := List.mem_of_getElem? (i := 538) rfl
set_option maxRecDepth 20000 in
theorem m_539 : (Jvm.Cond.code ({ cls := "TapOfficeModel", name := "deny", desc := "(IZ)I" } : Jvm.MethodName) prog_7_method_21_code (3 : Nat) (Option.some Jvm.ClassFile.FieldType.int)) ∈ lw_tbl := List.mem_of_getElem? (i := 539) rfl
set_option maxRecDepth 20000 in
theorem m_540 : (Jvm.Cond.methodLink "TapOfficeLaw" (53 : Nat) ({ cls := "TapOfficeModel", name := "word", desc := "(III)I" } : Jvm.MethodName)) ∈ lw_tbl := List.mem_of_getElem? (i := 540) rfl
set_option maxRecDepth 20000 in
theorem m_541 : (Jvm.Cond.instanceMethod ({ cls := "TapOfficeModel", name := "word", desc := "(III)I" } : Jvm.MethodName)) ∈ lw_tbl := List.mem_of_getElem? (i := 541) rfl
set_option maxRecDepth 20000 in
theorem m_542 : (Jvm.Cond.selects "TapOfficeModel" ({ cls := "TapOfficeModel", name := "word", desc := "(III)I" } : Jvm.MethodName) ({ cls := "TapOfficeModel", name := "word", desc := "(III)I" } : Jvm.MethodName)) ∈ lw_tbl := List.mem_of_getElem? (i := 542) rfl
set_option maxRecDepth 20000 in
theorem m_543 : (Jvm.Cond.code ({ cls := "TapOfficeModel", name := "word", desc := "(III)I" } : Jvm.MethodName) prog_7_method_22_code (4 : Nat) (Option.some Jvm.ClassFile.FieldType.int)) ∈ lw_tbl := List.mem_of_getElem? (i := 543) rfl
set_option maxRecDepth 20000 in
theorem m_544 : (Jvm.Cond.methodLink "TapOfficeLaw" (57 : Nat) ({ cls := "TapOfficeModel", name := "card", desc := "(II)I" } : Jvm.MethodName)) ∈ lw_tbl := List.mem_of_getElem? (i := 544) rfl
set_option maxRecDepth 20000 in
theorem m_545 : (Jvm.Cond.instanceMethod ({ cls := "TapOfficeModel", name := "card", desc := "(II)I" } : Jvm.MethodName)) ∈ lw_tbl := List.mem_of_getElem? (i := 545) rfl
set_option maxRecDepth 20000 in
theorem m_546 : (Jvm.Cond.selects "TapOfficeModel" ({ cls := "TapOfficeModel", name := "card", desc := "(II)I" } : Jvm.MethodName) ({ cls := "TapOfficeModel", name := "card", desc := "(II)I" } : Jvm.MethodName)) ∈ lw_tbl := List.mem_of_getElem? (i := 546) rfl
set_option maxRecDepth 20000 in
theorem m_547 : (Jvm.Cond.code ({ cls := "TapOfficeModel", name := "card", desc := "(II)I" } : Jvm.MethodName) prog_7_method_23_code (3 : Nat) (Option.some Jvm.ClassFile.FieldType.int)) ∈ lw_tbl := List.mem_of_getElem? (i := 547) rfl
set_option maxRecDepth 20000 in
theorem m_548 : (Jvm.Cond.methodLink "TapOfficeLaw" (61 : Nat) ({ cls := "TapOfficeModel", name := "logged", desc := "(III)I" } : Jvm.MethodName)) ∈ lw_tbl := List.mem_of_getElem? (i := 548) rfl
set_option maxRecDepth 20000 in
theorem m_549 : (Jvm.Cond.instanceMethod ({ cls := "TapOfficeModel", name := "logged", desc := "(III)I" } : Jvm.MethodName)) ∈ lw_tbl := List.mem_of_getElem? (i := 549) rfl
set_option maxRecDepth 20000 in
theorem m_550 : (Jvm.Cond.selects "TapOfficeModel" ({ cls := "TapOfficeModel", name := "logged", desc := "(III)I" } : Jvm.MethodName) ({ cls := "TapOfficeModel", name := "logged", desc := "(III)I" } : Jvm.MethodName)) ∈ lw_tbl := List.mem_of_getElem? (i := 550) rfl
set_option maxRecDepth 20000 in
theorem m_551 : (Jvm.Cond.code ({ cls := "TapOfficeModel", name := "logged", desc := "(III)I" } : Jvm.MethodName) prog_7_method_24_code (4 : Nat) (Option.some Jvm.ClassFile.FieldType.int)) ∈ lw_tbl := List.mem_of_getElem? (i := 551) rfl
set_option maxRecDepth 20000 in
theorem m_552 : (Jvm.Cond.methodLink "TapOfficeLaw" (65 : Nat) ({ cls := "TapOfficeModel", name := "office", desc := "(II)I" } : Jvm.MethodName)) ∈ lw_tbl := List.mem_of_getElem? (i := 552) rfl
set_option maxRecDepth 20000 in
theorem m_553 : (Jvm.Cond.instanceMethod ({ cls := "TapOfficeModel", name := "office", desc := "(II)I" } : Jvm.MethodName)) ∈ lw_tbl := List.mem_of_getElem? (i := 553) rfl
set_option maxRecDepth 20000 in
theorem m_554 : (Jvm.Cond.selects "TapOfficeModel" ({ cls := "TapOfficeModel", name := "office", desc := "(II)I" } : Jvm.MethodName) ({ cls := "TapOfficeModel", name := "office", desc := "(II)I" } : Jvm.MethodName)) ∈ lw_tbl := List.mem_of_getElem? (i := 554) rfl
set_option maxRecDepth 20000 in
theorem m_555 : (Jvm.Cond.code ({ cls := "TapOfficeModel", name := "office", desc := "(II)I" } : Jvm.MethodName) prog_7_method_29_code (3 : Nat) (Option.some Jvm.ClassFile.FieldType.int)) ∈ lw_tbl := List.mem_of_getElem? (i := 555) rfl
set_option maxRecDepth 20000 in
theorem m_556 : (Jvm.Cond.methodLink "TapOfficeModel" (102 : Nat) ({ cls := "TapOfficeModel", name := "known", desc := "(I)I" } : Jvm.MethodName)) ∈ lw_tbl := List.mem_of_getElem? (i := 556) rfl
set_option maxRecDepth 20000 in
theorem m_557 : (Jvm.Cond.privateMethod ({ cls := "TapOfficeModel", name := "known", desc := "(I)I" } : Jvm.MethodName)) ∈ lw_tbl := List.mem_of_getElem? (i := 557) rfl
set_option maxRecDepth 20000 in
theorem m_558 : (Jvm.Cond.instanceMethod ({ cls := "TapOfficeModel", name := "known", desc := "(I)I" } : Jvm.MethodName)) ∈ lw_tbl := List.mem_of_getElem? (i := 558) rfl
set_option maxRecDepth 20000 in
theorem m_559 : (Jvm.Cond.code ({ cls := "TapOfficeModel", name := "known", desc := "(I)I" } : Jvm.MethodName) prog_7_method_26_code (4 : Nat) (Option.some Jvm.ClassFile.FieldType.int)) ∈ lw_tbl := List.mem_of_getElem? (i := 559) rfl
set_option maxRecDepth 20000 in
theorem m_560 : (Jvm.Cond.methodLink "TapOfficeModel" (105 : Nat) ({ cls := "TapOfficeModel", name := "greatest", desc := "(I)I" } : Jvm.MethodName)) ∈ lw_tbl := List.mem_of_getElem? (i := 560) rfl
set_option maxRecDepth 20000 in
theorem m_561 : (Jvm.Cond.privateMethod ({ cls := "TapOfficeModel", name := "greatest", desc := "(I)I" } : Jvm.MethodName)) ∈ lw_tbl := List.mem_of_getElem? (i := 561) rfl
set_option maxRecDepth 20000 in
theorem m_562 : (Jvm.Cond.instanceMethod ({ cls := "TapOfficeModel", name := "greatest", desc := "(I)I" } : Jvm.MethodName)) ∈ lw_tbl := List.mem_of_getElem? (i := 562) rfl
set_option maxRecDepth 20000 in
theorem m_563 : (Jvm.Cond.code ({ cls := "TapOfficeModel", name := "greatest", desc := "(I)I" } : Jvm.MethodName) prog_7_method_27_code (4 : Nat) (Option.some Jvm.ClassFile.FieldType.int)) ∈ lw_tbl := List.mem_of_getElem? (i := 563) rfl
set_option maxRecDepth 20000 in
theorem m_564 : (Jvm.Cond.methodLink "TapOfficeModel" (108 : Nat) ({ cls := "TapOfficeModel", name := "lost", desc := "(I)I" } : Jvm.MethodName)) ∈ lw_tbl := List.mem_of_getElem? (i := 564) rfl
set_option maxRecDepth 20000 in
theorem m_565 : (Jvm.Cond.privateMethod ({ cls := "TapOfficeModel", name := "lost", desc := "(I)I" } : Jvm.MethodName)) ∈ lw_tbl := List.mem_of_getElem? (i := 565) rfl
set_option maxRecDepth 20000 in
theorem m_566 : (Jvm.Cond.instanceMethod ({ cls := "TapOfficeModel", name := "lost", desc := "(I)I" } : Jvm.MethodName)) ∈ lw_tbl := List.mem_of_getElem? (i := 566) rfl
set_option maxRecDepth 20000 in
theorem m_567 : (Jvm.Cond.code ({ cls := "TapOfficeModel", name := "lost", desc := "(I)I" } : Jvm.MethodName) prog_7_method_28_code (8 : Nat) (Option.some Jvm.ClassFile.FieldType.int)) ∈ lw_tbl := List.mem_of_getElem? (i := 567) rfl
set_option maxRecDepth 20000 in
theorem m_568 : (Jvm.Cond.methodLink "TapOfficeModel" (111 : Nat) ({ cls := "TapOfficeModel", name := "sum", desc := "(II)I" } : Jvm.MethodName)) ∈ lw_tbl := List.mem_of_getElem? (i := 568) rfl
set_option maxRecDepth 20000 in
theorem m_569 : (Jvm.Cond.privateMethod ({ cls := "TapOfficeModel", name := "sum", desc := "(II)I" } : Jvm.MethodName)) ∈ lw_tbl := List.mem_of_getElem? (i := 569) rfl
set_option maxRecDepth 20000 in
theorem m_570 : (Jvm.Cond.instanceMethod ({ cls := "TapOfficeModel", name := "sum", desc := "(II)I" } : Jvm.MethodName)) ∈ lw_tbl := List.mem_of_getElem? (i := 570) rfl
set_option maxRecDepth 20000 in
theorem m_571 : (Jvm.Cond.code ({ cls := "TapOfficeModel", name := "sum", desc := "(II)I" } : Jvm.MethodName) prog_7_method_25_code (5 : Nat) (Option.some Jvm.ClassFile.FieldType.int)) ∈ lw_tbl := List.mem_of_getElem? (i := 571) rfl
set_option maxRecDepth 20000 in
theorem m_572 : (Jvm.Cond.methodLink "TapOfficeLaw" (69 : Nat) ({ cls := "TapOfficeModel", name := "income", desc := "(I)I" } : Jvm.MethodName)) ∈ lw_tbl := List.mem_of_getElem? (i := 572) rfl
set_option maxRecDepth 20000 in
theorem m_573 : (Jvm.Cond.instanceMethod ({ cls := "TapOfficeModel", name := "income", desc := "(I)I" } : Jvm.MethodName)) ∈ lw_tbl := List.mem_of_getElem? (i := 573) rfl
set_option maxRecDepth 20000 in
theorem m_574 : (Jvm.Cond.selects "TapOfficeModel" ({ cls := "TapOfficeModel", name := "income", desc := "(I)I" } : Jvm.MethodName) ({ cls := "TapOfficeModel", name := "income", desc := "(I)I" } : Jvm.MethodName)) ∈ lw_tbl := List.mem_of_getElem? (i := 574) rfl
set_option maxRecDepth 20000 in
theorem m_575 : (Jvm.Cond.code ({ cls := "TapOfficeModel", name := "income", desc := "(I)I" } : Jvm.MethodName) prog_7_method_30_code (2 : Nat) (Option.some Jvm.ClassFile.FieldType.int)) ∈ lw_tbl := List.mem_of_getElem? (i := 575) rfl
set_option maxRecDepth 20000 in
theorem m_576 : (Jvm.Cond.methodLink "TapOfficeLaw" (73 : Nat) ({ cls := "TapOfficeModel", name := "count", desc := "(I)I" } : Jvm.MethodName)) ∈ lw_tbl := List.mem_of_getElem? (i := 576) rfl
set_option maxRecDepth 20000 in
theorem m_577 : (Jvm.Cond.instanceMethod ({ cls := "TapOfficeModel", name := "count", desc := "(I)I" } : Jvm.MethodName)) ∈ lw_tbl := List.mem_of_getElem? (i := 577) rfl
set_option maxRecDepth 20000 in
theorem m_578 : (Jvm.Cond.selects "TapOfficeModel" ({ cls := "TapOfficeModel", name := "count", desc := "(I)I" } : Jvm.MethodName) ({ cls := "TapOfficeModel", name := "count", desc := "(I)I" } : Jvm.MethodName)) ∈ lw_tbl := List.mem_of_getElem? (i := 578) rfl
set_option maxRecDepth 20000 in
theorem m_579 : (Jvm.Cond.code ({ cls := "TapOfficeModel", name := "count", desc := "(I)I" } : Jvm.MethodName) prog_7_method_31_code (5 : Nat) (Option.some Jvm.ClassFile.FieldType.int)) ∈ lw_tbl := List.mem_of_getElem? (i := 579) rfl
