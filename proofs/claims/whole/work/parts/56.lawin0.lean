set_option maxRecDepth 100000 in
theorem cALL_i0 : (Jvm.Cond.selects "DesignSpaces$Front" ({ cls := "DesignSpaces$Front", name := "findHeads", desc := "()V" } : Jvm.MethodName) ({ cls := "DesignSpaces$Front", name := "findHeads", desc := "()V" } : Jvm.MethodName)) ∈ lw_tbl := List.mem_of_getElem? (i := 0) rfl
set_option maxRecDepth 100000 in
theorem cALL_i1 : (Jvm.Cond.selects "DesignSpaces$Front" ({ cls := "DesignSpaces$Front", name := "headFor", desc := "(I)I" } : Jvm.MethodName) ({ cls := "DesignSpaces$Front", name := "headFor", desc := "(I)I" } : Jvm.MethodName)) ∈ lw_tbl := List.mem_of_getElem? (i := 1) rfl
set_option maxRecDepth 100000 in
theorem cALL_i2 : (Jvm.Cond.selects "DesignSpaces$Front" ({ cls := "DesignSpaces$Front", name := "dropBeatenBy", desc := "(I)V" } : Jvm.MethodName) ({ cls := "DesignSpaces$Front", name := "dropBeatenBy", desc := "(I)V" } : Jvm.MethodName)) ∈ lw_tbl := List.mem_of_getElem? (i := 2) rfl
set_option maxRecDepth 100000 in
theorem cALL_i3 : (Jvm.Cond.selects "DesignSpaces$Front" ({ cls := "DesignSpaces$Front", name := "collectMembers", desc := "()V" } : Jvm.MethodName) ({ cls := "DesignSpaces$Front", name := "collectMembers", desc := "()V" } : Jvm.MethodName)) ∈ lw_tbl := List.mem_of_getElem? (i := 3) rfl
set_option maxRecDepth 100000 in
theorem cALL_i4 : (Jvm.Cond.selects "java/lang/Throwable" ({ cls := "java/lang/Throwable", name := "fillInStackTrace", desc := "(I)Ljava/lang/Throwable;" } : Jvm.MethodName) ({ cls := "java/lang/Throwable", name := "fillInStackTrace", desc := "(I)Ljava/lang/Throwable;" } : Jvm.MethodName)) ∈ lw_tbl := List.mem_of_getElem? (i := 4) rfl
set_option maxRecDepth 100000 in
theorem cALL_i5 : (Jvm.Cond.selects "DesignSpaces$Book" ({ cls := "DesignSpaces$Book", name := "copyEntries", desc := "(II)V" } : Jvm.MethodName) ({ cls := "DesignSpaces$Book", name := "copyEntries", desc := "(II)V" } : Jvm.MethodName)) ∈ lw_tbl := List.mem_of_getElem? (i := 5) rfl
set_option maxRecDepth 100000 in
theorem cALL_i6 : (Jvm.Cond.selects "DesignSpaces$Search" ({ cls := "DesignSpaces$Search", name := "isPassedBy", desc := "(II)Z" } : Jvm.MethodName) ({ cls := "DesignSpaces$Search", name := "isPassedBy", desc := "(II)Z" } : Jvm.MethodName)) ∈ lw_tbl := List.mem_of_getElem? (i := 6) rfl
set_option maxRecDepth 100000 in
theorem cALL_i7 : (Jvm.Cond.selects "DesignSpaces$Search" ({ cls := "DesignSpaces$Search", name := "keepRow", desc := "(I)V" } : Jvm.MethodName) ({ cls := "DesignSpaces$Search", name := "keepRow", desc := "(I)V" } : Jvm.MethodName)) ∈ lw_tbl := List.mem_of_getElem? (i := 7) rfl
set_option maxRecDepth 100000 in
theorem cALL_i8 : (Jvm.Cond.selects "DesignSpaces$Search" ({ cls := "DesignSpaces$Search", name := "goBehind", desc := "(I)I" } : Jvm.MethodName) ({ cls := "DesignSpaces$Search", name := "goBehind", desc := "(I)I" } : Jvm.MethodName)) ∈ lw_tbl := List.mem_of_getElem? (i := 8) rfl
set_option maxRecDepth 100000 in
theorem cALL_i9 : (Jvm.Cond.selects "DesignSpaces$Walker" ({ cls := "DesignSpaces$Walker", name := "drawNear", desc := "(I)I" } : Jvm.MethodName) ({ cls := "DesignSpaces$Walker", name := "drawNear", desc := "(I)I" } : Jvm.MethodName)) ∈ lw_tbl := List.mem_of_getElem? (i := 9) rfl
set_option maxRecDepth 100000 in
theorem cALL_i10 : (Jvm.Cond.selects "DesignSpaces$Book" ({ cls := "DesignSpaces$Book", name := "differenceAlong", desc := "(III)J" } : Jvm.MethodName) ({ cls := "DesignSpaces$Book", name := "differenceAlong", desc := "(III)J" } : Jvm.MethodName)) ∈ lw_tbl := List.mem_of_getElem? (i := 10) rfl
set_option maxRecDepth 100000 in
theorem cALL_i11 : (Jvm.Cond.initialized "DesignSpaces") ∈ lw_tbl := List.mem_of_getElem? (i := 28) rfl
set_option maxRecDepth 100000 in
theorem cALL_i12 : (Jvm.Cond.initialized "DesignSpaces$Shape") ∈ lw_tbl := List.mem_of_getElem? (i := 29) rfl
set_option maxRecDepth 100000 in
theorem cALL_i13 : (Jvm.Cond.initialized "DesignSpaces$Book") ∈ lw_tbl := List.mem_of_getElem? (i := 30) rfl
set_option maxRecDepth 100000 in
theorem cALL_i14 : (Jvm.Cond.initialized "DesignSpaces$Matches") ∈ lw_tbl := List.mem_of_getElem? (i := 31) rfl
set_option maxRecDepth 100000 in
theorem cALL_i15 : (Jvm.Cond.initialized "DesignSpaces$Front") ∈ lw_tbl := List.mem_of_getElem? (i := 32) rfl
set_option maxRecDepth 100000 in
theorem cALL_i16 : (Jvm.Cond.initialized "DesignSpaces$Search") ∈ lw_tbl := List.mem_of_getElem? (i := 33) rfl
set_option maxRecDepth 100000 in
theorem cALL_i17 : (Jvm.Cond.initialized "DesignSpaces$Walker") ∈ lw_tbl := List.mem_of_getElem? (i := 34) rfl
set_option maxRecDepth 100000 in
theorem cALL_i18 : (Jvm.Cond.initialized "DesignSpaces$Sweeper") ∈ lw_tbl := List.mem_of_getElem? (i := 35) rfl
set_option maxRecDepth 100000 in
theorem cALL_i19 : (Jvm.Cond.initialized "java/lang/Throwable") ∈ lw_tbl := List.mem_of_getElem? (i := 37) rfl
set_option maxRecDepth 100000 in
theorem cALL_i20 : (Jvm.Cond.initialized "java/lang/Exception") ∈ lw_tbl := List.mem_of_getElem? (i := 38) rfl
set_option maxRecDepth 100000 in
theorem cALL_i21 : (Jvm.Cond.initialized "java/lang/RuntimeException") ∈ lw_tbl := List.mem_of_getElem? (i := 39) rfl
set_option maxRecDepth 100000 in
theorem cALL_i22 : (Jvm.Cond.initialized "java/lang/IllegalArgumentException") ∈ lw_tbl := List.mem_of_getElem? (i := 40) rfl
set_option maxRecDepth 100000 in
theorem cALL_i23 : (Jvm.Cond.initialized "java/lang/UnsupportedOperationException") ∈ lw_tbl := List.mem_of_getElem? (i := 41) rfl
set_option maxRecDepth 100000 in
theorem cALL_i24 : (Jvm.Cond.initialized "java/lang/IndexOutOfBoundsException") ∈ lw_tbl := List.mem_of_getElem? (i := 42) rfl
set_option maxRecDepth 100000 in
theorem cALL_i25 : (Jvm.Cond.initialized "java/lang/IllegalStateException") ∈ lw_tbl := List.mem_of_getElem? (i := 43) rfl
set_option maxRecDepth 100000 in
theorem cALL_i26 : (Jvm.Cond.initialized "java/lang/Math") ∈ lw_tbl := List.mem_of_getElem? (i := 44) rfl
set_option maxRecDepth 100000 in
theorem cALL_i27 : (Jvm.Cond.instantiable "DesignSpaces" (6 : Nat)) ∈ lw_tbl := List.mem_of_getElem? (i := 46) rfl
set_option maxRecDepth 100000 in
theorem cALL_i28 : (Jvm.Cond.instanceMethod ({ cls := "DesignSpaces", name := "<init>", desc := "(I)V" } : Jvm.MethodName)) ∈ lw_tbl := List.mem_of_getElem? (i := 48) rfl
set_option maxRecDepth 100000 in
theorem cALL_i29 : (Jvm.Cond.code ({ cls := "DesignSpaces", name := "<init>", desc := "(I)V" } : Jvm.MethodName) prog_1_method_1_code (2 : Nat) (Option.none : Option Jvm.ClassFile.FieldType)) ∈ lw_tbl := List.mem_of_getElem? (i := 49) rfl
set_option maxRecDepth 100000 in
theorem cALL_i30 : (Jvm.Cond.methodLink "DesignSpaces" (3 : Nat) ({ cls := "java/lang/Object", name := "<init>", desc := "()V" } : Jvm.MethodName)) ∈ lw_tbl := List.mem_of_getElem? (i := 50) rfl
set_option maxRecDepth 100000 in
theorem cALL_i31 : (Jvm.Cond.instanceMethod ({ cls := "java/lang/Object", name := "<init>", desc := "()V" } : Jvm.MethodName)) ∈ lw_tbl := List.mem_of_getElem? (i := 51) rfl
set_option maxRecDepth 100000 in
theorem cALL_i32 : (Jvm.Cond.code ({ cls := "java/lang/Object", name := "<init>", desc := "()V" } : Jvm.MethodName) object_method_1_code (1 : Nat) (Option.none : Option Jvm.ClassFile.FieldType)) ∈ lw_tbl := List.mem_of_getElem? (i := 52) rfl
set_option maxRecDepth 100000 in
theorem cALL_i33 : (Jvm.Cond.classLink "DesignSpaces" (9 : Nat) "DesignSpaces$Shape") ∈ lw_tbl := List.mem_of_getElem? (i := 53) rfl
set_option maxRecDepth 100000 in
theorem cALL_i34 : (Jvm.Cond.instantiable "DesignSpaces$Shape" (4 : Nat)) ∈ lw_tbl := List.mem_of_getElem? (i := 54) rfl
set_option maxRecDepth 100000 in
theorem cALL_i35 : (Jvm.Cond.instanceMethod ({ cls := "DesignSpaces$Shape", name := "<init>", desc := "()V" } : Jvm.MethodName)) ∈ lw_tbl := List.mem_of_getElem? (i := 56) rfl
set_option maxRecDepth 100000 in
theorem cALL_i36 : (Jvm.Cond.code ({ cls := "DesignSpaces$Shape", name := "<init>", desc := "()V" } : Jvm.MethodName) prog_6_method_1_code (1 : Nat) (Option.none : Option Jvm.ClassFile.FieldType)) ∈ lw_tbl := List.mem_of_getElem? (i := 57) rfl
set_option maxRecDepth 100000 in
theorem cALL_i37 : (Jvm.Cond.methodLink "DesignSpaces$Shape" (3 : Nat) ({ cls := "java/lang/Object", name := "<init>", desc := "()V" } : Jvm.MethodName)) ∈ lw_tbl := List.mem_of_getElem? (i := 58) rfl
set_option maxRecDepth 100000 in
theorem cALL_i38 : (Jvm.Cond.fieldLink "DesignSpaces$Shape" (9 : Nat) "DesignSpaces$Shape" "sizes" "[I") ∈ lw_tbl := List.mem_of_getElem? (i := 59) rfl
set_option maxRecDepth 100000 in
theorem cALL_i39 : (Jvm.Cond.fieldLink "DesignSpaces$Search" (60 : Nat) "DesignSpaces$Shape" "sizes" "[I") ∈ lw_tbl := List.mem_of_getElem? (i := 60) rfl
set_option maxRecDepth 100000 in
theorem cALL_i40 : (Jvm.Cond.fieldLink "DesignSpaces$Book" (96 : Nat) "DesignSpaces$Shape" "sizes" "[I") ∈ lw_tbl := List.mem_of_getElem? (i := 61) rfl
set_option maxRecDepth 100000 in
theorem cALL_i41 : (Jvm.Cond.fieldLink "DesignSpaces$Shape" (15 : Nat) "DesignSpaces$Shape" "places" "[I") ∈ lw_tbl := List.mem_of_getElem? (i := 62) rfl
set_option maxRecDepth 100000 in
theorem cALL_i42 : (Jvm.Cond.fieldLink "DesignSpaces$Book" (99 : Nat) "DesignSpaces$Shape" "places" "[I") ∈ lw_tbl := List.mem_of_getElem? (i := 63) rfl
set_option maxRecDepth 100000 in
theorem cALL_i43 : (Jvm.Cond.fieldLink "DesignSpaces$Shape" (18 : Nat) "DesignSpaces$Shape" "choices" "I") ∈ lw_tbl := List.mem_of_getElem? (i := 64) rfl
set_option maxRecDepth 100000 in
theorem cALL_i44 : (Jvm.Cond.fieldLink "DesignSpaces$Search" (37 : Nat) "DesignSpaces$Shape" "choices" "I") ∈ lw_tbl := List.mem_of_getElem? (i := 65) rfl
set_option maxRecDepth 100000 in
theorem cALL_i45 : (Jvm.Cond.fieldLink "DesignSpaces" (87 : Nat) "DesignSpaces$Shape" "choices" "I") ∈ lw_tbl := List.mem_of_getElem? (i := 66) rfl
set_option maxRecDepth 100000 in
theorem cALL_i46 : (Jvm.Cond.fieldLink "DesignSpaces$Shape" (22 : Nat) "DesignSpaces$Shape" "designs" "I") ∈ lw_tbl := List.mem_of_getElem? (i := 67) rfl
set_option maxRecDepth 100000 in
theorem cALL_i47 : (Jvm.Cond.fieldLink "DesignSpaces$Book" (51 : Nat) "DesignSpaces$Shape" "designs" "I") ∈ lw_tbl := List.mem_of_getElem? (i := 68) rfl
set_option maxRecDepth 100000 in
theorem cALL_i48 : (Jvm.Cond.fieldLink "DesignSpaces$Sweeper" (24 : Nat) "DesignSpaces$Shape" "designs" "I") ∈ lw_tbl := List.mem_of_getElem? (i := 69) rfl
set_option maxRecDepth 100000 in
theorem cALL_i49 : (Jvm.Cond.fieldLink "DesignSpaces$Front" (40 : Nat) "DesignSpaces$Shape" "designs" "I") ∈ lw_tbl := List.mem_of_getElem? (i := 70) rfl
set_option maxRecDepth 100000 in
theorem cALL_i50 : (Jvm.Cond.fieldLink "DesignSpaces" (236 : Nat) "DesignSpaces$Shape" "designs" "I") ∈ lw_tbl := List.mem_of_getElem? (i := 71) rfl
set_option maxRecDepth 100000 in
theorem cALL_i51 : (Jvm.Cond.laysFinal "DesignSpaces$Shape" "DesignSpaces$Shape" "sizes" "[I") ∈ lw_tbl := List.mem_of_getElem? (i := 72) rfl
set_option maxRecDepth 100000 in
theorem cALL_i52 : (Jvm.Cond.laysFinal "DesignSpaces$Shape" "DesignSpaces$Shape" "places" "[I") ∈ lw_tbl := List.mem_of_getElem? (i := 74) rfl
set_option maxRecDepth 100000 in
theorem cALL_i53 : (Jvm.Cond.lays "DesignSpaces$Shape" "DesignSpaces$Shape" "choices" "I") ∈ lw_tbl := List.mem_of_getElem? (i := 76) rfl
set_option maxRecDepth 100000 in
theorem cALL_i54 : (Jvm.Cond.lays "DesignSpaces$Shape" "DesignSpaces$Shape" "designs" "I") ∈ lw_tbl := List.mem_of_getElem? (i := 78) rfl
set_option maxRecDepth 100000 in
theorem cALL_i55 : (Jvm.Cond.arrayClass Jvm.ClassFile.FieldType.int) ∈ lw_tbl := List.mem_of_getElem? (i := 81) rfl
set_option maxRecDepth 100000 in
theorem cALL_i56 : (Jvm.Cond.classLink "DesignSpaces" (16 : Nat) "DesignSpaces$Book") ∈ lw_tbl := List.mem_of_getElem? (i := 82) rfl
set_option maxRecDepth 100000 in
theorem cALL_i57 : (Jvm.Cond.instantiable "DesignSpaces$Book" (10 : Nat)) ∈ lw_tbl := List.mem_of_getElem? (i := 83) rfl
set_option maxRecDepth 100000 in
theorem cALL_i58 : (Jvm.Cond.methodLink "DesignSpaces" (18 : Nat) ({ cls := "DesignSpaces$Book", name := "<init>", desc := "(LDesignSpaces$Shape;)V" } : Jvm.MethodName)) ∈ lw_tbl := List.mem_of_getElem? (i := 84) rfl
set_option maxRecDepth 100000 in
theorem cALL_i59 : (Jvm.Cond.instanceMethod ({ cls := "DesignSpaces$Book", name := "<init>", desc := "(LDesignSpaces$Shape;)V" } : Jvm.MethodName)) ∈ lw_tbl := List.mem_of_getElem? (i := 85) rfl
set_option maxRecDepth 100000 in
theorem cALL_i60 : (Jvm.Cond.code ({ cls := "DesignSpaces$Book", name := "<init>", desc := "(LDesignSpaces$Shape;)V" } : Jvm.MethodName) prog_2_method_1_code (2 : Nat) (Option.none : Option Jvm.ClassFile.FieldType)) ∈ lw_tbl := List.mem_of_getElem? (i := 86) rfl
set_option maxRecDepth 100000 in
theorem cALL_i61 : (Jvm.Cond.methodLink "DesignSpaces$Book" (3 : Nat) ({ cls := "java/lang/Object", name := "<init>", desc := "()V" } : Jvm.MethodName)) ∈ lw_tbl := List.mem_of_getElem? (i := 87) rfl
set_option maxRecDepth 100000 in
theorem cALL_i62 : (Jvm.Cond.classLink "DesignSpaces$Book" (42 : Nat) "DesignSpaces$Matches") ∈ lw_tbl := List.mem_of_getElem? (i := 88) rfl
set_option maxRecDepth 100000 in
theorem cALL_i63 : (Jvm.Cond.instantiable "DesignSpaces$Matches" (5 : Nat)) ∈ lw_tbl := List.mem_of_getElem? (i := 89) rfl
set_option maxRecDepth 100000 in
theorem cALL_i64 : (Jvm.Cond.methodLink "DesignSpaces$Book" (44 : Nat) ({ cls := "DesignSpaces$Matches", name := "<init>", desc := "(LDesignSpaces$Shape;)V" } : Jvm.MethodName)) ∈ lw_tbl := List.mem_of_getElem? (i := 90) rfl
set_option maxRecDepth 100000 in
theorem cALL_i65 : (Jvm.Cond.instanceMethod ({ cls := "DesignSpaces$Matches", name := "<init>", desc := "(LDesignSpaces$Shape;)V" } : Jvm.MethodName)) ∈ lw_tbl := List.mem_of_getElem? (i := 91) rfl
set_option maxRecDepth 100000 in
theorem cALL_i66 : (Jvm.Cond.code ({ cls := "DesignSpaces$Matches", name := "<init>", desc := "(LDesignSpaces$Shape;)V" } : Jvm.MethodName) prog_4_method_1_code (2 : Nat) (Option.none : Option Jvm.ClassFile.FieldType)) ∈ lw_tbl := List.mem_of_getElem? (i := 92) rfl
set_option maxRecDepth 100000 in
theorem cALL_i67 : (Jvm.Cond.methodLink "DesignSpaces$Matches" (3 : Nat) ({ cls := "java/lang/Object", name := "<init>", desc := "()V" } : Jvm.MethodName)) ∈ lw_tbl := List.mem_of_getElem? (i := 93) rfl
set_option maxRecDepth 100000 in
theorem cALL_i68 : (Jvm.Cond.fieldLink "DesignSpaces$Matches" (24 : Nat) "DesignSpaces$Matches" "shape" "LDesignSpaces$Shape;") ∈ lw_tbl := List.mem_of_getElem? (i := 94) rfl
set_option maxRecDepth 100000 in
theorem cALL_i69 : (Jvm.Cond.fieldLink "DesignSpaces$Matches" (9 : Nat) "DesignSpaces$Matches" "a" "[I") ∈ lw_tbl := List.mem_of_getElem? (i := 95) rfl
set_option maxRecDepth 100000 in
theorem cALL_i70 : (Jvm.Cond.fieldLink "DesignSpaces$Matches" (15 : Nat) "DesignSpaces$Matches" "va" "[I") ∈ lw_tbl := List.mem_of_getElem? (i := 96) rfl
set_option maxRecDepth 100000 in
theorem cALL_i71 : (Jvm.Cond.fieldLink "DesignSpaces$Matches" (18 : Nat) "DesignSpaces$Matches" "b" "[I") ∈ lw_tbl := List.mem_of_getElem? (i := 97) rfl
set_option maxRecDepth 100000 in
theorem cALL_i72 : (Jvm.Cond.fieldLink "DesignSpaces$Matches" (21 : Nat) "DesignSpaces$Matches" "vb" "[I") ∈ lw_tbl := List.mem_of_getElem? (i := 98) rfl
set_option maxRecDepth 100000 in
theorem cALL_i73 : (Jvm.Cond.laysFinal "DesignSpaces$Matches" "DesignSpaces$Matches" "shape" "LDesignSpaces$Shape;") ∈ lw_tbl := List.mem_of_getElem? (i := 99) rfl
set_option maxRecDepth 100000 in
theorem cALL_i74 : (Jvm.Cond.laysFinal "DesignSpaces$Matches" "DesignSpaces$Matches" "a" "[I") ∈ lw_tbl := List.mem_of_getElem? (i := 101) rfl
set_option maxRecDepth 100000 in
theorem cALL_i75 : (Jvm.Cond.laysFinal "DesignSpaces$Matches" "DesignSpaces$Matches" "va" "[I") ∈ lw_tbl := List.mem_of_getElem? (i := 103) rfl
set_option maxRecDepth 100000 in
theorem cALL_i76 : (Jvm.Cond.laysFinal "DesignSpaces$Matches" "DesignSpaces$Matches" "b" "[I") ∈ lw_tbl := List.mem_of_getElem? (i := 105) rfl
set_option maxRecDepth 100000 in
theorem cALL_i77 : (Jvm.Cond.laysFinal "DesignSpaces$Matches" "DesignSpaces$Matches" "vb" "[I") ∈ lw_tbl := List.mem_of_getElem? (i := 107) rfl
set_option maxRecDepth 100000 in
theorem cALL_i78 : (Jvm.Cond.arrayClass Jvm.ClassFile.FieldType.boolean) ∈ lw_tbl := List.mem_of_getElem? (i := 110) rfl
set_option maxRecDepth 100000 in
theorem cALL_i79 : (Jvm.Cond.fieldLink "DesignSpaces$Book" (38 : Nat) "DesignSpaces$Book" "shape" "LDesignSpaces$Shape;") ∈ lw_tbl := List.mem_of_getElem? (i := 111) rfl
set_option maxRecDepth 100000 in
theorem cALL_i80 : (Jvm.Cond.fieldLink "DesignSpaces$Book" (47 : Nat) "DesignSpaces$Book" "matches" "LDesignSpaces$Matches;") ∈ lw_tbl := List.mem_of_getElem? (i := 112) rfl
set_option maxRecDepth 100000 in
theorem cALL_i81 : (Jvm.Cond.fieldLink "DesignSpaces$Book" (9 : Nat) "DesignSpaces$Book" "termsOf" "[I") ∈ lw_tbl := List.mem_of_getElem? (i := 113) rfl
set_option maxRecDepth 100000 in
theorem cALL_i82 : (Jvm.Cond.fieldLink "DesignSpaces$Book" (15 : Nat) "DesignSpaces$Book" "weights" "[I") ∈ lw_tbl := List.mem_of_getElem? (i := 114) rfl
set_option maxRecDepth 100000 in
theorem cALL_i83 : (Jvm.Cond.fieldLink "DesignSpaces$Book" (18 : Nat) "DesignSpaces$Book" "termsTold" "I") ∈ lw_tbl := List.mem_of_getElem? (i := 115) rfl
set_option maxRecDepth 100000 in
theorem cALL_i84 : (Jvm.Cond.fieldLink "DesignSpaces" (107 : Nat) "DesignSpaces$Book" "termsTold" "I") ∈ lw_tbl := List.mem_of_getElem? (i := 116) rfl
set_option maxRecDepth 100000 in
theorem cALL_i85 : (Jvm.Cond.fieldLink "DesignSpaces$Book" (22 : Nat) "DesignSpaces$Book" "rulesTold" "I") ∈ lw_tbl := List.mem_of_getElem? (i := 117) rfl
set_option maxRecDepth 100000 in
theorem cALL_i86 : (Jvm.Cond.fieldLink "DesignSpaces" (120 : Nat) "DesignSpaces$Book" "rulesTold" "I") ∈ lw_tbl := List.mem_of_getElem? (i := 118) rfl
set_option maxRecDepth 100000 in
theorem cALL_i87 : (Jvm.Cond.fieldLink "DesignSpaces$Book" (25 : Nat) "DesignSpaces$Book" "limited" "[Z") ∈ lw_tbl := List.mem_of_getElem? (i := 119) rfl
set_option maxRecDepth 100000 in
theorem cALL_i88 : (Jvm.Cond.fieldLink "DesignSpaces" (131 : Nat) "DesignSpaces$Book" "limited" "[Z") ∈ lw_tbl := List.mem_of_getElem? (i := 120) rfl
set_option maxRecDepth 100000 in
theorem cALL_i89 : (Jvm.Cond.fieldLink "DesignSpaces$Book" (29 : Nat) "DesignSpaces$Book" "most" "[I") ∈ lw_tbl := List.mem_of_getElem? (i := 121) rfl
set_option maxRecDepth 100000 in
theorem cALL_i90 : (Jvm.Cond.fieldLink "DesignSpaces" (135 : Nat) "DesignSpaces$Book" "most" "[I") ∈ lw_tbl := List.mem_of_getElem? (i := 122) rfl
set_option maxRecDepth 100000 in
theorem cALL_i91 : (Jvm.Cond.fieldLink "DesignSpaces$Book" (32 : Nat) "DesignSpaces$Book" "sums" "[I") ∈ lw_tbl := List.mem_of_getElem? (i := 123) rfl
set_option maxRecDepth 100000 in
theorem cALL_i92 : (Jvm.Cond.fieldLink "DesignSpaces$Book" (35 : Nat) "DesignSpaces$Book" "barred" "[Z") ∈ lw_tbl := List.mem_of_getElem? (i := 124) rfl
set_option maxRecDepth 100000 in
theorem cALL_i93 : (Jvm.Cond.laysFinal "DesignSpaces$Book" "DesignSpaces$Book" "shape" "LDesignSpaces$Shape;") ∈ lw_tbl := List.mem_of_getElem? (i := 125) rfl
set_option maxRecDepth 100000 in
theorem cALL_i94 : (Jvm.Cond.laysFinal "DesignSpaces$Book" "DesignSpaces$Book" "matches" "LDesignSpaces$Matches;") ∈ lw_tbl := List.mem_of_getElem? (i := 127) rfl
set_option maxRecDepth 100000 in
theorem cALL_i95 : (Jvm.Cond.laysFinal "DesignSpaces$Book" "DesignSpaces$Book" "termsOf" "[I") ∈ lw_tbl := List.mem_of_getElem? (i := 129) rfl
set_option maxRecDepth 100000 in
theorem cALL_i96 : (Jvm.Cond.laysFinal "DesignSpaces$Book" "DesignSpaces$Book" "weights" "[I") ∈ lw_tbl := List.mem_of_getElem? (i := 131) rfl
set_option maxRecDepth 100000 in
theorem cALL_i97 : (Jvm.Cond.lays "DesignSpaces$Book" "DesignSpaces$Book" "termsTold" "I") ∈ lw_tbl := List.mem_of_getElem? (i := 133) rfl
set_option maxRecDepth 100000 in
theorem cALL_i98 : (Jvm.Cond.lays "DesignSpaces$Book" "DesignSpaces$Book" "rulesTold" "I") ∈ lw_tbl := List.mem_of_getElem? (i := 135) rfl
set_option maxRecDepth 100000 in
theorem cALL_i99 : (Jvm.Cond.laysFinal "DesignSpaces$Book" "DesignSpaces$Book" "limited" "[Z") ∈ lw_tbl := List.mem_of_getElem? (i := 137) rfl
set_option maxRecDepth 100000 in
theorem cALL_i100 : (Jvm.Cond.laysFinal "DesignSpaces$Book" "DesignSpaces$Book" "most" "[I") ∈ lw_tbl := List.mem_of_getElem? (i := 139) rfl
set_option maxRecDepth 100000 in
theorem cALL_i101 : (Jvm.Cond.laysFinal "DesignSpaces$Book" "DesignSpaces$Book" "sums" "[I") ∈ lw_tbl := List.mem_of_getElem? (i := 141) rfl
set_option maxRecDepth 100000 in
theorem cALL_i102 : (Jvm.Cond.laysFinal "DesignSpaces$Book" "DesignSpaces$Book" "barred" "[Z") ∈ lw_tbl := List.mem_of_getElem? (i := 143) rfl
set_option maxRecDepth 100000 in
theorem cALL_i103 : (Jvm.Cond.classLink "DesignSpaces" (25 : Nat) "DesignSpaces$Front") ∈ lw_tbl := List.mem_of_getElem? (i := 146) rfl
set_option maxRecDepth 100000 in
theorem cALL_i104 : (Jvm.Cond.instantiable "DesignSpaces$Front" (6 : Nat)) ∈ lw_tbl := List.mem_of_getElem? (i := 147) rfl
set_option maxRecDepth 100000 in
theorem cALL_i105 : (Jvm.Cond.methodLink "DesignSpaces" (27 : Nat) ({ cls := "DesignSpaces$Front", name := "<init>", desc := "(LDesignSpaces$Shape;LDesignSpaces$Book;)V" } : Jvm.MethodName)) ∈ lw_tbl := List.mem_of_getElem? (i := 148) rfl
set_option maxRecDepth 100000 in
theorem cALL_i106 : (Jvm.Cond.instanceMethod ({ cls := "DesignSpaces$Front", name := "<init>", desc := "(LDesignSpaces$Shape;LDesignSpaces$Book;)V" } : Jvm.MethodName)) ∈ lw_tbl := List.mem_of_getElem? (i := 149) rfl
set_option maxRecDepth 100000 in
theorem cALL_i107 : (Jvm.Cond.code ({ cls := "DesignSpaces$Front", name := "<init>", desc := "(LDesignSpaces$Shape;LDesignSpaces$Book;)V" } : Jvm.MethodName) prog_3_method_1_code (3 : Nat) (Option.none : Option Jvm.ClassFile.FieldType)) ∈ lw_tbl := List.mem_of_getElem? (i := 150) rfl
set_option maxRecDepth 100000 in
theorem cALL_i108 : (Jvm.Cond.methodLink "DesignSpaces$Front" (3 : Nat) ({ cls := "java/lang/Object", name := "<init>", desc := "()V" } : Jvm.MethodName)) ∈ lw_tbl := List.mem_of_getElem? (i := 151) rfl
set_option maxRecDepth 100000 in
theorem cALL_i109 : (Jvm.Cond.fieldLink "DesignSpaces$Front" (26 : Nat) "DesignSpaces$Front" "shape" "LDesignSpaces$Shape;") ∈ lw_tbl := List.mem_of_getElem? (i := 152) rfl
set_option maxRecDepth 100000 in
theorem cALL_i110 : (Jvm.Cond.fieldLink "DesignSpaces$Front" (30 : Nat) "DesignSpaces$Front" "book" "LDesignSpaces$Book;") ∈ lw_tbl := List.mem_of_getElem? (i := 153) rfl
set_option maxRecDepth 100000 in
theorem cALL_i111 : (Jvm.Cond.fieldLink "DesignSpaces$Front" (9 : Nat) "DesignSpaces$Front" "members" "[I") ∈ lw_tbl := List.mem_of_getElem? (i := 154) rfl
set_option maxRecDepth 100000 in
theorem cALL_i112 : (Jvm.Cond.fieldLink "DesignSpaces" (176 : Nat) "DesignSpaces$Front" "members" "[I") ∈ lw_tbl := List.mem_of_getElem? (i := 155) rfl
set_option maxRecDepth 100000 in
theorem cALL_i113 : (Jvm.Cond.fieldLink "DesignSpaces$Front" (15 : Nat) "DesignSpaces$Front" "heads" "[I") ∈ lw_tbl := List.mem_of_getElem? (i := 156) rfl
set_option maxRecDepth 100000 in
theorem cALL_i114 : (Jvm.Cond.fieldLink "DesignSpaces$Front" (18 : Nat) "DesignSpaces$Front" "size" "I") ∈ lw_tbl := List.mem_of_getElem? (i := 157) rfl
set_option maxRecDepth 100000 in
theorem cALL_i115 : (Jvm.Cond.fieldLink "DesignSpaces" (171 : Nat) "DesignSpaces$Front" "size" "I") ∈ lw_tbl := List.mem_of_getElem? (i := 158) rfl
set_option maxRecDepth 100000 in
theorem cALL_i116 : (Jvm.Cond.fieldLink "DesignSpaces$Front" (22 : Nat) "DesignSpaces$Front" "fresh" "Z") ∈ lw_tbl := List.mem_of_getElem? (i := 159) rfl
set_option maxRecDepth 100000 in
theorem cALL_i117 : (Jvm.Cond.laysFinal "DesignSpaces$Front" "DesignSpaces$Front" "shape" "LDesignSpaces$Shape;") ∈ lw_tbl := List.mem_of_getElem? (i := 160) rfl
set_option maxRecDepth 100000 in
theorem cALL_i118 : (Jvm.Cond.laysFinal "DesignSpaces$Front" "DesignSpaces$Front" "book" "LDesignSpaces$Book;") ∈ lw_tbl := List.mem_of_getElem? (i := 162) rfl
set_option maxRecDepth 100000 in
theorem cALL_i119 : (Jvm.Cond.laysFinal "DesignSpaces$Front" "DesignSpaces$Front" "members" "[I") ∈ lw_tbl := List.mem_of_getElem? (i := 164) rfl
set_option maxRecDepth 100000 in
theorem cALL_i120 : (Jvm.Cond.laysFinal "DesignSpaces$Front" "DesignSpaces$Front" "heads" "[I") ∈ lw_tbl := List.mem_of_getElem? (i := 166) rfl
set_option maxRecDepth 100000 in
theorem cALL_i121 : (Jvm.Cond.lays "DesignSpaces$Front" "DesignSpaces$Front" "size" "I") ∈ lw_tbl := List.mem_of_getElem? (i := 168) rfl
set_option maxRecDepth 100000 in
theorem cALL_i122 : (Jvm.Cond.lays "DesignSpaces$Front" "DesignSpaces$Front" "fresh" "Z") ∈ lw_tbl := List.mem_of_getElem? (i := 170) rfl
set_option maxRecDepth 100000 in
theorem cALL_i123 : (Jvm.Cond.classLink "DesignSpaces" (34 : Nat) "DesignSpaces$Search") ∈ lw_tbl := List.mem_of_getElem? (i := 173) rfl
set_option maxRecDepth 100000 in
theorem cALL_i124 : (Jvm.Cond.instantiable "DesignSpaces$Search" (6 : Nat)) ∈ lw_tbl := List.mem_of_getElem? (i := 174) rfl
set_option maxRecDepth 100000 in
theorem cALL_i125 : (Jvm.Cond.methodLink "DesignSpaces" (36 : Nat) ({ cls := "DesignSpaces$Search", name := "<init>", desc := "(LDesignSpaces$Shape;LDesignSpaces$Book;)V" } : Jvm.MethodName)) ∈ lw_tbl := List.mem_of_getElem? (i := 175) rfl
set_option maxRecDepth 100000 in
theorem cALL_i126 : (Jvm.Cond.instanceMethod ({ cls := "DesignSpaces$Search", name := "<init>", desc := "(LDesignSpaces$Shape;LDesignSpaces$Book;)V" } : Jvm.MethodName)) ∈ lw_tbl := List.mem_of_getElem? (i := 176) rfl
set_option maxRecDepth 100000 in
theorem cALL_i127 : (Jvm.Cond.code ({ cls := "DesignSpaces$Search", name := "<init>", desc := "(LDesignSpaces$Shape;LDesignSpaces$Book;)V" } : Jvm.MethodName) prog_5_method_1_code (3 : Nat) (Option.none : Option Jvm.ClassFile.FieldType)) ∈ lw_tbl := List.mem_of_getElem? (i := 177) rfl
set_option maxRecDepth 100000 in
theorem cALL_i128 : (Jvm.Cond.methodLink "DesignSpaces$Search" (3 : Nat) ({ cls := "java/lang/Object", name := "<init>", desc := "()V" } : Jvm.MethodName)) ∈ lw_tbl := List.mem_of_getElem? (i := 178) rfl
set_option maxRecDepth 100000 in
theorem cALL_i129 : (Jvm.Cond.fieldLink "DesignSpaces$Search" (25 : Nat) "DesignSpaces$Search" "shape" "LDesignSpaces$Shape;") ∈ lw_tbl := List.mem_of_getElem? (i := 179) rfl
set_option maxRecDepth 100000 in
theorem cALL_i130 : (Jvm.Cond.fieldLink "DesignSpaces$Search" (29 : Nat) "DesignSpaces$Search" "book" "LDesignSpaces$Book;") ∈ lw_tbl := List.mem_of_getElem? (i := 180) rfl
set_option maxRecDepth 100000 in
theorem cALL_i131 : (Jvm.Cond.fieldLink "DesignSpaces$Search" (9 : Nat) "DesignSpaces$Search" "row" "[I") ∈ lw_tbl := List.mem_of_getElem? (i := 181) rfl
set_option maxRecDepth 100000 in
theorem cALL_i132 : (Jvm.Cond.fieldLink "DesignSpaces$Search" (15 : Nat) "DesignSpaces$Search" "rowsSeen" "I") ∈ lw_tbl := List.mem_of_getElem? (i := 182) rfl
set_option maxRecDepth 100000 in
theorem cALL_i133 : (Jvm.Cond.fieldLink "DesignSpaces" (183 : Nat) "DesignSpaces$Search" "rowsSeen" "I") ∈ lw_tbl := List.mem_of_getElem? (i := 183) rfl
set_option maxRecDepth 100000 in
theorem cALL_i134 : (Jvm.Cond.fieldLink "DesignSpaces$Search" (19 : Nat) "DesignSpaces$Search" "found" "I") ∈ lw_tbl := List.mem_of_getElem? (i := 184) rfl
set_option maxRecDepth 100000 in
theorem cALL_i135 : (Jvm.Cond.fieldLink "DesignSpaces$Search" (22 : Nat) "DesignSpaces$Search" "least" "I") ∈ lw_tbl := List.mem_of_getElem? (i := 185) rfl
set_option maxRecDepth 100000 in
theorem cALL_i136 : (Jvm.Cond.laysFinal "DesignSpaces$Search" "DesignSpaces$Search" "shape" "LDesignSpaces$Shape;") ∈ lw_tbl := List.mem_of_getElem? (i := 186) rfl
set_option maxRecDepth 100000 in
theorem cALL_i137 : (Jvm.Cond.laysFinal "DesignSpaces$Search" "DesignSpaces$Search" "book" "LDesignSpaces$Book;") ∈ lw_tbl := List.mem_of_getElem? (i := 188) rfl
set_option maxRecDepth 100000 in
theorem cALL_i138 : (Jvm.Cond.laysFinal "DesignSpaces$Search" "DesignSpaces$Search" "row" "[I") ∈ lw_tbl := List.mem_of_getElem? (i := 190) rfl
set_option maxRecDepth 100000 in
theorem cALL_i139 : (Jvm.Cond.lays "DesignSpaces$Search" "DesignSpaces$Search" "rowsSeen" "I") ∈ lw_tbl := List.mem_of_getElem? (i := 192) rfl
set_option maxRecDepth 100000 in
theorem cALL_i140 : (Jvm.Cond.lays "DesignSpaces$Search" "DesignSpaces$Search" "found" "I") ∈ lw_tbl := List.mem_of_getElem? (i := 194) rfl
set_option maxRecDepth 100000 in
theorem cALL_i141 : (Jvm.Cond.lays "DesignSpaces$Search" "DesignSpaces$Search" "least" "I") ∈ lw_tbl := List.mem_of_getElem? (i := 196) rfl
set_option maxRecDepth 100000 in
theorem cALL_i142 : (Jvm.Cond.classLink "DesignSpaces" (41 : Nat) "DesignSpaces$Walker") ∈ lw_tbl := List.mem_of_getElem? (i := 199) rfl
set_option maxRecDepth 100000 in
theorem cALL_i143 : (Jvm.Cond.instantiable "DesignSpaces$Walker" (6 : Nat)) ∈ lw_tbl := List.mem_of_getElem? (i := 200) rfl
set_option maxRecDepth 100000 in
theorem cALL_i144 : (Jvm.Cond.constant "DesignSpaces" (43 : Nat) (2147483647 : Int32)) ∈ lw_tbl := List.mem_of_getElem? (i := 201) rfl
set_option maxRecDepth 100000 in
theorem cALL_i145 : (Jvm.Cond.methodLink "DesignSpaces" (44 : Nat) ({ cls := "DesignSpaces$Walker", name := "<init>", desc := "(LDesignSpaces$Shape;LDesignSpaces$Book;I)V" } : Jvm.MethodName)) ∈ lw_tbl := List.mem_of_getElem? (i := 202) rfl
set_option maxRecDepth 100000 in
theorem cALL_i146 : (Jvm.Cond.instanceMethod ({ cls := "DesignSpaces$Walker", name := "<init>", desc := "(LDesignSpaces$Shape;LDesignSpaces$Book;I)V" } : Jvm.MethodName)) ∈ lw_tbl := List.mem_of_getElem? (i := 203) rfl
set_option maxRecDepth 100000 in
theorem cALL_i147 : (Jvm.Cond.code ({ cls := "DesignSpaces$Walker", name := "<init>", desc := "(LDesignSpaces$Shape;LDesignSpaces$Book;I)V" } : Jvm.MethodName) prog_8_method_1_code (4 : Nat) (Option.none : Option Jvm.ClassFile.FieldType)) ∈ lw_tbl := List.mem_of_getElem? (i := 204) rfl
set_option maxRecDepth 100000 in
theorem cALL_i148 : (Jvm.Cond.methodLink "DesignSpaces$Walker" (3 : Nat) ({ cls := "java/lang/Object", name := "<init>", desc := "()V" } : Jvm.MethodName)) ∈ lw_tbl := List.mem_of_getElem? (i := 205) rfl
set_option maxRecDepth 100000 in
theorem cALL_i149 : (Jvm.Cond.fieldLink "DesignSpaces$Walker" (21 : Nat) "DesignSpaces$Walker" "shape" "LDesignSpaces$Shape;") ∈ lw_tbl := List.mem_of_getElem? (i := 206) rfl
set_option maxRecDepth 100000 in
theorem cALL_i150 : (Jvm.Cond.fieldLink "DesignSpaces$Walker" (25 : Nat) "DesignSpaces$Walker" "book" "LDesignSpaces$Book;") ∈ lw_tbl := List.mem_of_getElem? (i := 207) rfl
set_option maxRecDepth 100000 in
theorem cALL_i151 : (Jvm.Cond.fieldLink "DesignSpaces$Walker" (29 : Nat) "DesignSpaces$Walker" "x" "I") ∈ lw_tbl := List.mem_of_getElem? (i := 208) rfl
set_option maxRecDepth 100000 in
theorem cALL_i152 : (Jvm.Cond.fieldLink "DesignSpaces$Walker" (9 : Nat) "DesignSpaces$Walker" "leeway" "I") ∈ lw_tbl := List.mem_of_getElem? (i := 209) rfl
set_option maxRecDepth 100000 in
theorem cALL_i153 : (Jvm.Cond.fieldLink "DesignSpaces" (203 : Nat) "DesignSpaces$Walker" "leeway" "I") ∈ lw_tbl := List.mem_of_getElem? (i := 210) rfl
set_option maxRecDepth 100000 in
theorem cALL_i154 : (Jvm.Cond.fieldLink "DesignSpaces$Walker" (15 : Nat) "DesignSpaces$Walker" "cheapest" "I") ∈ lw_tbl := List.mem_of_getElem? (i := 211) rfl
set_option maxRecDepth 100000 in
theorem cALL_i155 : (Jvm.Cond.fieldLink "DesignSpaces" (216 : Nat) "DesignSpaces$Walker" "cheapest" "I") ∈ lw_tbl := List.mem_of_getElem? (i := 212) rfl
set_option maxRecDepth 100000 in
theorem cALL_i156 : (Jvm.Cond.fieldLink "DesignSpaces$Walker" (18 : Nat) "DesignSpaces$Walker" "moves" "I") ∈ lw_tbl := List.mem_of_getElem? (i := 213) rfl
set_option maxRecDepth 100000 in
theorem cALL_i157 : (Jvm.Cond.fieldLink "DesignSpaces" (248 : Nat) "DesignSpaces$Walker" "moves" "I") ∈ lw_tbl := List.mem_of_getElem? (i := 214) rfl
set_option maxRecDepth 100000 in
theorem cALL_i158 : (Jvm.Cond.laysFinal "DesignSpaces$Walker" "DesignSpaces$Walker" "shape" "LDesignSpaces$Shape;") ∈ lw_tbl := List.mem_of_getElem? (i := 215) rfl
set_option maxRecDepth 100000 in
theorem cALL_i159 : (Jvm.Cond.laysFinal "DesignSpaces$Walker" "DesignSpaces$Walker" "book" "LDesignSpaces$Book;") ∈ lw_tbl := List.mem_of_getElem? (i := 217) rfl
set_option maxRecDepth 100000 in
theorem cALL_i160 : (Jvm.Cond.lays "DesignSpaces$Walker" "DesignSpaces$Walker" "x" "I") ∈ lw_tbl := List.mem_of_getElem? (i := 219) rfl
set_option maxRecDepth 100000 in
theorem cALL_i161 : (Jvm.Cond.lays "DesignSpaces$Walker" "DesignSpaces$Walker" "leeway" "I") ∈ lw_tbl := List.mem_of_getElem? (i := 221) rfl
set_option maxRecDepth 100000 in
theorem cALL_i162 : (Jvm.Cond.lays "DesignSpaces$Walker" "DesignSpaces$Walker" "cheapest" "I") ∈ lw_tbl := List.mem_of_getElem? (i := 223) rfl
set_option maxRecDepth 100000 in
theorem cALL_i163 : (Jvm.Cond.lays "DesignSpaces$Walker" "DesignSpaces$Walker" "moves" "I") ∈ lw_tbl := List.mem_of_getElem? (i := 225) rfl
set_option maxRecDepth 100000 in
theorem cALL_i164 : (Jvm.Cond.classLink "DesignSpaces" (51 : Nat) "DesignSpaces$Sweeper") ∈ lw_tbl := List.mem_of_getElem? (i := 228) rfl
set_option maxRecDepth 100000 in
theorem cALL_i165 : (Jvm.Cond.instantiable "DesignSpaces$Sweeper" (4 : Nat)) ∈ lw_tbl := List.mem_of_getElem? (i := 229) rfl
set_option maxRecDepth 100000 in
theorem cALL_i166 : (Jvm.Cond.methodLink "DesignSpaces" (53 : Nat) ({ cls := "DesignSpaces$Sweeper", name := "<init>", desc := "(LDesignSpaces$Shape;LDesignSpaces$Book;)V" } : Jvm.MethodName)) ∈ lw_tbl := List.mem_of_getElem? (i := 230) rfl
set_option maxRecDepth 100000 in
theorem cALL_i167 : (Jvm.Cond.instanceMethod ({ cls := "DesignSpaces$Sweeper", name := "<init>", desc := "(LDesignSpaces$Shape;LDesignSpaces$Book;)V" } : Jvm.MethodName)) ∈ lw_tbl := List.mem_of_getElem? (i := 231) rfl
set_option maxRecDepth 100000 in
theorem cALL_i168 : (Jvm.Cond.code ({ cls := "DesignSpaces$Sweeper", name := "<init>", desc := "(LDesignSpaces$Shape;LDesignSpaces$Book;)V" } : Jvm.MethodName) prog_7_method_1_code (3 : Nat) (Option.none : Option Jvm.ClassFile.FieldType)) ∈ lw_tbl := List.mem_of_getElem? (i := 232) rfl
set_option maxRecDepth 100000 in
theorem cALL_i169 : (Jvm.Cond.methodLink "DesignSpaces$Sweeper" (1 : Nat) ({ cls := "java/lang/Object", name := "<init>", desc := "()V" } : Jvm.MethodName)) ∈ lw_tbl := List.mem_of_getElem? (i := 233) rfl
set_option maxRecDepth 100000 in
theorem cALL_i170 : (Jvm.Cond.fieldLink "DesignSpaces$Sweeper" (16 : Nat) "DesignSpaces$Sweeper" "shape" "LDesignSpaces$Shape;") ∈ lw_tbl := List.mem_of_getElem? (i := 234) rfl
set_option maxRecDepth 100000 in
theorem cALL_i171 : (Jvm.Cond.fieldLink "DesignSpaces$Sweeper" (20 : Nat) "DesignSpaces$Sweeper" "book" "LDesignSpaces$Book;") ∈ lw_tbl := List.mem_of_getElem? (i := 235) rfl
set_option maxRecDepth 100000 in
theorem cALL_i172 : (Jvm.Cond.fieldLink "DesignSpaces$Sweeper" (7 : Nat) "DesignSpaces$Sweeper" "next" "I") ∈ lw_tbl := List.mem_of_getElem? (i := 236) rfl
set_option maxRecDepth 100000 in
theorem cALL_i173 : (Jvm.Cond.fieldLink "DesignSpaces" (242 : Nat) "DesignSpaces$Sweeper" "next" "I") ∈ lw_tbl := List.mem_of_getElem? (i := 237) rfl
set_option maxRecDepth 100000 in
theorem cALL_i174 : (Jvm.Cond.fieldLink "DesignSpaces$Sweeper" (13 : Nat) "DesignSpaces$Sweeper" "allowed" "I") ∈ lw_tbl := List.mem_of_getElem? (i := 238) rfl
set_option maxRecDepth 100000 in
theorem cALL_i175 : (Jvm.Cond.fieldLink "DesignSpaces" (245 : Nat) "DesignSpaces$Sweeper" "allowed" "I") ∈ lw_tbl := List.mem_of_getElem? (i := 239) rfl
set_option maxRecDepth 100000 in
theorem cALL_i176 : (Jvm.Cond.laysFinal "DesignSpaces$Sweeper" "DesignSpaces$Sweeper" "shape" "LDesignSpaces$Shape;") ∈ lw_tbl := List.mem_of_getElem? (i := 240) rfl
set_option maxRecDepth 100000 in
theorem cALL_i177 : (Jvm.Cond.laysFinal "DesignSpaces$Sweeper" "DesignSpaces$Sweeper" "book" "LDesignSpaces$Book;") ∈ lw_tbl := List.mem_of_getElem? (i := 242) rfl
set_option maxRecDepth 100000 in
theorem cALL_i178 : (Jvm.Cond.lays "DesignSpaces$Sweeper" "DesignSpaces$Sweeper" "next" "I") ∈ lw_tbl := List.mem_of_getElem? (i := 244) rfl
set_option maxRecDepth 100000 in
theorem cALL_i179 : (Jvm.Cond.lays "DesignSpaces$Sweeper" "DesignSpaces$Sweeper" "allowed" "I") ∈ lw_tbl := List.mem_of_getElem? (i := 246) rfl
