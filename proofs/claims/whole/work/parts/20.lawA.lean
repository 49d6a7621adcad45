set_option maxRecDepth 100000 in
theorem rALL_i0 : (Jvm.Cond.selects "DesignSpacesModel" ({ cls := "DesignSpacesModel", name := "fail", desc := "(I)I" } : Jvm.MethodName) ({ cls := "DesignSpacesModel", name := "fail", desc := "(I)I" } : Jvm.MethodName)) ∈ lw_tbl := List.mem_of_getElem? (i := 11) rfl
set_option maxRecDepth 100000 in
theorem rALL_i1 : (Jvm.Cond.selects "DesignSpacesModel" ({ cls := "DesignSpacesModel", name := "isValue", desc := "(II)Z" } : Jvm.MethodName) ({ cls := "DesignSpacesModel", name := "isValue", desc := "(II)Z" } : Jvm.MethodName)) ∈ lw_tbl := List.mem_of_getElem? (i := 12) rfl
set_option maxRecDepth 100000 in
theorem rALL_i2 : (Jvm.Cond.selects "DesignSpacesModel" ({ cls := "DesignSpacesModel", name := "isDesign", desc := "(I)Z" } : Jvm.MethodName) ({ cls := "DesignSpacesModel", name := "isDesign", desc := "(I)Z" } : Jvm.MethodName)) ∈ lw_tbl := List.mem_of_getElem? (i := 13) rfl
set_option maxRecDepth 100000 in
theorem rALL_i3 : (Jvm.Cond.selects "DesignSpacesModel" ({ cls := "DesignSpacesModel", name := "know", desc := "()V" } : Jvm.MethodName) ({ cls := "DesignSpacesModel", name := "know", desc := "()V" } : Jvm.MethodName)) ∈ lw_tbl := List.mem_of_getElem? (i := 14) rfl
set_option maxRecDepth 100000 in
theorem rALL_i4 : (Jvm.Cond.selects "DesignSpacesModel" ({ cls := "DesignSpacesModel", name := "open", desc := "(II)V" } : Jvm.MethodName) ({ cls := "DesignSpacesModel", name := "open", desc := "(II)V" } : Jvm.MethodName)) ∈ lw_tbl := List.mem_of_getElem? (i := 15) rfl
set_option maxRecDepth 100000 in
theorem rALL_i5 : (Jvm.Cond.selects "DesignSpacesModel" ({ cls := "DesignSpacesModel", name := "isBarred", desc := "()Z" } : Jvm.MethodName) ({ cls := "DesignSpacesModel", name := "isBarred", desc := "()Z" } : Jvm.MethodName)) ∈ lw_tbl := List.mem_of_getElem? (i := 16) rfl
set_option maxRecDepth 100000 in
theorem rALL_i6 : (Jvm.Cond.selects "DesignSpacesModel" ({ cls := "DesignSpacesModel", name := "passesLimits", desc := "()Z" } : Jvm.MethodName) ({ cls := "DesignSpacesModel", name := "passesLimits", desc := "()Z" } : Jvm.MethodName)) ∈ lw_tbl := List.mem_of_getElem? (i := 17) rfl
set_option maxRecDepth 100000 in
theorem rALL_i7 : (Jvm.Cond.selects "DesignSpacesModel" ({ cls := "DesignSpacesModel", name := "boundOf", desc := "(I)I" } : Jvm.MethodName) ({ cls := "DesignSpacesModel", name := "boundOf", desc := "(I)I" } : Jvm.MethodName)) ∈ lw_tbl := List.mem_of_getElem? (i := 18) rfl
set_option maxRecDepth 100000 in
theorem rALL_i8 : (Jvm.Cond.selects "DesignSpacesModel" ({ cls := "DesignSpacesModel", name := "counts", desc := "(I)I" } : Jvm.MethodName) ({ cls := "DesignSpacesModel", name := "counts", desc := "(I)I" } : Jvm.MethodName)) ∈ lw_tbl := List.mem_of_getElem? (i := 19) rfl
set_option maxRecDepth 100000 in
theorem rALL_i9 : (Jvm.Cond.selects "DesignSpacesModel" ({ cls := "DesignSpacesModel", name := "isBeaten", desc := "(II)Z" } : Jvm.MethodName) ({ cls := "DesignSpacesModel", name := "isBeaten", desc := "(II)Z" } : Jvm.MethodName)) ∈ lw_tbl := List.mem_of_getElem? (i := 20) rfl
set_option maxRecDepth 100000 in
theorem rALL_i10 : (Jvm.Cond.selects "DesignSpacesModel" ({ cls := "DesignSpacesModel", name := "isUndominated", desc := "(I)Z" } : Jvm.MethodName) ({ cls := "DesignSpacesModel", name := "isUndominated", desc := "(I)Z" } : Jvm.MethodName)) ∈ lw_tbl := List.mem_of_getElem? (i := 21) rfl
set_option maxRecDepth 100000 in
theorem rALL_i11 : (Jvm.Cond.selects "DesignSpacesModel" ({ cls := "DesignSpacesModel", name := "closed", desc := "()I" } : Jvm.MethodName) ({ cls := "DesignSpacesModel", name := "closed", desc := "()I" } : Jvm.MethodName)) ∈ lw_tbl := List.mem_of_getElem? (i := 22) rfl
set_option maxRecDepth 100000 in
theorem rALL_i12 : (Jvm.Cond.selects "DesignSpacesModel" ({ cls := "DesignSpacesModel", name := "nextRow", desc := "(I)I" } : Jvm.MethodName) ({ cls := "DesignSpacesModel", name := "nextRow", desc := "(I)I" } : Jvm.MethodName)) ∈ lw_tbl := List.mem_of_getElem? (i := 23) rfl
set_option maxRecDepth 100000 in
theorem rALL_i13 : (Jvm.Cond.selects "DesignSpacesModel" ({ cls := "DesignSpacesModel", name := "nears", desc := "()I" } : Jvm.MethodName) ({ cls := "DesignSpacesModel", name := "nears", desc := "()I" } : Jvm.MethodName)) ∈ lw_tbl := List.mem_of_getElem? (i := 24) rfl
set_option maxRecDepth 100000 in
theorem rALL_i14 : (Jvm.Cond.selects "DesignSpacesModel" ({ cls := "DesignSpacesModel", name := "nearOf", desc := "(II)I" } : Jvm.MethodName) ({ cls := "DesignSpacesModel", name := "nearOf", desc := "(II)I" } : Jvm.MethodName)) ∈ lw_tbl := List.mem_of_getElem? (i := 25) rfl
set_option maxRecDepth 100000 in
theorem rALL_i15 : (Jvm.Cond.selects "DesignSpacesModel" ({ cls := "DesignSpacesModel", name := "cost", desc := "(I)J" } : Jvm.MethodName) ({ cls := "DesignSpacesModel", name := "cost", desc := "(I)J" } : Jvm.MethodName)) ∈ lw_tbl := List.mem_of_getElem? (i := 26) rfl
set_option maxRecDepth 100000 in
theorem rALL_i16 : (Jvm.Cond.initialized "DesignSpacesModel") ∈ lw_tbl := List.mem_of_getElem? (i := 36) rfl
set_option maxRecDepth 100000 in
theorem rALL_i17 : (Jvm.Cond.instanceMethod ({ cls := "java/lang/Object", name := "<init>", desc := "()V" } : Jvm.MethodName)) ∈ lw_tbl := List.mem_of_getElem? (i := 51) rfl
set_option maxRecDepth 100000 in
theorem rALL_i18 : (Jvm.Cond.code ({ cls := "java/lang/Object", name := "<init>", desc := "()V" } : Jvm.MethodName) object_method_1_code (1 : Nat) (Option.none : Option Jvm.ClassFile.FieldType)) ∈ lw_tbl := List.mem_of_getElem? (i := 52) rfl
set_option maxRecDepth 100000 in
theorem rALL_i19 : (Jvm.Cond.arrayClass Jvm.ClassFile.FieldType.int) ∈ lw_tbl := List.mem_of_getElem? (i := 81) rfl
set_option maxRecDepth 100000 in
theorem rALL_i20 : (Jvm.Cond.arrayClass Jvm.ClassFile.FieldType.boolean) ∈ lw_tbl := List.mem_of_getElem? (i := 110) rfl
set_option maxRecDepth 100000 in
theorem rALL_i21 : (Jvm.Cond.instantiable "DesignSpacesModel" (29 : Nat)) ∈ lw_tbl := List.mem_of_getElem? (i := 744) rfl
set_option maxRecDepth 100000 in
theorem rALL_i22 : (Jvm.Cond.instanceMethod ({ cls := "DesignSpacesModel", name := "<init>", desc := "(I)V" } : Jvm.MethodName)) ∈ lw_tbl := List.mem_of_getElem? (i := 746) rfl
set_option maxRecDepth 100000 in
theorem rALL_i23 : (Jvm.Cond.code ({ cls := "DesignSpacesModel", name := "<init>", desc := "(I)V" } : Jvm.MethodName) prog_10_method_1_code (2 : Nat) (Option.none : Option Jvm.ClassFile.FieldType)) ∈ lw_tbl := List.mem_of_getElem? (i := 747) rfl
set_option maxRecDepth 100000 in
theorem rALL_i24 : (Jvm.Cond.methodLink "DesignSpacesModel" (1 : Nat) ({ cls := "java/lang/Object", name := "<init>", desc := "()V" } : Jvm.MethodName)) ∈ lw_tbl := List.mem_of_getElem? (i := 748) rfl
set_option maxRecDepth 100000 in
theorem rALL_i25 : (Jvm.Cond.constant "DesignSpacesModel" (66 : Nat) (2147483647 : Int32)) ∈ lw_tbl := List.mem_of_getElem? (i := 749) rfl
set_option maxRecDepth 100000 in
theorem rALL_i26 : (Jvm.Cond.fieldLink "DesignSpacesModel" (70 : Nat) "DesignSpacesModel" "thrown" "I") ∈ lw_tbl := List.mem_of_getElem? (i := 750) rfl
set_option maxRecDepth 100000 in
theorem rALL_i27 : (Jvm.Cond.fieldLink "DesignSpacesModel" (67 : Nat) "DesignSpacesModel" "x" "I") ∈ lw_tbl := List.mem_of_getElem? (i := 751) rfl
set_option maxRecDepth 100000 in
theorem rALL_i28 : (Jvm.Cond.fieldLink "DesignSpacesModel" (81 : Nat) "DesignSpacesModel" "choices" "I") ∈ lw_tbl := List.mem_of_getElem? (i := 752) rfl
set_option maxRecDepth 100000 in
theorem rALL_i29 : (Jvm.Cond.fieldLink "DesignSpacesModel" (100 : Nat) "DesignSpacesModel" "terms" "I") ∈ lw_tbl := List.mem_of_getElem? (i := 753) rfl
set_option maxRecDepth 100000 in
theorem rALL_i30 : (Jvm.Cond.fieldLink "DesignSpacesModel" (103 : Nat) "DesignSpacesModel" "rules" "I") ∈ lw_tbl := List.mem_of_getElem? (i := 754) rfl
set_option maxRecDepth 100000 in
theorem rALL_i31 : (Jvm.Cond.fieldLink "DesignSpacesModel" (7 : Nat) "DesignSpacesModel" "designs" "I") ∈ lw_tbl := List.mem_of_getElem? (i := 755) rfl
set_option maxRecDepth 100000 in
theorem rALL_i32 : (Jvm.Cond.fieldLink "DesignSpacesModel" (13 : Nat) "DesignSpacesModel" "values" "[I") ∈ lw_tbl := List.mem_of_getElem? (i := 756) rfl
set_option maxRecDepth 100000 in
theorem rALL_i33 : (Jvm.Cond.fieldLink "DesignSpacesModel" (17 : Nat) "DesignSpacesModel" "termNumber" "[I") ∈ lw_tbl := List.mem_of_getElem? (i := 757) rfl
set_option maxRecDepth 100000 in
theorem rALL_i34 : (Jvm.Cond.fieldLink "DesignSpacesModel" (20 : Nat) "DesignSpacesModel" "termA" "[I") ∈ lw_tbl := List.mem_of_getElem? (i := 758) rfl
set_option maxRecDepth 100000 in
theorem rALL_i35 : (Jvm.Cond.fieldLink "DesignSpacesModel" (23 : Nat) "DesignSpacesModel" "termVa" "[I") ∈ lw_tbl := List.mem_of_getElem? (i := 759) rfl
set_option maxRecDepth 100000 in
theorem rALL_i36 : (Jvm.Cond.fieldLink "DesignSpacesModel" (26 : Nat) "DesignSpacesModel" "termB" "[I") ∈ lw_tbl := List.mem_of_getElem? (i := 760) rfl
set_option maxRecDepth 100000 in
theorem rALL_i37 : (Jvm.Cond.fieldLink "DesignSpacesModel" (29 : Nat) "DesignSpacesModel" "termVb" "[I") ∈ lw_tbl := List.mem_of_getElem? (i := 761) rfl
set_option maxRecDepth 100000 in
theorem rALL_i38 : (Jvm.Cond.fieldLink "DesignSpacesModel" (32 : Nat) "DesignSpacesModel" "weight" "[I") ∈ lw_tbl := List.mem_of_getElem? (i := 762) rfl
set_option maxRecDepth 100000 in
theorem rALL_i39 : (Jvm.Cond.fieldLink "DesignSpacesModel" (35 : Nat) "DesignSpacesModel" "ruleA" "[I") ∈ lw_tbl := List.mem_of_getElem? (i := 763) rfl
set_option maxRecDepth 100000 in
theorem rALL_i40 : (Jvm.Cond.fieldLink "DesignSpacesModel" (38 : Nat) "DesignSpacesModel" "ruleVa" "[I") ∈ lw_tbl := List.mem_of_getElem? (i := 764) rfl
set_option maxRecDepth 100000 in
theorem rALL_i41 : (Jvm.Cond.fieldLink "DesignSpacesModel" (41 : Nat) "DesignSpacesModel" "ruleB" "[I") ∈ lw_tbl := List.mem_of_getElem? (i := 765) rfl
set_option maxRecDepth 100000 in
theorem rALL_i42 : (Jvm.Cond.fieldLink "DesignSpacesModel" (44 : Nat) "DesignSpacesModel" "ruleVb" "[I") ∈ lw_tbl := List.mem_of_getElem? (i := 766) rfl
set_option maxRecDepth 100000 in
theorem rALL_i43 : (Jvm.Cond.fieldLink "DesignSpacesModel" (47 : Nat) "DesignSpacesModel" "hasLimit" "[Z") ∈ lw_tbl := List.mem_of_getElem? (i := 767) rfl
set_option maxRecDepth 100000 in
theorem rALL_i44 : (Jvm.Cond.fieldLink "DesignSpacesModel" (51 : Nat) "DesignSpacesModel" "limit" "[I") ∈ lw_tbl := List.mem_of_getElem? (i := 768) rfl
set_option maxRecDepth 100000 in
theorem rALL_i45 : (Jvm.Cond.fieldLink "DesignSpacesModel" (54 : Nat) "DesignSpacesModel" "row" "[I") ∈ lw_tbl := List.mem_of_getElem? (i := 769) rfl
set_option maxRecDepth 100000 in
theorem rALL_i46 : (Jvm.Cond.fieldLink "DesignSpacesModel" (136 : Nat) "DesignSpacesModel" "looked" "I") ∈ lw_tbl := List.mem_of_getElem? (i := 770) rfl
set_option maxRecDepth 100000 in
theorem rALL_i47 : (Jvm.Cond.fieldLink "DesignSpacesModel" (153 : Nat) "DesignSpacesModel" "slack" "I") ∈ lw_tbl := List.mem_of_getElem? (i := 771) rfl
set_option maxRecDepth 100000 in
theorem rALL_i48 : (Jvm.Cond.fieldLink "DesignSpacesModel" (57 : Nat) "DesignSpacesModel" "lowest" "I") ∈ lw_tbl := List.mem_of_getElem? (i := 772) rfl
set_option maxRecDepth 100000 in
theorem rALL_i49 : (Jvm.Cond.fieldLink "DesignSpacesModel" (156 : Nat) "DesignSpacesModel" "went" "I") ∈ lw_tbl := List.mem_of_getElem? (i := 773) rfl
set_option maxRecDepth 100000 in
theorem rALL_i50 : (Jvm.Cond.fieldLink "DesignSpacesModel" (84 : Nat) "DesignSpacesModel" "place" "I") ∈ lw_tbl := List.mem_of_getElem? (i := 774) rfl
set_option maxRecDepth 100000 in
theorem rALL_i51 : (Jvm.Cond.fieldLink "DesignSpacesModel" (87 : Nat) "DesignSpacesModel" "legalSwept" "I") ∈ lw_tbl := List.mem_of_getElem? (i := 775) rfl
set_option maxRecDepth 100000 in
theorem rALL_i52 : (Jvm.Cond.fieldLink "DesignSpacesModel" (90 : Nat) "DesignSpacesModel" "isKnown" "Z") ∈ lw_tbl := List.mem_of_getElem? (i := 776) rfl
set_option maxRecDepth 100000 in
theorem rALL_i53 : (Jvm.Cond.fieldLink "DesignSpacesModel" (60 : Nat) "DesignSpacesModel" "isLegal" "[Z") ∈ lw_tbl := List.mem_of_getElem? (i := 777) rfl
set_option maxRecDepth 100000 in
theorem rALL_i54 : (Jvm.Cond.fieldLink "DesignSpacesModel" (63 : Nat) "DesignSpacesModel" "numbers" "[I") ∈ lw_tbl := List.mem_of_getElem? (i := 778) rfl
set_option maxRecDepth 100000 in
theorem rALL_i55 : (Jvm.Cond.lays "DesignSpacesModel" "DesignSpacesModel" "thrown" "I") ∈ lw_tbl := List.mem_of_getElem? (i := 779) rfl
set_option maxRecDepth 100000 in
theorem rALL_i56 : (Jvm.Cond.lays "DesignSpacesModel" "DesignSpacesModel" "x" "I") ∈ lw_tbl := List.mem_of_getElem? (i := 781) rfl
set_option maxRecDepth 100000 in
theorem rALL_i57 : (Jvm.Cond.lays "DesignSpacesModel" "DesignSpacesModel" "choices" "I") ∈ lw_tbl := List.mem_of_getElem? (i := 783) rfl
set_option maxRecDepth 100000 in
theorem rALL_i58 : (Jvm.Cond.lays "DesignSpacesModel" "DesignSpacesModel" "terms" "I") ∈ lw_tbl := List.mem_of_getElem? (i := 785) rfl
set_option maxRecDepth 100000 in
theorem rALL_i59 : (Jvm.Cond.lays "DesignSpacesModel" "DesignSpacesModel" "rules" "I") ∈ lw_tbl := List.mem_of_getElem? (i := 787) rfl
set_option maxRecDepth 100000 in
theorem rALL_i60 : (Jvm.Cond.lays "DesignSpacesModel" "DesignSpacesModel" "designs" "I") ∈ lw_tbl := List.mem_of_getElem? (i := 789) rfl
set_option maxRecDepth 100000 in
theorem rALL_i61 : (Jvm.Cond.laysFinal "DesignSpacesModel" "DesignSpacesModel" "values" "[I") ∈ lw_tbl := List.mem_of_getElem? (i := 791) rfl
set_option maxRecDepth 100000 in
theorem rALL_i62 : (Jvm.Cond.laysFinal "DesignSpacesModel" "DesignSpacesModel" "termNumber" "[I") ∈ lw_tbl := List.mem_of_getElem? (i := 793) rfl
set_option maxRecDepth 100000 in
theorem rALL_i63 : (Jvm.Cond.laysFinal "DesignSpacesModel" "DesignSpacesModel" "termA" "[I") ∈ lw_tbl := List.mem_of_getElem? (i := 795) rfl
set_option maxRecDepth 100000 in
theorem rALL_i64 : (Jvm.Cond.laysFinal "DesignSpacesModel" "DesignSpacesModel" "termVa" "[I") ∈ lw_tbl := List.mem_of_getElem? (i := 797) rfl
set_option maxRecDepth 100000 in
theorem rALL_i65 : (Jvm.Cond.laysFinal "DesignSpacesModel" "DesignSpacesModel" "termB" "[I") ∈ lw_tbl := List.mem_of_getElem? (i := 799) rfl
set_option maxRecDepth 100000 in
theorem rALL_i66 : (Jvm.Cond.laysFinal "DesignSpacesModel" "DesignSpacesModel" "termVb" "[I") ∈ lw_tbl := List.mem_of_getElem? (i := 801) rfl
set_option maxRecDepth 100000 in
theorem rALL_i67 : (Jvm.Cond.laysFinal "DesignSpacesModel" "DesignSpacesModel" "weight" "[I") ∈ lw_tbl := List.mem_of_getElem? (i := 803) rfl
set_option maxRecDepth 100000 in
theorem rALL_i68 : (Jvm.Cond.laysFinal "DesignSpacesModel" "DesignSpacesModel" "ruleA" "[I") ∈ lw_tbl := List.mem_of_getElem? (i := 805) rfl
set_option maxRecDepth 100000 in
theorem rALL_i69 : (Jvm.Cond.laysFinal "DesignSpacesModel" "DesignSpacesModel" "ruleVa" "[I") ∈ lw_tbl := List.mem_of_getElem? (i := 807) rfl
set_option maxRecDepth 100000 in
theorem rALL_i70 : (Jvm.Cond.laysFinal "DesignSpacesModel" "DesignSpacesModel" "ruleB" "[I") ∈ lw_tbl := List.mem_of_getElem? (i := 809) rfl
set_option maxRecDepth 100000 in
theorem rALL_i71 : (Jvm.Cond.laysFinal "DesignSpacesModel" "DesignSpacesModel" "ruleVb" "[I") ∈ lw_tbl := List.mem_of_getElem? (i := 811) rfl
set_option maxRecDepth 100000 in
theorem rALL_i72 : (Jvm.Cond.laysFinal "DesignSpacesModel" "DesignSpacesModel" "hasLimit" "[Z") ∈ lw_tbl := List.mem_of_getElem? (i := 813) rfl
set_option maxRecDepth 100000 in
theorem rALL_i73 : (Jvm.Cond.laysFinal "DesignSpacesModel" "DesignSpacesModel" "limit" "[I") ∈ lw_tbl := List.mem_of_getElem? (i := 815) rfl
set_option maxRecDepth 100000 in
theorem rALL_i74 : (Jvm.Cond.laysFinal "DesignSpacesModel" "DesignSpacesModel" "row" "[I") ∈ lw_tbl := List.mem_of_getElem? (i := 817) rfl
set_option maxRecDepth 100000 in
theorem rALL_i75 : (Jvm.Cond.lays "DesignSpacesModel" "DesignSpacesModel" "looked" "I") ∈ lw_tbl := List.mem_of_getElem? (i := 819) rfl
set_option maxRecDepth 100000 in
theorem rALL_i76 : (Jvm.Cond.lays "DesignSpacesModel" "DesignSpacesModel" "slack" "I") ∈ lw_tbl := List.mem_of_getElem? (i := 821) rfl
set_option maxRecDepth 100000 in
theorem rALL_i77 : (Jvm.Cond.lays "DesignSpacesModel" "DesignSpacesModel" "lowest" "I") ∈ lw_tbl := List.mem_of_getElem? (i := 823) rfl
set_option maxRecDepth 100000 in
theorem rALL_i78 : (Jvm.Cond.lays "DesignSpacesModel" "DesignSpacesModel" "went" "I") ∈ lw_tbl := List.mem_of_getElem? (i := 825) rfl
set_option maxRecDepth 100000 in
theorem rALL_i79 : (Jvm.Cond.lays "DesignSpacesModel" "DesignSpacesModel" "place" "I") ∈ lw_tbl := List.mem_of_getElem? (i := 827) rfl
set_option maxRecDepth 100000 in
theorem rALL_i80 : (Jvm.Cond.lays "DesignSpacesModel" "DesignSpacesModel" "legalSwept" "I") ∈ lw_tbl := List.mem_of_getElem? (i := 829) rfl
set_option maxRecDepth 100000 in
theorem rALL_i81 : (Jvm.Cond.lays "DesignSpacesModel" "DesignSpacesModel" "isKnown" "Z") ∈ lw_tbl := List.mem_of_getElem? (i := 831) rfl
set_option maxRecDepth 100000 in
theorem rALL_i82 : (Jvm.Cond.laysFinal "DesignSpacesModel" "DesignSpacesModel" "isLegal" "[Z") ∈ lw_tbl := List.mem_of_getElem? (i := 833) rfl
set_option maxRecDepth 100000 in
theorem rALL_i83 : (Jvm.Cond.laysFinal "DesignSpacesModel" "DesignSpacesModel" "numbers" "[I") ∈ lw_tbl := List.mem_of_getElem? (i := 835) rfl
set_option maxRecDepth 100000 in
theorem rALL_i84 : (Jvm.Cond.instanceMethod ({ cls := "DesignSpacesModel", name := "thrown", desc := "()I" } : Jvm.MethodName)) ∈ lw_tbl := List.mem_of_getElem? (i := 839) rfl
set_option maxRecDepth 100000 in
theorem rALL_i85 : (Jvm.Cond.selects "DesignSpacesModel" ({ cls := "DesignSpacesModel", name := "thrown", desc := "()I" } : Jvm.MethodName) ({ cls := "DesignSpacesModel", name := "thrown", desc := "()I" } : Jvm.MethodName)) ∈ lw_tbl := List.mem_of_getElem? (i := 840) rfl
set_option maxRecDepth 100000 in
theorem rALL_i86 : (Jvm.Cond.code ({ cls := "DesignSpacesModel", name := "thrown", desc := "()I" } : Jvm.MethodName) prog_10_method_2_code (1 : Nat) (Option.some Jvm.ClassFile.FieldType.int)) ∈ lw_tbl := List.mem_of_getElem? (i := 841) rfl
set_option maxRecDepth 100000 in
theorem rALL_i87 : (Jvm.Cond.instanceMethod ({ cls := "DesignSpacesModel", name := "choice", desc := "(I)I" } : Jvm.MethodName)) ∈ lw_tbl := List.mem_of_getElem? (i := 843) rfl
set_option maxRecDepth 100000 in
theorem rALL_i88 : (Jvm.Cond.selects "DesignSpacesModel" ({ cls := "DesignSpacesModel", name := "choice", desc := "(I)I" } : Jvm.MethodName) ({ cls := "DesignSpacesModel", name := "choice", desc := "(I)I" } : Jvm.MethodName)) ∈ lw_tbl := List.mem_of_getElem? (i := 844) rfl
set_option maxRecDepth 100000 in
theorem rALL_i89 : (Jvm.Cond.code ({ cls := "DesignSpacesModel", name := "choice", desc := "(I)I" } : Jvm.MethodName) prog_10_method_5_code (2 : Nat) (Option.some Jvm.ClassFile.FieldType.int)) ∈ lw_tbl := List.mem_of_getElem? (i := 845) rfl
set_option maxRecDepth 100000 in
theorem rALL_i90 : (Jvm.Cond.methodLink "DesignSpacesModel" (73 : Nat) ({ cls := "DesignSpacesModel", name := "within", desc := "(III)Z" } : Jvm.MethodName)) ∈ lw_tbl := List.mem_of_getElem? (i := 846) rfl
set_option maxRecDepth 100000 in
theorem rALL_i91 : (Jvm.Cond.static ({ cls := "DesignSpacesModel", name := "within", desc := "(III)Z" } : Jvm.MethodName)) ∈ lw_tbl := List.mem_of_getElem? (i := 847) rfl
set_option maxRecDepth 100000 in
theorem rALL_i92 : (Jvm.Cond.code ({ cls := "DesignSpacesModel", name := "within", desc := "(III)Z" } : Jvm.MethodName) prog_10_method_4_code (3 : Nat) (Option.some Jvm.ClassFile.FieldType.boolean)) ∈ lw_tbl := List.mem_of_getElem? (i := 848) rfl
set_option maxRecDepth 100000 in
theorem rALL_i93 : (Jvm.Cond.methodLink "DesignSpacesModel" (77 : Nat) ({ cls := "DesignSpacesModel", name := "fail", desc := "(I)I" } : Jvm.MethodName)) ∈ lw_tbl := List.mem_of_getElem? (i := 849) rfl
set_option maxRecDepth 100000 in
theorem rALL_i94 : (Jvm.Cond.instanceMethod ({ cls := "DesignSpacesModel", name := "fail", desc := "(I)I" } : Jvm.MethodName)) ∈ lw_tbl := List.mem_of_getElem? (i := 851) rfl
set_option maxRecDepth 100000 in
theorem rALL_i95 : (Jvm.Cond.code ({ cls := "DesignSpacesModel", name := "fail", desc := "(I)I" } : Jvm.MethodName) prog_10_method_3_code (2 : Nat) (Option.some Jvm.ClassFile.FieldType.int)) ∈ lw_tbl := List.mem_of_getElem? (i := 852) rfl
set_option maxRecDepth 100000 in
theorem rALL_i96 : (Jvm.Cond.instanceMethod ({ cls := "DesignSpacesModel", name := "term", desc := "(IIIIII)I" } : Jvm.MethodName)) ∈ lw_tbl := List.mem_of_getElem? (i := 854) rfl
set_option maxRecDepth 100000 in
theorem rALL_i97 : (Jvm.Cond.selects "DesignSpacesModel" ({ cls := "DesignSpacesModel", name := "term", desc := "(IIIIII)I" } : Jvm.MethodName) ({ cls := "DesignSpacesModel", name := "term", desc := "(IIIIII)I" } : Jvm.MethodName)) ∈ lw_tbl := List.mem_of_getElem? (i := 855) rfl
set_option maxRecDepth 100000 in
theorem rALL_i98 : (Jvm.Cond.code ({ cls := "DesignSpacesModel", name := "term", desc := "(IIIIII)I" } : Jvm.MethodName) prog_10_method_7_code (7 : Nat) (Option.some Jvm.ClassFile.FieldType.int)) ∈ lw_tbl := List.mem_of_getElem? (i := 856) rfl
set_option maxRecDepth 100000 in
theorem rALL_i99 : (Jvm.Cond.methodLink "DesignSpacesModel" (94 : Nat) ({ cls := "DesignSpacesModel", name := "isValue", desc := "(II)Z" } : Jvm.MethodName)) ∈ lw_tbl := List.mem_of_getElem? (i := 857) rfl
set_option maxRecDepth 100000 in
theorem rALL_i100 : (Jvm.Cond.instanceMethod ({ cls := "DesignSpacesModel", name := "isValue", desc := "(II)Z" } : Jvm.MethodName)) ∈ lw_tbl := List.mem_of_getElem? (i := 859) rfl
set_option maxRecDepth 100000 in
theorem rALL_i101 : (Jvm.Cond.code ({ cls := "DesignSpacesModel", name := "isValue", desc := "(II)Z" } : Jvm.MethodName) prog_10_method_6_code (3 : Nat) (Option.some Jvm.ClassFile.FieldType.boolean)) ∈ lw_tbl := List.mem_of_getElem? (i := 860) rfl
set_option maxRecDepth 100000 in
theorem rALL_i102 : (Jvm.Cond.constant "DesignSpacesModel" (98 : Nat) (-1000000 : Int32)) ∈ lw_tbl := List.mem_of_getElem? (i := 861) rfl
set_option maxRecDepth 100000 in
theorem rALL_i103 : (Jvm.Cond.constant "DesignSpacesModel" (99 : Nat) (1000000 : Int32)) ∈ lw_tbl := List.mem_of_getElem? (i := 862) rfl
set_option maxRecDepth 100000 in
theorem rALL_i104 : (Jvm.Cond.instanceMethod ({ cls := "DesignSpacesModel", name := "rule", desc := "(IIII)I" } : Jvm.MethodName)) ∈ lw_tbl := List.mem_of_getElem? (i := 864) rfl
set_option maxRecDepth 100000 in
theorem rALL_i105 : (Jvm.Cond.selects "DesignSpacesModel" ({ cls := "DesignSpacesModel", name := "rule", desc := "(IIII)I" } : Jvm.MethodName) ({ cls := "DesignSpacesModel", name := "rule", desc := "(IIII)I" } : Jvm.MethodName)) ∈ lw_tbl := List.mem_of_getElem? (i := 865) rfl
set_option maxRecDepth 100000 in
theorem rALL_i106 : (Jvm.Cond.code ({ cls := "DesignSpacesModel", name := "rule", desc := "(IIII)I" } : Jvm.MethodName) prog_10_method_8_code (5 : Nat) (Option.some Jvm.ClassFile.FieldType.int)) ∈ lw_tbl := List.mem_of_getElem? (i := 866) rfl
set_option maxRecDepth 100000 in
theorem rALL_i107 : (Jvm.Cond.instanceMethod ({ cls := "DesignSpacesModel", name := "limit", desc := "(IZI)Z" } : Jvm.MethodName)) ∈ lw_tbl := List.mem_of_getElem? (i := 868) rfl
set_option maxRecDepth 100000 in
theorem rALL_i108 : (Jvm.Cond.selects "DesignSpacesModel" ({ cls := "DesignSpacesModel", name := "limit", desc := "(IZI)Z" } : Jvm.MethodName) ({ cls := "DesignSpacesModel", name := "limit", desc := "(IZI)Z" } : Jvm.MethodName)) ∈ lw_tbl := List.mem_of_getElem? (i := 869) rfl
set_option maxRecDepth 100000 in
theorem rALL_i109 : (Jvm.Cond.code ({ cls := "DesignSpacesModel", name := "limit", desc := "(IZI)Z" } : Jvm.MethodName) prog_10_method_9_code (5 : Nat) (Option.some Jvm.ClassFile.FieldType.boolean)) ∈ lw_tbl := List.mem_of_getElem? (i := 870) rfl
set_option maxRecDepth 100000 in
theorem rALL_i110 : (Jvm.Cond.instanceMethod ({ cls := "DesignSpacesModel", name := "number", desc := "(II)I" } : Jvm.MethodName)) ∈ lw_tbl := List.mem_of_getElem? (i := 872) rfl
set_option maxRecDepth 100000 in
theorem rALL_i111 : (Jvm.Cond.selects "DesignSpacesModel" ({ cls := "DesignSpacesModel", name := "number", desc := "(II)I" } : Jvm.MethodName) ({ cls := "DesignSpacesModel", name := "number", desc := "(II)I" } : Jvm.MethodName)) ∈ lw_tbl := List.mem_of_getElem? (i := 873) rfl
set_option maxRecDepth 100000 in
theorem rALL_i112 : (Jvm.Cond.code ({ cls := "DesignSpacesModel", name := "number", desc := "(II)I" } : Jvm.MethodName) prog_10_method_18_code (3 : Nat) (Option.some Jvm.ClassFile.FieldType.int)) ∈ lw_tbl := List.mem_of_getElem? (i := 874) rfl
set_option maxRecDepth 100000 in
theorem rALL_i113 : (Jvm.Cond.methodLink "DesignSpacesModel" (123 : Nat) ({ cls := "DesignSpacesModel", name := "isDesign", desc := "(I)Z" } : Jvm.MethodName)) ∈ lw_tbl := List.mem_of_getElem? (i := 875) rfl
set_option maxRecDepth 100000 in
theorem rALL_i114 : (Jvm.Cond.instanceMethod ({ cls := "DesignSpacesModel", name := "isDesign", desc := "(I)Z" } : Jvm.MethodName)) ∈ lw_tbl := List.mem_of_getElem? (i := 877) rfl
set_option maxRecDepth 100000 in
theorem rALL_i115 : (Jvm.Cond.code ({ cls := "DesignSpacesModel", name := "isDesign", desc := "(I)Z" } : Jvm.MethodName) prog_10_method_16_code (2 : Nat) (Option.some Jvm.ClassFile.FieldType.boolean)) ∈ lw_tbl := List.mem_of_getElem? (i := 878) rfl
set_option maxRecDepth 100000 in
theorem rALL_i116 : (Jvm.Cond.methodLink "DesignSpacesModel" (127 : Nat) ({ cls := "DesignSpacesModel", name := "know", desc := "()V" } : Jvm.MethodName)) ∈ lw_tbl := List.mem_of_getElem? (i := 879) rfl
set_option maxRecDepth 100000 in
theorem rALL_i117 : (Jvm.Cond.instanceMethod ({ cls := "DesignSpacesModel", name := "know", desc := "()V" } : Jvm.MethodName)) ∈ lw_tbl := List.mem_of_getElem? (i := 881) rfl
set_option maxRecDepth 100000 in
theorem rALL_i118 : (Jvm.Cond.code ({ cls := "DesignSpacesModel", name := "know", desc := "()V" } : Jvm.MethodName) prog_10_method_17_code (3 : Nat) (Option.none : Option Jvm.ClassFile.FieldType)) ∈ lw_tbl := List.mem_of_getElem? (i := 882) rfl
set_option maxRecDepth 100000 in
theorem rALL_i119 : (Jvm.Cond.methodLink "DesignSpacesModel" (112 : Nat) ({ cls := "DesignSpacesModel", name := "open", desc := "(II)V" } : Jvm.MethodName)) ∈ lw_tbl := List.mem_of_getElem? (i := 883) rfl
set_option maxRecDepth 100000 in
theorem rALL_i120 : (Jvm.Cond.instanceMethod ({ cls := "DesignSpacesModel", name := "open", desc := "(II)V" } : Jvm.MethodName)) ∈ lw_tbl := List.mem_of_getElem? (i := 885) rfl
set_option maxRecDepth 100000 in
theorem rALL_i121 : (Jvm.Cond.code ({ cls := "DesignSpacesModel", name := "open", desc := "(II)V" } : Jvm.MethodName) prog_10_method_10_code (5 : Nat) (Option.none : Option Jvm.ClassFile.FieldType)) ∈ lw_tbl := List.mem_of_getElem? (i := 886) rfl
set_option maxRecDepth 100000 in
theorem rALL_i122 : (Jvm.Cond.methodLink "DesignSpacesModel" (116 : Nat) ({ cls := "DesignSpacesModel", name := "isBarred", desc := "()Z" } : Jvm.MethodName)) ∈ lw_tbl := List.mem_of_getElem? (i := 887) rfl
set_option maxRecDepth 100000 in
theorem rALL_i123 : (Jvm.Cond.instanceMethod ({ cls := "DesignSpacesModel", name := "isBarred", desc := "()Z" } : Jvm.MethodName)) ∈ lw_tbl := List.mem_of_getElem? (i := 889) rfl
set_option maxRecDepth 100000 in
theorem rALL_i124 : (Jvm.Cond.code ({ cls := "DesignSpacesModel", name := "isBarred", desc := "()Z" } : Jvm.MethodName) prog_10_method_12_code (3 : Nat) (Option.some Jvm.ClassFile.FieldType.boolean)) ∈ lw_tbl := List.mem_of_getElem? (i := 890) rfl
set_option maxRecDepth 100000 in
theorem rALL_i125 : (Jvm.Cond.methodLink "DesignSpacesModel" (120 : Nat) ({ cls := "DesignSpacesModel", name := "passesLimits", desc := "()Z" } : Jvm.MethodName)) ∈ lw_tbl := List.mem_of_getElem? (i := 891) rfl
set_option maxRecDepth 100000 in
theorem rALL_i126 : (Jvm.Cond.instanceMethod ({ cls := "DesignSpacesModel", name := "passesLimits", desc := "()Z" } : Jvm.MethodName)) ∈ lw_tbl := List.mem_of_getElem? (i := 893) rfl
set_option maxRecDepth 100000 in
theorem rALL_i127 : (Jvm.Cond.code ({ cls := "DesignSpacesModel", name := "passesLimits", desc := "()Z" } : Jvm.MethodName) prog_10_method_15_code (3 : Nat) (Option.some Jvm.ClassFile.FieldType.boolean)) ∈ lw_tbl := List.mem_of_getElem? (i := 894) rfl
set_option maxRecDepth 100000 in
theorem rALL_i128 : (Jvm.Cond.methodLink "DesignSpacesModel" (109 : Nat) ({ cls := "DesignSpacesModel", name := "boundOf", desc := "(I)I" } : Jvm.MethodName)) ∈ lw_tbl := List.mem_of_getElem? (i := 895) rfl
set_option maxRecDepth 100000 in
theorem rALL_i129 : (Jvm.Cond.instanceMethod ({ cls := "DesignSpacesModel", name := "boundOf", desc := "(I)I" } : Jvm.MethodName)) ∈ lw_tbl := List.mem_of_getElem? (i := 897) rfl
set_option maxRecDepth 100000 in
theorem rALL_i130 : (Jvm.Cond.code ({ cls := "DesignSpacesModel", name := "boundOf", desc := "(I)I" } : Jvm.MethodName) prog_10_method_14_code (5 : Nat) (Option.some Jvm.ClassFile.FieldType.int)) ∈ lw_tbl := List.mem_of_getElem? (i := 898) rfl
set_option maxRecDepth 100000 in
theorem rALL_i131 : (Jvm.Cond.methodLink "DesignSpacesModel" (106 : Nat) ({ cls := "DesignSpacesModel", name := "counts", desc := "(I)I" } : Jvm.MethodName)) ∈ lw_tbl := List.mem_of_getElem? (i := 899) rfl
set_option maxRecDepth 100000 in
theorem rALL_i132 : (Jvm.Cond.instanceMethod ({ cls := "DesignSpacesModel", name := "counts", desc := "(I)I" } : Jvm.MethodName)) ∈ lw_tbl := List.mem_of_getElem? (i := 901) rfl
set_option maxRecDepth 100000 in
theorem rALL_i133 : (Jvm.Cond.code ({ cls := "DesignSpacesModel", name := "counts", desc := "(I)I" } : Jvm.MethodName) prog_10_method_13_code (5 : Nat) (Option.some Jvm.ClassFile.FieldType.int)) ∈ lw_tbl := List.mem_of_getElem? (i := 902) rfl
set_option maxRecDepth 100000 in
theorem rALL_i134 : (Jvm.Cond.instanceMethod ({ cls := "DesignSpacesModel", name := "value", desc := "(II)I" } : Jvm.MethodName)) ∈ lw_tbl := List.mem_of_getElem? (i := 904) rfl
set_option maxRecDepth 100000 in
theorem rALL_i135 : (Jvm.Cond.selects "DesignSpacesModel" ({ cls := "DesignSpacesModel", name := "value", desc := "(II)I" } : Jvm.MethodName) ({ cls := "DesignSpacesModel", name := "value", desc := "(II)I" } : Jvm.MethodName)) ∈ lw_tbl := List.mem_of_getElem? (i := 905) rfl
set_option maxRecDepth 100000 in
theorem rALL_i136 : (Jvm.Cond.code ({ cls := "DesignSpacesModel", name := "value", desc := "(II)I" } : Jvm.MethodName) prog_10_method_19_code (3 : Nat) (Option.some Jvm.ClassFile.FieldType.int)) ∈ lw_tbl := List.mem_of_getElem? (i := 906) rfl
set_option maxRecDepth 100000 in
theorem rALL_i137 : (Jvm.Cond.instanceMethod ({ cls := "DesignSpacesModel", name := "legal", desc := "(I)Z" } : Jvm.MethodName)) ∈ lw_tbl := List.mem_of_getElem? (i := 908) rfl
set_option maxRecDepth 100000 in
theorem rALL_i138 : (Jvm.Cond.selects "DesignSpacesModel" ({ cls := "DesignSpacesModel", name := "legal", desc := "(I)Z" } : Jvm.MethodName) ({ cls := "DesignSpacesModel", name := "legal", desc := "(I)Z" } : Jvm.MethodName)) ∈ lw_tbl := List.mem_of_getElem? (i := 909) rfl
set_option maxRecDepth 100000 in
theorem rALL_i139 : (Jvm.Cond.code ({ cls := "DesignSpacesModel", name := "legal", desc := "(I)Z" } : Jvm.MethodName) prog_10_method_20_code (2 : Nat) (Option.some Jvm.ClassFile.FieldType.boolean)) ∈ lw_tbl := List.mem_of_getElem? (i := 910) rfl
set_option maxRecDepth 100000 in
theorem rALL_i140 : (Jvm.Cond.instanceMethod ({ cls := "DesignSpacesModel", name := "beats", desc := "(II)Z" } : Jvm.MethodName)) ∈ lw_tbl := List.mem_of_getElem? (i := 912) rfl
set_option maxRecDepth 100000 in
theorem rALL_i141 : (Jvm.Cond.selects "DesignSpacesModel" ({ cls := "DesignSpacesModel", name := "beats", desc := "(II)Z" } : Jvm.MethodName) ({ cls := "DesignSpacesModel", name := "beats", desc := "(II)Z" } : Jvm.MethodName)) ∈ lw_tbl := List.mem_of_getElem? (i := 913) rfl
set_option maxRecDepth 100000 in
theorem rALL_i142 : (Jvm.Cond.code ({ cls := "DesignSpacesModel", name := "beats", desc := "(II)Z" } : Jvm.MethodName) prog_10_method_22_code (3 : Nat) (Option.some Jvm.ClassFile.FieldType.boolean)) ∈ lw_tbl := List.mem_of_getElem? (i := 914) rfl
set_option maxRecDepth 100000 in
theorem rALL_i143 : (Jvm.Cond.methodLink "DesignSpacesModel" (130 : Nat) ({ cls := "DesignSpacesModel", name := "isBeaten", desc := "(II)Z" } : Jvm.MethodName)) ∈ lw_tbl := List.mem_of_getElem? (i := 915) rfl
set_option maxRecDepth 100000 in
theorem rALL_i144 : (Jvm.Cond.instanceMethod ({ cls := "DesignSpacesModel", name := "isBeaten", desc := "(II)Z" } : Jvm.MethodName)) ∈ lw_tbl := List.mem_of_getElem? (i := 917) rfl
set_option maxRecDepth 100000 in
theorem rALL_i145 : (Jvm.Cond.code ({ cls := "DesignSpacesModel", name := "isBeaten", desc := "(II)Z" } : Jvm.MethodName) prog_10_method_21_code (6 : Nat) (Option.some Jvm.ClassFile.FieldType.boolean)) ∈ lw_tbl := List.mem_of_getElem? (i := 918) rfl
set_option maxRecDepth 100000 in
theorem rALL_i146 : (Jvm.Cond.instanceMethod ({ cls := "DesignSpacesModel", name := "undominated", desc := "()I" } : Jvm.MethodName)) ∈ lw_tbl := List.mem_of_getElem? (i := 920) rfl
set_option maxRecDepth 100000 in
theorem rALL_i147 : (Jvm.Cond.selects "DesignSpacesModel" ({ cls := "DesignSpacesModel", name := "undominated", desc := "()I" } : Jvm.MethodName) ({ cls := "DesignSpacesModel", name := "undominated", desc := "()I" } : Jvm.MethodName)) ∈ lw_tbl := List.mem_of_getElem? (i := 921) rfl
set_option maxRecDepth 100000 in
theorem rALL_i148 : (Jvm.Cond.code ({ cls := "DesignSpacesModel", name := "undominated", desc := "()I" } : Jvm.MethodName) prog_10_method_24_code (3 : Nat) (Option.some Jvm.ClassFile.FieldType.int)) ∈ lw_tbl := List.mem_of_getElem? (i := 922) rfl
set_option maxRecDepth 100000 in
theorem rALL_i149 : (Jvm.Cond.methodLink "DesignSpacesModel" (133 : Nat) ({ cls := "DesignSpacesModel", name := "isUndominated", desc := "(I)Z" } : Jvm.MethodName)) ∈ lw_tbl := List.mem_of_getElem? (i := 923) rfl
set_option maxRecDepth 100000 in
theorem rALL_i150 : (Jvm.Cond.instanceMethod ({ cls := "DesignSpacesModel", name := "isUndominated", desc := "(I)Z" } : Jvm.MethodName)) ∈ lw_tbl := List.mem_of_getElem? (i := 925) rfl
set_option maxRecDepth 100000 in
theorem rALL_i151 : (Jvm.Cond.code ({ cls := "DesignSpacesModel", name := "isUndominated", desc := "(I)Z" } : Jvm.MethodName) prog_10_method_23_code (3 : Nat) (Option.some Jvm.ClassFile.FieldType.boolean)) ∈ lw_tbl := List.mem_of_getElem? (i := 926) rfl
set_option maxRecDepth 100000 in
theorem rALL_i152 : (Jvm.Cond.instanceMethod ({ cls := "DesignSpacesModel", name := "at", desc := "(I)I" } : Jvm.MethodName)) ∈ lw_tbl := List.mem_of_getElem? (i := 928) rfl
set_option maxRecDepth 100000 in
theorem rALL_i153 : (Jvm.Cond.selects "DesignSpacesModel" ({ cls := "DesignSpacesModel", name := "at", desc := "(I)I" } : Jvm.MethodName) ({ cls := "DesignSpacesModel", name := "at", desc := "(I)I" } : Jvm.MethodName)) ∈ lw_tbl := List.mem_of_getElem? (i := 929) rfl
set_option maxRecDepth 100000 in
theorem rALL_i154 : (Jvm.Cond.code ({ cls := "DesignSpacesModel", name := "at", desc := "(I)I" } : Jvm.MethodName) prog_10_method_25_code (4 : Nat) (Option.some Jvm.ClassFile.FieldType.int)) ∈ lw_tbl := List.mem_of_getElem? (i := 930) rfl
set_option maxRecDepth 100000 in
theorem rALL_i155 : (Jvm.Cond.instanceMethod ({ cls := "DesignSpacesModel", name := "best", desc := "(I)I" } : Jvm.MethodName)) ∈ lw_tbl := List.mem_of_getElem? (i := 932) rfl
set_option maxRecDepth 100000 in
theorem rALL_i156 : (Jvm.Cond.selects "DesignSpacesModel" ({ cls := "DesignSpacesModel", name := "best", desc := "(I)I" } : Jvm.MethodName) ({ cls := "DesignSpacesModel", name := "best", desc := "(I)I" } : Jvm.MethodName)) ∈ lw_tbl := List.mem_of_getElem? (i := 933) rfl
set_option maxRecDepth 100000 in
theorem rALL_i157 : (Jvm.Cond.code ({ cls := "DesignSpacesModel", name := "best", desc := "(I)I" } : Jvm.MethodName) prog_10_method_27_code (6 : Nat) (Option.some Jvm.ClassFile.FieldType.int)) ∈ lw_tbl := List.mem_of_getElem? (i := 934) rfl
set_option maxRecDepth 100000 in
theorem rALL_i158 : (Jvm.Cond.methodLink "DesignSpacesModel" (139 : Nat) ({ cls := "DesignSpacesModel", name := "closed", desc := "()I" } : Jvm.MethodName)) ∈ lw_tbl := List.mem_of_getElem? (i := 935) rfl
set_option maxRecDepth 100000 in
theorem rALL_i159 : (Jvm.Cond.instanceMethod ({ cls := "DesignSpacesModel", name := "closed", desc := "()I" } : Jvm.MethodName)) ∈ lw_tbl := List.mem_of_getElem? (i := 937) rfl
set_option maxRecDepth 100000 in
theorem rALL_i160 : (Jvm.Cond.code ({ cls := "DesignSpacesModel", name := "closed", desc := "()I" } : Jvm.MethodName) prog_10_method_11_code (3 : Nat) (Option.some Jvm.ClassFile.FieldType.int)) ∈ lw_tbl := List.mem_of_getElem? (i := 938) rfl
set_option maxRecDepth 100000 in
theorem rALL_i161 : (Jvm.Cond.methodLink "DesignSpacesModel" (143 : Nat) ({ cls := "DesignSpacesModel", name := "nextRow", desc := "(I)I" } : Jvm.MethodName)) ∈ lw_tbl := List.mem_of_getElem? (i := 939) rfl
set_option maxRecDepth 100000 in
theorem rALL_i162 : (Jvm.Cond.instanceMethod ({ cls := "DesignSpacesModel", name := "nextRow", desc := "(I)I" } : Jvm.MethodName)) ∈ lw_tbl := List.mem_of_getElem? (i := 941) rfl
set_option maxRecDepth 100000 in
theorem rALL_i163 : (Jvm.Cond.code ({ cls := "DesignSpacesModel", name := "nextRow", desc := "(I)I" } : Jvm.MethodName) prog_10_method_26_code (3 : Nat) (Option.some Jvm.ClassFile.FieldType.int)) ∈ lw_tbl := List.mem_of_getElem? (i := 942) rfl
set_option maxRecDepth 100000 in
theorem rALL_i164 : (Jvm.Cond.instanceMethod ({ cls := "DesignSpacesModel", name := "looked", desc := "()I" } : Jvm.MethodName)) ∈ lw_tbl := List.mem_of_getElem? (i := 944) rfl
set_option maxRecDepth 100000 in
theorem rALL_i165 : (Jvm.Cond.selects "DesignSpacesModel" ({ cls := "DesignSpacesModel", name := "looked", desc := "()I" } : Jvm.MethodName) ({ cls := "DesignSpacesModel", name := "looked", desc := "()I" } : Jvm.MethodName)) ∈ lw_tbl := List.mem_of_getElem? (i := 945) rfl
set_option maxRecDepth 100000 in
theorem rALL_i166 : (Jvm.Cond.code ({ cls := "DesignSpacesModel", name := "looked", desc := "()I" } : Jvm.MethodName) prog_10_method_28_code (1 : Nat) (Option.some Jvm.ClassFile.FieldType.int)) ∈ lw_tbl := List.mem_of_getElem? (i := 946) rfl
set_option maxRecDepth 100000 in
theorem rALL_i167 : (Jvm.Cond.instanceMethod ({ cls := "DesignSpacesModel", name := "bound", desc := "(III)I" } : Jvm.MethodName)) ∈ lw_tbl := List.mem_of_getElem? (i := 948) rfl
set_option maxRecDepth 100000 in
theorem rALL_i168 : (Jvm.Cond.selects "DesignSpacesModel" ({ cls := "DesignSpacesModel", name := "bound", desc := "(III)I" } : Jvm.MethodName) ({ cls := "DesignSpacesModel", name := "bound", desc := "(III)I" } : Jvm.MethodName)) ∈ lw_tbl := List.mem_of_getElem? (i := 949) rfl
set_option maxRecDepth 100000 in
theorem rALL_i169 : (Jvm.Cond.code ({ cls := "DesignSpacesModel", name := "bound", desc := "(III)I" } : Jvm.MethodName) prog_10_method_29_code (4 : Nat) (Option.some Jvm.ClassFile.FieldType.int)) ∈ lw_tbl := List.mem_of_getElem? (i := 950) rfl
set_option maxRecDepth 100000 in
theorem rALL_i170 : (Jvm.Cond.instanceMethod ({ cls := "DesignSpacesModel", name := "near", desc := "(II)I" } : Jvm.MethodName)) ∈ lw_tbl := List.mem_of_getElem? (i := 952) rfl
set_option maxRecDepth 100000 in
theorem rALL_i171 : (Jvm.Cond.selects "DesignSpacesModel" ({ cls := "DesignSpacesModel", name := "near", desc := "(II)I" } : Jvm.MethodName) ({ cls := "DesignSpacesModel", name := "near", desc := "(II)I" } : Jvm.MethodName)) ∈ lw_tbl := List.mem_of_getElem? (i := 953) rfl
set_option maxRecDepth 100000 in
theorem rALL_i172 : (Jvm.Cond.code ({ cls := "DesignSpacesModel", name := "near", desc := "(II)I" } : Jvm.MethodName) prog_10_method_32_code (3 : Nat) (Option.some Jvm.ClassFile.FieldType.int)) ∈ lw_tbl := List.mem_of_getElem? (i := 954) rfl
set_option maxRecDepth 100000 in
theorem rALL_i173 : (Jvm.Cond.methodLink "DesignSpacesModel" (146 : Nat) ({ cls := "DesignSpacesModel", name := "nears", desc := "()I" } : Jvm.MethodName)) ∈ lw_tbl := List.mem_of_getElem? (i := 955) rfl
set_option maxRecDepth 100000 in
theorem rALL_i174 : (Jvm.Cond.instanceMethod ({ cls := "DesignSpacesModel", name := "nears", desc := "()I" } : Jvm.MethodName)) ∈ lw_tbl := List.mem_of_getElem? (i := 957) rfl
set_option maxRecDepth 100000 in
theorem rALL_i175 : (Jvm.Cond.code ({ cls := "DesignSpacesModel", name := "nears", desc := "()I" } : Jvm.MethodName) prog_10_method_30_code (3 : Nat) (Option.some Jvm.ClassFile.FieldType.int)) ∈ lw_tbl := List.mem_of_getElem? (i := 958) rfl
set_option maxRecDepth 100000 in
theorem rALL_i176 : (Jvm.Cond.methodLink "DesignSpacesModel" (149 : Nat) ({ cls := "DesignSpacesModel", name := "nearOf", desc := "(II)I" } : Jvm.MethodName)) ∈ lw_tbl := List.mem_of_getElem? (i := 959) rfl
set_option maxRecDepth 100000 in
theorem rALL_i177 : (Jvm.Cond.instanceMethod ({ cls := "DesignSpacesModel", name := "nearOf", desc := "(II)I" } : Jvm.MethodName)) ∈ lw_tbl := List.mem_of_getElem? (i := 961) rfl
set_option maxRecDepth 100000 in
theorem rALL_i178 : (Jvm.Cond.code ({ cls := "DesignSpacesModel", name := "nearOf", desc := "(II)I" } : Jvm.MethodName) prog_10_method_31_code (6 : Nat) (Option.some Jvm.ClassFile.FieldType.int)) ∈ lw_tbl := List.mem_of_getElem? (i := 962) rfl
set_option maxRecDepth 100000 in
theorem rALL_i179 : (Jvm.Cond.instanceMethod ({ cls := "DesignSpacesModel", name := "slack", desc := "(I)I" } : Jvm.MethodName)) ∈ lw_tbl := List.mem_of_getElem? (i := 964) rfl
set_option maxRecDepth 100000 in
theorem rALL_i180 : (Jvm.Cond.selects "DesignSpacesModel" ({ cls := "DesignSpacesModel", name := "slack", desc := "(I)I" } : Jvm.MethodName) ({ cls := "DesignSpacesModel", name := "slack", desc := "(I)I" } : Jvm.MethodName)) ∈ lw_tbl := List.mem_of_getElem? (i := 965) rfl
set_option maxRecDepth 100000 in
theorem rALL_i181 : (Jvm.Cond.code ({ cls := "DesignSpacesModel", name := "slack", desc := "(I)I" } : Jvm.MethodName) prog_10_method_33_code (3 : Nat) (Option.some Jvm.ClassFile.FieldType.int)) ∈ lw_tbl := List.mem_of_getElem? (i := 966) rfl
set_option maxRecDepth 100000 in
theorem rALL_i182 : (Jvm.Cond.instanceMethod ({ cls := "DesignSpacesModel", name := "walk", desc := "(II)I" } : Jvm.MethodName)) ∈ lw_tbl := List.mem_of_getElem? (i := 968) rfl
set_option maxRecDepth 100000 in
theorem rALL_i183 : (Jvm.Cond.selects "DesignSpacesModel" ({ cls := "DesignSpacesModel", name := "walk", desc := "(II)I" } : Jvm.MethodName) ({ cls := "DesignSpacesModel", name := "walk", desc := "(II)I" } : Jvm.MethodName)) ∈ lw_tbl := List.mem_of_getElem? (i := 969) rfl
set_option maxRecDepth 100000 in
theorem rALL_i184 : (Jvm.Cond.code ({ cls := "DesignSpacesModel", name := "walk", desc := "(II)I" } : Jvm.MethodName) prog_10_method_35_code (6 : Nat) (Option.some Jvm.ClassFile.FieldType.int)) ∈ lw_tbl := List.mem_of_getElem? (i := 970) rfl
set_option maxRecDepth 100000 in
theorem rALL_i185 : (Jvm.Cond.constant "DesignSpacesModel" (159 : Nat) (1103515245 : Int32)) ∈ lw_tbl := List.mem_of_getElem? (i := 971) rfl
set_option maxRecDepth 100000 in
theorem rALL_i186 : (Jvm.Cond.constant "DesignSpacesModel" (160 : Nat) (65536 : Int32)) ∈ lw_tbl := List.mem_of_getElem? (i := 972) rfl
set_option maxRecDepth 100000 in
theorem rALL_i187 : (Jvm.Cond.methodLink "DesignSpacesModel" (161 : Nat) ({ cls := "DesignSpacesModel", name := "cost", desc := "(I)J" } : Jvm.MethodName)) ∈ lw_tbl := List.mem_of_getElem? (i := 973) rfl
set_option maxRecDepth 100000 in
theorem rALL_i188 : (Jvm.Cond.instanceMethod ({ cls := "DesignSpacesModel", name := "cost", desc := "(I)J" } : Jvm.MethodName)) ∈ lw_tbl := List.mem_of_getElem? (i := 975) rfl
set_option maxRecDepth 100000 in
theorem rALL_i189 : (Jvm.Cond.code ({ cls := "DesignSpacesModel", name := "cost", desc := "(I)J" } : Jvm.MethodName) prog_10_method_34_code (2 : Nat) (Option.some Jvm.ClassFile.FieldType.long)) ∈ lw_tbl := List.mem_of_getElem? (i := 976) rfl
set_option maxRecDepth 100000 in
theorem rALL_i190 : (Jvm.Cond.instanceMethod ({ cls := "DesignSpacesModel", name := "lowest", desc := "()I" } : Jvm.MethodName)) ∈ lw_tbl := List.mem_of_getElem? (i := 978) rfl
set_option maxRecDepth 100000 in
theorem rALL_i191 : (Jvm.Cond.selects "DesignSpacesModel" ({ cls := "DesignSpacesModel", name := "lowest", desc := "()I" } : Jvm.MethodName) ({ cls := "DesignSpacesModel", name := "lowest", desc := "()I" } : Jvm.MethodName)) ∈ lw_tbl := List.mem_of_getElem? (i := 979) rfl
set_option maxRecDepth 100000 in
theorem rALL_i192 : (Jvm.Cond.code ({ cls := "DesignSpacesModel", name := "lowest", desc := "()I" } : Jvm.MethodName) prog_10_method_36_code (1 : Nat) (Option.some Jvm.ClassFile.FieldType.int)) ∈ lw_tbl := List.mem_of_getElem? (i := 980) rfl
set_option maxRecDepth 100000 in
theorem rALL_i193 : (Jvm.Cond.instanceMethod ({ cls := "DesignSpacesModel", name := "matters", desc := "(II)J" } : Jvm.MethodName)) ∈ lw_tbl := List.mem_of_getElem? (i := 982) rfl
set_option maxRecDepth 100000 in
theorem rALL_i194 : (Jvm.Cond.selects "DesignSpacesModel" ({ cls := "DesignSpacesModel", name := "matters", desc := "(II)J" } : Jvm.MethodName) ({ cls := "DesignSpacesModel", name := "matters", desc := "(II)J" } : Jvm.MethodName)) ∈ lw_tbl := List.mem_of_getElem? (i := 983) rfl
set_option maxRecDepth 100000 in
theorem rALL_i195 : (Jvm.Cond.code ({ cls := "DesignSpacesModel", name := "matters", desc := "(II)J" } : Jvm.MethodName) prog_10_method_37_code (10 : Nat) (Option.some Jvm.ClassFile.FieldType.long)) ∈ lw_tbl := List.mem_of_getElem? (i := 984) rfl
set_option maxRecDepth 100000 in
theorem rALL_i196 : (Jvm.Cond.instanceMethod ({ cls := "DesignSpacesModel", name := "sweep", desc := "(I)I" } : Jvm.MethodName)) ∈ lw_tbl := List.mem_of_getElem? (i := 986) rfl
set_option maxRecDepth 100000 in
theorem rALL_i197 : (Jvm.Cond.selects "DesignSpacesModel" ({ cls := "DesignSpacesModel", name := "sweep", desc := "(I)I" } : Jvm.MethodName) ({ cls := "DesignSpacesModel", name := "sweep", desc := "(I)I" } : Jvm.MethodName)) ∈ lw_tbl := List.mem_of_getElem? (i := 987) rfl
set_option maxRecDepth 100000 in
theorem rALL_i198 : (Jvm.Cond.code ({ cls := "DesignSpacesModel", name := "sweep", desc := "(I)I" } : Jvm.MethodName) prog_10_method_38_code (4 : Nat) (Option.some Jvm.ClassFile.FieldType.int)) ∈ lw_tbl := List.mem_of_getElem? (i := 988) rfl
set_option maxRecDepth 100000 in
theorem rALL_i199 : (Jvm.Cond.instanceMethod ({ cls := "DesignSpacesModel", name := "count", desc := "(I)I" } : Jvm.MethodName)) ∈ lw_tbl := List.mem_of_getElem? (i := 990) rfl
set_option maxRecDepth 100000 in
theorem rALL_i200 : (Jvm.Cond.selects "DesignSpacesModel" ({ cls := "DesignSpacesModel", name := "count", desc := "(I)I" } : Jvm.MethodName) ({ cls := "DesignSpacesModel", name := "count", desc := "(I)I" } : Jvm.MethodName)) ∈ lw_tbl := List.mem_of_getElem? (i := 991) rfl
set_option maxRecDepth 100000 in
theorem rALL_i201 : (Jvm.Cond.code ({ cls := "DesignSpacesModel", name := "count", desc := "(I)I" } : Jvm.MethodName) prog_10_method_39_code (4 : Nat) (Option.some Jvm.ClassFile.FieldType.int)) ∈ lw_tbl := List.mem_of_getElem? (i := 992) rfl
set_option maxRecDepth 100000 in
theorem rALL_in : ∀ w ∈ rALL, w ∈ lw_tbl := List.forall_mem_cons.mpr ⟨rALL_i0, List.forall_mem_cons.mpr ⟨rALL_i1, List.forall_mem_cons.mpr ⟨rALL_i2, List.forall_mem_cons.mpr ⟨rALL_i3, List.forall_mem_cons.mpr ⟨rALL_i4, List.forall_mem_cons.mpr ⟨rALL_i5, List.forall_mem_cons.mpr ⟨rALL_i6, List.forall_mem_cons.mpr ⟨rALL_i7, List.forall_mem_cons.mpr ⟨rALL_i8, List.forall_mem_cons.mpr ⟨rALL_i9, List.forall_mem_cons.mpr ⟨rALL_i10, List.forall_mem_cons.mpr ⟨rALL_i11, List.forall_mem_cons.mpr ⟨rALL_i12, List.forall_mem_cons.mpr ⟨rALL_i13, List.forall_mem_cons.mpr ⟨rALL_i14, List.forall_mem_cons.mpr ⟨rALL_i15, List.forall_mem_cons.mpr ⟨rALL_i16, List.forall_mem_cons.mpr ⟨rALL_i17, List.forall_mem_cons.mpr ⟨rALL_i18, List.forall_mem_cons.mpr ⟨rALL_i19, List.forall_mem_cons.mpr ⟨rALL_i20, List.forall_mem_cons.mpr ⟨rALL_i21, List.forall_mem_cons.mpr ⟨rALL_i22, List.forall_mem_cons.mpr ⟨rALL_i23, List.forall_mem_cons.mpr ⟨rALL_i24, List.forall_mem_cons.mpr ⟨rALL_i25, List.forall_mem_cons.mpr ⟨rALL_i26, List.forall_mem_cons.mpr ⟨rALL_i27, List.forall_mem_cons.mpr ⟨rALL_i28, List.forall_mem_cons.mpr ⟨rALL_i29, List.forall_mem_cons.mpr ⟨rALL_i30, List.forall_mem_cons.mpr ⟨rALL_i31, List.forall_mem_cons.mpr ⟨rALL_i32, List.forall_mem_cons.mpr ⟨rALL_i33, List.forall_mem_cons.mpr ⟨rALL_i34, List.forall_mem_cons.mpr ⟨rALL_i35, List.forall_mem_cons.mpr ⟨rALL_i36, List.forall_mem_cons.mpr ⟨rALL_i37, List.forall_mem_cons.mpr ⟨rALL_i38, List.forall_mem_cons.mpr ⟨rALL_i39, List.forall_mem_cons.mpr ⟨rALL_i40, List.forall_mem_cons.mpr ⟨rALL_i41, List.forall_mem_cons.mpr ⟨rALL_i42, List.forall_mem_cons.mpr ⟨rALL_i43, List.forall_mem_cons.mpr ⟨rALL_i44, List.forall_mem_cons.mpr ⟨rALL_i45, List.forall_mem_cons.mpr ⟨rALL_i46, List.forall_mem_cons.mpr ⟨rALL_i47, List.forall_mem_cons.mpr ⟨rALL_i48, List.forall_mem_cons.mpr ⟨rALL_i49, List.forall_mem_cons.mpr ⟨rALL_i50, List.forall_mem_cons.mpr ⟨rALL_i51, List.forall_mem_cons.mpr ⟨rALL_i52, List.forall_mem_cons.mpr ⟨rALL_i53, List.forall_mem_cons.mpr ⟨rALL_i54, List.forall_mem_cons.mpr ⟨rALL_i55, List.forall_mem_cons.mpr ⟨rALL_i56, List.forall_mem_cons.mpr ⟨rALL_i57, List.forall_mem_cons.mpr ⟨rALL_i58, List.forall_mem_cons.mpr ⟨rALL_i59, List.forall_mem_cons.mpr ⟨rALL_i60, List.forall_mem_cons.mpr ⟨rALL_i61, List.forall_mem_cons.mpr ⟨rALL_i62, List.forall_mem_cons.mpr ⟨rALL_i63, List.forall_mem_cons.mpr ⟨rALL_i64, List.forall_mem_cons.mpr ⟨rALL_i65, List.forall_mem_cons.mpr ⟨rALL_i66, List.forall_mem_cons.mpr ⟨rALL_i67, List.forall_mem_cons.mpr ⟨rALL_i68, List.forall_mem_cons.mpr ⟨rALL_i69, List.forall_mem_cons.mpr ⟨rALL_i70, List.forall_mem_cons.mpr ⟨rALL_i71, List.forall_mem_cons.mpr ⟨rALL_i72, List.forall_mem_cons.mpr ⟨rALL_i73, List.forall_mem_cons.mpr ⟨rALL_i74, List.forall_mem_cons.mpr ⟨rALL_i75, List.forall_mem_cons.mpr ⟨rALL_i76, List.forall_mem_cons.mpr ⟨rALL_i77, List.forall_mem_cons.mpr ⟨rALL_i78, List.forall_mem_cons.mpr ⟨rALL_i79, List.forall_mem_cons.mpr ⟨rALL_i80, List.forall_mem_cons.mpr ⟨rALL_i81, List.forall_mem_cons.mpr ⟨rALL_i82, List.forall_mem_cons.mpr ⟨rALL_i83, List.forall_mem_cons.mpr ⟨rALL_i84, List.forall_mem_cons.mpr ⟨rALL_i85, List.forall_mem_cons.mpr ⟨rALL_i86, List.forall_mem_cons.mpr ⟨rALL_i87, List.forall_mem_cons.mpr ⟨rALL_i88, List.forall_mem_cons.mpr ⟨rALL_i89, List.forall_mem_cons.mpr ⟨rALL_i90, List.forall_mem_cons.mpr ⟨rALL_i91, List.forall_mem_cons.mpr ⟨rALL_i92, List.forall_mem_cons.mpr ⟨rALL_i93, List.forall_mem_cons.mpr ⟨rALL_i94, List.forall_mem_cons.mpr ⟨rALL_i95, List.forall_mem_cons.mpr ⟨rALL_i96, List.forall_mem_cons.mpr ⟨rALL_i97, List.forall_mem_cons.mpr ⟨rALL_i98, List.forall_mem_cons.mpr ⟨rALL_i99, List.forall_mem_cons.mpr ⟨rALL_i100, List.forall_mem_cons.mpr ⟨rALL_i101, List.forall_mem_cons.mpr ⟨rALL_i102, List.forall_mem_cons.mpr ⟨rALL_i103, List.forall_mem_cons.mpr ⟨rALL_i104, List.forall_mem_cons.mpr ⟨rALL_i105, List.forall_mem_cons.mpr ⟨rALL_i106, List.forall_mem_cons.mpr ⟨rALL_i107, List.forall_mem_cons.mpr ⟨rALL_i108, List.forall_mem_cons.mpr ⟨rALL_i109, List.forall_mem_cons.mpr ⟨rALL_i110, List.forall_mem_cons.mpr ⟨rALL_i111, List.forall_mem_cons.mpr ⟨rALL_i112, List.forall_mem_cons.mpr ⟨rALL_i113, List.forall_mem_cons.mpr ⟨rALL_i114, List.forall_mem_cons.mpr ⟨rALL_i115, List.forall_mem_cons.mpr ⟨rALL_i116, List.forall_mem_cons.mpr ⟨rALL_i117, List.forall_mem_cons.mpr ⟨rALL_i118, List.forall_mem_cons.mpr ⟨rALL_i119, List.forall_mem_cons.mpr ⟨rALL_i120, List.forall_mem_cons.mpr ⟨rALL_i121, List.forall_mem_cons.mpr ⟨rALL_i122, List.forall_mem_cons.mpr ⟨rALL_i123, List.forall_mem_cons.mpr ⟨rALL_i124, List.forall_mem_cons.mpr ⟨rALL_i125, List.forall_mem_cons.mpr ⟨rALL_i126, List.forall_mem_cons.mpr ⟨rALL_i127, List.forall_mem_cons.mpr ⟨rALL_i128, List.forall_mem_cons.mpr ⟨rALL_i129, List.forall_mem_cons.mpr ⟨rALL_i130, List.forall_mem_cons.mpr ⟨rALL_i131, List.forall_mem_cons.mpr ⟨rALL_i132, List.forall_mem_cons.mpr ⟨rALL_i133, List.forall_mem_cons.mpr ⟨rALL_i134, List.forall_mem_cons.mpr ⟨rALL_i135, List.forall_mem_cons.mpr ⟨rALL_i136, List.forall_mem_cons.mpr ⟨rALL_i137, List.forall_mem_cons.mpr ⟨rALL_i138, List.forall_mem_cons.mpr ⟨rALL_i139, List.forall_mem_cons.mpr ⟨rALL_i140, List.forall_mem_cons.mpr ⟨rALL_i141, List.forall_mem_cons.mpr ⟨rALL_i142, List.forall_mem_cons.mpr ⟨rALL_i143, List.forall_mem_cons.mpr ⟨rALL_i144, List.forall_mem_cons.mpr ⟨rALL_i145, List.forall_mem_cons.mpr ⟨rALL_i146, List.forall_mem_cons.mpr ⟨rALL_i147, List.forall_mem_cons.mpr ⟨rALL_i148, List.forall_mem_cons.mpr ⟨rALL_i149, List.forall_mem_cons.mpr ⟨rALL_i150, List.forall_mem_cons.mpr ⟨rALL_i151, List.forall_mem_cons.mpr ⟨rALL_i152, List.forall_mem_cons.mpr ⟨rALL_i153, List.forall_mem_cons.mpr ⟨rALL_i154, List.forall_mem_cons.mpr ⟨rALL_i155, List.forall_mem_cons.mpr ⟨rALL_i156, List.forall_mem_cons.mpr ⟨rALL_i157, List.forall_mem_cons.mpr ⟨rALL_i158, List.forall_mem_cons.mpr ⟨rALL_i159, List.forall_mem_cons.mpr ⟨rALL_i160, List.forall_mem_cons.mpr ⟨rALL_i161, List.forall_mem_cons.mpr ⟨rALL_i162, List.forall_mem_cons.mpr ⟨rALL_i163, List.forall_mem_cons.mpr ⟨rALL_i164, List.forall_mem_cons.mpr ⟨rALL_i165, List.forall_mem_cons.mpr ⟨rALL_i166, List.forall_mem_cons.mpr ⟨rALL_i167, List.forall_mem_cons.mpr ⟨rALL_i168, List.forall_mem_cons.mpr ⟨rALL_i169, List.forall_mem_cons.mpr ⟨rALL_i170, List.forall_mem_cons.mpr ⟨rALL_i171, List.forall_mem_cons.mpr ⟨rALL_i172, List.forall_mem_cons.mpr ⟨rALL_i173, List.forall_mem_cons.mpr ⟨rALL_i174, List.forall_mem_cons.mpr ⟨rALL_i175, List.forall_mem_cons.mpr ⟨rALL_i176, List.forall_mem_cons.mpr ⟨rALL_i177, List.forall_mem_cons.mpr ⟨rALL_i178, List.forall_mem_cons.mpr ⟨rALL_i179, List.forall_mem_cons.mpr ⟨rALL_i180, List.forall_mem_cons.mpr ⟨rALL_i181, List.forall_mem_cons.mpr ⟨rALL_i182, List.forall_mem_cons.mpr ⟨rALL_i183, List.forall_mem_cons.mpr ⟨rALL_i184, List.forall_mem_cons.mpr ⟨rALL_i185, List.forall_mem_cons.mpr ⟨rALL_i186, List.forall_mem_cons.mpr ⟨rALL_i187, List.forall_mem_cons.mpr ⟨rALL_i188, List.forall_mem_cons.mpr ⟨rALL_i189, List.forall_mem_cons.mpr ⟨rALL_i190, List.forall_mem_cons.mpr ⟨rALL_i191, List.forall_mem_cons.mpr ⟨rALL_i192, List.forall_mem_cons.mpr ⟨rALL_i193, List.forall_mem_cons.mpr ⟨rALL_i194, List.forall_mem_cons.mpr ⟨rALL_i195, List.forall_mem_cons.mpr ⟨rALL_i196, List.forall_mem_cons.mpr ⟨rALL_i197, List.forall_mem_cons.mpr ⟨rALL_i198, List.forall_mem_cons.mpr ⟨rALL_i199, List.forall_mem_cons.mpr ⟨rALL_i200, List.forall_mem_cons.mpr ⟨rALL_i201, fun _ h => absurd h List.not_mem_nil⟩⟩⟩⟩⟩⟩⟩⟩⟩⟩⟩⟩⟩⟩⟩⟩⟩⟩⟩⟩⟩⟩⟩⟩⟩⟩⟩⟩⟩⟩⟩⟩⟩⟩⟩⟩⟩⟩⟩⟩⟩⟩⟩⟩⟩⟩⟩⟩⟩⟩⟩⟩⟩⟩⟩⟩⟩⟩⟩⟩⟩⟩⟩⟩⟩⟩⟩⟩⟩⟩⟩⟩⟩⟩⟩⟩⟩⟩⟩⟩⟩⟩⟩⟩⟩⟩⟩⟩⟩⟩⟩⟩⟩⟩⟩⟩⟩⟩⟩⟩⟩⟩⟩⟩⟩⟩⟩⟩⟩⟩⟩⟩⟩⟩⟩⟩⟩⟩⟩⟩⟩⟩⟩⟩⟩⟩⟩⟩⟩⟩⟩⟩⟩⟩⟩⟩⟩⟩⟩⟩⟩⟩⟩⟩⟩⟩⟩⟩⟩⟩⟩⟩⟩⟩⟩⟩⟩⟩⟩⟩⟩⟩⟩⟩⟩⟩⟩⟩⟩⟩⟩⟩⟩⟩⟩⟩⟩⟩⟩⟩⟩⟩⟩⟩⟩⟩⟩⟩⟩⟩⟩⟩⟩⟩⟩⟩⟩⟩⟩⟩⟩⟩
theorem rALL_gi : GoodIn lw_tbl rALL := fun w h => ⟨rALL_in w h, rALL_good w h⟩
