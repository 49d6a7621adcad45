def RL : String := "DesignSpacesLaw"
def lw0 : List Cond := [(Jvm.Cond.initialized "DesignSpacesLaw"), (Jvm.Cond.classLink "DesignSpacesLaw" (8 : Nat) "DesignSpaces"), (Jvm.Cond.methodLink "DesignSpacesLaw" (80 : Nat) ({ cls := "DesignSpaces", name := "<init>", desc := "(I)V" } : Jvm.MethodName)), (Jvm.Cond.methodLink "DesignSpacesLaw" (119 : Nat) ({ cls := "DesignSpaces", name := "undominated", desc := "()I" } : Jvm.MethodName)), (Jvm.Cond.methodLink "DesignSpacesLaw" (129 : Nat) ({ cls := "DesignSpaces", name := "looked", desc := "()I" } : Jvm.MethodName)), (Jvm.Cond.methodLink "DesignSpacesLaw" (146 : Nat) ({ cls := "DesignSpaces", name := "lowest", desc := "()I" } : Jvm.MethodName)), (Jvm.Cond.methodLink "DesignSpacesLaw" (156 : Nat) ({ cls := "DesignSpaces", name := "count", desc := "(I)I" } : Jvm.MethodName)), (Jvm.Cond.methodLink "DesignSpacesLaw" (74 : Nat) ({ cls := "DesignSpacesLaw", name := "cell", desc := "([II)I" } : Jvm.MethodName)), (Jvm.Cond.static ({ cls := "DesignSpacesLaw", name := "cell", desc := "([II)I" } : Jvm.MethodName)), (Jvm.Cond.code ({ cls := "DesignSpacesLaw", name := "cell", desc := "([II)I" } : Jvm.MethodName) method_2_code (2 : Nat) (Option.some Jvm.ClassFile.FieldType.int)), (Jvm.Cond.methodLink "DesignSpacesLaw" (86 : Nat) ({ cls := "DesignSpacesLaw", name := "choice", desc := "(LDesignSpaces;I[J)I" } : Jvm.MethodName)), (Jvm.Cond.static ({ cls := "DesignSpacesLaw", name := "choice", desc := "(LDesignSpaces;I[J)I" } : Jvm.MethodName)), (Jvm.Cond.codeWith ({ cls := "DesignSpacesLaw", name := "choice", desc := "(LDesignSpaces;I[J)I" } : Jvm.MethodName) method_3_code (4 : Nat) (Option.some Jvm.ClassFile.FieldType.int) [((0 : Nat), (9 : Nat), (12 : Nat), (13 : Nat)), ((0 : Nat), (9 : Nat), (15 : Nat), (15 : Nat))]), (Jvm.Cond.classLink "DesignSpacesLaw" (13 : Nat) "java/lang/IllegalArgumentException"), (Jvm.Cond.classLink "DesignSpacesLaw" (15 : Nat) "java/lang/UnsupportedOperationException"), (Jvm.Cond.methodLink "DesignSpacesLaw" (7 : Nat) ({ cls := "DesignSpaces", name := "choice", desc := "(I)I" } : Jvm.MethodName)), (Jvm.Cond.methodLink "DesignSpacesLaw" (94 : Nat) ({ cls := "DesignSpacesLaw", name := "term", desc := "(LDesignSpaces;IIIIII[J)I" } : Jvm.MethodName)), (Jvm.Cond.static ({ cls := "DesignSpacesLaw", name := "term", desc := "(LDesignSpaces;IIIIII[J)I" } : Jvm.MethodName)), (Jvm.Cond.codeWith ({ cls := "DesignSpacesLaw", name := "term", desc := "(LDesignSpaces;IIIIII[J)I" } : Jvm.MethodName) method_4_code (9 : Nat) (Option.some Jvm.ClassFile.FieldType.int) [((0 : Nat), (18 : Nat), (21 : Nat), (21 : Nat)), ((0 : Nat), (18 : Nat), (25 : Nat), (13 : Nat)), ((0 : Nat), (18 : Nat), (29 : Nat), (15 : Nat))]), (Jvm.Cond.classLink "DesignSpacesLaw" (21 : Nat) "java/lang/IndexOutOfBoundsException"), (Jvm.Cond.methodLink "DesignSpacesLaw" (17 : Nat) ({ cls := "DesignSpaces", name := "term", desc := "(IIIIII)I" } : Jvm.MethodName)), (Jvm.Cond.methodLink "DesignSpacesLaw" (98 : Nat) ({ cls := "DesignSpacesLaw", name := "rule", desc := "(LDesignSpaces;IIII[J)I" } : Jvm.MethodName)), (Jvm.Cond.static ({ cls := "DesignSpacesLaw", name := "rule", desc := "(LDesignSpaces;IIII[J)I" } : Jvm.MethodName)), (Jvm.Cond.codeWith ({ cls := "DesignSpacesLaw", name := "rule", desc := "(LDesignSpaces;IIII[J)I" } : Jvm.MethodName) method_5_code (7 : Nat) (Option.some Jvm.ClassFile.FieldType.int) [((0 : Nat), (14 : Nat), (17 : Nat), (21 : Nat)), ((0 : Nat), (14 : Nat), (21 : Nat), (13 : Nat)), ((0 : Nat), (14 : Nat), (25 : Nat), (15 : Nat))]), (Jvm.Cond.methodLink "DesignSpacesLaw" (23 : Nat) ({ cls := "DesignSpaces", name := "rule", desc := "(IIII)I" } : Jvm.MethodName)), (Jvm.Cond.methodLink "DesignSpacesLaw" (102 : Nat) ({ cls := "DesignSpacesLaw", name := "limit", desc := "(LDesignSpaces;IZI[J)I" } : Jvm.MethodName)), (Jvm.Cond.static ({ cls := "DesignSpacesLaw", name := "limit", desc := "(LDesignSpaces;IZI[J)I" } : Jvm.MethodName)), (Jvm.Cond.codeWith ({ cls := "DesignSpacesLaw", name := "limit", desc := "(LDesignSpaces;IZI[J)I" } : Jvm.MethodName) method_6_code (6 : Nat) (Option.some Jvm.ClassFile.FieldType.int) [((0 : Nat), (19 : Nat), (22 : Nat), (21 : Nat))]), (Jvm.Cond.methodLink "DesignSpacesLaw" (27 : Nat) ({ cls := "DesignSpaces", name := "limit", desc := "(IZI)Z" } : Jvm.MethodName)), (Jvm.Cond.methodLink "DesignSpacesLaw" (106 : Nat) ({ cls := "DesignSpacesLaw", name := "number", desc := "(LDesignSpaces;II[J)I" } : Jvm.MethodName)), (Jvm.Cond.static ({ cls := "DesignSpacesLaw", name := "number", desc := "(LDesignSpaces;II[J)I" } : Jvm.MethodName)), (Jvm.Cond.codeWith ({ cls := "DesignSpacesLaw", name := "number", desc := "(LDesignSpaces;II[J)I" } : Jvm.MethodName) method_7_code (5 : Nat) (Option.some Jvm.ClassFile.FieldType.int) [((0 : Nat), (10 : Nat), (13 : Nat), (21 : Nat))]), (Jvm.Cond.methodLink "DesignSpacesLaw" (31 : Nat) ({ cls := "DesignSpaces", name := "number", desc := "(II)I" } : Jvm.MethodName)), (Jvm.Cond.methodLink "DesignSpacesLaw" (110 : Nat) ({ cls := "DesignSpacesLaw", name := "value", desc := "(LDesignSpaces;II[J)I" } : Jvm.MethodName)), (Jvm.Cond.static ({ cls := "DesignSpacesLaw", name := "value", desc := "(LDesignSpaces;II[J)I" } : Jvm.MethodName)), (Jvm.Cond.codeWith ({ cls := "DesignSpacesLaw", name := "value", desc := "(LDesignSpaces;II[J)I" } : Jvm.MethodName) method_8_code (5 : Nat) (Option.some Jvm.ClassFile.FieldType.int) [((0 : Nat), (10 : Nat), (13 : Nat), (21 : Nat))]), (Jvm.Cond.methodLink "DesignSpacesLaw" (35 : Nat) ({ cls := "DesignSpaces", name := "value", desc := "(II)I" } : Jvm.MethodName)), (Jvm.Cond.methodLink "DesignSpacesLaw" (113 : Nat) ({ cls := "DesignSpacesLaw", name := "legal", desc := "(LDesignSpaces;I[J)I" } : Jvm.MethodName)), (Jvm.Cond.static ({ cls := "DesignSpacesLaw", name := "legal", desc := "(LDesignSpaces;I[J)I" } : Jvm.MethodName)), (Jvm.Cond.codeWith ({ cls := "DesignSpacesLaw", name := "legal", desc := "(LDesignSpaces;I[J)I" } : Jvm.MethodName) method_9_code (4 : Nat) (Option.some Jvm.ClassFile.FieldType.int) [((0 : Nat), (16 : Nat), (19 : Nat), (21 : Nat))]), (Jvm.Cond.methodLink "DesignSpacesLaw" (38 : Nat) ({ cls := "DesignSpaces", name := "legal", desc := "(I)Z" } : Jvm.MethodName)), (Jvm.Cond.methodLink "DesignSpacesLaw" (116 : Nat) ({ cls := "DesignSpacesLaw", name := "beats", desc := "(LDesignSpaces;II[J)I" } : Jvm.MethodName)), (Jvm.Cond.static ({ cls := "DesignSpacesLaw", name := "beats", desc := "(LDesignSpaces;II[J)I" } : Jvm.MethodName)), (Jvm.Cond.codeWith ({ cls := "DesignSpacesLaw", name := "beats", desc := "(LDesignSpaces;II[J)I" } : Jvm.MethodName) method_10_code (5 : Nat) (Option.some Jvm.ClassFile.FieldType.int) [((0 : Nat), (17 : Nat), (20 : Nat), (21 : Nat)), ((0 : Nat), (17 : Nat), (24 : Nat), (13 : Nat))]), (Jvm.Cond.methodLink "DesignSpacesLaw" (42 : Nat) ({ cls := "DesignSpaces", name := "beats", desc := "(II)Z" } : Jvm.MethodName)), (Jvm.Cond.methodLink "DesignSpacesLaw" (123 : Nat) ({ cls := "DesignSpacesLaw", name := "at", desc := "(LDesignSpaces;I[J)I" } : Jvm.MethodName)), (Jvm.Cond.static ({ cls := "DesignSpacesLaw", name := "at", desc := "(LDesignSpaces;I[J)I" } : Jvm.MethodName)), (Jvm.Cond.codeWith ({ cls := "DesignSpacesLaw", name := "at", desc := "(LDesignSpaces;I[J)I" } : Jvm.MethodName) method_11_code (4 : Nat) (Option.some Jvm.ClassFile.FieldType.int) [((0 : Nat), (9 : Nat), (12 : Nat), (21 : Nat))]), (Jvm.Cond.methodLink "DesignSpacesLaw" (46 : Nat) ({ cls := "DesignSpaces", name := "at", desc := "(I)I" } : Jvm.MethodName)), (Jvm.Cond.methodLink "DesignSpacesLaw" (126 : Nat) ({ cls := "DesignSpacesLaw", name := "best", desc := "(LDesignSpaces;I[J)I" } : Jvm.MethodName)), (Jvm.Cond.static ({ cls := "DesignSpacesLaw", name := "best", desc := "(LDesignSpaces;I[J)I" } : Jvm.MethodName)), (Jvm.Cond.codeWith ({ cls := "DesignSpacesLaw", name := "best", desc := "(LDesignSpaces;I[J)I" } : Jvm.MethodName) method_12_code (4 : Nat) (Option.some Jvm.ClassFile.FieldType.int) [((0 : Nat), (9 : Nat), (12 : Nat), (21 : Nat))]), (Jvm.Cond.methodLink "DesignSpacesLaw" (49 : Nat) ({ cls := "DesignSpaces", name := "best", desc := "(I)I" } : Jvm.MethodName)), (Jvm.Cond.methodLink "DesignSpacesLaw" (133 : Nat) ({ cls := "DesignSpacesLaw", name := "bound", desc := "(LDesignSpaces;III[J)I" } : Jvm.MethodName)), (Jvm.Cond.static ({ cls := "DesignSpacesLaw", name := "bound", desc := "(LDesignSpaces;III[J)I" } : Jvm.MethodName)), (Jvm.Cond.codeWith ({ cls := "DesignSpacesLaw", name := "bound", desc := "(LDesignSpaces;III[J)I" } : Jvm.MethodName) method_13_code (6 : Nat) (Option.some Jvm.ClassFile.FieldType.int) [((0 : Nat), (12 : Nat), (15 : Nat), (21 : Nat))]), (Jvm.Cond.methodLink "DesignSpacesLaw" (52 : Nat) ({ cls := "DesignSpaces", name := "bound", desc := "(III)I" } : Jvm.MethodName)), (Jvm.Cond.methodLink "DesignSpacesLaw" (137 : Nat) ({ cls := "DesignSpacesLaw", name := "near", desc := "(LDesignSpaces;II[J)I" } : Jvm.MethodName)), (Jvm.Cond.static ({ cls := "DesignSpacesLaw", name := "near", desc := "(LDesignSpaces;II[J)I" } : Jvm.MethodName)), (Jvm.Cond.codeWith ({ cls := "DesignSpacesLaw", name := "near", desc := "(LDesignSpaces;II[J)I" } : Jvm.MethodName) method_14_code (5 : Nat) (Option.some Jvm.ClassFile.FieldType.int) [((0 : Nat), (10 : Nat), (13 : Nat), (21 : Nat))]), (Jvm.Cond.methodLink "DesignSpacesLaw" (56 : Nat) ({ cls := "DesignSpaces", name := "near", desc := "(II)I" } : Jvm.MethodName)), (Jvm.Cond.methodLink "DesignSpacesLaw" (140 : Nat) ({ cls := "DesignSpacesLaw", name := "slack", desc := "(LDesignSpaces;I[J)I" } : Jvm.MethodName)), (Jvm.Cond.static ({ cls := "DesignSpacesLaw", name := "slack", desc := "(LDesignSpaces;I[J)I" } : Jvm.MethodName)), (Jvm.Cond.codeWith ({ cls := "DesignSpacesLaw", name := "slack", desc := "(LDesignSpaces;I[J)I" } : Jvm.MethodName) method_15_code (4 : Nat) (Option.some Jvm.ClassFile.FieldType.int) [((0 : Nat), (9 : Nat), (12 : Nat), (13 : Nat))]), (Jvm.Cond.methodLink "DesignSpacesLaw" (59 : Nat) ({ cls := "DesignSpaces", name := "slack", desc := "(I)I" } : Jvm.MethodName)), (Jvm.Cond.methodLink "DesignSpacesLaw" (143 : Nat) ({ cls := "DesignSpacesLaw", name := "walk", desc := "(LDesignSpaces;II[J)I" } : Jvm.MethodName)), (Jvm.Cond.static ({ cls := "DesignSpacesLaw", name := "walk", desc := "(LDesignSpaces;II[J)I" } : Jvm.MethodName)), (Jvm.Cond.codeWith ({ cls := "DesignSpacesLaw", name := "walk", desc := "(LDesignSpaces;II[J)I" } : Jvm.MethodName) method_16_code (5 : Nat) (Option.some Jvm.ClassFile.FieldType.int) [((0 : Nat), (10 : Nat), (13 : Nat), (21 : Nat)), ((0 : Nat), (10 : Nat), (17 : Nat), (13 : Nat)), ((0 : Nat), (10 : Nat), (21 : Nat), (65 : Nat))]), (Jvm.Cond.classLink "DesignSpacesLaw" (65 : Nat) "java/lang/IllegalStateException"), (Jvm.Cond.methodLink "DesignSpacesLaw" (62 : Nat) ({ cls := "DesignSpaces", name := "walk", desc := "(II)I" } : Jvm.MethodName)), (Jvm.Cond.methodLink "DesignSpacesLaw" (150 : Nat) ({ cls := "DesignSpacesLaw", name := "matters", desc := "(LDesignSpaces;II[J)I" } : Jvm.MethodName)), (Jvm.Cond.static ({ cls := "DesignSpacesLaw", name := "matters", desc := "(LDesignSpaces;II[J)I" } : Jvm.MethodName)), (Jvm.Cond.codeWith ({ cls := "DesignSpacesLaw", name := "matters", desc := "(LDesignSpaces;II[J)I" } : Jvm.MethodName) method_17_code (5 : Nat) (Option.some Jvm.ClassFile.FieldType.int) [((0 : Nat), (9 : Nat), (12 : Nat), (21 : Nat))]), (Jvm.Cond.methodLink "DesignSpacesLaw" (67 : Nat) ({ cls := "DesignSpaces", name := "matters", desc := "(II)J" } : Jvm.MethodName)), (Jvm.Cond.methodLink "DesignSpacesLaw" (153 : Nat) ({ cls := "DesignSpacesLaw", name := "sweep", desc := "(LDesignSpaces;I[J)I" } : Jvm.MethodName)), (Jvm.Cond.static ({ cls := "DesignSpacesLaw", name := "sweep", desc := "(LDesignSpaces;I[J)I" } : Jvm.MethodName)), (Jvm.Cond.codeWith ({ cls := "DesignSpacesLaw", name := "sweep", desc := "(LDesignSpaces;I[J)I" } : Jvm.MethodName) method_18_code (4 : Nat) (Option.some Jvm.ClassFile.FieldType.int) [((0 : Nat), (9 : Nat), (12 : Nat), (13 : Nat)), ((0 : Nat), (9 : Nat), (15 : Nat), (65 : Nat))]), (Jvm.Cond.methodLink "DesignSpacesLaw" (71 : Nat) ({ cls := "DesignSpaces", name := "sweep", desc := "(I)I" } : Jvm.MethodName)), (Jvm.Cond.classLink "DesignSpacesLaw" (83 : Nat) "DesignSpacesModel"), (Jvm.Cond.methodLink "DesignSpacesLaw" (85 : Nat) ({ cls := "DesignSpacesModel", name := "<init>", desc := "(I)V" } : Jvm.MethodName)), (Jvm.Cond.methodLink "DesignSpacesLaw" (90 : Nat) ({ cls := "DesignSpacesModel", name := "thrown", desc := "()I" } : Jvm.MethodName)), (Jvm.Cond.methodLink "DesignSpacesLaw" (89 : Nat) ({ cls := "DesignSpacesModel", name := "choice", desc := "(I)I" } : Jvm.MethodName)), (Jvm.Cond.methodLink "DesignSpacesLaw" (97 : Nat) ({ cls := "DesignSpacesModel", name := "term", desc := "(IIIIII)I" } : Jvm.MethodName)), (Jvm.Cond.methodLink "DesignSpacesLaw" (101 : Nat) ({ cls := "DesignSpacesModel", name := "rule", desc := "(IIII)I" } : Jvm.MethodName)), (Jvm.Cond.methodLink "DesignSpacesLaw" (105 : Nat) ({ cls := "DesignSpacesModel", name := "limit", desc := "(IZI)Z" } : Jvm.MethodName)), (Jvm.Cond.methodLink "DesignSpacesLaw" (109 : Nat) ({ cls := "DesignSpacesModel", name := "number", desc := "(II)I" } : Jvm.MethodName)), (Jvm.Cond.methodLink "DesignSpacesLaw" (112 : Nat) ({ cls := "DesignSpacesModel", name := "value", desc := "(II)I" } : Jvm.MethodName)), (Jvm.Cond.methodLink "DesignSpacesLaw" (115 : Nat) ({ cls := "DesignSpacesModel", name := "legal", desc := "(I)Z" } : Jvm.MethodName)), (Jvm.Cond.methodLink "DesignSpacesLaw" (118 : Nat) ({ cls := "DesignSpacesModel", name := "beats", desc := "(II)Z" } : Jvm.MethodName)), (Jvm.Cond.methodLink "DesignSpacesLaw" (122 : Nat) ({ cls := "DesignSpacesModel", name := "undominated", desc := "()I" } : Jvm.MethodName)), (Jvm.Cond.methodLink "DesignSpacesLaw" (125 : Nat) ({ cls := "DesignSpacesModel", name := "at", desc := "(I)I" } : Jvm.MethodName)), (Jvm.Cond.methodLink "DesignSpacesLaw" (128 : Nat) ({ cls := "DesignSpacesModel", name := "best", desc := "(I)I" } : Jvm.MethodName)), (Jvm.Cond.methodLink "DesignSpacesLaw" (132 : Nat) ({ cls := "DesignSpacesModel", name := "looked", desc := "()I" } : Jvm.MethodName)), (Jvm.Cond.methodLink "DesignSpacesLaw" (136 : Nat) ({ cls := "DesignSpacesModel", name := "bound", desc := "(III)I" } : Jvm.MethodName)), (Jvm.Cond.methodLink "DesignSpacesLaw" (139 : Nat) ({ cls := "DesignSpacesModel", name := "near", desc := "(II)I" } : Jvm.MethodName)), (Jvm.Cond.methodLink "DesignSpacesLaw" (142 : Nat) ({ cls := "DesignSpacesModel", name := "slack", desc := "(I)I" } : Jvm.MethodName)), (Jvm.Cond.methodLink "DesignSpacesLaw" (145 : Nat) ({ cls := "DesignSpacesModel", name := "walk", desc := "(II)I" } : Jvm.MethodName)), (Jvm.Cond.methodLink "DesignSpacesLaw" (149 : Nat) ({ cls := "DesignSpacesModel", name := "lowest", desc := "()I" } : Jvm.MethodName)), (Jvm.Cond.methodLink "DesignSpacesLaw" (152 : Nat) ({ cls := "DesignSpacesModel", name := "matters", desc := "(II)J" } : Jvm.MethodName)), (Jvm.Cond.methodLink "DesignSpacesLaw" (155 : Nat) ({ cls := "DesignSpacesModel", name := "sweep", desc := "(I)I" } : Jvm.MethodName)), (Jvm.Cond.methodLink "DesignSpacesLaw" (159 : Nat) ({ cls := "DesignSpacesModel", name := "count", desc := "(I)I" } : Jvm.MethodName)), (Jvm.Cond.arrayClass Jvm.ClassFile.FieldType.long)]
def lALL : List Cond := lw0 ++ cALL
set_option maxRecDepth 100000 in
theorem lw0_good : ∀ w ∈ lw0, ((w.onTables && w.keeps) = true ∨ ∃ ty, w = Cond.arrayClass ty) := fun w hw => good_of_word (List.all_eq_true.mp (show lw0.all goodWord = true by decide +kernel) w hw)
theorem lALL_good : ∀ w ∈ lALL, ((w.onTables && w.keeps) = true ∨ ∃ ty, w = Cond.arrayClass ty) := fun w hw => by
  rcases List.mem_append.mp hw with h | h
  · exact lw0_good w h
  · exact cALL_good w h
theorem gVL {cw cw' : Cond} {idx : Nat} {y : MethodName} (h1 : Cond.methodLink RL idx y ∈ lw0) (h2 : Cond.instanceMethod y ∈ cALL) (h3 : Cond.selects RX y y ∈ cALL) (h4 : Cond.initialized RX ∈ cALL) (h5 : cw' ∈ cALL) : GoodIn (cw :: lALL) (wsV RL idx RX y (cw' :: cALL)) := by
  intro w hw
  have hm : w ∈ lALL := by
    unfold wsV at hw
    simp only [List.cons_append, List.nil_append, List.mem_cons] at hw
    rcases hw with rfl | rfl | rfl | rfl | rfl | hw
    · exact List.mem_append_left _ h1
    · exact List.mem_append_right _ h2
    · exact List.mem_append_right _ h3
    · exact List.mem_append_right _ h4
    · exact List.mem_append_right _ h5
    · exact List.mem_append_right _ hw
  exact ⟨List.mem_cons_of_mem _ hm, lALL_good w hm⟩
abbrev cL_choice : ByteArray := method_3_code
def yL_choice : MethodName := ⟨RL, "choice", "(LDesignSpaces;I[J)I"⟩
abbrev hhL_choice : List (Nat × Nat × Nat × Nat) := [(0, 9, 12, 13), (0, 9, 15, 15)]
def wsL_choice : List Cond := .codeWith yL_choice cL_choice 4 (some .int) hhL_choice :: lALL
set_option maxRecDepth 100000 in
theorem mcL_choice : Cond.codeWith yL_choice cL_choice 4 (some .int) hhL_choice ∈ lw0 := List.mem_of_getElem? (i := 12) rfl
abbrev cL_term : ByteArray := method_4_code
def yL_term : MethodName := ⟨RL, "term", "(LDesignSpaces;IIIIII[J)I"⟩
abbrev hhL_term : List (Nat × Nat × Nat × Nat) := [(0, 18, 21, 21), (0, 18, 25, 13), (0, 18, 29, 15)]
def wsL_term : List Cond := .codeWith yL_term cL_term 9 (some .int) hhL_term :: lALL
set_option maxRecDepth 100000 in
theorem mcL_term : Cond.codeWith yL_term cL_term 9 (some .int) hhL_term ∈ lw0 := List.mem_of_getElem? (i := 18) rfl
abbrev cL_rule : ByteArray := method_5_code
def yL_rule : MethodName := ⟨RL, "rule", "(LDesignSpaces;IIII[J)I"⟩
abbrev hhL_rule : List (Nat × Nat × Nat × Nat) := [(0, 14, 17, 21), (0, 14, 21, 13), (0, 14, 25, 15)]
def wsL_rule : List Cond := .codeWith yL_rule cL_rule 7 (some .int) hhL_rule :: lALL
set_option maxRecDepth 100000 in
theorem mcL_rule : Cond.codeWith yL_rule cL_rule 7 (some .int) hhL_rule ∈ lw0 := List.mem_of_getElem? (i := 23) rfl
abbrev cL_limit : ByteArray := method_6_code
def yL_limit : MethodName := ⟨RL, "limit", "(LDesignSpaces;IZI[J)I"⟩
abbrev hhL_limit : List (Nat × Nat × Nat × Nat) := [(0, 19, 22, 21)]
def wsL_limit : List Cond := .codeWith yL_limit cL_limit 6 (some .int) hhL_limit :: lALL
set_option maxRecDepth 100000 in
theorem mcL_limit : Cond.codeWith yL_limit cL_limit 6 (some .int) hhL_limit ∈ lw0 := List.mem_of_getElem? (i := 27) rfl
abbrev cL_number : ByteArray := method_7_code
def yL_number : MethodName := ⟨RL, "number", "(LDesignSpaces;II[J)I"⟩
abbrev hhL_number : List (Nat × Nat × Nat × Nat) := [(0, 10, 13, 21)]
def wsL_number : List Cond := .codeWith yL_number cL_number 5 (some .int) hhL_number :: lALL
set_option maxRecDepth 100000 in
theorem mcL_number : Cond.codeWith yL_number cL_number 5 (some .int) hhL_number ∈ lw0 := List.mem_of_getElem? (i := 31) rfl
abbrev cL_value : ByteArray := method_8_code
def yL_value : MethodName := ⟨RL, "value", "(LDesignSpaces;II[J)I"⟩
abbrev hhL_value : List (Nat × Nat × Nat × Nat) := [(0, 10, 13, 21)]
def wsL_value : List Cond := .codeWith yL_value cL_value 5 (some .int) hhL_value :: lALL
set_option maxRecDepth 100000 in
theorem mcL_value : Cond.codeWith yL_value cL_value 5 (some .int) hhL_value ∈ lw0 := List.mem_of_getElem? (i := 35) rfl
abbrev cL_legal : ByteArray := method_9_code
def yL_legal : MethodName := ⟨RL, "legal", "(LDesignSpaces;I[J)I"⟩
abbrev hhL_legal : List (Nat × Nat × Nat × Nat) := [(0, 16, 19, 21)]
def wsL_legal : List Cond := .codeWith yL_legal cL_legal 4 (some .int) hhL_legal :: lALL
set_option maxRecDepth 100000 in
theorem mcL_legal : Cond.codeWith yL_legal cL_legal 4 (some .int) hhL_legal ∈ lw0 := List.mem_of_getElem? (i := 39) rfl
abbrev cL_beats : ByteArray := method_10_code
def yL_beats : MethodName := ⟨RL, "beats", "(LDesignSpaces;II[J)I"⟩
abbrev hhL_beats : List (Nat × Nat × Nat × Nat) := [(0, 17, 20, 21), (0, 17, 24, 13)]
def wsL_beats : List Cond := .codeWith yL_beats cL_beats 5 (some .int) hhL_beats :: lALL
set_option maxRecDepth 100000 in
theorem mcL_beats : Cond.codeWith yL_beats cL_beats 5 (some .int) hhL_beats ∈ lw0 := List.mem_of_getElem? (i := 43) rfl
abbrev cL_at : ByteArray := method_11_code
def yL_at : MethodName := ⟨RL, "at", "(LDesignSpaces;I[J)I"⟩
abbrev hhL_at : List (Nat × Nat × Nat × Nat) := [(0, 9, 12, 21)]
def wsL_at : List Cond := .codeWith yL_at cL_at 4 (some .int) hhL_at :: lALL
set_option maxRecDepth 100000 in
theorem mcL_at : Cond.codeWith yL_at cL_at 4 (some .int) hhL_at ∈ lw0 := List.mem_of_getElem? (i := 47) rfl
abbrev cL_best : ByteArray := method_12_code
def yL_best : MethodName := ⟨RL, "best", "(LDesignSpaces;I[J)I"⟩
abbrev hhL_best : List (Nat × Nat × Nat × Nat) := [(0, 9, 12, 21)]
def wsL_best : List Cond := .codeWith yL_best cL_best 4 (some .int) hhL_best :: lALL
set_option maxRecDepth 100000 in
theorem mcL_best : Cond.codeWith yL_best cL_best 4 (some .int) hhL_best ∈ lw0 := List.mem_of_getElem? (i := 51) rfl
abbrev cL_bound : ByteArray := method_13_code
def yL_bound : MethodName := ⟨RL, "bound", "(LDesignSpaces;III[J)I"⟩
abbrev hhL_bound : List (Nat × Nat × Nat × Nat) := [(0, 12, 15, 21)]
def wsL_bound : List Cond := .codeWith yL_bound cL_bound 6 (some .int) hhL_bound :: lALL
set_option maxRecDepth 100000 in
theorem mcL_bound : Cond.codeWith yL_bound cL_bound 6 (some .int) hhL_bound ∈ lw0 := List.mem_of_getElem? (i := 55) rfl
abbrev cL_near : ByteArray := method_14_code
def yL_near : MethodName := ⟨RL, "near", "(LDesignSpaces;II[J)I"⟩
abbrev hhL_near : List (Nat × Nat × Nat × Nat) := [(0, 10, 13, 21)]
def wsL_near : List Cond := .codeWith yL_near cL_near 5 (some .int) hhL_near :: lALL
set_option maxRecDepth 100000 in
theorem mcL_near : Cond.codeWith yL_near cL_near 5 (some .int) hhL_near ∈ lw0 := List.mem_of_getElem? (i := 59) rfl
abbrev cL_slack : ByteArray := method_15_code
def yL_slack : MethodName := ⟨RL, "slack", "(LDesignSpaces;I[J)I"⟩
abbrev hhL_slack : List (Nat × Nat × Nat × Nat) := [(0, 9, 12, 13)]
def wsL_slack : List Cond := .codeWith yL_slack cL_slack 4 (some .int) hhL_slack :: lALL
set_option maxRecDepth 100000 in
theorem mcL_slack : Cond.codeWith yL_slack cL_slack 4 (some .int) hhL_slack ∈ lw0 := List.mem_of_getElem? (i := 63) rfl
abbrev cL_walk : ByteArray := method_16_code
def yL_walk : MethodName := ⟨RL, "walk", "(LDesignSpaces;II[J)I"⟩
abbrev hhL_walk : List (Nat × Nat × Nat × Nat) := [(0, 10, 13, 21), (0, 10, 17, 13), (0, 10, 21, 65)]
def wsL_walk : List Cond := .codeWith yL_walk cL_walk 5 (some .int) hhL_walk :: lALL
set_option maxRecDepth 100000 in
theorem mcL_walk : Cond.codeWith yL_walk cL_walk 5 (some .int) hhL_walk ∈ lw0 := List.mem_of_getElem? (i := 67) rfl
abbrev cL_matters : ByteArray := method_17_code
def yL_matters : MethodName := ⟨RL, "matters", "(LDesignSpaces;II[J)I"⟩
abbrev hhL_matters : List (Nat × Nat × Nat × Nat) := [(0, 9, 12, 21)]
def wsL_matters : List Cond := .codeWith yL_matters cL_matters 5 (some .int) hhL_matters :: lALL
set_option maxRecDepth 100000 in
theorem mcL_matters : Cond.codeWith yL_matters cL_matters 5 (some .int) hhL_matters ∈ lw0 := List.mem_of_getElem? (i := 72) rfl
abbrev cL_sweep : ByteArray := method_18_code
def yL_sweep : MethodName := ⟨RL, "sweep", "(LDesignSpaces;I[J)I"⟩
abbrev hhL_sweep : List (Nat × Nat × Nat × Nat) := [(0, 9, 12, 13), (0, 9, 15, 65)]
def wsL_sweep : List Cond := .codeWith yL_sweep cL_sweep 4 (some .int) hhL_sweep :: lALL
set_option maxRecDepth 100000 in
theorem mcL_sweep : Cond.codeWith yL_sweep cL_sweep 4 (some .int) hhL_sweep ∈ lw0 := List.mem_of_getElem? (i := 76) rfl
set_option maxRecDepth 100000 in
theorem mlL_80 : Cond.methodLink RL 80 yX_init ∈ lw0 := List.mem_of_getElem? (i := 2) rfl
set_option maxRecDepth 100000 in
theorem mlL_119 : Cond.methodLink RL 119 yX_undominated ∈ lw0 := List.mem_of_getElem? (i := 3) rfl
set_option maxRecDepth 100000 in
theorem mlL_129 : Cond.methodLink RL 129 yX_looked ∈ lw0 := List.mem_of_getElem? (i := 4) rfl
set_option maxRecDepth 100000 in
theorem mlL_146 : Cond.methodLink RL 146 yX_lowest ∈ lw0 := List.mem_of_getElem? (i := 5) rfl
set_option maxRecDepth 100000 in
theorem mlL_156 : Cond.methodLink RL 156 yX_count ∈ lw0 := List.mem_of_getElem? (i := 6) rfl
set_option maxRecDepth 100000 in
theorem mxL_13 : Cond.classLink RL 13 "java/lang/IllegalArgumentException" ∈ lw0 := List.mem_of_getElem? (i := 13) rfl
set_option maxRecDepth 100000 in
theorem mxL_15 : Cond.classLink RL 15 "java/lang/UnsupportedOperationException" ∈ lw0 := List.mem_of_getElem? (i := 14) rfl
set_option maxRecDepth 100000 in
theorem mlL_7 : Cond.methodLink RL 7 yX_choice ∈ lw0 := List.mem_of_getElem? (i := 15) rfl
set_option maxRecDepth 100000 in
theorem mxL_21 : Cond.classLink RL 21 "java/lang/IndexOutOfBoundsException" ∈ lw0 := List.mem_of_getElem? (i := 19) rfl
set_option maxRecDepth 100000 in
theorem mlL_17 : Cond.methodLink RL 17 yX_term ∈ lw0 := List.mem_of_getElem? (i := 20) rfl
set_option maxRecDepth 100000 in
theorem mlL_23 : Cond.methodLink RL 23 yX_rule ∈ lw0 := List.mem_of_getElem? (i := 24) rfl
set_option maxRecDepth 100000 in
theorem mlL_27 : Cond.methodLink RL 27 yX_limit ∈ lw0 := List.mem_of_getElem? (i := 28) rfl
set_option maxRecDepth 100000 in
theorem mlL_31 : Cond.methodLink RL 31 yX_number ∈ lw0 := List.mem_of_getElem? (i := 32) rfl
set_option maxRecDepth 100000 in
theorem mlL_35 : Cond.methodLink RL 35 yX_value ∈ lw0 := List.mem_of_getElem? (i := 36) rfl
set_option maxRecDepth 100000 in
theorem mlL_38 : Cond.methodLink RL 38 yX_legal ∈ lw0 := List.mem_of_getElem? (i := 40) rfl
set_option maxRecDepth 100000 in
theorem mlL_42 : Cond.methodLink RL 42 yX_beats ∈ lw0 := List.mem_of_getElem? (i := 44) rfl
set_option maxRecDepth 100000 in
theorem mlL_46 : Cond.methodLink RL 46 yX_at ∈ lw0 := List.mem_of_getElem? (i := 48) rfl
set_option maxRecDepth 100000 in
theorem mlL_49 : Cond.methodLink RL 49 yX_best ∈ lw0 := List.mem_of_getElem? (i := 52) rfl
set_option maxRecDepth 100000 in
theorem mlL_52 : Cond.methodLink RL 52 yX_bound ∈ lw0 := List.mem_of_getElem? (i := 56) rfl
set_option maxRecDepth 100000 in
theorem mlL_56 : Cond.methodLink RL 56 yX_near ∈ lw0 := List.mem_of_getElem? (i := 60) rfl
set_option maxRecDepth 100000 in
theorem mlL_59 : Cond.methodLink RL 59 yX_slack ∈ lw0 := List.mem_of_getElem? (i := 64) rfl
set_option maxRecDepth 100000 in
theorem mxL_65 : Cond.classLink RL 65 "java/lang/IllegalStateException" ∈ lw0 := List.mem_of_getElem? (i := 68) rfl
set_option maxRecDepth 100000 in
theorem mlL_62 : Cond.methodLink RL 62 yX_walk ∈ lw0 := List.mem_of_getElem? (i := 69) rfl
set_option maxRecDepth 100000 in
theorem mlL_67 : Cond.methodLink RL 67 yX_matters ∈ lw0 := List.mem_of_getElem? (i := 73) rfl
set_option maxRecDepth 100000 in
theorem mlL_71 : Cond.methodLink RL 71 yX_sweep ∈ lw0 := List.mem_of_getElem? (i := 77) rfl
theorem gL_choice : GoodIn wsL_choice (wsV RL 7 RX yX_choice wsX_choice) := gVL mlL_7 miX_choice meX_choice mnX mcX_choice
theorem gL_term : GoodIn wsL_term (wsV RL 17 RX yX_term wsX_term) := gVL mlL_17 miX_term meX_term mnX mcX_term
theorem gL_rule : GoodIn wsL_rule (wsV RL 23 RX yX_rule wsX_rule) := gVL mlL_23 miX_rule meX_rule mnX mcX_rule
theorem gL_limit : GoodIn wsL_limit (wsV RL 27 RX yX_limit wsX_limit) := gVL mlL_27 miX_limit meX_limit mnX mcX_limit
theorem gL_number : GoodIn wsL_number (wsV RL 31 RX yX_number wsX_number) := gVL mlL_31 miX_number meX_number mnX mcX_number
theorem gL_value : GoodIn wsL_value (wsV RL 35 RX yX_value wsX_value) := gVL mlL_35 miX_value meX_value mnX mcX_value
theorem gL_legal : GoodIn wsL_legal (wsV RL 38 RX yX_legal wsX_legal) := gVL mlL_38 miX_legal meX_legal mnX mcX_legal
theorem gL_beats : GoodIn wsL_beats (wsV RL 42 RX yX_beats wsX_beats) := gVL mlL_42 miX_beats meX_beats mnX mcX_beats
theorem gL_at : GoodIn wsL_at (wsV RL 46 RX yX_at wsX_at) := gVL mlL_46 miX_at meX_at mnX mcX_at
theorem gL_best : GoodIn wsL_best (wsV RL 49 RX yX_best wsX_best) := gVL mlL_49 miX_best meX_best mnX mcX_best
theorem gL_bound : GoodIn wsL_bound (wsV RL 52 RX yX_bound wsX_bound) := gVL mlL_52 miX_bound meX_bound mnX mcX_bound
theorem gL_near : GoodIn wsL_near (wsV RL 56 RX yX_near wsX_near) := gVL mlL_56 miX_near meX_near mnX mcX_near
theorem gL_slack : GoodIn wsL_slack (wsV RL 59 RX yX_slack wsX_slack) := gVL mlL_59 miX_slack meX_slack mnX mcX_slack
theorem gL_walk : GoodIn wsL_walk (wsV RL 62 RX yX_walk wsX_walk) := gVL mlL_62 miX_walk meX_walk mnX mcX_walk
theorem gL_matters : GoodIn wsL_matters (wsV RL 67 RX yX_matters wsX_matters) := gVL mlL_67 miX_matters meX_matters mnX mcX_matters
theorem gL_sweep : GoodIn wsL_sweep (wsV RL 71 RX yX_sweep wsX_sweep) := gVL mlL_71 miX_sweep meX_sweep mnX mcX_sweep
