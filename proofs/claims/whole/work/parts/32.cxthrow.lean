def sALL : List Cond := [(Jvm.Cond.stringRef "DesignSpaces" (60 : Nat) "a choice has 2 to 6 values"), (Jvm.Cond.stringRef "DesignSpaces" (71 : Nat) "too many choices or designs"), (Jvm.Cond.stringRef "DesignSpaces" (100 : Nat) "no such number, choice or value"), (Jvm.Cond.stringRef "DesignSpaces" (105 : Nat) "one choice twice, or no weight"), (Jvm.Cond.stringRef "DesignSpaces" (110 : Nat) "there are 100 terms"), (Jvm.Cond.stringRef "DesignSpaces" (116 : Nat) "no such choice or value"), (Jvm.Cond.stringRef "DesignSpaces" (118 : Nat) "one choice twice"), (Jvm.Cond.stringRef "DesignSpaces" (123 : Nat) "there are forty rules"), (Jvm.Cond.stringRef "DesignSpaces" (129 : Nat) "no such number"), (Jvm.Cond.stringRef "DesignSpaces" (142 : Nat) "no such design or number"), (Jvm.Cond.stringRef "DesignSpaces" (151 : Nat) "no such design or choice"), (Jvm.Cond.stringRef "DesignSpaces" (156 : Nat) "no such design"), (Jvm.Cond.stringRef "DesignSpaces" (161 : Nat) "no such designs"), (Jvm.Cond.stringRef "DesignSpaces" (163 : Nat) "a design is not legal"), (Jvm.Cond.stringRef "DesignSpaces" (174 : Nat) "no such undominated design"), (Jvm.Cond.stringRef "DesignSpaces" (186 : Nat) "no such number, design or choices"), (Jvm.Cond.stringRef "DesignSpaces" (196 : Nat) "no such design or near one"), (Jvm.Cond.stringRef "DesignSpaces" (201 : Nat) "slack below 0"), (Jvm.Cond.stringRef "DesignSpaces" (206 : Nat) "not legal, or not 1 to 1000 steps"), (Jvm.Cond.stringRef "DesignSpaces" (210 : Nat) "no choices"), (Jvm.Cond.stringRef "DesignSpaces" (219 : Nat) "no such choice or number"), (Jvm.Cond.stringRef "DesignSpaces" (225 : Nat) "not 1 to 5000 designs"), (Jvm.Cond.stringRef "DesignSpaces" (231 : Nat) "the sweep is at its end")]
abbrev strsX_60 : String := "a choice has 2 to 6 values"
theorem mrX_60 : Cond.stringRef RX 60 strsX_60 ∈ sALL := List.mem_of_getElem? (i := 0) rfl
abbrev strsX_71 : String := "too many choices or designs"
theorem mrX_71 : Cond.stringRef RX 71 strsX_71 ∈ sALL := List.mem_of_getElem? (i := 1) rfl
abbrev strsX_100 : String := "no such number, choice or value"
theorem mrX_100 : Cond.stringRef RX 100 strsX_100 ∈ sALL := List.mem_of_getElem? (i := 2) rfl
abbrev strsX_105 : String := "one choice twice, or no weight"
theorem mrX_105 : Cond.stringRef RX 105 strsX_105 ∈ sALL := List.mem_of_getElem? (i := 3) rfl
abbrev strsX_110 : String := "there are 100 terms"
theorem mrX_110 : Cond.stringRef RX 110 strsX_110 ∈ sALL := List.mem_of_getElem? (i := 4) rfl
abbrev strsX_116 : String := "no such choice or value"
theorem mrX_116 : Cond.stringRef RX 116 strsX_116 ∈ sALL := List.mem_of_getElem? (i := 5) rfl
abbrev strsX_118 : String := "one choice twice"
theorem mrX_118 : Cond.stringRef RX 118 strsX_118 ∈ sALL := List.mem_of_getElem? (i := 6) rfl
abbrev strsX_123 : String := "there are forty rules"
theorem mrX_123 : Cond.stringRef RX 123 strsX_123 ∈ sALL := List.mem_of_getElem? (i := 7) rfl
abbrev strsX_129 : String := "no such number"
theorem mrX_129 : Cond.stringRef RX 129 strsX_129 ∈ sALL := List.mem_of_getElem? (i := 8) rfl
abbrev strsX_142 : String := "no such design or number"
theorem mrX_142 : Cond.stringRef RX 142 strsX_142 ∈ sALL := List.mem_of_getElem? (i := 9) rfl
abbrev strsX_151 : String := "no such design or choice"
theorem mrX_151 : Cond.stringRef RX 151 strsX_151 ∈ sALL := List.mem_of_getElem? (i := 10) rfl
abbrev strsX_156 : String := "no such design"
theorem mrX_156 : Cond.stringRef RX 156 strsX_156 ∈ sALL := List.mem_of_getElem? (i := 11) rfl
abbrev strsX_161 : String := "no such designs"
theorem mrX_161 : Cond.stringRef RX 161 strsX_161 ∈ sALL := List.mem_of_getElem? (i := 12) rfl
abbrev strsX_163 : String := "a design is not legal"
theorem mrX_163 : Cond.stringRef RX 163 strsX_163 ∈ sALL := List.mem_of_getElem? (i := 13) rfl
abbrev strsX_174 : String := "no such undominated design"
theorem mrX_174 : Cond.stringRef RX 174 strsX_174 ∈ sALL := List.mem_of_getElem? (i := 14) rfl
abbrev strsX_186 : String := "no such number, design or choices"
theorem mrX_186 : Cond.stringRef RX 186 strsX_186 ∈ sALL := List.mem_of_getElem? (i := 15) rfl
abbrev strsX_196 : String := "no such design or near one"
theorem mrX_196 : Cond.stringRef RX 196 strsX_196 ∈ sALL := List.mem_of_getElem? (i := 16) rfl
abbrev strsX_201 : String := "slack below 0"
theorem mrX_201 : Cond.stringRef RX 201 strsX_201 ∈ sALL := List.mem_of_getElem? (i := 17) rfl
abbrev strsX_206 : String := "not legal, or not 1 to 1000 steps"
theorem mrX_206 : Cond.stringRef RX 206 strsX_206 ∈ sALL := List.mem_of_getElem? (i := 18) rfl
abbrev strsX_210 : String := "no choices"
theorem mrX_210 : Cond.stringRef RX 210 strsX_210 ∈ sALL := List.mem_of_getElem? (i := 19) rfl
abbrev strsX_219 : String := "no such choice or number"
theorem mrX_219 : Cond.stringRef RX 219 strsX_219 ∈ sALL := List.mem_of_getElem? (i := 20) rfl
abbrev strsX_225 : String := "not 1 to 5000 designs"
theorem mrX_225 : Cond.stringRef RX 225 strsX_225 ∈ sALL := List.mem_of_getElem? (i := 21) rfl
abbrev strsX_231 : String := "the sweep is at its end"
theorem mrX_231 : Cond.stringRef RX 231 strsX_231 ∈ sALL := List.mem_of_getElem? (i := 22) rfl
set_option maxRecDepth 100000 in
theorem xo_2 : ∀ w ∈ Bundle.ownAtoms RX 62 "java/lang/IllegalArgumentException" xup, w ∈ cALL ∨ w ∈ xws ∨ w = Cond.castable "java/lang/IllegalArgumentException" "java/lang/IllegalArgumentException" := by decide +kernel
set_option maxRecDepth 100000 in
theorem xo_3 : ∀ w ∈ Bundle.ownAtoms RX 73 "java/lang/UnsupportedOperationException" xup, w ∈ cALL ∨ w ∈ xws ∨ w = Cond.castable "java/lang/UnsupportedOperationException" "java/lang/UnsupportedOperationException" := by decide +kernel
set_option maxRecDepth 100000 in
theorem xo_1 : ∀ w ∈ Bundle.ownAtoms RX 102 "java/lang/IndexOutOfBoundsException" xup, w ∈ cALL ∨ w ∈ xws ∨ w = Cond.castable "java/lang/IndexOutOfBoundsException" "java/lang/IndexOutOfBoundsException" := by decide +kernel
set_option maxRecDepth 100000 in
theorem xo_4 : ∀ w ∈ Bundle.ownAtoms RX 212 "java/lang/IllegalStateException" xup, w ∈ cALL ∨ w ∈ xws ∨ w = Cond.castable "java/lang/IllegalStateException" "java/lang/IllegalStateException" := by decide +kernel
theorem xo_use {cw : Cond} {own E : String} {i3 : Nat} {args : Array Value} {s : State} (h : ∀ w ∈ Bundle.ownAtoms own i3 E xup, w ∈ cALL ∨ w ∈ xws ∨ w = Cond.castable E E) (hts : ∀ w ∈ cw :: cALL, w.before args s = true) : ∀ w ∈ Bundle.ownAtoms own i3 E xup, (((w.onTables && w.keeps) = true ∨ ∃ ty, w = Cond.arrayClass ty) ∧ w.before args s = true) ∨ w ∈ xws ∨ w = Cond.castable E E :=
  fun w hw => (h w hw).imp (fun h9 => ⟨cALL_good w h9, hts w (List.mem_cons_of_mem _ h9)⟩) id
