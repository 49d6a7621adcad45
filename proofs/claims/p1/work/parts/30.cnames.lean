def RSh : String := "DesignSpaces$Shape"
def TSh : u_T := fun k => match k with
  | 0 => ("DesignSpaces$Shape", "sizes", "[I", true)
  | 1 => ("DesignSpaces$Shape", "places", "[I", true)
  | 2 => ("DesignSpaces$Shape", "choices", "I", false)
  | _ => ("DesignSpaces$Shape", "designs", "I", false)
def tySh : Nat → FieldType := fun k => match k with
  | 0 => .array .int
  | 1 => .array .int
  | 2 => .int
  | _ => .int
abbrev wsSh0 : List Cond := u_ws RSh TSh 4
theorem nmSh : ∀ a, a < 4 → ∀ b, b < 4 → a ≠ b → (TSh a).2.1 ≠ (TSh b).2.1 := by decide +kernel
theorem tySh_ok : ∀ k, k < 4 → parseFieldDescriptor (TSh k).2.2.1 = some (tySh k) := by decide +kernel
def RSw : String := "DesignSpaces$Sweeper"
def TSw : u_T := fun k => match k with
  | 0 => ("DesignSpaces$Sweeper", "shape", "LDesignSpaces$Shape;", true)
  | 1 => ("DesignSpaces$Sweeper", "book", "LDesignSpaces$Book;", true)
  | 2 => ("DesignSpaces$Sweeper", "next", "I", false)
  | _ => ("DesignSpaces$Sweeper", "allowed", "I", false)
def tySw : Nat → FieldType := fun k => match k with
  | 0 => .object "DesignSpaces$Shape"
  | 1 => .object "DesignSpaces$Book"
  | 2 => .int
  | _ => .int
abbrev wsSw0 : List Cond := u_ws RSw TSw 4
theorem nmSw : ∀ a, a < 4 → ∀ b, b < 4 → a ≠ b → (TSw a).2.1 ≠ (TSw b).2.1 := by decide +kernel
theorem tySw_ok : ∀ k, k < 4 → parseFieldDescriptor (TSw k).2.2.1 = some (tySw k) := by decide +kernel
def cALL : List Cond := [(Jvm.Cond.initialized "DesignSpaces$Shape"), (Jvm.Cond.initialized "DesignSpaces$Sweeper"), (Jvm.Cond.instanceMethod ({ cls := "java/lang/Object", name := "<init>", desc := "()V" } : Jvm.MethodName)), (Jvm.Cond.code ({ cls := "java/lang/Object", name := "<init>", desc := "()V" } : Jvm.MethodName) object_method_1_code (1 : Nat) (Option.none : Option Jvm.ClassFile.FieldType)), (Jvm.Cond.instantiable "DesignSpaces$Shape" (4 : Nat)), (Jvm.Cond.instanceMethod ({ cls := "DesignSpaces$Shape", name := "<init>", desc := "()V" } : Jvm.MethodName)), (Jvm.Cond.code ({ cls := "DesignSpaces$Shape", name := "<init>", desc := "()V" } : Jvm.MethodName) prog_7_method_1_code (1 : Nat) (Option.none : Option Jvm.ClassFile.FieldType)), (Jvm.Cond.methodLink "DesignSpaces$Shape" (3 : Nat) ({ cls := "java/lang/Object", name := "<init>", desc := "()V" } : Jvm.MethodName)), (Jvm.Cond.fieldLink "DesignSpaces$Shape" (9 : Nat) "DesignSpaces$Shape" "sizes" "[I"), (Jvm.Cond.fieldLink "DesignSpaces$Shape" (15 : Nat) "DesignSpaces$Shape" "places" "[I"), (Jvm.Cond.fieldLink "DesignSpaces$Shape" (18 : Nat) "DesignSpaces$Shape" "choices" "I"), (Jvm.Cond.fieldLink "DesignSpaces$Shape" (22 : Nat) "DesignSpaces$Shape" "designs" "I"), (Jvm.Cond.fieldLink "DesignSpaces$Sweeper" (24 : Nat) "DesignSpaces$Shape" "designs" "I"), (Jvm.Cond.laysFinal "DesignSpaces$Shape" "DesignSpaces$Shape" "sizes" "[I"), (Jvm.Cond.laysFinal "DesignSpaces$Shape" "DesignSpaces$Shape" "places" "[I"), (Jvm.Cond.lays "DesignSpaces$Shape" "DesignSpaces$Shape" "choices" "I"), (Jvm.Cond.lays "DesignSpaces$Shape" "DesignSpaces$Shape" "designs" "I"), (Jvm.Cond.arrayClass Jvm.ClassFile.FieldType.int), (Jvm.Cond.arrayClass Jvm.ClassFile.FieldType.boolean), (Jvm.Cond.instantiable "DesignSpaces$Sweeper" (4 : Nat)), (Jvm.Cond.instanceMethod ({ cls := "DesignSpaces$Sweeper", name := "<init>", desc := "(LDesignSpaces$Shape;LDesignSpaces$Book;)V" } : Jvm.MethodName)), (Jvm.Cond.code ({ cls := "DesignSpaces$Sweeper", name := "<init>", desc := "(LDesignSpaces$Shape;LDesignSpaces$Book;)V" } : Jvm.MethodName) prog_8_method_1_code (3 : Nat) (Option.none : Option Jvm.ClassFile.FieldType)), (Jvm.Cond.methodLink "DesignSpaces$Sweeper" (1 : Nat) ({ cls := "java/lang/Object", name := "<init>", desc := "()V" } : Jvm.MethodName)), (Jvm.Cond.fieldLink "DesignSpaces$Sweeper" (16 : Nat) "DesignSpaces$Sweeper" "shape" "LDesignSpaces$Shape;"), (Jvm.Cond.fieldLink "DesignSpaces$Sweeper" (20 : Nat) "DesignSpaces$Sweeper" "book" "LDesignSpaces$Book;"), (Jvm.Cond.fieldLink "DesignSpaces$Sweeper" (7 : Nat) "DesignSpaces$Sweeper" "next" "I"), (Jvm.Cond.fieldLink "DesignSpaces$Sweeper" (13 : Nat) "DesignSpaces$Sweeper" "allowed" "I"), (Jvm.Cond.laysFinal "DesignSpaces$Sweeper" "DesignSpaces$Sweeper" "shape" "LDesignSpaces$Shape;"), (Jvm.Cond.laysFinal "DesignSpaces$Sweeper" "DesignSpaces$Sweeper" "book" "LDesignSpaces$Book;"), (Jvm.Cond.lays "DesignSpaces$Sweeper" "DesignSpaces$Sweeper" "next" "I"), (Jvm.Cond.lays "DesignSpaces$Sweeper" "DesignSpaces$Sweeper" "allowed" "I"), (Jvm.Cond.instanceMethod ({ cls := "DesignSpaces$Sweeper", name := "isAtEnd", desc := "()Z" } : Jvm.MethodName)), (Jvm.Cond.selects "DesignSpaces$Sweeper" ({ cls := "DesignSpaces$Sweeper", name := "isAtEnd", desc := "()Z" } : Jvm.MethodName) ({ cls := "DesignSpaces$Sweeper", name := "isAtEnd", desc := "()Z" } : Jvm.MethodName)), (Jvm.Cond.code ({ cls := "DesignSpaces$Sweeper", name := "isAtEnd", desc := "()Z" } : Jvm.MethodName) prog_8_method_3_code (1 : Nat) (Option.some Jvm.ClassFile.FieldType.boolean)), (Jvm.Cond.instanceMethod ({ cls := "DesignSpaces$Shape", name := "hasRoomFor", desc := "(I)Z" } : Jvm.MethodName)), (Jvm.Cond.selects "DesignSpaces$Shape" ({ cls := "DesignSpaces$Shape", name := "hasRoomFor", desc := "(I)Z" } : Jvm.MethodName) ({ cls := "DesignSpaces$Shape", name := "hasRoomFor", desc := "(I)Z" } : Jvm.MethodName)), (Jvm.Cond.code ({ cls := "DesignSpaces$Shape", name := "hasRoomFor", desc := "(I)Z" } : Jvm.MethodName) prog_7_method_2_code (2 : Nat) (Option.some Jvm.ClassFile.FieldType.boolean)), (Jvm.Cond.instanceMethod ({ cls := "DesignSpaces$Shape", name := "addChoice", desc := "(I)V" } : Jvm.MethodName)), (Jvm.Cond.selects "DesignSpaces$Shape" ({ cls := "DesignSpaces$Shape", name := "addChoice", desc := "(I)V" } : Jvm.MethodName) ({ cls := "DesignSpaces$Shape", name := "addChoice", desc := "(I)V" } : Jvm.MethodName)), (Jvm.Cond.code ({ cls := "DesignSpaces$Shape", name := "addChoice", desc := "(I)V" } : Jvm.MethodName) prog_7_method_3_code (3 : Nat) (Option.none : Option Jvm.ClassFile.FieldType)), (Jvm.Cond.instanceMethod ({ cls := "DesignSpaces$Sweeper", name := "beginAnew", desc := "()V" } : Jvm.MethodName)), (Jvm.Cond.selects "DesignSpaces$Sweeper" ({ cls := "DesignSpaces$Sweeper", name := "beginAnew", desc := "()V" } : Jvm.MethodName) ({ cls := "DesignSpaces$Sweeper", name := "beginAnew", desc := "()V" } : Jvm.MethodName)), (Jvm.Cond.code ({ cls := "DesignSpaces$Sweeper", name := "beginAnew", desc := "()V" } : Jvm.MethodName) prog_8_method_2_code (1 : Nat) (Option.none : Option Jvm.ClassFile.FieldType)), (Jvm.Cond.instanceMethod ({ cls := "DesignSpaces$Shape", name := "hasValue", desc := "(II)Z" } : Jvm.MethodName)), (Jvm.Cond.selects "DesignSpaces$Shape" ({ cls := "DesignSpaces$Shape", name := "hasValue", desc := "(II)Z" } : Jvm.MethodName) ({ cls := "DesignSpaces$Shape", name := "hasValue", desc := "(II)Z" } : Jvm.MethodName)), (Jvm.Cond.code ({ cls := "DesignSpaces$Shape", name := "hasValue", desc := "(II)Z" } : Jvm.MethodName) prog_7_method_6_code (3 : Nat) (Option.some Jvm.ClassFile.FieldType.boolean)), (Jvm.Cond.methodLink "DesignSpaces$Shape" (25 : Nat) ({ cls := "DesignSpaces$Shape", name := "hasChoice", desc := "(I)Z" } : Jvm.MethodName)), (Jvm.Cond.instanceMethod ({ cls := "DesignSpaces$Shape", name := "hasChoice", desc := "(I)Z" } : Jvm.MethodName)), (Jvm.Cond.selects "DesignSpaces$Shape" ({ cls := "DesignSpaces$Shape", name := "hasChoice", desc := "(I)Z" } : Jvm.MethodName) ({ cls := "DesignSpaces$Shape", name := "hasChoice", desc := "(I)Z" } : Jvm.MethodName)), (Jvm.Cond.code ({ cls := "DesignSpaces$Shape", name := "hasChoice", desc := "(I)Z" } : Jvm.MethodName) prog_7_method_5_code (2 : Nat) (Option.some Jvm.ClassFile.FieldType.boolean)), (Jvm.Cond.instanceMethod ({ cls := "DesignSpaces$Shape", name := "digit", desc := "(II)I" } : Jvm.MethodName)), (Jvm.Cond.selects "DesignSpaces$Shape" ({ cls := "DesignSpaces$Shape", name := "digit", desc := "(II)I" } : Jvm.MethodName) ({ cls := "DesignSpaces$Shape", name := "digit", desc := "(II)I" } : Jvm.MethodName)), (Jvm.Cond.code ({ cls := "DesignSpaces$Shape", name := "digit", desc := "(II)I" } : Jvm.MethodName) prog_7_method_7_code (5 : Nat) (Option.some Jvm.ClassFile.FieldType.int)), (Jvm.Cond.instanceMethod ({ cls := "DesignSpaces$Shape", name := "hasDesign", desc := "(I)Z" } : Jvm.MethodName)), (Jvm.Cond.selects "DesignSpaces$Shape" ({ cls := "DesignSpaces$Shape", name := "hasDesign", desc := "(I)Z" } : Jvm.MethodName) ({ cls := "DesignSpaces$Shape", name := "hasDesign", desc := "(I)Z" } : Jvm.MethodName)), (Jvm.Cond.code ({ cls := "DesignSpaces$Shape", name := "hasDesign", desc := "(I)Z" } : Jvm.MethodName) prog_7_method_4_code (2 : Nat) (Option.some Jvm.ClassFile.FieldType.boolean)), (Jvm.Cond.instanceMethod ({ cls := "DesignSpaces$Shape", name := "designOf", desc := "([I)I" } : Jvm.MethodName)), (Jvm.Cond.selects "DesignSpaces$Shape" ({ cls := "DesignSpaces$Shape", name := "designOf", desc := "([I)I" } : Jvm.MethodName) ({ cls := "DesignSpaces$Shape", name := "designOf", desc := "([I)I" } : Jvm.MethodName)), (Jvm.Cond.code ({ cls := "DesignSpaces$Shape", name := "designOf", desc := "([I)I" } : Jvm.MethodName) prog_7_method_8_code (4 : Nat) (Option.some Jvm.ClassFile.FieldType.int)), (Jvm.Cond.instanceMethod ({ cls := "DesignSpaces$Shape", name := "neighbours", desc := "()I" } : Jvm.MethodName)), (Jvm.Cond.selects "DesignSpaces$Shape" ({ cls := "DesignSpaces$Shape", name := "neighbours", desc := "()I" } : Jvm.MethodName) ({ cls := "DesignSpaces$Shape", name := "neighbours", desc := "()I" } : Jvm.MethodName)), (Jvm.Cond.code ({ cls := "DesignSpaces$Shape", name := "neighbours", desc := "()I" } : Jvm.MethodName) prog_7_method_9_code (3 : Nat) (Option.some Jvm.ClassFile.FieldType.int)), (Jvm.Cond.instanceMethod ({ cls := "DesignSpaces$Shape", name := "neighbour", desc := "(II)I" } : Jvm.MethodName)), (Jvm.Cond.selects "DesignSpaces$Shape" ({ cls := "DesignSpaces$Shape", name := "neighbour", desc := "(II)I" } : Jvm.MethodName) ({ cls := "DesignSpaces$Shape", name := "neighbour", desc := "(II)I" } : Jvm.MethodName)), (Jvm.Cond.code ({ cls := "DesignSpaces$Shape", name := "neighbour", desc := "(II)I" } : Jvm.MethodName) prog_7_method_10_code (8 : Nat) (Option.some Jvm.ClassFile.FieldType.int)), (Jvm.Cond.methodLink "DesignSpaces$Shape" (29 : Nat) ({ cls := "DesignSpaces$Shape", name := "digit", desc := "(II)I" } : Jvm.MethodName)), (Jvm.Cond.static ({ cls := "java/lang/Math", name := "min", desc := "(JJ)J" } : Jvm.MethodName)), (Jvm.Cond.code ({ cls := "java/lang/Math", name := "min", desc := "(JJ)J" } : Jvm.MethodName) prog_17_method_70_code (4 : Nat) (Option.some Jvm.ClassFile.FieldType.long)), (Jvm.Cond.static ({ cls := "java/lang/Math", name := "max", desc := "(JJ)J" } : Jvm.MethodName)), (Jvm.Cond.code ({ cls := "java/lang/Math", name := "max", desc := "(JJ)J" } : Jvm.MethodName) prog_17_method_66_code (4 : Nat) (Option.some Jvm.ClassFile.FieldType.long)), (Jvm.Cond.instanceMethod ({ cls := "DesignSpaces$Sweeper", name := "goOn", desc := "(I)I" } : Jvm.MethodName)), (Jvm.Cond.selects "DesignSpaces$Sweeper" ({ cls := "DesignSpaces$Sweeper", name := "goOn", desc := "(I)I" } : Jvm.MethodName) ({ cls := "DesignSpaces$Sweeper", name := "goOn", desc := "(I)I" } : Jvm.MethodName)), (Jvm.Cond.code ({ cls := "DesignSpaces$Sweeper", name := "goOn", desc := "(I)I" } : Jvm.MethodName) prog_8_method_4_code (5 : Nat) (Option.some Jvm.ClassFile.FieldType.int)), (Jvm.Cond.methodLink "DesignSpaces$Sweeper" (29 : Nat) ({ cls := "java/lang/Math", name := "min", desc := "(II)I" } : Jvm.MethodName)), (Jvm.Cond.static ({ cls := "java/lang/Math", name := "min", desc := "(II)I" } : Jvm.MethodName)), (Jvm.Cond.code ({ cls := "java/lang/Math", name := "min", desc := "(II)I" } : Jvm.MethodName) prog_17_method_69_code (2 : Nat) (Option.some Jvm.ClassFile.FieldType.int)), (Jvm.Cond.methodLink "DesignSpaces$Sweeper" (35 : Nat) ({ cls := "DesignSpaces$Book", name := "allows", desc := "(I)Z" } : Jvm.MethodName)), (Jvm.Cond.arrayClass Jvm.ClassFile.FieldType.long)]
set_option maxRecDepth 100000 in
theorem cALL_good : ∀ w ∈ cALL, ((w.onTables && w.keeps) = true ∨ ∃ ty, w = Cond.arrayClass ty) := fun w hw => good_of_word (List.all_eq_true.mp (show cALL.all goodWord = true by decide +kernel) w hw)
set_option maxRecDepth 100000 in
theorem inSh_all : ∀ w ∈ wsSh0, w ∈ cALL := by decide +kernel
set_option maxRecDepth 100000 in
theorem inSw_all : ∀ w ∈ wsSw0, w ∈ cALL := by decide +kernel
abbrev cSh_init : ByteArray := prog_7_method_1_code
def ySh_init : MethodName := ⟨RSh, "<init>", "()V"⟩
def wsSh_init : List Cond := .code ySh_init cSh_init 1 (Option.none : Option Jvm.ClassFile.FieldType) :: cALL
theorem mcSh_init : Cond.code ySh_init cSh_init 1 (Option.none : Option Jvm.ClassFile.FieldType) ∈ cALL := List.mem_of_getElem? (i := 6) rfl
abbrev cSh_hasRoomFor : ByteArray := prog_7_method_2_code
def ySh_hasRoomFor : MethodName := ⟨RSh, "hasRoomFor", "(I)Z"⟩
def wsSh_hasRoomFor : List Cond := .code ySh_hasRoomFor cSh_hasRoomFor 2 (Option.some Jvm.ClassFile.FieldType.boolean) :: cALL
theorem mcSh_hasRoomFor : Cond.code ySh_hasRoomFor cSh_hasRoomFor 2 (Option.some Jvm.ClassFile.FieldType.boolean) ∈ cALL := List.mem_of_getElem? (i := 36) rfl
abbrev cSh_addChoice : ByteArray := prog_7_method_3_code
def ySh_addChoice : MethodName := ⟨RSh, "addChoice", "(I)V"⟩
def wsSh_addChoice : List Cond := .code ySh_addChoice cSh_addChoice 3 (Option.none : Option Jvm.ClassFile.FieldType) :: cALL
theorem mcSh_addChoice : Cond.code ySh_addChoice cSh_addChoice 3 (Option.none : Option Jvm.ClassFile.FieldType) ∈ cALL := List.mem_of_getElem? (i := 39) rfl
abbrev cSh_hasDesign : ByteArray := prog_7_method_4_code
def ySh_hasDesign : MethodName := ⟨RSh, "hasDesign", "(I)Z"⟩
def wsSh_hasDesign : List Cond := .code ySh_hasDesign cSh_hasDesign 2 (Option.some Jvm.ClassFile.FieldType.boolean) :: cALL
theorem mcSh_hasDesign : Cond.code ySh_hasDesign cSh_hasDesign 2 (Option.some Jvm.ClassFile.FieldType.boolean) ∈ cALL := List.mem_of_getElem? (i := 55) rfl
abbrev cSh_hasChoice : ByteArray := prog_7_method_5_code
def ySh_hasChoice : MethodName := ⟨RSh, "hasChoice", "(I)Z"⟩
def wsSh_hasChoice : List Cond := .code ySh_hasChoice cSh_hasChoice 2 (Option.some Jvm.ClassFile.FieldType.boolean) :: cALL
theorem mcSh_hasChoice : Cond.code ySh_hasChoice cSh_hasChoice 2 (Option.some Jvm.ClassFile.FieldType.boolean) ∈ cALL := List.mem_of_getElem? (i := 49) rfl
abbrev cSh_hasValue : ByteArray := prog_7_method_6_code
def ySh_hasValue : MethodName := ⟨RSh, "hasValue", "(II)Z"⟩
def wsSh_hasValue : List Cond := .code ySh_hasValue cSh_hasValue 3 (Option.some Jvm.ClassFile.FieldType.boolean) :: cALL
theorem mcSh_hasValue : Cond.code ySh_hasValue cSh_hasValue 3 (Option.some Jvm.ClassFile.FieldType.boolean) ∈ cALL := List.mem_of_getElem? (i := 45) rfl
abbrev cSh_digit : ByteArray := prog_7_method_7_code
def ySh_digit : MethodName := ⟨RSh, "digit", "(II)I"⟩
def wsSh_digit : List Cond := .code ySh_digit cSh_digit 5 (Option.some Jvm.ClassFile.FieldType.int) :: cALL
theorem mcSh_digit : Cond.code ySh_digit cSh_digit 5 (Option.some Jvm.ClassFile.FieldType.int) ∈ cALL := List.mem_of_getElem? (i := 52) rfl
abbrev cSh_designOf : ByteArray := prog_7_method_8_code
def ySh_designOf : MethodName := ⟨RSh, "designOf", "([I)I"⟩
def wsSh_designOf : List Cond := .code ySh_designOf cSh_designOf 4 (Option.some Jvm.ClassFile.FieldType.int) :: cALL
theorem mcSh_designOf : Cond.code ySh_designOf cSh_designOf 4 (Option.some Jvm.ClassFile.FieldType.int) ∈ cALL := List.mem_of_getElem? (i := 58) rfl
abbrev cSh_neighbours : ByteArray := prog_7_method_9_code
def ySh_neighbours : MethodName := ⟨RSh, "neighbours", "()I"⟩
def wsSh_neighbours : List Cond := .code ySh_neighbours cSh_neighbours 3 (Option.some Jvm.ClassFile.FieldType.int) :: cALL
theorem mcSh_neighbours : Cond.code ySh_neighbours cSh_neighbours 3 (Option.some Jvm.ClassFile.FieldType.int) ∈ cALL := List.mem_of_getElem? (i := 61) rfl
abbrev cSh_neighbour : ByteArray := prog_7_method_10_code
def ySh_neighbour : MethodName := ⟨RSh, "neighbour", "(II)I"⟩
def wsSh_neighbour : List Cond := .code ySh_neighbour cSh_neighbour 8 (Option.some Jvm.ClassFile.FieldType.int) :: cALL
theorem mcSh_neighbour : Cond.code ySh_neighbour cSh_neighbour 8 (Option.some Jvm.ClassFile.FieldType.int) ∈ cALL := List.mem_of_getElem? (i := 64) rfl
abbrev cSw_init : ByteArray := prog_8_method_1_code
def ySw_init : MethodName := ⟨RSw, "<init>", "(LDesignSpaces$Shape;LDesignSpaces$Book;)V"⟩
def wsSw_init : List Cond := .code ySw_init cSw_init 3 (Option.none : Option Jvm.ClassFile.FieldType) :: cALL
theorem mcSw_init : Cond.code ySw_init cSw_init 3 (Option.none : Option Jvm.ClassFile.FieldType) ∈ cALL := List.mem_of_getElem? (i := 21) rfl
abbrev cSw_beginAnew : ByteArray := prog_8_method_2_code
def ySw_beginAnew : MethodName := ⟨RSw, "beginAnew", "()V"⟩
def wsSw_beginAnew : List Cond := .code ySw_beginAnew cSw_beginAnew 1 (Option.none : Option Jvm.ClassFile.FieldType) :: cALL
theorem mcSw_beginAnew : Cond.code ySw_beginAnew cSw_beginAnew 1 (Option.none : Option Jvm.ClassFile.FieldType) ∈ cALL := List.mem_of_getElem? (i := 42) rfl
abbrev cSw_isAtEnd : ByteArray := prog_8_method_3_code
def ySw_isAtEnd : MethodName := ⟨RSw, "isAtEnd", "()Z"⟩
def wsSw_isAtEnd : List Cond := .code ySw_isAtEnd cSw_isAtEnd 1 (Option.some Jvm.ClassFile.FieldType.boolean) :: cALL
theorem mcSw_isAtEnd : Cond.code ySw_isAtEnd cSw_isAtEnd 1 (Option.some Jvm.ClassFile.FieldType.boolean) ∈ cALL := List.mem_of_getElem? (i := 33) rfl
abbrev cSw_goOn : ByteArray := prog_8_method_4_code
def ySw_goOn : MethodName := ⟨RSw, "goOn", "(I)I"⟩
def wsSw_goOn : List Cond := .code ySw_goOn cSw_goOn 5 (Option.some Jvm.ClassFile.FieldType.int) :: cALL
theorem mcSw_goOn : Cond.code ySw_goOn cSw_goOn 5 (Option.some Jvm.ClassFile.FieldType.int) ∈ cALL := List.mem_of_getElem? (i := 72) rfl
set_option maxRecDepth 100000 in
theorem mnSh : Cond.initialized RSh ∈ cALL := List.mem_of_getElem? (i := 0) rfl
set_option maxRecDepth 100000 in
theorem mnSw : Cond.initialized RSw ∈ cALL := List.mem_of_getElem? (i := 1) rfl
set_option maxRecDepth 100000 in
theorem miO_cALL : Cond.instanceMethod objectInit ∈ cALL := List.mem_of_getElem? (i := 2) rfl
set_option maxRecDepth 100000 in
theorem mcO_cALL : Cond.code objectInit ⟨#[0xb1]⟩ 1 none ∈ cALL := List.mem_of_getElem? (i := 3) rfl
set_option maxRecDepth 100000 in
theorem mtSh : Cond.instantiable RSh 4 ∈ cALL := List.mem_of_getElem? (i := 4) rfl
set_option maxRecDepth 100000 in
theorem miSh_init : Cond.instanceMethod ySh_init ∈ cALL := List.mem_of_getElem? (i := 5) rfl
set_option maxRecDepth 100000 in
theorem mlSh_3 : Cond.methodLink RSh 3 objectInit ∈ cALL := List.mem_of_getElem? (i := 7) rfl
set_option maxRecDepth 100000 in
theorem mfSh_9 : Cond.fieldLink RSh 9 "DesignSpaces$Shape" "sizes" "[I" ∈ cALL := List.mem_of_getElem? (i := 8) rfl
set_option maxRecDepth 100000 in
theorem mfSh_15 : Cond.fieldLink RSh 15 "DesignSpaces$Shape" "places" "[I" ∈ cALL := List.mem_of_getElem? (i := 9) rfl
set_option maxRecDepth 100000 in
theorem mfSh_18 : Cond.fieldLink RSh 18 "DesignSpaces$Shape" "choices" "I" ∈ cALL := List.mem_of_getElem? (i := 10) rfl
set_option maxRecDepth 100000 in
theorem mfSh_22 : Cond.fieldLink RSh 22 "DesignSpaces$Shape" "designs" "I" ∈ cALL := List.mem_of_getElem? (i := 11) rfl
set_option maxRecDepth 100000 in
theorem mfSw_24 : Cond.fieldLink RSw 24 "DesignSpaces$Shape" "designs" "I" ∈ cALL := List.mem_of_getElem? (i := 12) rfl
set_option maxRecDepth 100000 in
theorem ma_cALL_int : Cond.arrayClass .int ∈ cALL := List.mem_of_getElem? (i := 17) rfl
set_option maxRecDepth 100000 in
theorem ma_cALL_boolean : Cond.arrayClass .boolean ∈ cALL := List.mem_of_getElem? (i := 18) rfl
set_option maxRecDepth 100000 in
theorem mtSw : Cond.instantiable RSw 4 ∈ cALL := List.mem_of_getElem? (i := 19) rfl
set_option maxRecDepth 100000 in
theorem miSw_init : Cond.instanceMethod ySw_init ∈ cALL := List.mem_of_getElem? (i := 20) rfl
set_option maxRecDepth 100000 in
theorem mlSw_1 : Cond.methodLink RSw 1 objectInit ∈ cALL := List.mem_of_getElem? (i := 22) rfl
set_option maxRecDepth 100000 in
theorem mfSw_16 : Cond.fieldLink RSw 16 "DesignSpaces$Sweeper" "shape" "LDesignSpaces$Shape;" ∈ cALL := List.mem_of_getElem? (i := 23) rfl
set_option maxRecDepth 100000 in
theorem mfSw_20 : Cond.fieldLink RSw 20 "DesignSpaces$Sweeper" "book" "LDesignSpaces$Book;" ∈ cALL := List.mem_of_getElem? (i := 24) rfl
set_option maxRecDepth 100000 in
theorem mfSw_7 : Cond.fieldLink RSw 7 "DesignSpaces$Sweeper" "next" "I" ∈ cALL := List.mem_of_getElem? (i := 25) rfl
set_option maxRecDepth 100000 in
theorem mfSw_13 : Cond.fieldLink RSw 13 "DesignSpaces$Sweeper" "allowed" "I" ∈ cALL := List.mem_of_getElem? (i := 26) rfl
set_option maxRecDepth 100000 in
theorem miSw_isAtEnd : Cond.instanceMethod ySw_isAtEnd ∈ cALL := List.mem_of_getElem? (i := 31) rfl
set_option maxRecDepth 100000 in
theorem meSw_isAtEnd : Cond.selects RSw ySw_isAtEnd ySw_isAtEnd ∈ cALL := List.mem_of_getElem? (i := 32) rfl
set_option maxRecDepth 100000 in
theorem miSh_hasRoomFor : Cond.instanceMethod ySh_hasRoomFor ∈ cALL := List.mem_of_getElem? (i := 34) rfl
set_option maxRecDepth 100000 in
theorem meSh_hasRoomFor : Cond.selects RSh ySh_hasRoomFor ySh_hasRoomFor ∈ cALL := List.mem_of_getElem? (i := 35) rfl
set_option maxRecDepth 100000 in
theorem miSh_addChoice : Cond.instanceMethod ySh_addChoice ∈ cALL := List.mem_of_getElem? (i := 37) rfl
set_option maxRecDepth 100000 in
theorem meSh_addChoice : Cond.selects RSh ySh_addChoice ySh_addChoice ∈ cALL := List.mem_of_getElem? (i := 38) rfl
set_option maxRecDepth 100000 in
theorem miSw_beginAnew : Cond.instanceMethod ySw_beginAnew ∈ cALL := List.mem_of_getElem? (i := 40) rfl
set_option maxRecDepth 100000 in
theorem meSw_beginAnew : Cond.selects RSw ySw_beginAnew ySw_beginAnew ∈ cALL := List.mem_of_getElem? (i := 41) rfl
set_option maxRecDepth 100000 in
theorem miSh_hasValue : Cond.instanceMethod ySh_hasValue ∈ cALL := List.mem_of_getElem? (i := 43) rfl
set_option maxRecDepth 100000 in
theorem meSh_hasValue : Cond.selects RSh ySh_hasValue ySh_hasValue ∈ cALL := List.mem_of_getElem? (i := 44) rfl
set_option maxRecDepth 100000 in
theorem mlSh_25 : Cond.methodLink RSh 25 ySh_hasChoice ∈ cALL := List.mem_of_getElem? (i := 46) rfl
set_option maxRecDepth 100000 in
theorem miSh_hasChoice : Cond.instanceMethod ySh_hasChoice ∈ cALL := List.mem_of_getElem? (i := 47) rfl
set_option maxRecDepth 100000 in
theorem meSh_hasChoice : Cond.selects RSh ySh_hasChoice ySh_hasChoice ∈ cALL := List.mem_of_getElem? (i := 48) rfl
set_option maxRecDepth 100000 in
theorem miSh_digit : Cond.instanceMethod ySh_digit ∈ cALL := List.mem_of_getElem? (i := 50) rfl
set_option maxRecDepth 100000 in
theorem meSh_digit : Cond.selects RSh ySh_digit ySh_digit ∈ cALL := List.mem_of_getElem? (i := 51) rfl
set_option maxRecDepth 100000 in
theorem miSh_hasDesign : Cond.instanceMethod ySh_hasDesign ∈ cALL := List.mem_of_getElem? (i := 53) rfl
set_option maxRecDepth 100000 in
theorem meSh_hasDesign : Cond.selects RSh ySh_hasDesign ySh_hasDesign ∈ cALL := List.mem_of_getElem? (i := 54) rfl
set_option maxRecDepth 100000 in
theorem miSh_designOf : Cond.instanceMethod ySh_designOf ∈ cALL := List.mem_of_getElem? (i := 56) rfl
set_option maxRecDepth 100000 in
theorem meSh_designOf : Cond.selects RSh ySh_designOf ySh_designOf ∈ cALL := List.mem_of_getElem? (i := 57) rfl
set_option maxRecDepth 100000 in
theorem miSh_neighbours : Cond.instanceMethod ySh_neighbours ∈ cALL := List.mem_of_getElem? (i := 59) rfl
set_option maxRecDepth 100000 in
theorem meSh_neighbours : Cond.selects RSh ySh_neighbours ySh_neighbours ∈ cALL := List.mem_of_getElem? (i := 60) rfl
set_option maxRecDepth 100000 in
theorem miSh_neighbour : Cond.instanceMethod ySh_neighbour ∈ cALL := List.mem_of_getElem? (i := 62) rfl
set_option maxRecDepth 100000 in
theorem meSh_neighbour : Cond.selects RSh ySh_neighbour ySh_neighbour ∈ cALL := List.mem_of_getElem? (i := 63) rfl
set_option maxRecDepth 100000 in
theorem mlSh_29 : Cond.methodLink RSh 29 ySh_digit ∈ cALL := List.mem_of_getElem? (i := 65) rfl
set_option maxRecDepth 100000 in
theorem miSw_goOn : Cond.instanceMethod ySw_goOn ∈ cALL := List.mem_of_getElem? (i := 70) rfl
set_option maxRecDepth 100000 in
theorem meSw_goOn : Cond.selects RSw ySw_goOn ySw_goOn ∈ cALL := List.mem_of_getElem? (i := 71) rfl
set_option maxRecDepth 100000 in
theorem ma_cALL_long : Cond.arrayClass .long ∈ cALL := List.mem_of_getElem? (i := 77) rfl
theorem gV_cALL {cw cw' : Cond} {own C : String} {idx : Nat} {y : MethodName} (h1 : Cond.methodLink own idx y ∈ cALL) (h2 : Cond.instanceMethod y ∈ cALL) (h3 : Cond.selects C y y ∈ cALL) (h4 : Cond.initialized C ∈ cALL) (h5 : cw' ∈ cALL) : GoodIn (cw :: cALL) (wsV own idx C y (cw' :: cALL)) := by
  intro w hw
  have hm : w ∈ cALL := by
    unfold wsV at hw
    simp only [List.cons_append, List.nil_append, List.mem_cons] at hw
    rcases hw with rfl | rfl | rfl | rfl | rfl | hw
    · exact h1
    · exact h2
    · exact h3
    · exact h4
    · exact h5
    · exact hw
  exact ⟨List.mem_cons_of_mem _ hm, cALL_good w hm⟩
theorem gS_cALL {cw cw' : Cond} {own : String} {idx : Nat} {y : MethodName} (h1 : Cond.methodLink own idx y ∈ cALL) (h2 : Cond.static y ∈ cALL) (h4 : Cond.initialized y.cls ∈ cALL) (h5 : cw' ∈ cALL) : GoodIn (cw :: cALL) (va_wsS own idx y (cw' :: cALL)) := by
  intro w hw
  have hm : w ∈ cALL := by
    unfold va_wsS at hw
    simp only [List.cons_append, List.nil_append, List.mem_cons] at hw
    rcases hw with rfl | rfl | rfl | rfl | hw
    · exact h1
    · exact h2
    · exact h4
    · exact h5
    · exact hw
  exact ⟨List.mem_cons_of_mem _ hm, cALL_good w hm⟩
